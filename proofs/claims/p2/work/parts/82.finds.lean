abbrev nX12_finishesPart : List Nat := [a_state, a_cellValue, a_left, a_right, a_number, a_count, a_actOn, a_actPhase, a_actFor, a_give, a_logOf]
abbrev jX12_finishesPart : List Nat := [79, 84, 88, 90]
def TX12_finishesPart : TR := fun as G Qr => ∃ (e c : Int) (Gz : LG) (I : Int) (st : List (Int × Int × Int)), as = [(2, ((1000 : Nat) : Int)), (0, e), (0, c)] ∧ MG G ∧ (IN Gz I (10 * I)) ∧ (UV Gz) ∧ (EX Gz) ∧ (FI Gz) ∧ (Fr nRun jRun Gz G) ∧ (RU G Gz st (po1 Gz e 1) (po1 Gz e 1) 0) ∧ (EVt Gz e 1 c) ∧ ((((gS Gz a_eKind (e).toNat) = 2 ∨ (gS Gz a_eKind (e).toNat) = 3) ∧ 2 ≤ (gS G 1000 88) ∧ GV Gz st ((gS G 1000 88) - 1)) ∨ (¬ ((gS Gz a_eKind (e).toNat) = 2 ∨ (gS Gz a_eKind (e).toNat) = 3) ∧ 1 ≤ (gS G 1000 88) ∧ GV Gz st ((gS G 1000 88)))) ∧ ∀ G' : LG, MG G' → (Fr nX12_finishesPart jX12_finishesPart G G' ∧ (∃ s2 : List (Int × Int × Int), RU G' Gz s2 0 0 0 ∧ GW Gz s2 ((gS G' 1000 88)) ∧ mesL Gz s2 + 26 * s0 G' ((gS Gz 1000 67)) + 1 ≤ mesL Gz st + me1 Gz e 1 + 26 * s0 G ((gS Gz 1000 67)))) → Qr (.inl none) G'
set_option maxHeartbeats 4000000 in
set_option maxRecDepth 100000 in
theorem gX12_finishesPart : Good kX12_finishesPart yX12_finishesPart 1 TX12_finishesPart := by
  refine good_of (by decide) rfl rfl (fun as G Qr h => ?_) (fun X as G Qr hcf hR hT oa => ?_)
  · obtain ⟨e, c, Gz, I, st, rfl, -⟩ := h; exact Nat.le_of_ble_eq_true rfl
  obtain ⟨e, c, Gz, I, st, rfl, hM, hI, hUV, hEX, hFI, hZ, hRU, hev, hG, hQ⟩ := hT
  show WP kX12_finishesPart X 0 [some (2, ((1000 : Nat) : Int)), some (0, e), some (0, c), none, none, none] [] G
  have hr_e : inR e := okv_R (oa _ (by simp))
  have hr_c : inR c := okv_R (oa _ (by simp))
  have hI3 := hI.2.2.1
  have hI1 := hI.1
  have hk1 : (gS G a_eKind (e).toNat) = (gS Gz a_eKind (e).toNat) := hZ.atA (by decide) (by decide)
  have hse : (gS G a_eSecond (e).toNat) = (gS Gz a_eSecond (e).toNat) := hZ.atA (by decide) (by decide)
  have hth : (gS G a_eThird (e).toNat) = (gS Gz a_eThird (e).toNat) := hZ.atA (by decide) (by decide)
  have hxx := hEX.1
  obtain ⟨hq9, he, hcc, hocc⟩ := hev.resolve_left (fun z => absurd z.1 (by decide))
  have hk2 : 2 ≤ (gS Gz a_eKind (e).toNat) := by rcases hq9 with z | z; (exact absurd z (by decide)); (exact z.2)
  clear hq9
  have hkd0 := (hEX.2 e he.1 he.2).1
  have hpo := (hEX.po he.1 he.2 1)
  have hl0 := hRU.len hEX (by omega) (by omega) (by omega)
  have hms := (hRU.1.len hEX _ _ hRU.2.1)
  have hgv := hRU.2.2.2.2.1
  have hva := hRU.2.2.1
  refine s_aload_n dX12_finishesPart_0 rfl (Int.natCast_nonneg _) ?_
  refine gf_eKind rfl dX12_finishesPart_1 hM ?_
  refine s_iload_n dX12_finishesPart_4 rfl ?_
  refine s_iald dX12_finishesPart_5 (mg_a_eKind hM) (by omega) (by omega) rfl ?_
  refine s_istore_n dX12_finishesPart_6 (by decide) (lv' := [some (2, ((1000 : Nat) : Int)), some (0, e), some (0, c), some (0, gS G a_eKind ((e).toNat)), none, none]) rfl ?_
  refine s_iload_n dX12_finishesPart_7 rfl ?_
  refine s_bipush dX12_finishesPart_8 rfl (by decide) ?_
  refine s_icmp_ne (tgt := 87) dX12_finishesPart_10 (by decide) (fun c1 => ?_) (fun c1 => ?_)
  · -- 10 to 87
    refine s_iload_n dX12_finishesPart_87 rfl ?_
    refine s_iconst dX12_finishesPart_88 (by decide) ?_
    refine s_icmp_eq (tgt := 97) dX12_finishesPart_89 (by decide) (fun c2 => ?_) (fun c2 => ?_)
    · -- 89 to 97
      have hG2 := (hG.resolve_left (fun z => by have := z.1; omega)).2
      have hg1 := hG2.1
      have hv1 := hgv ((gS G 1000 88) - 1) (by omega) (by omega)
      have hp6 := (po1.o (Gz := Gz) (e := e)).2 (by omega)
      refine s_aload_n dX12_finishesPart_97 rfl (Int.natCast_nonneg _) ?_
      refine gf_give rfl dX12_finishesPart_98 hM ?_
      refine s_aload_n dX12_finishesPart_101 rfl (Int.natCast_nonneg _) ?_
      refine gf_given rfl dX12_finishesPart_102 hM rfl ?_
      refine s_iconst dX12_finishesPart_105 (by decide) ?_
      refine s_isub dX12_finishesPart_106 (by omega) ?_
      refine s_iald dX12_finishesPart_107 (mg_a_give hM) (by omega) (by omega) rfl ?_
      refine s_istore dX12_finishesPart_108 (by decide) (lv' := [some (2, ((1000 : Nat) : Int)), some (0, e), some (0, c), some (0, gS G a_eKind ((e).toNat)), some (0, gS G a_give (((gS G 1000 88) - 1).toNat)), none]) rfl ?_
      refine s_aload_n dX12_finishesPart_110 rfl (Int.natCast_nonneg _) ?_
      refine s_iload dX12_finishesPart_111 rfl ?_
      refine cv_X12_552 rfl gX12_isPair dX12_finishesPart_113 hM (by rw [hcf]; decide) (as := [(0, gS G a_give (((gS G 1000 88) - 1).toNat))]) rfl (Nat.le_of_ble_eq_true rfl) ⟨gS G a_give (((gS G 1000 88) - 1).toNat), rfl, hM, (by first | assumption | omega), ?_⟩
      show WP kX12_finishesPart X 116 [some (2, ((1000 : Nat) : Int)), some (0, e), some (0, c), some (0, gS G a_eKind ((e).toNat)), some (0, gS G a_give (((gS G 1000 88) - 1).toNat)), none] [(0, b2i (¬ (gS G a_left ((gS G a_give (((gS G 1000 88) - 1).toNat))).toNat) = -1))] G
      refine s_if_eqB (tgt := 155) dX12_finishesPart_116 (by decide) (fun c3 => ?_) (fun c3 => ?_)
      · -- 116 to 155
        refine s_aload_n dX12_finishesPart_155 rfl (Int.natCast_nonneg _) ?_
        refine cv_X12_549 rfl gX12_fails dX12_finishesPart_156 hM (by rw [hcf]; decide) (as := []) rfl (Nat.le_of_ble_eq_true rfl) ⟨Gz, st, rfl, hM, (by exact hEX), (by omega), (by exact hRU.weak (by omega) (by omega) (by omega)), fun G4 hMG4 hpG4 => ?_⟩
        obtain ⟨hfG4, hpG4⟩ := hpG4
        have hFG4 : Fr nX12_finishesPart jX12_finishesPart G G4 := Fr.call Fr.rf hfG4 (by decide) (by decide)
        show WP kX12_finishesPart X 159 [some (2, ((1000 : Nat) : Int)), some (0, e), some (0, c), some (0, gS G a_eKind ((e).toNat)), some (0, gS G a_give (((gS G 1000 88) - 1).toNat)), none] [] G4
        refine s_goto (tgt := 268) dX12_finishesPart_159 (by decide) ?_
        exact s_vret hR dX12_finishesPart_268 rfl (hQ G4 hMG4 (⟨hFG4, ⟨[], hpG4.1, Or.inl rfl, by have z1 := hpG4.2; have z2 : mesL Gz [] = 0 := rfl; omega⟩⟩))
      · -- 116 to 119
        have hvv1 := (hva.2 _ hv1.1 hv1.2).resolve_left (by omega)
        refine s_aload_n dX12_finishesPart_119 rfl (Int.natCast_nonneg _) ?_
        refine gf_give rfl dX12_finishesPart_120 hM ?_
        refine s_aload_n dX12_finishesPart_123 rfl (Int.natCast_nonneg _) ?_
        refine gf_given rfl dX12_finishesPart_124 hM rfl ?_
        refine s_iconst dX12_finishesPart_127 (by decide) ?_
        refine s_isub dX12_finishesPart_128 (by omega) ?_
        refine s_iload_n dX12_finishesPart_129 rfl ?_
        refine s_iconst dX12_finishesPart_130 (by decide) ?_
        have J7 : ∀ z6 : Int, ((¬ (gS G a_eKind ((e).toNat)) = 4) ∧ z6 = gS G a_right ((gS G a_give (((gS G 1000 88) - 1).toNat)).toNat)) ∨ (((gS G a_eKind ((e).toNat)) = 4) ∧ z6 = gS G a_left ((gS G a_give (((gS G 1000 88) - 1).toNat)).toNat)) → WP kX12_finishesPart X 151 [some (2, ((1000 : Nat) : Int)), some (0, e), some (0, c), some (0, gS G a_eKind ((e).toNat)), some (0, gS G a_give (((gS G 1000 88) - 1).toNat)), none] [(0, z6), (0, (gS G 1000 88) - 1), (2, ((a_give : Nat) : Int))] G := by
          intro z6 hz6
          refine r_iast dX12_finishesPart_151 hM (mg_a_give hM) (by decide) (by omega) (by omega) (fun G8 eG8 hMG8 => ?_)
          have hFG8 : Fr nX12_finishesPart jX12_finishesPart G G8 := Fr.setA Fr.rf eG8 (by decide)
          show WP kX12_finishesPart X 152 [some (2, ((1000 : Nat) : Int)), some (0, e), some (0, c), some (0, gS G a_eKind ((e).toNat)), some (0, gS G a_give (((gS G 1000 88) - 1).toNat)), none] [] G8
          refine s_goto (tgt := 159) dX12_finishesPart_152 (by decide) ?_
          refine s_goto (tgt := 268) dX12_finishesPart_159 (by decide) ?_
          exact s_vret hR dX12_finishesPart_268 rfl (hQ G8 hMG8 (⟨hFG8, ⟨st, (hRU.chg (by omega) eG8).weak (by omega) (by omega) (by omega), Or.inr (by rw [gsnE eG8 (by decide)]; exact hG2.2), by rw [s0.cg (G := G) (G' := G8) (n := (gS Gz 1000 67)) (fun j => (Fr.setA (Fr.rf) eG8 (by decide) : Fr [a_give] [] G G8).atA (by decide) (by decide))]; omega⟩⟩))
        refine s_icmp_ne (tgt := 144) dX12_finishesPart_131 (by decide) (fun c9 => ?_) (fun c9 => ?_)
        · -- 131 to 144
          refine s_aload_n dX12_finishesPart_144 rfl (Int.natCast_nonneg _) ?_
          refine gf_right rfl dX12_finishesPart_145 hM ?_
          refine s_iload dX12_finishesPart_148 rfl ?_
          refine s_iald dX12_finishesPart_150 (mg_a_right hM) (by omega) (by omega) rfl ?_
          exact J7 _ (Or.inl ⟨c9, rfl⟩)
        · -- 131 to 134
          refine s_aload_n dX12_finishesPart_134 rfl (Int.natCast_nonneg _) ?_
          refine gf_left rfl dX12_finishesPart_135 hM ?_
          refine s_iload dX12_finishesPart_138 rfl ?_
          refine s_iald dX12_finishesPart_140 (mg_a_left hM) (by omega) (by omega) rfl ?_
          refine s_goto (tgt := 151) dX12_finishesPart_141 (by decide) ?_
          exact J7 _ (Or.inr (⟨c9, rfl⟩))
    · -- 89 to 92
      refine s_iload_n dX12_finishesPart_92 rfl ?_
      refine s_iconst dX12_finishesPart_93 (by decide) ?_
      refine s_icmp_ne (tgt := 162) dX12_finishesPart_94 (by decide) (fun c10 => ?_) (fun c10 => ?_)
      · -- 94 to 162
        refine s_aload_n dX12_finishesPart_162 rfl (Int.natCast_nonneg _) ?_
        refine s_dup dX12_finishesPart_163 (by decide) ?_
        refine gf_given rfl dX12_finishesPart_164 hM rfl ?_
        refine s_iconst dX12_finishesPart_167 (by decide) ?_
        refine s_isub dX12_finishesPart_168 (by omega) ?_
        refine pf_given rfl dX12_finishesPart_169 hM (fun G11 eG11 hMG11 => ?_)
        have hFG11 : Fr nX12_finishesPart jX12_finishesPart G G11 := Fr.setF Fr.rf eG11 (by decide)
        have hk23 : (gS Gz a_eKind (e).toNat) = 2 ∨ (gS Gz a_eKind (e).toNat) = 3 := by omega
        have hG2 := (hG.resolve_right (fun z => z.1 hk23)).2
        have hg1 := hG2.1
        have hu1 := hRU.take (k := 2) rfl (by omega) eG11
        have hv1 := hgv ((gS G 1000 88) - 2) (by omega) (by omega)
        have hv2 := hgv ((gS G 1000 88) - 2 + 1) (by omega) (by omega)
        have hp6 := (po1.o (Gz := Gz) (e := e)).2 (by omega)
        have hl1 := hu1.len hEX (by omega) (by omega) (by omega)
        clear hk23
        have hvz : (gS G11 1000 79) = (gS G 1000 79) := gsjE eG11 (by decide)
        refine s_aload_n dX12_finishesPart_172 rfl (Int.natCast_nonneg _) ?_
        refine gf_give rfl dX12_finishesPart_173 hMG11 ?_
        refine s_aload_n dX12_finishesPart_176 rfl (Int.natCast_nonneg _) ?_
        refine gf_given rfl dX12_finishesPart_177 hMG11 (gsaE eG11) ?_
        refine s_iald dX12_finishesPart_180 (mg_a_give hMG11) (by omega) (by omega) (gsnE eG11 (by decide)) ?_
        refine s_istore dX12_finishesPart_181 (by decide) (lv' := [some (2, ((1000 : Nat) : Int)), some (0, e), some (0, c), some (0, gS G a_eKind ((e).toNat)), some (0, gS G a_give (((gS G 1000 88) - 2).toNat)), none]) rfl ?_
        refine s_aload_n dX12_finishesPart_183 rfl (Int.natCast_nonneg _) ?_
        refine gf_give rfl dX12_finishesPart_184 hMG11 ?_
        refine s_aload_n dX12_finishesPart_187 rfl (Int.natCast_nonneg _) ?_
        refine gf_given rfl dX12_finishesPart_188 hMG11 (gsaE eG11) ?_
        refine s_iconst dX12_finishesPart_191 (by decide) ?_
        refine s_iadd dX12_finishesPart_192 (by omega) ?_
        refine s_iald dX12_finishesPart_193 (mg_a_give hMG11) (by omega) (by omega) (gsnE eG11 (by decide)) ?_
        refine s_istore dX12_finishesPart_194 (by decide) (lv' := [some (2, ((1000 : Nat) : Int)), some (0, e), some (0, c), some (0, gS G a_eKind ((e).toNat)), some (0, gS G a_give (((gS G 1000 88) - 2).toNat)), some (0, gS G a_give ((((gS G 1000 88) - 2) + 1).toNat))]) rfl ?_
        refine s_iload_n dX12_finishesPart_196 rfl ?_
        refine s_iconst dX12_finishesPart_197 (by decide) ?_
        refine s_icmp_ne (tgt := 226) dX12_finishesPart_198 (by decide) (fun c12 => ?_) (fun c12 => ?_)
        · -- 198 to 226
          refine s_aload_n dX12_finishesPart_226 rfl (Int.natCast_nonneg _) ?_
          refine s_iload_n dX12_finishesPart_227 rfl ?_
          refine s_iconst dX12_finishesPart_228 (by decide) ?_
          refine s_icmp_ne (tgt := 244) dX12_finishesPart_229 (by decide) (fun c13 => ?_) (fun c13 => ?_)
          · -- 229 to 244
            refine s_aload_n dX12_finishesPart_244 rfl (Int.natCast_nonneg _) ?_
            refine s_iconst dX12_finishesPart_245 (by decide) ?_
            refine s_iconst dX12_finishesPart_246 (by decide) ?_
            refine s_aload_n dX12_finishesPart_247 rfl (Int.natCast_nonneg _) ?_
            refine gf_number rfl dX12_finishesPart_248 hMG11 ?_
            refine s_iload dX12_finishesPart_251 rfl ?_
            refine s_iald dX12_finishesPart_253 (mg_a_number hMG11) (by omega) (by omega) (gsnE eG11 (by decide)) ?_
            refine s_aload_n dX12_finishesPart_254 rfl (Int.natCast_nonneg _) ?_
            refine gf_number rfl dX12_finishesPart_255 hMG11 ?_
            refine s_iload dX12_finishesPart_258 rfl ?_
            refine s_iald dX12_finishesPart_260 (mg_a_number hMG11) (by omega) (by omega) (gsnE eG11 (by decide)) ?_
            refine s_iaddW dX12_finishesPart_261 (fun w14 hrw14 hew14 => ?_)
            refine cv_X12_540 rfl gX12_value dX12_finishesPart_262 hMG11 (by rw [hcf]; decide) (as := [(0, (-1)), (0, (-1)), (0, w14)]) rfl (Nat.le_of_ble_eq_true rfl) ⟨(-1), (-1), w14, rfl, hMG11, (by first | assumption | omega), (by first | assumption | omega), fun r16 G15 hMG15 hpG15 => ?_⟩
            obtain ⟨hfG15, hpG15⟩ := hpG15
            have hFG15 : Fr nX12_finishesPart jX12_finishesPart G G15 := Fr.call hFG11 hfG15 (by decide) (by decide)
            show WP kX12_finishesPart X 265 [some (2, ((1000 : Nat) : Int)), some (0, e), some (0, c), some (0, gS G a_eKind ((e).toNat)), some (0, gS G a_give (((gS G 1000 88) - 2).toNat)), some (0, gS G a_give ((((gS G 1000 88) - 2) + 1).toNat))] [(0, r16), (2, ((1000 : Nat) : Int))] G15
            have hq1 := hpG15
            have hu2 := hu1.val hfG15 (by decide) (by decide) (by decide) hq1.2.1 (hq1.2.2 hu1.2.2.1)
            have hl2 := hu2.len hEX (by omega) (by omega) (by omega)
            have hgx : (gS G15 1000 88) = (gS G 1000 88) - 2 := (hfG15.atF (by decide) (by decide)).trans (gsaE eG11)
            refine cv_X12_543 rfl gX12_gives dX12_finishesPart_265 hMG15 (by rw [hcf]; decide) (as := [(0, r16)]) rfl (Nat.le_of_ble_eq_true rfl) ⟨r16, rfl, hMG15, (by first | assumption | omega), fun G17 hMG17 hpG17 => ?_⟩
            obtain ⟨G19, eG19, eG17, hpG17⟩ := hpG17
            have hFG19 : Fr nX12_finishesPart jX12_finishesPart G G19 := Fr.setA hFG15 eG19 (by decide)
            have hFG17 : Fr nX12_finishesPart jX12_finishesPart G G17 := Fr.setF hFG19 eG17 (by decide)
            show WP kX12_finishesPart X 268 [some (2, ((1000 : Nat) : Int)), some (0, e), some (0, c), some (0, gS G a_eKind ((e).toNat)), some (0, gS G a_give (((gS G 1000 88) - 2).toNat)), some (0, gS G a_give ((((gS G 1000 88) - 2) + 1).toNat))] [] G17
            obtain ⟨hu3, hg3⟩ := hu2.give rfl (by omega) eG19 eG17
            exact s_vret hR dX12_finishesPart_268 rfl (hQ G17 hMG17 (⟨hFG17, ⟨st, hu3.weak (by omega) (by omega) (by omega), Or.inr (by rw [hg3, hgx, show (gS G 1000 88) - 2 + 1 = (gS G 1000 88) - 1 by omega]; exact hG2.2), by rw [s0.cg (G := G) (G' := G17) (n := (gS Gz 1000 67)) (fun j => (Fr.setF (Fr.setA (Fr.call (Fr.setF (Fr.rf) eG11 (by decide)) hfG15 (by decide) (by decide)) eG19 (by decide)) eG17 (by decide) : Fr [a_left, a_right, a_number, a_count, a_give] [88, 79] G G17).atA (by decide) (by decide))]; omega⟩⟩))
          · -- 229 to 232
            refine s_aload_n dX12_finishesPart_232 rfl (Int.natCast_nonneg _) ?_
            refine s_iload dX12_finishesPart_233 rfl ?_
            refine s_iload dX12_finishesPart_235 rfl ?_
            refine s_iconst dX12_finishesPart_237 (by decide) ?_
            refine cv_X12_540 rfl gX12_value dX12_finishesPart_238 hMG11 (by rw [hcf]; decide) (as := [(0, gS G a_give (((gS G 1000 88) - 2).toNat)), (0, gS G a_give ((((gS G 1000 88) - 2) + 1).toNat)), (0, 0)]) rfl (Nat.le_of_ble_eq_true rfl) ⟨gS G a_give (((gS G 1000 88) - 2).toNat), gS G a_give ((((gS G 1000 88) - 2) + 1).toNat), 0, rfl, hMG11, (by first | assumption | omega), (by first | assumption | omega), fun r21 G20 hMG20 hpG20 => ?_⟩
            obtain ⟨hfG20, hpG20⟩ := hpG20
            have hFG20 : Fr nX12_finishesPart jX12_finishesPart G G20 := Fr.call hFG11 hfG20 (by decide) (by decide)
            show WP kX12_finishesPart X 241 [some (2, ((1000 : Nat) : Int)), some (0, e), some (0, c), some (0, gS G a_eKind ((e).toNat)), some (0, gS G a_give (((gS G 1000 88) - 2).toNat)), some (0, gS G a_give ((((gS G 1000 88) - 2) + 1).toNat))] [(0, r21), (2, ((1000 : Nat) : Int))] G20
            refine s_goto (tgt := 265) dX12_finishesPart_241 (by decide) ?_
            have hq1 := hpG20
            have hu2 := hu1.val hfG20 (by decide) (by decide) (by decide) hq1.2.1 (hq1.2.2 hu1.2.2.1)
            have hl2 := hu2.len hEX (by omega) (by omega) (by omega)
            have hgx : (gS G20 1000 88) = (gS G 1000 88) - 2 := (hfG20.atF (by decide) (by decide)).trans (gsaE eG11)
            refine cv_X12_543 rfl gX12_gives dX12_finishesPart_265 hMG20 (by rw [hcf]; decide) (as := [(0, r21)]) rfl (Nat.le_of_ble_eq_true rfl) ⟨r21, rfl, hMG20, (by first | assumption | omega), fun G22 hMG22 hpG22 => ?_⟩
            obtain ⟨G24, eG24, eG22, hpG22⟩ := hpG22
            have hFG24 : Fr nX12_finishesPart jX12_finishesPart G G24 := Fr.setA hFG20 eG24 (by decide)
            have hFG22 : Fr nX12_finishesPart jX12_finishesPart G G22 := Fr.setF hFG24 eG22 (by decide)
            show WP kX12_finishesPart X 268 [some (2, ((1000 : Nat) : Int)), some (0, e), some (0, c), some (0, gS G a_eKind ((e).toNat)), some (0, gS G a_give (((gS G 1000 88) - 2).toNat)), some (0, gS G a_give ((((gS G 1000 88) - 2) + 1).toNat))] [] G22
            obtain ⟨hu3, hg3⟩ := hu2.give rfl (by omega) eG24 eG22
            exact s_vret hR dX12_finishesPart_268 rfl (hQ G22 hMG22 (⟨hFG22, ⟨st, hu3.weak (by omega) (by omega) (by omega), Or.inr (by rw [hg3, hgx, show (gS G 1000 88) - 2 + 1 = (gS G 1000 88) - 1 by omega]; exact hG2.2), by rw [s0.cg (G := G) (G' := G22) (n := (gS Gz 1000 67)) (fun j => (Fr.setF (Fr.setA (Fr.call (Fr.setF (Fr.rf) eG11 (by decide)) hfG20 (by decide) (by decide)) eG24 (by decide)) eG22 (by decide) : Fr [a_left, a_right, a_number, a_count, a_give] [88, 79] G G22).atA (by decide) (by decide))]; omega⟩⟩))
        · -- 198 to 201
          refine s_aload_n dX12_finishesPart_201 rfl (Int.natCast_nonneg _) ?_
          refine s_iload dX12_finishesPart_202 rfl ?_
          refine cv_X12_552 rfl gX12_isPair dX12_finishesPart_204 hMG11 (by rw [hcf]; decide) (as := [(0, gS G a_give (((gS G 1000 88) - 2).toNat))]) rfl (Nat.le_of_ble_eq_true rfl) ⟨gS G a_give (((gS G 1000 88) - 2).toNat), rfl, hMG11, (by first | assumption | omega), ?_⟩
          show WP kX12_finishesPart X 207 [some (2, ((1000 : Nat) : Int)), some (0, e), some (0, c), some (0, gS G a_eKind ((e).toNat)), some (0, gS G a_give (((gS G 1000 88) - 2).toNat)), some (0, gS G a_give ((((gS G 1000 88) - 2) + 1).toNat))] [(0, b2i (¬ (gS G11 a_left ((gS G a_give (((gS G 1000 88) - 2).toNat))).toNat) = -1))] G11
          refine s_if_neB (tgt := 219) dX12_finishesPart_207 (by decide) (fun c25 => ?_) (fun c25 => ?_)
          · -- 207 to 219
            refine s_aload_n dX12_finishesPart_219 rfl (Int.natCast_nonneg _) ?_
            refine cv_X12_549 rfl gX12_fails dX12_finishesPart_220 hMG11 (by rw [hcf]; decide) (as := []) rfl (Nat.le_of_ble_eq_true rfl) ⟨Gz, st, rfl, hMG11, (by exact hEX), (by omega), (by exact hu1.weak (by omega) (by omega) (by omega)), fun G26 hMG26 hpG26 => ?_⟩
            obtain ⟨hfG26, hpG26⟩ := hpG26
            have hFG26 : Fr nX12_finishesPart jX12_finishesPart G G26 := Fr.call hFG11 hfG26 (by decide) (by decide)
            show WP kX12_finishesPart X 223 [some (2, ((1000 : Nat) : Int)), some (0, e), some (0, c), some (0, gS G a_eKind ((e).toNat)), some (0, gS G a_give (((gS G 1000 88) - 2).toNat)), some (0, gS G a_give ((((gS G 1000 88) - 2) + 1).toNat))] [] G26
            refine s_goto (tgt := 268) dX12_finishesPart_223 (by decide) ?_
            exact s_vret hR dX12_finishesPart_268 rfl (hQ G26 hMG26 (⟨hFG26, ⟨[], hpG26.1, Or.inl rfl, by have z1 := hpG26.2; rw [s0.cg (G := G) (G' := G11) (n := (gS Gz 1000 67)) (fun j => (Fr.setF (Fr.rf) eG11 (by decide) : Fr [] [88] G G11).atA (by decide) (by decide))] at z1; have z2 : mesL Gz [] = 0 := rfl; omega⟩⟩))
          · -- 207 to 210
            refine s_aload_n dX12_finishesPart_210 rfl (Int.natCast_nonneg _) ?_
            refine s_iload dX12_finishesPart_211 rfl ?_
            refine cv_X12_552 rfl gX12_isPair dX12_finishesPart_213 hMG11 (by rw [hcf]; decide) (as := [(0, gS G a_give ((((gS G 1000 88) - 2) + 1).toNat))]) rfl (Nat.le_of_ble_eq_true rfl) ⟨gS G a_give ((((gS G 1000 88) - 2) + 1).toNat), rfl, hMG11, (by first | assumption | omega), ?_⟩
            show WP kX12_finishesPart X 216 [some (2, ((1000 : Nat) : Int)), some (0, e), some (0, c), some (0, gS G a_eKind ((e).toNat)), some (0, gS G a_give (((gS G 1000 88) - 2).toNat)), some (0, gS G a_give ((((gS G 1000 88) - 2) + 1).toNat))] [(0, b2i (¬ (gS G11 a_left ((gS G a_give ((((gS G 1000 88) - 2) + 1).toNat))).toNat) = -1))] G11
            refine s_if_eqB (tgt := 226) dX12_finishesPart_216 (by decide) (fun c28 => ?_) (fun c28 => ?_)
            · -- 216 to 226
              refine s_aload_n dX12_finishesPart_226 rfl (Int.natCast_nonneg _) ?_
              refine s_iload_n dX12_finishesPart_227 rfl ?_
              refine s_iconst dX12_finishesPart_228 (by decide) ?_
              refine s_icmp_ne (tgt := 244) dX12_finishesPart_229 (by decide) (fun c29 => ?_) (fun c29 => ?_)
              · -- 229 to 244
                refine s_aload_n dX12_finishesPart_244 rfl (Int.natCast_nonneg _) ?_
                refine s_iconst dX12_finishesPart_245 (by decide) ?_
                refine s_iconst dX12_finishesPart_246 (by decide) ?_
                refine s_aload_n dX12_finishesPart_247 rfl (Int.natCast_nonneg _) ?_
                refine gf_number rfl dX12_finishesPart_248 hMG11 ?_
                refine s_iload dX12_finishesPart_251 rfl ?_
                refine s_iald dX12_finishesPart_253 (mg_a_number hMG11) (by omega) (by omega) (gsnE eG11 (by decide)) ?_
                refine s_aload_n dX12_finishesPart_254 rfl (Int.natCast_nonneg _) ?_
                refine gf_number rfl dX12_finishesPart_255 hMG11 ?_
                refine s_iload dX12_finishesPart_258 rfl ?_
                refine s_iald dX12_finishesPart_260 (mg_a_number hMG11) (by omega) (by omega) (gsnE eG11 (by decide)) ?_
                refine s_iaddW dX12_finishesPart_261 (fun w30 hrw30 hew30 => ?_)
                refine cv_X12_540 rfl gX12_value dX12_finishesPart_262 hMG11 (by rw [hcf]; decide) (as := [(0, (-1)), (0, (-1)), (0, w30)]) rfl (Nat.le_of_ble_eq_true rfl) ⟨(-1), (-1), w30, rfl, hMG11, (by first | assumption | omega), (by first | assumption | omega), fun r32 G31 hMG31 hpG31 => ?_⟩
                obtain ⟨hfG31, hpG31⟩ := hpG31
                have hFG31 : Fr nX12_finishesPart jX12_finishesPart G G31 := Fr.call hFG11 hfG31 (by decide) (by decide)
                show WP kX12_finishesPart X 265 [some (2, ((1000 : Nat) : Int)), some (0, e), some (0, c), some (0, gS G a_eKind ((e).toNat)), some (0, gS G a_give (((gS G 1000 88) - 2).toNat)), some (0, gS G a_give ((((gS G 1000 88) - 2) + 1).toNat))] [(0, r32), (2, ((1000 : Nat) : Int))] G31
                have hq1 := hpG31
                have hu2 := hu1.val hfG31 (by decide) (by decide) (by decide) hq1.2.1 (hq1.2.2 hu1.2.2.1)
                have hl2 := hu2.len hEX (by omega) (by omega) (by omega)
                have hgx : (gS G31 1000 88) = (gS G 1000 88) - 2 := (hfG31.atF (by decide) (by decide)).trans (gsaE eG11)
                refine cv_X12_543 rfl gX12_gives dX12_finishesPart_265 hMG31 (by rw [hcf]; decide) (as := [(0, r32)]) rfl (Nat.le_of_ble_eq_true rfl) ⟨r32, rfl, hMG31, (by first | assumption | omega), fun G33 hMG33 hpG33 => ?_⟩
                obtain ⟨G35, eG35, eG33, hpG33⟩ := hpG33
                have hFG35 : Fr nX12_finishesPart jX12_finishesPart G G35 := Fr.setA hFG31 eG35 (by decide)
                have hFG33 : Fr nX12_finishesPart jX12_finishesPart G G33 := Fr.setF hFG35 eG33 (by decide)
                show WP kX12_finishesPart X 268 [some (2, ((1000 : Nat) : Int)), some (0, e), some (0, c), some (0, gS G a_eKind ((e).toNat)), some (0, gS G a_give (((gS G 1000 88) - 2).toNat)), some (0, gS G a_give ((((gS G 1000 88) - 2) + 1).toNat))] [] G33
                obtain ⟨hu3, hg3⟩ := hu2.give rfl (by omega) eG35 eG33
                exact s_vret hR dX12_finishesPart_268 rfl (hQ G33 hMG33 (⟨hFG33, ⟨st, hu3.weak (by omega) (by omega) (by omega), Or.inr (by rw [hg3, hgx, show (gS G 1000 88) - 2 + 1 = (gS G 1000 88) - 1 by omega]; exact hG2.2), by rw [s0.cg (G := G) (G' := G33) (n := (gS Gz 1000 67)) (fun j => (Fr.setF (Fr.setA (Fr.call (Fr.setF (Fr.rf) eG11 (by decide)) hfG31 (by decide) (by decide)) eG35 (by decide)) eG33 (by decide) : Fr [a_left, a_right, a_number, a_count, a_give] [88, 79] G G33).atA (by decide) (by decide))]; omega⟩⟩))
              · -- 229 to 232
                refine s_aload_n dX12_finishesPart_232 rfl (Int.natCast_nonneg _) ?_
                refine s_iload dX12_finishesPart_233 rfl ?_
                refine s_iload dX12_finishesPart_235 rfl ?_
                refine s_iconst dX12_finishesPart_237 (by decide) ?_
                refine cv_X12_540 rfl gX12_value dX12_finishesPart_238 hMG11 (by rw [hcf]; decide) (as := [(0, gS G a_give (((gS G 1000 88) - 2).toNat)), (0, gS G a_give ((((gS G 1000 88) - 2) + 1).toNat)), (0, 0)]) rfl (Nat.le_of_ble_eq_true rfl) ⟨gS G a_give (((gS G 1000 88) - 2).toNat), gS G a_give ((((gS G 1000 88) - 2) + 1).toNat), 0, rfl, hMG11, (by first | assumption | omega), (by first | assumption | omega), fun r37 G36 hMG36 hpG36 => ?_⟩
                obtain ⟨hfG36, hpG36⟩ := hpG36
                have hFG36 : Fr nX12_finishesPart jX12_finishesPart G G36 := Fr.call hFG11 hfG36 (by decide) (by decide)
                show WP kX12_finishesPart X 241 [some (2, ((1000 : Nat) : Int)), some (0, e), some (0, c), some (0, gS G a_eKind ((e).toNat)), some (0, gS G a_give (((gS G 1000 88) - 2).toNat)), some (0, gS G a_give ((((gS G 1000 88) - 2) + 1).toNat))] [(0, r37), (2, ((1000 : Nat) : Int))] G36
                refine s_goto (tgt := 265) dX12_finishesPart_241 (by decide) ?_
                have hq1 := hpG36
                have hu2 := hu1.val hfG36 (by decide) (by decide) (by decide) hq1.2.1 (hq1.2.2 hu1.2.2.1)
                have hl2 := hu2.len hEX (by omega) (by omega) (by omega)
                have hgx : (gS G36 1000 88) = (gS G 1000 88) - 2 := (hfG36.atF (by decide) (by decide)).trans (gsaE eG11)
                refine cv_X12_543 rfl gX12_gives dX12_finishesPart_265 hMG36 (by rw [hcf]; decide) (as := [(0, r37)]) rfl (Nat.le_of_ble_eq_true rfl) ⟨r37, rfl, hMG36, (by first | assumption | omega), fun G38 hMG38 hpG38 => ?_⟩
                obtain ⟨G40, eG40, eG38, hpG38⟩ := hpG38
                have hFG40 : Fr nX12_finishesPart jX12_finishesPart G G40 := Fr.setA hFG36 eG40 (by decide)
                have hFG38 : Fr nX12_finishesPart jX12_finishesPart G G38 := Fr.setF hFG40 eG38 (by decide)
                show WP kX12_finishesPart X 268 [some (2, ((1000 : Nat) : Int)), some (0, e), some (0, c), some (0, gS G a_eKind ((e).toNat)), some (0, gS G a_give (((gS G 1000 88) - 2).toNat)), some (0, gS G a_give ((((gS G 1000 88) - 2) + 1).toNat))] [] G38
                obtain ⟨hu3, hg3⟩ := hu2.give rfl (by omega) eG40 eG38
                exact s_vret hR dX12_finishesPart_268 rfl (hQ G38 hMG38 (⟨hFG38, ⟨st, hu3.weak (by omega) (by omega) (by omega), Or.inr (by rw [hg3, hgx, show (gS G 1000 88) - 2 + 1 = (gS G 1000 88) - 1 by omega]; exact hG2.2), by rw [s0.cg (G := G) (G' := G38) (n := (gS Gz 1000 67)) (fun j => (Fr.setF (Fr.setA (Fr.call (Fr.setF (Fr.rf) eG11 (by decide)) hfG36 (by decide) (by decide)) eG40 (by decide)) eG38 (by decide) : Fr [a_left, a_right, a_number, a_count, a_give] [88, 79] G G38).atA (by decide) (by decide))]; omega⟩⟩))
            · -- 216 to 219
              refine s_aload_n dX12_finishesPart_219 rfl (Int.natCast_nonneg _) ?_
              refine cv_X12_549 rfl gX12_fails dX12_finishesPart_220 hMG11 (by rw [hcf]; decide) (as := []) rfl (Nat.le_of_ble_eq_true rfl) ⟨Gz, st, rfl, hMG11, (by exact hEX), (by omega), (by exact hu1.weak (by omega) (by omega) (by omega)), fun G41 hMG41 hpG41 => ?_⟩
              obtain ⟨hfG41, hpG41⟩ := hpG41
              have hFG41 : Fr nX12_finishesPart jX12_finishesPart G G41 := Fr.call hFG11 hfG41 (by decide) (by decide)
              show WP kX12_finishesPart X 223 [some (2, ((1000 : Nat) : Int)), some (0, e), some (0, c), some (0, gS G a_eKind ((e).toNat)), some (0, gS G a_give (((gS G 1000 88) - 2).toNat)), some (0, gS G a_give ((((gS G 1000 88) - 2) + 1).toNat))] [] G41
              refine s_goto (tgt := 268) dX12_finishesPart_223 (by decide) ?_
              exact s_vret hR dX12_finishesPart_268 rfl (hQ G41 hMG41 (⟨hFG41, ⟨[], hpG41.1, Or.inl rfl, by have z1 := hpG41.2; rw [s0.cg (G := G) (G' := G11) (n := (gS Gz 1000 67)) (fun j => (Fr.setF (Fr.rf) eG11 (by decide) : Fr [] [88] G G11).atA (by decide) (by decide))] at z1; have z2 : mesL Gz [] = 0 := rfl; omega⟩⟩))
      · -- 94 to 97
        have hG2 := (hG.resolve_left (fun z => by have := z.1; omega)).2
        have hg1 := hG2.1
        have hv1 := hgv ((gS G 1000 88) - 1) (by omega) (by omega)
        have hp6 := (po1.o (Gz := Gz) (e := e)).2 (by omega)
        refine s_aload_n dX12_finishesPart_97 rfl (Int.natCast_nonneg _) ?_
        refine gf_give rfl dX12_finishesPart_98 hM ?_
        refine s_aload_n dX12_finishesPart_101 rfl (Int.natCast_nonneg _) ?_
        refine gf_given rfl dX12_finishesPart_102 hM rfl ?_
        refine s_iconst dX12_finishesPart_105 (by decide) ?_
        refine s_isub dX12_finishesPart_106 (by omega) ?_
        refine s_iald dX12_finishesPart_107 (mg_a_give hM) (by omega) (by omega) rfl ?_
        refine s_istore dX12_finishesPart_108 (by decide) (lv' := [some (2, ((1000 : Nat) : Int)), some (0, e), some (0, c), some (0, gS G a_eKind ((e).toNat)), some (0, gS G a_give (((gS G 1000 88) - 1).toNat)), none]) rfl ?_
        refine s_aload_n dX12_finishesPart_110 rfl (Int.natCast_nonneg _) ?_
        refine s_iload dX12_finishesPart_111 rfl ?_
        refine cv_X12_552 rfl gX12_isPair dX12_finishesPart_113 hM (by rw [hcf]; decide) (as := [(0, gS G a_give (((gS G 1000 88) - 1).toNat))]) rfl (Nat.le_of_ble_eq_true rfl) ⟨gS G a_give (((gS G 1000 88) - 1).toNat), rfl, hM, (by first | assumption | omega), ?_⟩
        show WP kX12_finishesPart X 116 [some (2, ((1000 : Nat) : Int)), some (0, e), some (0, c), some (0, gS G a_eKind ((e).toNat)), some (0, gS G a_give (((gS G 1000 88) - 1).toNat)), none] [(0, b2i (¬ (gS G a_left ((gS G a_give (((gS G 1000 88) - 1).toNat))).toNat) = -1))] G
        refine s_if_eqB (tgt := 155) dX12_finishesPart_116 (by decide) (fun c43 => ?_) (fun c43 => ?_)
        · -- 116 to 155
          refine s_aload_n dX12_finishesPart_155 rfl (Int.natCast_nonneg _) ?_
          refine cv_X12_549 rfl gX12_fails dX12_finishesPart_156 hM (by rw [hcf]; decide) (as := []) rfl (Nat.le_of_ble_eq_true rfl) ⟨Gz, st, rfl, hM, (by exact hEX), (by omega), (by exact hRU.weak (by omega) (by omega) (by omega)), fun G44 hMG44 hpG44 => ?_⟩
          obtain ⟨hfG44, hpG44⟩ := hpG44
          have hFG44 : Fr nX12_finishesPart jX12_finishesPart G G44 := Fr.call Fr.rf hfG44 (by decide) (by decide)
          show WP kX12_finishesPart X 159 [some (2, ((1000 : Nat) : Int)), some (0, e), some (0, c), some (0, gS G a_eKind ((e).toNat)), some (0, gS G a_give (((gS G 1000 88) - 1).toNat)), none] [] G44
          refine s_goto (tgt := 268) dX12_finishesPart_159 (by decide) ?_
          exact s_vret hR dX12_finishesPart_268 rfl (hQ G44 hMG44 (⟨hFG44, ⟨[], hpG44.1, Or.inl rfl, by have z1 := hpG44.2; have z2 : mesL Gz [] = 0 := rfl; omega⟩⟩))
        · -- 116 to 119
          have hvv1 := (hva.2 _ hv1.1 hv1.2).resolve_left (by omega)
          refine s_aload_n dX12_finishesPart_119 rfl (Int.natCast_nonneg _) ?_
          refine gf_give rfl dX12_finishesPart_120 hM ?_
          refine s_aload_n dX12_finishesPart_123 rfl (Int.natCast_nonneg _) ?_
          refine gf_given rfl dX12_finishesPart_124 hM rfl ?_
          refine s_iconst dX12_finishesPart_127 (by decide) ?_
          refine s_isub dX12_finishesPart_128 (by omega) ?_
          refine s_iload_n dX12_finishesPart_129 rfl ?_
          refine s_iconst dX12_finishesPart_130 (by decide) ?_
          have J47 : ∀ z46 : Int, ((¬ (gS G a_eKind ((e).toNat)) = 4) ∧ z46 = gS G a_right ((gS G a_give (((gS G 1000 88) - 1).toNat)).toNat)) ∨ (((gS G a_eKind ((e).toNat)) = 4) ∧ z46 = gS G a_left ((gS G a_give (((gS G 1000 88) - 1).toNat)).toNat)) → WP kX12_finishesPart X 151 [some (2, ((1000 : Nat) : Int)), some (0, e), some (0, c), some (0, gS G a_eKind ((e).toNat)), some (0, gS G a_give (((gS G 1000 88) - 1).toNat)), none] [(0, z46), (0, (gS G 1000 88) - 1), (2, ((a_give : Nat) : Int))] G := by
            intro z46 hz46
            refine r_iast dX12_finishesPart_151 hM (mg_a_give hM) (by decide) (by omega) (by omega) (fun G48 eG48 hMG48 => ?_)
            have hFG48 : Fr nX12_finishesPart jX12_finishesPart G G48 := Fr.setA Fr.rf eG48 (by decide)
            show WP kX12_finishesPart X 152 [some (2, ((1000 : Nat) : Int)), some (0, e), some (0, c), some (0, gS G a_eKind ((e).toNat)), some (0, gS G a_give (((gS G 1000 88) - 1).toNat)), none] [] G48
            refine s_goto (tgt := 159) dX12_finishesPart_152 (by decide) ?_
            refine s_goto (tgt := 268) dX12_finishesPart_159 (by decide) ?_
            exact s_vret hR dX12_finishesPart_268 rfl (hQ G48 hMG48 (⟨hFG48, ⟨st, (hRU.chg (by omega) eG48).weak (by omega) (by omega) (by omega), Or.inr (by rw [gsnE eG48 (by decide)]; exact hG2.2), by rw [s0.cg (G := G) (G' := G48) (n := (gS Gz 1000 67)) (fun j => (Fr.setA (Fr.rf) eG48 (by decide) : Fr [a_give] [] G G48).atA (by decide) (by decide))]; omega⟩⟩))
          refine s_icmp_ne (tgt := 144) dX12_finishesPart_131 (by decide) (fun c49 => ?_) (fun c49 => ?_)
          · -- 131 to 144
            refine s_aload_n dX12_finishesPart_144 rfl (Int.natCast_nonneg _) ?_
            refine gf_right rfl dX12_finishesPart_145 hM ?_
            refine s_iload dX12_finishesPart_148 rfl ?_
            refine s_iald dX12_finishesPart_150 (mg_a_right hM) (by omega) (by omega) rfl ?_
            exact J47 _ (Or.inl ⟨c49, rfl⟩)
          · -- 131 to 134
            refine s_aload_n dX12_finishesPart_134 rfl (Int.natCast_nonneg _) ?_
            refine gf_left rfl dX12_finishesPart_135 hM ?_
            refine s_iload dX12_finishesPart_138 rfl ?_
            refine s_iald dX12_finishesPart_140 (mg_a_left hM) (by omega) (by omega) rfl ?_
            refine s_goto (tgt := 151) dX12_finishesPart_141 (by decide) ?_
            exact J47 _ (Or.inr (⟨c49, rfl⟩))
  · -- 10 to 13
    refine s_aload_n dX12_finishesPart_13 rfl (Int.natCast_nonneg _) ?_
    refine s_dup dX12_finishesPart_14 (by decide) ?_
    refine gf_given rfl dX12_finishesPart_15 hM rfl ?_
    refine s_iconst dX12_finishesPart_18 (by decide) ?_
    refine s_isub dX12_finishesPart_19 (by omega) ?_
    refine pf_given rfl dX12_finishesPart_20 hM (fun G50 eG50 hMG50 => ?_)
    have hFG50 : Fr nX12_finishesPart jX12_finishesPart G G50 := Fr.setF Fr.rf eG50 (by decide)
    have hG2 := (hG.resolve_left (fun z => by have := z.1; omega)).2
    have hg1 := hG2.1
    have hu1 := hRU.take (k := 1) rfl (by omega) eG50
    have hv1 := hgv ((gS G 1000 88) - 1) (by omega) (by omega)
    have hp6 := (po1.o (Gz := Gz) (e := e)).1 (by omega)
    have hmk := (eMany.k (G := Gz) (x := e)).2.2.1 (by omega)
    have p1 := hEX.part (k := 1) he.1 he.2 (by omega) (by omega)
    have p2 := hEX.part (k := 2) he.1 he.2 (by omega) (by omega)
    rw [show ePart Gz e 1 = (gS Gz a_eSecond (e).toNat) from rfl] at p1
    rw [show ePart Gz e 2 = (gS Gz a_eThird (e).toNat) from rfl] at p2
    have hw1 := hEX.w p1.1 (by omega)
    have hw2 := hEX.w p2.1 (by omega)
    have hl1 := hu1.len hEX (by omega) (by omega) (by omega)
    refine s_aload_n dX12_finishesPart_23 rfl (Int.natCast_nonneg _) ?_
    refine s_aload_n dX12_finishesPart_24 rfl (Int.natCast_nonneg _) ?_
    refine gf_give rfl dX12_finishesPart_25 hMG50 ?_
    refine s_aload_n dX12_finishesPart_28 rfl (Int.natCast_nonneg _) ?_
    refine gf_given rfl dX12_finishesPart_29 hMG50 (gsaE eG50) ?_
    refine s_iald dX12_finishesPart_32 (mg_a_give hMG50) (by omega) (by omega) (gsnE eG50 (by decide)) ?_
    refine cv_X12_552 rfl gX12_isPair dX12_finishesPart_33 hMG50 (by rw [hcf]; decide) (as := [(0, gS G a_give (((gS G 1000 88) - 1).toNat))]) rfl (Nat.le_of_ble_eq_true rfl) ⟨gS G a_give (((gS G 1000 88) - 1).toNat), rfl, hMG50, (by first | assumption | omega), ?_⟩
    show WP kX12_finishesPart X 36 [some (2, ((1000 : Nat) : Int)), some (0, e), some (0, c), some (0, gS G a_eKind ((e).toNat)), none, none] [(0, b2i (¬ (gS G50 a_left ((gS G a_give (((gS G 1000 88) - 1).toNat))).toNat) = -1))] G50
    refine s_if_eqB (tgt := 46) dX12_finishesPart_36 (by decide) (fun c51 => ?_) (fun c51 => ?_)
    · -- 36 to 46
      refine s_aload_n dX12_finishesPart_46 rfl (Int.natCast_nonneg _) ?_
      refine s_aload_n dX12_finishesPart_47 rfl (Int.natCast_nonneg _) ?_
      refine gf_number rfl dX12_finishesPart_48 hMG50 ?_
      refine s_aload_n dX12_finishesPart_51 rfl (Int.natCast_nonneg _) ?_
      refine gf_give rfl dX12_finishesPart_52 hMG50 ?_
      refine s_aload_n dX12_finishesPart_55 rfl (Int.natCast_nonneg _) ?_
      refine gf_given rfl dX12_finishesPart_56 hMG50 (gsaE eG50) ?_
      refine s_iald dX12_finishesPart_59 (mg_a_give hMG50) (by omega) (by omega) (gsnE eG50 (by decide)) ?_
      refine s_iald dX12_finishesPart_60 (mg_a_number hMG50) (by omega) (by omega) (gsnE eG50 (by decide)) ?_
      have J53 : ∀ z52 : Int, (((gS G a_number ((gS G a_give (((gS G 1000 88) - 1).toNat)).toNat)) = 0) ∧ z52 = gS G a_eThird ((e).toNat)) ∨ ((¬ (gS G a_number ((gS G a_give (((gS G 1000 88) - 1).toNat)).toNat)) = 0) ∧ z52 = gS G a_eSecond ((e).toNat)) → WP kX12_finishesPart X 79 [some (2, ((1000 : Nat) : Int)), some (0, e), some (0, c), some (0, gS G a_eKind ((e).toNat)), none, none] [(0, z52), (2, ((1000 : Nat) : Int))] G50 := by
        intro z52 hz52
        have hzz : EVt Gz z52 0 c ∧ (gS Gz a_eWeight (z52).toNat) ≤ (gS Gz a_eWeight ((gS Gz a_eSecond (e).toNat)).toNat) + (gS Gz a_eWeight ((gS Gz a_eThird (e).toNat)).toNat) := by
          rcases hz52 with ⟨q1, q2⟩ | ⟨q1, q2⟩
          all_goals first | (have q3 : z52 = (gS Gz a_eSecond (e).toNat) := (by omega); rw [q3]; exact ⟨hev.part (Or.inr rfl) hEX (k := 1) (by omega), by omega⟩) | (have q3 : z52 = (gS Gz a_eThird (e).toNat) := (by omega); rw [q3]; exact ⟨hev.part (Or.inr rfl) hEX (k := 2) (by omega), by omega⟩)
        refine s_iconst dX12_finishesPart_79 (by decide) ?_
        refine s_iload_n dX12_finishesPart_80 rfl ?_
        refine cv_X12_536 rfl gX12_act dX12_finishesPart_81 hMG50 (by rw [hcf]; decide) (as := [(0, z52), (0, 0), (0, c)]) rfl (Nat.le_of_ble_eq_true rfl) ⟨z52, 0, c, rfl, hMG50, (by first | assumption | omega), fun G54 hMG54 hpG54 => ?_⟩
        obtain ⟨G56, G57, G58, eG56, eG57, eG58, eG54, hpG54⟩ := hpG54
        have hFG56 : Fr nX12_finishesPart jX12_finishesPart G G56 := Fr.setA hFG50 eG56 (by decide)
        have hFG57 : Fr nX12_finishesPart jX12_finishesPart G G57 := Fr.setA hFG56 eG57 (by decide)
        have hFG58 : Fr nX12_finishesPart jX12_finishesPart G G58 := Fr.setA hFG57 eG58 (by decide)
        have hFG54 : Fr nX12_finishesPart jX12_finishesPart G G54 := Fr.setF hFG58 eG54 (by decide)
        show WP kX12_finishesPart X 84 [some (2, ((1000 : Nat) : Int)), some (0, e), some (0, c), some (0, gS G a_eKind ((e).toNat)), none, none] [] G54
        refine s_goto (tgt := 268) dX12_finishesPart_84 (by decide) ?_
        have hu3 := hu1.push rfl hzz.1 eG56 eG57 eG58 eG54 hEX
        rw [po1.z.1, if_neg (by decide)] at hu3
        exact s_vret hR dX12_finishesPart_268 rfl (hQ G54 hMG54 (⟨hFG54, ⟨(z52, 0, c) :: st, hu3.weak (by omega) (by omega) (by omega), Or.inr (Or.inl ⟨rfl, by rw [show (gS G54 1000 88) = (gS G 1000 88) - 1 by rw [(Eq.trans (gsjE eG54 (by decide)) (Eq.trans (gsnE eG58 (by decide)) (Eq.trans (gsnE eG57 (by decide)) (Eq.trans (gsnE eG56 (by decide)) (gsaE eG50)))))], show (gS G 1000 88) - 1 + 1 = (gS G 1000 88) by omega]; exact hG2.2⟩), by rw [s0.cg (G := G) (G' := G54) (n := (gS Gz 1000 67)) (fun j => (Fr.setF (Fr.setA (Fr.setA (Fr.setA (Fr.setF (Fr.rf) eG50 (by decide)) eG56 (by decide)) eG57 (by decide)) eG58 (by decide)) eG54 (by decide) : Fr [a_actOn, a_actPhase, a_actFor] [88, 84] G G54).atA (by decide) (by decide))]; have z2 : mesL Gz ((z52, 0, c) :: st) = me1 Gz z52 0 + mesL Gz st := rfl; rw [po1.z.2] at z2; omega⟩⟩))
      refine s_if_eq (tgt := 73) dX12_finishesPart_61 (by decide) (fun c59 => ?_) (fun c59 => ?_)
      · -- 61 to 73
        refine s_aload_n dX12_finishesPart_73 rfl (Int.natCast_nonneg _) ?_
        refine gf_eThird rfl dX12_finishesPart_74 hMG50 ?_
        refine s_iload_n dX12_finishesPart_77 rfl ?_
        refine s_iald dX12_finishesPart_78 (mg_a_eThird hMG50) (by omega) (by omega) (gsnE eG50 (by decide)) ?_
        exact J53 _ (Or.inl ⟨c59, rfl⟩)
      · -- 61 to 64
        refine s_aload_n dX12_finishesPart_64 rfl (Int.natCast_nonneg _) ?_
        refine gf_eSecond rfl dX12_finishesPart_65 hMG50 ?_
        refine s_iload_n dX12_finishesPart_68 rfl ?_
        refine s_iald dX12_finishesPart_69 (mg_a_eSecond hMG50) (by omega) (by omega) (gsnE eG50 (by decide)) ?_
        refine s_goto (tgt := 79) dX12_finishesPart_70 (by decide) ?_
        exact J53 _ (Or.inr (⟨c59, rfl⟩))
    · -- 36 to 39
      refine s_aload_n dX12_finishesPart_39 rfl (Int.natCast_nonneg _) ?_
      refine cv_X12_549 rfl gX12_fails dX12_finishesPart_40 hMG50 (by rw [hcf]; decide) (as := []) rfl (Nat.le_of_ble_eq_true rfl) ⟨Gz, st, rfl, hMG50, (by exact hEX), (by omega), (by exact hu1.weak (by omega) (by omega) (by omega)), fun G60 hMG60 hpG60 => ?_⟩
      obtain ⟨hfG60, hpG60⟩ := hpG60
      have hFG60 : Fr nX12_finishesPart jX12_finishesPart G G60 := Fr.call hFG50 hfG60 (by decide) (by decide)
      show WP kX12_finishesPart X 43 [some (2, ((1000 : Nat) : Int)), some (0, e), some (0, c), some (0, gS G a_eKind ((e).toNat)), none, none] [] G60
      refine s_goto (tgt := 268) dX12_finishesPart_43 (by decide) ?_
      exact s_vret hR dX12_finishesPart_268 rfl (hQ G60 hMG60 (⟨hFG60, ⟨[], hpG60.1, Or.inl rfl, by have z1 := hpG60.2; rw [s0.cg (G := G) (G' := G50) (n := (gS Gz 1000 67)) (fun j => (Fr.setF (Fr.rf) eG50 (by decide) : Fr [] [88] G G50).atA (by decide) (by decide))] at z1; have z2 : mesL Gz [] = 0 := rfl; omega⟩⟩))

abbrev nX12_finishesCell : List Nat := [a_state, a_cellValue, a_give, a_logOf]
abbrev jX12_finishesCell : List Nat := [88, 90]
def TX12_finishesCell : TR := fun as G Qr => ∃ (c : Int) (Gz : LG) (I : Int) (st : List (Int × Int × Int)), as = [(2, ((1000 : Nat) : Int)), (0, c)] ∧ MG G ∧ (IN Gz I (10 * I)) ∧ (UV Gz) ∧ (EX Gz) ∧ (FI Gz) ∧ (Fr nRun jRun Gz G) ∧ (RU G Gz st 1 1 1) ∧ (0 ≤ c ∧ c < (gS Gz 1000 67)) ∧ (1 ≤ (gS G 1000 88) ∧ ((st = [] ∧ (gS G 1000 88) = 1) ∨ (¬ st = [] ∧ GV Gz st ((gS G 1000 88))))) ∧ ∀ G' : LG, MG G' → (Fr nX12_finishesCell jX12_finishesCell G G' ∧ (RU G' Gz st 0 0 0 ∧ GW Gz st ((gS G' 1000 88)) ∧ s0 G' ((gS Gz 1000 67)) ≤ s0 G ((gS Gz 1000 67)))) → Qr (.inl none) G'
set_option maxHeartbeats 4000000 in
set_option maxRecDepth 100000 in
theorem gX12_finishesCell : Good kX12_finishesCell yX12_finishesCell 1 TX12_finishesCell := by
  refine good_of (by decide) rfl rfl (fun as G Qr h => ?_) (fun X as G Qr hcf hR hT oa => ?_)
  · obtain ⟨c, Gz, I, st, rfl, -⟩ := h; exact Nat.le_of_ble_eq_true rfl
  obtain ⟨c, Gz, I, st, rfl, hM, hI, hUV, hEX, hFI, hZ, hRU, hc, hG, hQ⟩ := hT
  show WP kX12_finishesCell X 0 [some (2, ((1000 : Nat) : Int)), some (0, c), none] [] G
  have hr_c : inR c := okv_R (oa _ (by simp))
  have hI3 := hI.2.2.1
  have hI1 := hI.1
  have hl0 := hRU.len hEX (by omega) (by omega) (by omega)
  have hgv := hRU.2.2.2.2.1
  have hg1 := hG.1
  refine s_aload_n dX12_finishesCell_0 rfl (Int.natCast_nonneg _) ?_
  refine s_dup dX12_finishesCell_1 (by decide) ?_
  refine gf_given rfl dX12_finishesCell_2 hM rfl ?_
  refine s_iconst dX12_finishesCell_5 (by decide) ?_
  refine s_isub dX12_finishesCell_6 (by omega) ?_
  refine pf_given rfl dX12_finishesCell_7 hM (fun G1 eG1 hMG1 => ?_)
  have hFG1 : Fr nX12_finishesCell jX12_finishesCell G G1 := Fr.setF Fr.rf eG1 (by decide)
  have hu1 := hRU.take (k := 1) rfl (by omega) eG1
  have hv1 := hgv ((gS G 1000 88) - 1) (by omega) (by omega)
  have hl1 := hu1.len hEX (by omega) (by omega) (by omega)
  refine s_aload_n dX12_finishesCell_10 rfl (Int.natCast_nonneg _) ?_
  refine gf_give rfl dX12_finishesCell_11 hMG1 ?_
  refine s_aload_n dX12_finishesCell_14 rfl (Int.natCast_nonneg _) ?_
  refine gf_given rfl dX12_finishesCell_15 hMG1 (gsaE eG1) ?_
  refine s_iald dX12_finishesCell_18 (mg_a_give hMG1) (by omega) (by omega) (gsnE eG1 (by decide)) ?_
  refine s_istore_n dX12_finishesCell_19 (by decide) (lv' := [some (2, ((1000 : Nat) : Int)), some (0, c), some (0, gS G a_give (((gS G 1000 88) - 1).toNat))]) rfl ?_
  refine s_aload_n dX12_finishesCell_20 rfl (Int.natCast_nonneg _) ?_
  refine gf_state rfl dX12_finishesCell_21 hMG1 ?_
  refine s_iload_n dX12_finishesCell_24 rfl ?_
  refine s_iconst dX12_finishesCell_25 (by decide) ?_
  refine r_iast dX12_finishesCell_26 hMG1 (mg_a_state hMG1) (by decide) (by omega) (by omega) (fun G2 eG2 hMG2 => ?_)
  have hFG2 : Fr nX12_finishesCell jX12_finishesCell G G2 := Fr.setA hFG1 eG2 (by decide)
  show WP kX12_finishesCell X 27 [some (2, ((1000 : Nat) : Int)), some (0, c), some (0, gS G a_give (((gS G 1000 88) - 1).toNat))] [] G2
  refine s_aload_n dX12_finishesCell_27 rfl (Int.natCast_nonneg _) ?_
  refine gf_cellValue rfl dX12_finishesCell_28 hMG2 ?_
  refine s_iload_n dX12_finishesCell_31 rfl ?_
  refine s_iload_n dX12_finishesCell_32 rfl ?_
  refine r_iast dX12_finishesCell_33 hMG2 (mg_a_cellValue hMG2) (by decide) (by omega) (by omega) (fun G3 eG3 hMG3 => ?_)
  have hFG3 : Fr nX12_finishesCell jX12_finishesCell G G3 := Fr.setA hFG2 eG3 (by decide)
  show WP kX12_finishesCell X 34 [some (2, ((1000 : Nat) : Int)), some (0, c), some (0, gS G a_give (((gS G 1000 88) - 1).toNat))] [] G3
  have hv9 : (gS G1 1000 79) = (gS G 1000 79) := gsjE eG1 (by decide)
  have hu2 := hu1.yes (v := gS G a_give (((gS G 1000 88) - 1).toNat)) (by omega) (by omega) eG2 eG3
  have hzz : Fr nRun jRun Gz G3 := Fr.call (ns := nRun) (js := jRun) hZ (Fr.setA (Fr.setA (Fr.setF (Fr.rf) eG1 (by decide)) eG2 (by decide)) eG3 (by decide) : Fr [a_state, a_cellValue] [88] G G3) (by decide) (by decide)
  have hce := hI.cell hUV hc.1 hc.2
  have hx1 : (gS G3 a_cellOf (c).toNat) = (gS Gz a_cellOf (c).toNat) := hzz.atA (by decide) (by decide)
  have hx2 : (gS G3 a_versionAt ((gS G3 a_cellOf (c).toNat) / 10).toNat) = (gS Gz a_versionAt ((gS Gz a_cellOf (c).toNat) / 10).toNat) := by rw [hx1]; exact hzz.atA (by decide) (by decide)
  have hcx1 := hce.1
  have hcx2 := hce.2.1
  have hcx3 := hce.2.2
  have hs2 := s0.set (G := G1) (G' := G3) (n := (gS Gz 1000 67)) (v := 2) (by decide) hc.1 (fun j => by rw [gsnE eG3 (by decide), g_upd eG2])
  rw [s0.cg (G := G) (G' := G1) (n := (gS Gz 1000 67)) (fun j => (Fr.setF (Fr.rf) eG1 (by decide) : Fr [] [88] G G1).atA (by decide) (by decide))] at hs2
  have hac2 : (gS G3 1000 84) = (gS G 1000 84) := (Eq.trans (gsnE eG3 (by decide)) (Eq.trans (gsnE eG2 (by decide)) (gsjE eG1 (by decide))))
  have hlg : (gS G 1000 90) = (gS G3 1000 90) := Eq.symm ((Eq.trans (gsnE eG3 (by decide)) (Eq.trans (gsnE eG2 (by decide)) (gsjE eG1 (by decide)))))
  refine s_aload_n dX12_finishesCell_34 rfl (Int.natCast_nonneg _) ?_
  refine s_iload_n dX12_finishesCell_35 rfl ?_
  refine s_iconst dX12_finishesCell_36 (by decide) ?_
  refine cv_X12_521 rfl gX12_isA dX12_finishesCell_37 hMG3 (by rw [hcf]; decide) (as := [(0, c), (0, 2)]) rfl (Nat.le_of_ble_eq_true rfl) ⟨c, 2, rfl, hMG3, (by first | assumption | omega), (by first | assumption | omega), (by first | assumption | omega), ?_⟩
  show WP kX12_finishesCell X 40 [some (2, ((1000 : Nat) : Int)), some (0, c), some (0, gS G a_give (((gS G 1000 88) - 1).toNat))] [(0, b2i (¬ i_and (gS G3 a_valueFlags (10 * (gS G3 a_versionAt ((gS G3 a_cellOf (c).toNat) / 10).toNat) + (gS G3 a_cellOf (c).toNat) % 10).toNat) 2 = 0))] G3
  refine s_if_eqB (tgt := 88) dX12_finishesCell_40 (by decide) (fun c4 => ?_) (fun c4 => ?_)
  · -- 40 to 88
    refine s_aload_n dX12_finishesCell_88 rfl (Int.natCast_nonneg _) ?_
    refine gf_acts rfl dX12_finishesCell_89 hMG3 (Eq.trans (gsnE eG3 (by decide)) (Eq.trans (gsnE eG2 (by decide)) (gsjE eG1 (by decide)))) ?_
    refine s_if_le (tgt := 100) dX12_finishesCell_92 (by decide) (fun c5 => ?_) (fun c5 => ?_)
    · -- 92 to 100
      exact s_vret hR dX12_finishesCell_100 rfl (hQ G3 hMG3 (⟨hFG3, ⟨hu2.weak (by omega) (by omega) (by omega), Or.inl (Classical.byContradiction fun z => by cases st with | nil => (exact z rfl) | cons a s => (obtain ⟨x1, x2, x3⟩ := a; have := hRU.1.1; omega)), hs2⟩⟩))
    · -- 92 to 95
      have hgq : (gS G3 1000 88) = (gS G 1000 88) - 1 := by rw [(Eq.trans (gsnE eG3 (by decide)) (Eq.trans (gsnE eG2 (by decide)) (gsaE eG1)))]
      refine s_aload_n dX12_finishesCell_95 rfl (Int.natCast_nonneg _) ?_
      refine s_iload_n dX12_finishesCell_96 rfl ?_
      refine cv_X12_543 rfl gX12_gives dX12_finishesCell_97 hMG3 (by rw [hcf]; decide) (as := [(0, gS G a_give (((gS G 1000 88) - 1).toNat))]) rfl (Nat.le_of_ble_eq_true rfl) ⟨gS G a_give (((gS G 1000 88) - 1).toNat), rfl, hMG3, (by first | assumption | omega), fun G6 hMG6 hpG6 => ?_⟩
      obtain ⟨G8, eG8, eG6, hpG6⟩ := hpG6
      have hFG8 : Fr nX12_finishesCell jX12_finishesCell G G8 := Fr.setA hFG3 eG8 (by decide)
      have hFG6 : Fr nX12_finishesCell jX12_finishesCell G G6 := Fr.setF hFG8 eG6 (by decide)
      show WP kX12_finishesCell X 100 [some (2, ((1000 : Nat) : Int)), some (0, c), some (0, gS G a_give (((gS G 1000 88) - 1).toNat))] [] G6
      have hgx : (gS G3 1000 88) = (gS G 1000 88) - 1 := by rw [(Eq.trans (gsnE eG3 (by decide)) (Eq.trans (gsnE eG2 (by decide)) (gsaE eG1)))]
      obtain ⟨hu4, hg4⟩ := hu2.give rfl (by rw [(Eq.trans (gsnE eG3 (by decide)) (Eq.trans (gsnE eG2 (by decide)) (gsjE eG1 (by decide))))]; exact hv1) eG8 eG6
      exact s_vret hR dX12_finishesCell_100 rfl (hQ G6 hMG6 (⟨hFG6, ⟨hu4.weak (by omega) (by omega) (by omega), Or.inr (by rw [hg4, hgx, show (gS G 1000 88) - 1 + 1 = (gS G 1000 88) by omega]; exact (hG.2.resolve_left (fun z => (hRU.1.nil.2 (by omega)) z.1)).2), by rw [s0.cg (G := G3) (G' := G6) (n := (gS Gz 1000 67)) (fun j => (Fr.setF (Fr.setA (Fr.rf) eG8 (by decide)) eG6 (by decide) : Fr [a_give] [88] G3 G6).atA (by decide) (by decide))]; exact hs2⟩⟩))
  · -- 40 to 43
    refine s_aload_n dX12_finishesCell_43 rfl (Int.natCast_nonneg _) ?_
    refine gf_logOf rfl dX12_finishesCell_44 hMG3 ?_
    refine s_aload_n dX12_finishesCell_47 rfl (Int.natCast_nonneg _) ?_
    refine gf_logs rfl dX12_finishesCell_48 hMG3 (Eq.trans (gsnE eG3 (by decide)) (Eq.trans (gsnE eG2 (by decide)) (gsjE eG1 (by decide)))) ?_
    refine s_aload_n dX12_finishesCell_51 rfl (Int.natCast_nonneg _) ?_
    refine gf_left rfl dX12_finishesCell_52 hMG3 ?_
    refine s_iload_n dX12_finishesCell_55 rfl ?_
    refine s_iald dX12_finishesCell_56 (mg_a_left hMG3) (by omega) (by omega) (Eq.trans (gsnE eG3 (by decide)) (Eq.trans (gsnE eG2 (by decide)) (gsnE eG1 (by decide)))) ?_
    refine s_iconst dX12_finishesCell_57 (by decide) ?_
    refine s_icmp_ne (tgt := 70) dX12_finishesCell_58 (by decide) (fun c9 => ?_) (fun c9 => ?_)
    · -- 58 to 70
      refine s_aload_n dX12_finishesCell_70 rfl (Int.natCast_nonneg _) ?_
      refine gf_count rfl dX12_finishesCell_71 hMG3 ?_
      refine s_iload_n dX12_finishesCell_74 rfl ?_
      refine s_lald dX12_finishesCell_75 (mg_a_count hMG3) (by omega) (by omega) (Eq.trans (gsnE eG3 (by decide)) (Eq.trans (gsnE eG2 (by decide)) (gsnE eG1 (by decide)))) ?_
      refine s_l2iW dX12_finishesCell_76 (fun w10 hrw10 => ?_)
      refine r_iast dX12_finishesCell_77 hMG3 (mg_a_logOf hMG3) (by decide) (by omega) (by omega) (fun G11 eG11 hMG11 => ?_)
      have hFG11 : Fr nX12_finishesCell jX12_finishesCell G G11 := Fr.setA hFG3 eG11 (by decide)
      show WP kX12_finishesCell X 78 [some (2, ((1000 : Nat) : Int)), some (0, c), some (0, gS G a_give (((gS G 1000 88) - 1).toNat))] [] G11
      refine s_aload_n dX12_finishesCell_78 rfl (Int.natCast_nonneg _) ?_
      refine s_dup dX12_finishesCell_79 (by decide) ?_
      refine gf_logs rfl dX12_finishesCell_80 hMG11 (Eq.trans (gsnE eG11 (by decide)) (Eq.trans (gsnE eG3 (by decide)) (Eq.trans (gsnE eG2 (by decide)) (gsjE eG1 (by decide))))) ?_
      refine s_iconst dX12_finishesCell_83 (by decide) ?_
      refine s_iadd dX12_finishesCell_84 (by omega) ?_
      refine pf_logs rfl dX12_finishesCell_85 hMG11 (fun G12 eG12 hMG12 => ?_)
      have hFG12 : Fr nX12_finishesCell jX12_finishesCell G G12 := Fr.setF hFG11 eG12 (by decide)
      refine s_aload_n dX12_finishesCell_88 rfl (Int.natCast_nonneg _) ?_
      refine gf_acts rfl dX12_finishesCell_89 hMG12 (Eq.trans (gsjE eG12 (by decide)) (Eq.trans (gsnE eG11 (by decide)) (Eq.trans (gsnE eG3 (by decide)) (Eq.trans (gsnE eG2 (by decide)) (gsjE eG1 (by decide)))))) ?_
      refine s_if_le (tgt := 100) dX12_finishesCell_92 (by decide) (fun c13 => ?_) (fun c13 => ?_)
      · -- 92 to 100
        have hu3 := hu2.log hlg eG11 eG12
        exact s_vret hR dX12_finishesCell_100 rfl (hQ G12 hMG12 (⟨hFG12, ⟨hu3.weak (by omega) (by omega) (by omega), Or.inl (Classical.byContradiction fun z => by cases st with | nil => (exact z rfl) | cons a s => (obtain ⟨x1, x2, x3⟩ := a; have := hRU.1.1; omega)), by rw [s0.cg (G := G3) (G' := G12) (n := (gS Gz 1000 67)) (fun j => (Fr.setF (Fr.setA (Fr.rf) eG11 (by decide)) eG12 (by decide) : Fr [a_logOf] [90] G3 G12).atA (by decide) (by decide))]; exact hs2⟩⟩))
      · -- 92 to 95
        have hgq : (gS G12 1000 88) = (gS G 1000 88) - 1 := by rw [(Eq.trans (gsjE eG12 (by decide)) (Eq.trans (gsnE eG11 (by decide)) (Eq.trans (gsnE eG3 (by decide)) (Eq.trans (gsnE eG2 (by decide)) (gsaE eG1)))))]
        refine s_aload_n dX12_finishesCell_95 rfl (Int.natCast_nonneg _) ?_
        refine s_iload_n dX12_finishesCell_96 rfl ?_
        refine cv_X12_543 rfl gX12_gives dX12_finishesCell_97 hMG12 (by rw [hcf]; decide) (as := [(0, gS G a_give (((gS G 1000 88) - 1).toNat))]) rfl (Nat.le_of_ble_eq_true rfl) ⟨gS G a_give (((gS G 1000 88) - 1).toNat), rfl, hMG12, (by first | assumption | omega), fun G14 hMG14 hpG14 => ?_⟩
        obtain ⟨G16, eG16, eG14, hpG14⟩ := hpG14
        have hFG16 : Fr nX12_finishesCell jX12_finishesCell G G16 := Fr.setA hFG12 eG16 (by decide)
        have hFG14 : Fr nX12_finishesCell jX12_finishesCell G G14 := Fr.setF hFG16 eG14 (by decide)
        show WP kX12_finishesCell X 100 [some (2, ((1000 : Nat) : Int)), some (0, c), some (0, gS G a_give (((gS G 1000 88) - 1).toNat))] [] G14
        have hu3 := hu2.log hlg eG11 eG12
        have hgx : (gS G12 1000 88) = (gS G 1000 88) - 1 := by rw [(Eq.trans (gsjE eG12 (by decide)) (Eq.trans (gsnE eG11 (by decide)) (Eq.trans (gsnE eG3 (by decide)) (Eq.trans (gsnE eG2 (by decide)) (gsaE eG1)))))]
        obtain ⟨hu4, hg4⟩ := hu3.give rfl (by rw [(Eq.trans (gsjE eG12 (by decide)) (Eq.trans (gsnE eG11 (by decide)) (Eq.trans (gsnE eG3 (by decide)) (Eq.trans (gsnE eG2 (by decide)) (gsjE eG1 (by decide))))))]; exact hv1) eG16 eG14
        exact s_vret hR dX12_finishesCell_100 rfl (hQ G14 hMG14 (⟨hFG14, ⟨hu4.weak (by omega) (by omega) (by omega), Or.inr (by rw [hg4, hgx, show (gS G 1000 88) - 1 + 1 = (gS G 1000 88) by omega]; exact (hG.2.resolve_left (fun z => (hRU.1.nil.2 (by omega)) z.1)).2), by rw [s0.cg (G := G3) (G' := G14) (n := (gS Gz 1000 67)) (fun j => (Fr.setF (Fr.setA (Fr.setF (Fr.setA (Fr.rf) eG11 (by decide)) eG12 (by decide)) eG16 (by decide)) eG14 (by decide) : Fr [a_logOf, a_give] [90, 88] G3 G14).atA (by decide) (by decide))]; exact hs2⟩⟩))
    · -- 58 to 61
      refine s_aload_n dX12_finishesCell_61 rfl (Int.natCast_nonneg _) ?_
      refine gf_number rfl dX12_finishesCell_62 hMG3 ?_
      refine s_iload_n dX12_finishesCell_65 rfl ?_
      refine s_iald dX12_finishesCell_66 (mg_a_number hMG3) (by omega) (by omega) (Eq.trans (gsnE eG3 (by decide)) (Eq.trans (gsnE eG2 (by decide)) (gsnE eG1 (by decide)))) ?_
      refine s_goto (tgt := 77) dX12_finishesCell_67 (by decide) ?_
      refine r_iast dX12_finishesCell_77 hMG3 (mg_a_logOf hMG3) (by decide) (by omega) (by omega) (fun G17 eG17 hMG17 => ?_)
      have hFG17 : Fr nX12_finishesCell jX12_finishesCell G G17 := Fr.setA hFG3 eG17 (by decide)
      show WP kX12_finishesCell X 78 [some (2, ((1000 : Nat) : Int)), some (0, c), some (0, gS G a_give (((gS G 1000 88) - 1).toNat))] [] G17
      refine s_aload_n dX12_finishesCell_78 rfl (Int.natCast_nonneg _) ?_
      refine s_dup dX12_finishesCell_79 (by decide) ?_
      refine gf_logs rfl dX12_finishesCell_80 hMG17 (Eq.trans (gsnE eG17 (by decide)) (Eq.trans (gsnE eG3 (by decide)) (Eq.trans (gsnE eG2 (by decide)) (gsjE eG1 (by decide))))) ?_
      refine s_iconst dX12_finishesCell_83 (by decide) ?_
      refine s_iadd dX12_finishesCell_84 (by omega) ?_
      refine pf_logs rfl dX12_finishesCell_85 hMG17 (fun G18 eG18 hMG18 => ?_)
      have hFG18 : Fr nX12_finishesCell jX12_finishesCell G G18 := Fr.setF hFG17 eG18 (by decide)
      refine s_aload_n dX12_finishesCell_88 rfl (Int.natCast_nonneg _) ?_
      refine gf_acts rfl dX12_finishesCell_89 hMG18 (Eq.trans (gsjE eG18 (by decide)) (Eq.trans (gsnE eG17 (by decide)) (Eq.trans (gsnE eG3 (by decide)) (Eq.trans (gsnE eG2 (by decide)) (gsjE eG1 (by decide)))))) ?_
      refine s_if_le (tgt := 100) dX12_finishesCell_92 (by decide) (fun c19 => ?_) (fun c19 => ?_)
      · -- 92 to 100
        have hu3 := hu2.log hlg eG17 eG18
        exact s_vret hR dX12_finishesCell_100 rfl (hQ G18 hMG18 (⟨hFG18, ⟨hu3.weak (by omega) (by omega) (by omega), Or.inl (Classical.byContradiction fun z => by cases st with | nil => (exact z rfl) | cons a s => (obtain ⟨x1, x2, x3⟩ := a; have := hRU.1.1; omega)), by rw [s0.cg (G := G3) (G' := G18) (n := (gS Gz 1000 67)) (fun j => (Fr.setF (Fr.setA (Fr.rf) eG17 (by decide)) eG18 (by decide) : Fr [a_logOf] [90] G3 G18).atA (by decide) (by decide))]; exact hs2⟩⟩))
      · -- 92 to 95
        have hgq : (gS G18 1000 88) = (gS G 1000 88) - 1 := by rw [(Eq.trans (gsjE eG18 (by decide)) (Eq.trans (gsnE eG17 (by decide)) (Eq.trans (gsnE eG3 (by decide)) (Eq.trans (gsnE eG2 (by decide)) (gsaE eG1)))))]
        refine s_aload_n dX12_finishesCell_95 rfl (Int.natCast_nonneg _) ?_
        refine s_iload_n dX12_finishesCell_96 rfl ?_
        refine cv_X12_543 rfl gX12_gives dX12_finishesCell_97 hMG18 (by rw [hcf]; decide) (as := [(0, gS G a_give (((gS G 1000 88) - 1).toNat))]) rfl (Nat.le_of_ble_eq_true rfl) ⟨gS G a_give (((gS G 1000 88) - 1).toNat), rfl, hMG18, (by first | assumption | omega), fun G20 hMG20 hpG20 => ?_⟩
        obtain ⟨G22, eG22, eG20, hpG20⟩ := hpG20
        have hFG22 : Fr nX12_finishesCell jX12_finishesCell G G22 := Fr.setA hFG18 eG22 (by decide)
        have hFG20 : Fr nX12_finishesCell jX12_finishesCell G G20 := Fr.setF hFG22 eG20 (by decide)
        show WP kX12_finishesCell X 100 [some (2, ((1000 : Nat) : Int)), some (0, c), some (0, gS G a_give (((gS G 1000 88) - 1).toNat))] [] G20
        have hu3 := hu2.log hlg eG17 eG18
        have hgx : (gS G18 1000 88) = (gS G 1000 88) - 1 := by rw [(Eq.trans (gsjE eG18 (by decide)) (Eq.trans (gsnE eG17 (by decide)) (Eq.trans (gsnE eG3 (by decide)) (Eq.trans (gsnE eG2 (by decide)) (gsaE eG1)))))]
        obtain ⟨hu4, hg4⟩ := hu3.give rfl (by rw [(Eq.trans (gsjE eG18 (by decide)) (Eq.trans (gsnE eG17 (by decide)) (Eq.trans (gsnE eG3 (by decide)) (Eq.trans (gsnE eG2 (by decide)) (gsjE eG1 (by decide))))))]; exact hv1) eG22 eG20
        exact s_vret hR dX12_finishesCell_100 rfl (hQ G20 hMG20 (⟨hFG20, ⟨hu4.weak (by omega) (by omega) (by omega), Or.inr (by rw [hg4, hgx, show (gS G 1000 88) - 1 + 1 = (gS G 1000 88) by omega]; exact (hG.2.resolve_left (fun z => (hRU.1.nil.2 (by omega)) z.1)).2), by rw [s0.cg (G := G3) (G' := G20) (n := (gS Gz 1000 67)) (fun j => (Fr.setF (Fr.setA (Fr.setF (Fr.setA (Fr.rf) eG17 (by decide)) eG18 (by decide)) eG22 (by decide)) eG20 (by decide) : Fr [a_logOf, a_give] [90, 88] G3 G20).atA (by decide) (by decide))]; exact hs2⟩⟩))

abbrev nX12_finds : List Nat := [a_state, a_cellValue, a_left, a_right, a_number, a_count, a_actOn, a_actPhase, a_actFor, a_give, a_logOf]
abbrev jX12_finds : List Nat := [79, 84, 88, 90]
def TX12_finds : TR := fun as G Qr => ∃ (c : Int) (Gz : LG) (I : Int), as = [(2, ((1000 : Nat) : Int)), (0, c)] ∧ MG G ∧ (IN Gz I (10 * I)) ∧ (UV Gz) ∧ (EX Gz) ∧ (FI Gz) ∧ (Fr nRun jRun Gz G) ∧ (RU0 G Gz) ∧ (0 ≤ c ∧ c < (gS Gz 1000 67)) ∧ ((gS G a_state (c).toNat) = 0) ∧ ∀ G' : LG, MG G' → (Fr nX12_finds jX12_finds G G' ∧ (RU0 G' Gz)) → Qr (.inl none) G'
set_option maxHeartbeats 4000000 in
set_option maxRecDepth 100000 in
theorem gX12_finds : Good kX12_finds yX12_finds 3 TX12_finds := by
  refine good_of (by decide) rfl rfl (fun as G Qr h => ?_) (fun X as G Qr hcf hR hT oa => ?_)
  · obtain ⟨c, Gz, I, rfl, -⟩ := h; exact Nat.le_of_ble_eq_true rfl
  obtain ⟨c, Gz, I, rfl, hM, hI, hUV, hEX, hFI, hZ, hR0, hc, h0, hQ⟩ := hT
  show WP kX12_finds X 0 [some (2, ((1000 : Nat) : Int)), some (0, c), none] [] G
  have hr_c : inR c := okv_R (oa _ (by simp))
  have hI3 := hI.2.2.1
  have hI1 := hI.1
  refine s_aload_n dX12_finds_0 rfl (Int.natCast_nonneg _) ?_
  refine s_iconst dX12_finds_1 (by decide) ?_
  refine pf_acts rfl dX12_finds_2 hM (fun G1 eG1 hMG1 => ?_)
  have hFG1 : Fr nX12_finds jX12_finds G G1 := Fr.setF Fr.rf eG1 (by decide)
  refine s_aload_n dX12_finds_5 rfl (Int.natCast_nonneg _) ?_
  refine s_iconst dX12_finds_6 (by decide) ?_
  refine pf_given rfl dX12_finds_7 hMG1 (fun G2 eG2 hMG2 => ?_)
  have hFG2 : Fr nX12_finds jX12_finds G G2 := Fr.setF hFG1 eG2 (by decide)
  have hu0 := hR0.ru (by omega) eG1 eG2
  refine s_aload_n dX12_finds_10 rfl (Int.natCast_nonneg _) ?_
  refine s_iload_n dX12_finds_11 rfl ?_
  refine cv_X12_546 rfl gX12_beginsCell dX12_finds_12 hMG2 (by rw [hcf]; decide) (as := [(0, c)]) rfl (Nat.le_of_ble_eq_true rfl) ⟨c, Gz, I, [], rfl, hMG2, (by exact hI), (by exact hUV), (by exact hEX), (by exact hFI), (by exact Fr.call (ns := nRun) (js := jRun) hZ (Fr.setF (Fr.setF (Fr.rf) eG1 (by decide)) eG2 (by decide) : Fr [] [84, 88] G G2) (by decide) (by decide)), (by exact hu0.1), (by exact hc), (by rw [(Fr.setF (Fr.setF (Fr.rf) eG1 (by decide)) eG2 (by decide) : Fr [] [84, 88] G G2).atA (by decide) (by decide)]; exact h0), fun G3 hMG3 hpG3 => ?_⟩
  obtain ⟨hfG3, hpG3⟩ := hpG3
  have hFG3 : Fr nX12_finds jX12_finds G G3 := Fr.call hFG2 hfG3 (by decide) (by decide)
  show WP kX12_finds X 15 [some (2, ((1000 : Nat) : Int)), some (0, c), none] [] G3
  have L5 : ∀ (n5 : Nat) (st5 : List (Int × Int × Int)) (G5 : LG), MG G5 → Fr nX12_finds jX12_finds G G5 → ((RU G5 Gz st5 0 0 0) ∧ (GW Gz st5 ((gS G5 1000 88))) ∧ (Fr nRun jRun Gz G5)) → (mesL Gz st5 + 26 * s0 G5 ((gS Gz 1000 67))).toNat < n5 → WP kX12_finds X 15 [some (2, ((1000 : Nat) : Int)), some (0, c), none] [] G5 := by
    intro n5
    induction n5 with
    | zero => intro st5 G5 hMG5 hFG5 hi5 hm5; exact absurd hm5 (Nat.not_lt_zero _)
    | succ n5 ih5 =>
      intro st5 G5 hMG5 hFG5 hi5 hm5
      have hj5 := hi5
      obtain ⟨iU5, iG5, iZ5⟩ := hi5
      have il5 := iU5.len hEX (by omega) (by omega) (by omega)
      have im5 := iU5.1.len hEX _ _ iU5.2.1
      have iz5 := s0.nn (G := G5) (n := (gS Gz 1000 67))
      refine s_aload_n dX12_finds_15 rfl (Int.natCast_nonneg _) ?_
      refine gf_acts rfl dX12_finds_16 hMG5 rfl ?_
      refine s_if_le (tgt := 109) dX12_finds_19 (by decide) (fun c6 => ?_) (fun c6 => ?_)
      · -- 19 to 109
        exact s_vret hR dX12_finds_109 rfl (hQ G5 hMG5 (⟨hFG5, RU.ru0 (by cases st5 with | nil => exact iU5 | cons a s => (obtain ⟨e, p, c⟩ := a; have := iU5.1.1; omega))⟩))
      · -- 19 to 22
        obtain ⟨ee5, pp5, cc5, sq5, rfl, ⟨ho5, hp5, hf5⟩, hA5⟩ := iU5.1.pos (by omega)
        have hgg5 := iG5.resolve_left (by intro q; cases q)
        refine s_aload_n dX12_finds_22 rfl (Int.natCast_nonneg _) ?_
        refine s_dup dX12_finds_23 (by decide) ?_
        refine gf_acts rfl dX12_finds_24 hMG5 rfl ?_
        refine s_iconst dX12_finds_27 (by decide) ?_
        refine s_isub dX12_finds_28 (by omega) ?_
        refine pf_acts rfl dX12_finds_29 hMG5 (fun G7 eG7 hMG7 => ?_)
        have hFG7 : Fr nX12_finds jX12_finds G G7 := Fr.setF hFG5 eG7 (by decide)
        have hpu5 := iU5.pop eG7
        have hu5 := hpu5.1
        have hv5 := hpu5.2.1
        have hpo5 := hv5.po hEX
        have hzz5 : Fr nRun jRun Gz G7 := Fr.call (ns := nRun) (js := jRun) iZ5 (Fr.setF (Fr.rf) eG7 (by decide) : Fr [] [84] G5 G7) (by decide) (by decide)
        have hgi5 : (gS G7 1000 88) = (gS G5 1000 88) := gsjE eG7 (by decide)
        have hmm5 : mesL Gz ((ee5, pp5, cc5) :: sq5) = me1 Gz ee5 pp5 + mesL Gz sq5 := rfl
        have hss5 : s0 G7 ((gS Gz 1000 67)) = s0 G5 ((gS Gz 1000 67)) := s0.cg (fun j => gsnE eG7 (by decide))
        refine s_aload_n dX12_finds_32 rfl (Int.natCast_nonneg _) ?_
        refine gf_actOn rfl dX12_finds_33 hMG7 ?_
        refine s_aload_n dX12_finds_36 rfl (Int.natCast_nonneg _) ?_
        refine gf_acts rfl dX12_finds_37 hMG7 (gsaE eG7) ?_
        refine s_iald dX12_finds_40 (mg_a_actOn hMG7) (by omega) (by omega) (gsnE eG7 (by decide)) ?_
        refine s_istore_n dX12_finds_41 (by decide) (lv' := [some (2, ((1000 : Nat) : Int)), some (0, c), some (0, gS G5 a_actOn (((gS G5 1000 84) - 1).toNat))]) rfl ?_
        rw [show gS G5 a_actOn (((gS G5 1000 84) - 1).toNat) = ee5 from ho5]
        refine s_aload_n dX12_finds_42 rfl (Int.natCast_nonneg _) ?_
        refine gf_actPhase rfl dX12_finds_43 hMG7 ?_
        refine s_aload_n dX12_finds_46 rfl (Int.natCast_nonneg _) ?_
        refine gf_acts rfl dX12_finds_47 hMG7 (gsaE eG7) ?_
        refine s_iald dX12_finds_50 (mg_a_actPhase hMG7) (by omega) (by omega) (gsnE eG7 (by decide)) ?_
        refine s_iconst dX12_finds_51 (by decide) ?_
        refine s_icmp_ne (tgt := 63) dX12_finds_52 (by decide) (fun c8 => ?_) (fun c8 => ?_)
        · -- 52 to 63
          refine s_aload_n dX12_finds_63 rfl (Int.natCast_nonneg _) ?_
          refine gf_actPhase rfl dX12_finds_64 hMG7 ?_
          refine s_aload_n dX12_finds_67 rfl (Int.natCast_nonneg _) ?_
          refine gf_acts rfl dX12_finds_68 hMG7 (gsaE eG7) ?_
          refine s_iald dX12_finds_71 (mg_a_actPhase hMG7) (by omega) (by omega) (gsnE eG7 (by decide)) ?_
          refine s_if_ne (tgt := 92) dX12_finds_72 (by decide) (fun c9 => ?_) (fun c9 => ?_)
          · -- 72 to 92
            have hq15 : pp5 = 1 := by rcases hv5 with z | ⟨z | z, -⟩; (have := z.1; omega); (omega); (exact z.1)
            subst hq15
            have hg25 := ((hgg5.resolve_left (fun z => absurd z.1 (by decide))).resolve_right (fun z => absurd z.1 (by decide))).2
            refine s_aload_n dX12_finds_92 rfl (Int.natCast_nonneg _) ?_
            refine s_iload_n dX12_finds_93 rfl ?_
            refine s_aload_n dX12_finds_94 rfl (Int.natCast_nonneg _) ?_
            refine gf_actFor rfl dX12_finds_95 hMG7 ?_
            refine s_aload_n dX12_finds_98 rfl (Int.natCast_nonneg _) ?_
            refine gf_acts rfl dX12_finds_99 hMG7 (gsaE eG7) ?_
            refine s_iald dX12_finds_102 (mg_a_actFor hMG7) (by omega) (by omega) (gsnE eG7 (by decide)) ?_
            rw [show gS G5 a_actFor (((gS G5 1000 84) - 1).toNat) = cc5 from hf5]
            refine cv_X12_564 rfl gX12_finishesPart dX12_finds_103 hMG7 (by rw [hcf]; decide) (as := [(0, ee5), (0, cc5)]) rfl (Nat.le_of_ble_eq_true rfl) ⟨ee5, cc5, Gz, I, sq5, rfl, hMG7, (by exact hI), (by exact hUV), (by exact hEX), (by exact hFI), (by exact hzz5), (by exact hu5.weak (by omega) (by omega) (by rw [if_neg (by decide)]; omega)), (by exact hv5), (by rw [hgi5]; exact hg25), fun G10 hMG10 hpG10 => ?_⟩
            obtain ⟨hfG10, hpG10⟩ := hpG10
            have hFG10 : Fr nX12_finds jX12_finds G G10 := Fr.call hFG7 hfG10 (by decide) (by decide)
            show WP kX12_finds X 106 [some (2, ((1000 : Nat) : Int)), some (0, c), some (0, ee5)] [] G10
            refine s_goto (tgt := 15) dX12_finds_106 (by decide) ?_
            refine s_mask [true, true, false] (lv' := [some (2, ((1000 : Nat) : Int)), some (0, c), none]) rfl ?_
            obtain ⟨sx9, hx9⟩ := hpG10
            have hd9 := hx9.2.2
            rw [hss5] at hd9
            exact ih5 sx9 G10 hMG10 hFG10 (⟨(by exact hx9.1), (by exact hx9.2.1), (by exact Fr.call (ns := nRun) (js := jRun) iZ5 (Fr.call (Fr.setF (Fr.rf) eG7 (by decide)) hfG10 (by decide) (by decide) : Fr [a_state, a_cellValue, a_left, a_right, a_number, a_count, a_actOn, a_actPhase, a_actFor, a_give, a_logOf] [84, 79, 88, 90] G5 G10) (by decide) (by decide))⟩) (by omega)
          · -- 72 to 75
            have hq05 : pp5 = 0 := by omega
            subst hq05
            have hg25 := (hgg5.resolve_right (fun z => z.elim (fun y => absurd y.1 (by decide)) (fun y => absurd y.1 (by decide)))).2
            refine s_aload_n dX12_finds_75 rfl (Int.natCast_nonneg _) ?_
            refine s_iload_n dX12_finds_76 rfl ?_
            refine s_aload_n dX12_finds_77 rfl (Int.natCast_nonneg _) ?_
            refine gf_actFor rfl dX12_finds_78 hMG7 ?_
            refine s_aload_n dX12_finds_81 rfl (Int.natCast_nonneg _) ?_
            refine gf_acts rfl dX12_finds_82 hMG7 (gsaE eG7) ?_
            refine s_iald dX12_finds_85 (mg_a_actFor hMG7) (by omega) (by omega) (gsnE eG7 (by decide)) ?_
            rw [show gS G5 a_actFor (((gS G5 1000 84) - 1).toNat) = cc5 from hf5]
            refine cv_X12_561 rfl gX12_beginsPart dX12_finds_86 hMG7 (by rw [hcf]; decide) (as := [(0, ee5), (0, cc5)]) rfl (Nat.le_of_ble_eq_true rfl) ⟨ee5, cc5, Gz, I, sq5, rfl, hMG7, (by exact hI), (by exact hUV), (by exact hEX), (by exact hFI), (by exact hzz5), (by exact hu5.weak (by omega) (by omega) (by rw [if_neg (by decide)]; omega)), (by exact hv5), (by rw [hgi5]; exact hg25), fun G12 hMG12 hpG12 => ?_⟩
            obtain ⟨hfG12, hpG12⟩ := hpG12
            have hFG12 : Fr nX12_finds jX12_finds G G12 := Fr.call hFG7 hfG12 (by decide) (by decide)
            show WP kX12_finds X 89 [some (2, ((1000 : Nat) : Int)), some (0, c), some (0, ee5)] [] G12
            refine s_goto (tgt := 106) dX12_finds_89 (by decide) ?_
            refine s_goto (tgt := 15) dX12_finds_106 (by decide) ?_
            refine s_mask [true, true, false] (lv' := [some (2, ((1000 : Nat) : Int)), some (0, c), none]) rfl ?_
            obtain ⟨sx9, hx9⟩ := hpG12
            have hd9 := hx9.2.2
            rw [hss5] at hd9
            exact ih5 sx9 G12 hMG12 hFG12 (⟨(by exact hx9.1), (by exact hx9.2.1), (by exact Fr.call (ns := nRun) (js := jRun) iZ5 (Fr.call (Fr.setF (Fr.rf) eG7 (by decide)) hfG12 (by decide) (by decide) : Fr [a_state, a_cellValue, a_left, a_right, a_number, a_count, a_actOn, a_actPhase, a_actFor, a_give, a_logOf] [84, 79, 88, 90] G5 G12) (by decide) (by decide))⟩) (by omega)
        · -- 52 to 55
          have hq25 : pp5 = 2 := by omega
          subst hq25
          rw [po1.t.1] at hu5
          rw [po1.t.2] at hmm5
          have hc25 : 0 ≤ ee5 ∧ ee5 < (gS Gz 1000 67) := by rcases hv5 with z | z; (exact z.2); (have := z.1; omega)
          have hg25 := (hgg5.resolve_left (fun z => absurd z.1 (by decide))).resolve_left (fun z => absurd z.1 (by decide)) |>.2
          refine s_aload_n dX12_finds_55 rfl (Int.natCast_nonneg _) ?_
          refine s_iload_n dX12_finds_56 rfl ?_
          refine cv_X12_558 rfl gX12_finishesCell dX12_finds_57 hMG7 (by rw [hcf]; decide) (as := [(0, ee5)]) rfl (Nat.le_of_ble_eq_true rfl) ⟨ee5, Gz, I, sq5, rfl, hMG7, (by exact hI), (by exact hUV), (by exact hEX), (by exact hFI), (by exact hzz5), (by exact hu5.weak (by omega) (by omega) (by rw [if_pos rfl]; omega)), (by exact hc25), (by rw [hgi5]; exact hg25), fun G14 hMG14 hpG14 => ?_⟩
          obtain ⟨hfG14, hpG14⟩ := hpG14
          have hFG14 : Fr nX12_finds jX12_finds G G14 := Fr.call hFG7 hfG14 (by decide) (by decide)
          show WP kX12_finds X 60 [some (2, ((1000 : Nat) : Int)), some (0, c), some (0, ee5)] [] G14
          refine s_goto (tgt := 106) dX12_finds_60 (by decide) ?_
          refine s_goto (tgt := 15) dX12_finds_106 (by decide) ?_
          refine s_mask [true, true, false] (lv' := [some (2, ((1000 : Nat) : Int)), some (0, c), none]) rfl ?_
          have hx9 := hpG14
          have hd9 : mesL Gz sq5 + 26 * s0 G14 ((gS Gz 1000 67)) + 1 ≤ mesL Gz ((ee5, 2, cc5) :: sq5) + 26 * s0 G5 ((gS Gz 1000 67)) := by have z1 := hx9.2.2; rw [hss5] at z1; omega
          exact ih5 sq5 G14 hMG14 hFG14 (⟨(by exact hx9.1), (by exact hx9.2.1), (by exact Fr.call (ns := nRun) (js := jRun) iZ5 (Fr.call (Fr.setF (Fr.rf) eG7 (by decide)) hfG14 (by decide) (by decide) : Fr [a_state, a_cellValue, a_give, a_logOf] [84, 88, 90] G5 G14) (by decide) (by decide))⟩) (by omega)
  exact L5 _ ((exprC Gz c, 0, c) :: (c, 2, c) :: []) G3 hMG3 hFG3 (⟨(by exact hpG3.1), (by refine Or.inr ?_; rw [hpG3.2.1, gsaE eG2]; exact GV.cell (Or.inl ⟨rfl, rfl⟩) (Int.le_refl _)), (by exact Fr.call (ns := nRun) (js := jRun) hZ (Fr.call (Fr.setF (Fr.setF (Fr.rf) eG1 (by decide)) eG2 (by decide)) hfG3 (by decide) (by decide) : Fr [a_state, a_actOn, a_actPhase, a_actFor] [84, 88] G G3) (by decide) (by decide))⟩) (Nat.lt_succ_self _)
