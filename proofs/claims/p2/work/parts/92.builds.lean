abbrev nX12_isAs : List Nat := []
abbrev jX12_isAs : List Nat := []
def TX12_isAs : TR := fun as G Qr => ∃ (row : Nat) (f m : Int) (Nr : Nat), as = [(2, ((1000 : Nat) : Int)), (2, ((row : Nat) : Int)), (0, f), (0, m)] ∧ MG G ∧ (∀ {G9 : LG}, MG G9 → gK G9 row = (1, Nr)) ∧ (0 ≤ f ∧ f + m ≤ Nr) ∧ (0 ≤ m ∧ m ≤ 11000 ∧ f ≤ 1000000) ∧ ∀ (r : Int) (G' : LG), MG G' → (Fr nX12_isAs jX12_isAs G G' ∧ (True)) → Qr (.inl (some (0, r))) G'
set_option maxHeartbeats 4000000 in
set_option maxRecDepth 100000 in
theorem gX12_isAs : Good kX12_isAs yX12_isAs 0 TX12_isAs := by
  refine good_of (by decide) rfl rfl (fun as G Qr h => ?_) (fun X as G Qr hcf hR hT oa => ?_)
  · obtain ⟨row, f, m, Nr, rfl, -⟩ := h; exact Nat.le_of_ble_eq_true rfl
  obtain ⟨row, f, m, Nr, rfl, hM, mg_row, hf, hm, hQ⟩ := hT
  show WP kX12_isAs X 0 [some (2, ((1000 : Nat) : Int)), some (2, ((row : Nat) : Int)), some (0, f), some (0, m), none, none] [] G
  have hr_f : inR f := okv_R (oa _ (by simp))
  have hr_m : inR m := okv_R (oa _ (by simp))
  refine s_aload_n dX12_isAs_0 rfl (Int.natCast_nonneg _) ?_
  refine gf_built rfl dX12_isAs_1 hM rfl ?_
  refine s_iload_n dX12_isAs_4 rfl ?_
  have J2 : ∀ z1 : Int, ((¬ (gS G 1000 102) = m) ∧ z1 = 0) ∨ (((gS G 1000 102) = m) ∧ z1 = 1) → WP kX12_isAs X 13 [some (2, ((1000 : Nat) : Int)), some (2, ((row : Nat) : Int)), some (0, f), some (0, m), none, none] [(0, z1)] G := by
    intro z1 hz1
    refine s_istore dX12_isAs_13 (by decide) (lv' := [some (2, ((1000 : Nat) : Int)), some (2, ((row : Nat) : Int)), some (0, f), some (0, m), some (0, z1), none]) rfl ?_
    refine s_iconst dX12_isAs_15 (by decide) ?_
    refine s_istore dX12_isAs_16 (by decide) (lv' := [some (2, ((1000 : Nat) : Int)), some (2, ((row : Nat) : Int)), some (0, f), some (0, m), some (0, z1), some (0, 0)]) rfl ?_
    have L3 : ∀ (n3 : Nat) (b3 : Int) (k3 : Int), ((0 ≤ k3 ∧ k3 ≤ m) ∧ (b3 = 0 ∨ b3 = 1)) → (m - k3).toNat < n3 → WP kX12_isAs X 18 [some (2, ((1000 : Nat) : Int)), some (2, ((row : Nat) : Int)), some (0, f), some (0, m), some (0, b3), some (0, k3)] [] G := by
      intro n3
      induction n3 with
      | zero => intro b3 k3 hi3 hm3; exact absurd hm3 (Nat.not_lt_zero _)
      | succ n3 ih3 =>
        intro b3 k3 hi3 hm3
        have hj3 := hi3
        obtain ⟨ik3, ib3⟩ := hi3
        refine s_iload dX12_isAs_18 rfl ?_
        refine s_iload_n dX12_isAs_20 rfl ?_
        refine s_icmp_ge (tgt := 58) dX12_isAs_21 (by decide) (fun c4 => ?_) (fun c4 => ?_)
        · -- 21 to 58
          refine s_iload dX12_isAs_58 rfl ?_
          exact s_zret hR dX12_isAs_60 rfl (by first | exact Or.inl rfl | exact Or.inr rfl | exact b2i_01 | omega) (hQ _ G hM (⟨Fr.rf, trivial⟩))
        · -- 21 to 24
          refine s_iload dX12_isAs_24 rfl ?_
          refine s_if_eq (tgt := 58) dX12_isAs_26 (by decide) (fun c5 => ?_) (fun c5 => ?_)
          · -- 26 to 58
            refine s_iload dX12_isAs_58 rfl ?_
            exact s_zret hR dX12_isAs_60 rfl (by first | exact Or.inl rfl | exact Or.inr rfl | exact b2i_01 | omega) (hQ _ G hM (⟨Fr.rf, trivial⟩))
          · -- 26 to 29
            refine s_aload_n dX12_isAs_29 rfl (Int.natCast_nonneg _) ?_
            refine s_iload_n dX12_isAs_30 rfl ?_
            refine s_iload dX12_isAs_31 rfl ?_
            refine s_iadd dX12_isAs_33 (by omega) ?_
            refine s_iald dX12_isAs_34 (mg_row hM) (by omega) (by omega) rfl ?_
            refine s_aload_n dX12_isAs_35 rfl (Int.natCast_nonneg _) ?_
            refine gf_build rfl dX12_isAs_36 hM ?_
            refine s_iload dX12_isAs_39 rfl ?_
            refine s_iald dX12_isAs_41 (mg_a_build hM) (by omega) (by omega) rfl ?_
            have J7 : ∀ z6 : Int, ((¬ (gS G row ((f + k3).toNat)) = (gS G a_build ((k3).toNat))) ∧ z6 = 0) ∨ (((gS G row ((f + k3).toNat)) = (gS G a_build ((k3).toNat))) ∧ z6 = 1) → WP kX12_isAs X 50 [some (2, ((1000 : Nat) : Int)), some (2, ((row : Nat) : Int)), some (0, f), some (0, m), some (0, b3), some (0, k3)] [(0, z6)] G := by
              intro z6 hz6
              refine s_istore dX12_isAs_50 (by decide) (lv' := [some (2, ((1000 : Nat) : Int)), some (2, ((row : Nat) : Int)), some (0, f), some (0, m), some (0, z6), some (0, k3)]) rfl ?_
              refine s_iinc dX12_isAs_52 (v := k3) rfl (by omega) (by decide) (lv' := [some (2, ((1000 : Nat) : Int)), some (2, ((row : Nat) : Int)), some (0, f), some (0, m), some (0, z6), some (0, k3 + 1)]) rfl ?_
              refine s_goto (tgt := 18) dX12_isAs_55 (by decide) ?_
              exact ih3 z6 (k3 + 1) (⟨(by omega), (by omega)⟩) (by omega)
            refine s_icmp_ne (tgt := 49) dX12_isAs_42 (by decide) (fun c8 => ?_) (fun c8 => ?_)
            · -- 42 to 49
              refine s_iconst dX12_isAs_49 (by decide) ?_
              exact J7 0 (Or.inl ⟨c8, rfl⟩)
            · -- 42 to 45
              refine s_iconst dX12_isAs_45 (by decide) ?_
              refine s_goto (tgt := 50) dX12_isAs_46 (by decide) ?_
              exact J7 1 (Or.inr (⟨c8, rfl⟩))
    exact L3 _ z1 0 (⟨(by omega), (by omega)⟩) (Nat.lt_succ_self _)
  refine s_icmp_ne (tgt := 12) dX12_isAs_5 (by decide) (fun c9 => ?_) (fun c9 => ?_)
  · -- 5 to 12
    refine s_iconst dX12_isAs_12 (by decide) ?_
    exact J2 0 (Or.inl ⟨c9, rfl⟩)
  · -- 5 to 8
    refine s_iconst dX12_isAs_8 (by decide) ?_
    refine s_goto (tgt := 13) dX12_isAs_9 (by decide) ?_
    exact J2 1 (Or.inr (⟨c9, rfl⟩))

abbrev nX12_compiles : List Nat := [a_build, a_todo, a_stackOf, a_seen, a_seenMany, a_face, a_faceMany, a_compiled]
abbrev jX12_compiles : List Nat := [102, 36]
def TX12_compiles : TR := fun as G Qr => ∃ (n : Int), as = [(2, ((1000 : Nat) : Int)), (0, n)] ∧ MG G ∧ (TB G) ∧ (EX G) ∧ (UV G) ∧ (ND G) ∧ (FU G) ∧ ((gS G 1000 42) ≤ 60000) ∧ (0 ≤ n ∧ n < (gS G 1000 18)) ∧ (RS1 G n) ∧ (∀ k : Int, 0 ≤ k → k < nMany G n → RS1 G (nPart G n k)) ∧ (BI G) ∧ ∀ (r : Int) (G' : LG), MG G' → (Fr nX12_compiles jX12_compiles G G' ∧ (BI G')) → Qr (.inl (some (0, r))) G'
set_option maxHeartbeats 4000000 in
set_option maxRecDepth 100000 in
theorem gX12_compiles : Good kX12_compiles yX12_compiles 4 TX12_compiles := by
  refine good_of (by decide) rfl rfl (fun as G Qr h => ?_) (fun X as G Qr hcf hR hT oa => ?_)
  · obtain ⟨n, rfl, -⟩ := h; exact Nat.le_of_ble_eq_true rfl
  obtain ⟨n, rfl, hM, hTB, hEX, hUV, hND, hFU, hth, hn, hrn, hrw, hBI, hQ⟩ := hT
  show WP kX12_compiles X 0 [some (2, ((1000 : Nat) : Int)), some (0, n), none] [] G
  have hr_n : inR n := okv_R (oa _ (by simp))
  have hn40 := hND.1
  refine s_aload_n dX12_compiles_0 rfl (Int.natCast_nonneg _) ?_
  refine s_iload_n dX12_compiles_1 rfl ?_
  refine cv_X12_631 rfl gX12_sees dX12_compiles_2 hM (by rw [hcf]; decide) (as := [(0, n)]) rfl (Nat.le_of_ble_eq_true rfl) ⟨n, rfl, hM, (by first | assumption | omega), (by first | assumption | omega), (by first | assumption | omega), (by first | assumption | omega), (by first | assumption | omega), (by first | assumption | omega), (by first | assumption | omega), (by first | assumption | omega), fun G1 hMG1 hpG1 => ?_⟩
  obtain ⟨hfG1, hpG1⟩ := hpG1
  have hFG1 : Fr nX12_compiles jX12_compiles G G1 := Fr.call Fr.rf hfG1 (by decide) (by decide)
  show WP kX12_compiles X 5 [some (2, ((1000 : Nat) : Int)), some (0, n), none] [] G1
  refine s_aload_n dX12_compiles_5 rfl (Int.natCast_nonneg _) ?_
  refine gf_compiled rfl dX12_compiles_6 hMG1 ?_
  refine s_iload_n dX12_compiles_9 rfl ?_
  refine s_iald dX12_compiles_10 (mg_a_compiled hMG1) (by omega) (by omega) (Fr.atA hfG1 (by decide) (by decide)) ?_
  refine s_if_le (tgt := 38) dX12_compiles_11 (by decide) (fun c3 => ?_) (fun c3 => ?_)
  · -- 11 to 38
    have hbwG1 : gS G1 1000 102 = gS G1 1000 102 := rfl
    refine s_iconst dX12_compiles_38 (by decide) ?_
    refine s_istore_n dX12_compiles_39 (by decide) (lv' := [some (2, ((1000 : Nat) : Int)), some (0, n), some (0, 0)]) rfl ?_
    have L4 : ∀ (n4 : Nat) (k4 : Int) (G4 : LG), MG G4 → Fr nX12_compiles jX12_compiles G G4 → ((0 ≤ (gS G4 1000 102) ∧ (gS G4 1000 102) ≤ 9713) ∧ (0 ≤ k4 ∧ k4 ≤ (gS G4 1000 102)) ∧ (BI G4)) → (9713 - k4).toNat < n4 → WP kX12_compiles X 40 [some (2, ((1000 : Nat) : Int)), some (0, n), some (0, k4)] [] G4 := by
      intro n4
      induction n4 with
      | zero => intro k4 G4 hMG4 hFG4 hi4 hm4; exact absurd hm4 (Nat.not_lt_zero _)
      | succ n4 ih4 =>
        intro k4 G4 hMG4 hFG4 hi4 hm4
        have hj4 := hi4
        obtain ⟨ib4, ik4, iB4⟩ := hi4
        refine s_iload_n dX12_compiles_40 rfl ?_
        refine s_aload_n dX12_compiles_41 rfl (Int.natCast_nonneg _) ?_
        refine gf_built rfl dX12_compiles_42 hMG4 rfl ?_
        refine s_icmp_ge (tgt := 72) dX12_compiles_45 (by decide) (fun c5 => ?_) (fun c5 => ?_)
        · -- 45 to 72
          refine s_aload_n dX12_compiles_72 rfl (Int.natCast_nonneg _) ?_
          refine gf_seenMany rfl dX12_compiles_73 hMG4 ?_
          refine s_iload_n dX12_compiles_76 rfl ?_
          refine s_aload_n dX12_compiles_77 rfl (Int.natCast_nonneg _) ?_
          refine gf_built rfl dX12_compiles_78 hMG4 rfl ?_
          refine r_iast dX12_compiles_81 hMG4 (mg_a_seenMany hMG4) (by decide) (by omega) (by omega) (fun G6 eG6 hMG6 => ?_)
          have hFG6 : Fr nX12_compiles jX12_compiles G G6 := Fr.setA hFG4 eG6 (by decide)
          show WP kX12_compiles X 82 [some (2, ((1000 : Nat) : Int)), some (0, n), some (0, k4)] [] G6
          have hB1 : BI G6 := iB4.s (by omega) eG6 (by omega)
          have hBd := hB1
          refine s_aload_n dX12_compiles_82 rfl (Int.natCast_nonneg _) ?_
          refine s_iconst dX12_compiles_83 (by decide) ?_
          refine pf_built rfl dX12_compiles_84 hMG6 (fun G7 eG7 hMG7 => ?_)
          have hFG7 : Fr nX12_compiles jX12_compiles G G7 := Fr.setF hFG6 eG7 (by decide)
          have hbwG7 : gS G7 1000 102 = 0 := (gsaE eG7)
          refine s_aload_n dX12_compiles_87 rfl (Int.natCast_nonneg _) ?_
          refine s_iload_n dX12_compiles_88 rfl ?_
          refine s_sipush dX12_compiles_89 rfl (by decide) ?_
          refine cv_X12_628 rfl gX12_tellsFace dX12_compiles_92 hMG7 (by rw [hcf]; decide) (as := [(0, n), (0, 1023)]) rfl (Nat.le_of_ble_eq_true rfl) ⟨n, 1023, rfl, hMG7, (by exact hFU.agr (hFG7.agr (by decide) (by decide) (by decide)) (by rw [hFG7.atF (j := 42) (by decide) (by decide)]; exact Int.le_refl _)), (by (have z9 := hFG7.atF (j := 42) (by decide) (by decide); omega)), (by omega), (by exact hrn.agr (hFG7.agr (by decide) (by decide) (by decide))), (by omega), fun G8 hMG8 hpG8 => ?_⟩
          obtain ⟨hfG8, hpG8⟩ := hpG8
          have hFG8 : Fr nX12_compiles jX12_compiles G G8 := Fr.call hFG7 hfG8 (by decide) (by decide)
          show WP kX12_compiles X 95 [some (2, ((1000 : Nat) : Int)), some (0, n), some (0, k4)] [] G8
          refine s_iconst dX12_compiles_95 (by decide) ?_
          refine s_istore_n dX12_compiles_96 (by decide) (lv' := [some (2, ((1000 : Nat) : Int)), some (0, n), some (0, 0)]) rfl ?_
          have L10 : ∀ (n10 : Nat) (k10 : Int) (G10 : LG), MG G10 → Fr nX12_compiles jX12_compiles G G10 → ((0 ≤ (gS G10 1000 102) ∧ (gS G10 1000 102) ≤ 3237) ∧ (0 ≤ k10 ∧ k10 ≤ (gS G10 1000 102)) ∧ (BI G10)) → (3237 - k10).toNat < n10 → WP kX12_compiles X 97 [some (2, ((1000 : Nat) : Int)), some (0, n), some (0, k10)] [] G10 := by
            intro n10
            induction n10 with
            | zero => intro k10 G10 hMG10 hFG10 hi10 hm10; exact absurd hm10 (Nat.not_lt_zero _)
            | succ n10 ih10 =>
              intro k10 G10 hMG10 hFG10 hi10 hm10
              have hj10 := hi10
              obtain ⟨ib10, ik10, iB10⟩ := hi10
              refine s_iload_n dX12_compiles_97 rfl ?_
              refine s_aload_n dX12_compiles_98 rfl (Int.natCast_nonneg _) ?_
              refine gf_built rfl dX12_compiles_99 hMG10 rfl ?_
              refine s_icmp_ge (tgt := 129) dX12_compiles_102 (by decide) (fun c11 => ?_) (fun c11 => ?_)
              · -- 102 to 129
                refine s_aload_n dX12_compiles_129 rfl (Int.natCast_nonneg _) ?_
                refine gf_faceMany rfl dX12_compiles_130 hMG10 ?_
                refine s_iload_n dX12_compiles_133 rfl ?_
                refine s_aload_n dX12_compiles_134 rfl (Int.natCast_nonneg _) ?_
                refine gf_built rfl dX12_compiles_135 hMG10 rfl ?_
                refine r_iast dX12_compiles_138 hMG10 (mg_a_faceMany hMG10) (by decide) (by omega) (by omega) (fun G12 eG12 hMG12 => ?_)
                have hFG12 : Fr nX12_compiles jX12_compiles G G12 := Fr.setA hFG10 eG12 (by decide)
                show WP kX12_compiles X 139 [some (2, ((1000 : Nat) : Int)), some (0, n), some (0, k10)] [] G12
                refine s_aload_n dX12_compiles_139 rfl (Int.natCast_nonneg _) ?_
                refine gf_compiled rfl dX12_compiles_140 hMG12 ?_
                refine s_iload_n dX12_compiles_143 rfl ?_
                refine s_dup2 dX12_compiles_144 (by simp) (by simp) ?_
                refine s_iald dX12_compiles_145 (mg_a_compiled hMG12) (by omega) (by omega) (gsnE eG12 (by decide)) ?_
                refine s_iconst dX12_compiles_146 (by decide) ?_
                refine s_iaddW dX12_compiles_147 (fun w13 hrw13 hew13 => ?_)
                refine r_iast dX12_compiles_148 hMG12 (mg_a_compiled hMG12) (by decide) (by omega) (by omega) (fun G14 eG14 hMG14 => ?_)
                have hFG14 : Fr nX12_compiles jX12_compiles G G14 := Fr.setA hFG12 eG14 (by decide)
                show WP kX12_compiles X 149 [some (2, ((1000 : Nat) : Int)), some (0, n), some (0, k10)] [] G14
                refine s_iconst dX12_compiles_149 (by decide) ?_
                exact s_zret hR dX12_compiles_150 rfl (by first | exact Or.inl rfl | exact Or.inr rfl | exact b2i_01 | omega) (hQ _ G14 hMG14 (⟨hFG14, ((iB10.f (by omega) eG12 (by omega)).agr ((Fr.setA (Fr.rf) eG14 (by decide) : Fr [a_compiled] [] G12 G14).agr (by decide) (by decide) (by decide)))⟩))
              · -- 102 to 105
                refine s_aload_n dX12_compiles_105 rfl (Int.natCast_nonneg _) ?_
                refine gf_face rfl dX12_compiles_106 hMG10 ?_
                refine s_sipush dX12_compiles_109 rfl (by decide) ?_
                refine s_iload_n dX12_compiles_112 rfl ?_
                refine s_imul dX12_compiles_113 (by omega) ?_
                refine s_iload_n dX12_compiles_114 rfl ?_
                refine s_iadd dX12_compiles_115 (by omega) ?_
                refine s_aload_n dX12_compiles_116 rfl (Int.natCast_nonneg _) ?_
                refine gf_build rfl dX12_compiles_117 hMG10 ?_
                refine s_iload_n dX12_compiles_120 rfl ?_
                refine s_iald dX12_compiles_121 (mg_a_build hMG10) (by omega) (by omega) rfl ?_
                refine r_iast dX12_compiles_122 hMG10 (mg_a_face hMG10) (by decide) (by omega) (by omega) (fun G15 eG15 hMG15 => ?_)
                have hFG15 : Fr nX12_compiles jX12_compiles G G15 := Fr.setA hFG10 eG15 (by decide)
                show WP kX12_compiles X 123 [some (2, ((1000 : Nat) : Int)), some (0, n), some (0, k10)] [] G15
                have hbwG15 : gS G15 1000 102 = gS G10 1000 102 := (gsnE eG15 (by decide))
                refine s_iinc dX12_compiles_123 (v := k10) rfl (by omega) (by decide) (lv' := [some (2, ((1000 : Nat) : Int)), some (0, n), some (0, k10 + 1)]) rfl ?_
                refine s_goto (tgt := 97) dX12_compiles_126 (by decide) ?_
                exact ih10 (k10 + 1) G15 hMG15 hFG15 (⟨(by omega), (by omega), (by exact iB10.agr ((Fr.setA (Fr.rf) eG15 (by decide) : Fr [a_face] [] G10 G15).agr (by decide) (by decide) (by decide)))⟩) (by omega)
          exact L10 _ 0 G8 hMG8 hFG8 (⟨(by omega), (by omega), (by exact hB1.agr ((Fr.call (Fr.setF (Fr.rf) eG7 (by decide)) hfG8 (by decide) (by decide) : Fr [a_build, a_stackOf] [102, 36] G6 G8).agr (by decide) (by decide) (by decide)))⟩) (Nat.lt_succ_self _)
        · -- 45 to 48
          refine s_aload_n dX12_compiles_48 rfl (Int.natCast_nonneg _) ?_
          refine gf_seen rfl dX12_compiles_49 hMG4 ?_
          refine s_sipush dX12_compiles_52 rfl (by decide) ?_
          refine s_iload_n dX12_compiles_55 rfl ?_
          refine s_imul dX12_compiles_56 (by omega) ?_
          refine s_iload_n dX12_compiles_57 rfl ?_
          refine s_iadd dX12_compiles_58 (by omega) ?_
          refine s_aload_n dX12_compiles_59 rfl (Int.natCast_nonneg _) ?_
          refine gf_build rfl dX12_compiles_60 hMG4 ?_
          refine s_iload_n dX12_compiles_63 rfl ?_
          refine s_iald dX12_compiles_64 (mg_a_build hMG4) (by omega) (by omega) rfl ?_
          refine r_iast dX12_compiles_65 hMG4 (mg_a_seen hMG4) (by decide) (by omega) (by omega) (fun G16 eG16 hMG16 => ?_)
          have hFG16 : Fr nX12_compiles jX12_compiles G G16 := Fr.setA hFG4 eG16 (by decide)
          show WP kX12_compiles X 66 [some (2, ((1000 : Nat) : Int)), some (0, n), some (0, k4)] [] G16
          have hbwG16 : gS G16 1000 102 = gS G4 1000 102 := (gsnE eG16 (by decide))
          refine s_iinc dX12_compiles_66 (v := k4) rfl (by omega) (by decide) (lv' := [some (2, ((1000 : Nat) : Int)), some (0, n), some (0, k4 + 1)]) rfl ?_
          refine s_goto (tgt := 40) dX12_compiles_69 (by decide) ?_
          exact ih4 (k4 + 1) G16 hMG16 hFG16 (⟨(by omega), (by omega), (by exact iB4.agr ((Fr.setA (Fr.rf) eG16 (by decide) : Fr [a_seen] [] G4 G16).agr (by decide) (by decide) (by decide)))⟩) (by omega)
    exact L4 _ 0 G1 hMG1 hFG1 (⟨(by omega), (by omega), (by exact hBI.agr ((Fr.call (Fr.rf) hfG1 (by decide) (by decide) : Fr [a_build, a_todo, a_stackOf] [102, 36] G G1).agr (by decide) (by decide) (by decide)))⟩) (Nat.lt_succ_self _)
  · -- 11 to 14
    have hbi := (hBI n (by omega) (by omega)).1
    refine s_aload_n dX12_compiles_14 rfl (Int.natCast_nonneg _) ?_
    refine s_aload_n dX12_compiles_15 rfl (Int.natCast_nonneg _) ?_
    refine gf_seen rfl dX12_compiles_16 hMG1 ?_
    refine s_sipush dX12_compiles_19 rfl (by decide) ?_
    refine s_iload_n dX12_compiles_22 rfl ?_
    refine s_imul dX12_compiles_23 (by omega) ?_
    refine s_aload_n dX12_compiles_24 rfl (Int.natCast_nonneg _) ?_
    refine gf_seenMany rfl dX12_compiles_25 hMG1 ?_
    refine s_iload_n dX12_compiles_28 rfl ?_
    refine s_iald dX12_compiles_29 (mg_a_seenMany hMG1) (by omega) (by omega) (Fr.atA hfG1 (by decide) (by decide)) ?_
    refine cv_X12_634 rfl gX12_isAs dX12_compiles_30 hMG1 (by rw [hcf]; decide) (as := [(2, ((a_seen : Nat) : Int)), (0, 9900 * n), (0, gS G a_seenMany ((n).toNat))]) rfl (Nat.le_of_ble_eq_true rfl) ⟨a_seen, 9900 * n, gS G a_seenMany ((n).toNat), 396000, rfl, hMG1, (by intro G9 h9; exact mg_a_seen h9), (by omega), (by omega), fun r18 G17 hMG17 hpG17 => ?_⟩
    obtain ⟨hfG17, hpG17⟩ := hpG17
    have hFG17 : Fr nX12_compiles jX12_compiles G G17 := Fr.call hFG1 hfG17 (by decide) (by decide)
    show WP kX12_compiles X 33 [some (2, ((1000 : Nat) : Int)), some (0, n), none] [(0, r18)] G17
    refine s_if_eq (tgt := 38) dX12_compiles_33 (by decide) (fun c19 => ?_) (fun c19 => ?_)
    · -- 33 to 38
      have hbwG17 : gS G17 1000 102 = gS G1 1000 102 := (Fr.atF hfG17 (by decide) (by decide))
      refine s_iconst dX12_compiles_38 (by decide) ?_
      refine s_istore_n dX12_compiles_39 (by decide) (lv' := [some (2, ((1000 : Nat) : Int)), some (0, n), some (0, 0)]) rfl ?_
      have L20 : ∀ (n20 : Nat) (k20 : Int) (G20 : LG), MG G20 → Fr nX12_compiles jX12_compiles G G20 → ((0 ≤ (gS G20 1000 102) ∧ (gS G20 1000 102) ≤ 9713) ∧ (0 ≤ k20 ∧ k20 ≤ (gS G20 1000 102)) ∧ (BI G20)) → (9713 - k20).toNat < n20 → WP kX12_compiles X 40 [some (2, ((1000 : Nat) : Int)), some (0, n), some (0, k20)] [] G20 := by
        intro n20
        induction n20 with
        | zero => intro k20 G20 hMG20 hFG20 hi20 hm20; exact absurd hm20 (Nat.not_lt_zero _)
        | succ n20 ih20 =>
          intro k20 G20 hMG20 hFG20 hi20 hm20
          have hj20 := hi20
          obtain ⟨ib20, ik20, iB20⟩ := hi20
          refine s_iload_n dX12_compiles_40 rfl ?_
          refine s_aload_n dX12_compiles_41 rfl (Int.natCast_nonneg _) ?_
          refine gf_built rfl dX12_compiles_42 hMG20 rfl ?_
          refine s_icmp_ge (tgt := 72) dX12_compiles_45 (by decide) (fun c21 => ?_) (fun c21 => ?_)
          · -- 45 to 72
            refine s_aload_n dX12_compiles_72 rfl (Int.natCast_nonneg _) ?_
            refine gf_seenMany rfl dX12_compiles_73 hMG20 ?_
            refine s_iload_n dX12_compiles_76 rfl ?_
            refine s_aload_n dX12_compiles_77 rfl (Int.natCast_nonneg _) ?_
            refine gf_built rfl dX12_compiles_78 hMG20 rfl ?_
            refine r_iast dX12_compiles_81 hMG20 (mg_a_seenMany hMG20) (by decide) (by omega) (by omega) (fun G22 eG22 hMG22 => ?_)
            have hFG22 : Fr nX12_compiles jX12_compiles G G22 := Fr.setA hFG20 eG22 (by decide)
            show WP kX12_compiles X 82 [some (2, ((1000 : Nat) : Int)), some (0, n), some (0, k20)] [] G22
            have hB1 : BI G22 := iB20.s (by omega) eG22 (by omega)
            have hBd := hB1
            refine s_aload_n dX12_compiles_82 rfl (Int.natCast_nonneg _) ?_
            refine s_iconst dX12_compiles_83 (by decide) ?_
            refine pf_built rfl dX12_compiles_84 hMG22 (fun G23 eG23 hMG23 => ?_)
            have hFG23 : Fr nX12_compiles jX12_compiles G G23 := Fr.setF hFG22 eG23 (by decide)
            have hbwG23 : gS G23 1000 102 = 0 := (gsaE eG23)
            refine s_aload_n dX12_compiles_87 rfl (Int.natCast_nonneg _) ?_
            refine s_iload_n dX12_compiles_88 rfl ?_
            refine s_sipush dX12_compiles_89 rfl (by decide) ?_
            refine cv_X12_628 rfl gX12_tellsFace dX12_compiles_92 hMG23 (by rw [hcf]; decide) (as := [(0, n), (0, 1023)]) rfl (Nat.le_of_ble_eq_true rfl) ⟨n, 1023, rfl, hMG23, (by exact hFU.agr (hFG23.agr (by decide) (by decide) (by decide)) (by rw [hFG23.atF (j := 42) (by decide) (by decide)]; exact Int.le_refl _)), (by (have z9 := hFG23.atF (j := 42) (by decide) (by decide); omega)), (by omega), (by exact hrn.agr (hFG23.agr (by decide) (by decide) (by decide))), (by omega), fun G24 hMG24 hpG24 => ?_⟩
            obtain ⟨hfG24, hpG24⟩ := hpG24
            have hFG24 : Fr nX12_compiles jX12_compiles G G24 := Fr.call hFG23 hfG24 (by decide) (by decide)
            show WP kX12_compiles X 95 [some (2, ((1000 : Nat) : Int)), some (0, n), some (0, k20)] [] G24
            refine s_iconst dX12_compiles_95 (by decide) ?_
            refine s_istore_n dX12_compiles_96 (by decide) (lv' := [some (2, ((1000 : Nat) : Int)), some (0, n), some (0, 0)]) rfl ?_
            have L26 : ∀ (n26 : Nat) (k26 : Int) (G26 : LG), MG G26 → Fr nX12_compiles jX12_compiles G G26 → ((0 ≤ (gS G26 1000 102) ∧ (gS G26 1000 102) ≤ 3237) ∧ (0 ≤ k26 ∧ k26 ≤ (gS G26 1000 102)) ∧ (BI G26)) → (3237 - k26).toNat < n26 → WP kX12_compiles X 97 [some (2, ((1000 : Nat) : Int)), some (0, n), some (0, k26)] [] G26 := by
              intro n26
              induction n26 with
              | zero => intro k26 G26 hMG26 hFG26 hi26 hm26; exact absurd hm26 (Nat.not_lt_zero _)
              | succ n26 ih26 =>
                intro k26 G26 hMG26 hFG26 hi26 hm26
                have hj26 := hi26
                obtain ⟨ib26, ik26, iB26⟩ := hi26
                refine s_iload_n dX12_compiles_97 rfl ?_
                refine s_aload_n dX12_compiles_98 rfl (Int.natCast_nonneg _) ?_
                refine gf_built rfl dX12_compiles_99 hMG26 rfl ?_
                refine s_icmp_ge (tgt := 129) dX12_compiles_102 (by decide) (fun c27 => ?_) (fun c27 => ?_)
                · -- 102 to 129
                  refine s_aload_n dX12_compiles_129 rfl (Int.natCast_nonneg _) ?_
                  refine gf_faceMany rfl dX12_compiles_130 hMG26 ?_
                  refine s_iload_n dX12_compiles_133 rfl ?_
                  refine s_aload_n dX12_compiles_134 rfl (Int.natCast_nonneg _) ?_
                  refine gf_built rfl dX12_compiles_135 hMG26 rfl ?_
                  refine r_iast dX12_compiles_138 hMG26 (mg_a_faceMany hMG26) (by decide) (by omega) (by omega) (fun G28 eG28 hMG28 => ?_)
                  have hFG28 : Fr nX12_compiles jX12_compiles G G28 := Fr.setA hFG26 eG28 (by decide)
                  show WP kX12_compiles X 139 [some (2, ((1000 : Nat) : Int)), some (0, n), some (0, k26)] [] G28
                  refine s_aload_n dX12_compiles_139 rfl (Int.natCast_nonneg _) ?_
                  refine gf_compiled rfl dX12_compiles_140 hMG28 ?_
                  refine s_iload_n dX12_compiles_143 rfl ?_
                  refine s_dup2 dX12_compiles_144 (by simp) (by simp) ?_
                  refine s_iald dX12_compiles_145 (mg_a_compiled hMG28) (by omega) (by omega) (gsnE eG28 (by decide)) ?_
                  refine s_iconst dX12_compiles_146 (by decide) ?_
                  refine s_iaddW dX12_compiles_147 (fun w29 hrw29 hew29 => ?_)
                  refine r_iast dX12_compiles_148 hMG28 (mg_a_compiled hMG28) (by decide) (by omega) (by omega) (fun G30 eG30 hMG30 => ?_)
                  have hFG30 : Fr nX12_compiles jX12_compiles G G30 := Fr.setA hFG28 eG30 (by decide)
                  show WP kX12_compiles X 149 [some (2, ((1000 : Nat) : Int)), some (0, n), some (0, k26)] [] G30
                  refine s_iconst dX12_compiles_149 (by decide) ?_
                  exact s_zret hR dX12_compiles_150 rfl (by first | exact Or.inl rfl | exact Or.inr rfl | exact b2i_01 | omega) (hQ _ G30 hMG30 (⟨hFG30, ((iB26.f (by omega) eG28 (by omega)).agr ((Fr.setA (Fr.rf) eG30 (by decide) : Fr [a_compiled] [] G28 G30).agr (by decide) (by decide) (by decide)))⟩))
                · -- 102 to 105
                  refine s_aload_n dX12_compiles_105 rfl (Int.natCast_nonneg _) ?_
                  refine gf_face rfl dX12_compiles_106 hMG26 ?_
                  refine s_sipush dX12_compiles_109 rfl (by decide) ?_
                  refine s_iload_n dX12_compiles_112 rfl ?_
                  refine s_imul dX12_compiles_113 (by omega) ?_
                  refine s_iload_n dX12_compiles_114 rfl ?_
                  refine s_iadd dX12_compiles_115 (by omega) ?_
                  refine s_aload_n dX12_compiles_116 rfl (Int.natCast_nonneg _) ?_
                  refine gf_build rfl dX12_compiles_117 hMG26 ?_
                  refine s_iload_n dX12_compiles_120 rfl ?_
                  refine s_iald dX12_compiles_121 (mg_a_build hMG26) (by omega) (by omega) rfl ?_
                  refine r_iast dX12_compiles_122 hMG26 (mg_a_face hMG26) (by decide) (by omega) (by omega) (fun G31 eG31 hMG31 => ?_)
                  have hFG31 : Fr nX12_compiles jX12_compiles G G31 := Fr.setA hFG26 eG31 (by decide)
                  show WP kX12_compiles X 123 [some (2, ((1000 : Nat) : Int)), some (0, n), some (0, k26)] [] G31
                  have hbwG31 : gS G31 1000 102 = gS G26 1000 102 := (gsnE eG31 (by decide))
                  refine s_iinc dX12_compiles_123 (v := k26) rfl (by omega) (by decide) (lv' := [some (2, ((1000 : Nat) : Int)), some (0, n), some (0, k26 + 1)]) rfl ?_
                  refine s_goto (tgt := 97) dX12_compiles_126 (by decide) ?_
                  exact ih26 (k26 + 1) G31 hMG31 hFG31 (⟨(by omega), (by omega), (by exact iB26.agr ((Fr.setA (Fr.rf) eG31 (by decide) : Fr [a_face] [] G26 G31).agr (by decide) (by decide) (by decide)))⟩) (by omega)
            exact L26 _ 0 G24 hMG24 hFG24 (⟨(by omega), (by omega), (by exact hB1.agr ((Fr.call (Fr.setF (Fr.rf) eG23 (by decide)) hfG24 (by decide) (by decide) : Fr [a_build, a_stackOf] [102, 36] G22 G24).agr (by decide) (by decide) (by decide)))⟩) (Nat.lt_succ_self _)
          · -- 45 to 48
            refine s_aload_n dX12_compiles_48 rfl (Int.natCast_nonneg _) ?_
            refine gf_seen rfl dX12_compiles_49 hMG20 ?_
            refine s_sipush dX12_compiles_52 rfl (by decide) ?_
            refine s_iload_n dX12_compiles_55 rfl ?_
            refine s_imul dX12_compiles_56 (by omega) ?_
            refine s_iload_n dX12_compiles_57 rfl ?_
            refine s_iadd dX12_compiles_58 (by omega) ?_
            refine s_aload_n dX12_compiles_59 rfl (Int.natCast_nonneg _) ?_
            refine gf_build rfl dX12_compiles_60 hMG20 ?_
            refine s_iload_n dX12_compiles_63 rfl ?_
            refine s_iald dX12_compiles_64 (mg_a_build hMG20) (by omega) (by omega) rfl ?_
            refine r_iast dX12_compiles_65 hMG20 (mg_a_seen hMG20) (by decide) (by omega) (by omega) (fun G32 eG32 hMG32 => ?_)
            have hFG32 : Fr nX12_compiles jX12_compiles G G32 := Fr.setA hFG20 eG32 (by decide)
            show WP kX12_compiles X 66 [some (2, ((1000 : Nat) : Int)), some (0, n), some (0, k20)] [] G32
            have hbwG32 : gS G32 1000 102 = gS G20 1000 102 := (gsnE eG32 (by decide))
            refine s_iinc dX12_compiles_66 (v := k20) rfl (by omega) (by decide) (lv' := [some (2, ((1000 : Nat) : Int)), some (0, n), some (0, k20 + 1)]) rfl ?_
            refine s_goto (tgt := 40) dX12_compiles_69 (by decide) ?_
            exact ih20 (k20 + 1) G32 hMG32 hFG32 (⟨(by omega), (by omega), (by exact iB20.agr ((Fr.setA (Fr.rf) eG32 (by decide) : Fr [a_seen] [] G20 G32).agr (by decide) (by decide) (by decide)))⟩) (by omega)
      exact L20 _ 0 G17 hMG17 hFG17 (⟨(by omega), (by omega), (by exact hBI.agr ((Fr.call (Fr.call (Fr.rf) hfG1 (by decide) (by decide)) hfG17 (by decide) (by decide) : Fr [a_build, a_todo, a_stackOf] [102, 36] G G17).agr (by decide) (by decide) (by decide)))⟩) (Nat.lt_succ_self _)
    · -- 33 to 36
      refine s_iconst dX12_compiles_36 (by decide) ?_
      exact s_zret hR dX12_compiles_37 rfl (by first | exact Or.inl rfl | exact Or.inr rfl | exact b2i_01 | omega) (hQ _ G17 hMG17 (⟨hFG17, (hBI.agr ((Fr.call (Fr.call (Fr.rf) hfG1 (by decide) (by decide)) hfG17 (by decide) (by decide) : Fr [a_build, a_todo, a_stackOf] [102, 36] G G17).agr (by decide) (by decide) (by decide)))⟩))

abbrev nX12_build : List Nat := [a_fHead, a_raw, a_error, a_ident, a_byStamp, a_equation, a_uses, a_reaches, a_solved, a_by, a_fKind, a_fA, a_fB, a_fSize, a_fNext, a_fMark, a_thingKind, a_thingA, a_thingB, a_thingC, a_thingNext, a_thingHead, a_stackOf, a_fMemo, a_sType, a_sValue, a_sFlags, a_sNumber, a_todo, a_phase, a_found, a_build, a_seen, a_seenMany, a_face, a_faceMany, a_compiled]
abbrev jX12_build : List Nat := [26, 42, 35, 36, 40, 41, 25, 102]
def TX12_build : TR := fun as G Qr => ∃ (n : Int) (Hs : List (Int → Int)) (vv : Int → Int), as = [(2, ((1000 : Nat) : Int)), (0, n)] ∧ MG G ∧ (TH G Hs) ∧ (vv ∈ Hs) ∧ (vv = cur G) ∧ (TB G) ∧ (EX G) ∧ (UV G) ∧ (0 ≤ (gS G 1000 35) ∧ (gS G 1000 35) ≤ 1700000000) ∧ (BI G) ∧ ∀ (r : Int) (G' : LG), MG G' → (Fr nX12_build jX12_build G G' ∧ (QP G G' Hs ∧ BI G')) → Qr (.inl (some (0, r))) G'
set_option maxHeartbeats 4000000 in
set_option maxRecDepth 100000 in
theorem gX12_build : Good kX12_build yX12_build 10 TX12_build := by
  refine good_of (by decide) rfl rfl (fun as G Qr h => ?_) (fun X as G Qr hcf hR hT oa => ?_)
  · obtain ⟨n, Hs, vv, rfl, -⟩ := h; exact Nat.le_of_ble_eq_true rfl
  obtain ⟨n, Hs, vv, rfl, hM, hTH, hvv, hcu, hTB, hEX, hUV, hm, hBI, hQ⟩ := hT
  show WP kX12_build X 0 [some (2, ((1000 : Nat) : Int)), some (0, n), none, none, none, none] [] G
  have hr_n : inR n := okv_R (oa _ (by simp))
  have hND := hTH.2.2.2.1
  have hnd := hND.1
  refine s_aload_n dX12_build_0 rfl (Int.natCast_nonneg _) ?_
  refine s_aload_n dX12_build_1 rfl (Int.natCast_nonneg _) ?_
  refine s_iload_n dX12_build_2 rfl ?_
  refine cv_X12_330 rfl gX12_isNode dX12_build_3 hM (by rw [hcf]; decide) (as := [(0, n)]) rfl (Nat.le_of_ble_eq_true rfl) ⟨n, rfl, hM, (by first | assumption | omega), ?_⟩
  show WP kX12_build X 6 [some (2, ((1000 : Nat) : Int)), some (0, n), none, none, none, none] [(0, b2i (0 ≤ n ∧ n < (gS G 1000 18))), (2, ((1000 : Nat) : Int))] G
  refine s_iconst dX12_build_6 (by decide) ?_
  refine s_iconst dX12_build_7 (by decide) ?_
  refine cv_X12_298 rfl gX12_goes dX12_build_8 hM (by rw [hcf]; decide) (as := [(0, b2i (0 ≤ n ∧ n < (gS G 1000 18))), (0, 1), (0, 1)]) rfl (Nat.le_of_ble_eq_true rfl) ⟨b2i (0 ≤ n ∧ n < (gS G 1000 18)), 1, 1, rfl, hM, fun r2 G1 hMG1 hpG1 => ?_⟩
  obtain ⟨eG1, hpG1⟩ := hpG1
  have hFG1 : Fr nX12_build jX12_build G G1 := Fr.setF Fr.rf eG1 (by decide)
  show WP kX12_build X 11 [some (2, ((1000 : Nat) : Int)), some (0, n), none, none, none, none] [(0, r2)] G1
  refine s_if_ne (tgt := 16) dX12_build_11 (by decide) (fun c3 => ?_) (fun c3 => ?_)
  · -- 11 to 16
    have hg := b2i_n (goes_r hpG1 (by assumption)).1
    have hn9 : 0 ≤ n ∧ n < (gS G1 1000 18) := by rw [(Fr.setF (Fr.rf) eG1 (by decide) : Fr [] [25] G G1).atF (by decide) (by decide)]; exact hg
    have hn8 : 0 ≤ n ∧ n < (gS G 1000 18) := hg
    refine s_aload_n dX12_build_16 rfl (Int.natCast_nonneg _) ?_
    refine s_lconst dX12_build_17 ?_
    show WP kX12_build X 18 [some (2, ((1000 : Nat) : Int)), some (0, n), none, none, none, none] [(1, 1), (2, ((1000 : Nat) : Int))] G1
    refine s_iload_n dX12_build_18 rfl ?_
    refine s_lshl dX12_build_19 ?_
    refine cv_X12_477 rfl gX12_faces dX12_build_20 hMG1 (by rw [hcf]; decide) (as := [(1, l_shl 1 n)]) rfl (Nat.le_of_ble_eq_true rfl) ⟨l_shl 1 n, Hs, vv, n, n, rfl, hMG1, (by exact hTH.agr ((Fr.setF (Fr.rf) eG1 (by decide) : Fr [] [25] G G1).agr (by decide) (by decide) (by decide))), (by exact hvv), (by rw [(TX.agr ((Fr.setF (Fr.rf) eG1 (by decide) : Fr [] [25] G G1).agr (by decide) (by decide) (by decide))).cur]; exact hcu), (by exact hTB.agr ((Fr.setF (Fr.rf) eG1 (by decide) : Fr [] [25] G G1).agr (by decide) (by decide) (by decide))), (by exact hEX.agr ((Fr.setF (Fr.rf) eG1 (by decide) : Fr [] [25] G G1).agr (by decide) (by decide) (by decide))), (by exact hUV.agr ((Fr.setF (Fr.rf) eG1 (by decide) : Fr [] [25] G G1).agr (by decide) (by decide) (by decide))), (by rw [(Fr.setF (Fr.rf) eG1 (by decide) : Fr [] [25] G G1).atF (by decide) (by decide)]; exact hm), (by exact hn9), (by exact hn9), (by intro m m0 m1 q; exact Or.inl ((bitL_shl (by omega) (by omega) m0 m1).mp q)), fun G4 hMG4 hpG4 => ?_⟩
    obtain ⟨hfG4, hpG4⟩ := hpG4
    have hFG4 : Fr nX12_build jX12_build G G4 := Fr.call hFG1 hfG4 (by decide) (by decide)
    show WP kX12_build X 23 [some (2, ((1000 : Nat) : Int)), some (0, n), none, none, none, none] [] G4
    have hfp := hpG4
    have hq1 : QP G G4 Hs := (QP.trans0 ((((QP.rf hTH : QP G G Hs)).fr (Fr.setF Fr.rf eG1 (by decide) : Fr [] [25] G G1) (by decide) (by decide) (by decide) (by decide))) ((Fr.setF (Fr.rf) eG1 (by decide) : Fr [] [25] G G1).atF (by decide) (by decide)) (hpG4.qp))
    have hND0 : ND G1 := hND.agr ((Fr.setF (Fr.rf) eG1 (by decide) : Fr [] [25] G G1).agr (by decide) (by decide) (by decide))
    obtain ⟨S, hS1, hS2⟩ := hfp.rs hND0
    have hFU1 := hfp.1
    have hth1 := th_bound hfp.2.1
    have hND1 : ND G4 := hq1.1.2.2.2.1
    have hU1 : UV G4 := hUV.agr ((Fr.call (Fr.setF (Fr.rf) eG1 (by decide)) hfG4 (by decide) (by decide) : Fr [a_fHead, a_raw, a_error, a_ident, a_byStamp, a_equation, a_uses, a_reaches, a_solved, a_by, a_fKind, a_fA, a_fB, a_fSize, a_fNext, a_fMark, a_thingKind, a_thingA, a_thingB, a_thingC, a_thingNext, a_thingHead, a_stackOf, a_fMemo, a_sType, a_sValue, a_sFlags, a_sNumber, a_todo, a_phase, a_found] [25, 26, 42, 35, 36, 40, 41] G G4).agr (by decide) (by decide) (by decide))
    have hX1 : EX G4 := hEX.agr ((Fr.call (Fr.setF (Fr.rf) eG1 (by decide)) hfG4 (by decide) (by decide) : Fr [a_fHead, a_raw, a_error, a_ident, a_byStamp, a_equation, a_uses, a_reaches, a_solved, a_by, a_fKind, a_fA, a_fB, a_fSize, a_fNext, a_fMark, a_thingKind, a_thingA, a_thingB, a_thingC, a_thingNext, a_thingHead, a_stackOf, a_fMemo, a_sType, a_sValue, a_sFlags, a_sNumber, a_todo, a_phase, a_found] [25, 26, 42, 35, 36, 40, 41] G G4).agr (by decide) (by decide) (by decide))
    have hT1 : TB G4 := hTB.agr ((Fr.call (Fr.setF (Fr.rf) eG1 (by decide)) hfG4 (by decide) (by decide) : Fr [a_fHead, a_raw, a_error, a_ident, a_byStamp, a_equation, a_uses, a_reaches, a_solved, a_by, a_fKind, a_fA, a_fB, a_fSize, a_fNext, a_fMark, a_thingKind, a_thingA, a_thingB, a_thingC, a_thingNext, a_thingHead, a_stackOf, a_fMemo, a_sType, a_sValue, a_sFlags, a_sNumber, a_todo, a_phase, a_found] [25, 26, 42, 35, 36, 40, 41] G G4).agr (by decide) (by decide) (by decide))
    have hB1 : BI G4 := hBI.agr ((Fr.call (Fr.setF (Fr.rf) eG1 (by decide)) hfG4 (by decide) (by decide) : Fr [a_fHead, a_raw, a_error, a_ident, a_byStamp, a_equation, a_uses, a_reaches, a_solved, a_by, a_fKind, a_fA, a_fB, a_fSize, a_fNext, a_fMark, a_thingKind, a_thingA, a_thingB, a_thingC, a_thingNext, a_thingHead, a_stackOf, a_fMemo, a_sType, a_sValue, a_sFlags, a_sNumber, a_todo, a_phase, a_found] [25, 26, 42, 35, 36, 40, 41] G G4).agr (by decide) (by decide) (by decide))
    have hno1 : (gS G4 1000 18) = (gS G 1000 18) := hq1.2.1.2.1
    have hn40 := hND1.1
    have hsn : S n := hS1 n hn8.1 (by omega) (bitL_self hn8.1 (by omega))
    refine s_aload_n dX12_build_23 rfl (Int.natCast_nonneg _) ?_
    refine s_lconst dX12_build_24 ?_
    show WP kX12_build X 25 [some (2, ((1000 : Nat) : Int)), some (0, n), none, none, none, none] [(1, 1), (2, ((1000 : Nat) : Int))] G4
    refine s_iload_n dX12_build_25 rfl ?_
    refine s_lshl dX12_build_26 ?_
    refine cv_X12_470 rfl gX12_reachOf dX12_build_27 hMG4 (by rw [hcf]; decide) (as := [(1, l_shl 1 n)]) rfl (Nat.le_of_ble_eq_true rfl) ⟨l_shl 1 n, rfl, hMG4, (by exact hND1), fun r7 G6 hMG6 hpG6 => ?_⟩
    obtain ⟨hfG6, hpG6⟩ := hpG6
    have hFG6 : Fr nX12_build jX12_build G G6 := Fr.call hFG4 hfG6 (by decide) (by decide)
    show WP kX12_build X 30 [some (2, ((1000 : Nat) : Int)), some (0, n), none, none, none, none] [(1, r7)] G6
    refine s_lstore_n dX12_build_30 (by decide) (lv' := [some (2, ((1000 : Nat) : Int)), some (0, n), some (1, r7), none, none, none]) rfl ?_
    have hrc := hpG6
    have hbS : ∀ m : Int, 0 ≤ m → m < 64 → bitL r7 m → S m := hrc.2.2 S (fun m m0 m1 q => hS1 m m0 (by rw [(bitL_shl (by omega) (by omega) m0 m1).mp q]; omega) q) (fun m m0 m1 q k k0 k1 => (hS2 m q).2.2 k k0 k1)
    refine s_iconst dX12_build_31 (by decide) ?_
    refine s_istore dX12_build_32 (by decide) (lv' := [some (2, ((1000 : Nat) : Int)), some (0, n), some (1, r7), none, some (0, 0), none]) rfl ?_
    refine s_iconst dX12_build_34 (by decide) ?_
    refine s_istore dX12_build_35 (by decide) (lv' := [some (2, ((1000 : Nat) : Int)), some (0, n), some (1, r7), none, some (0, 0), some (0, 0)]) rfl ?_
    have L8 : ∀ (n8 : Nat) (c8 : Int) (x8 : Int) (G8 : LG), MG G8 → Fr nX12_build jX12_build G G8 → ((0 ≤ x8 ∧ x8 ≤ (gS G4 1000 18)) ∧ (0 ≤ c8 ∧ c8 ≤ x8) ∧ (Fr nX12_compiles jX12_compiles G4 G8) ∧ (BI G8)) → ((gS G4 1000 18) - x8).toNat < n8 → WP kX12_build X 37 [some (2, ((1000 : Nat) : Int)), some (0, n), some (1, r7), none, some (0, c8), some (0, x8)] [] G8 := by
      intro n8
      induction n8 with
      | zero => intro c8 x8 G8 hMG8 hFG8 hi8 hm8; exact absurd hm8 (Nat.not_lt_zero _)
      | succ n8 ih8 =>
        intro c8 x8 G8 hMG8 hFG8 hi8 hm8
        have hj8 := hi8
        obtain ⟨ix8, ic8, iR8, iB8⟩ := hi8
        have ino8 : (gS G8 1000 18) = (gS G4 1000 18) := iR8.atF (by decide) (by decide)
        refine s_iload dX12_build_37 rfl ?_
        refine s_aload_n dX12_build_39 rfl (Int.natCast_nonneg _) ?_
        refine gf_nodes rfl dX12_build_40 hMG8 rfl ?_
        refine s_icmp_ge (tgt := 82) dX12_build_43 (by decide) (fun c9 => ?_) (fun c9 => ?_)
        · -- 43 to 82
          refine s_iload dX12_build_82 rfl ?_
          exact s_iret hR dX12_build_84 rfl (hQ _ G8 hMG8 (⟨hFG8, ⟨hq1.fr iR8 (by decide) (by decide) (by decide) (by decide), iB8⟩⟩))
        · -- 43 to 46
          refine s_iload dX12_build_46 rfl ?_
          refine s_lload_n dX12_build_48 rfl ?_
          refine s_iload dX12_build_49 rfl ?_
          refine s_lshr dX12_build_51 ?_
          refine s_lconst dX12_build_52 ?_
          show WP kX12_build X 53 [some (2, ((1000 : Nat) : Int)), some (0, n), some (1, r7), none, some (0, c8), some (0, x8)] [(1, 1), (1, l_shr r7 x8), (0, c8)] G8
          refine s_land dX12_build_53 ?_
          refine s_lconst dX12_build_54 ?_
          show WP kX12_build X 55 [some (2, ((1000 : Nat) : Int)), some (0, n), some (1, r7), none, some (0, c8), some (0, x8)] [(1, 1), (1, l_and (l_shr r7 x8) 1), (0, c8)] G8
          refine s_lcmp dX12_build_55 (fun w10 hrw10 hcw10 hqw10 hgw10 => ?_)
          refine s_if_ne (tgt := 72) dX12_build_56 (by decide) (fun c11 => ?_) (fun c11 => ?_)
          · -- 56 to 72
            refine s_iconst dX12_build_72 (by decide) ?_
            refine s_iadd dX12_build_73 (by omega) ?_
            refine s_istore dX12_build_74 (by decide) (lv' := [some (2, ((1000 : Nat) : Int)), some (0, n), some (1, r7), none, some (0, c8 + 0), some (0, x8)]) rfl ?_
            refine s_iinc dX12_build_76 (v := x8) rfl (by omega) (by decide) (lv' := [some (2, ((1000 : Nat) : Int)), some (0, n), some (1, r7), none, some (0, c8 + 0), some (0, x8 + 1)]) rfl ?_
            refine s_goto (tgt := 37) dX12_build_79 (by decide) ?_
            exact ih8 (c8 + 0) (x8 + 1) G8 hMG8 hFG8 (⟨(by omega), (by omega), (by exact iR8), (by exact iB8)⟩) (by omega)
          · -- 56 to 59
            refine s_aload_n dX12_build_59 rfl (Int.natCast_nonneg _) ?_
            have hb : bitL r7 x8 := by unfold bitL; omega
            have hsx : S x8 := hbS x8 (by omega) (by omega) hb
            have hsy := hS2 _ hsx
            refine s_iload dX12_build_60 rfl ?_
            refine cv_X12_638 rfl gX12_compiles dX12_build_62 hMG8 (by rw [hcf]; decide) (as := [(0, x8)]) rfl (Nat.le_of_ble_eq_true rfl) ⟨x8, rfl, hMG8, (by exact hT1.agr (iR8.agr (by decide) (by decide) (by decide))), (by exact hX1.agr (iR8.agr (by decide) (by decide) (by decide))), (by exact hU1.agr (iR8.agr (by decide) (by decide) (by decide))), (by exact hND1.agr (iR8.agr (by decide) (by decide) (by decide))), (by exact hFU1.agr (iR8.agr (by decide) (by decide) (by decide)) (by rw [iR8.atF (j := 42) (by decide) (by decide)]; exact Int.le_refl _)), (by (have z9 := iR8.atF (j := 42) (by decide) (by decide); omega)), (by omega), (by exact hsy.2.1.agr (iR8.agr (by decide) (by decide) (by decide))), (by intro k k0 k1; rw [nMany.fr iR8 (by decide)] at k1; rw [nPart.fr iR8 (by decide) (by decide) (by decide)]; exact (hS2 _ (hsy.2.2 k k0 k1)).2.1.agr (iR8.agr (by decide) (by decide) (by decide))), (by exact iB8), fun r13 G12 hMG12 hpG12 => ?_⟩
            obtain ⟨hfG12, hpG12⟩ := hpG12
            have hFG12 : Fr nX12_build jX12_build G G12 := Fr.call hFG8 hfG12 (by decide) (by decide)
            show WP kX12_build X 65 [some (2, ((1000 : Nat) : Int)), some (0, n), some (1, r7), none, some (0, c8), some (0, x8)] [(0, r13), (0, c8)] G12
            have J15 : ∀ z14 : Int, ((r13 = 0) ∧ z14 = 0) ∨ ((¬ r13 = 0) ∧ z14 = 1) → WP kX12_build X 73 [some (2, ((1000 : Nat) : Int)), some (0, n), some (1, r7), none, some (0, c8), some (0, x8)] [(0, z14), (0, c8)] G12 := by
              intro z14 hz14
              refine s_iadd dX12_build_73 (by omega) ?_
              refine s_istore dX12_build_74 (by decide) (lv' := [some (2, ((1000 : Nat) : Int)), some (0, n), some (1, r7), none, some (0, c8 + z14), some (0, x8)]) rfl ?_
              refine s_iinc dX12_build_76 (v := x8) rfl (by omega) (by decide) (lv' := [some (2, ((1000 : Nat) : Int)), some (0, n), some (1, r7), none, some (0, c8 + z14), some (0, x8 + 1)]) rfl ?_
              refine s_goto (tgt := 37) dX12_build_79 (by decide) ?_
              exact ih8 (c8 + z14) (x8 + 1) G12 hMG12 hFG12 (⟨(by omega), (by omega), (by exact Fr.call iR8 hfG12 (by decide) (by decide)), (by exact hpG12)⟩) (by omega)
            refine s_if_eq (tgt := 72) dX12_build_65 (by decide) (fun c16 => ?_) (fun c16 => ?_)
            · -- 65 to 72
              refine s_iconst dX12_build_72 (by decide) ?_
              exact J15 0 (Or.inl ⟨c16, rfl⟩)
            · -- 65 to 68
              refine s_iconst dX12_build_68 (by decide) ?_
              refine s_goto (tgt := 73) dX12_build_69 (by decide) ?_
              exact J15 1 (Or.inr (⟨c16, rfl⟩))
    exact L8 _ 0 0 G6 hMG6 hFG6 (⟨(by omega), (by omega), (by exact Fr.call (ns := nX12_compiles) (js := jX12_compiles) Fr.rf (Fr.call (Fr.rf) hfG6 (by decide) (by decide) : Fr [] [] G4 G6) (by decide) (by decide)), (by exact hB1.agr ((Fr.call (Fr.rf) hfG6 (by decide) (by decide) : Fr [] [] G4 G6).agr (by decide) (by decide) (by decide)))⟩) (Nat.lt_succ_self _)
  · -- 11 to 14
    refine s_iconst dX12_build_14 (by decide) ?_
    exact s_iret hR dX12_build_15 rfl (hQ _ G1 hMG1 (⟨hFG1, ⟨(((QP.rf hTH : QP G G Hs)).fr (Fr.setF Fr.rf eG1 (by decide) : Fr [] [25] G G1) (by decide) (by decide) (by decide) (by decide)), hBI.agr ((Fr.setF (Fr.rf) eG1 (by decide) : Fr [] [25] G G1).agr (by decide) (by decide) (by decide))⟩⟩))

abbrev nX12_isFresh : List Nat := [a_fHead, a_raw, a_error, a_ident, a_byStamp, a_equation, a_uses, a_reaches, a_solved, a_by, a_fKind, a_fA, a_fB, a_fSize, a_fNext, a_fMark, a_thingKind, a_thingA, a_thingB, a_thingC, a_thingNext, a_thingHead, a_stackOf, a_fMemo, a_sType, a_sValue, a_sFlags, a_sNumber, a_todo, a_phase, a_found, a_build]
abbrev jX12_isFresh : List Nat := [26, 42, 35, 36, 40, 41, 25, 102]
def TX12_isFresh : TR := fun as G Qr => ∃ (n : Int) (Hs : List (Int → Int)) (vv : Int → Int), as = [(2, ((1000 : Nat) : Int)), (0, n)] ∧ MG G ∧ (TH G Hs) ∧ (vv ∈ Hs) ∧ (vv = cur G) ∧ (TB G) ∧ (EX G) ∧ (UV G) ∧ (0 ≤ (gS G 1000 35) ∧ (gS G 1000 35) ≤ 1700000000) ∧ (BI G) ∧ ∀ (r : Int) (G' : LG), MG G' → (Fr nX12_isFresh jX12_isFresh G G' ∧ (QP G G' Hs)) → Qr (.inl (some (0, r))) G'
set_option maxHeartbeats 4000000 in
set_option maxRecDepth 100000 in
theorem gX12_isFresh : Good kX12_isFresh yX12_isFresh 10 TX12_isFresh := by
  refine good_of (by decide) rfl rfl (fun as G Qr h => ?_) (fun X as G Qr hcf hR hT oa => ?_)
  · obtain ⟨n, Hs, vv, rfl, -⟩ := h; exact Nat.le_of_ble_eq_true rfl
  obtain ⟨n, Hs, vv, rfl, hM, hTH, hvv, hcu, hTB, hEX, hUV, hm, hBI, hQ⟩ := hT
  show WP kX12_isFresh X 0 [some (2, ((1000 : Nat) : Int)), some (0, n)] [] G
  have hr_n : inR n := okv_R (oa _ (by simp))
  have hND := hTH.2.2.2.1
  have hnd := hND.1
  refine s_aload_n dX12_isFresh_0 rfl (Int.natCast_nonneg _) ?_
  refine s_aload_n dX12_isFresh_1 rfl (Int.natCast_nonneg _) ?_
  refine s_iload_n dX12_isFresh_2 rfl ?_
  refine cv_X12_330 rfl gX12_isNode dX12_isFresh_3 hM (by rw [hcf]; decide) (as := [(0, n)]) rfl (Nat.le_of_ble_eq_true rfl) ⟨n, rfl, hM, (by first | assumption | omega), ?_⟩
  show WP kX12_isFresh X 6 [some (2, ((1000 : Nat) : Int)), some (0, n)] [(0, b2i (0 ≤ n ∧ n < (gS G 1000 18))), (2, ((1000 : Nat) : Int))] G
  refine s_iconst dX12_isFresh_6 (by decide) ?_
  refine s_iconst dX12_isFresh_7 (by decide) ?_
  refine cv_X12_298 rfl gX12_goes dX12_isFresh_8 hM (by rw [hcf]; decide) (as := [(0, b2i (0 ≤ n ∧ n < (gS G 1000 18))), (0, 1), (0, 1)]) rfl (Nat.le_of_ble_eq_true rfl) ⟨b2i (0 ≤ n ∧ n < (gS G 1000 18)), 1, 1, rfl, hM, fun r2 G1 hMG1 hpG1 => ?_⟩
  obtain ⟨eG1, hpG1⟩ := hpG1
  have hFG1 : Fr nX12_isFresh jX12_isFresh G G1 := Fr.setF Fr.rf eG1 (by decide)
  show WP kX12_isFresh X 11 [some (2, ((1000 : Nat) : Int)), some (0, n)] [(0, r2)] G1
  refine s_if_ne (tgt := 16) dX12_isFresh_11 (by decide) (fun c3 => ?_) (fun c3 => ?_)
  · -- 11 to 16
    have hg := b2i_n (goes_r hpG1 (by assumption)).1
    have hn9 : 0 ≤ n ∧ n < (gS G1 1000 18) := by rw [(Fr.setF (Fr.rf) eG1 (by decide) : Fr [] [25] G G1).atF (by decide) (by decide)]; exact hg
    have hn8 : 0 ≤ n ∧ n < (gS G 1000 18) := hg
    refine s_aload_n dX12_isFresh_16 rfl (Int.natCast_nonneg _) ?_
    refine s_lconst dX12_isFresh_17 ?_
    show WP kX12_isFresh X 18 [some (2, ((1000 : Nat) : Int)), some (0, n)] [(1, 1), (2, ((1000 : Nat) : Int))] G1
    refine s_iload_n dX12_isFresh_18 rfl ?_
    refine s_lshl dX12_isFresh_19 ?_
    refine cv_X12_477 rfl gX12_faces dX12_isFresh_20 hMG1 (by rw [hcf]; decide) (as := [(1, l_shl 1 n)]) rfl (Nat.le_of_ble_eq_true rfl) ⟨l_shl 1 n, Hs, vv, n, n, rfl, hMG1, (by exact hTH.agr ((Fr.setF (Fr.rf) eG1 (by decide) : Fr [] [25] G G1).agr (by decide) (by decide) (by decide))), (by exact hvv), (by rw [(TX.agr ((Fr.setF (Fr.rf) eG1 (by decide) : Fr [] [25] G G1).agr (by decide) (by decide) (by decide))).cur]; exact hcu), (by exact hTB.agr ((Fr.setF (Fr.rf) eG1 (by decide) : Fr [] [25] G G1).agr (by decide) (by decide) (by decide))), (by exact hEX.agr ((Fr.setF (Fr.rf) eG1 (by decide) : Fr [] [25] G G1).agr (by decide) (by decide) (by decide))), (by exact hUV.agr ((Fr.setF (Fr.rf) eG1 (by decide) : Fr [] [25] G G1).agr (by decide) (by decide) (by decide))), (by rw [(Fr.setF (Fr.rf) eG1 (by decide) : Fr [] [25] G G1).atF (by decide) (by decide)]; exact hm), (by exact hn9), (by exact hn9), (by intro m m0 m1 q; exact Or.inl ((bitL_shl (by omega) (by omega) m0 m1).mp q)), fun G4 hMG4 hpG4 => ?_⟩
    obtain ⟨hfG4, hpG4⟩ := hpG4
    have hFG4 : Fr nX12_isFresh jX12_isFresh G G4 := Fr.call hFG1 hfG4 (by decide) (by decide)
    show WP kX12_isFresh X 23 [some (2, ((1000 : Nat) : Int)), some (0, n)] [] G4
    have hfp := hpG4
    have hq1 : QP G G4 Hs := (QP.trans0 ((((QP.rf hTH : QP G G Hs)).fr (Fr.setF Fr.rf eG1 (by decide) : Fr [] [25] G G1) (by decide) (by decide) (by decide) (by decide))) ((Fr.setF (Fr.rf) eG1 (by decide) : Fr [] [25] G G1).atF (by decide) (by decide)) (hpG4.qp))
    have hND0 : ND G1 := hND.agr ((Fr.setF (Fr.rf) eG1 (by decide) : Fr [] [25] G G1).agr (by decide) (by decide) (by decide))
    obtain ⟨S, hS1, hS2⟩ := hfp.rs hND0
    have hFU1 := hfp.1
    have hth1 := th_bound hfp.2.1
    have hND1 : ND G4 := hq1.1.2.2.2.1
    have hU1 : UV G4 := hUV.agr ((Fr.call (Fr.setF (Fr.rf) eG1 (by decide)) hfG4 (by decide) (by decide) : Fr [a_fHead, a_raw, a_error, a_ident, a_byStamp, a_equation, a_uses, a_reaches, a_solved, a_by, a_fKind, a_fA, a_fB, a_fSize, a_fNext, a_fMark, a_thingKind, a_thingA, a_thingB, a_thingC, a_thingNext, a_thingHead, a_stackOf, a_fMemo, a_sType, a_sValue, a_sFlags, a_sNumber, a_todo, a_phase, a_found] [25, 26, 42, 35, 36, 40, 41] G G4).agr (by decide) (by decide) (by decide))
    have hX1 : EX G4 := hEX.agr ((Fr.call (Fr.setF (Fr.rf) eG1 (by decide)) hfG4 (by decide) (by decide) : Fr [a_fHead, a_raw, a_error, a_ident, a_byStamp, a_equation, a_uses, a_reaches, a_solved, a_by, a_fKind, a_fA, a_fB, a_fSize, a_fNext, a_fMark, a_thingKind, a_thingA, a_thingB, a_thingC, a_thingNext, a_thingHead, a_stackOf, a_fMemo, a_sType, a_sValue, a_sFlags, a_sNumber, a_todo, a_phase, a_found] [25, 26, 42, 35, 36, 40, 41] G G4).agr (by decide) (by decide) (by decide))
    have hT1 : TB G4 := hTB.agr ((Fr.call (Fr.setF (Fr.rf) eG1 (by decide)) hfG4 (by decide) (by decide) : Fr [a_fHead, a_raw, a_error, a_ident, a_byStamp, a_equation, a_uses, a_reaches, a_solved, a_by, a_fKind, a_fA, a_fB, a_fSize, a_fNext, a_fMark, a_thingKind, a_thingA, a_thingB, a_thingC, a_thingNext, a_thingHead, a_stackOf, a_fMemo, a_sType, a_sValue, a_sFlags, a_sNumber, a_todo, a_phase, a_found] [25, 26, 42, 35, 36, 40, 41] G G4).agr (by decide) (by decide) (by decide))
    have hB1 : BI G4 := hBI.agr ((Fr.call (Fr.setF (Fr.rf) eG1 (by decide)) hfG4 (by decide) (by decide) : Fr [a_fHead, a_raw, a_error, a_ident, a_byStamp, a_equation, a_uses, a_reaches, a_solved, a_by, a_fKind, a_fA, a_fB, a_fSize, a_fNext, a_fMark, a_thingKind, a_thingA, a_thingB, a_thingC, a_thingNext, a_thingHead, a_stackOf, a_fMemo, a_sType, a_sValue, a_sFlags, a_sNumber, a_todo, a_phase, a_found] [25, 26, 42, 35, 36, 40, 41] G G4).agr (by decide) (by decide) (by decide))
    have hno1 : (gS G4 1000 18) = (gS G 1000 18) := hq1.2.1.2.1
    have hn40 := hND1.1
    have hsn : S n := hS1 n hn8.1 (by omega) (bitL_self hn8.1 (by omega))
    refine s_aload_n dX12_isFresh_23 rfl (Int.natCast_nonneg _) ?_
    refine s_iconst dX12_isFresh_24 (by decide) ?_
    refine pf_built rfl dX12_isFresh_25 hMG4 (fun G6 eG6 hMG6 => ?_)
    have hFG6 : Fr nX12_isFresh jX12_isFresh G G6 := Fr.setF hFG4 eG6 (by decide)
    have hbwG6 : gS G6 1000 102 = 0 := (gsaE eG6)
    refine s_aload_n dX12_isFresh_28 rfl (Int.natCast_nonneg _) ?_
    refine s_iload_n dX12_isFresh_29 rfl ?_
    refine s_sipush dX12_isFresh_30 rfl (by decide) ?_
    refine cv_X12_628 rfl gX12_tellsFace dX12_isFresh_33 hMG6 (by rw [hcf]; decide) (as := [(0, n), (0, 1023)]) rfl (Nat.le_of_ble_eq_true rfl) ⟨n, 1023, rfl, hMG6, (by exact hFU1.agr ((Fr.setF (Fr.rf) eG6 (by decide) : Fr [] [102] G4 G6).agr (by decide) (by decide) (by decide)) (by rw [(Fr.setF (Fr.rf) eG6 (by decide) : Fr [] [102] G4 G6).atF (j := 42) (by decide) (by decide)]; exact Int.le_refl _)), (by (have z9 := (Fr.setF (Fr.rf) eG6 (by decide) : Fr [] [102] G4 G6).atF (j := 42) (by decide) (by decide); omega)), (by omega), (by exact (hS2 _ hsn).2.1.agr ((Fr.setF (Fr.rf) eG6 (by decide) : Fr [] [102] G4 G6).agr (by decide) (by decide) (by decide))), (by omega), fun G7 hMG7 hpG7 => ?_⟩
    obtain ⟨hfG7, hpG7⟩ := hpG7
    have hFG7 : Fr nX12_isFresh jX12_isFresh G G7 := Fr.call hFG6 hfG7 (by decide) (by decide)
    show WP kX12_isFresh X 36 [some (2, ((1000 : Nat) : Int)), some (0, n)] [] G7
    refine s_aload_n dX12_isFresh_36 rfl (Int.natCast_nonneg _) ?_
    refine gf_compiled rfl dX12_isFresh_37 hMG7 ?_
    refine s_iload_n dX12_isFresh_40 rfl ?_
    refine s_iald dX12_isFresh_41 (mg_a_compiled hMG7) (by omega) (by omega) (Eq.trans (Fr.atA hfG7 (by decide) (by decide)) (Eq.trans (gsnE eG6 (by decide)) (Eq.trans (Fr.atA hfG4 (by decide) (by decide)) (gsnE eG1 (by decide))))) ?_
    refine s_if_eq (tgt := 67) dX12_isFresh_42 (by decide) (fun c9 => ?_) (fun c9 => ?_)
    · -- 42 to 67
      refine s_iconst dX12_isFresh_67 (by decide) ?_
      refine s_goto (tgt := 72) dX12_isFresh_68 (by decide) ?_
      exact s_zret hR dX12_isFresh_72 rfl (by first | exact Or.inl rfl | exact Or.inr rfl | exact b2i_01 | omega) (hQ _ G7 hMG7 (⟨hFG7, hq1.fr (Fr.call (Fr.setF (Fr.rf) eG6 (by decide)) hfG7 (by decide) (by decide) : Fr [a_build, a_stackOf] [102, 36] G4 G7) (by decide) (by decide) (by decide) (by decide)⟩))
    · -- 42 to 45
      have hbi := (hBI n (by omega) (by omega)).2
      refine s_aload_n dX12_isFresh_45 rfl (Int.natCast_nonneg _) ?_
      refine s_aload_n dX12_isFresh_46 rfl (Int.natCast_nonneg _) ?_
      refine gf_face rfl dX12_isFresh_47 hMG7 ?_
      refine s_sipush dX12_isFresh_50 rfl (by decide) ?_
      refine s_iload_n dX12_isFresh_53 rfl ?_
      refine s_imul dX12_isFresh_54 (by omega) ?_
      refine s_aload_n dX12_isFresh_55 rfl (Int.natCast_nonneg _) ?_
      refine gf_faceMany rfl dX12_isFresh_56 hMG7 ?_
      refine s_iload_n dX12_isFresh_59 rfl ?_
      refine s_iald dX12_isFresh_60 (mg_a_faceMany hMG7) (by omega) (by omega) (Eq.trans (Fr.atA hfG7 (by decide) (by decide)) (Eq.trans (gsnE eG6 (by decide)) (Eq.trans (Fr.atA hfG4 (by decide) (by decide)) (gsnE eG1 (by decide))))) ?_
      refine cv_X12_634 rfl gX12_isAs dX12_isFresh_61 hMG7 (by rw [hcf]; decide) (as := [(2, ((a_face : Nat) : Int)), (0, 3400 * n), (0, gS G a_faceMany ((n).toNat))]) rfl (Nat.le_of_ble_eq_true rfl) ⟨a_face, 3400 * n, gS G a_faceMany ((n).toNat), 136000, rfl, hMG7, (by intro G9 h9; exact mg_a_face h9), (by omega), (by omega), fun r11 G10 hMG10 hpG10 => ?_⟩
      obtain ⟨hfG10, hpG10⟩ := hpG10
      have hFG10 : Fr nX12_isFresh jX12_isFresh G G10 := Fr.call hFG7 hfG10 (by decide) (by decide)
      show WP kX12_isFresh X 64 [some (2, ((1000 : Nat) : Int)), some (0, n)] [(0, r11)] G10
      have J13 : ∀ z12 : Int, ((r11 = 0) ∧ z12 = 0) ∨ ((¬ r11 = 0) ∧ z12 = 1) → WP kX12_isFresh X 72 [some (2, ((1000 : Nat) : Int)), some (0, n)] [(0, z12)] G10 := by
        intro z12 hz12
        exact s_zret hR dX12_isFresh_72 rfl (by first | exact Or.inl rfl | exact Or.inr rfl | exact b2i_01 | omega) (hQ _ G10 hMG10 (⟨hFG10, hq1.fr (Fr.call (Fr.call (Fr.setF (Fr.rf) eG6 (by decide)) hfG7 (by decide) (by decide)) hfG10 (by decide) (by decide) : Fr [a_build, a_stackOf] [102, 36] G4 G10) (by decide) (by decide) (by decide) (by decide)⟩))
      refine s_if_eq (tgt := 71) dX12_isFresh_64 (by decide) (fun c14 => ?_) (fun c14 => ?_)
      · -- 64 to 71
        refine s_iconst dX12_isFresh_71 (by decide) ?_
        exact J13 0 (Or.inl ⟨c14, rfl⟩)
      · -- 64 to 67
        refine s_iconst dX12_isFresh_67 (by decide) ?_
        refine s_goto (tgt := 72) dX12_isFresh_68 (by decide) ?_
        exact J13 1 (Or.inr (⟨c14, rfl⟩))
  · -- 11 to 14
    refine s_iconst dX12_isFresh_14 (by decide) ?_
    exact s_zret hR dX12_isFresh_15 rfl (by first | exact Or.inl rfl | exact Or.inr rfl | exact b2i_01 | omega) (hQ _ G1 hMG1 (⟨hFG1, (((QP.rf hTH : QP G G Hs)).fr (Fr.setF Fr.rf eG1 (by decide) : Fr [] [25] G G1) (by decide) (by decide) (by decide) (by decide))⟩))

abbrev nX12_compiled : List Nat := []
abbrev jX12_compiled : List Nat := [25]
def TX12_compiled : TR := fun as G Qr => ∃ (n : Int), as = [(2, ((1000 : Nat) : Int)), (0, n)] ∧ MG G ∧ (0 ≤ (gS G 1000 18) ∧ (gS G 1000 18) ≤ 40) ∧ ∀ (r : Int) (G' : LG), MG G' → (Fr nX12_compiled jX12_compiled G G' ∧ (True)) → Qr (.inl (some (0, r))) G'
set_option maxHeartbeats 4000000 in
set_option maxRecDepth 100000 in
theorem gX12_compiled : Good kX12_compiled yX12_compiled 2 TX12_compiled := by
  refine good_of (by decide) rfl rfl (fun as G Qr h => ?_) (fun X as G Qr hcf hR hT oa => ?_)
  · obtain ⟨n, rfl, -⟩ := h; exact Nat.le_of_ble_eq_true rfl
  obtain ⟨n, rfl, hM, hnd, hQ⟩ := hT
  show WP kX12_compiled X 0 [some (2, ((1000 : Nat) : Int)), some (0, n)] [] G
  have hr_n : inR n := okv_R (oa _ (by simp))
  refine s_aload_n dX12_compiled_0 rfl (Int.natCast_nonneg _) ?_
  refine s_aload_n dX12_compiled_1 rfl (Int.natCast_nonneg _) ?_
  refine s_iload_n dX12_compiled_2 rfl ?_
  refine cv_X12_330 rfl gX12_isNode dX12_compiled_3 hM (by rw [hcf]; decide) (as := [(0, n)]) rfl (Nat.le_of_ble_eq_true rfl) ⟨n, rfl, hM, (by first | assumption | omega), ?_⟩
  show WP kX12_compiled X 6 [some (2, ((1000 : Nat) : Int)), some (0, n)] [(0, b2i (0 ≤ n ∧ n < (gS G 1000 18))), (2, ((1000 : Nat) : Int))] G
  refine s_iconst dX12_compiled_6 (by decide) ?_
  refine s_iconst dX12_compiled_7 (by decide) ?_
  refine cv_X12_298 rfl gX12_goes dX12_compiled_8 hM (by rw [hcf]; decide) (as := [(0, b2i (0 ≤ n ∧ n < (gS G 1000 18))), (0, 1), (0, 1)]) rfl (Nat.le_of_ble_eq_true rfl) ⟨b2i (0 ≤ n ∧ n < (gS G 1000 18)), 1, 1, rfl, hM, fun r2 G1 hMG1 hpG1 => ?_⟩
  obtain ⟨eG1, hpG1⟩ := hpG1
  have hFG1 : Fr nX12_compiled jX12_compiled G G1 := Fr.setF Fr.rf eG1 (by decide)
  show WP kX12_compiled X 11 [some (2, ((1000 : Nat) : Int)), some (0, n)] [(0, r2)] G1
  refine s_if_eq (tgt := 23) dX12_compiled_11 (by decide) (fun c3 => ?_) (fun c3 => ?_)
  · -- 11 to 23
    refine s_iconst dX12_compiled_23 (by decide) ?_
    exact s_iret hR dX12_compiled_24 rfl (hQ _ G1 hMG1 (⟨hFG1, trivial⟩))
  · -- 11 to 14
    have hg := b2i_n (goes_r hpG1 (by assumption)).1
    refine s_aload_n dX12_compiled_14 rfl (Int.natCast_nonneg _) ?_
    refine gf_compiled rfl dX12_compiled_15 hMG1 ?_
    refine s_iload_n dX12_compiled_18 rfl ?_
    refine s_iald dX12_compiled_19 (mg_a_compiled hMG1) (by omega) (by omega) (gsnE eG1 (by decide)) ?_
    refine s_goto (tgt := 24) dX12_compiled_20 (by decide) ?_
    exact s_iret hR dX12_compiled_24 rfl (hQ _ G1 hMG1 (⟨hFG1, trivial⟩))
