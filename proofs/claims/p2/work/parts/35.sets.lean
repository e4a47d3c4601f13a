abbrev nX12_opens : List Nat := [a_fMark, a_stackOf]
abbrev jX12_opens : List Nat := [35, 36]
def TX12_opens : TR := fun as G Qr => ∃ (t : Int), as = [(2, ((1000 : Nat) : Int)), (0, t)] ∧ MG G ∧ (FU G) ∧ (0 ≤ t ∧ t < (gS G 1000 26)) ∧ ((gS G a_fSize (t).toNat) ≤ 200) ∧ ((gS G 1000 35) ≤ 2000000000) ∧ ∀ (r : Int) (G' : LG), MG G' → (Fr nX12_opens jX12_opens G G' ∧ (FU G' ∧ FX G G' ∧ (gS G' 1000 35) = (gS G 1000 35) + 1)) → Qr (.inl (some (0, r))) G'
set_option maxHeartbeats 4000000 in
set_option maxRecDepth 100000 in
theorem gX12_opens : Good kX12_opens yX12_opens 0 TX12_opens := by
  refine good_of (by decide) rfl rfl (fun as G Qr h => ?_) (fun X as G Qr hcf hR hT oa => ?_)
  · obtain ⟨t, rfl, -⟩ := h; exact Nat.le_of_ble_eq_true rfl
  obtain ⟨t, rfl, hM, hFU, ht, hz, hm, hQ⟩ := hT
  show WP kX12_opens X 0 [some (2, ((1000 : Nat) : Int)), some (0, t), none, none] [] G
  have hr_t : inR t := okv_R (oa _ (by simp))
  have hmk0 := hFU.2.1
  have hf9 := hFU.f
  have hz1 := (hFU.sz ht.1 ht.2).1
  refine s_aload_n dX12_opens_0 rfl (Int.natCast_nonneg _) ?_
  refine s_dup dX12_opens_1 (by decide) ?_
  refine gf_mark rfl dX12_opens_2 hM rfl ?_
  refine s_iconst dX12_opens_5 (by decide) ?_
  refine s_iadd dX12_opens_6 (by omega) ?_
  refine pf_mark rfl dX12_opens_7 hM (fun G1 eG1 hMG1 => ?_)
  have hFG1 : Fr nX12_opens jX12_opens G G1 := Fr.setF Fr.rf eG1 (by decide)
  refine s_aload_n dX12_opens_10 rfl (Int.natCast_nonneg _) ?_
  refine s_iconst dX12_opens_11 (by decide) ?_
  refine pf_stack rfl dX12_opens_12 hMG1 (fun G2 eG2 hMG2 => ?_)
  have hFG2 : Fr nX12_opens jX12_opens G G2 := Fr.setF hFG1 eG2 (by decide)
  refine s_aload_n dX12_opens_15 rfl (Int.natCast_nonneg _) ?_
  refine gf_stackOf rfl dX12_opens_16 hMG2 ?_
  refine s_iconst dX12_opens_19 (by decide) ?_
  refine s_iload_n dX12_opens_20 rfl ?_
  refine r_iast dX12_opens_21 hMG2 (mg_a_stackOf hMG2) (by decide) (by omega) (by omega) (fun G3 eG3 hMG3 => ?_)
  have hFG3 : Fr nX12_opens jX12_opens G G3 := Fr.setA hFG2 eG3 (by decide)
  show WP kX12_opens X 22 [some (2, ((1000 : Nat) : Int)), some (0, t), none, none] [] G3
  refine s_iconst dX12_opens_22 (by decide) ?_
  refine s_istore_n dX12_opens_23 (by decide) (lv' := [some (2, ((1000 : Nat) : Int)), some (0, t), some (0, 0), none]) rfl ?_
  have L4 : ∀ (n4 : Nat) (s4 : Int) (z4 : Int) (G4 : LG), MG G4 → Fr nX12_opens jX12_opens G G4 → ((FU G4) ∧ (FX G G4) ∧ ((gS G4 1000 35) = (gS G 1000 35) + 1) ∧ (z4 ≤ 200) ∧ (Stk G4 G a_stackOf a_fSize ((gS G 1000 26)) ((gS G4 1000 36)) z4)) → (z4).toNat < n4 → WP kX12_opens X 24 [some (2, ((1000 : Nat) : Int)), some (0, t), some (0, s4), none] [] G4 := by
    intro n4
    induction n4 with
    | zero => intro s4 z4 G4 hMG4 hFG4 hi4 hm4; exact absurd hm4 (Nat.not_lt_zero _)
    | succ n4 ih4 =>
      intro s4 z4 G4 hMG4 hFG4 hi4 hm4
      have hj4 := hi4
      obtain ⟨iF4, iX4, im4, il4, iz4⟩ := hi4
      have hle4 := iz4.le (fun x x0 x1 => (hFU.sz x0 x1).1)
      have hzz4 : 0 ≤ z4 := by omega
      refine s_aload_n dX12_opens_24 rfl (Int.natCast_nonneg _) ?_
      refine gf_stack rfl dX12_opens_25 hMG4 rfl ?_
      refine s_if_le (tgt := 154) dX12_opens_28 (by decide) (fun c5 => ?_) (fun c5 => ?_)
      · -- 28 to 154
        refine s_iload_n dX12_opens_154 rfl ?_
        exact s_iret hR dX12_opens_155 rfl (hQ _ G4 hMG4 (⟨hFG4, ⟨iF4, iX4, im4⟩⟩))
      · -- 28 to 31
        refine s_aload_n dX12_opens_31 rfl (Int.natCast_nonneg _) ?_
        refine s_dup dX12_opens_32 (by decide) ?_
        refine gf_stack rfl dX12_opens_33 hMG4 rfl ?_
        refine s_iconst dX12_opens_36 (by decide) ?_
        refine s_isub dX12_opens_37 (by omega) ?_
        refine pf_stack rfl dX12_opens_38 hMG4 (fun G6 eG6 hMG6 => ?_)
        have hFG6 : Fr nX12_opens jX12_opens G G6 := Fr.setF hFG4 eG6 (by decide)
        refine s_aload_n dX12_opens_41 rfl (Int.natCast_nonneg _) ?_
        refine gf_stackOf rfl dX12_opens_42 hMG6 ?_
        refine s_aload_n dX12_opens_45 rfl (Int.natCast_nonneg _) ?_
        refine gf_stack rfl dX12_opens_46 hMG6 (gsaE eG6) ?_
        refine s_iald dX12_opens_49 (mg_a_stackOf hMG6) (by omega) (by omega) (gsnE eG6 (by decide)) ?_
        refine s_istore_n dX12_opens_50 (by decide) (lv' := [some (2, ((1000 : Nat) : Int)), some (0, t), some (0, s4), some (0, gS G4 a_stackOf (((gS G4 1000 36) - 1).toNat))]) rfl ?_
        have hx := (iz4.pop (G' := G6) (by omega) (fun j => gsnE eG6 (by decide))).1
        have hxx := iX4.2 (gS G4 a_stackOf (((gS G4 1000 36) - 1).toNat)) hx.1 hx.2
        have hsz := hFU.sz hx.1 hx.2
        have hle2 := (iz4.pop (G' := G6) (by omega) (fun j => gsnE eG6 (by decide))).2.le (fun x x0 x1 => (hFU.sz x0 x1).1)
        have hff := iF4.f
        have hx2 : gS G4 a_stackOf (((gS G4 1000 36) - 1).toNat) < (gS G4 1000 26) := by have := iX4.1; omega
        refine s_aload_n dX12_opens_51 rfl (Int.natCast_nonneg _) ?_
        refine gf_fMark rfl dX12_opens_52 hMG6 ?_
        refine s_iload_n dX12_opens_55 rfl ?_
        refine s_iald dX12_opens_56 (mg_a_fMark hMG6) (by omega) (by omega) (gsnE eG6 (by decide)) ?_
        refine s_aload_n dX12_opens_57 rfl (Int.natCast_nonneg _) ?_
        refine gf_mark rfl dX12_opens_58 hMG6 (gsjE eG6 (by decide)) ?_
        refine s_icmp_eq (tgt := 151) dX12_opens_61 (by decide) (fun c7 => ?_) (fun c7 => ?_)
        · -- 61 to 151
          refine s_goto (tgt := 24) dX12_opens_151 (by decide) ?_
          refine s_mask [true, true, true, false] (lv' := [some (2, ((1000 : Nat) : Int)), some (0, t), some (0, s4), none]) rfl ?_
          exact ih4 s4 (z4 - (gS G a_fSize ((gS G4 a_stackOf (gS G4 1000 36 - 1).toNat)).toNat)) G6 hMG6 hFG6 (⟨(by have f1 : FU G6 := iF4.agr (Fr.agr (Fr.setF Fr.rf eG6 (by decide) : Fr [] [36] G4 G6) (by decide) (by decide) (by decide)) (by rw [gsjE eG6 (by decide)]; exact Int.le_refl _); exact f1), (by exact iX4.trans (FX.agf (ns := [a_fMark, a_stackOf]) (js := [36]) (Fr.setF (Fr.rf) eG6 (by decide)) (by decide) (by decide) (by decide))), (by rw [(gsjE eG6 (by decide))]; exact im4), (by omega), (by have pp := (iz4.pop (G' := G6) (by omega) (fun j => gsnE eG6 (by decide))).2; have e36 : (gS G6 1000 36) = (gS G4 1000 36) - 1 := gsaE eG6; rw [e36]; exact pp)⟩) (by omega)
        · -- 61 to 64
          refine s_aload_n dX12_opens_64 rfl (Int.natCast_nonneg _) ?_
          refine gf_fMark rfl dX12_opens_65 hMG6 ?_
          refine s_iload_n dX12_opens_68 rfl ?_
          refine s_aload_n dX12_opens_69 rfl (Int.natCast_nonneg _) ?_
          refine gf_mark rfl dX12_opens_70 hMG6 (gsjE eG6 (by decide)) ?_
          refine r_iast dX12_opens_73 hMG6 (mg_a_fMark hMG6) (by decide) (by omega) (by omega) (fun G8 eG8 hMG8 => ?_)
          have hFG8 : Fr nX12_opens jX12_opens G G8 := Fr.setA hFG6 eG8 (by decide)
          show WP kX12_opens X 74 [some (2, ((1000 : Nat) : Int)), some (0, t), some (0, s4), some (0, gS G4 a_stackOf (((gS G4 1000 36) - 1).toNat))] [] G8
          refine s_iload_n dX12_opens_74 rfl ?_
          refine s_aload_n dX12_opens_75 rfl (Int.natCast_nonneg _) ?_
          refine gf_fKind rfl dX12_opens_76 hMG8 ?_
          refine s_iload_n dX12_opens_79 rfl ?_
          refine s_iald dX12_opens_80 (mg_a_fKind hMG8) (by omega) (by omega) (Eq.trans (gsnE eG8 (by decide)) (gsnE eG6 (by decide))) ?_
          refine s_iconst dX12_opens_81 (by decide) ?_
          have J10 : ∀ z9 : Int, ((¬ (gS G4 a_fKind ((gS G4 a_stackOf (((gS G4 1000 36) - 1).toNat)).toNat)) = 1) ∧ z9 = 0) ∨ (((gS G4 a_fKind ((gS G4 a_stackOf (((gS G4 1000 36) - 1).toNat)).toNat)) = 1) ∧ z9 = i_shl 1 (gS G4 a_fA ((gS G4 a_stackOf (((gS G4 1000 36) - 1).toNat)).toNat))) → WP kX12_opens X 97 [some (2, ((1000 : Nat) : Int)), some (0, t), some (0, s4), some (0, gS G4 a_stackOf (((gS G4 1000 36) - 1).toNat))] [(0, z9), (0, s4)] G8 := by
            intro z9 hz9
            refine s_ior dX12_opens_97 ?_
            refine s_istore_n dX12_opens_98 (by decide) (lv' := [some (2, ((1000 : Nat) : Int)), some (0, t), some (0, i_or s4 z9), some (0, gS G4 a_stackOf (((gS G4 1000 36) - 1).toNat))]) rfl ?_
            refine s_aload_n dX12_opens_99 rfl (Int.natCast_nonneg _) ?_
            refine gf_fKind rfl dX12_opens_100 hMG8 ?_
            refine s_iload_n dX12_opens_103 rfl ?_
            refine s_iald dX12_opens_104 (mg_a_fKind hMG8) (by omega) (by omega) (Eq.trans (gsnE eG8 (by decide)) (gsnE eG6 (by decide))) ?_
            refine s_iconst dX12_opens_105 (by decide) ?_
            refine s_icmp_ne (tgt := 151) dX12_opens_106 (by decide) (fun c11 => ?_) (fun c11 => ?_)
            · -- 106 to 151
              refine s_goto (tgt := 24) dX12_opens_151 (by decide) ?_
              refine s_mask [true, true, true, false] (lv' := [some (2, ((1000 : Nat) : Int)), some (0, t), some (0, i_or s4 z9), none]) rfl ?_
              exact ih4 (i_or s4 z9) (z4 - (gS G a_fSize ((gS G4 a_stackOf (gS G4 1000 36 - 1).toNat)).toNat)) G8 hMG8 hFG8 (⟨(by have f1 : FU G6 := iF4.agr (Fr.agr (Fr.setF Fr.rf eG6 (by decide) : Fr [] [36] G4 G6) (by decide) (by decide) (by decide)) (by rw [gsjE eG6 (by decide)]; exact Int.le_refl _); have f2 : FU G8 := f1.setm (by rw [eG8, gsjE eG6 (by decide)]); exact f2), (by exact iX4.trans (FX.agf (ns := [a_fMark, a_stackOf]) (js := [36]) (Fr.setA (Fr.setF (Fr.rf) eG6 (by decide)) eG8 (by decide)) (by decide) (by decide) (by decide))), (by rw [(Eq.trans (gsnE eG8 (by decide)) (gsjE eG6 (by decide)))]; exact im4), (by omega), (by have pp := (iz4.pop (G' := G6) (by omega) (fun j => gsnE eG6 (by decide))).2; have e36 : (gS G6 1000 36) = (gS G4 1000 36) - 1 := gsaE eG6; have p2 := pp.same (G' := G8) (fun j => gsnE eG8 (by decide)); rw [gsnE eG8 (by decide), e36]; exact p2)⟩) (by omega)
            · -- 106 to 109
              have hp3 := iF4.pr hx.1 hx2 (by omega)
              have hq3 := hFU.ps hx.1 hx.2 (by omega) (by omega)
              have ea9 : (gS G4 a_fA (gS G4 a_stackOf (((gS G4 1000 36) - 1).toNat)).toNat) = (gS G a_fA (gS G4 a_stackOf (((gS G4 1000 36) - 1).toNat)).toNat) := hxx.2.1
              have eb9 : (gS G4 a_fB (gS G4 a_stackOf (((gS G4 1000 36) - 1).toNat)).toNat) = (gS G a_fB (gS G4 a_stackOf (((gS G4 1000 36) - 1).toNat)).toNat) := hxx.2.2.1
              rw [← ea9, ← eb9] at hq3
              refine s_aload_n dX12_opens_109 rfl (Int.natCast_nonneg _) ?_
              refine gf_stackOf rfl dX12_opens_110 hMG8 ?_
              refine s_aload_n dX12_opens_113 rfl (Int.natCast_nonneg _) ?_
              refine gf_stack rfl dX12_opens_114 hMG8 (Eq.trans (gsnE eG8 (by decide)) (gsaE eG6)) ?_
              refine s_aload_n dX12_opens_117 rfl (Int.natCast_nonneg _) ?_
              refine gf_fA rfl dX12_opens_118 hMG8 ?_
              refine s_iload_n dX12_opens_121 rfl ?_
              refine s_iald dX12_opens_122 (mg_a_fA hMG8) (by omega) (by omega) (Eq.trans (gsnE eG8 (by decide)) (gsnE eG6 (by decide))) ?_
              refine r_iast dX12_opens_123 hMG8 (mg_a_stackOf hMG8) (by decide) (by omega) (by omega) (fun G12 eG12 hMG12 => ?_)
              have hFG12 : Fr nX12_opens jX12_opens G G12 := Fr.setA hFG8 eG12 (by decide)
              show WP kX12_opens X 124 [some (2, ((1000 : Nat) : Int)), some (0, t), some (0, i_or s4 z9), some (0, gS G4 a_stackOf (((gS G4 1000 36) - 1).toNat))] [] G12
              refine s_aload_n dX12_opens_124 rfl (Int.natCast_nonneg _) ?_
              refine gf_stackOf rfl dX12_opens_125 hMG12 ?_
              refine s_aload_n dX12_opens_128 rfl (Int.natCast_nonneg _) ?_
              refine gf_stack rfl dX12_opens_129 hMG12 (Eq.trans (gsnE eG12 (by decide)) (Eq.trans (gsnE eG8 (by decide)) (gsaE eG6))) ?_
              refine s_iconst dX12_opens_132 (by decide) ?_
              refine s_iadd dX12_opens_133 (by omega) ?_
              refine s_aload_n dX12_opens_134 rfl (Int.natCast_nonneg _) ?_
              refine gf_fB rfl dX12_opens_135 hMG12 ?_
              refine s_iload_n dX12_opens_138 rfl ?_
              refine s_iald dX12_opens_139 (mg_a_fB hMG12) (by omega) (by omega) (Eq.trans (gsnE eG12 (by decide)) (Eq.trans (gsnE eG8 (by decide)) (gsnE eG6 (by decide)))) ?_
              refine r_iast dX12_opens_140 hMG12 (mg_a_stackOf hMG12) (by decide) (by omega) (by omega) (fun G13 eG13 hMG13 => ?_)
              have hFG13 : Fr nX12_opens jX12_opens G G13 := Fr.setA hFG12 eG13 (by decide)
              show WP kX12_opens X 141 [some (2, ((1000 : Nat) : Int)), some (0, t), some (0, i_or s4 z9), some (0, gS G4 a_stackOf (((gS G4 1000 36) - 1).toNat))] [] G13
              refine s_aload_n dX12_opens_141 rfl (Int.natCast_nonneg _) ?_
              refine s_dup dX12_opens_142 (by decide) ?_
              refine gf_stack rfl dX12_opens_143 hMG13 (Eq.trans (gsnE eG13 (by decide)) (Eq.trans (gsnE eG12 (by decide)) (Eq.trans (gsnE eG8 (by decide)) (gsaE eG6)))) ?_
              refine s_iconst dX12_opens_146 (by decide) ?_
              refine s_iadd dX12_opens_147 (by omega) ?_
              refine pf_stack rfl dX12_opens_148 hMG13 (fun G14 eG14 hMG14 => ?_)
              have hFG14 : Fr nX12_opens jX12_opens G G14 := Fr.setF hFG13 eG14 (by decide)
              refine s_goto (tgt := 24) dX12_opens_151 (by decide) ?_
              refine s_mask [true, true, true, false] (lv' := [some (2, ((1000 : Nat) : Int)), some (0, t), some (0, i_or s4 z9), none]) rfl ?_
              exact ih4 (i_or s4 z9) (z4 - (gS G a_fSize ((gS G4 a_stackOf (gS G4 1000 36 - 1).toNat)).toNat) + (gS G a_fSize ((gS G4 a_fA ((gS G4 a_stackOf (gS G4 1000 36 - 1).toNat)).toNat)).toNat) + (gS G a_fSize ((gS G4 a_fB ((gS G4 a_stackOf (gS G4 1000 36 - 1).toNat)).toNat)).toNat)) G14 hMG14 hFG14 (⟨(by have f1 : FU G6 := iF4.agr (Fr.agr (Fr.setF Fr.rf eG6 (by decide) : Fr [] [36] G4 G6) (by decide) (by decide) (by decide)) (by rw [gsjE eG6 (by decide)]; exact Int.le_refl _); have f2 : FU G8 := f1.setm (by rw [eG8, gsjE eG6 (by decide)]); exact f2.agr (Fr.agr (Fr.setF (Fr.setA (Fr.setA Fr.rf eG12 (by decide)) eG13 (by decide)) eG14 (by decide) : Fr [a_stackOf] [36] G8 G14) (by decide) (by decide) (by decide)) (by rw [(Eq.trans (gsjE eG14 (by decide)) (Eq.trans (gsnE eG13 (by decide)) (gsnE eG12 (by decide))))]; exact Int.le_refl _)), (by exact iX4.trans (FX.agf (ns := [a_fMark, a_stackOf]) (js := [36]) (Fr.setF (Fr.setA (Fr.setA (Fr.setA (Fr.setF (Fr.rf) eG6 (by decide)) eG8 (by decide)) eG12 (by decide)) eG13 (by decide)) eG14 (by decide)) (by decide) (by decide) (by decide))), (by rw [(Eq.trans (gsjE eG14 (by decide)) (Eq.trans (gsnE eG13 (by decide)) (Eq.trans (gsnE eG12 (by decide)) (Eq.trans (gsnE eG8 (by decide)) (gsjE eG6 (by decide))))))]; exact im4), (by omega), (by have pp := (iz4.pop (G' := G6) (by omega) (fun j => gsnE eG6 (by decide))).2; have e36 : (gS G6 1000 36) = (gS G4 1000 36) - 1 := gsaE eG6; have p2 := pp.same (G' := G8) (fun j => gsnE eG8 (by decide)); have p3 := p2.push (G' := G12) (x := (gS G4 a_fA ((gS G4 a_stackOf (gS G4 1000 36 - 1).toNat)).toNat)) ⟨by omega, by omega⟩ (fun j => g_upd eG12 j); have p4 := p3.push (G' := G13) (x := (gS G4 a_fB ((gS G4 a_stackOf (gS G4 1000 36 - 1).toNat)).toNat)) ⟨by omega, by omega⟩ (fun j => g_upd (by rw [eG13]) j); have p5 := p4.same (G' := G14) (fun j => gsnE eG14 (by decide)); rw [show (gS G14 1000 36) = (gS G4 1000 36) - 1 + 1 + 1 by rw [gsaE eG14]; omega]; exact p5)⟩) (by omega)
          refine s_icmp_ne (tgt := 96) dX12_opens_82 (by decide) (fun c15 => ?_) (fun c15 => ?_)
          · -- 82 to 96
            refine s_iconst dX12_opens_96 (by decide) ?_
            exact J10 0 (Or.inl ⟨c15, rfl⟩)
          · -- 82 to 85
            have ho := iF4.op hx.1 hx2 (by omega)
            refine s_iconst dX12_opens_85 (by decide) ?_
            refine s_aload_n dX12_opens_86 rfl (Int.natCast_nonneg _) ?_
            refine gf_fA rfl dX12_opens_87 hMG8 ?_
            refine s_iload_n dX12_opens_90 rfl ?_
            refine s_iald dX12_opens_91 (mg_a_fA hMG8) (by omega) (by omega) (Eq.trans (gsnE eG8 (by decide)) (gsnE eG6 (by decide))) ?_
            refine s_ishl dX12_opens_92 ?_
            refine s_goto (tgt := 97) dX12_opens_93 (by decide) ?_
            exact J10 _ (Or.inr (⟨c15, rfl⟩))
  exact L4 _ 0 ((gS G a_fSize (t).toNat)) G3 hMG3 hFG3 (⟨(by exact hFU.bump (Fr.agr (Fr.setA (Fr.setF (Fr.setF (Fr.rf) eG1 (by decide)) eG2 (by decide)) eG3 (by decide) : Fr [a_stackOf] [35, 36] G G3) (by decide) (by decide) (by decide)) (by rw [(Eq.trans (gsnE eG3 (by decide)) (Eq.trans (gsjE eG2 (by decide)) (gsaE eG1)))]; omega)), (by exact FX.agf (ns := [a_stackOf]) (js := [35, 36]) (Fr.setA (Fr.setF (Fr.setF (Fr.rf) eG1 (by decide)) eG2 (by decide)) eG3 (by decide)) (by decide) (by decide) (by decide)), (by rw [(Eq.trans (gsnE eG3 (by decide)) (Eq.trans (gsjE eG2 (by decide)) (gsaE eG1)))]), (by omega), (by rw [(Eq.trans (gsnE eG3 (by decide)) (gsaE eG2))]; exact Stk.one ht (gsaE eG3))⟩) (Nat.lt_succ_self _)
