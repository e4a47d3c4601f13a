abbrev nX12_definitionError : List Nat := [a_fKind, a_fA, a_fB, a_fSize, a_fNext, a_fHead, a_fMark, a_todo, a_phase, a_found]
abbrev jX12_definitionError : List Nat := [26]
def TX12_definitionError : TR := fun as G Qr => ∃ (s v k : Int), as = [(2, ((1000 : Nat) : Int)), (0, s), (0, v), (0, k)] ∧ MG G ∧ (FU G) ∧ ((gS G 1000 26) + 29 < 150000) ∧ (EX G) ∧ (0 ≤ s ∧ s < 43) ∧ (0 ≤ v ∧ v < 40) ∧ (0 ≤ k ∧ k < 10) ∧ (0 ≤ (gS G a_valueBy (10 * v + k).toNat) ∧ (gS G a_valueBy (10 * v + k).toNat) < (gS G 1000 6)) ∧ (∀ k : Int, 0 ≤ k → k < 10 → -1 ≤ (gS G a_sValue (10 * s + k).toNat) ∧ (gS G a_sValue (10 * s + k).toNat) < (gS G 1000 26)) ∧ ∀ (r : Int) (G' : LG), MG G' → (Fr nX12_definitionError jX12_definitionError G G' ∧ (FU G' ∧ FX G G' ∧ (gS G' 1000 26) ≤ (gS G 1000 26) + 29)) → Qr (.inl (some (0, r))) G'
set_option maxHeartbeats 4000000 in
set_option maxRecDepth 100000 in
theorem gX12_definitionError : Good kX12_definitionError yX12_definitionError 3 TX12_definitionError := by
  refine good_of (by decide) rfl rfl (fun as G Qr h => ?_) (fun X as G Qr hcf hR hT oa => ?_)
  · obtain ⟨s, v, k, rfl, -⟩ := h; exact Nat.le_of_ble_eq_true rfl
  obtain ⟨s, v, k, rfl, hM, hFU, hc, hEX, hs, hv, hk, hb, hrow, hQ⟩ := hT
  show WP kX12_definitionError X 0 [some (2, ((1000 : Nat) : Int)), some (0, s), some (0, v), some (0, k), none, none, none, none, none] [] G
  have hr_s : inR s := okv_R (oa _ (by simp))
  have hr_v : inR v := okv_R (oa _ (by simp))
  have hr_k : inR k := okv_R (oa _ (by simp))
  have hexx := hEX.1
  refine s_aload_n dX12_definitionError_0 rfl (Int.natCast_nonneg _) ?_
  refine gf_valueBy rfl dX12_definitionError_1 hM ?_
  refine s_bipush dX12_definitionError_4 rfl (by decide) ?_
  refine s_iload_n dX12_definitionError_6 rfl ?_
  refine s_imul dX12_definitionError_7 (by omega) ?_
  refine s_iload_n dX12_definitionError_8 rfl ?_
  refine s_iadd dX12_definitionError_9 (by omega) ?_
  refine s_iald dX12_definitionError_10 (mg_a_valueBy hM) (by omega) (by omega) rfl ?_
  refine s_istore dX12_definitionError_11 (by decide) (lv' := [some (2, ((1000 : Nat) : Int)), some (0, s), some (0, v), some (0, k), some (0, gS G a_valueBy (((10 * v) + k).toNat)), none, none, none, none]) rfl ?_
  refine s_aload_n dX12_definitionError_13 rfl (Int.natCast_nonneg _) ?_
  refine s_iload_n dX12_definitionError_14 rfl ?_
  refine s_iload dX12_definitionError_15 rfl ?_
  refine cv_X12_404 rfl gX12_typeFor dX12_definitionError_17 hM (by rw [hcf]; decide) (as := [(0, s), (0, gS G a_valueBy (((10 * v) + k).toNat))]) rfl (Nat.le_of_ble_eq_true rfl) ⟨s, gS G a_valueBy (((10 * v) + k).toNat), rfl, hM, (by first | assumption | omega), (by first | assumption | omega), (by first | assumption | omega), (by first | assumption | omega), (by first | assumption | omega), (by first | assumption | omega), fun r2 G1 hMG1 hpG1 => ?_⟩
  obtain ⟨hfG1, hpG1⟩ := hpG1
  have hFG1 : Fr nX12_definitionError jX12_definitionError G G1 := Fr.call Fr.rf hfG1 (by decide) (by decide)
  show WP kX12_definitionError X 20 [some (2, ((1000 : Nat) : Int)), some (0, s), some (0, v), some (0, k), some (0, gS G a_valueBy (((10 * v) + k).toNat)), none, none, none, none] [(0, r2)] G1
  have hty := hpG1.2.2.2
  refine s_istore dX12_definitionError_20 (by decide) (lv' := [some (2, ((1000 : Nat) : Int)), some (0, s), some (0, v), some (0, k), some (0, gS G a_valueBy (((10 * v) + k).toNat)), some (0, r2), none, none, none]) rfl ?_
  refine s_iload dX12_definitionError_22 rfl ?_
  refine s_if_lt (tgt := 38) dX12_definitionError_24 (by decide) (fun c3 => ?_) (fun c3 => ?_)
  · -- 24 to 38
    refine s_iload dX12_definitionError_38 rfl ?_
    have J5 : ∀ z4 : Int, ((0 ≤ r2) ∧ z4 = 2) ∨ ((¬ 0 ≤ r2) ∧ z4 = -r2) → WP kX12_definitionError X 50 [some (2, ((1000 : Nat) : Int)), some (0, s), some (0, v), some (0, k), some (0, gS G a_valueBy (((10 * v) + k).toNat)), some (0, r2), none, none, none] [(0, z4)] G1 := by
      intro z4 hz4
      refine s_bipush dX12_definitionError_50 rfl (by decide) ?_
      refine s_imul dX12_definitionError_52 (by omega) ?_
      refine s_iload_n dX12_definitionError_53 rfl ?_
      refine s_iadd dX12_definitionError_54 (by omega) ?_
      exact s_iret hR dX12_definitionError_55 rfl (hQ _ G1 hMG1 (⟨hFG1, ⟨hpG1.1, hpG1.2.1, hpG1.2.2.1⟩⟩))
    refine s_if_ge (tgt := 49) dX12_definitionError_40 (by decide) (fun c6 => ?_) (fun c6 => ?_)
    · -- 40 to 49
      refine s_iconst dX12_definitionError_49 (by decide) ?_
      exact J5 2 (Or.inl ⟨c6, rfl⟩)
    · -- 40 to 43
      refine s_iload dX12_definitionError_43 rfl ?_
      refine s_ineg dX12_definitionError_45 (by omega) ?_
      refine s_goto (tgt := 50) dX12_definitionError_46 (by decide) ?_
      exact J5 (-r2) (Or.inr (⟨c6, rfl⟩))
  · -- 24 to 27
    refine s_iload dX12_definitionError_27 rfl ?_
    refine s_aload_n dX12_definitionError_29 rfl (Int.natCast_nonneg _) ?_
    refine s_iload_n dX12_definitionError_30 rfl ?_
    refine s_iload_n dX12_definitionError_31 rfl ?_
    refine cv_X12_388 rfl gX12_isOf dX12_definitionError_32 hMG1 (by rw [hcf]; decide) (as := [(0, s), (0, k)]) rfl (Nat.le_of_ble_eq_true rfl) ⟨s, k, rfl, hMG1, (by first | assumption | omega), (by first | assumption | omega), ?_⟩
    show WP kX12_definitionError X 35 [some (2, ((1000 : Nat) : Int)), some (0, s), some (0, v), some (0, k), some (0, gS G a_valueBy (((10 * v) + k).toNat)), some (0, r2), none, none, none] [(0, (gS G1 a_sValue (10 * s + k).toNat)), (0, r2)] G1
    refine s_icmp_eq (tgt := 56) dX12_definitionError_35 (by decide) (fun c7 => ?_) (fun c7 => ?_)
    · -- 35 to 56
      have hEX1 : EX G1 := hEX.agr ((Fr.call (Fr.rf) hfG1 (by decide) (by decide) : Fr [a_fKind, a_fA, a_fB, a_fSize, a_fNext, a_fHead, a_fMark, a_todo, a_phase, a_found] [26] G G1).agr (by decide) (by decide) (by decide))
      have hex1 : (gS G1 1000 6) = (gS G 1000 6) := (Fr.call (Fr.rf) hfG1 (by decide) (by decide) : Fr [a_fKind, a_fA, a_fB, a_fSize, a_fNext, a_fHead, a_fMark, a_todo, a_phase, a_found] [26] G G1).atF (by decide) (by decide)
      refine s_aload_n dX12_definitionError_56 rfl (Int.natCast_nonneg _) ?_
      refine s_iload dX12_definitionError_57 rfl ?_
      refine cv_X12_407 rfl gX12_refsOf dX12_definitionError_59 hMG1 (by rw [hcf]; decide) (as := [(0, gS G a_valueBy (((10 * v) + k).toNat))]) rfl (Nat.le_of_ble_eq_true rfl) ⟨gS G a_valueBy (((10 * v) + k).toNat), rfl, hMG1, (by exact hEX1), (by omega), fun r9 G8 hMG8 hpG8 => ?_⟩
      obtain ⟨hfG8, hpG8⟩ := hpG8
      have hFG8 : Fr nX12_definitionError jX12_definitionError G G8 := Fr.call hFG1 hfG8 (by decide) (by decide)
      show WP kX12_definitionError X 62 [some (2, ((1000 : Nat) : Int)), some (0, s), some (0, v), some (0, k), some (0, gS G a_valueBy (((10 * v) + k).toNat)), some (0, r2), none, none, none] [(0, r9)] G8
      refine s_istore dX12_definitionError_62 (by decide) (lv' := [some (2, ((1000 : Nat) : Int)), some (0, s), some (0, v), some (0, k), some (0, gS G a_valueBy (((10 * v) + k).toNat)), some (0, r2), some (0, r9), none, none]) rfl ?_
      refine s_iconst dX12_definitionError_64 (by decide) ?_
      refine s_istore dX12_definitionError_65 (by decide) (lv' := [some (2, ((1000 : Nat) : Int)), some (0, s), some (0, v), some (0, k), some (0, gS G a_valueBy (((10 * v) + k).toNat)), some (0, r2), some (0, r9), some (0, 0), none]) rfl ?_
      refine s_iconst dX12_definitionError_67 (by decide) ?_
      refine s_istore dX12_definitionError_68 (by decide) (lv' := [some (2, ((1000 : Nat) : Int)), some (0, s), some (0, v), some (0, k), some (0, gS G a_valueBy (((10 * v) + k).toNat)), some (0, r2), some (0, r9), some (0, 0), some (0, 0)]) rfl ?_
      have L10 : ∀ (n10 : Nat) (b10 : Int) (k10 : Int), ((0 ≤ k10 ∧ k10 ≤ 10)) → (10 - k10).toNat < n10 → WP kX12_definitionError X 70 [some (2, ((1000 : Nat) : Int)), some (0, s), some (0, v), some (0, k), some (0, gS G a_valueBy (((10 * v) + k).toNat)), some (0, r2), some (0, r9), some (0, b10), some (0, k10)] [] G8 := by
        intro n10
        induction n10 with
        | zero => intro b10 k10 hi10 hm10; exact absurd hm10 (Nat.not_lt_zero _)
        | succ n10 ih10 =>
          intro b10 k10 hi10 hm10
          have hj10 := hi10
          obtain ⟨ik10⟩ := hi10
          refine s_iload dX12_definitionError_70 rfl ?_
          refine s_bipush dX12_definitionError_72 rfl (by decide) ?_
          refine s_icmp_ge (tgt := 115) dX12_definitionError_74 (by decide) (fun c11 => ?_) (fun c11 => ?_)
          · -- 74 to 115
            refine s_iload dX12_definitionError_115 rfl ?_
            have J13 : ∀ z12 : Int, ((b10 = 0) ∧ z12 = 0) ∨ ((¬ b10 = 0) ∧ (¬ i_and (gS G8 a_sFlags (10 * s + k).toNat) 2 = 0) ∧ z12 = 0) ∨ ((¬ b10 = 0) ∧ (¬ (¬ i_and (gS G8 a_sFlags (10 * s + k).toNat) 2 = 0)) ∧ z12 = 600 + k) → WP kX12_definitionError X 138 [some (2, ((1000 : Nat) : Int)), some (0, s), some (0, v), some (0, k), some (0, gS G a_valueBy (((10 * v) + k).toNat)), some (0, r2), some (0, r9), some (0, b10), some (0, k10)] [(0, z12)] G8 := by
              intro z12 hz12
              exact s_iret hR dX12_definitionError_138 rfl (hQ _ G8 hMG8 (⟨hFG8, ⟨(hpG1.1).agr ((Fr.call (Fr.rf) hfG8 (by decide) (by decide) : Fr [a_todo] [] G1 G8).agr (by decide) (by decide) (by decide)) (by rw [(Fr.call (Fr.rf) hfG8 (by decide) (by decide) : Fr [a_todo] [] G1 G8).atF (j := 42) (by decide) (by decide)]; exact Int.le_refl _), hpG1.2.1.trans (FX.agf (Fr.call (Fr.rf) hfG8 (by decide) (by decide) : Fr [a_todo] [] G1 G8) (by decide) (by decide) (by decide)), by rw [(Fr.call (Fr.rf) hfG8 (by decide) (by decide) : Fr [a_todo] [] G1 G8).atF (j := 26) (by decide) (by decide)]; exact hpG1.2.2.1⟩⟩))
            refine s_if_eq (tgt := 137) dX12_definitionError_117 (by decide) (fun c14 => ?_) (fun c14 => ?_)
            · -- 117 to 137
              refine s_iconst dX12_definitionError_137 (by decide) ?_
              exact J13 0 (Or.inl ⟨c14, rfl⟩)
            · -- 117 to 120
              refine s_aload_n dX12_definitionError_120 rfl (Int.natCast_nonneg _) ?_
              refine s_iload_n dX12_definitionError_121 rfl ?_
              refine s_iload_n dX12_definitionError_122 rfl ?_
              refine cv_X12_410 rfl gX12_isGhost dX12_definitionError_123 hMG8 (by rw [hcf]; decide) (as := [(0, s), (0, k)]) rfl (Nat.le_of_ble_eq_true rfl) ⟨s, k, rfl, hMG8, (by first | assumption | omega), (by first | assumption | omega), ?_⟩
              show WP kX12_definitionError X 126 [some (2, ((1000 : Nat) : Int)), some (0, s), some (0, v), some (0, k), some (0, gS G a_valueBy (((10 * v) + k).toNat)), some (0, r2), some (0, r9), some (0, b10), some (0, k10)] [(0, b2i (¬ i_and (gS G8 a_sFlags (10 * s + k).toNat) 2 = 0))] G8
              refine s_if_neB (tgt := 137) dX12_definitionError_126 (by decide) (fun c15 => ?_) (fun c15 => ?_)
              · -- 126 to 137
                refine s_iconst dX12_definitionError_137 (by decide) ?_
                exact J13 0 (Or.inr (Or.inl ⟨c14, c15, rfl⟩))
              · -- 126 to 129
                refine s_sipush dX12_definitionError_129 rfl (by decide) ?_
                refine s_iload_n dX12_definitionError_132 rfl ?_
                refine s_iadd dX12_definitionError_133 (by omega) ?_
                refine s_goto (tgt := 138) dX12_definitionError_134 (by decide) ?_
                exact J13 _ (Or.inr (Or.inr (⟨c14, c15, rfl⟩)))
          · -- 74 to 77
            refine s_iload dX12_definitionError_77 rfl ?_
            have J17 : ∀ z16 : Int, ((¬ b10 = 0) ∧ z16 = 1) ∨ ((b10 = 0) ∧ (¬ (bitI r9 k10)) ∧ z16 = 0) ∨ ((b10 = 0) ∧ (bitI r9 k10) ∧ (¬ (¬ i_and (gS G8 a_sFlags (10 * s + k10).toNat) 2 = 0)) ∧ z16 = 0) ∨ ((b10 = 0) ∧ (bitI r9 k10) ∧ (¬ i_and (gS G8 a_sFlags (10 * s + k10).toNat) 2 = 0) ∧ z16 = 1) → WP kX12_definitionError X 107 [some (2, ((1000 : Nat) : Int)), some (0, s), some (0, v), some (0, k), some (0, gS G a_valueBy (((10 * v) + k).toNat)), some (0, r2), some (0, r9), some (0, b10), some (0, k10)] [(0, z16)] G8 := by
              intro z16 hz16
              refine s_istore dX12_definitionError_107 (by decide) (lv' := [some (2, ((1000 : Nat) : Int)), some (0, s), some (0, v), some (0, k), some (0, gS G a_valueBy (((10 * v) + k).toNat)), some (0, r2), some (0, r9), some (0, z16), some (0, k10)]) rfl ?_
              refine s_iinc dX12_definitionError_109 (v := k10) rfl (by omega) (by decide) (lv' := [some (2, ((1000 : Nat) : Int)), some (0, s), some (0, v), some (0, k), some (0, gS G a_valueBy (((10 * v) + k).toNat)), some (0, r2), some (0, r9), some (0, z16), some (0, k10 + 1)]) rfl ?_
              refine s_goto (tgt := 70) dX12_definitionError_112 (by decide) ?_
              exact ih10 z16 (k10 + 1) ((by omega)) (by omega)
            refine s_if_ne (tgt := 102) dX12_definitionError_79 (by decide) (fun c18 => ?_) (fun c18 => ?_)
            · -- 79 to 102
              refine s_iconst dX12_definitionError_102 (by decide) ?_
              refine s_goto (tgt := 107) dX12_definitionError_103 (by decide) ?_
              exact J17 1 (Or.inl ⟨c18, rfl⟩)
            · -- 79 to 82
              refine s_iload dX12_definitionError_82 rfl ?_
              refine s_iload dX12_definitionError_84 rfl ?_
              refine cs_X12_367 rfl gX12_has dX12_definitionError_86 (by rw [hcf]; decide) (as := [(0, r9), (0, k10)]) rfl (Nat.le_of_ble_eq_true rfl) ⟨r9, k10, rfl, ?_⟩
              show WP kX12_definitionError X 89 [some (2, ((1000 : Nat) : Int)), some (0, s), some (0, v), some (0, k), some (0, gS G a_valueBy (((10 * v) + k).toNat)), some (0, r2), some (0, r9), some (0, b10), some (0, k10)] [(0, b2i (bitI r9 k10))] G8
              refine s_if_eqB (tgt := 106) dX12_definitionError_89 (by decide) (fun c19 => ?_) (fun c19 => ?_)
              · -- 89 to 106
                refine s_iconst dX12_definitionError_106 (by decide) ?_
                exact J17 0 (Or.inr (Or.inl ⟨c18, c19, rfl⟩))
              · -- 89 to 92
                refine s_aload_n dX12_definitionError_92 rfl (Int.natCast_nonneg _) ?_
                refine s_iload_n dX12_definitionError_93 rfl ?_
                refine s_iload dX12_definitionError_94 rfl ?_
                refine cv_X12_410 rfl gX12_isGhost dX12_definitionError_96 hMG8 (by rw [hcf]; decide) (as := [(0, s), (0, k10)]) rfl (Nat.le_of_ble_eq_true rfl) ⟨s, k10, rfl, hMG8, (by first | assumption | omega), (by first | assumption | omega), ?_⟩
                show WP kX12_definitionError X 99 [some (2, ((1000 : Nat) : Int)), some (0, s), some (0, v), some (0, k), some (0, gS G a_valueBy (((10 * v) + k).toNat)), some (0, r2), some (0, r9), some (0, b10), some (0, k10)] [(0, b2i (¬ i_and (gS G8 a_sFlags (10 * s + k10).toNat) 2 = 0))] G8
                refine s_if_eqB (tgt := 106) dX12_definitionError_99 (by decide) (fun c20 => ?_) (fun c20 => ?_)
                · -- 99 to 106
                  refine s_iconst dX12_definitionError_106 (by decide) ?_
                  exact J17 0 (Or.inr (Or.inr (Or.inl ⟨c18, c19, c20, rfl⟩)))
                · -- 99 to 102
                  refine s_iconst dX12_definitionError_102 (by decide) ?_
                  refine s_goto (tgt := 107) dX12_definitionError_103 (by decide) ?_
                  exact J17 1 (Or.inr (Or.inr (Or.inr (⟨c18, c19, c20, rfl⟩))))
      exact L10 _ 0 0 ((by omega)) (Nat.lt_succ_self _)
    · -- 35 to 38
      refine s_iload dX12_definitionError_38 rfl ?_
      have J22 : ∀ z21 : Int, ((0 ≤ r2) ∧ z21 = 2) ∨ ((¬ 0 ≤ r2) ∧ z21 = -r2) → WP kX12_definitionError X 50 [some (2, ((1000 : Nat) : Int)), some (0, s), some (0, v), some (0, k), some (0, gS G a_valueBy (((10 * v) + k).toNat)), some (0, r2), none, none, none] [(0, z21)] G1 := by
        intro z21 hz21
        refine s_bipush dX12_definitionError_50 rfl (by decide) ?_
        refine s_imul dX12_definitionError_52 (by omega) ?_
        refine s_iload_n dX12_definitionError_53 rfl ?_
        refine s_iadd dX12_definitionError_54 (by omega) ?_
        exact s_iret hR dX12_definitionError_55 rfl (hQ _ G1 hMG1 (⟨hFG1, ⟨hpG1.1, hpG1.2.1, hpG1.2.2.1⟩⟩))
      refine s_if_ge (tgt := 49) dX12_definitionError_40 (by decide) (fun c23 => ?_) (fun c23 => ?_)
      · -- 40 to 49
        refine s_iconst dX12_definitionError_49 (by decide) ?_
        exact J22 2 (Or.inl ⟨c23, rfl⟩)
      · -- 40 to 43
        refine s_iload dX12_definitionError_43 rfl ?_
        refine s_ineg dX12_definitionError_45 (by omega) ?_
        refine s_goto (tgt := 50) dX12_definitionError_46 (by decide) ?_
        exact J22 (-r2) (Or.inr (⟨c23, rfl⟩))
