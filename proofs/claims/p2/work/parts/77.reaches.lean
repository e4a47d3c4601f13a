abbrev nX12_reaches : List Nat := [a_reached, a_todo]
abbrev jX12_reaches : List Nat := []
def TX12_reaches : TR := fun as G Qr => ∃ (n : Int) (I : Int), as = [(2, ((1000 : Nat) : Int)), (0, n)] ∧ MG G ∧ (IN G I (10 * I)) ∧ (UV G) ∧ (EX G) ∧ (FI G) ∧ (TGd G 0 n (10 * I)) ∧ (0 ≤ n ∧ n < 40) ∧ ∀ G' : LG, MG G' → (Fr nX12_reaches jX12_reaches G G' ∧ (True)) → Qr (.inl none) G'
set_option maxHeartbeats 4000000 in
set_option maxRecDepth 100000 in
theorem gX12_reaches : Good kX12_reaches yX12_reaches 2 TX12_reaches := by
  refine good_of (by decide) rfl rfl (fun as G Qr h => ?_) (fun X as G Qr hcf hR hT oa => ?_)
  · obtain ⟨n, I, rfl, -⟩ := h; exact Nat.le_of_ble_eq_true rfl
  obtain ⟨n, I, rfl, hM, hI, hUV, hEX, hFI, hT, hn, hQ⟩ := hT
  show WP kX12_reaches X 0 [some (2, ((1000 : Nat) : Int)), some (0, n), none, none, none, none] [] G
  have hr_n : inR n := okv_R (oa _ (by simp))
  have hI0 := hI.2.2.1
  have hI00 := hI.1
  refine s_iconst dX12_reaches_0 (by decide) ?_
  refine s_istore_n dX12_reaches_1 (by decide) (lv' := [some (2, ((1000 : Nat) : Int)), some (0, n), some (0, 0), none, none, none]) rfl ?_
  have L1 : ∀ (n1 : Nat) (c1 : Int) (G1 : LG), MG G1 → Fr nX12_reaches jX12_reaches G G1 → ((0 ≤ c1 ∧ c1 ≤ (gS G 1000 67)) ∧ (Fr [a_reached, a_todo] [] G G1) ∧ (M01 G1 c1)) → ((gS G 1000 67) - c1).toNat < n1 → WP kX12_reaches X 2 [some (2, ((1000 : Nat) : Int)), some (0, n), some (0, c1), none, none, none] [] G1 := by
    intro n1
    induction n1 with
    | zero => intro c1 G1 hMG1 hFG1 hi1 hm1; exact absurd hm1 (Nat.not_lt_zero _)
    | succ n1 ih1 =>
      intro c1 G1 hMG1 hFG1 hi1 hm1
      have hj1 := hi1
      obtain ⟨ic1, ir1, ib1⟩ := hi1
      have iI1 : IN G1 I (10 * I) := hI.agr (ir1.agr (by decide) (by decide) (by decide))
      have iU1 : UV G1 := hUV.agr (ir1.agr (by decide) (by decide) (by decide))
      have iX1 : EX G1 := hEX.agr (ir1.agr (by decide) (by decide) (by decide))
      have ice1 : (gS G1 1000 67) = (gS G 1000 67) := ir1.atF (by decide) (by decide)
      have iI21 := iI1.2.2.1
      have iI11 := iI1.1
      refine s_iload_n dX12_reaches_2 rfl ?_
      refine s_aload_n dX12_reaches_3 rfl (Int.natCast_nonneg _) ?_
      refine gf_cells rfl dX12_reaches_4 hMG1 rfl ?_
      refine s_icmp_ge (tgt := 28) dX12_reaches_7 (by decide) (fun c2 => ?_) (fun c2 => ?_)
      · -- 7 to 28
        refine s_iconst dX12_reaches_28 (by decide) ?_
        refine s_istore_n dX12_reaches_29 (by decide) (lv' := [some (2, ((1000 : Nat) : Int)), some (0, n), some (0, 0), none, none, none]) rfl ?_
        have L3 : ∀ (n3 : Nat) (k3 : Int) (G3 : LG), MG G3 → Fr nX12_reaches jX12_reaches G G3 → ((0 ≤ k3 ∧ k3 ≤ 10) ∧ (Fr [a_reached, a_todo] [] G G3) ∧ (M01 G3 ((gS G 1000 67)))) → (10 - k3).toNat < n3 → WP kX12_reaches X 30 [some (2, ((1000 : Nat) : Int)), some (0, n), some (0, k3), none, none, none] [] G3 := by
          intro n3
          induction n3 with
          | zero => intro k3 G3 hMG3 hFG3 hi3 hm3; exact absurd hm3 (Nat.not_lt_zero _)
          | succ n3 ih3 =>
            intro k3 G3 hMG3 hFG3 hi3 hm3
            have hj3 := hi3
            obtain ⟨ik3, ir3, ib3⟩ := hi3
            have iI3 : IN G3 I (10 * I) := hI.agr (ir3.agr (by decide) (by decide) (by decide))
            have iU3 : UV G3 := hUV.agr (ir3.agr (by decide) (by decide) (by decide))
            have iX3 : EX G3 := hEX.agr (ir3.agr (by decide) (by decide) (by decide))
            have ice3 : (gS G3 1000 67) = (gS G 1000 67) := ir3.atF (by decide) (by decide)
            have iI23 := iI3.2.2.1
            have iI13 := iI3.1
            refine s_iload_n dX12_reaches_30 rfl ?_
            refine s_bipush dX12_reaches_31 rfl (by decide) ?_
            refine s_icmp_ge (tgt := 61) dX12_reaches_33 (by decide) (fun c4 => ?_) (fun c4 => ?_)
            · -- 33 to 61
              refine s_iconst dX12_reaches_61 (by decide) ?_
              refine s_istore_n dX12_reaches_62 (by decide) (lv' := [some (2, ((1000 : Nat) : Int)), some (0, n), some (0, 1), none, none, none]) rfl ?_
              have L5 : ∀ (n5 : Nat) (q5 : Int) (G5 : LG), MG G5 → Fr nX12_reaches jX12_reaches G G5 → ((q5 = 0 ∨ q5 = 1) ∧ (Fr [a_reached, a_todo] [] G G5) ∧ (M01 G5 ((gS G 1000 67)))) → (2 * ((gS G 1000 67) - mS G5 ((gS G 1000 67))) + q5).toNat < n5 → WP kX12_reaches X 63 [some (2, ((1000 : Nat) : Int)), some (0, n), some (0, q5), none, none, none] [] G5 := by
                intro n5
                induction n5 with
                | zero => intro q5 G5 hMG5 hFG5 hi5 hm5; exact absurd hm5 (Nat.not_lt_zero _)
                | succ n5 ih5 =>
                  intro q5 G5 hMG5 hFG5 hi5 hm5
                  have hj5 := hi5
                  obtain ⟨iq5, ir5, ib5⟩ := hi5
                  have iI5 : IN G5 I (10 * I) := hI.agr (ir5.agr (by decide) (by decide) (by decide))
                  have iU5 : UV G5 := hUV.agr (ir5.agr (by decide) (by decide) (by decide))
                  have iX5 : EX G5 := hEX.agr (ir5.agr (by decide) (by decide) (by decide))
                  have ice5 : (gS G5 1000 67) = (gS G 1000 67) := ir5.atF (by decide) (by decide)
                  have iI25 := iI5.2.2.1
                  have iI15 := iI5.1
                  have isb5 := ib5.sum (by omega)
                  refine s_iload_n dX12_reaches_63 rfl ?_
                  refine s_if_eq (tgt := 168) dX12_reaches_64 (by decide) (fun c6 => ?_) (fun c6 => ?_)
                  · -- 64 to 168
                    exact s_vret hR dX12_reaches_168 rfl (hQ G5 hMG5 (⟨hFG5, trivial⟩))
                  · -- 64 to 67
                    refine s_iconst dX12_reaches_67 (by decide) ?_
                    refine s_istore_n dX12_reaches_68 (by decide) (lv' := [some (2, ((1000 : Nat) : Int)), some (0, n), some (0, 0), none, none, none]) rfl ?_
                    refine s_iconst dX12_reaches_69 (by decide) ?_
                    refine s_istore_n dX12_reaches_70 (by decide) (lv' := [some (2, ((1000 : Nat) : Int)), some (0, n), some (0, 0), some (0, 0), none, none]) rfl ?_
                    have L7 : ∀ (n7 : Nat) (q7 : Int) (c7 : Int) (G7 : LG), MG G7 → Fr nX12_reaches jX12_reaches G G7 → ((0 ≤ c7 ∧ c7 ≤ (gS G 1000 67)) ∧ (Fr [a_reached, a_todo] [] G G7) ∧ (M01 G7 ((gS G 1000 67))) ∧ ((q7 = 0 ∧ mS G7 ((gS G 1000 67)) = mS G5 ((gS G 1000 67))) ∨ (q7 = 1 ∧ mS G5 ((gS G 1000 67)) < mS G7 ((gS G 1000 67))))) → ((gS G 1000 67) - c7).toNat < n7 → WP kX12_reaches X 71 [some (2, ((1000 : Nat) : Int)), some (0, n), some (0, q7), some (0, c7), none, none] [] G7 := by
                      intro n7
                      induction n7 with
                      | zero => intro q7 c7 G7 hMG7 hFG7 hi7 hm7; exact absurd hm7 (Nat.not_lt_zero _)
                      | succ n7 ih7 =>
                        intro q7 c7 G7 hMG7 hFG7 hi7 hm7
                        have hj7 := hi7
                        obtain ⟨ic7, ir7, ib7, im7⟩ := hi7
                        have iI7 : IN G7 I (10 * I) := hI.agr (ir7.agr (by decide) (by decide) (by decide))
                        have iU7 : UV G7 := hUV.agr (ir7.agr (by decide) (by decide) (by decide))
                        have iX7 : EX G7 := hEX.agr (ir7.agr (by decide) (by decide) (by decide))
                        have ice7 : (gS G7 1000 67) = (gS G 1000 67) := ir7.atF (by decide) (by decide)
                        have iI27 := iI7.2.2.1
                        have iI17 := iI7.1
                        have isb7 := ib7.sum (by omega)
                        refine s_iload_n dX12_reaches_71 rfl ?_
                        refine s_aload_n dX12_reaches_72 rfl (Int.natCast_nonneg _) ?_
                        refine gf_cells rfl dX12_reaches_73 hMG7 rfl ?_
                        refine s_icmp_ge (tgt := 165) dX12_reaches_76 (by decide) (fun c8 => ?_) (fun c8 => ?_)
                        · -- 76 to 165
                          refine s_goto (tgt := 63) dX12_reaches_165 (by decide) ?_
                          refine s_mask [true, true, true, false, false, false] (lv' := [some (2, ((1000 : Nat) : Int)), some (0, n), some (0, q7), none, none, none]) rfl ?_
                          exact ih5 q7 G7 hMG7 hFG7 (⟨(by omega), (by exact ir7), (by exact ib7)⟩) (by omega)
                        · -- 76 to 79
                          refine s_aload_n dX12_reaches_79 rfl (Int.natCast_nonneg _) ?_
                          refine gf_reached rfl dX12_reaches_80 hMG7 ?_
                          refine s_iload_n dX12_reaches_83 rfl ?_
                          refine s_bald dX12_reaches_84 (mg_a_reached hMG7) (by omega) (by omega) rfl ?_
                          refine s_if_eq (tgt := 100) dX12_reaches_85 (by decide) (fun c9 => ?_) (fun c9 => ?_)
                          · -- 85 to 100
                            refine s_iconst dX12_reaches_100 (by decide) ?_
                            refine s_istore dX12_reaches_101 (by decide) (lv' := [some (2, ((1000 : Nat) : Int)), some (0, n), some (0, q7), some (0, c7), some (0, 0), none]) rfl ?_
                            have hrr9 : Fr [a_reached, a_todo] [] G G7 := ir7
                            have hmm9 : mS G7 ((gS G 1000 67)) = mS G7 ((gS G 1000 67)) := mS.cg (fun _ => rfl)
                            have hbb9 : M01 G7 ((gS G 1000 67)) := ib7.cg (fun _ => rfl)
                            have hoc : ∀ j : Int, 0 ≤ j → j < 32 → bitI 0 j → Occ G (exprC G c7) j := fun j j0 j1 q => absurd q (bitI_0 j0 j1)
                            refine s_iconst dX12_reaches_103 (by decide) ?_
                            refine s_istore dX12_reaches_104 (by decide) (lv' := [some (2, ((1000 : Nat) : Int)), some (0, n), some (0, q7), some (0, c7), some (0, 0), some (0, 0)]) rfl ?_
                            have L10 : ∀ (n10 : Nat) (q10 : Int) (k10 : Int) (G10 : LG), MG G10 → Fr nX12_reaches jX12_reaches G G10 → ((0 ≤ k10 ∧ k10 ≤ 10) ∧ (Fr [a_reached, a_todo] [] G G10) ∧ (M01 G10 ((gS G 1000 67))) ∧ ((q10 = 0 ∧ mS G10 ((gS G 1000 67)) = mS G5 ((gS G 1000 67))) ∨ (q10 = 1 ∧ mS G5 ((gS G 1000 67)) < mS G10 ((gS G 1000 67))))) → (10 - k10).toNat < n10 → WP kX12_reaches X 106 [some (2, ((1000 : Nat) : Int)), some (0, n), some (0, q10), some (0, c7), some (0, 0), some (0, k10)] [] G10 := by
                              intro n10
                              induction n10 with
                              | zero => intro q10 k10 G10 hMG10 hFG10 hi10 hm10; exact absurd hm10 (Nat.not_lt_zero _)
                              | succ n10 ih10 =>
                                intro q10 k10 G10 hMG10 hFG10 hi10 hm10
                                have hj10 := hi10
                                obtain ⟨ik10, ir10, ib10, im10⟩ := hi10
                                have iI10 : IN G10 I (10 * I) := hI.agr (ir10.agr (by decide) (by decide) (by decide))
                                have iU10 : UV G10 := hUV.agr (ir10.agr (by decide) (by decide) (by decide))
                                have iX10 : EX G10 := hEX.agr (ir10.agr (by decide) (by decide) (by decide))
                                have ice10 : (gS G10 1000 67) = (gS G 1000 67) := ir10.atF (by decide) (by decide)
                                have iI210 := iI10.2.2.1
                                have iI110 := iI10.1
                                have isb10 := ib10.sum (by omega)
                                refine s_iload dX12_reaches_106 rfl ?_
                                refine s_bipush dX12_reaches_108 rfl (by decide) ?_
                                refine s_icmp_ge (tgt := 159) dX12_reaches_110 (by decide) (fun c11 => ?_) (fun c11 => ?_)
                                · -- 110 to 159
                                  refine s_iinc dX12_reaches_159 (v := c7) rfl (by omega) (by decide) (lv' := [some (2, ((1000 : Nat) : Int)), some (0, n), some (0, q10), some (0, c7 + 1), some (0, 0), some (0, k10)]) rfl ?_
                                  refine s_goto (tgt := 71) dX12_reaches_162 (by decide) ?_
                                  refine s_mask [true, true, true, true, false, false] (lv' := [some (2, ((1000 : Nat) : Int)), some (0, n), some (0, q10), some (0, c7 + 1), none, none]) rfl ?_
                                  exact ih7 q10 (c7 + 1) G10 hMG10 hFG10 (⟨(by omega), (by exact ir10), (by exact ib10), (by exact im10)⟩) (by omega)
                                · -- 110 to 113
                                  refine s_iload dX12_reaches_113 rfl ?_
                                  refine s_iload dX12_reaches_115 rfl ?_
                                  refine cs_X12_367 rfl gX12_has dX12_reaches_117 (by rw [hcf]; decide) (as := [(0, 0), (0, k10)]) rfl (Nat.le_of_ble_eq_true rfl) ⟨0, k10, rfl, ?_⟩
                                  show WP kX12_reaches X 120 [some (2, ((1000 : Nat) : Int)), some (0, n), some (0, q10), some (0, c7), some (0, 0), some (0, k10)] [(0, b2i (bitI 0 k10))] G10
                                  refine s_if_eqB (tgt := 153) dX12_reaches_120 (by decide) (fun c12 => ?_) (fun c12 => ?_)
                                  · -- 120 to 153
                                    refine s_iinc dX12_reaches_153 (v := k10) rfl (by omega) (by decide) (lv' := [some (2, ((1000 : Nat) : Int)), some (0, n), some (0, q10), some (0, c7), some (0, 0), some (0, k10 + 1)]) rfl ?_
                                    refine s_goto (tgt := 106) dX12_reaches_156 (by decide) ?_
                                    exact ih10 q10 (k10 + 1) G10 hMG10 hFG10 (⟨(by omega), (by exact ir10), (by exact ib10.cg (fun _ => rfl)), (by omega)⟩) (by omega)
                                  · -- 120 to 123
                                    have htg : 0 ≤ tgtC G c7 k10 := hFI c7 k10 (by omega) (by omega) (by omega) (by omega) (hoc k10 (by omega) (by omega) (by assumption))
                                    have hte : tgtC G10 c7 k10 = tgtC G c7 k10 := tgtC.agr (ir10.agr (by decide) (by decide) (by decide)) _ _
                                    have htl := hI.tgt (c := c7) (k := k10) (by omega) (by omega) (by omega) (by omega)
                                    rw [← hte] at htg htl
                                    unfold tgtC at htg htl
                                    refine s_aload_n dX12_reaches_123 rfl (Int.natCast_nonneg _) ?_
                                    refine gf_reached rfl dX12_reaches_124 hMG10 ?_
                                    refine s_aload_n dX12_reaches_127 rfl (Int.natCast_nonneg _) ?_
                                    refine s_iload_n dX12_reaches_128 rfl ?_
                                    refine s_iload dX12_reaches_129 rfl ?_
                                    refine cv_X12_518 rfl gX12_targetOf dX12_reaches_131 hMG10 (by rw [hcf]; decide) (as := [(0, c7), (0, k10)]) rfl (Nat.le_of_ble_eq_true rfl) ⟨c7, k10, I, (10 * I), rfl, hMG10, (by exact iI10), (by rfl), (by omega), (by omega), ?_⟩
                                    show WP kX12_reaches X 134 [some (2, ((1000 : Nat) : Int)), some (0, n), some (0, q10), some (0, c7), some (0, 0), some (0, k10)] [(0, (gS G10 a_cellAt (rootV G10 ((gS G10 a_cellOf (c7).toNat) / 10 * 10 + k10)).toNat)), (2, ((a_reached : Nat) : Int))] G10
                                    refine s_bald dX12_reaches_134 (mg_a_reached hMG10) (by omega) (by omega) rfl ?_
                                    refine s_if_ne (tgt := 153) dX12_reaches_135 (by decide) (fun c13 => ?_) (fun c13 => ?_)
                                    · -- 135 to 153
                                      refine s_iinc dX12_reaches_153 (v := k10) rfl (by omega) (by decide) (lv' := [some (2, ((1000 : Nat) : Int)), some (0, n), some (0, q10), some (0, c7), some (0, 0), some (0, k10 + 1)]) rfl ?_
                                      refine s_goto (tgt := 106) dX12_reaches_156 (by decide) ?_
                                      exact ih10 q10 (k10 + 1) G10 hMG10 hFG10 (⟨(by omega), (by exact ir10), (by exact ib10.cg (fun _ => rfl)), (by omega)⟩) (by omega)
                                    · -- 135 to 138
                                      refine s_aload_n dX12_reaches_138 rfl (Int.natCast_nonneg _) ?_
                                      refine gf_reached rfl dX12_reaches_139 hMG10 ?_
                                      refine s_aload_n dX12_reaches_142 rfl (Int.natCast_nonneg _) ?_
                                      refine s_iload_n dX12_reaches_143 rfl ?_
                                      refine s_iload dX12_reaches_144 rfl ?_
                                      refine cv_X12_518 rfl gX12_targetOf dX12_reaches_146 hMG10 (by rw [hcf]; decide) (as := [(0, c7), (0, k10)]) rfl (Nat.le_of_ble_eq_true rfl) ⟨c7, k10, I, (10 * I), rfl, hMG10, (by exact iI10), (by rfl), (by omega), (by omega), ?_⟩
                                      show WP kX12_reaches X 149 [some (2, ((1000 : Nat) : Int)), some (0, n), some (0, q10), some (0, c7), some (0, 0), some (0, k10)] [(0, (gS G10 a_cellAt (rootV G10 ((gS G10 a_cellOf (c7).toNat) / 10 * 10 + k10)).toNat)), (2, ((a_reached : Nat) : Int))] G10
                                      refine s_iconst dX12_reaches_149 (by decide) ?_
                                      refine r_bast dX12_reaches_150 hMG10 (mg_a_reached hMG10) (by decide) (by omega) (by omega) (by omega) (fun G14 eG14 hMG14 => ?_)
                                      have hFG14 : Fr nX12_reaches jX12_reaches G G14 := Fr.setA hFG10 eG14 (by decide)
                                      show WP kX12_reaches X 151 [some (2, ((1000 : Nat) : Int)), some (0, n), some (0, q10), some (0, c7), some (0, 0), some (0, k10)] [] G14
                                      refine s_iconst dX12_reaches_151 (by decide) ?_
                                      refine s_istore_n dX12_reaches_152 (by decide) (lv' := [some (2, ((1000 : Nat) : Int)), some (0, n), some (0, 1), some (0, c7), some (0, 0), some (0, k10)]) rfl ?_
                                      refine s_iinc dX12_reaches_153 (v := k10) rfl (by omega) (by decide) (lv' := [some (2, ((1000 : Nat) : Int)), some (0, n), some (0, 1), some (0, c7), some (0, 0), some (0, k10 + 1)]) rfl ?_
                                      refine s_goto (tgt := 106) dX12_reaches_156 (by decide) ?_
                                      exact ih10 1 (k10 + 1) G14 hMG14 hFG14 (⟨(by omega), (by exact Fr.call (ns := [a_reached, a_todo]) (js := []) ir10 (Fr.setA (Fr.rf) eG14 (by decide) : Fr [a_reached] [] G10 G14) (by decide) (by decide)), (by exact ib10.set (Or.inr rfl) (fun j => by rw [g_upd eG14])), (by rw [mS.set (G := G10) (c := (gS G10 a_cellAt (rootV G10 ((gS G10 a_cellOf (c7).toNat) / 10 * 10 + k10)).toNat)) (v := 1) ⟨by omega, by omega⟩ (fun j => by rw [g_upd eG14])]; omega)⟩) (by omega)
                            exact L10 _ q7 0 G7 hMG7 hFG7 (⟨(by omega), (by exact hrr9), (by exact hbb9), (by omega)⟩) (Nat.lt_succ_self _)
                          · -- 85 to 88
                            have hce7 := iI7.cell iU7 (c := c7) (by omega) (by omega)
                            have hcx1 := hce7.1
                            have hcx2 := hce7.2.1
                            have hcx3 := hce7.2.2
                            refine s_aload_n dX12_reaches_88 rfl (Int.natCast_nonneg _) ?_
                            refine s_aload_n dX12_reaches_89 rfl (Int.natCast_nonneg _) ?_
                            refine s_iload_n dX12_reaches_90 rfl ?_
                            refine cv_X12_515 rfl gX12_expressionOf dX12_reaches_91 hMG7 (by rw [hcf]; decide) (as := [(0, c7)]) rfl (Nat.le_of_ble_eq_true rfl) ⟨c7, rfl, hMG7, (by first | assumption | omega), (by first | assumption | omega), (by first | assumption | omega), ?_⟩
                            show WP kX12_reaches X 94 [some (2, ((1000 : Nat) : Int)), some (0, n), some (0, q7), some (0, c7), none, none] [(0, (gS G7 a_valueBy (10 * (gS G7 a_versionAt ((gS G7 a_cellOf (c7).toNat) / 10).toNat) + (gS G7 a_cellOf (c7).toNat) % 10).toNat)), (2, ((1000 : Nat) : Int))] G7
                            refine cv_X12_407 rfl gX12_refsOf dX12_reaches_94 hMG7 (by rw [hcf]; decide) (as := [(0, (gS G7 a_valueBy (10 * (gS G7 a_versionAt ((gS G7 a_cellOf (c7).toNat) / 10).toNat) + (gS G7 a_cellOf (c7).toNat) % 10).toNat))]) rfl (Nat.le_of_ble_eq_true rfl) ⟨(gS G7 a_valueBy (10 * (gS G7 a_versionAt ((gS G7 a_cellOf (c7).toNat) / 10).toNat) + (gS G7 a_cellOf (c7).toNat) % 10).toNat), rfl, hMG7, (by exact iX7), (by exact hce7.2.2.1), fun r16 G15 hMG15 hpG15 => ?_⟩
                            obtain ⟨hfG15, hpG15⟩ := hpG15
                            have hFG15 : Fr nX12_reaches jX12_reaches G G15 := Fr.call hFG7 hfG15 (by decide) (by decide)
                            show WP kX12_reaches X 97 [some (2, ((1000 : Nat) : Int)), some (0, n), some (0, q7), some (0, c7), none, none] [(0, r16)] G15
                            refine s_goto (tgt := 101) dX12_reaches_97 (by decide) ?_
                            refine s_istore dX12_reaches_101 (by decide) (lv' := [some (2, ((1000 : Nat) : Int)), some (0, n), some (0, q7), some (0, c7), some (0, r16), none]) rfl ?_
                            have hrr9 : Fr [a_reached, a_todo] [] G G15 := Fr.call (ns := [a_reached, a_todo]) (js := []) ir7 (Fr.call (Fr.rf) hfG15 (by decide) (by decide) : Fr [a_todo] [] G7 G15) (by decide) (by decide)
                            have hmm9 : mS G15 ((gS G 1000 67)) = mS G7 ((gS G 1000 67)) := mS.cg (fun j => (Fr.call (Fr.rf) hfG15 (by decide) (by decide) : Fr [a_todo] [] G7 G15).atA (by decide) (by decide))
                            have hbb9 : M01 G15 ((gS G 1000 67)) := ib7.cg (fun j => (Fr.call (Fr.rf) hfG15 (by decide) (by decide) : Fr [a_todo] [] G7 G15).atA (by decide) (by decide))
                            have hoc : ∀ j : Int, 0 ≤ j → j < 32 → bitI r16 j → Occ G (exprC G c7) j := fun j j0 j1 q => by have z9 := (hpG15 j j0 j1).mp q; have e1 : exprC G7 c7 = exprC G c7 := exprC.agr (ir7.agr (by decide) (by decide) (by decide)) _; unfold exprC at e1; rw [e1] at z9; exact (Occ.agr (ir7.agr (by decide) (by decide) (by decide))).mp z9
                            refine s_iconst dX12_reaches_103 (by decide) ?_
                            refine s_istore dX12_reaches_104 (by decide) (lv' := [some (2, ((1000 : Nat) : Int)), some (0, n), some (0, q7), some (0, c7), some (0, r16), some (0, 0)]) rfl ?_
                            have L17 : ∀ (n17 : Nat) (q17 : Int) (k17 : Int) (G17 : LG), MG G17 → Fr nX12_reaches jX12_reaches G G17 → ((0 ≤ k17 ∧ k17 ≤ 10) ∧ (Fr [a_reached, a_todo] [] G G17) ∧ (M01 G17 ((gS G 1000 67))) ∧ ((q17 = 0 ∧ mS G17 ((gS G 1000 67)) = mS G5 ((gS G 1000 67))) ∨ (q17 = 1 ∧ mS G5 ((gS G 1000 67)) < mS G17 ((gS G 1000 67))))) → (10 - k17).toNat < n17 → WP kX12_reaches X 106 [some (2, ((1000 : Nat) : Int)), some (0, n), some (0, q17), some (0, c7), some (0, r16), some (0, k17)] [] G17 := by
                              intro n17
                              induction n17 with
                              | zero => intro q17 k17 G17 hMG17 hFG17 hi17 hm17; exact absurd hm17 (Nat.not_lt_zero _)
                              | succ n17 ih17 =>
                                intro q17 k17 G17 hMG17 hFG17 hi17 hm17
                                have hj17 := hi17
                                obtain ⟨ik17, ir17, ib17, im17⟩ := hi17
                                have iI17 : IN G17 I (10 * I) := hI.agr (ir17.agr (by decide) (by decide) (by decide))
                                have iU17 : UV G17 := hUV.agr (ir17.agr (by decide) (by decide) (by decide))
                                have iX17 : EX G17 := hEX.agr (ir17.agr (by decide) (by decide) (by decide))
                                have ice17 : (gS G17 1000 67) = (gS G 1000 67) := ir17.atF (by decide) (by decide)
                                have iI217 := iI17.2.2.1
                                have iI117 := iI17.1
                                have isb17 := ib17.sum (by omega)
                                refine s_iload dX12_reaches_106 rfl ?_
                                refine s_bipush dX12_reaches_108 rfl (by decide) ?_
                                refine s_icmp_ge (tgt := 159) dX12_reaches_110 (by decide) (fun c18 => ?_) (fun c18 => ?_)
                                · -- 110 to 159
                                  refine s_iinc dX12_reaches_159 (v := c7) rfl (by omega) (by decide) (lv' := [some (2, ((1000 : Nat) : Int)), some (0, n), some (0, q17), some (0, c7 + 1), some (0, r16), some (0, k17)]) rfl ?_
                                  refine s_goto (tgt := 71) dX12_reaches_162 (by decide) ?_
                                  refine s_mask [true, true, true, true, false, false] (lv' := [some (2, ((1000 : Nat) : Int)), some (0, n), some (0, q17), some (0, c7 + 1), none, none]) rfl ?_
                                  exact ih7 q17 (c7 + 1) G17 hMG17 hFG17 (⟨(by omega), (by exact ir17), (by exact ib17), (by exact im17)⟩) (by omega)
                                · -- 110 to 113
                                  refine s_iload dX12_reaches_113 rfl ?_
                                  refine s_iload dX12_reaches_115 rfl ?_
                                  refine cs_X12_367 rfl gX12_has dX12_reaches_117 (by rw [hcf]; decide) (as := [(0, r16), (0, k17)]) rfl (Nat.le_of_ble_eq_true rfl) ⟨r16, k17, rfl, ?_⟩
                                  show WP kX12_reaches X 120 [some (2, ((1000 : Nat) : Int)), some (0, n), some (0, q17), some (0, c7), some (0, r16), some (0, k17)] [(0, b2i (bitI r16 k17))] G17
                                  refine s_if_eqB (tgt := 153) dX12_reaches_120 (by decide) (fun c19 => ?_) (fun c19 => ?_)
                                  · -- 120 to 153
                                    refine s_iinc dX12_reaches_153 (v := k17) rfl (by omega) (by decide) (lv' := [some (2, ((1000 : Nat) : Int)), some (0, n), some (0, q17), some (0, c7), some (0, r16), some (0, k17 + 1)]) rfl ?_
                                    refine s_goto (tgt := 106) dX12_reaches_156 (by decide) ?_
                                    exact ih17 q17 (k17 + 1) G17 hMG17 hFG17 (⟨(by omega), (by exact ir17), (by exact ib17.cg (fun _ => rfl)), (by omega)⟩) (by omega)
                                  · -- 120 to 123
                                    have htg : 0 ≤ tgtC G c7 k17 := hFI c7 k17 (by omega) (by omega) (by omega) (by omega) (hoc k17 (by omega) (by omega) (by assumption))
                                    have hte : tgtC G17 c7 k17 = tgtC G c7 k17 := tgtC.agr (ir17.agr (by decide) (by decide) (by decide)) _ _
                                    have htl := hI.tgt (c := c7) (k := k17) (by omega) (by omega) (by omega) (by omega)
                                    rw [← hte] at htg htl
                                    unfold tgtC at htg htl
                                    refine s_aload_n dX12_reaches_123 rfl (Int.natCast_nonneg _) ?_
                                    refine gf_reached rfl dX12_reaches_124 hMG17 ?_
                                    refine s_aload_n dX12_reaches_127 rfl (Int.natCast_nonneg _) ?_
                                    refine s_iload_n dX12_reaches_128 rfl ?_
                                    refine s_iload dX12_reaches_129 rfl ?_
                                    refine cv_X12_518 rfl gX12_targetOf dX12_reaches_131 hMG17 (by rw [hcf]; decide) (as := [(0, c7), (0, k17)]) rfl (Nat.le_of_ble_eq_true rfl) ⟨c7, k17, I, (10 * I), rfl, hMG17, (by exact iI17), (by rfl), (by omega), (by omega), ?_⟩
                                    show WP kX12_reaches X 134 [some (2, ((1000 : Nat) : Int)), some (0, n), some (0, q17), some (0, c7), some (0, r16), some (0, k17)] [(0, (gS G17 a_cellAt (rootV G17 ((gS G17 a_cellOf (c7).toNat) / 10 * 10 + k17)).toNat)), (2, ((a_reached : Nat) : Int))] G17
                                    refine s_bald dX12_reaches_134 (mg_a_reached hMG17) (by omega) (by omega) rfl ?_
                                    refine s_if_ne (tgt := 153) dX12_reaches_135 (by decide) (fun c20 => ?_) (fun c20 => ?_)
                                    · -- 135 to 153
                                      refine s_iinc dX12_reaches_153 (v := k17) rfl (by omega) (by decide) (lv' := [some (2, ((1000 : Nat) : Int)), some (0, n), some (0, q17), some (0, c7), some (0, r16), some (0, k17 + 1)]) rfl ?_
                                      refine s_goto (tgt := 106) dX12_reaches_156 (by decide) ?_
                                      exact ih17 q17 (k17 + 1) G17 hMG17 hFG17 (⟨(by omega), (by exact ir17), (by exact ib17.cg (fun _ => rfl)), (by omega)⟩) (by omega)
                                    · -- 135 to 138
                                      refine s_aload_n dX12_reaches_138 rfl (Int.natCast_nonneg _) ?_
                                      refine gf_reached rfl dX12_reaches_139 hMG17 ?_
                                      refine s_aload_n dX12_reaches_142 rfl (Int.natCast_nonneg _) ?_
                                      refine s_iload_n dX12_reaches_143 rfl ?_
                                      refine s_iload dX12_reaches_144 rfl ?_
                                      refine cv_X12_518 rfl gX12_targetOf dX12_reaches_146 hMG17 (by rw [hcf]; decide) (as := [(0, c7), (0, k17)]) rfl (Nat.le_of_ble_eq_true rfl) ⟨c7, k17, I, (10 * I), rfl, hMG17, (by exact iI17), (by rfl), (by omega), (by omega), ?_⟩
                                      show WP kX12_reaches X 149 [some (2, ((1000 : Nat) : Int)), some (0, n), some (0, q17), some (0, c7), some (0, r16), some (0, k17)] [(0, (gS G17 a_cellAt (rootV G17 ((gS G17 a_cellOf (c7).toNat) / 10 * 10 + k17)).toNat)), (2, ((a_reached : Nat) : Int))] G17
                                      refine s_iconst dX12_reaches_149 (by decide) ?_
                                      refine r_bast dX12_reaches_150 hMG17 (mg_a_reached hMG17) (by decide) (by omega) (by omega) (by omega) (fun G21 eG21 hMG21 => ?_)
                                      have hFG21 : Fr nX12_reaches jX12_reaches G G21 := Fr.setA hFG17 eG21 (by decide)
                                      show WP kX12_reaches X 151 [some (2, ((1000 : Nat) : Int)), some (0, n), some (0, q17), some (0, c7), some (0, r16), some (0, k17)] [] G21
                                      refine s_iconst dX12_reaches_151 (by decide) ?_
                                      refine s_istore_n dX12_reaches_152 (by decide) (lv' := [some (2, ((1000 : Nat) : Int)), some (0, n), some (0, 1), some (0, c7), some (0, r16), some (0, k17)]) rfl ?_
                                      refine s_iinc dX12_reaches_153 (v := k17) rfl (by omega) (by decide) (lv' := [some (2, ((1000 : Nat) : Int)), some (0, n), some (0, 1), some (0, c7), some (0, r16), some (0, k17 + 1)]) rfl ?_
                                      refine s_goto (tgt := 106) dX12_reaches_156 (by decide) ?_
                                      exact ih17 1 (k17 + 1) G21 hMG21 hFG21 (⟨(by omega), (by exact Fr.call (ns := [a_reached, a_todo]) (js := []) ir17 (Fr.setA (Fr.rf) eG21 (by decide) : Fr [a_reached] [] G17 G21) (by decide) (by decide)), (by exact ib17.set (Or.inr rfl) (fun j => by rw [g_upd eG21])), (by rw [mS.set (G := G17) (c := (gS G17 a_cellAt (rootV G17 ((gS G17 a_cellOf (c7).toNat) / 10 * 10 + k17)).toNat)) (v := 1) ⟨by omega, by omega⟩ (fun j => by rw [g_upd eG21])]; omega)⟩) (by omega)
                            exact L17 _ q7 0 G15 hMG15 hFG15 (⟨(by omega), (by exact hrr9), (by exact hbb9), (by omega)⟩) (Nat.lt_succ_self _)
                    exact L7 _ 0 0 G5 hMG5 hFG5 (⟨(by omega), (by exact ir5), (by exact ib5), (by omega)⟩) (Nat.lt_succ_self _)
              exact L5 _ 1 G3 hMG3 hFG3 (⟨(by omega), (by exact ir3), (by exact ib3)⟩) (Nat.lt_succ_self _)
            · -- 33 to 36
              refine s_aload_n dX12_reaches_36 rfl (Int.natCast_nonneg _) ?_
              refine s_iload_n dX12_reaches_37 rfl ?_
              refine s_iload_n dX12_reaches_38 rfl ?_
              refine cv_X12_524 rfl gX12_shownBy dX12_reaches_39 hMG3 (by rw [hcf]; decide) (as := [(0, n), (0, k3)]) rfl (Nat.le_of_ble_eq_true rfl) ⟨n, k3, I, rfl, hMG3, (by exact iI3), (by exact hT.cg (Int.le_refl _) (fun _ _ _ => ir3.atA (by decide) (by decide)) (fun _ => ir3.atA (by decide) (by decide))), (by omega), (by omega), fun r23 G22 hMG22 hpG22 => ?_⟩
              obtain ⟨hfG22, hpG22⟩ := hpG22
              have hFG22 : Fr nX12_reaches jX12_reaches G G22 := Fr.call hFG3 hfG22 (by decide) (by decide)
              show WP kX12_reaches X 42 [some (2, ((1000 : Nat) : Int)), some (0, n), some (0, k3), none, none, none] [(0, r23)] G22
              refine s_istore_n dX12_reaches_42 (by decide) (lv' := [some (2, ((1000 : Nat) : Int)), some (0, n), some (0, k3), some (0, r23), none, none]) rfl ?_
              refine s_iload_n dX12_reaches_43 rfl ?_
              refine s_iconst dX12_reaches_44 (by decide) ?_
              refine s_icmp_eq (tgt := 55) dX12_reaches_45 (by decide) (fun c24 => ?_) (fun c24 => ?_)
              · -- 45 to 55
                refine s_iinc dX12_reaches_55 (v := k3) rfl (by omega) (by decide) (lv' := [some (2, ((1000 : Nat) : Int)), some (0, n), some (0, k3 + 1), some (0, r23), none, none]) rfl ?_
                refine s_goto (tgt := 30) dX12_reaches_58 (by decide) ?_
                refine s_mask [true, true, true, false, false, false] (lv' := [some (2, ((1000 : Nat) : Int)), some (0, n), some (0, k3 + 1), none, none, none]) rfl ?_
                exact ih3 (k3 + 1) G22 hMG22 hFG22 (⟨(by omega), (by exact Fr.call (ns := [a_reached, a_todo]) (js := []) ir3 (Fr.call (Fr.rf) hfG22 (by decide) (by decide) : Fr [] [] G3 G22) (by decide) (by decide)), (by exact ib3.cg (fun j => (Fr.call (Fr.rf) hfG22 (by decide) (by decide) : Fr [] [] G3 G22).atA (by decide) (by decide)))⟩) (by omega)
              · -- 45 to 48
                refine s_aload_n dX12_reaches_48 rfl (Int.natCast_nonneg _) ?_
                refine gf_reached rfl dX12_reaches_49 hMG22 ?_
                refine s_iload_n dX12_reaches_52 rfl ?_
                refine s_iconst dX12_reaches_53 (by decide) ?_
                refine r_bast dX12_reaches_54 hMG22 (mg_a_reached hMG22) (by decide) (by omega) (by omega) (by omega) (fun G25 eG25 hMG25 => ?_)
                have hFG25 : Fr nX12_reaches jX12_reaches G G25 := Fr.setA hFG22 eG25 (by decide)
                show WP kX12_reaches X 55 [some (2, ((1000 : Nat) : Int)), some (0, n), some (0, k3), some (0, r23), none, none] [] G25
                refine s_iinc dX12_reaches_55 (v := k3) rfl (by omega) (by decide) (lv' := [some (2, ((1000 : Nat) : Int)), some (0, n), some (0, k3 + 1), some (0, r23), none, none]) rfl ?_
                refine s_goto (tgt := 30) dX12_reaches_58 (by decide) ?_
                refine s_mask [true, true, true, false, false, false] (lv' := [some (2, ((1000 : Nat) : Int)), some (0, n), some (0, k3 + 1), none, none, none]) rfl ?_
                exact ih3 (k3 + 1) G25 hMG25 hFG25 (⟨(by omega), (by exact Fr.call (ns := [a_reached, a_todo]) (js := []) ir3 (Fr.setA (Fr.call (Fr.rf) hfG22 (by decide) (by decide)) eG25 (by decide) : Fr [a_reached] [] G3 G25) (by decide) (by decide)), (by exact ib3.set (Or.inr rfl) (fun j => by rw [g_upd eG25, (Fr.call (Fr.rf) hfG22 (by decide) (by decide) : Fr [] [] G3 G22).atA (by decide) (by decide)]))⟩) (by omega)
        exact L3 _ 0 G1 hMG1 hFG1 (⟨(by omega), (by exact ir1), (by have z9 := ib1; rw [show c1 = (gS G 1000 67) by omega] at z9; exact z9)⟩) (Nat.lt_succ_self _)
      · -- 7 to 10
        have hce1 := iI1.cell iU1 (c := c1) (by omega) (by omega)
        have hcx1 := hce1.1
        have hcx2 := hce1.2.1
        have hcx3 := hce1.2.2
        refine s_aload_n dX12_reaches_10 rfl (Int.natCast_nonneg _) ?_
        refine gf_reached rfl dX12_reaches_11 hMG1 ?_
        refine s_iload_n dX12_reaches_14 rfl ?_
        refine s_aload_n dX12_reaches_15 rfl (Int.natCast_nonneg _) ?_
        refine s_iload_n dX12_reaches_16 rfl ?_
        refine s_iconst dX12_reaches_17 (by decide) ?_
        refine cv_X12_521 rfl gX12_isA dX12_reaches_18 hMG1 (by rw [hcf]; decide) (as := [(0, c1), (0, 2)]) rfl (Nat.le_of_ble_eq_true rfl) ⟨c1, 2, rfl, hMG1, (by first | assumption | omega), (by first | assumption | omega), (by first | assumption | omega), ?_⟩
        show WP kX12_reaches X 21 [some (2, ((1000 : Nat) : Int)), some (0, n), some (0, c1), none, none, none] [(0, b2i (¬ i_and (gS G1 a_valueFlags (10 * (gS G1 a_versionAt ((gS G1 a_cellOf (c1).toNat) / 10).toNat) + (gS G1 a_cellOf (c1).toNat) % 10).toNat) 2 = 0)), (0, c1), (2, ((a_reached : Nat) : Int))] G1
        refine r_bast dX12_reaches_21 hMG1 (mg_a_reached hMG1) (by decide) (by omega) (by omega) b2i_01 (fun G26 eG26 hMG26 => ?_)
        have hFG26 : Fr nX12_reaches jX12_reaches G G26 := Fr.setA hFG1 eG26 (by decide)
        show WP kX12_reaches X 22 [some (2, ((1000 : Nat) : Int)), some (0, n), some (0, c1), none, none, none] [] G26
        refine s_iinc dX12_reaches_22 (v := c1) rfl (by omega) (by decide) (lv' := [some (2, ((1000 : Nat) : Int)), some (0, n), some (0, c1 + 1), none, none, none]) rfl ?_
        refine s_goto (tgt := 2) dX12_reaches_25 (by decide) ?_
        exact ih1 (c1 + 1) G26 hMG26 hFG26 (⟨(by omega), (by exact Fr.call (ns := [a_reached, a_todo]) (js := []) ir1 (Fr.setA (Fr.rf) eG26 (by decide) : Fr [a_reached] [] G1 G26) (by decide) (by decide)), (by intro j j0 j1; have z9 : ∀ j : Nat, gS G26 a_reached j = if j = (c1).toNat then b2i (¬ i_and (gS G1 a_valueFlags (10 * (gS G1 a_versionAt ((gS G1 a_cellOf (c1).toNat) / 10).toNat) + (gS G1 a_cellOf (c1).toNat) % 10).toNat) 2 = 0) else gS G1 a_reached j := (fun j => by rw [g_upd eG26]); rw [z9]; by_cases hj : j = c1; (rw [if_pos (by rw [hj])]; exact b2i_01); (rw [if_neg (by omega)]; exact ib1 j j0 (by omega)))⟩) (by omega)
  exact L1 _ 0 G hM Fr.rf (⟨(by omega), (by exact Fr.rf), (by intro j j0 j1; omega)⟩) (Nat.lt_succ_self _)
