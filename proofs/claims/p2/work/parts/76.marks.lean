abbrev nX12_shownBy : List Nat := []
abbrev jX12_shownBy : List Nat := []
def TX12_shownBy : TR := fun as G Qr => ∃ (n k : Int) (I : Int), as = [(2, ((1000 : Nat) : Int)), (0, n), (0, k)] ∧ MG G ∧ (IN G I (10 * I)) ∧ (TGd G 0 n (10 * I)) ∧ (0 ≤ n ∧ n < 43) ∧ (0 ≤ k ∧ k < 10) ∧ ∀ (r : Int) (G' : LG), MG G' → (Fr nX12_shownBy jX12_shownBy G G' ∧ (-1 ≤ r ∧ r < (gS G 1000 67))) → Qr (.inl (some (0, r))) G'
set_option maxHeartbeats 4000000 in
set_option maxRecDepth 100000 in
theorem gX12_shownBy : Good kX12_shownBy yX12_shownBy 1 TX12_shownBy := by
  refine good_of (by decide) rfl rfl (fun as G Qr h => ?_) (fun X as G Qr hcf hR hT oa => ?_)
  · obtain ⟨n, k, I, rfl, -⟩ := h; exact Nat.le_of_ble_eq_true rfl
  obtain ⟨n, k, I, rfl, hM, hI, hT, hn, hk, hQ⟩ := hT
  show WP kX12_shownBy X 0 [some (2, ((1000 : Nat) : Int)), some (0, n), some (0, k), none] [] G
  have hr_n : inR n := okv_R (oa _ (by simp))
  have hr_k : inR k := okv_R (oa _ (by simp))
  have hI1 := hI.1
  have hI3 := hI.2.2.1
  have ht := hT k hk.1 hk.2
  rw [show 10 * (0 : Int) + k = k by omega] at ht
  have ht1 := ht.1
  refine s_aload_n dX12_shownBy_0 rfl (Int.natCast_nonneg _) ?_
  refine s_iload_n dX12_shownBy_1 rfl ?_
  refine s_iload_n dX12_shownBy_2 rfl ?_
  refine cv_X12_388 rfl gX12_isOf dX12_shownBy_3 hM (by rw [hcf]; decide) (as := [(0, n), (0, k)]) rfl (Nat.le_of_ble_eq_true rfl) ⟨n, k, rfl, hM, (by first | assumption | omega), (by first | assumption | omega), ?_⟩
  show WP kX12_shownBy X 6 [some (2, ((1000 : Nat) : Int)), some (0, n), some (0, k), none] [(0, (gS G a_sValue (10 * n + k).toNat))] G
  refine s_iconst dX12_shownBy_6 (by decide) ?_
  refine s_icmp_eq (tgt := 28) dX12_shownBy_7 (by decide) (fun c1 => ?_) (fun c1 => ?_)
  · -- 7 to 28
    refine s_iconst dX12_shownBy_28 (by decide) ?_
    exact s_iret hR dX12_shownBy_29 rfl (hQ _ G hM (⟨Fr.rf, ⟨by omega, by omega⟩⟩))
  · -- 7 to 10
    refine s_aload_n dX12_shownBy_10 rfl (Int.natCast_nonneg _) ?_
    refine s_iload_n dX12_shownBy_11 rfl ?_
    refine s_iload_n dX12_shownBy_12 rfl ?_
    refine cv_X12_398 rfl gX12_isHole dX12_shownBy_13 hM (by rw [hcf]; decide) (as := [(0, n), (0, k)]) rfl (Nat.le_of_ble_eq_true rfl) ⟨n, k, rfl, hM, (by first | assumption | omega), (by first | assumption | omega), ?_⟩
    show WP kX12_shownBy X 16 [some (2, ((1000 : Nat) : Int)), some (0, n), some (0, k), none] [(0, b2i (¬ i_and (gS G a_sFlags (10 * n + k).toNat) 1 = 0))] G
    refine s_if_neB (tgt := 28) dX12_shownBy_16 (by decide) (fun c2 => ?_) (fun c2 => ?_)
    · -- 16 to 28
      refine s_iconst dX12_shownBy_28 (by decide) ?_
      exact s_iret hR dX12_shownBy_29 rfl (hQ _ G hM (⟨Fr.rf, ⟨by omega, by omega⟩⟩))
    · -- 16 to 19
      refine s_aload_n dX12_shownBy_19 rfl (Int.natCast_nonneg _) ?_
      refine s_iload_n dX12_shownBy_20 rfl ?_
      refine s_iload_n dX12_shownBy_21 rfl ?_
      refine cv_X12_410 rfl gX12_isGhost dX12_shownBy_22 hM (by rw [hcf]; decide) (as := [(0, n), (0, k)]) rfl (Nat.le_of_ble_eq_true rfl) ⟨n, k, rfl, hM, (by first | assumption | omega), (by first | assumption | omega), ?_⟩
      show WP kX12_shownBy X 25 [some (2, ((1000 : Nat) : Int)), some (0, n), some (0, k), none] [(0, b2i (¬ i_and (gS G a_sFlags (10 * n + k).toNat) 2 = 0))] G
      refine s_if_eqB (tgt := 30) dX12_shownBy_25 (by decide) (fun c3 => ?_) (fun c3 => ?_)
      · -- 25 to 30
        have ht2 := ht.2 (by omega)
        have hrr := hI.root ht2 ht1.2
        have hca := (hI.2.2.2.2.1 _ hrr.1.1 hrr.1.2).2.2
        refine s_aload_n dX12_shownBy_30 rfl (Int.natCast_nonneg _) ?_
        refine gf_cellAt rfl dX12_shownBy_31 hM ?_
        refine s_aload_n dX12_shownBy_34 rfl (Int.natCast_nonneg _) ?_
        refine s_aload_n dX12_shownBy_35 rfl (Int.natCast_nonneg _) ?_
        refine gf_table rfl dX12_shownBy_36 hM ?_
        refine s_iload_n dX12_shownBy_39 rfl ?_
        refine s_iald dX12_shownBy_40 (mg_a_table hM) (by omega) (by omega) rfl ?_
        refine cv_X12_500 rfl gX12_rootOf dX12_shownBy_41 hM (by rw [hcf]; decide) (as := [(0, gS G a_table ((k).toNat))]) rfl (Nat.le_of_ble_eq_true rfl) ⟨gS G a_table ((k).toNat), rfl, hM, (by exact hI.rt ht2 ht1.2), ?_⟩
        show WP kX12_shownBy X 44 [some (2, ((1000 : Nat) : Int)), some (0, n), some (0, k), none] [(0, rootV G (gS G a_table ((k).toNat))), (2, ((a_cellAt : Nat) : Int))] G
        refine s_iald dX12_shownBy_44 (mg_a_cellAt hM) (by omega) (by omega) rfl ?_
        refine s_istore_n dX12_shownBy_45 (by decide) (lv' := [some (2, ((1000 : Nat) : Int)), some (0, n), some (0, k), some (0, gS G a_cellAt ((rootV G (gS G a_table ((k).toNat))).toNat))]) rfl ?_
        refine s_iload_n dX12_shownBy_46 rfl ?_
        have J5 : ∀ z4 : Int, ((0 ≤ (gS G a_cellAt ((rootV G (gS G a_table ((k).toNat))).toNat))) ∧ z4 = gS G a_cellAt ((rootV G (gS G a_table ((k).toNat))).toNat)) ∨ ((¬ 0 ≤ (gS G a_cellAt ((rootV G (gS G a_table ((k).toNat))).toNat))) ∧ z4 = (-1)) → WP kX12_shownBy X 55 [some (2, ((1000 : Nat) : Int)), some (0, n), some (0, k), some (0, gS G a_cellAt ((rootV G (gS G a_table ((k).toNat))).toNat))] [(0, z4)] G := by
          intro z4 hz4
          exact s_iret hR dX12_shownBy_55 rfl (hQ _ G hM (⟨Fr.rf, ⟨by omega, by omega⟩⟩))
        refine s_if_ge (tgt := 54) dX12_shownBy_47 (by decide) (fun c6 => ?_) (fun c6 => ?_)
        · -- 47 to 54
          refine s_iload_n dX12_shownBy_54 rfl ?_
          exact J5 _ (Or.inl ⟨c6, rfl⟩)
        · -- 47 to 50
          refine s_iconst dX12_shownBy_50 (by decide) ?_
          refine s_goto (tgt := 55) dX12_shownBy_51 (by decide) ?_
          exact J5 ((-1)) (Or.inr (⟨c6, rfl⟩))
      · -- 25 to 28
        refine s_iconst dX12_shownBy_28 (by decide) ?_
        exact s_iret hR dX12_shownBy_29 rfl (hQ _ G hM (⟨Fr.rf, ⟨by omega, by omega⟩⟩))

abbrev nX12_areFilled : List Nat := [a_todo]
abbrev jX12_areFilled : List Nat := []
def TX12_areFilled : TR := fun as G Qr => ∃ (I : Int), as = [(2, ((1000 : Nat) : Int))] ∧ MG G ∧ (IN G I (10 * I)) ∧ (UV G) ∧ (EX G) ∧ ∀ (r : Int) (G' : LG), MG G' → (Fr nX12_areFilled jX12_areFilled G G' ∧ ((r = 0 ∨ r = 1) ∧ (¬ r = 0 → FI G))) → Qr (.inl (some (0, r))) G'
set_option maxHeartbeats 4000000 in
set_option maxRecDepth 100000 in
theorem gX12_areFilled : Good kX12_areFilled yX12_areFilled 2 TX12_areFilled := by
  refine good_of (by decide) rfl rfl (fun as G Qr h => ?_) (fun X as G Qr hcf hR hT oa => ?_)
  · obtain ⟨I, rfl, -⟩ := h; exact Nat.le_of_ble_eq_true rfl
  obtain ⟨I, rfl, hM, hI, hUV, hEX, hQ⟩ := hT
  show WP kX12_areFilled X 0 [some (2, ((1000 : Nat) : Int)), none, none, none, none] [] G
  refine s_iconst dX12_areFilled_0 (by decide) ?_
  refine s_istore_n dX12_areFilled_1 (by decide) (lv' := [some (2, ((1000 : Nat) : Int)), some (0, 1), none, none, none]) rfl ?_
  refine s_iconst dX12_areFilled_2 (by decide) ?_
  refine s_istore_n dX12_areFilled_3 (by decide) (lv' := [some (2, ((1000 : Nat) : Int)), some (0, 1), some (0, 0), none, none]) rfl ?_
  have L1 : ∀ (n1 : Nat) (b1 : Int) (c1 : Int) (G1 : LG), MG G1 → Fr nX12_areFilled jX12_areFilled G G1 → ((0 ≤ c1 ∧ c1 ≤ (gS G 1000 67)) ∧ (b1 = 0 ∨ b1 = 1) ∧ (Fr [a_todo] [] G G1) ∧ (¬ b1 = 0 → ∀ x k : Int, 0 ≤ x → x < c1 → 0 ≤ k → k < 10 → Occ G (exprC G x) k → 0 ≤ tgtC G x k)) → ((gS G 1000 67) - c1).toNat < n1 → WP kX12_areFilled X 4 [some (2, ((1000 : Nat) : Int)), some (0, b1), some (0, c1), none, none] [] G1 := by
    intro n1
    induction n1 with
    | zero => intro b1 c1 G1 hMG1 hFG1 hi1 hm1; exact absurd hm1 (Nat.not_lt_zero _)
    | succ n1 ih1 =>
      intro b1 c1 G1 hMG1 hFG1 hi1 hm1
      have hj1 := hi1
      obtain ⟨ic1, iq1, ir1, if1⟩ := hi1
      have iI1 : IN G1 I (10 * I) := hI.agr (ir1.agr (by decide) (by decide) (by decide))
      have iU1 : UV G1 := hUV.agr (ir1.agr (by decide) (by decide) (by decide))
      have iX1 : EX G1 := hEX.agr (ir1.agr (by decide) (by decide) (by decide))
      have ice1 : (gS G1 1000 67) = (gS G 1000 67) := ir1.atF (by decide) (by decide)
      have iI21 := iI1.2.2.1
      have iI11 := iI1.1
      refine s_iload_n dX12_areFilled_4 rfl ?_
      refine s_aload_n dX12_areFilled_5 rfl (Int.natCast_nonneg _) ?_
      refine gf_cells rfl dX12_areFilled_6 hMG1 rfl ?_
      refine s_icmp_ge (tgt := 73) dX12_areFilled_9 (by decide) (fun c2 => ?_) (fun c2 => ?_)
      · -- 9 to 73
        refine s_iload_n dX12_areFilled_73 rfl ?_
        exact s_zret hR dX12_areFilled_74 rfl (by first | exact Or.inl rfl | exact Or.inr rfl | exact b2i_01 | omega) (hQ _ G1 hMG1 (⟨hFG1, ⟨iq1, fun q x k x0 x1 k0 k1 qo => if1 q x k x0 (by omega) k0 k1 qo⟩⟩))
      · -- 9 to 12
        have hce1 := iI1.cell iU1 (c := c1) (by omega) (by omega)
        have hcx1 := hce1.1
        have hcx2 := hce1.2.1
        have hcx3 := hce1.2.2
        refine s_aload_n dX12_areFilled_12 rfl (Int.natCast_nonneg _) ?_
        refine s_aload_n dX12_areFilled_13 rfl (Int.natCast_nonneg _) ?_
        refine s_iload_n dX12_areFilled_14 rfl ?_
        refine cv_X12_515 rfl gX12_expressionOf dX12_areFilled_15 hMG1 (by rw [hcf]; decide) (as := [(0, c1)]) rfl (Nat.le_of_ble_eq_true rfl) ⟨c1, rfl, hMG1, (by first | assumption | omega), (by first | assumption | omega), (by first | assumption | omega), ?_⟩
        show WP kX12_areFilled X 18 [some (2, ((1000 : Nat) : Int)), some (0, b1), some (0, c1), none, none] [(0, (gS G1 a_valueBy (10 * (gS G1 a_versionAt ((gS G1 a_cellOf (c1).toNat) / 10).toNat) + (gS G1 a_cellOf (c1).toNat) % 10).toNat)), (2, ((1000 : Nat) : Int))] G1
        refine cv_X12_407 rfl gX12_refsOf dX12_areFilled_18 hMG1 (by rw [hcf]; decide) (as := [(0, (gS G1 a_valueBy (10 * (gS G1 a_versionAt ((gS G1 a_cellOf (c1).toNat) / 10).toNat) + (gS G1 a_cellOf (c1).toNat) % 10).toNat))]) rfl (Nat.le_of_ble_eq_true rfl) ⟨(gS G1 a_valueBy (10 * (gS G1 a_versionAt ((gS G1 a_cellOf (c1).toNat) / 10).toNat) + (gS G1 a_cellOf (c1).toNat) % 10).toNat), rfl, hMG1, (by exact iX1), (by exact hce1.2.2.1), fun r4 G3 hMG3 hpG3 => ?_⟩
        obtain ⟨hfG3, hpG3⟩ := hpG3
        have hFG3 : Fr nX12_areFilled jX12_areFilled G G3 := Fr.call hFG1 hfG3 (by decide) (by decide)
        show WP kX12_areFilled X 21 [some (2, ((1000 : Nat) : Int)), some (0, b1), some (0, c1), none, none] [(0, r4)] G3
        refine s_istore_n dX12_areFilled_21 (by decide) (lv' := [some (2, ((1000 : Nat) : Int)), some (0, b1), some (0, c1), some (0, r4), none]) rfl ?_
        have hfr9 := (Fr.call (Fr.rf) hfG3 (by decide) (by decide) : Fr [a_todo] [] G1 G3)
        have hrr9 : Fr [a_todo] [] G G3 := Fr.call ir1 hfr9 (by decide) (by decide)
        have hI9 : IN G3 I (10 * I) := hI.agr (hrr9.agr (by decide) (by decide) (by decide))
        have hc9 : (gS G3 1000 67) = (gS G 1000 67) := hrr9.atF (by decide) (by decide)
        have hoc : ∀ j : Int, 0 ≤ j → j < 32 → Occ G (exprC G c1) j → bitI r4 j := fun j j0 j1 q => (hpG3 j j0 j1).mpr (by have e1 : exprC G1 c1 = exprC G c1 := exprC.agr (ir1.agr (by decide) (by decide) (by decide)) _; unfold exprC at e1; rw [e1]; exact (Occ.agr (ir1.agr (by decide) (by decide) (by decide))).mpr q)
        refine s_iconst dX12_areFilled_22 (by decide) ?_
        refine s_istore dX12_areFilled_23 (by decide) (lv' := [some (2, ((1000 : Nat) : Int)), some (0, b1), some (0, c1), some (0, r4), some (0, 0)]) rfl ?_
        have L5 : ∀ (n5 : Nat) (b5 : Int) (k5 : Int), ((0 ≤ k5 ∧ k5 ≤ 10) ∧ (b5 = 0 ∨ b5 = 1) ∧ (¬ b5 = 0 → (∀ x k : Int, 0 ≤ x → x < c1 → 0 ≤ k → k < 10 → Occ G (exprC G x) k → 0 ≤ tgtC G x k) ∧ ∀ j : Int, 0 ≤ j → j < k5 → Occ G (exprC G c1) j → 0 ≤ tgtC G c1 j)) → (10 - k5).toNat < n5 → WP kX12_areFilled X 25 [some (2, ((1000 : Nat) : Int)), some (0, b5), some (0, c1), some (0, r4), some (0, k5)] [] G3 := by
          intro n5
          induction n5 with
          | zero => intro b5 k5 hi5 hm5; exact absurd hm5 (Nat.not_lt_zero _)
          | succ n5 ih5 =>
            intro b5 k5 hi5 hm5
            have hj5 := hi5
            obtain ⟨ik5, iq5, if5⟩ := hi5
            refine s_iload dX12_areFilled_25 rfl ?_
            refine s_bipush dX12_areFilled_27 rfl (by decide) ?_
            refine s_icmp_ge (tgt := 67) dX12_areFilled_29 (by decide) (fun c6 => ?_) (fun c6 => ?_)
            · -- 29 to 67
              refine s_iinc dX12_areFilled_67 (v := c1) rfl (by omega) (by decide) (lv' := [some (2, ((1000 : Nat) : Int)), some (0, b5), some (0, c1 + 1), some (0, r4), some (0, k5)]) rfl ?_
              refine s_goto (tgt := 4) dX12_areFilled_70 (by decide) ?_
              refine s_mask [true, true, true, false, false] (lv' := [some (2, ((1000 : Nat) : Int)), some (0, b5), some (0, c1 + 1), none, none]) rfl ?_
              exact ih1 b5 (c1 + 1) G3 hMG3 hFG3 (⟨(by omega), (by omega), (by exact hrr9), (by intro q x k x0 x1 k0 k1 qo; have z9 := if5 q; by_cases hc : x = c1; (subst hc; exact z9.2 k k0 (by omega) qo); (exact z9.1 x k x0 (by omega) k0 k1 qo))⟩) (by omega)
            · -- 29 to 32
              refine s_iload_n dX12_areFilled_32 rfl ?_
              have J8 : ∀ z7 : Int, ((b5 = 0) ∧ z7 = 0) ∨ ((¬ b5 = 0) ∧ (¬ (bitI r4 k5)) ∧ z7 = 1) ∨ ((¬ b5 = 0) ∧ (bitI r4 k5) ∧ (((gS G3 a_cellAt (rootV G3 ((gS G3 a_cellOf (c1).toNat) / 10 * 10 + k5)).toNat)) < 0) ∧ z7 = 0) ∨ ((¬ b5 = 0) ∧ (bitI r4 k5) ∧ (¬ ((gS G3 a_cellAt (rootV G3 ((gS G3 a_cellOf (c1).toNat) / 10 * 10 + k5)).toNat)) < 0) ∧ z7 = 1) → WP kX12_areFilled X 60 [some (2, ((1000 : Nat) : Int)), some (0, b5), some (0, c1), some (0, r4), some (0, k5)] [(0, z7)] G3 := by
                intro z7 hz7
                refine s_istore_n dX12_areFilled_60 (by decide) (lv' := [some (2, ((1000 : Nat) : Int)), some (0, z7), some (0, c1), some (0, r4), some (0, k5)]) rfl ?_
                refine s_iinc dX12_areFilled_61 (v := k5) rfl (by omega) (by decide) (lv' := [some (2, ((1000 : Nat) : Int)), some (0, z7), some (0, c1), some (0, r4), some (0, k5 + 1)]) rfl ?_
                refine s_goto (tgt := 25) dX12_areFilled_64 (by decide) ?_
                exact ih5 z7 (k5 + 1) (⟨(by omega), (by omega), (by intro q; rcases hz7 with z | z | z | z; (exact absurd z.2 q); (have z9 := if5 (by omega); refine ⟨z9.1, fun j j0 j1 qo => ?_⟩; by_cases hj : j = k5; (subst hj; exact absurd (hoc j j0 (by omega) qo) z.2.1); (exact z9.2 j j0 (by omega) qo)); (exact absurd z.2.2.2 q); (have z9 := if5 (by omega); refine ⟨z9.1, fun j j0 j1 qo => ?_⟩; by_cases hj : j = k5; (subst hj; have e1 : tgtC G3 c1 j = tgtC G c1 j := tgtC.agr (hrr9.agr (by decide) (by decide) (by decide)) _ _; rw [← e1]; exact Int.not_lt.mp z.2.2.1); (exact z9.2 j j0 (by omega) qo)))⟩) (by omega)
              refine s_if_eq (tgt := 59) dX12_areFilled_33 (by decide) (fun c9 => ?_) (fun c9 => ?_)
              · -- 33 to 59
                refine s_iconst dX12_areFilled_59 (by decide) ?_
                exact J8 0 (Or.inl ⟨c9, rfl⟩)
              · -- 33 to 36
                refine s_iload_n dX12_areFilled_36 rfl ?_
                refine s_iload dX12_areFilled_37 rfl ?_
                refine cs_X12_367 rfl gX12_has dX12_areFilled_39 (by rw [hcf]; decide) (as := [(0, r4), (0, k5)]) rfl (Nat.le_of_ble_eq_true rfl) ⟨r4, k5, rfl, ?_⟩
                show WP kX12_areFilled X 42 [some (2, ((1000 : Nat) : Int)), some (0, b5), some (0, c1), some (0, r4), some (0, k5)] [(0, b2i (bitI r4 k5))] G3
                refine s_if_eqB (tgt := 55) dX12_areFilled_42 (by decide) (fun c10 => ?_) (fun c10 => ?_)
                · -- 42 to 55
                  refine s_iconst dX12_areFilled_55 (by decide) ?_
                  refine s_goto (tgt := 60) dX12_areFilled_56 (by decide) ?_
                  exact J8 1 (Or.inr (Or.inl ⟨c9, c10, rfl⟩))
                · -- 42 to 45
                  refine s_aload_n dX12_areFilled_45 rfl (Int.natCast_nonneg _) ?_
                  refine s_iload_n dX12_areFilled_46 rfl ?_
                  refine s_iload dX12_areFilled_47 rfl ?_
                  refine cv_X12_518 rfl gX12_targetOf dX12_areFilled_49 hMG3 (by rw [hcf]; decide) (as := [(0, c1), (0, k5)]) rfl (Nat.le_of_ble_eq_true rfl) ⟨c1, k5, I, (10 * I), rfl, hMG3, (by exact hI9), (by rfl), (by omega), (by omega), ?_⟩
                  show WP kX12_areFilled X 52 [some (2, ((1000 : Nat) : Int)), some (0, b5), some (0, c1), some (0, r4), some (0, k5)] [(0, (gS G3 a_cellAt (rootV G3 ((gS G3 a_cellOf (c1).toNat) / 10 * 10 + k5)).toNat))] G3
                  refine s_if_lt (tgt := 59) dX12_areFilled_52 (by decide) (fun c11 => ?_) (fun c11 => ?_)
                  · -- 52 to 59
                    refine s_iconst dX12_areFilled_59 (by decide) ?_
                    exact J8 0 (Or.inr (Or.inr (Or.inl ⟨c9, c10, c11, rfl⟩)))
                  · -- 52 to 55
                    refine s_iconst dX12_areFilled_55 (by decide) ?_
                    refine s_goto (tgt := 60) dX12_areFilled_56 (by decide) ?_
                    exact J8 1 (Or.inr (Or.inr (Or.inr (⟨c9, c10, c11, rfl⟩))))
        exact L5 _ b1 0 (⟨(by omega), (by omega), (by exact fun q => ⟨if1 q, fun j j0 j1 => by omega⟩)⟩) (Nat.lt_succ_self _)
  exact L1 _ 1 0 G hM Fr.rf (⟨(by have := hI.2.2.1; omega), (by omega), (by exact Fr.rf), (by intro _ c k c0 c1; omega)⟩) (Nat.lt_succ_self _)

abbrev nX12_isRing : List Nat := [a_reached, a_todo]
abbrev jX12_isRing : List Nat := []
def TX12_isRing : TR := fun as G Qr => ∃ (I : Int), as = [(2, ((1000 : Nat) : Int))] ∧ MG G ∧ (IN G I (10 * I)) ∧ (UV G) ∧ (EX G) ∧ (FI G) ∧ ∀ (r : Int) (G' : LG), MG G' → (Fr nX12_isRing jX12_isRing G G' ∧ (r = 0 ∨ r = 1)) → Qr (.inl (some (0, r))) G'
set_option maxHeartbeats 4000000 in
set_option maxRecDepth 100000 in
theorem gX12_isRing : Good kX12_isRing yX12_isRing 2 TX12_isRing := by
  refine good_of (by decide) rfl rfl (fun as G Qr h => ?_) (fun X as G Qr hcf hR hT oa => ?_)
  · obtain ⟨I, rfl, -⟩ := h; exact Nat.le_of_ble_eq_true rfl
  obtain ⟨I, rfl, hM, hI, hUV, hEX, hFI, hQ⟩ := hT
  show WP kX12_isRing X 0 [some (2, ((1000 : Nat) : Int)), none, none, none, none, none, none] [] G
  have hI0 := hI.2.2.1
  have hI00 := hI.1
  refine s_iconst dX12_isRing_0 (by decide) ?_
  refine s_istore_n dX12_isRing_1 (by decide) (lv' := [some (2, ((1000 : Nat) : Int)), some (0, 0), none, none, none, none, none]) rfl ?_
  refine s_iconst dX12_isRing_2 (by decide) ?_
  refine s_istore_n dX12_isRing_3 (by decide) (lv' := [some (2, ((1000 : Nat) : Int)), some (0, 0), some (0, 0), none, none, none, none]) rfl ?_
  have L1 : ∀ (n1 : Nat) (m1 : Int) (c1 : Int) (G1 : LG), MG G1 → Fr nX12_isRing jX12_isRing G G1 → ((0 ≤ c1 ∧ c1 ≤ (gS G 1000 67)) ∧ (Fr [a_reached, a_todo] [] G G1) ∧ (M01 G1 c1) ∧ (m1 = mS G1 c1)) → ((gS G 1000 67) - c1).toNat < n1 → WP kX12_isRing X 4 [some (2, ((1000 : Nat) : Int)), some (0, m1), some (0, c1), none, none, none, none] [] G1 := by
    intro n1
    induction n1 with
    | zero => intro m1 c1 G1 hMG1 hFG1 hi1 hm1; exact absurd hm1 (Nat.not_lt_zero _)
    | succ n1 ih1 =>
      intro m1 c1 G1 hMG1 hFG1 hi1 hm1
      have hj1 := hi1
      obtain ⟨ic1, ir1, ib1, is1⟩ := hi1
      have iI1 : IN G1 I (10 * I) := hI.agr (ir1.agr (by decide) (by decide) (by decide))
      have iU1 : UV G1 := hUV.agr (ir1.agr (by decide) (by decide) (by decide))
      have iX1 : EX G1 := hEX.agr (ir1.agr (by decide) (by decide) (by decide))
      have ice1 : (gS G1 1000 67) = (gS G 1000 67) := ir1.atF (by decide) (by decide)
      have iI21 := iI1.2.2.1
      have iI11 := iI1.1
      have isb1 := ib1.sum ic1.1
      refine s_iload_n dX12_isRing_4 rfl ?_
      refine s_aload_n dX12_isRing_5 rfl (Int.natCast_nonneg _) ?_
      refine gf_cells rfl dX12_isRing_6 hMG1 rfl ?_
      refine s_icmp_ge (tgt := 55) dX12_isRing_9 (by decide) (fun c2 => ?_) (fun c2 => ?_)
      · -- 9 to 55
        refine s_iconst dX12_isRing_55 (by decide) ?_
        refine s_istore_n dX12_isRing_56 (by decide) (lv' := [some (2, ((1000 : Nat) : Int)), some (0, m1), some (0, 1), none, none, none, none]) rfl ?_
        have L3 : ∀ (n3 : Nat) (m3 : Int) (q3 : Int) (G3 : LG), MG G3 → Fr nX12_isRing jX12_isRing G G3 → ((q3 = 0 ∨ q3 = 1) ∧ (Fr [a_reached, a_todo] [] G G3) ∧ (M01 G3 ((gS G 1000 67))) ∧ (m3 = mS G3 ((gS G 1000 67)))) → (2 * m3 + q3).toNat < n3 → WP kX12_isRing X 57 [some (2, ((1000 : Nat) : Int)), some (0, m3), some (0, q3), none, none, none, none] [] G3 := by
          intro n3
          induction n3 with
          | zero => intro m3 q3 G3 hMG3 hFG3 hi3 hm3; exact absurd hm3 (Nat.not_lt_zero _)
          | succ n3 ih3 =>
            intro m3 q3 G3 hMG3 hFG3 hi3 hm3
            have hj3 := hi3
            obtain ⟨iq3, ir3, ib3, is3⟩ := hi3
            have iI3 : IN G3 I (10 * I) := hI.agr (ir3.agr (by decide) (by decide) (by decide))
            have iU3 : UV G3 := hUV.agr (ir3.agr (by decide) (by decide) (by decide))
            have iX3 : EX G3 := hEX.agr (ir3.agr (by decide) (by decide) (by decide))
            have ice3 : (gS G3 1000 67) = (gS G 1000 67) := ir3.atF (by decide) (by decide)
            have iI23 := iI3.2.2.1
            have iI13 := iI3.1
            have isb3 := ib3.sum (by omega)
            refine s_iload_n dX12_isRing_57 rfl ?_
            refine s_if_eq (tgt := 175) dX12_isRing_58 (by decide) (fun c4 => ?_) (fun c4 => ?_)
            · -- 58 to 175
              refine s_iload_n dX12_isRing_175 rfl ?_
              have J6 : ∀ z5 : Int, ((m3 ≤ 0) ∧ z5 = 0) ∨ ((¬ m3 ≤ 0) ∧ z5 = 1) → WP kX12_isRing X 184 [some (2, ((1000 : Nat) : Int)), some (0, m3), some (0, q3), none, none, none, none] [(0, z5)] G3 := by
                intro z5 hz5
                exact s_zret hR dX12_isRing_184 rfl (by omega) (hQ _ G3 hMG3 (⟨hFG3, by omega⟩))
              refine s_if_le (tgt := 183) dX12_isRing_176 (by decide) (fun c7 => ?_) (fun c7 => ?_)
              · -- 176 to 183
                refine s_iconst dX12_isRing_183 (by decide) ?_
                exact J6 0 (Or.inl ⟨c7, rfl⟩)
              · -- 176 to 179
                refine s_iconst dX12_isRing_179 (by decide) ?_
                refine s_goto (tgt := 184) dX12_isRing_180 (by decide) ?_
                exact J6 1 (Or.inr (⟨c7, rfl⟩))
            · -- 58 to 61
              refine s_iconst dX12_isRing_61 (by decide) ?_
              refine s_istore_n dX12_isRing_62 (by decide) (lv' := [some (2, ((1000 : Nat) : Int)), some (0, m3), some (0, 0), none, none, none, none]) rfl ?_
              refine s_iconst dX12_isRing_63 (by decide) ?_
              refine s_istore_n dX12_isRing_64 (by decide) (lv' := [some (2, ((1000 : Nat) : Int)), some (0, m3), some (0, 0), some (0, 0), none, none, none]) rfl ?_
              have L8 : ∀ (n8 : Nat) (m8 : Int) (q8 : Int) (c8 : Int) (G8 : LG), MG G8 → Fr nX12_isRing jX12_isRing G G8 → ((0 ≤ c8 ∧ c8 ≤ (gS G 1000 67)) ∧ (Fr [a_reached, a_todo] [] G G8) ∧ (M01 G8 ((gS G 1000 67))) ∧ (m8 = mS G8 ((gS G 1000 67))) ∧ ((q8 = 0 ∧ m8 = m3) ∨ (q8 = 1 ∧ m8 < m3))) → ((gS G 1000 67) - c8).toNat < n8 → WP kX12_isRing X 65 [some (2, ((1000 : Nat) : Int)), some (0, m8), some (0, q8), some (0, c8), none, none, none] [] G8 := by
                intro n8
                induction n8 with
                | zero => intro m8 q8 c8 G8 hMG8 hFG8 hi8 hm8; exact absurd hm8 (Nat.not_lt_zero _)
                | succ n8 ih8 =>
                  intro m8 q8 c8 G8 hMG8 hFG8 hi8 hm8
                  have hj8 := hi8
                  obtain ⟨ic8, ir8, ib8, is8, im8⟩ := hi8
                  have iI8 : IN G8 I (10 * I) := hI.agr (ir8.agr (by decide) (by decide) (by decide))
                  have iU8 : UV G8 := hUV.agr (ir8.agr (by decide) (by decide) (by decide))
                  have iX8 : EX G8 := hEX.agr (ir8.agr (by decide) (by decide) (by decide))
                  have ice8 : (gS G8 1000 67) = (gS G 1000 67) := ir8.atF (by decide) (by decide)
                  have iI28 := iI8.2.2.1
                  have iI18 := iI8.1
                  have isb8 := ib8.sum (by omega)
                  refine s_iload_n dX12_isRing_65 rfl ?_
                  refine s_aload_n dX12_isRing_66 rfl (Int.natCast_nonneg _) ?_
                  refine gf_cells rfl dX12_isRing_67 hMG8 rfl ?_
                  refine s_icmp_ge (tgt := 172) dX12_isRing_70 (by decide) (fun c9 => ?_) (fun c9 => ?_)
                  · -- 70 to 172
                    refine s_goto (tgt := 57) dX12_isRing_172 (by decide) ?_
                    refine s_mask [true, true, true, false, false, false, false] (lv' := [some (2, ((1000 : Nat) : Int)), some (0, m8), some (0, q8), none, none, none, none]) rfl ?_
                    exact ih3 m8 q8 G8 hMG8 hFG8 (⟨(by omega), (by exact ir8), (by exact ib8), (by exact is8)⟩) (by omega)
                  · -- 70 to 73
                    refine s_aload_n dX12_isRing_73 rfl (Int.natCast_nonneg _) ?_
                    refine gf_reached rfl dX12_isRing_74 hMG8 ?_
                    refine s_iload_n dX12_isRing_77 rfl ?_
                    refine s_bald dX12_isRing_78 (mg_a_reached hMG8) (by omega) (by omega) rfl ?_
                    refine s_if_eq (tgt := 166) dX12_isRing_79 (by decide) (fun c10 => ?_) (fun c10 => ?_)
                    · -- 79 to 166
                      refine s_iinc dX12_isRing_166 (v := c8) rfl (by omega) (by decide) (lv' := [some (2, ((1000 : Nat) : Int)), some (0, m8), some (0, q8), some (0, c8 + 1), none, none, none]) rfl ?_
                      refine s_goto (tgt := 65) dX12_isRing_169 (by decide) ?_
                      exact ih8 m8 q8 (c8 + 1) G8 hMG8 hFG8 (⟨(by omega), (by exact ir8), (by exact ib8.cg (fun _ => rfl)), (by rw [mS.cg (G := G8) (fun _ => rfl)]; omega), (by omega)⟩) (by omega)
                    · -- 79 to 82
                      have hce8 := iI8.cell iU8 (c := c8) (by omega) (by omega)
                      have hcx1 := hce8.1
                      have hcx2 := hce8.2.1
                      have hcx3 := hce8.2.2
                      refine s_aload_n dX12_isRing_82 rfl (Int.natCast_nonneg _) ?_
                      refine s_aload_n dX12_isRing_83 rfl (Int.natCast_nonneg _) ?_
                      refine s_iload_n dX12_isRing_84 rfl ?_
                      refine cv_X12_515 rfl gX12_expressionOf dX12_isRing_85 hMG8 (by rw [hcf]; decide) (as := [(0, c8)]) rfl (Nat.le_of_ble_eq_true rfl) ⟨c8, rfl, hMG8, (by first | assumption | omega), (by first | assumption | omega), (by first | assumption | omega), ?_⟩
                      show WP kX12_isRing X 88 [some (2, ((1000 : Nat) : Int)), some (0, m8), some (0, q8), some (0, c8), none, none, none] [(0, (gS G8 a_valueBy (10 * (gS G8 a_versionAt ((gS G8 a_cellOf (c8).toNat) / 10).toNat) + (gS G8 a_cellOf (c8).toNat) % 10).toNat)), (2, ((1000 : Nat) : Int))] G8
                      refine cv_X12_407 rfl gX12_refsOf dX12_isRing_88 hMG8 (by rw [hcf]; decide) (as := [(0, (gS G8 a_valueBy (10 * (gS G8 a_versionAt ((gS G8 a_cellOf (c8).toNat) / 10).toNat) + (gS G8 a_cellOf (c8).toNat) % 10).toNat))]) rfl (Nat.le_of_ble_eq_true rfl) ⟨(gS G8 a_valueBy (10 * (gS G8 a_versionAt ((gS G8 a_cellOf (c8).toNat) / 10).toNat) + (gS G8 a_cellOf (c8).toNat) % 10).toNat), rfl, hMG8, (by exact iX8), (by exact hce8.2.2.1), fun r12 G11 hMG11 hpG11 => ?_⟩
                      obtain ⟨hfG11, hpG11⟩ := hpG11
                      have hFG11 : Fr nX12_isRing jX12_isRing G G11 := Fr.call hFG8 hfG11 (by decide) (by decide)
                      show WP kX12_isRing X 91 [some (2, ((1000 : Nat) : Int)), some (0, m8), some (0, q8), some (0, c8), none, none, none] [(0, r12)] G11
                      have hfr9 := (Fr.call (Fr.rf) hfG11 (by decide) (by decide) : Fr [a_todo] [] G8 G11)
                      have hI9 : IN G11 I (10 * I) := iI8.agr (hfr9.agr (by decide) (by decide) (by decide))
                      have hc9 : (gS G11 1000 67) = (gS G 1000 67) := (hfr9.atF (by decide) (by decide)).trans ice8
                      have hrr9 : Fr [a_reached, a_todo] [] G G11 := Fr.call (ns := [a_reached, a_todo]) (js := []) ir8 hfr9 (by decide) (by decide)
                      have hoc : ∀ j : Int, 0 ≤ j → j < 32 → bitI r12 j → Occ G (exprC G c8) j := fun j j0 j1 q => by have z9 := (hpG11 j j0 j1).mp q; have e1 : exprC G8 c8 = exprC G c8 := exprC.agr (ir8.agr (by decide) (by decide) (by decide)) _; unfold exprC at e1; rw [e1] at z9; exact (Occ.agr (ir8.agr (by decide) (by decide) (by decide))).mp z9
                      refine s_istore dX12_isRing_91 (by decide) (lv' := [some (2, ((1000 : Nat) : Int)), some (0, m8), some (0, q8), some (0, c8), some (0, r12), none, none]) rfl ?_
                      refine s_iconst dX12_isRing_93 (by decide) ?_
                      refine s_istore dX12_isRing_94 (by decide) (lv' := [some (2, ((1000 : Nat) : Int)), some (0, m8), some (0, q8), some (0, c8), some (0, r12), some (0, 0), none]) rfl ?_
                      refine s_iconst dX12_isRing_96 (by decide) ?_
                      refine s_istore dX12_isRing_97 (by decide) (lv' := [some (2, ((1000 : Nat) : Int)), some (0, m8), some (0, q8), some (0, c8), some (0, r12), some (0, 0), some (0, 0)]) rfl ?_
                      have L13 : ∀ (n13 : Nat) (s13 : Int) (k13 : Int), ((0 ≤ k13 ∧ k13 ≤ 10) ∧ (s13 = 0 ∨ s13 = 1)) → (10 - k13).toNat < n13 → WP kX12_isRing X 99 [some (2, ((1000 : Nat) : Int)), some (0, m8), some (0, q8), some (0, c8), some (0, r12), some (0, s13), some (0, k13)] [] G11 := by
                        intro n13
                        induction n13 with
                        | zero => intro s13 k13 hi13 hm13; exact absurd hm13 (Nat.not_lt_zero _)
                        | succ n13 ih13 =>
                          intro s13 k13 hi13 hm13
                          have hj13 := hi13
                          obtain ⟨ik13, iw13⟩ := hi13
                          refine s_iload dX12_isRing_99 rfl ?_
                          refine s_bipush dX12_isRing_101 rfl (by decide) ?_
                          refine s_icmp_ge (tgt := 149) dX12_isRing_103 (by decide) (fun c14 => ?_) (fun c14 => ?_)
                          · -- 103 to 149
                            refine s_iload dX12_isRing_149 rfl ?_
                            refine s_if_ne (tgt := 166) dX12_isRing_151 (by decide) (fun c15 => ?_) (fun c15 => ?_)
                            · -- 151 to 166
                              refine s_iinc dX12_isRing_166 (v := c8) rfl (by omega) (by decide) (lv' := [some (2, ((1000 : Nat) : Int)), some (0, m8), some (0, q8), some (0, c8 + 1), some (0, r12), some (0, s13), some (0, k13)]) rfl ?_
                              refine s_goto (tgt := 65) dX12_isRing_169 (by decide) ?_
                              refine s_mask [true, true, true, true, false, false, false] (lv' := [some (2, ((1000 : Nat) : Int)), some (0, m8), some (0, q8), some (0, c8 + 1), none, none, none]) rfl ?_
                              exact ih8 m8 q8 (c8 + 1) G11 hMG11 hFG11 (⟨(by omega), (by exact Fr.call (ns := [a_reached, a_todo]) (js := []) ir8 (Fr.call (Fr.rf) hfG11 (by decide) (by decide) : Fr [a_todo] [] G8 G11) (by decide) (by decide)), (by exact ib8.cg (fun j => (Fr.call (Fr.rf) hfG11 (by decide) (by decide) : Fr [a_todo] [] G8 G11).atA (by decide) (by decide))), (by rw [mS.cg (G := G8) (fun j => (Fr.call (Fr.rf) hfG11 (by decide) (by decide) : Fr [a_todo] [] G8 G11).atA (by decide) (by decide))]; omega), (by omega)⟩) (by omega)
                            · -- 151 to 154
                              refine s_aload_n dX12_isRing_154 rfl (Int.natCast_nonneg _) ?_
                              refine gf_reached rfl dX12_isRing_155 hMG11 ?_
                              refine s_iload_n dX12_isRing_158 rfl ?_
                              refine s_iconst dX12_isRing_159 (by decide) ?_
                              refine r_bast dX12_isRing_160 hMG11 (mg_a_reached hMG11) (by decide) (by omega) (by omega) (by omega) (fun G16 eG16 hMG16 => ?_)
                              have hFG16 : Fr nX12_isRing jX12_isRing G G16 := Fr.setA hFG11 eG16 (by decide)
                              show WP kX12_isRing X 161 [some (2, ((1000 : Nat) : Int)), some (0, m8), some (0, q8), some (0, c8), some (0, r12), some (0, s13), some (0, k13)] [] G16
                              refine s_iinc dX12_isRing_161 (v := m8) rfl (by omega) (by decide) (lv' := [some (2, ((1000 : Nat) : Int)), some (0, m8 + (-1)), some (0, q8), some (0, c8), some (0, r12), some (0, s13), some (0, k13)]) rfl ?_
                              refine s_iconst dX12_isRing_164 (by decide) ?_
                              refine s_istore_n dX12_isRing_165 (by decide) (lv' := [some (2, ((1000 : Nat) : Int)), some (0, m8 + (-1)), some (0, 1), some (0, c8), some (0, r12), some (0, s13), some (0, k13)]) rfl ?_
                              refine s_iinc dX12_isRing_166 (v := c8) rfl (by omega) (by decide) (lv' := [some (2, ((1000 : Nat) : Int)), some (0, m8 + (-1)), some (0, 1), some (0, c8 + 1), some (0, r12), some (0, s13), some (0, k13)]) rfl ?_
                              refine s_goto (tgt := 65) dX12_isRing_169 (by decide) ?_
                              refine s_mask [true, true, true, true, false, false, false] (lv' := [some (2, ((1000 : Nat) : Int)), some (0, m8 + (-1)), some (0, 1), some (0, c8 + 1), none, none, none]) rfl ?_
                              exact ih8 (m8 + (-1)) 1 (c8 + 1) G16 hMG16 hFG16 (⟨(by omega), (by exact Fr.call (ns := [a_reached, a_todo]) (js := []) ir8 (Fr.setA (Fr.call (Fr.rf) hfG11 (by decide) (by decide)) eG16 (by decide) : Fr [a_todo, a_reached] [] G8 G16) (by decide) (by decide)), (by have z9 : ∀ j : Nat, gS G16 a_reached j = if j = (c8).toNat then 0 else gS G8 a_reached j := (fun j => by rw [g_upd eG16, (Fr.call (Fr.rf) hfG11 (by decide) (by decide) : Fr [a_todo] [] G8 G11).atA (by decide) (by decide)]); exact ib8.set (by omega) z9), (by have z9 : ∀ j : Nat, gS G16 a_reached j = if j = (c8).toNat then 0 else gS G8 a_reached j := (fun j => by rw [g_upd eG16, (Fr.call (Fr.rf) hfG11 (by decide) (by decide) : Fr [a_todo] [] G8 G11).atA (by decide) (by decide)]); rw [mS.set ⟨by omega, by omega⟩ z9]; have z7 := ib8 c8 (by omega) (by omega); omega), (by omega)⟩) (by omega)
                          · -- 103 to 106
                            refine s_iload dX12_isRing_106 rfl ?_
                            have J18 : ∀ z17 : Int, ((¬ s13 = 0) ∧ z17 = 1) ∨ ((s13 = 0) ∧ (¬ (bitI r12 k13)) ∧ z17 = 0) ∨ ((s13 = 0) ∧ (bitI r12 k13) ∧ ((gS G8 a_reached (((gS G11 a_cellAt (rootV G11 ((gS G11 a_cellOf (c8).toNat) / 10 * 10 + k13)).toNat)).toNat)) = 0) ∧ z17 = 0) ∨ ((s13 = 0) ∧ (bitI r12 k13) ∧ (¬ (gS G8 a_reached (((gS G11 a_cellAt (rootV G11 ((gS G11 a_cellOf (c8).toNat) / 10 * 10 + k13)).toNat)).toNat)) = 0) ∧ z17 = 1) → WP kX12_isRing X 141 [some (2, ((1000 : Nat) : Int)), some (0, m8), some (0, q8), some (0, c8), some (0, r12), some (0, s13), some (0, k13)] [(0, z17)] G11 := by
                              intro z17 hz17
                              refine s_istore dX12_isRing_141 (by decide) (lv' := [some (2, ((1000 : Nat) : Int)), some (0, m8), some (0, q8), some (0, c8), some (0, r12), some (0, z17), some (0, k13)]) rfl ?_
                              refine s_iinc dX12_isRing_143 (v := k13) rfl (by omega) (by decide) (lv' := [some (2, ((1000 : Nat) : Int)), some (0, m8), some (0, q8), some (0, c8), some (0, r12), some (0, z17), some (0, k13 + 1)]) rfl ?_
                              refine s_goto (tgt := 99) dX12_isRing_146 (by decide) ?_
                              exact ih13 z17 (k13 + 1) (⟨(by omega), (by omega)⟩) (by omega)
                            refine s_if_ne (tgt := 136) dX12_isRing_108 (by decide) (fun c19 => ?_) (fun c19 => ?_)
                            · -- 108 to 136
                              refine s_iconst dX12_isRing_136 (by decide) ?_
                              refine s_goto (tgt := 141) dX12_isRing_137 (by decide) ?_
                              exact J18 1 (Or.inl ⟨c19, rfl⟩)
                            · -- 108 to 111
                              refine s_iload dX12_isRing_111 rfl ?_
                              refine s_iload dX12_isRing_113 rfl ?_
                              refine cs_X12_367 rfl gX12_has dX12_isRing_115 (by rw [hcf]; decide) (as := [(0, r12), (0, k13)]) rfl (Nat.le_of_ble_eq_true rfl) ⟨r12, k13, rfl, ?_⟩
                              show WP kX12_isRing X 118 [some (2, ((1000 : Nat) : Int)), some (0, m8), some (0, q8), some (0, c8), some (0, r12), some (0, s13), some (0, k13)] [(0, b2i (bitI r12 k13))] G11
                              refine s_if_eqB (tgt := 140) dX12_isRing_118 (by decide) (fun c20 => ?_) (fun c20 => ?_)
                              · -- 118 to 140
                                refine s_iconst dX12_isRing_140 (by decide) ?_
                                exact J18 0 (Or.inr (Or.inl ⟨c19, c20, rfl⟩))
                              · -- 118 to 121
                                have htg : 0 ≤ tgtC G c8 k13 := hFI c8 k13 (by omega) (by omega) (by omega) (by omega) (hoc k13 (by omega) (by omega) (by assumption))
                                have hte : tgtC G11 c8 k13 = tgtC G c8 k13 := tgtC.agr (hrr9.agr (by decide) (by decide) (by decide)) _ _
                                have htl := hI.tgt (c := c8) (k := k13) (by omega) (by omega) (by omega) (by omega)
                                rw [← hte] at htg htl
                                unfold tgtC at htg htl
                                refine s_aload_n dX12_isRing_121 rfl (Int.natCast_nonneg _) ?_
                                refine gf_reached rfl dX12_isRing_122 hMG11 ?_
                                refine s_aload_n dX12_isRing_125 rfl (Int.natCast_nonneg _) ?_
                                refine s_iload_n dX12_isRing_126 rfl ?_
                                refine s_iload dX12_isRing_127 rfl ?_
                                refine cv_X12_518 rfl gX12_targetOf dX12_isRing_129 hMG11 (by rw [hcf]; decide) (as := [(0, c8), (0, k13)]) rfl (Nat.le_of_ble_eq_true rfl) ⟨c8, k13, I, (10 * I), rfl, hMG11, (by exact hI9), (by rfl), (by omega), (by omega), ?_⟩
                                show WP kX12_isRing X 132 [some (2, ((1000 : Nat) : Int)), some (0, m8), some (0, q8), some (0, c8), some (0, r12), some (0, s13), some (0, k13)] [(0, (gS G11 a_cellAt (rootV G11 ((gS G11 a_cellOf (c8).toNat) / 10 * 10 + k13)).toNat)), (2, ((a_reached : Nat) : Int))] G11
                                refine s_bald dX12_isRing_132 (mg_a_reached hMG11) (by omega) (by omega) (Fr.atA hfG11 (by decide) (by decide)) ?_
                                refine s_if_eq (tgt := 140) dX12_isRing_133 (by decide) (fun c21 => ?_) (fun c21 => ?_)
                                · -- 133 to 140
                                  refine s_iconst dX12_isRing_140 (by decide) ?_
                                  exact J18 0 (Or.inr (Or.inr (Or.inl ⟨c19, c20, c21, rfl⟩)))
                                · -- 133 to 136
                                  refine s_iconst dX12_isRing_136 (by decide) ?_
                                  refine s_goto (tgt := 141) dX12_isRing_137 (by decide) ?_
                                  exact J18 1 (Or.inr (Or.inr (Or.inr (⟨c19, c20, c21, rfl⟩))))
                      exact L13 _ 0 0 (⟨(by omega), (by omega)⟩) (Nat.lt_succ_self _)
              exact L8 _ m3 0 0 G3 hMG3 hFG3 (⟨(by omega), (by exact ir3), (by exact ib3), (by exact is3), (by omega)⟩) (Nat.lt_succ_self _)
        exact L3 _ m1 1 G1 hMG1 hFG1 (⟨(by omega), (by exact ir1), (by have z9 := ib1; rw [show c1 = (gS G 1000 67) by omega] at z9; exact z9), (by have z9 := is1; rw [show c1 = (gS G 1000 67) by omega] at z9; exact z9)⟩) (Nat.lt_succ_self _)
      · -- 9 to 12
        have hce1 := iI1.cell iU1 (c := c1) (by omega) (by omega)
        have hcx1 := hce1.1
        have hcx2 := hce1.2.1
        have hcx3 := hce1.2.2
        refine s_aload_n dX12_isRing_12 rfl (Int.natCast_nonneg _) ?_
        refine gf_reached rfl dX12_isRing_13 hMG1 ?_
        refine s_iload_n dX12_isRing_16 rfl ?_
        refine s_aload_n dX12_isRing_17 rfl (Int.natCast_nonneg _) ?_
        refine s_iload_n dX12_isRing_18 rfl ?_
        refine s_iconst dX12_isRing_19 (by decide) ?_
        refine cv_X12_521 rfl gX12_isA dX12_isRing_20 hMG1 (by rw [hcf]; decide) (as := [(0, c1), (0, 1)]) rfl (Nat.le_of_ble_eq_true rfl) ⟨c1, 1, rfl, hMG1, (by first | assumption | omega), (by first | assumption | omega), (by first | assumption | omega), ?_⟩
        show WP kX12_isRing X 23 [some (2, ((1000 : Nat) : Int)), some (0, m1), some (0, c1), none, none, none, none] [(0, b2i (¬ i_and (gS G1 a_valueFlags (10 * (gS G1 a_versionAt ((gS G1 a_cellOf (c1).toNat) / 10).toNat) + (gS G1 a_cellOf (c1).toNat) % 10).toNat) 1 = 0)), (0, c1), (2, ((a_reached : Nat) : Int))] G1
        have J23 : ∀ z22 : Int, ((¬ i_and (gS G1 a_valueFlags (10 * (gS G1 a_versionAt ((gS G1 a_cellOf (c1).toNat) / 10).toNat) + (gS G1 a_cellOf (c1).toNat) % 10).toNat) 1 = 0) ∧ z22 = 0) ∨ ((¬ (¬ i_and (gS G1 a_valueFlags (10 * (gS G1 a_versionAt ((gS G1 a_cellOf (c1).toNat) / 10).toNat) + (gS G1 a_cellOf (c1).toNat) % 10).toNat) 1 = 0)) ∧ z22 = 1) → WP kX12_isRing X 31 [some (2, ((1000 : Nat) : Int)), some (0, m1), some (0, c1), none, none, none, none] [(0, z22), (0, c1), (2, ((a_reached : Nat) : Int))] G1 := by
          intro z22 hz22
          refine r_bast dX12_isRing_31 hMG1 (mg_a_reached hMG1) (by decide) (by omega) (by omega) (by omega) (fun G24 eG24 hMG24 => ?_)
          have hFG24 : Fr nX12_isRing jX12_isRing G G24 := Fr.setA hFG1 eG24 (by decide)
          show WP kX12_isRing X 32 [some (2, ((1000 : Nat) : Int)), some (0, m1), some (0, c1), none, none, none, none] [] G24
          refine s_iload_n dX12_isRing_32 rfl ?_
          refine s_aload_n dX12_isRing_33 rfl (Int.natCast_nonneg _) ?_
          refine gf_reached rfl dX12_isRing_34 hMG24 ?_
          refine s_iload_n dX12_isRing_37 rfl ?_
          refine s_bald dX12_isRing_38 (mg_a_reached hMG24) (by omega) (by omega) (gsaE eG24) ?_
          have J26 : ∀ z25 : Int, ((z22 = 0) ∧ z25 = 0) ∨ ((¬ z22 = 0) ∧ z25 = 1) → WP kX12_isRing X 47 [some (2, ((1000 : Nat) : Int)), some (0, m1), some (0, c1), none, none, none, none] [(0, z25), (0, m1)] G24 := by
            intro z25 hz25
            refine s_iadd dX12_isRing_47 (by omega) ?_
            refine s_istore_n dX12_isRing_48 (by decide) (lv' := [some (2, ((1000 : Nat) : Int)), some (0, m1 + z25), some (0, c1), none, none, none, none]) rfl ?_
            refine s_iinc dX12_isRing_49 (v := c1) rfl (by omega) (by decide) (lv' := [some (2, ((1000 : Nat) : Int)), some (0, m1 + z25), some (0, c1 + 1), none, none, none, none]) rfl ?_
            refine s_goto (tgt := 4) dX12_isRing_52 (by decide) ?_
            exact ih1 (m1 + z25) (c1 + 1) G24 hMG24 hFG24 (⟨(by omega), (by exact Fr.call (ns := [a_reached, a_todo]) (js := []) ir1 (Fr.setA (Fr.rf) eG24 (by decide) : Fr [a_reached] [] G1 G24) (by decide) (by decide)), (by intro j j0 j1; have z9 := ((show ∀ j : Nat, gS G24 a_reached j = if j = (c1).toNat then z22 else gS G1 a_reached j from fun j => by rw [g_upd eG24])) j.toNat; rw [z9]; by_cases hj : j = c1; (rw [if_pos (by rw [hj])]; omega); (rw [if_neg (by omega)]; exact ib1 j j0 (by omega))), (by have z9 : ∀ j : Nat, gS G24 a_reached j = if j = (c1).toNat then z22 else gS G1 a_reached j := (fun j => by rw [g_upd eG24]); rw [mS.next (by omega)]; have z8 : mS G24 c1 = mS G1 c1 := ssum_congr _ (fun j hj => by show gS G24 a_reached j = _; rw [z9, if_neg (by omega)]); rw [z8, z9, if_pos rfl]; omega)⟩) (by omega)
          refine s_if_eq (tgt := 46) dX12_isRing_39 (by decide) (fun c27 => ?_) (fun c27 => ?_)
          · -- 39 to 46
            refine s_iconst dX12_isRing_46 (by decide) ?_
            exact J26 0 (Or.inl ⟨c27, rfl⟩)
          · -- 39 to 42
            refine s_iconst dX12_isRing_42 (by decide) ?_
            refine s_goto (tgt := 47) dX12_isRing_43 (by decide) ?_
            exact J26 1 (Or.inr (⟨c27, rfl⟩))
        refine s_if_neB (tgt := 30) dX12_isRing_23 (by decide) (fun c28 => ?_) (fun c28 => ?_)
        · -- 23 to 30
          refine s_iconst dX12_isRing_30 (by decide) ?_
          exact J23 0 (Or.inl ⟨c28, rfl⟩)
        · -- 23 to 26
          refine s_iconst dX12_isRing_26 (by decide) ?_
          refine s_goto (tgt := 31) dX12_isRing_27 (by decide) ?_
          exact J23 1 (Or.inr (⟨c28, rfl⟩))
  exact L1 _ 0 0 G hM Fr.rf (⟨(by omega), (by exact Fr.rf), (by intro j j0 j1; omega), (by rfl)⟩) (Nat.lt_succ_self _)
