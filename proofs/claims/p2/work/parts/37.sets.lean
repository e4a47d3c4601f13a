abbrev nX12_setsBy : List Nat := [a_by]
abbrev jX12_setsBy : List Nat := []
def TX12_setsBy : TR := fun as G Qr => ∃ (s : Int), as = [(2, ((1000 : Nat) : Int)), (0, s)] ∧ MG G ∧ ∀ G' : LG, MG G' → (Fr nX12_setsBy jX12_setsBy G G' ∧ (∀ j : Int, 0 ≤ j → j < 6 → (bitI s j → (gS G' a_by (j).toNat) = (gS G a_solved (j).toNat)) ∧ (¬ bitI s j → (gS G' a_by (j).toNat) = -1))) → Qr (.inl none) G'
set_option maxHeartbeats 4000000 in
set_option maxRecDepth 100000 in
theorem gX12_setsBy : Good kX12_setsBy yX12_setsBy 1 TX12_setsBy := by
  refine good_of (by decide) rfl rfl (fun as G Qr h => ?_) (fun X as G Qr hcf hR hT oa => ?_)
  · obtain ⟨s, rfl, -⟩ := h; exact Nat.le_of_ble_eq_true rfl
  obtain ⟨s, rfl, hM, hQ⟩ := hT
  show WP kX12_setsBy X 0 [some (2, ((1000 : Nat) : Int)), some (0, s), none] [] G
  have hr_s : inR s := okv_R (oa _ (by simp))
  refine s_iconst dX12_setsBy_0 (by decide) ?_
  refine s_istore_n dX12_setsBy_1 (by decide) (lv' := [some (2, ((1000 : Nat) : Int)), some (0, s), some (0, 0)]) rfl ?_
  have L1 : ∀ (n1 : Nat) (k1 : Int) (G1 : LG), MG G1 → Fr nX12_setsBy jX12_setsBy G G1 → ((0 ≤ k1 ∧ k1 ≤ 6) ∧ (∀ j : Int, 0 ≤ j → j < k1 → (bitI s j → (gS G1 a_by (j).toNat) = (gS G a_solved (j).toNat)) ∧ (¬ bitI s j → (gS G1 a_by (j).toNat) = -1))) → (6 - k1).toNat < n1 → WP kX12_setsBy X 2 [some (2, ((1000 : Nat) : Int)), some (0, s), some (0, k1)] [] G1 := by
    intro n1
    induction n1 with
    | zero => intro k1 G1 hMG1 hFG1 hi1 hm1; exact absurd hm1 (Nat.not_lt_zero _)
    | succ n1 ih1 =>
      intro k1 G1 hMG1 hFG1 hi1 hm1
      have hj1 := hi1
      obtain ⟨ik1, ib1⟩ := hi1
      refine s_iload_n dX12_setsBy_2 rfl ?_
      refine s_bipush dX12_setsBy_3 rfl (by decide) ?_
      refine s_icmp_ge (tgt := 38) dX12_setsBy_5 (by decide) (fun c2 => ?_) (fun c2 => ?_)
      · -- 5 to 38
        exact s_vret hR dX12_setsBy_38 rfl (hQ G1 hMG1 (⟨hFG1, fun j j0 j1 => ib1 j j0 (by omega)⟩))
      · -- 5 to 8
        refine s_aload_n dX12_setsBy_8 rfl (Int.natCast_nonneg _) ?_
        refine gf_by rfl dX12_setsBy_9 hMG1 ?_
        refine s_iload_n dX12_setsBy_12 rfl ?_
        refine s_iload_n dX12_setsBy_13 rfl ?_
        refine s_iload_n dX12_setsBy_14 rfl ?_
        refine cs_X12_367 rfl gX12_has dX12_setsBy_15 (by rw [hcf]; decide) (as := [(0, s), (0, k1)]) rfl (Nat.le_of_ble_eq_true rfl) ⟨s, k1, rfl, ?_⟩
        show WP kX12_setsBy X 18 [some (2, ((1000 : Nat) : Int)), some (0, s), some (0, k1)] [(0, b2i (bitI s k1)), (0, k1), (2, ((a_by : Nat) : Int))] G1
        have J4 : ∀ z3 : Int, ((¬ (bitI s k1)) ∧ z3 = (-1)) ∨ ((bitI s k1) ∧ z3 = gS G1 a_solved ((k1).toNat)) → WP kX12_setsBy X 31 [some (2, ((1000 : Nat) : Int)), some (0, s), some (0, k1)] [(0, z3), (0, k1), (2, ((a_by : Nat) : Int))] G1 := by
          intro z3 hz3
          refine r_iast dX12_setsBy_31 hMG1 (mg_a_by hMG1) (by decide) (by omega) (by omega) (fun G5 eG5 hMG5 => ?_)
          have hFG5 : Fr nX12_setsBy jX12_setsBy G G5 := Fr.setA hFG1 eG5 (by decide)
          show WP kX12_setsBy X 32 [some (2, ((1000 : Nat) : Int)), some (0, s), some (0, k1)] [] G5
          refine s_iinc dX12_setsBy_32 (v := k1) rfl (by omega) (by decide) (lv' := [some (2, ((1000 : Nat) : Int)), some (0, s), some (0, k1 + 1)]) rfl ?_
          refine s_goto (tgt := 2) dX12_setsBy_35 (by decide) ?_
          exact ih1 (k1 + 1) G5 hMG5 hFG5 (⟨(by omega), (by intro j j0 j1; by_cases hj : j = k1; (subst hj; rw [g_at (g_upd eG5)]; refine ⟨fun q => ?_, fun q => ?_⟩; (rcases hz3 with ⟨q1, q2⟩ | ⟨q1, q2⟩; (exact absurd q q1); (rw [q2, hFG1.atA (by decide) (by decide)])); (rcases hz3 with ⟨q1, q2⟩ | ⟨q1, q2⟩; (exact q2); (exact absurd q1 q))); (rw [g_ne (g_upd eG5) (by omega)]; exact ib1 j j0 (by omega)))⟩) (by omega)
        refine s_if_eqB (tgt := 30) dX12_setsBy_18 (by decide) (fun c6 => ?_) (fun c6 => ?_)
        · -- 18 to 30
          refine s_iconst dX12_setsBy_30 (by decide) ?_
          exact J4 (-1) (Or.inl ⟨c6, rfl⟩)
        · -- 18 to 21
          refine s_aload_n dX12_setsBy_21 rfl (Int.natCast_nonneg _) ?_
          refine gf_solved rfl dX12_setsBy_22 hMG1 ?_
          refine s_iload_n dX12_setsBy_25 rfl ?_
          refine s_iald dX12_setsBy_26 (mg_a_solved hMG1) (by omega) (by omega) rfl ?_
          refine s_goto (tgt := 31) dX12_setsBy_27 (by decide) ?_
          exact J4 _ (Or.inr (⟨c6, rfl⟩))
  exact L1 _ 0 G hM Fr.rf (⟨(by omega), (by intro j j0 j1; omega)⟩) (Nat.lt_succ_self _)

abbrev nX12_setsStamps : List Nat := [a_by]
abbrev jX12_setsStamps : List Nat := []
def TX12_setsStamps : TR := fun as G Qr => ∃ (s : Int), as = [(2, ((1000 : Nat) : Int)), (0, s)] ∧ MG G ∧ (0 ≤ s ∧ s < 43) ∧ ∀ G' : LG, MG G' → (Fr nX12_setsStamps jX12_setsStamps G G' ∧ (∀ j : Int, 0 ≤ j → j < 6 → ((gS G a_byStamp (j).toNat) = -1 → (gS G' a_by (j).toNat) = -1) ∧ (¬ (gS G a_byStamp (j).toNat) = -1 → (gS G' a_by (j).toNat) = (gS G a_sType (6 * s + j).toNat)))) → Qr (.inl none) G'
set_option maxHeartbeats 4000000 in
set_option maxRecDepth 100000 in
theorem gX12_setsStamps : Good kX12_setsStamps yX12_setsStamps 1 TX12_setsStamps := by
  refine good_of (by decide) rfl rfl (fun as G Qr h => ?_) (fun X as G Qr hcf hR hT oa => ?_)
  · obtain ⟨s, rfl, -⟩ := h; exact Nat.le_of_ble_eq_true rfl
  obtain ⟨s, rfl, hM, hs, hQ⟩ := hT
  show WP kX12_setsStamps X 0 [some (2, ((1000 : Nat) : Int)), some (0, s), none] [] G
  have hr_s : inR s := okv_R (oa _ (by simp))
  refine s_iconst dX12_setsStamps_0 (by decide) ?_
  refine s_istore_n dX12_setsStamps_1 (by decide) (lv' := [some (2, ((1000 : Nat) : Int)), some (0, s), some (0, 0)]) rfl ?_
  have L1 : ∀ (n1 : Nat) (k1 : Int) (G1 : LG), MG G1 → Fr nX12_setsStamps jX12_setsStamps G G1 → ((0 ≤ k1 ∧ k1 ≤ 6) ∧ (∀ j : Int, 0 ≤ j → j < k1 → ((gS G a_byStamp (j).toNat) = -1 → (gS G1 a_by (j).toNat) = -1) ∧ (¬ (gS G a_byStamp (j).toNat) = -1 → (gS G1 a_by (j).toNat) = (gS G a_sType (6 * s + j).toNat)))) → (6 - k1).toNat < n1 → WP kX12_setsStamps X 2 [some (2, ((1000 : Nat) : Int)), some (0, s), some (0, k1)] [] G1 := by
    intro n1
    induction n1 with
    | zero => intro k1 G1 hMG1 hFG1 hi1 hm1; exact absurd hm1 (Nat.not_lt_zero _)
    | succ n1 ih1 =>
      intro k1 G1 hMG1 hFG1 hi1 hm1
      have hj1 := hi1
      obtain ⟨ik1, ib1⟩ := hi1
      refine s_iload_n dX12_setsStamps_2 rfl ?_
      refine s_bipush dX12_setsStamps_3 rfl (by decide) ?_
      refine s_icmp_ge (tgt := 40) dX12_setsStamps_5 (by decide) (fun c2 => ?_) (fun c2 => ?_)
      · -- 5 to 40
        exact s_vret hR dX12_setsStamps_40 rfl (hQ G1 hMG1 (⟨hFG1, fun j j0 j1 => ib1 j j0 (by omega)⟩))
      · -- 5 to 8
        refine s_aload_n dX12_setsStamps_8 rfl (Int.natCast_nonneg _) ?_
        refine gf_by rfl dX12_setsStamps_9 hMG1 ?_
        refine s_iload_n dX12_setsStamps_12 rfl ?_
        refine s_aload_n dX12_setsStamps_13 rfl (Int.natCast_nonneg _) ?_
        refine gf_byStamp rfl dX12_setsStamps_14 hMG1 ?_
        refine s_iload_n dX12_setsStamps_17 rfl ?_
        refine s_iald dX12_setsStamps_18 (mg_a_byStamp hMG1) (by omega) (by omega) rfl ?_
        refine s_iconst dX12_setsStamps_19 (by decide) ?_
        have J4 : ∀ z3 : Int, ((¬ (gS G1 a_byStamp ((k1).toNat)) = ((-1))) ∧ z3 = (gS G1 a_sType (6 * s + k1).toNat)) ∨ (((gS G1 a_byStamp ((k1).toNat)) = ((-1))) ∧ z3 = (-1)) → WP kX12_setsStamps X 33 [some (2, ((1000 : Nat) : Int)), some (0, s), some (0, k1)] [(0, z3), (0, k1), (2, ((a_by : Nat) : Int))] G1 := by
          intro z3 hz3
          refine r_iast dX12_setsStamps_33 hMG1 (mg_a_by hMG1) (by decide) (by omega) (by omega) (fun G5 eG5 hMG5 => ?_)
          have hFG5 : Fr nX12_setsStamps jX12_setsStamps G G5 := Fr.setA hFG1 eG5 (by decide)
          show WP kX12_setsStamps X 34 [some (2, ((1000 : Nat) : Int)), some (0, s), some (0, k1)] [] G5
          refine s_iinc dX12_setsStamps_34 (v := k1) rfl (by omega) (by decide) (lv' := [some (2, ((1000 : Nat) : Int)), some (0, s), some (0, k1 + 1)]) rfl ?_
          refine s_goto (tgt := 2) dX12_setsStamps_37 (by decide) ?_
          exact ih1 (k1 + 1) G5 hMG5 hFG5 (⟨(by omega), (by intro j j0 j1; by_cases hj : j = k1; (subst hj; rw [g_at (g_upd eG5)]; rw [hFG1.atA (n := a_byStamp) (by decide) (by decide), hFG1.atA (n := a_sType) (by decide) (by decide)] at hz3; refine ⟨fun q => by omega, fun q => by omega⟩); (rw [g_ne (g_upd eG5) (by omega)]; exact ib1 j j0 (by omega)))⟩) (by omega)
        refine s_icmp_ne (tgt := 27) dX12_setsStamps_20 (by decide) (fun c6 => ?_) (fun c6 => ?_)
        · -- 20 to 27
          refine s_aload_n dX12_setsStamps_27 rfl (Int.natCast_nonneg _) ?_
          refine s_iload_n dX12_setsStamps_28 rfl ?_
          refine s_iload_n dX12_setsStamps_29 rfl ?_
          refine cv_X12_413 rfl gX12_isType_ dX12_setsStamps_30 hMG1 (by rw [hcf]; decide) (as := [(0, s), (0, k1)]) rfl (Nat.le_of_ble_eq_true rfl) ⟨s, k1, rfl, hMG1, (by first | assumption | omega), (by first | assumption | omega), ?_⟩
          show WP kX12_setsStamps X 33 [some (2, ((1000 : Nat) : Int)), some (0, s), some (0, k1)] [(0, (gS G1 a_sType (6 * s + k1).toNat)), (0, k1), (2, ((a_by : Nat) : Int))] G1
          exact J4 _ (Or.inl ⟨c6, rfl⟩)
        · -- 20 to 23
          refine s_iconst dX12_setsStamps_23 (by decide) ?_
          refine s_goto (tgt := 33) dX12_setsStamps_24 (by decide) ?_
          exact J4 (-1) (Or.inr (⟨c6, rfl⟩))
  exact L1 _ 0 G hM Fr.rf (⟨(by omega), (by intro j j0 j1; omega)⟩) (Nat.lt_succ_self _)

abbrev nX12_clears : List Nat := [a_sType, a_sValue, a_sFlags, a_sNumber]
abbrev jX12_clears : List Nat := []
def TX12_clears : TR := fun as G Qr => ∃ (s : Int), as = [(2, ((1000 : Nat) : Int)), (0, s)] ∧ MG G ∧ (0 ≤ s ∧ s < 43) ∧ ∀ G' : LG, MG G' → (Fr nX12_clears jX12_clears G G' ∧ (SlotFr s G G' ∧ (∀ j : Int, 0 ≤ j → j < 6 → (gS G' a_sType (6 * s + j).toNat) = -2) ∧ (∀ j : Int, 0 ≤ j → j < 10 → (gS G' a_sValue (10 * s + j).toNat) = -1))) → Qr (.inl none) G'
set_option maxHeartbeats 4000000 in
set_option maxRecDepth 100000 in
theorem gX12_clears : Good kX12_clears yX12_clears 0 TX12_clears := by
  refine good_of (by decide) rfl rfl (fun as G Qr h => ?_) (fun X as G Qr hcf hR hT oa => ?_)
  · obtain ⟨s, rfl, -⟩ := h; exact Nat.le_of_ble_eq_true rfl
  obtain ⟨s, rfl, hM, hs, hQ⟩ := hT
  show WP kX12_clears X 0 [some (2, ((1000 : Nat) : Int)), some (0, s), none] [] G
  have hr_s : inR s := okv_R (oa _ (by simp))
  refine s_iconst dX12_clears_0 (by decide) ?_
  refine s_istore_n dX12_clears_1 (by decide) (lv' := [some (2, ((1000 : Nat) : Int)), some (0, s), some (0, 0)]) rfl ?_
  have L1 : ∀ (n1 : Nat) (k1 : Int) (G1 : LG), MG G1 → Fr nX12_clears jX12_clears G G1 → ((0 ≤ k1 ∧ k1 ≤ 6) ∧ (SlotFr s G G1 ∧ (∀ j : Int, 0 ≤ j → j < k1 → (gS G1 a_sType (6 * s + j).toNat) = -2))) → (6 - k1).toNat < n1 → WP kX12_clears X 2 [some (2, ((1000 : Nat) : Int)), some (0, s), some (0, k1)] [] G1 := by
    intro n1
    induction n1 with
    | zero => intro k1 G1 hMG1 hFG1 hi1 hm1; exact absurd hm1 (Nat.not_lt_zero _)
    | succ n1 ih1 =>
      intro k1 G1 hMG1 hFG1 hi1 hm1
      have hj1 := hi1
      obtain ⟨ik1, ic1⟩ := hi1
      refine s_iload_n dX12_clears_2 rfl ?_
      refine s_bipush dX12_clears_3 rfl (by decide) ?_
      refine s_icmp_ge (tgt := 27) dX12_clears_5 (by decide) (fun c2 => ?_) (fun c2 => ?_)
      · -- 5 to 27
        refine s_iconst dX12_clears_27 (by decide) ?_
        refine s_istore_n dX12_clears_28 (by decide) (lv' := [some (2, ((1000 : Nat) : Int)), some (0, s), some (0, 0)]) rfl ?_
        have L3 : ∀ (n3 : Nat) (k3 : Int) (G3 : LG), MG G3 → Fr nX12_clears jX12_clears G G3 → ((0 ≤ k3 ∧ k3 ≤ 10) ∧ (SlotFr s G G3 ∧ (∀ j : Int, 0 ≤ j → j < 6 → (gS G3 a_sType (6 * s + j).toNat) = -2) ∧ (∀ j : Int, 0 ≤ j → j < k3 → (gS G3 a_sValue (10 * s + j).toNat) = -1))) → (10 - k3).toNat < n3 → WP kX12_clears X 29 [some (2, ((1000 : Nat) : Int)), some (0, s), some (0, k3)] [] G3 := by
          intro n3
          induction n3 with
          | zero => intro k3 G3 hMG3 hFG3 hi3 hm3; exact absurd hm3 (Nat.not_lt_zero _)
          | succ n3 ih3 =>
            intro k3 G3 hMG3 hFG3 hi3 hm3
            have hj3 := hi3
            obtain ⟨ik3, ic3⟩ := hi3
            refine s_iload_n dX12_clears_29 rfl ?_
            refine s_bipush dX12_clears_30 rfl (by decide) ?_
            refine s_icmp_ge (tgt := 77) dX12_clears_32 (by decide) (fun c4 => ?_) (fun c4 => ?_)
            · -- 32 to 77
              exact s_vret hR dX12_clears_77 rfl (hQ G3 hMG3 (⟨hFG3, ⟨ic3.1, ic3.2.1, fun j j0 j1 => ic3.2.2 j j0 (by omega)⟩⟩))
            · -- 32 to 35
              refine s_aload_n dX12_clears_35 rfl (Int.natCast_nonneg _) ?_
              refine gf_sValue rfl dX12_clears_36 hMG3 ?_
              refine s_bipush dX12_clears_39 rfl (by decide) ?_
              refine s_iload_n dX12_clears_41 rfl ?_
              refine s_imul dX12_clears_42 (by omega) ?_
              refine s_iload_n dX12_clears_43 rfl ?_
              refine s_iadd dX12_clears_44 (by omega) ?_
              refine s_iconst dX12_clears_45 (by decide) ?_
              refine r_iast dX12_clears_46 hMG3 (mg_a_sValue hMG3) (by decide) (by omega) (by omega) (fun G5 eG5 hMG5 => ?_)
              have hFG5 : Fr nX12_clears jX12_clears G G5 := Fr.setA hFG3 eG5 (by decide)
              show WP kX12_clears X 47 [some (2, ((1000 : Nat) : Int)), some (0, s), some (0, k3)] [] G5
              refine s_aload_n dX12_clears_47 rfl (Int.natCast_nonneg _) ?_
              refine gf_sFlags rfl dX12_clears_48 hMG5 ?_
              refine s_bipush dX12_clears_51 rfl (by decide) ?_
              refine s_iload_n dX12_clears_53 rfl ?_
              refine s_imul dX12_clears_54 (by omega) ?_
              refine s_iload_n dX12_clears_55 rfl ?_
              refine s_iadd dX12_clears_56 (by omega) ?_
              refine s_iconst dX12_clears_57 (by decide) ?_
              refine r_iast dX12_clears_58 hMG5 (mg_a_sFlags hMG5) (by decide) (by omega) (by omega) (fun G6 eG6 hMG6 => ?_)
              have hFG6 : Fr nX12_clears jX12_clears G G6 := Fr.setA hFG5 eG6 (by decide)
              show WP kX12_clears X 59 [some (2, ((1000 : Nat) : Int)), some (0, s), some (0, k3)] [] G6
              refine s_aload_n dX12_clears_59 rfl (Int.natCast_nonneg _) ?_
              refine gf_sNumber rfl dX12_clears_60 hMG6 ?_
              refine s_bipush dX12_clears_63 rfl (by decide) ?_
              refine s_iload_n dX12_clears_65 rfl ?_
              refine s_imul dX12_clears_66 (by omega) ?_
              refine s_iload_n dX12_clears_67 rfl ?_
              refine s_iadd dX12_clears_68 (by omega) ?_
              refine s_iconst dX12_clears_69 (by decide) ?_
              refine r_iast dX12_clears_70 hMG6 (mg_a_sNumber hMG6) (by decide) (by omega) (by omega) (fun G7 eG7 hMG7 => ?_)
              have hFG7 : Fr nX12_clears jX12_clears G G7 := Fr.setA hFG6 eG7 (by decide)
              show WP kX12_clears X 71 [some (2, ((1000 : Nat) : Int)), some (0, s), some (0, k3)] [] G7
              refine s_iinc dX12_clears_71 (v := k3) rfl (by omega) (by decide) (lv' := [some (2, ((1000 : Nat) : Int)), some (0, s), some (0, k3 + 1)]) rfl ?_
              refine s_goto (tgt := 29) dX12_clears_74 (by decide) ?_
              exact ih3 (k3 + 1) G7 hMG7 hFG7 (⟨(by omega), (by obtain ⟨u1, u2, u3, u4⟩ := va3 eG5 eG6 eG7; exact ⟨ic3.1.trans (SlotFr.va (k := k3) ⟨by omega, by omega⟩ hs.1 eG5 eG6 eG7), fun j j0 j1 => by rw [u4]; exact ic3.2.1 j j0 j1, fun j j0 j1 => by by_cases hj : j = k3; (subst hj; exact g_at u1); (rw [g_ne u1 (by omega)]; exact ic3.2.2 j j0 (by omega))⟩)⟩) (by omega)
        exact L3 _ 0 G1 hMG1 hFG1 (⟨(by omega), (by exact ⟨ic1.1, fun j j0 j1 => ic1.2 j j0 (by omega), fun j j0 j1 => by omega⟩)⟩) (Nat.lt_succ_self _)
      · -- 5 to 8
        refine s_aload_n dX12_clears_8 rfl (Int.natCast_nonneg _) ?_
        refine gf_sType rfl dX12_clears_9 hMG1 ?_
        refine s_bipush dX12_clears_12 rfl (by decide) ?_
        refine s_iload_n dX12_clears_14 rfl ?_
        refine s_imul dX12_clears_15 (by omega) ?_
        refine s_iload_n dX12_clears_16 rfl ?_
        refine s_iadd dX12_clears_17 (by omega) ?_
        refine s_bipush dX12_clears_18 rfl (by decide) ?_
        refine r_iast dX12_clears_20 hMG1 (mg_a_sType hMG1) (by decide) (by omega) (by omega) (fun G8 eG8 hMG8 => ?_)
        have hFG8 : Fr nX12_clears jX12_clears G G8 := Fr.setA hFG1 eG8 (by decide)
        show WP kX12_clears X 21 [some (2, ((1000 : Nat) : Int)), some (0, s), some (0, k1)] [] G8
        refine s_iinc dX12_clears_21 (v := k1) rfl (by omega) (by decide) (lv' := [some (2, ((1000 : Nat) : Int)), some (0, s), some (0, k1 + 1)]) rfl ?_
        refine s_goto (tgt := 2) dX12_clears_24 (by decide) ?_
        exact ih1 (k1 + 1) G8 hMG8 hFG8 (⟨(by omega), (by exact ⟨ic1.1.trans (SlotFr.ty (k := k1) ⟨by omega, by omega⟩ hs.1 eG8), fun j j0 j1 => by by_cases hj : j = k1; (subst hj; exact g_at (g_upd eG8)); (rw [g_ne (g_upd eG8) (by omega)]; exact ic1.2 j j0 (by omega))⟩)⟩) (by omega)
  exact L1 _ 0 G hM Fr.rf (⟨(by omega), (by exact ⟨SlotFr.rf, fun j j0 j1 => by omega⟩)⟩) (Nat.lt_succ_self _)

abbrev nX12_copies : List Nat := [a_sType, a_sValue, a_sFlags, a_sNumber]
abbrev jX12_copies : List Nat := []
def TX12_copies : TR := fun as G Qr => ∃ (f t : Int), as = [(2, ((1000 : Nat) : Int)), (0, f), (0, t)] ∧ MG G ∧ (0 ≤ f ∧ f < 43) ∧ (0 ≤ t ∧ t < 43) ∧ (¬ f = t) ∧ ∀ G' : LG, MG G' → (Fr nX12_copies jX12_copies G G' ∧ (SlotFr t G G' ∧ (∀ j : Int, 0 ≤ j → j < 6 → (gS G' a_sType (6 * t + j).toNat) = (gS G a_sType (6 * f + j).toNat)) ∧ (∀ j : Int, 0 ≤ j → j < 10 → (gS G' a_sValue (10 * t + j).toNat) = (gS G a_sValue (10 * f + j).toNat) ∧ (gS G' a_sFlags (10 * t + j).toNat) = (gS G a_sFlags (10 * f + j).toNat) ∧ (gS G' a_sNumber (10 * t + j).toNat) = (gS G a_sNumber (10 * f + j).toNat)))) → Qr (.inl none) G'
set_option maxHeartbeats 4000000 in
set_option maxRecDepth 100000 in
theorem gX12_copies : Good kX12_copies yX12_copies 1 TX12_copies := by
  refine good_of (by decide) rfl rfl (fun as G Qr h => ?_) (fun X as G Qr hcf hR hT oa => ?_)
  · obtain ⟨f, t, rfl, -⟩ := h; exact Nat.le_of_ble_eq_true rfl
  obtain ⟨f, t, rfl, hM, hf, ht, hne, hQ⟩ := hT
  show WP kX12_copies X 0 [some (2, ((1000 : Nat) : Int)), some (0, f), some (0, t), none] [] G
  have hr_f : inR f := okv_R (oa _ (by simp))
  have hr_t : inR t := okv_R (oa _ (by simp))
  refine s_iconst dX12_copies_0 (by decide) ?_
  refine s_istore_n dX12_copies_1 (by decide) (lv' := [some (2, ((1000 : Nat) : Int)), some (0, f), some (0, t), some (0, 0)]) rfl ?_
  have L1 : ∀ (n1 : Nat) (k1 : Int) (G1 : LG), MG G1 → Fr nX12_copies jX12_copies G G1 → ((0 ≤ k1 ∧ k1 ≤ 6) ∧ (SlotFr t G G1 ∧ (∀ j : Int, 0 ≤ j → j < k1 → (gS G1 a_sType (6 * t + j).toNat) = (gS G a_sType (6 * f + j).toNat)))) → (6 - k1).toNat < n1 → WP kX12_copies X 2 [some (2, ((1000 : Nat) : Int)), some (0, f), some (0, t), some (0, k1)] [] G1 := by
    intro n1
    induction n1 with
    | zero => intro k1 G1 hMG1 hFG1 hi1 hm1; exact absurd hm1 (Nat.not_lt_zero _)
    | succ n1 ih1 =>
      intro k1 G1 hMG1 hFG1 hi1 hm1
      have hj1 := hi1
      obtain ⟨ik1, ic1⟩ := hi1
      refine s_iload_n dX12_copies_2 rfl ?_
      refine s_bipush dX12_copies_3 rfl (by decide) ?_
      refine s_icmp_ge (tgt := 36) dX12_copies_5 (by decide) (fun c2 => ?_) (fun c2 => ?_)
      · -- 5 to 36
        refine s_iconst dX12_copies_36 (by decide) ?_
        refine s_istore_n dX12_copies_37 (by decide) (lv' := [some (2, ((1000 : Nat) : Int)), some (0, f), some (0, t), some (0, 0)]) rfl ?_
        have L3 : ∀ (n3 : Nat) (k3 : Int) (G3 : LG), MG G3 → Fr nX12_copies jX12_copies G G3 → ((0 ≤ k3 ∧ k3 ≤ 10) ∧ (SlotFr t G G3 ∧ (∀ j : Int, 0 ≤ j → j < 6 → (gS G3 a_sType (6 * t + j).toNat) = (gS G a_sType (6 * f + j).toNat)) ∧ (∀ j : Int, 0 ≤ j → j < k3 → (gS G3 a_sValue (10 * t + j).toNat) = (gS G a_sValue (10 * f + j).toNat) ∧ (gS G3 a_sFlags (10 * t + j).toNat) = (gS G a_sFlags (10 * f + j).toNat) ∧ (gS G3 a_sNumber (10 * t + j).toNat) = (gS G a_sNumber (10 * f + j).toNat)))) → (10 - k3).toNat < n3 → WP kX12_copies X 38 [some (2, ((1000 : Nat) : Int)), some (0, f), some (0, t), some (0, k3)] [] G3 := by
          intro n3
          induction n3 with
          | zero => intro k3 G3 hMG3 hFG3 hi3 hm3; exact absurd hm3 (Nat.not_lt_zero _)
          | succ n3 ih3 =>
            intro k3 G3 hMG3 hFG3 hi3 hm3
            have hj3 := hi3
            obtain ⟨ik3, ic3⟩ := hi3
            refine s_iload_n dX12_copies_38 rfl ?_
            refine s_bipush dX12_copies_39 rfl (by decide) ?_
            refine s_icmp_ge (tgt := 58) dX12_copies_41 (by decide) (fun c4 => ?_) (fun c4 => ?_)
            · -- 41 to 58
              exact s_vret hR dX12_copies_58 rfl (hQ G3 hMG3 (⟨hFG3, ⟨ic3.1, ic3.2.1, fun j j0 j1 => ic3.2.2 j j0 (by omega)⟩⟩))
            · -- 41 to 44
              refine s_aload_n dX12_copies_44 rfl (Int.natCast_nonneg _) ?_
              refine s_iload_n dX12_copies_45 rfl ?_
              refine s_iload_n dX12_copies_46 rfl ?_
              refine s_iload_n dX12_copies_47 rfl ?_
              refine s_iload_n dX12_copies_48 rfl ?_
              refine cv_X12_381 rfl gX12_moves dX12_copies_49 hMG3 (by rw [hcf]; decide) (as := [(0, f), (0, k3), (0, t), (0, k3)]) rfl (Nat.le_of_ble_eq_true rfl) ⟨f, k3, t, k3, rfl, hMG3, (by first | assumption | omega), (by first | assumption | omega), (by first | assumption | omega), (by first | assumption | omega), fun G5 hMG5 hpG5 => ?_⟩
              obtain ⟨G7, G8, eG7, eG8, eG5, hpG5⟩ := hpG5
              have hFG7 : Fr nX12_copies jX12_copies G G7 := Fr.setA hFG3 eG7 (by decide)
              have hFG8 : Fr nX12_copies jX12_copies G G8 := Fr.setA hFG7 eG8 (by decide)
              have hFG5 : Fr nX12_copies jX12_copies G G5 := Fr.setA hFG8 eG5 (by decide)
              show WP kX12_copies X 52 [some (2, ((1000 : Nat) : Int)), some (0, f), some (0, t), some (0, k3)] [] G5
              refine s_iinc dX12_copies_52 (v := k3) rfl (by omega) (by decide) (lv' := [some (2, ((1000 : Nat) : Int)), some (0, f), some (0, t), some (0, k3 + 1)]) rfl ?_
              refine s_goto (tgt := 38) dX12_copies_55 (by decide) ?_
              exact ih3 (k3 + 1) G5 hMG5 hFG5 (⟨(by omega), (by obtain ⟨u1, u2, u3, u4⟩ := va3 eG7 eG8 eG5; exact ⟨ic3.1.trans (SlotFr.va (k := k3) ⟨by omega, by omega⟩ ht.1 eG7 eG8 eG5), fun j j0 j1 => by rw [u4]; exact ic3.2.1 j j0 j1, fun j j0 j1 => by by_cases hj : j = k3; (subst hj; rw [g_at u1, g_at u2, g_at u3]; have z9 := ic3.1.2 (10 * f + j).toNat (by omega); exact ⟨z9.1, z9.2.1, z9.2.2⟩); (rw [g_ne u1 (by omega), g_ne u2 (by omega), g_ne u3 (by omega)]; exact ic3.2.2 j j0 (by omega))⟩)⟩) (by omega)
        exact L3 _ 0 G1 hMG1 hFG1 (⟨(by omega), (by exact ⟨ic1.1, fun j j0 j1 => ic1.2 j j0 (by omega), fun j j0 j1 => by omega⟩)⟩) (Nat.lt_succ_self _)
      · -- 5 to 8
        refine s_aload_n dX12_copies_8 rfl (Int.natCast_nonneg _) ?_
        refine gf_sType rfl dX12_copies_9 hMG1 ?_
        refine s_bipush dX12_copies_12 rfl (by decide) ?_
        refine s_iload_n dX12_copies_14 rfl ?_
        refine s_imul dX12_copies_15 (by omega) ?_
        refine s_iload_n dX12_copies_16 rfl ?_
        refine s_iadd dX12_copies_17 (by omega) ?_
        refine s_aload_n dX12_copies_18 rfl (Int.natCast_nonneg _) ?_
        refine gf_sType rfl dX12_copies_19 hMG1 ?_
        refine s_bipush dX12_copies_22 rfl (by decide) ?_
        refine s_iload_n dX12_copies_24 rfl ?_
        refine s_imul dX12_copies_25 (by omega) ?_
        refine s_iload_n dX12_copies_26 rfl ?_
        refine s_iadd dX12_copies_27 (by omega) ?_
        refine s_iald dX12_copies_28 (mg_a_sType hMG1) (by omega) (by omega) rfl ?_
        refine r_iast dX12_copies_29 hMG1 (mg_a_sType hMG1) (by decide) (by omega) (by omega) (fun G9 eG9 hMG9 => ?_)
        have hFG9 : Fr nX12_copies jX12_copies G G9 := Fr.setA hFG1 eG9 (by decide)
        show WP kX12_copies X 30 [some (2, ((1000 : Nat) : Int)), some (0, f), some (0, t), some (0, k1)] [] G9
        refine s_iinc dX12_copies_30 (v := k1) rfl (by omega) (by decide) (lv' := [some (2, ((1000 : Nat) : Int)), some (0, f), some (0, t), some (0, k1 + 1)]) rfl ?_
        refine s_goto (tgt := 2) dX12_copies_33 (by decide) ?_
        exact ih1 (k1 + 1) G9 hMG9 hFG9 (⟨(by omega), (by exact ⟨ic1.1.trans (SlotFr.ty (k := k1) ⟨by omega, by omega⟩ ht.1 eG9), fun j j0 j1 => by by_cases hj : j = k1; (subst hj; rw [g_at (g_upd eG9)]; exact ic1.1.1 _ (by omega)); (rw [g_ne (g_upd eG9) (by omega)]; exact ic1.2 j j0 (by omega))⟩)⟩) (by omega)
  exact L1 _ 0 G hM Fr.rf (⟨(by omega), (by exact ⟨SlotFr.rf, fun j j0 j1 => by omega⟩)⟩) (Nat.lt_succ_self _)
