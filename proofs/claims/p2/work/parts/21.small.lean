def TX12_in : TR := fun as G Qr => ∃ (v lo hi : Int), as = [(0, v), (0, lo), (0, hi)] ∧ Qr (.inl (some (0, b2i (lo ≤ v ∧ v ≤ hi)))) G
set_option maxHeartbeats 4000000 in
set_option maxRecDepth 100000 in
theorem gX12_in : Good kX12_in yX12_in 0 TX12_in := by
  refine good_of (by decide) rfl rfl (fun as G Qr h => ?_) (fun X as G Qr hcf hR hT oa => ?_)
  · obtain ⟨v, lo, hi, rfl, -⟩ := h; exact Nat.le_of_ble_eq_true rfl
  obtain ⟨v, lo, hi, rfl, hQ⟩ := hT
  show WP kX12_in X 0 [some (0, v), some (0, lo), some (0, hi)] [] G
  have hr_v : inR v := okv_R (oa _ (by simp))
  have hr_lo : inR lo := okv_R (oa _ (by simp))
  have hr_hi : inR hi := okv_R (oa _ (by simp))
  refine s_iload_n dX12_in_0 rfl ?_
  refine s_iload_n dX12_in_1 rfl ?_
  have J2 : ∀ z1 : Int, ((v < lo) ∧ z1 = 0) ∨ ((¬ v < lo) ∧ (hi < v) ∧ z1 = 0) ∨ ((¬ v < lo) ∧ (¬ hi < v) ∧ z1 = 1) → WP kX12_in X 15 [some (0, v), some (0, lo), some (0, hi)] [(0, z1)] G := by
    intro z1 hz1
    exact s_zret hR dX12_in_15 rfl (by first | exact Or.inl rfl | exact Or.inr rfl | exact b2i_01 | omega) (by rw [show z1 = b2i (lo ≤ v ∧ v ≤ hi) from (by first | rfl | (by_cases hb : lo ≤ v ∧ v ≤ hi; (focus (rw [b2i_t hb]; omega)); (rw [b2i_f hb]; omega)))]; exact hQ)
  refine s_icmp_lt (tgt := 14) dX12_in_2 (by decide) (fun c3 => ?_) (fun c3 => ?_)
  · -- 2 to 14
    refine s_iconst dX12_in_14 (by decide) ?_
    exact J2 0 (Or.inl ⟨c3, rfl⟩)
  · -- 2 to 5
    refine s_iload_n dX12_in_5 rfl ?_
    refine s_iload_n dX12_in_6 rfl ?_
    refine s_icmp_gt (tgt := 14) dX12_in_7 (by decide) (fun c4 => ?_) (fun c4 => ?_)
    · -- 7 to 14
      refine s_iconst dX12_in_14 (by decide) ?_
      exact J2 0 (Or.inr (Or.inl ⟨c3, c4, rfl⟩))
    · -- 7 to 10
      refine s_iconst dX12_in_10 (by decide) ?_
      refine s_goto (tgt := 15) dX12_in_11 (by decide) ?_
      exact J2 1 (Or.inr (Or.inr (⟨c3, c4, rfl⟩)))

def TX12_at : TR := fun as G Qr => ∃ (u v : Int), as = [(0, u), (0, v)] ∧ (0 ≤ u ∧ u ≤ 100) ∧ (-100 ≤ v ∧ v ≤ 100) ∧ Qr (.inl (some (0, 5 * u + v))) G
set_option maxHeartbeats 4000000 in
set_option maxRecDepth 100000 in
theorem gX12_at : Good kX12_at yX12_at 0 TX12_at := by
  refine good_of (by decide) rfl rfl (fun as G Qr h => ?_) (fun X as G Qr hcf hR hT oa => ?_)
  · obtain ⟨u, v, rfl, -⟩ := h; exact Nat.le_of_ble_eq_true rfl
  obtain ⟨u, v, rfl, hu, hv, hQ⟩ := hT
  show WP kX12_at X 0 [some (0, u), some (0, v)] [] G
  have hr_u : inR u := okv_R (oa _ (by simp))
  have hr_v : inR v := okv_R (oa _ (by simp))
  refine s_iconst dX12_at_0 (by decide) ?_
  refine s_iload_n dX12_at_1 rfl ?_
  refine s_imul dX12_at_2 (by omega) ?_
  refine s_iload_n dX12_at_3 rfl ?_
  refine s_iadd dX12_at_4 (by omega) ?_
  exact s_iret hR dX12_at_5 rfl (by rw [show (5 * u) + v = 5 * u + v from (by first | rfl | omega)]; exact hQ)

def TX12_isName : TR := fun as G Qr => ∃ (v : Int), as = [(0, v)] ∧ Qr (.inl (some (0, b2i (0 ≤ v ∧ v ≤ 5)))) G
set_option maxHeartbeats 4000000 in
set_option maxRecDepth 100000 in
theorem gX12_isName : Good kX12_isName yX12_isName 1 TX12_isName := by
  refine good_of (by decide) rfl rfl (fun as G Qr h => ?_) (fun X as G Qr hcf hR hT oa => ?_)
  · obtain ⟨v, rfl, -⟩ := h; exact Nat.le_of_ble_eq_true rfl
  obtain ⟨v, rfl, hQ⟩ := hT
  show WP kX12_isName X 0 [some (0, v)] [] G
  have hr_v : inR v := okv_R (oa _ (by simp))
  refine s_iload_n dX12_isName_0 rfl ?_
  refine s_iconst dX12_isName_1 (by decide) ?_
  refine s_iconst dX12_isName_2 (by decide) ?_
  refine cs_X12_278 rfl gX12_in dX12_isName_3 (by rw [hcf]; decide) (as := [(0, v), (0, 0), (0, 5)]) rfl (by decide) ⟨v, 0, 5, rfl, ?_⟩
  show WP kX12_isName X 6 [some (0, v)] [(0, b2i (0 ≤ v ∧ v ≤ 5))] G
  exact s_zret hR dX12_isName_6 rfl (by first | exact Or.inl rfl | exact Or.inr rfl | exact b2i_01 | omega) (by rw [show b2i (0 ≤ v ∧ v ≤ 5) = b2i (0 ≤ v ∧ v ≤ 5) from (by first | rfl | (by_cases hb : 0 ≤ v ∧ v ≤ 5; (focus (rw [b2i_t hb]; omega)); (rw [b2i_f hb]; omega)))]; exact hQ)

def TX12_isValue : TR := fun as G Qr => ∃ (v : Int), as = [(0, v)] ∧ Qr (.inl (some (0, b2i (0 ≤ v ∧ v ≤ 9)))) G
set_option maxHeartbeats 4000000 in
set_option maxRecDepth 100000 in
theorem gX12_isValue : Good kX12_isValue yX12_isValue 1 TX12_isValue := by
  refine good_of (by decide) rfl rfl (fun as G Qr h => ?_) (fun X as G Qr hcf hR hT oa => ?_)
  · obtain ⟨v, rfl, -⟩ := h; exact Nat.le_of_ble_eq_true rfl
  obtain ⟨v, rfl, hQ⟩ := hT
  show WP kX12_isValue X 0 [some (0, v)] [] G
  have hr_v : inR v := okv_R (oa _ (by simp))
  refine s_iload_n dX12_isValue_0 rfl ?_
  refine s_iconst dX12_isValue_1 (by decide) ?_
  refine s_bipush dX12_isValue_2 rfl (by decide) ?_
  refine cs_X12_278 rfl gX12_in dX12_isValue_4 (by rw [hcf]; decide) (as := [(0, v), (0, 0), (0, 9)]) rfl (by decide) ⟨v, 0, 9, rfl, ?_⟩
  show WP kX12_isValue X 7 [some (0, v)] [(0, b2i (0 ≤ v ∧ v ≤ 9))] G
  exact s_zret hR dX12_isValue_7 rfl (by first | exact Or.inl rfl | exact Or.inr rfl | exact b2i_01 | omega) (by rw [show b2i (0 ≤ v ∧ v ≤ 9) = b2i (0 ≤ v ∧ v ≤ 9) from (by first | rfl | (by_cases hb : 0 ≤ v ∧ v ≤ 9; (focus (rw [b2i_t hb]; omega)); (rw [b2i_f hb]; omega)))]; exact hQ)

def TX12_thrown : TR := fun as G Qr => as = [(2, ((1000 : Nat) : Int))] ∧ MG G ∧ Qr (.inl (some (0, (gS G 1000 25)))) G
set_option maxHeartbeats 4000000 in
set_option maxRecDepth 100000 in
theorem gX12_thrown : Good kX12_thrown yX12_thrown 0 TX12_thrown := by
  refine good_of (by decide) rfl rfl (fun as G Qr h => ?_) (fun X as G Qr hcf hR hT oa => ?_)
  · obtain ⟨rfl, -⟩ := h; exact Nat.le_of_ble_eq_true rfl
  obtain ⟨rfl, hM, hQ⟩ := hT
  show WP kX12_thrown X 0 [some (2, ((1000 : Nat) : Int))] [] G
  refine s_aload_n dX12_thrown_0 rfl (Int.natCast_nonneg _) ?_
  refine gf_thrown rfl dX12_thrown_1 hM rfl ?_
  exact s_iret hR dX12_thrown_4 rfl (by rw [show gS G 1000 25 = (gS G 1000 25) from (by first | rfl | omega)]; exact hQ)

def TX12_partsOf : TR := fun as G Qr => ∃ (k : Int), as = [(0, k)] ∧ Qr (.inl (some (0, (if k < 2 then 0 else if k = 4 ∨ k = 5 then 1 else if k = 6 then 3 else 2)))) G
set_option maxHeartbeats 4000000 in
set_option maxRecDepth 100000 in
theorem gX12_partsOf : Good kX12_partsOf yX12_partsOf 0 TX12_partsOf := by
  refine good_of (by decide) rfl rfl (fun as G Qr h => ?_) (fun X as G Qr hcf hR hT oa => ?_)
  · obtain ⟨k, rfl, -⟩ := h; exact Nat.le_of_ble_eq_true rfl
  obtain ⟨k, rfl, hQ⟩ := hT
  show WP kX12_partsOf X 0 [some (0, k)] [] G
  have hr_k : inR k := okv_R (oa _ (by simp))
  refine s_iload_n dX12_partsOf_0 rfl ?_
  refine s_iconst dX12_partsOf_1 (by decide) ?_
  have J2 : ∀ z1 : Int, ((2 ≤ k) ∧ (k = 4) ∧ z1 = 1) ∨ ((2 ≤ k) ∧ (¬ k = 4) ∧ (¬ k = 5) ∧ (¬ k = 6) ∧ z1 = 2) ∨ ((2 ≤ k) ∧ (¬ k = 4) ∧ (¬ k = 5) ∧ (k = 6) ∧ z1 = 3) ∨ ((2 ≤ k) ∧ (¬ k = 4) ∧ (k = 5) ∧ z1 = 1) ∨ ((¬ 2 ≤ k) ∧ z1 = 0) → WP kX12_partsOf X 34 [some (0, k)] [(0, z1)] G := by
    intro z1 hz1
    exact s_iret hR dX12_partsOf_34 rfl (by rw [show z1 = (if k < 2 then 0 else if k = 4 ∨ k = 5 then 1 else if k = 6 then 3 else 2) from (by split <;> omega)]; exact hQ)
  refine s_icmp_ge (tgt := 9) dX12_partsOf_2 (by decide) (fun c3 => ?_) (fun c3 => ?_)
  · -- 2 to 9
    refine s_iload_n dX12_partsOf_9 rfl ?_
    refine s_iconst dX12_partsOf_10 (by decide) ?_
    refine s_icmp_eq (tgt := 19) dX12_partsOf_11 (by decide) (fun c4 => ?_) (fun c4 => ?_)
    · -- 11 to 19
      refine s_iconst dX12_partsOf_19 (by decide) ?_
      refine s_goto (tgt := 34) dX12_partsOf_20 (by decide) ?_
      exact J2 1 (Or.inl ⟨c3, c4, rfl⟩)
    · -- 11 to 14
      refine s_iload_n dX12_partsOf_14 rfl ?_
      refine s_iconst dX12_partsOf_15 (by decide) ?_
      refine s_icmp_ne (tgt := 23) dX12_partsOf_16 (by decide) (fun c5 => ?_) (fun c5 => ?_)
      · -- 16 to 23
        refine s_iload_n dX12_partsOf_23 rfl ?_
        refine s_bipush dX12_partsOf_24 rfl (by decide) ?_
        refine s_icmp_ne (tgt := 33) dX12_partsOf_26 (by decide) (fun c6 => ?_) (fun c6 => ?_)
        · -- 26 to 33
          refine s_iconst dX12_partsOf_33 (by decide) ?_
          exact J2 2 (Or.inr (Or.inl ⟨c3, c4, c5, c6, rfl⟩))
        · -- 26 to 29
          refine s_iconst dX12_partsOf_29 (by decide) ?_
          refine s_goto (tgt := 34) dX12_partsOf_30 (by decide) ?_
          exact J2 3 (Or.inr (Or.inr (Or.inl ⟨c3, c4, c5, c6, rfl⟩)))
      · -- 16 to 19
        refine s_iconst dX12_partsOf_19 (by decide) ?_
        refine s_goto (tgt := 34) dX12_partsOf_20 (by decide) ?_
        exact J2 1 (Or.inr (Or.inr (Or.inr (Or.inl ⟨c3, c4, c5, rfl⟩))))
  · -- 2 to 5
    refine s_iconst dX12_partsOf_5 (by decide) ?_
    refine s_goto (tgt := 34) dX12_partsOf_6 (by decide) ?_
    exact J2 0 (Or.inr (Or.inr (Or.inr (Or.inr (⟨c3, rfl⟩)))))

def TX12_has : TR := fun as G Qr => ∃ (s k : Int), as = [(0, s), (0, k)] ∧ Qr (.inl (some (0, b2i (bitI s k)))) G
set_option maxHeartbeats 4000000 in
set_option maxRecDepth 100000 in
theorem gX12_has : Good kX12_has yX12_has 0 TX12_has := by
  refine good_of (by decide) rfl rfl (fun as G Qr h => ?_) (fun X as G Qr hcf hR hT oa => ?_)
  · obtain ⟨s, k, rfl, -⟩ := h; exact Nat.le_of_ble_eq_true rfl
  obtain ⟨s, k, rfl, hQ⟩ := hT
  show WP kX12_has X 0 [some (0, s), some (0, k)] [] G
  have hr_s : inR s := okv_R (oa _ (by simp))
  have hr_k : inR k := okv_R (oa _ (by simp))
  refine s_iload_n dX12_has_0 rfl ?_
  refine s_iload_n dX12_has_1 rfl ?_
  refine s_ishr dX12_has_2 ?_
  refine s_iconst dX12_has_3 (by decide) ?_
  refine s_iand dX12_has_4 ?_
  refine s_iconst dX12_has_5 (by decide) ?_
  have J2 : ∀ z1 : Int, ((¬ (i_and (i_shr s k) 1) = 1) ∧ z1 = 0) ∨ (((i_and (i_shr s k) 1) = 1) ∧ z1 = 1) → WP kX12_has X 14 [some (0, s), some (0, k)] [(0, z1)] G := by
    intro z1 hz1
    exact s_zret hR dX12_has_14 rfl (by first | exact Or.inl rfl | exact Or.inr rfl | exact b2i_01 | omega) (by rw [show z1 = b2i (bitI s k) from (by have e : bitI s k ↔ i_and (i_shr s k) 1 = 1 := Iff.rfl; by_cases hb : i_and (i_shr s k) 1 = 1; (focus (rw [b2i_t (e.mpr hb)]; omega)); (rw [b2i_f (fun q => hb (e.mp q))]; omega))]; exact hQ)
  refine s_icmp_ne (tgt := 13) dX12_has_6 (by decide) (fun c3 => ?_) (fun c3 => ?_)
  · -- 6 to 13
    refine s_iconst dX12_has_13 (by decide) ?_
    exact J2 0 (Or.inl ⟨c3, rfl⟩)
  · -- 6 to 9
    refine s_iconst dX12_has_9 (by decide) ?_
    refine s_goto (tgt := 14) dX12_has_10 (by decide) ?_
    exact J2 1 (Or.inr (⟨c3, rfl⟩))

def TX12_isType : TR := fun as G Qr => ∃ (v : Int), as = [(2, ((1000 : Nat) : Int)), (0, v)] ∧ MG G ∧ (0 ≤ (gS G 1000 0) ∧ (gS G 1000 0) ≤ 120) ∧ Qr (.inl (some (0, b2i (0 ≤ v ∧ v < (gS G 1000 0))))) G
set_option maxHeartbeats 4000000 in
set_option maxRecDepth 100000 in
theorem gX12_isType : Good kX12_isType yX12_isType 1 TX12_isType := by
  refine good_of (by decide) rfl rfl (fun as G Qr h => ?_) (fun X as G Qr hcf hR hT oa => ?_)
  · obtain ⟨v, rfl, -⟩ := h; exact Nat.le_of_ble_eq_true rfl
  obtain ⟨v, rfl, hM, hp, hQ⟩ := hT
  show WP kX12_isType X 0 [some (2, ((1000 : Nat) : Int)), some (0, v)] [] G
  have hr_v : inR v := okv_R (oa _ (by simp))
  refine s_iload_n dX12_isType_0 rfl ?_
  refine s_iconst dX12_isType_1 (by decide) ?_
  refine s_aload_n dX12_isType_2 rfl (Int.natCast_nonneg _) ?_
  refine gf_types rfl dX12_isType_3 hM rfl ?_
  refine s_iconst dX12_isType_6 (by decide) ?_
  refine s_isub dX12_isType_7 (by omega) ?_
  refine cs_X12_278 rfl gX12_in dX12_isType_8 (by rw [hcf]; decide) (as := [(0, v), (0, 0), (0, (gS G 1000 0) - 1)]) rfl (by decide) ⟨v, 0, (gS G 1000 0) - 1, rfl, ?_⟩
  show WP kX12_isType X 11 [some (2, ((1000 : Nat) : Int)), some (0, v)] [(0, b2i (0 ≤ v ∧ v ≤ ((gS G 1000 0) - 1)))] G
  exact s_zret hR dX12_isType_11 rfl (by first | exact Or.inl rfl | exact Or.inr rfl | exact b2i_01 | omega) (by rw [show b2i (0 ≤ v ∧ v ≤ ((gS G 1000 0) - 1)) = b2i (0 ≤ v ∧ v < (gS G 1000 0)) from ((b2i_c (by constructor <;> intro h9 <;> omega)))]; exact hQ)

def TX12_isExpression : TR := fun as G Qr => ∃ (v : Int), as = [(2, ((1000 : Nat) : Int)), (0, v)] ∧ MG G ∧ (0 ≤ (gS G 1000 6) ∧ (gS G 1000 6) ≤ 120) ∧ Qr (.inl (some (0, b2i (0 ≤ v ∧ v < (gS G 1000 6))))) G
set_option maxHeartbeats 4000000 in
set_option maxRecDepth 100000 in
theorem gX12_isExpression : Good kX12_isExpression yX12_isExpression 1 TX12_isExpression := by
  refine good_of (by decide) rfl rfl (fun as G Qr h => ?_) (fun X as G Qr hcf hR hT oa => ?_)
  · obtain ⟨v, rfl, -⟩ := h; exact Nat.le_of_ble_eq_true rfl
  obtain ⟨v, rfl, hM, hp, hQ⟩ := hT
  show WP kX12_isExpression X 0 [some (2, ((1000 : Nat) : Int)), some (0, v)] [] G
  have hr_v : inR v := okv_R (oa _ (by simp))
  refine s_iload_n dX12_isExpression_0 rfl ?_
  refine s_iconst dX12_isExpression_1 (by decide) ?_
  refine s_aload_n dX12_isExpression_2 rfl (Int.natCast_nonneg _) ?_
  refine gf_expressions rfl dX12_isExpression_3 hM rfl ?_
  refine s_iconst dX12_isExpression_6 (by decide) ?_
  refine s_isub dX12_isExpression_7 (by omega) ?_
  refine cs_X12_278 rfl gX12_in dX12_isExpression_8 (by rw [hcf]; decide) (as := [(0, v), (0, 0), (0, (gS G 1000 6) - 1)]) rfl (by decide) ⟨v, 0, (gS G 1000 6) - 1, rfl, ?_⟩
  show WP kX12_isExpression X 11 [some (2, ((1000 : Nat) : Int)), some (0, v)] [(0, b2i (0 ≤ v ∧ v ≤ ((gS G 1000 6) - 1)))] G
  exact s_zret hR dX12_isExpression_11 rfl (by first | exact Or.inl rfl | exact Or.inr rfl | exact b2i_01 | omega) (by rw [show b2i (0 ≤ v ∧ v ≤ ((gS G 1000 6) - 1)) = b2i (0 ≤ v ∧ v < (gS G 1000 6)) from ((b2i_c (by constructor <;> intro h9 <;> omega)))]; exact hQ)

def TX12_isUnit : TR := fun as G Qr => ∃ (v : Int), as = [(2, ((1000 : Nat) : Int)), (0, v)] ∧ MG G ∧ (0 ≤ (gS G 1000 12) ∧ (gS G 1000 12) ≤ 120) ∧ Qr (.inl (some (0, b2i (0 ≤ v ∧ v < (gS G 1000 12))))) G
set_option maxHeartbeats 4000000 in
set_option maxRecDepth 100000 in
theorem gX12_isUnit : Good kX12_isUnit yX12_isUnit 1 TX12_isUnit := by
  refine good_of (by decide) rfl rfl (fun as G Qr h => ?_) (fun X as G Qr hcf hR hT oa => ?_)
  · obtain ⟨v, rfl, -⟩ := h; exact Nat.le_of_ble_eq_true rfl
  obtain ⟨v, rfl, hM, hp, hQ⟩ := hT
  show WP kX12_isUnit X 0 [some (2, ((1000 : Nat) : Int)), some (0, v)] [] G
  have hr_v : inR v := okv_R (oa _ (by simp))
  refine s_iload_n dX12_isUnit_0 rfl ?_
  refine s_iconst dX12_isUnit_1 (by decide) ?_
  refine s_aload_n dX12_isUnit_2 rfl (Int.natCast_nonneg _) ?_
  refine gf_units rfl dX12_isUnit_3 hM rfl ?_
  refine s_iconst dX12_isUnit_6 (by decide) ?_
  refine s_isub dX12_isUnit_7 (by omega) ?_
  refine cs_X12_278 rfl gX12_in dX12_isUnit_8 (by rw [hcf]; decide) (as := [(0, v), (0, 0), (0, (gS G 1000 12) - 1)]) rfl (by decide) ⟨v, 0, (gS G 1000 12) - 1, rfl, ?_⟩
  show WP kX12_isUnit X 11 [some (2, ((1000 : Nat) : Int)), some (0, v)] [(0, b2i (0 ≤ v ∧ v ≤ ((gS G 1000 12) - 1)))] G
  exact s_zret hR dX12_isUnit_11 rfl (by first | exact Or.inl rfl | exact Or.inr rfl | exact b2i_01 | omega) (by rw [show b2i (0 ≤ v ∧ v ≤ ((gS G 1000 12) - 1)) = b2i (0 ≤ v ∧ v < (gS G 1000 12)) from ((b2i_c (by constructor <;> intro h9 <;> omega)))]; exact hQ)

def TX12_isNode : TR := fun as G Qr => ∃ (v : Int), as = [(2, ((1000 : Nat) : Int)), (0, v)] ∧ MG G ∧ (0 ≤ (gS G 1000 18) ∧ (gS G 1000 18) ≤ 120) ∧ Qr (.inl (some (0, b2i (0 ≤ v ∧ v < (gS G 1000 18))))) G
set_option maxHeartbeats 4000000 in
set_option maxRecDepth 100000 in
theorem gX12_isNode : Good kX12_isNode yX12_isNode 1 TX12_isNode := by
  refine good_of (by decide) rfl rfl (fun as G Qr h => ?_) (fun X as G Qr hcf hR hT oa => ?_)
  · obtain ⟨v, rfl, -⟩ := h; exact Nat.le_of_ble_eq_true rfl
  obtain ⟨v, rfl, hM, hp, hQ⟩ := hT
  show WP kX12_isNode X 0 [some (2, ((1000 : Nat) : Int)), some (0, v)] [] G
  have hr_v : inR v := okv_R (oa _ (by simp))
  refine s_iload_n dX12_isNode_0 rfl ?_
  refine s_iconst dX12_isNode_1 (by decide) ?_
  refine s_aload_n dX12_isNode_2 rfl (Int.natCast_nonneg _) ?_
  refine gf_nodes rfl dX12_isNode_3 hM rfl ?_
  refine s_iconst dX12_isNode_6 (by decide) ?_
  refine s_isub dX12_isNode_7 (by omega) ?_
  refine cs_X12_278 rfl gX12_in dX12_isNode_8 (by rw [hcf]; decide) (as := [(0, v), (0, 0), (0, (gS G 1000 18) - 1)]) rfl (by decide) ⟨v, 0, (gS G 1000 18) - 1, rfl, ?_⟩
  show WP kX12_isNode X 11 [some (2, ((1000 : Nat) : Int)), some (0, v)] [(0, b2i (0 ≤ v ∧ v ≤ ((gS G 1000 18) - 1)))] G
  exact s_zret hR dX12_isNode_11 rfl (by first | exact Or.inl rfl | exact Or.inr rfl | exact b2i_01 | omega) (by rw [show b2i (0 ≤ v ∧ v ≤ ((gS G 1000 18) - 1)) = b2i (0 ≤ v ∧ v < (gS G 1000 18)) from ((b2i_c (by constructor <;> intro h9 <;> omega)))]; exact hQ)

def TX12_latest : TR := fun as G Qr => ∃ (u : Int), as = [(2, ((1000 : Nat) : Int)), (0, u)] ∧ MG G ∧ (0 ≤ u ∧ u < 8) ∧ (0 ≤ (gS G a_versions (u).toNat) ∧ (gS G a_versions (u).toNat) ≤ 5) ∧ Qr (.inl (some (0, 5 * u + ((gS G a_versions (u).toNat) - 1)))) G
set_option maxHeartbeats 4000000 in
set_option maxRecDepth 100000 in
theorem gX12_latest : Good kX12_latest yX12_latest 1 TX12_latest := by
  refine good_of (by decide) rfl rfl (fun as G Qr h => ?_) (fun X as G Qr hcf hR hT oa => ?_)
  · obtain ⟨u, rfl, -⟩ := h; exact Nat.le_of_ble_eq_true rfl
  obtain ⟨u, rfl, hM, hu, hv, hQ⟩ := hT
  show WP kX12_latest X 0 [some (2, ((1000 : Nat) : Int)), some (0, u)] [] G
  have hr_u : inR u := okv_R (oa _ (by simp))
  refine s_iload_n dX12_latest_0 rfl ?_
  refine s_aload_n dX12_latest_1 rfl (Int.natCast_nonneg _) ?_
  refine gf_versions rfl dX12_latest_2 hM ?_
  refine s_iload_n dX12_latest_5 rfl ?_
  refine s_iald dX12_latest_6 (mg_a_versions hM) (by omega) (by omega) rfl ?_
  refine s_iconst dX12_latest_7 (by decide) ?_
  refine s_isub dX12_latest_8 (by omega) ?_
  refine cs_X12_316 rfl gX12_at dX12_latest_9 (by rw [hcf]; decide) (as := [(0, u), (0, (gS G a_versions ((u).toNat)) - 1)]) rfl (by decide) ⟨u, (gS G a_versions ((u).toNat)) - 1, rfl, (by first | assumption | omega), (by first | assumption | omega), ?_⟩
  show WP kX12_latest X 12 [some (2, ((1000 : Nat) : Int)), some (0, u)] [(0, 5 * u + ((gS G a_versions ((u).toNat)) - 1))] G
  exact s_iret hR dX12_latest_12 rfl (by rw [show 5 * u + ((gS G a_versions ((u).toNat)) - 1) = 5 * u + ((gS G a_versions (u).toNat) - 1) from (by first | rfl | omega)]; exact hQ)

def TX12_isType_ : TR := fun as G Qr => ∃ (s k : Int), as = [(2, ((1000 : Nat) : Int)), (0, s), (0, k)] ∧ MG G ∧ (0 ≤ s ∧ s < 43) ∧ (0 ≤ k ∧ k < 6) ∧ Qr (.inl (some (0, (gS G a_sType (6 * s + k).toNat)))) G
set_option maxHeartbeats 4000000 in
set_option maxRecDepth 100000 in
theorem gX12_isType_ : Good kX12_isType_ yX12_isType_ 0 TX12_isType_ := by
  refine good_of (by decide) rfl rfl (fun as G Qr h => ?_) (fun X as G Qr hcf hR hT oa => ?_)
  · obtain ⟨s, k, rfl, -⟩ := h; exact Nat.le_of_ble_eq_true rfl
  obtain ⟨s, k, rfl, hM, hs, hk, hQ⟩ := hT
  show WP kX12_isType_ X 0 [some (2, ((1000 : Nat) : Int)), some (0, s), some (0, k)] [] G
  have hr_s : inR s := okv_R (oa _ (by simp))
  have hr_k : inR k := okv_R (oa _ (by simp))
  refine s_aload_n dX12_isType__0 rfl (Int.natCast_nonneg _) ?_
  refine gf_sType rfl dX12_isType__1 hM ?_
  refine s_bipush dX12_isType__4 rfl (by decide) ?_
  refine s_iload_n dX12_isType__6 rfl ?_
  refine s_imul dX12_isType__7 (by omega) ?_
  refine s_iload_n dX12_isType__8 rfl ?_
  refine s_iadd dX12_isType__9 (by omega) ?_
  refine s_iald dX12_isType__10 (mg_a_sType hM) (by omega) (by omega) rfl ?_
  exact s_iret hR dX12_isType__11 rfl (by rw [show gS G a_sType (((6 * s) + k).toNat) = (gS G a_sType (6 * s + k).toNat) from (by first | rfl | omega)]; exact hQ)

def TX12_isOf : TR := fun as G Qr => ∃ (s k : Int), as = [(2, ((1000 : Nat) : Int)), (0, s), (0, k)] ∧ MG G ∧ (0 ≤ s ∧ s < 43) ∧ (0 ≤ k ∧ k < 10) ∧ Qr (.inl (some (0, (gS G a_sValue (10 * s + k).toNat)))) G
set_option maxHeartbeats 4000000 in
set_option maxRecDepth 100000 in
theorem gX12_isOf : Good kX12_isOf yX12_isOf 0 TX12_isOf := by
  refine good_of (by decide) rfl rfl (fun as G Qr h => ?_) (fun X as G Qr hcf hR hT oa => ?_)
  · obtain ⟨s, k, rfl, -⟩ := h; exact Nat.le_of_ble_eq_true rfl
  obtain ⟨s, k, rfl, hM, hs, hk, hQ⟩ := hT
  show WP kX12_isOf X 0 [some (2, ((1000 : Nat) : Int)), some (0, s), some (0, k)] [] G
  have hr_s : inR s := okv_R (oa _ (by simp))
  have hr_k : inR k := okv_R (oa _ (by simp))
  refine s_aload_n dX12_isOf_0 rfl (Int.natCast_nonneg _) ?_
  refine gf_sValue rfl dX12_isOf_1 hM ?_
  refine s_bipush dX12_isOf_4 rfl (by decide) ?_
  refine s_iload_n dX12_isOf_6 rfl ?_
  refine s_imul dX12_isOf_7 (by omega) ?_
  refine s_iload_n dX12_isOf_8 rfl ?_
  refine s_iadd dX12_isOf_9 (by omega) ?_
  refine s_iald dX12_isOf_10 (mg_a_sValue hM) (by omega) (by omega) rfl ?_
  exact s_iret hR dX12_isOf_11 rfl (by rw [show gS G a_sValue (((10 * s) + k).toNat) = (gS G a_sValue (10 * s + k).toNat) from (by first | rfl | omega)]; exact hQ)

def TX12_isHole : TR := fun as G Qr => ∃ (s k : Int), as = [(2, ((1000 : Nat) : Int)), (0, s), (0, k)] ∧ MG G ∧ (0 ≤ s ∧ s < 43) ∧ (0 ≤ k ∧ k < 10) ∧ Qr (.inl (some (0, b2i (¬ i_and (gS G a_sFlags (10 * s + k).toNat) 1 = 0)))) G
set_option maxHeartbeats 4000000 in
set_option maxRecDepth 100000 in
theorem gX12_isHole : Good kX12_isHole yX12_isHole 0 TX12_isHole := by
  refine good_of (by decide) rfl rfl (fun as G Qr h => ?_) (fun X as G Qr hcf hR hT oa => ?_)
  · obtain ⟨s, k, rfl, -⟩ := h; exact Nat.le_of_ble_eq_true rfl
  obtain ⟨s, k, rfl, hM, hs, hk, hQ⟩ := hT
  show WP kX12_isHole X 0 [some (2, ((1000 : Nat) : Int)), some (0, s), some (0, k)] [] G
  have hr_s : inR s := okv_R (oa _ (by simp))
  have hr_k : inR k := okv_R (oa _ (by simp))
  refine s_aload_n dX12_isHole_0 rfl (Int.natCast_nonneg _) ?_
  refine gf_sFlags rfl dX12_isHole_1 hM ?_
  refine s_bipush dX12_isHole_4 rfl (by decide) ?_
  refine s_iload_n dX12_isHole_6 rfl ?_
  refine s_imul dX12_isHole_7 (by omega) ?_
  refine s_iload_n dX12_isHole_8 rfl ?_
  refine s_iadd dX12_isHole_9 (by omega) ?_
  refine s_iald dX12_isHole_10 (mg_a_sFlags hM) (by omega) (by omega) rfl ?_
  refine s_iconst dX12_isHole_11 (by decide) ?_
  refine s_iand dX12_isHole_12 ?_
  have J2 : ∀ z1 : Int, (((i_and (gS G a_sFlags (((10 * s) + k).toNat)) 1) = 0) ∧ z1 = 0) ∨ ((¬ (i_and (gS G a_sFlags (((10 * s) + k).toNat)) 1) = 0) ∧ z1 = 1) → WP kX12_isHole X 21 [some (2, ((1000 : Nat) : Int)), some (0, s), some (0, k)] [(0, z1)] G := by
    intro z1 hz1
    exact s_zret hR dX12_isHole_21 rfl (by first | exact Or.inl rfl | exact Or.inr rfl | exact b2i_01 | omega) (by rw [show z1 = b2i (¬ i_and (gS G a_sFlags (10 * s + k).toNat) 1 = 0) from (by first | rfl | (by_cases hb : ¬ i_and (gS G a_sFlags (10 * s + k).toNat) 1 = 0; (focus (rw [b2i_t hb]; omega)); (rw [b2i_f hb]; omega)))]; exact hQ)
  refine s_if_eq (tgt := 20) dX12_isHole_13 (by decide) (fun c3 => ?_) (fun c3 => ?_)
  · -- 13 to 20
    refine s_iconst dX12_isHole_20 (by decide) ?_
    exact J2 0 (Or.inl ⟨c3, rfl⟩)
  · -- 13 to 16
    refine s_iconst dX12_isHole_16 (by decide) ?_
    refine s_goto (tgt := 21) dX12_isHole_17 (by decide) ?_
    exact J2 1 (Or.inr (⟨c3, rfl⟩))

def TX12_isGhost : TR := fun as G Qr => ∃ (s k : Int), as = [(2, ((1000 : Nat) : Int)), (0, s), (0, k)] ∧ MG G ∧ (0 ≤ s ∧ s < 43) ∧ (0 ≤ k ∧ k < 10) ∧ Qr (.inl (some (0, b2i (¬ i_and (gS G a_sFlags (10 * s + k).toNat) 2 = 0)))) G
set_option maxHeartbeats 4000000 in
set_option maxRecDepth 100000 in
theorem gX12_isGhost : Good kX12_isGhost yX12_isGhost 0 TX12_isGhost := by
  refine good_of (by decide) rfl rfl (fun as G Qr h => ?_) (fun X as G Qr hcf hR hT oa => ?_)
  · obtain ⟨s, k, rfl, -⟩ := h; exact Nat.le_of_ble_eq_true rfl
  obtain ⟨s, k, rfl, hM, hs, hk, hQ⟩ := hT
  show WP kX12_isGhost X 0 [some (2, ((1000 : Nat) : Int)), some (0, s), some (0, k)] [] G
  have hr_s : inR s := okv_R (oa _ (by simp))
  have hr_k : inR k := okv_R (oa _ (by simp))
  refine s_aload_n dX12_isGhost_0 rfl (Int.natCast_nonneg _) ?_
  refine gf_sFlags rfl dX12_isGhost_1 hM ?_
  refine s_bipush dX12_isGhost_4 rfl (by decide) ?_
  refine s_iload_n dX12_isGhost_6 rfl ?_
  refine s_imul dX12_isGhost_7 (by omega) ?_
  refine s_iload_n dX12_isGhost_8 rfl ?_
  refine s_iadd dX12_isGhost_9 (by omega) ?_
  refine s_iald dX12_isGhost_10 (mg_a_sFlags hM) (by omega) (by omega) rfl ?_
  refine s_iconst dX12_isGhost_11 (by decide) ?_
  refine s_iand dX12_isGhost_12 ?_
  have J2 : ∀ z1 : Int, (((i_and (gS G a_sFlags (((10 * s) + k).toNat)) 2) = 0) ∧ z1 = 0) ∨ ((¬ (i_and (gS G a_sFlags (((10 * s) + k).toNat)) 2) = 0) ∧ z1 = 1) → WP kX12_isGhost X 21 [some (2, ((1000 : Nat) : Int)), some (0, s), some (0, k)] [(0, z1)] G := by
    intro z1 hz1
    exact s_zret hR dX12_isGhost_21 rfl (by first | exact Or.inl rfl | exact Or.inr rfl | exact b2i_01 | omega) (by rw [show z1 = b2i (¬ i_and (gS G a_sFlags (10 * s + k).toNat) 2 = 0) from (by first | rfl | (by_cases hb : ¬ i_and (gS G a_sFlags (10 * s + k).toNat) 2 = 0; (focus (rw [b2i_t hb]; omega)); (rw [b2i_f hb]; omega)))]; exact hQ)
  refine s_if_eq (tgt := 20) dX12_isGhost_13 (by decide) (fun c3 => ?_) (fun c3 => ?_)
  · -- 13 to 20
    refine s_iconst dX12_isGhost_20 (by decide) ?_
    exact J2 0 (Or.inl ⟨c3, rfl⟩)
  · -- 13 to 16
    refine s_iconst dX12_isGhost_16 (by decide) ?_
    refine s_goto (tgt := 21) dX12_isGhost_17 (by decide) ?_
    exact J2 1 (Or.inr (⟨c3, rfl⟩))

def TX12_partsOfNode : TR := fun as G Qr => ∃ (n : Int), as = [(2, ((1000 : Nat) : Int)), (0, n)] ∧ MG G ∧ (0 ≤ n ∧ n < 40) ∧ Qr (.inl (some (0, (if (gS G a_nKind (n).toNat) = 0 then 0 else if 5 ≤ (gS G a_nKind (n).toNat) then 1 else if (gS G a_nKind (n).toNat) = 4 then 3 else 2)))) G
set_option maxHeartbeats 4000000 in
set_option maxRecDepth 100000 in
theorem gX12_partsOfNode : Good kX12_partsOfNode yX12_partsOfNode 0 TX12_partsOfNode := by
  refine good_of (by decide) rfl rfl (fun as G Qr h => ?_) (fun X as G Qr hcf hR hT oa => ?_)
  · obtain ⟨n, rfl, -⟩ := h; exact Nat.le_of_ble_eq_true rfl
  obtain ⟨n, rfl, hM, hn, hQ⟩ := hT
  show WP kX12_partsOfNode X 0 [some (2, ((1000 : Nat) : Int)), some (0, n)] [] G
  have hr_n : inR n := okv_R (oa _ (by simp))
  refine s_aload_n dX12_partsOfNode_0 rfl (Int.natCast_nonneg _) ?_
  refine gf_nKind rfl dX12_partsOfNode_1 hM ?_
  refine s_iload_n dX12_partsOfNode_4 rfl ?_
  refine s_iald dX12_partsOfNode_5 (mg_a_nKind hM) (by omega) (by omega) rfl ?_
  have J2 : ∀ z1 : Int, ((¬ (gS G a_nKind ((n).toNat)) = 0) ∧ ((gS G a_nKind ((n).toNat)) < 5) ∧ (¬ (gS G a_nKind ((n).toNat)) = 4) ∧ z1 = 2) ∨ ((¬ (gS G a_nKind ((n).toNat)) = 0) ∧ ((gS G a_nKind ((n).toNat)) < 5) ∧ ((gS G a_nKind ((n).toNat)) = 4) ∧ z1 = 3) ∨ ((¬ (gS G a_nKind ((n).toNat)) = 0) ∧ (¬ (gS G a_nKind ((n).toNat)) < 5) ∧ z1 = 1) ∨ (((gS G a_nKind ((n).toNat)) = 0) ∧ z1 = 0) → WP kX12_partsOfNode X 42 [some (2, ((1000 : Nat) : Int)), some (0, n)] [(0, z1)] G := by
    intro z1 hz1
    exact s_iret hR dX12_partsOfNode_42 rfl (by rw [show z1 = (if (gS G a_nKind (n).toNat) = 0 then 0 else if 5 ≤ (gS G a_nKind (n).toNat) then 1 else if (gS G a_nKind (n).toNat) = 4 then 3 else 2) from (by split <;> omega)]; exact hQ)
  refine s_if_ne (tgt := 13) dX12_partsOfNode_6 (by decide) (fun c3 => ?_) (fun c3 => ?_)
  · -- 6 to 13
    refine s_aload_n dX12_partsOfNode_13 rfl (Int.natCast_nonneg _) ?_
    refine gf_nKind rfl dX12_partsOfNode_14 hM ?_
    refine s_iload_n dX12_partsOfNode_17 rfl ?_
    refine s_iald dX12_partsOfNode_18 (mg_a_nKind hM) (by omega) (by omega) rfl ?_
    refine s_iconst dX12_partsOfNode_19 (by decide) ?_
    refine s_icmp_lt (tgt := 27) dX12_partsOfNode_20 (by decide) (fun c4 => ?_) (fun c4 => ?_)
    · -- 20 to 27
      refine s_aload_n dX12_partsOfNode_27 rfl (Int.natCast_nonneg _) ?_
      refine gf_nKind rfl dX12_partsOfNode_28 hM ?_
      refine s_iload_n dX12_partsOfNode_31 rfl ?_
      refine s_iald dX12_partsOfNode_32 (mg_a_nKind hM) (by omega) (by omega) rfl ?_
      refine s_iconst dX12_partsOfNode_33 (by decide) ?_
      refine s_icmp_ne (tgt := 41) dX12_partsOfNode_34 (by decide) (fun c5 => ?_) (fun c5 => ?_)
      · -- 34 to 41
        refine s_iconst dX12_partsOfNode_41 (by decide) ?_
        exact J2 2 (Or.inl ⟨c3, c4, c5, rfl⟩)
      · -- 34 to 37
        refine s_iconst dX12_partsOfNode_37 (by decide) ?_
        refine s_goto (tgt := 42) dX12_partsOfNode_38 (by decide) ?_
        exact J2 3 (Or.inr (Or.inl ⟨c3, c4, c5, rfl⟩))
    · -- 20 to 23
      refine s_iconst dX12_partsOfNode_23 (by decide) ?_
      refine s_goto (tgt := 42) dX12_partsOfNode_24 (by decide) ?_
      exact J2 1 (Or.inr (Or.inr (Or.inl ⟨c3, c4, rfl⟩)))
  · -- 6 to 9
    refine s_iconst dX12_partsOfNode_9 (by decide) ?_
    refine s_goto (tgt := 42) dX12_partsOfNode_10 (by decide) ?_
    exact J2 0 (Or.inr (Or.inr (Or.inr (⟨c3, rfl⟩))))

def TX12_partOf : TR := fun as G Qr => ∃ (n k : Int), as = [(2, ((1000 : Nat) : Int)), (0, n), (0, k)] ∧ MG G ∧ (0 ≤ n ∧ n < 40) ∧ Qr (.inl (some (0, (if k = 0 then (gS G a_nFirst (n).toNat) else if k = 1 then (gS G a_nSecond (n).toNat) else (gS G a_nThird (n).toNat))))) G
set_option maxHeartbeats 4000000 in
set_option maxRecDepth 100000 in
theorem gX12_partOf : Good kX12_partOf yX12_partOf 0 TX12_partOf := by
  refine good_of (by decide) rfl rfl (fun as G Qr h => ?_) (fun X as G Qr hcf hR hT oa => ?_)
  · obtain ⟨n, k, rfl, -⟩ := h; exact Nat.le_of_ble_eq_true rfl
  obtain ⟨n, k, rfl, hM, hn, hQ⟩ := hT
  show WP kX12_partOf X 0 [some (2, ((1000 : Nat) : Int)), some (0, n), some (0, k)] [] G
  have hr_n : inR n := okv_R (oa _ (by simp))
  have hr_k : inR k := okv_R (oa _ (by simp))
  refine s_iload_n dX12_partOf_0 rfl ?_
  have J2 : ∀ z1 : Int, ((¬ k = 0) ∧ (¬ k = 1) ∧ z1 = gS G a_nThird ((n).toNat)) ∨ ((¬ k = 0) ∧ (k = 1) ∧ z1 = gS G a_nSecond ((n).toNat)) ∨ ((k = 0) ∧ z1 = gS G a_nFirst ((n).toNat)) → WP kX12_partOf X 33 [some (2, ((1000 : Nat) : Int)), some (0, n), some (0, k)] [(0, z1)] G := by
    intro z1 hz1
    exact s_iret hR dX12_partOf_33 rfl (by rw [show z1 = (if k = 0 then (gS G a_nFirst (n).toNat) else if k = 1 then (gS G a_nSecond (n).toNat) else (gS G a_nThird (n).toNat)) from (by split <;> omega)]; exact hQ)
  refine s_if_ne (tgt := 13) dX12_partOf_1 (by decide) (fun c3 => ?_) (fun c3 => ?_)
  · -- 1 to 13
    refine s_iload_n dX12_partOf_13 rfl ?_
    refine s_iconst dX12_partOf_14 (by decide) ?_
    refine s_icmp_ne (tgt := 27) dX12_partOf_15 (by decide) (fun c4 => ?_) (fun c4 => ?_)
    · -- 15 to 27
      refine s_aload_n dX12_partOf_27 rfl (Int.natCast_nonneg _) ?_
      refine gf_nThird rfl dX12_partOf_28 hM ?_
      refine s_iload_n dX12_partOf_31 rfl ?_
      refine s_iald dX12_partOf_32 (mg_a_nThird hM) (by omega) (by omega) rfl ?_
      exact J2 _ (Or.inl ⟨c3, c4, rfl⟩)
    · -- 15 to 18
      refine s_aload_n dX12_partOf_18 rfl (Int.natCast_nonneg _) ?_
      refine gf_nSecond rfl dX12_partOf_19 hM ?_
      refine s_iload_n dX12_partOf_22 rfl ?_
      refine s_iald dX12_partOf_23 (mg_a_nSecond hM) (by omega) (by omega) rfl ?_
      refine s_goto (tgt := 33) dX12_partOf_24 (by decide) ?_
      exact J2 _ (Or.inr (Or.inl ⟨c3, c4, rfl⟩))
  · -- 1 to 4
    refine s_aload_n dX12_partOf_4 rfl (Int.natCast_nonneg _) ?_
    refine gf_nFirst rfl dX12_partOf_5 hM ?_
    refine s_iload_n dX12_partOf_8 rfl ?_
    refine s_iald dX12_partOf_9 (mg_a_nFirst hM) (by omega) (by omega) rfl ?_
    refine s_goto (tgt := 33) dX12_partOf_10 (by decide) ?_
    exact J2 _ (Or.inr (Or.inr (⟨c3, rfl⟩)))

def TX12_isPair : TR := fun as G Qr => ∃ (v : Int), as = [(2, ((1000 : Nat) : Int)), (0, v)] ∧ MG G ∧ (0 ≤ v ∧ v < 4000) ∧ Qr (.inl (some (0, b2i (¬ (gS G a_left (v).toNat) = -1)))) G
set_option maxHeartbeats 4000000 in
set_option maxRecDepth 100000 in
theorem gX12_isPair : Good kX12_isPair yX12_isPair 0 TX12_isPair := by
  refine good_of (by decide) rfl rfl (fun as G Qr h => ?_) (fun X as G Qr hcf hR hT oa => ?_)
  · obtain ⟨v, rfl, -⟩ := h; exact Nat.le_of_ble_eq_true rfl
  obtain ⟨v, rfl, hM, hv, hQ⟩ := hT
  show WP kX12_isPair X 0 [some (2, ((1000 : Nat) : Int)), some (0, v)] [] G
  have hr_v : inR v := okv_R (oa _ (by simp))
  refine s_aload_n dX12_isPair_0 rfl (Int.natCast_nonneg _) ?_
  refine gf_left rfl dX12_isPair_1 hM ?_
  refine s_iload_n dX12_isPair_4 rfl ?_
  refine s_iald dX12_isPair_5 (mg_a_left hM) (by omega) (by omega) rfl ?_
  refine s_iconst dX12_isPair_6 (by decide) ?_
  have J2 : ∀ z1 : Int, (((gS G a_left ((v).toNat)) = ((-1))) ∧ z1 = 0) ∨ ((¬ (gS G a_left ((v).toNat)) = ((-1))) ∧ z1 = 1) → WP kX12_isPair X 15 [some (2, ((1000 : Nat) : Int)), some (0, v)] [(0, z1)] G := by
    intro z1 hz1
    exact s_zret hR dX12_isPair_15 rfl (by first | exact Or.inl rfl | exact Or.inr rfl | exact b2i_01 | omega) (by rw [show z1 = b2i (¬ (gS G a_left (v).toNat) = -1) from (by first | rfl | (by_cases hb : ¬ (gS G a_left (v).toNat) = -1; (focus (rw [b2i_t hb]; omega)); (rw [b2i_f hb]; omega)))]; exact hQ)
  refine s_icmp_eq (tgt := 14) dX12_isPair_7 (by decide) (fun c3 => ?_) (fun c3 => ?_)
  · -- 7 to 14
    refine s_iconst dX12_isPair_14 (by decide) ?_
    exact J2 0 (Or.inl ⟨c3, rfl⟩)
  · -- 7 to 10
    refine s_iconst dX12_isPair_10 (by decide) ?_
    refine s_goto (tgt := 15) dX12_isPair_11 (by decide) ?_
    exact J2 1 (Or.inr (⟨c3, rfl⟩))
