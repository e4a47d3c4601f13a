abbrev kX11_isTypeName : KD := (RX11, cX11_isTypeName, 1, (some .boolean), [])
def TX11_isTypeName : TR := fun as G Qr => ∃ (v : Int), as = [(0, v)] ∧ ∀ (r : Int), ((r = 1 ∧ (0 ≤ v ∧ v ≤ 5)) ∨ (r = 0 ∧ ¬ (0 ≤ v ∧ v ≤ 5))) → Qr (.inl (some (0, r))) G
set_option maxHeartbeats 4000000 in
set_option maxRecDepth 100000 in
theorem gX11_isTypeName : Good kX11_isTypeName yX11_isTypeName 0 TX11_isTypeName := by
  refine good_of (by decide) rfl rfl (fun as G Qr h => ?_) (fun X as G Qr hcf hR hT oa => ?_)
  · obtain ⟨v, rfl, -⟩ := h; exact Nat.le_of_ble_eq_true rfl
  obtain ⟨v, rfl, hQ⟩ := hT
  show WP kX11_isTypeName X 0 [some (0, v)] [] G
  have hr_v : inR v := okv_R (oa _ (by simp))
  refine s_iload_n dX11_isTypeName_0 rfl ?_
  have J2 : ∀ z1 : Int, ((v < 0) ∧ z1 = 0) ∨ ((¬ v < 0) ∧ (((6 : Int)) ≤ v) ∧ z1 = 0) ∨ ((¬ v < 0) ∧ (¬ ((6 : Int)) ≤ v) ∧ z1 = 1) → WP kX11_isTypeName X 15 [some (0, v)] [(0, z1)] G := by
    intro z1 hz1
    exact s_zret hR dX11_isTypeName_15 rfl (by first | exact Or.inl rfl | exact Or.inr rfl | omega) (hQ z1 (by omega))
  refine s_if_lt (tgt := 14) dX11_isTypeName_1 (by decide) (fun c3 => ?_) (fun c3 => ?_)
  · -- 1 to 14
    refine s_iconst dX11_isTypeName_14 (by decide) ?_
    exact J2 0 (Or.inl ⟨c3, rfl⟩)
  · -- 1 to 4
    refine s_iload_n dX11_isTypeName_4 rfl ?_
    refine s_bipush dX11_isTypeName_5 rfl (by decide) ?_
    refine s_icmp_ge (tgt := 14) dX11_isTypeName_7 (by decide) (fun c4 => ?_) (fun c4 => ?_)
    · -- 7 to 14
      refine s_iconst dX11_isTypeName_14 (by decide) ?_
      exact J2 0 (Or.inr (Or.inl ⟨c3, c4, rfl⟩))
    · -- 7 to 10
      refine s_iconst dX11_isTypeName_10 (by decide) ?_
      refine s_goto (tgt := 15) dX11_isTypeName_11 (by decide) ?_
      exact J2 1 (Or.inr (Or.inr (⟨c3, c4, rfl⟩)))

abbrev kX11_isValueName : KD := (RX11, cX11_isValueName, 1, (some .boolean), [])
def TX11_isValueName : TR := fun as G Qr => ∃ (v : Int), as = [(0, v)] ∧ ∀ (r : Int), ((r = 1 ∧ (0 ≤ v ∧ v ≤ 9)) ∨ (r = 0 ∧ ¬ (0 ≤ v ∧ v ≤ 9))) → Qr (.inl (some (0, r))) G
set_option maxHeartbeats 4000000 in
set_option maxRecDepth 100000 in
theorem gX11_isValueName : Good kX11_isValueName yX11_isValueName 0 TX11_isValueName := by
  refine good_of (by decide) rfl rfl (fun as G Qr h => ?_) (fun X as G Qr hcf hR hT oa => ?_)
  · obtain ⟨v, rfl, -⟩ := h; exact Nat.le_of_ble_eq_true rfl
  obtain ⟨v, rfl, hQ⟩ := hT
  show WP kX11_isValueName X 0 [some (0, v)] [] G
  have hr_v : inR v := okv_R (oa _ (by simp))
  refine s_iload_n dX11_isValueName_0 rfl ?_
  have J2 : ∀ z1 : Int, ((v < 0) ∧ z1 = 0) ∨ ((¬ v < 0) ∧ (((10 : Int)) ≤ v) ∧ z1 = 0) ∨ ((¬ v < 0) ∧ (¬ ((10 : Int)) ≤ v) ∧ z1 = 1) → WP kX11_isValueName X 15 [some (0, v)] [(0, z1)] G := by
    intro z1 hz1
    exact s_zret hR dX11_isValueName_15 rfl (by first | exact Or.inl rfl | exact Or.inr rfl | omega) (hQ z1 (by omega))
  refine s_if_lt (tgt := 14) dX11_isValueName_1 (by decide) (fun c3 => ?_) (fun c3 => ?_)
  · -- 1 to 14
    refine s_iconst dX11_isValueName_14 (by decide) ?_
    exact J2 0 (Or.inl ⟨c3, rfl⟩)
  · -- 1 to 4
    refine s_iload_n dX11_isValueName_4 rfl ?_
    refine s_bipush dX11_isValueName_5 rfl (by decide) ?_
    refine s_icmp_ge (tgt := 14) dX11_isValueName_7 (by decide) (fun c4 => ?_) (fun c4 => ?_)
    · -- 7 to 14
      refine s_iconst dX11_isValueName_14 (by decide) ?_
      exact J2 0 (Or.inr (Or.inl ⟨c3, c4, rfl⟩))
    · -- 7 to 10
      refine s_iconst dX11_isValueName_10 (by decide) ?_
      refine s_goto (tgt := 15) dX11_isValueName_11 (by decide) ?_
      exact J2 1 (Or.inr (Or.inr (⟨c3, c4, rfl⟩)))

abbrev kX11_isIn : KD := (RX11, cX11_isIn, 2, (some .boolean), [])
def TX11_isIn : TR := fun as G Qr => ∃ (s k : Int), as = [(0, s), (0, k)] ∧ ∀ (r : Int), ((r = 1 ∧ ¬ i_and (i_shr s k) 1 = 0) ∨ (r = 0 ∧ i_and (i_shr s k) 1 = 0)) → Qr (.inl (some (0, r))) G
set_option maxHeartbeats 4000000 in
set_option maxRecDepth 100000 in
theorem gX11_isIn : Good kX11_isIn yX11_isIn 0 TX11_isIn := by
  refine good_of (by decide) rfl rfl (fun as G Qr h => ?_) (fun X as G Qr hcf hR hT oa => ?_)
  · obtain ⟨s, k, rfl, -⟩ := h; exact Nat.le_of_ble_eq_true rfl
  obtain ⟨s, k, rfl, hQ⟩ := hT
  show WP kX11_isIn X 0 [some (0, s), some (0, k)] [] G
  have hr_s : inR s := okv_R (oa _ (by simp))
  have hr_k : inR k := okv_R (oa _ (by simp))
  refine s_iload_n dX11_isIn_0 rfl ?_
  refine s_iload_n dX11_isIn_1 rfl ?_
  refine s_ishr dX11_isIn_2 ?_
  refine s_iconst dX11_isIn_3 (by decide) ?_
  refine s_iand dX11_isIn_4 ?_
  have J2 : ∀ z1 : Int, (((i_and (i_shr s k) 1) = 0) ∧ z1 = 0) ∨ ((¬ (i_and (i_shr s k) 1) = 0) ∧ z1 = 1) → WP kX11_isIn X 13 [some (0, s), some (0, k)] [(0, z1)] G := by
    intro z1 hz1
    exact s_zret hR dX11_isIn_13 rfl (by first | exact Or.inl rfl | exact Or.inr rfl | omega) (hQ z1 (by omega))
  refine s_if_eq (tgt := 12) dX11_isIn_5 (by decide) (fun c3 => ?_) (fun c3 => ?_)
  · -- 5 to 12
    refine s_iconst dX11_isIn_12 (by decide) ?_
    exact J2 0 (Or.inl ⟨c3, rfl⟩)
  · -- 5 to 8
    refine s_iconst dX11_isIn_8 (by decide) ?_
    refine s_goto (tgt := 13) dX11_isIn_9 (by decide) ?_
    exact J2 1 (Or.inr (⟨c3, rfl⟩))

abbrev kX11_typeMistake : KD := (RX11, cX11_typeMistake, 2, (some .int), [])
def TX11_typeMistake : TR := fun as G Qr => ∃ (k n : Int), as = [(0, k), (0, n)] ∧ (0 ≤ k ∧ k ≤ 100) ∧ (-100 ≤ n ∧ n ≤ 100) ∧ ∀ (r : Int), (r = 100 * k + 50 + n) → Qr (.inl (some (0, r))) G
set_option maxHeartbeats 4000000 in
set_option maxRecDepth 100000 in
theorem gX11_typeMistake : Good kX11_typeMistake yX11_typeMistake 0 TX11_typeMistake := by
  refine good_of (by decide) rfl rfl (fun as G Qr h => ?_) (fun X as G Qr hcf hR hT oa => ?_)
  · obtain ⟨k, n, rfl, -⟩ := h; exact Nat.le_of_ble_eq_true rfl
  obtain ⟨k, n, rfl, hk, hn, hQ⟩ := hT
  show WP kX11_typeMistake X 0 [some (0, k), some (0, n)] [] G
  have hr_k : inR k := okv_R (oa _ (by simp))
  have hr_n : inR n := okv_R (oa _ (by simp))
  refine s_bipush dX11_typeMistake_0 rfl (by decide) ?_
  refine s_iload_n dX11_typeMistake_2 rfl ?_
  refine s_imul dX11_typeMistake_3 (by omega) ?_
  refine s_bipush dX11_typeMistake_4 rfl (by decide) ?_
  refine s_iadd dX11_typeMistake_6 (by omega) ?_
  refine s_iload_n dX11_typeMistake_7 rfl ?_
  refine s_iadd dX11_typeMistake_8 (by omega) ?_
  exact s_iret hR dX11_typeMistake_9 rfl (hQ (((100 * k) + 50) + n) (by omega))

abbrev kX11_valueMistake : KD := (RX11, cX11_valueMistake, 2, (some .int), [])
def TX11_valueMistake : TR := fun as G Qr => ∃ (k n : Int), as = [(0, k), (0, n)] ∧ (0 ≤ k ∧ k ≤ 100) ∧ (-100 ≤ n ∧ n ≤ 100) ∧ ∀ (r : Int), (r = 100 * k + n) → Qr (.inl (some (0, r))) G
set_option maxHeartbeats 4000000 in
set_option maxRecDepth 100000 in
theorem gX11_valueMistake : Good kX11_valueMistake yX11_valueMistake 0 TX11_valueMistake := by
  refine good_of (by decide) rfl rfl (fun as G Qr h => ?_) (fun X as G Qr hcf hR hT oa => ?_)
  · obtain ⟨k, n, rfl, -⟩ := h; exact Nat.le_of_ble_eq_true rfl
  obtain ⟨k, n, rfl, hk, hn, hQ⟩ := hT
  show WP kX11_valueMistake X 0 [some (0, k), some (0, n)] [] G
  have hr_k : inR k := okv_R (oa _ (by simp))
  have hr_n : inR n := okv_R (oa _ (by simp))
  refine s_bipush dX11_valueMistake_0 rfl (by decide) ?_
  refine s_iload_n dX11_valueMistake_2 rfl ?_
  refine s_imul dX11_valueMistake_3 (by omega) ?_
  refine s_iload_n dX11_valueMistake_4 rfl ?_
  refine s_iadd dX11_valueMistake_5 (by omega) ?_
  exact s_iret hR dX11_valueMistake_6 rfl (hQ ((100 * k) + n) (by omega))

abbrev kX0_hasValue : KD := (RX0, cX0_hasValue, 2, (some .boolean), [])
def TX0_hasValue : TR := fun as G Qr => ∃ (o : Nat) (k : Int) (a b : Nat), as = [(2, ((o : Nat) : Int)), (0, k)] ∧ CI a b G ∧ (a ≤ 2840000 ∧ b ≤ 590000) ∧ (isFc o) ∧ (0 ≤ k ∧ k < 10) ∧ ∀ (r : Int), ((r = 1 ∧ ¬ gS G (o + 2) k.toNat = 0) ∨ (r = 0 ∧ gS G (o + 2) k.toNat = 0)) → Qr (.inl (some (0, r))) G
set_option maxHeartbeats 4000000 in
set_option maxRecDepth 100000 in
theorem gX0_hasValue : Good kX0_hasValue yX0_hasValue 0 TX0_hasValue := by
  refine good_of (by decide) rfl rfl (fun as G Qr h => ?_) (fun X as G Qr hcf hR hT oa => ?_)
  · obtain ⟨o, k, a, b, rfl, -⟩ := h; exact Nat.le_of_ble_eq_true rfl
  obtain ⟨o, k, a, b, rfl, hC, hab, ho, hk, hQ⟩ := hT
  show WP kX0_hasValue X 0 [some (2, ((o : Nat) : Int)), some (0, k)] [] G
  have hr_k : inR k := okv_R (oa _ (by simp))
  refine s_aload_n dX0_hasValue_0 rfl (Int.natCast_nonneg _) ?_
  refine s_alv (o) (by simp) (fun al1 => ?_)
  have hk2 : gK G (o) = (9, 0) := hC.1.k (by rw [cde_n (by omega) (by omega)]; omega : cde o = 101) al1
  have hv3 : gS G o 2 = ((o + 2 : Nat) : Int) := by have h9 : (gS G o 2) = (((o % 1048576) + 2 : Nat) : Int) := hC.1.v (j := 2) (by rw [cde_n (by omega) (by omega)]; omega : cde o = 101) al1 (by rw [hk2]; exact Nat.le_of_ble_eq_true rfl); omega
  refine s_getf (ci := 1) (k := 2) (C := RX0) (T := TX0) (N := 7) (n := o) (L := 0) (t := 2) dX0_hasValue_1 rfl wi_65 m_404 (Nat.le_of_ble_eq_true rfl) rfl rfl hk2 hv3 ?_
  refine s_iload_n dX0_hasValue_4 rfl ?_
  refine s_alv (o + 2) (by simp) (fun al4 => ?_)
  have hk5 : gK G (o + 2) = (1, 10) := hC.1.k (by rw [cde_n (by omega) (by omega)]; omega : cde (o + 2) = 103) al4
  refine s_iald dX0_hasValue_5 hk5 (by omega) (by omega) rfl ?_
  have J7 : ∀ z6 : Int, (((gS G (o + 2) ((k : Int).toNat)) = 0) ∧ z6 = 0) ∨ ((¬ (gS G (o + 2) ((k : Int).toNat)) = 0) ∧ z6 = 1) → WP kX0_hasValue X 14 [some (2, ((o : Nat) : Int)), some (0, k)] [(0, z6)] G := by
    intro z6 hz6
    exact s_zret hR dX0_hasValue_14 rfl (by first | exact Or.inl rfl | exact Or.inr rfl | omega) (hQ z6 (by omega))
  refine s_if_eq (tgt := 13) dX0_hasValue_6 (by decide) (fun c8 => ?_) (fun c8 => ?_)
  · -- 6 to 13
    refine s_iconst dX0_hasValue_13 (by decide) ?_
    exact J7 0 (Or.inl ⟨c8, rfl⟩)
  · -- 6 to 9
    refine s_iconst dX0_hasValue_9 (by decide) ?_
    refine s_goto (tgt := 14) dX0_hasValue_10 (by decide) ?_
    exact J7 1 (Or.inr (⟨c8, rfl⟩))

abbrev kX0_hasType : KD := (RX0, cX0_hasType, 2, (some .boolean), [])
def TX0_hasType : TR := fun as G Qr => ∃ (o : Nat) (k : Int) (a b : Nat), as = [(2, ((o : Nat) : Int)), (0, k)] ∧ CI a b G ∧ (a ≤ 2840000 ∧ b ≤ 590000) ∧ (isFc o) ∧ (0 ≤ k ∧ k < 6) ∧ ∀ (r : Int), (r = 0 ∨ r = 1) → Qr (.inl (some (0, r))) G
set_option maxHeartbeats 4000000 in
set_option maxRecDepth 100000 in
theorem gX0_hasType : Good kX0_hasType yX0_hasType 0 TX0_hasType := by
  refine good_of (by decide) rfl rfl (fun as G Qr h => ?_) (fun X as G Qr hcf hR hT oa => ?_)
  · obtain ⟨o, k, a, b, rfl, -⟩ := h; exact Nat.le_of_ble_eq_true rfl
  obtain ⟨o, k, a, b, rfl, hC, hab, ho, hk, hQ⟩ := hT
  show WP kX0_hasType X 0 [some (2, ((o : Nat) : Int)), some (0, k)] [] G
  have hr_k : inR k := okv_R (oa _ (by simp))
  refine s_aload_n dX0_hasType_0 rfl (Int.natCast_nonneg _) ?_
  refine s_alv (o) (by simp) (fun al1 => ?_)
  have hk2 : gK G (o) = (9, 0) := hC.1.k (by rw [cde_n (by omega) (by omega)]; omega : cde o = 101) al1
  have hv3 : gS G o 1 = ((o + 1 : Nat) : Int) := by have h9 : (gS G o 1) = (((o % 1048576) + 1 : Nat) : Int) := hC.1.v (j := 1) (by rw [cde_n (by omega) (by omega)]; omega : cde o = 101) al1 (by rw [hk2]; exact Nat.le_of_ble_eq_true rfl); omega
  refine s_getf (ci := 1) (k := 1) (C := RX0) (T := TX0) (N := 7) (n := o) (L := 0) (t := 2) dX0_hasType_1 rfl wi_65 m_409 (Nat.le_of_ble_eq_true rfl) rfl rfl hk2 hv3 ?_
  refine s_iload_n dX0_hasType_4 rfl ?_
  refine s_alv (o + 1) (by simp) (fun al4 => ?_)
  have hk5 : gK G (o + 1) = (1, 6) := hC.1.k (by rw [cde_n (by omega) (by omega)]; omega : cde (o + 1) = 102) al4
  refine s_iald dX0_hasType_5 hk5 (by omega) (by omega) rfl ?_
  have J7 : ∀ z6 : Int, (((gS G (o + 1) ((k : Int).toNat)) = 0) ∧ z6 = 0) ∨ ((¬ (gS G (o + 1) ((k : Int).toNat)) = 0) ∧ z6 = 1) → WP kX0_hasType X 14 [some (2, ((o : Nat) : Int)), some (0, k)] [(0, z6)] G := by
    intro z6 hz6
    exact s_zret hR dX0_hasType_14 rfl (by first | exact Or.inl rfl | exact Or.inr rfl | omega) (hQ z6 (by omega))
  refine s_if_eq (tgt := 13) dX0_hasType_6 (by decide) (fun c8 => ?_) (fun c8 => ?_)
  · -- 6 to 13
    refine s_iconst dX0_hasType_13 (by decide) ?_
    exact J7 0 (Or.inl ⟨c8, rfl⟩)
  · -- 6 to 9
    refine s_iconst dX0_hasType_9 (by decide) ?_
    refine s_goto (tgt := 14) dX0_hasType_10 (by decide) ?_
    exact J7 1 (Or.inr (⟨c8, rfl⟩))

abbrev kX0_isValueHole : KD := (RX0, cX0_isValueHole, 2, (some .boolean), [])
def TX0_isValueHole : TR := fun as G Qr => ∃ (o : Nat) (k : Int) (a b : Nat), as = [(2, ((o : Nat) : Int)), (0, k)] ∧ CI a b G ∧ (a ≤ 2840000 ∧ b ≤ 590000) ∧ (isFc o) ∧ (0 ≤ k ∧ k < 10) ∧ ∀ (r : Int), (r = 0 ∨ r = 1) → Qr (.inl (some (0, r))) G
set_option maxHeartbeats 4000000 in
set_option maxRecDepth 100000 in
theorem gX0_isValueHole : Good kX0_isValueHole yX0_isValueHole 0 TX0_isValueHole := by
  refine good_of (by decide) rfl rfl (fun as G Qr h => ?_) (fun X as G Qr hcf hR hT oa => ?_)
  · obtain ⟨o, k, a, b, rfl, -⟩ := h; exact Nat.le_of_ble_eq_true rfl
  obtain ⟨o, k, a, b, rfl, hC, hab, ho, hk, hQ⟩ := hT
  show WP kX0_isValueHole X 0 [some (2, ((o : Nat) : Int)), some (0, k)] [] G
  have hr_k : inR k := okv_R (oa _ (by simp))
  refine s_aload_n dX0_isValueHole_0 rfl (Int.natCast_nonneg _) ?_
  refine s_alv (o) (by simp) (fun al1 => ?_)
  have hk2 : gK G (o) = (9, 0) := hC.1.k (by rw [cde_n (by omega) (by omega)]; omega : cde o = 101) al1
  have hv3 : gS G o 2 = ((o + 2 : Nat) : Int) := by have h9 : (gS G o 2) = (((o % 1048576) + 2 : Nat) : Int) := hC.1.v (j := 2) (by rw [cde_n (by omega) (by omega)]; omega : cde o = 101) al1 (by rw [hk2]; exact Nat.le_of_ble_eq_true rfl); omega
  refine s_getf (ci := 1) (k := 2) (C := RX0) (T := TX0) (N := 7) (n := o) (L := 0) (t := 2) dX0_isValueHole_1 rfl wi_65 m_404 (Nat.le_of_ble_eq_true rfl) rfl rfl hk2 hv3 ?_
  refine s_iload_n dX0_isValueHole_4 rfl ?_
  refine s_alv (o + 2) (by simp) (fun al4 => ?_)
  have hk5 : gK G (o + 2) = (1, 10) := hC.1.k (by rw [cde_n (by omega) (by omega)]; omega : cde (o + 2) = 103) al4
  refine s_iald dX0_isValueHole_5 hk5 (by omega) (by omega) rfl ?_
  refine s_iconst dX0_isValueHole_6 (by decide) ?_
  refine s_iand dX0_isValueHole_7 ?_
  have J7 : ∀ z6 : Int, (((i_and (gS G (o + 2) ((k : Int).toNat)) 1) = 0) ∧ z6 = 0) ∨ ((¬ (i_and (gS G (o + 2) ((k : Int).toNat)) 1) = 0) ∧ z6 = 1) → WP kX0_isValueHole X 16 [some (2, ((o : Nat) : Int)), some (0, k)] [(0, z6)] G := by
    intro z6 hz6
    exact s_zret hR dX0_isValueHole_16 rfl (by first | exact Or.inl rfl | exact Or.inr rfl | omega) (hQ z6 (by omega))
  refine s_if_eq (tgt := 15) dX0_isValueHole_8 (by decide) (fun c8 => ?_) (fun c8 => ?_)
  · -- 8 to 15
    refine s_iconst dX0_isValueHole_15 (by decide) ?_
    exact J7 0 (Or.inl ⟨c8, rfl⟩)
  · -- 8 to 11
    refine s_iconst dX0_isValueHole_11 (by decide) ?_
    refine s_goto (tgt := 16) dX0_isValueHole_12 (by decide) ?_
    exact J7 1 (Or.inr (⟨c8, rfl⟩))

abbrev kX0_isGhost : KD := (RX0, cX0_isGhost, 2, (some .boolean), [])
def TX0_isGhost : TR := fun as G Qr => ∃ (o : Nat) (k : Int) (a b : Nat), as = [(2, ((o : Nat) : Int)), (0, k)] ∧ CI a b G ∧ (a ≤ 2840000 ∧ b ≤ 590000) ∧ (isFc o) ∧ (0 ≤ k ∧ k < 10) ∧ ∀ (r : Int), (r = 0 ∨ r = 1) → Qr (.inl (some (0, r))) G
set_option maxHeartbeats 4000000 in
set_option maxRecDepth 100000 in
theorem gX0_isGhost : Good kX0_isGhost yX0_isGhost 0 TX0_isGhost := by
  refine good_of (by decide) rfl rfl (fun as G Qr h => ?_) (fun X as G Qr hcf hR hT oa => ?_)
  · obtain ⟨o, k, a, b, rfl, -⟩ := h; exact Nat.le_of_ble_eq_true rfl
  obtain ⟨o, k, a, b, rfl, hC, hab, ho, hk, hQ⟩ := hT
  show WP kX0_isGhost X 0 [some (2, ((o : Nat) : Int)), some (0, k)] [] G
  have hr_k : inR k := okv_R (oa _ (by simp))
  refine s_aload_n dX0_isGhost_0 rfl (Int.natCast_nonneg _) ?_
  refine s_alv (o) (by simp) (fun al1 => ?_)
  have hk2 : gK G (o) = (9, 0) := hC.1.k (by rw [cde_n (by omega) (by omega)]; omega : cde o = 101) al1
  have hv3 : gS G o 2 = ((o + 2 : Nat) : Int) := by have h9 : (gS G o 2) = (((o % 1048576) + 2 : Nat) : Int) := hC.1.v (j := 2) (by rw [cde_n (by omega) (by omega)]; omega : cde o = 101) al1 (by rw [hk2]; exact Nat.le_of_ble_eq_true rfl); omega
  refine s_getf (ci := 1) (k := 2) (C := RX0) (T := TX0) (N := 7) (n := o) (L := 0) (t := 2) dX0_isGhost_1 rfl wi_65 m_404 (Nat.le_of_ble_eq_true rfl) rfl rfl hk2 hv3 ?_
  refine s_iload_n dX0_isGhost_4 rfl ?_
  refine s_alv (o + 2) (by simp) (fun al4 => ?_)
  have hk5 : gK G (o + 2) = (1, 10) := hC.1.k (by rw [cde_n (by omega) (by omega)]; omega : cde (o + 2) = 103) al4
  refine s_iald dX0_isGhost_5 hk5 (by omega) (by omega) rfl ?_
  refine s_iconst dX0_isGhost_6 (by decide) ?_
  refine s_iand dX0_isGhost_7 ?_
  have J7 : ∀ z6 : Int, (((i_and (gS G (o + 2) ((k : Int).toNat)) 4) = 0) ∧ z6 = 0) ∨ ((¬ (i_and (gS G (o + 2) ((k : Int).toNat)) 4) = 0) ∧ z6 = 1) → WP kX0_isGhost X 16 [some (2, ((o : Nat) : Int)), some (0, k)] [(0, z6)] G := by
    intro z6 hz6
    exact s_zret hR dX0_isGhost_16 rfl (by first | exact Or.inl rfl | exact Or.inr rfl | omega) (hQ z6 (by omega))
  refine s_if_eq (tgt := 15) dX0_isGhost_8 (by decide) (fun c8 => ?_) (fun c8 => ?_)
  · -- 8 to 15
    refine s_iconst dX0_isGhost_15 (by decide) ?_
    exact J7 0 (Or.inl ⟨c8, rfl⟩)
  · -- 8 to 11
    refine s_iconst dX0_isGhost_11 (by decide) ?_
    refine s_goto (tgt := 16) dX0_isGhost_12 (by decide) ?_
    exact J7 1 (Or.inr (⟨c8, rfl⟩))

abbrev kX0_putTypeHole : KD := (RX0, cX0_putTypeHole, 2, none, [])
def TX0_putTypeHole : TR := fun as G Qr => ∃ (o : Nat) (k : Int) (a b : Nat), as = [(2, ((o : Nat) : Int)), (0, k)] ∧ CI a b G ∧ (a ≤ 2840000 ∧ b ≤ 590000) ∧ (isFc o) ∧ (0 ≤ k ∧ k < 6) ∧ ∀ (G' : LG), CI a b G' → KX G G' → WX (fun x => x = o + 1) G G' → (True) → Qr (.inl none) G'
set_option maxHeartbeats 4000000 in
set_option maxRecDepth 100000 in
theorem gX0_putTypeHole : Good kX0_putTypeHole yX0_putTypeHole 0 TX0_putTypeHole := by
  refine good_of (by decide) rfl rfl (fun as G Qr h => ?_) (fun X as G Qr hcf hR hT oa => ?_)
  · obtain ⟨o, k, a, b, rfl, -⟩ := h; exact Nat.le_of_ble_eq_true rfl
  obtain ⟨o, k, a, b, rfl, hC, hab, ho, hk, hQ⟩ := hT
  show WP kX0_putTypeHole X 0 [some (2, ((o : Nat) : Int)), some (0, k)] [] G
  have hr_k : inR k := okv_R (oa _ (by simp))
  refine s_aload_n dX0_putTypeHole_0 rfl (Int.natCast_nonneg _) ?_
  refine s_alv (o) (by simp) (fun al1 => ?_)
  have hk2 : gK G (o) = (9, 0) := hC.1.k (by rw [cde_n (by omega) (by omega)]; omega : cde o = 101) al1
  have hv3 : gS G o 1 = ((o + 1 : Nat) : Int) := by have h9 : (gS G o 1) = (((o % 1048576) + 1 : Nat) : Int) := hC.1.v (j := 1) (by rw [cde_n (by omega) (by omega)]; omega : cde o = 101) al1 (by rw [hk2]; exact Nat.le_of_ble_eq_true rfl); omega
  refine s_getf (ci := 1) (k := 1) (C := RX0) (T := TX0) (N := 7) (n := o) (L := 0) (t := 2) dX0_putTypeHole_1 rfl wi_65 m_409 (Nat.le_of_ble_eq_true rfl) rfl rfl hk2 hv3 ?_
  refine s_iload_n dX0_putTypeHole_4 rfl ?_
  refine s_iconst dX0_putTypeHole_5 (by decide) ?_
  refine s_alv (o + 1) (by simp) (fun al4 => ?_)
  have hk5 : gK G (o + 1) = (1, 6) := hC.1.k (by rw [cde_n (by omega) (by omega)]; omega : cde (o + 1) = 102) al4
  refine s_iast dX0_putTypeHole_6 hk5 (by omega) (by omega) ?_
  generalize eG6r : gset G (o + 1) ((k : Int).toNat) 1 = G6
  have eG6 := eG6r.symm
  have hCG6 : CI a b G6 := by rw [eG6]; exact hC.set (by rw [(by rw [cde_n (by omega) (by omega)]; omega : cde (o + 1) = 102)]; rfl) (by rw [(by rw [cde_n (by omega) (by omega)]; omega : cde (o + 1) = 102)]; exact trivial)
  have hXG6 : KX G G6 := KX.set KX.rf eG6
  have hFG6 : WX (fun x => x = o + 1) G G6 := WX.set WX.rf eG6 (by show _; omega)
  show WP kX0_putTypeHole X 7 [some (2, ((o : Nat) : Int)), some (0, k)] [] G6
  exact s_vret hR dX0_putTypeHole_7 rfl (hQ G6 hCG6 hXG6 hFG6 trivial)

abbrev kX0_putNumber : KD := (RX0, cX0_putNumber, 3, none, [])
def TX0_putNumber : TR := fun as G Qr => ∃ (o : Nat) (k n : Int) (a b : Nat), as = [(2, ((o : Nat) : Int)), (0, k), (0, n)] ∧ CI a b G ∧ (a ≤ 2840000 ∧ b ≤ 590000) ∧ (isFc o) ∧ (0 ≤ k ∧ k < 10) ∧ ∀ (G' : LG), CI a b G' → KX G G' → WX (fun x => x = o + 5 ∨ x = o + 6) G G' → (True) → Qr (.inl none) G'
set_option maxHeartbeats 4000000 in
set_option maxRecDepth 100000 in
theorem gX0_putNumber : Good kX0_putNumber yX0_putNumber 0 TX0_putNumber := by
  refine good_of (by decide) rfl rfl (fun as G Qr h => ?_) (fun X as G Qr hcf hR hT oa => ?_)
  · obtain ⟨o, k, n, a, b, rfl, -⟩ := h; exact Nat.le_of_ble_eq_true rfl
  obtain ⟨o, k, n, a, b, rfl, hC, hab, ho, hk, hQ⟩ := hT
  show WP kX0_putNumber X 0 [some (2, ((o : Nat) : Int)), some (0, k), some (0, n)] [] G
  have hr_k : inR k := okv_R (oa _ (by simp))
  have hr_n : inR n := okv_R (oa _ (by simp))
  refine s_aload_n dX0_putNumber_0 rfl (Int.natCast_nonneg _) ?_
  refine s_alv (o) (by simp) (fun al1 => ?_)
  have hk2 : gK G (o) = (9, 0) := hC.1.k (by rw [cde_n (by omega) (by omega)]; omega : cde o = 101) al1
  have hv3 : gS G o 5 = ((o + 5 : Nat) : Int) := by have h9 : (gS G o 5) = (((o % 1048576) + 5 : Nat) : Int) := hC.1.v (j := 5) (by rw [cde_n (by omega) (by omega)]; omega : cde o = 101) al1 (by rw [hk2]; exact Nat.le_of_ble_eq_true rfl); omega
  refine s_getf (ci := 1) (k := 5) (C := RX0) (T := TX0) (N := 7) (n := o) (L := 0) (t := 2) dX0_putNumber_1 rfl wi_65 m_407 (Nat.le_of_ble_eq_true rfl) rfl rfl hk2 hv3 ?_
  refine s_iload_n dX0_putNumber_4 rfl ?_
  refine s_iconst dX0_putNumber_5 (by decide) ?_
  refine s_alv (o + 5) (by simp) (fun al4 => ?_)
  have hk5 : gK G (o + 5) = (2, 10) := hC.1.k (by rw [cde_n (by omega) (by omega)]; omega : cde (o + 5) = 106) al4
  refine s_bast dX0_putNumber_6 hk5 (by omega) (by omega) (by omega) ?_
  generalize eG6r : gset G (o + 5) ((k : Int).toNat) 1 = G6
  have eG6 := eG6r.symm
  have hCG6 : CI a b G6 := by rw [eG6]; exact hC.set (by rw [(by rw [cde_n (by omega) (by omega)]; omega : cde (o + 5) = 106)]; rfl) (by rw [(by rw [cde_n (by omega) (by omega)]; omega : cde (o + 5) = 106)]; exact trivial)
  have hXG6 : KX G G6 := KX.set KX.rf eG6
  have hFG6 : WX (fun x => x = o + 5 ∨ x = o + 6) G G6 := WX.set WX.rf eG6 (by show _; omega)
  show WP kX0_putNumber X 7 [some (2, ((o : Nat) : Int)), some (0, k), some (0, n)] [] G6
  refine s_aload_n dX0_putNumber_7 rfl (Int.natCast_nonneg _) ?_
  have hk7 : gK G6 (o) = (9, 0) := ((hXG6).k hk2 (by decide))
  refine s_alv (o) (by simp) (fun al8 => ?_)
  have hv9 : gS G6 o 6 = ((o + 6 : Nat) : Int) := by have h9 : (gS G6 o 6) = (((o % 1048576) + 6 : Nat) : Int) := hCG6.1.v (j := 6) (by rw [cde_n (by omega) (by omega)]; omega : cde o = 101) al8 (by rw [hk7]; exact Nat.le_of_ble_eq_true rfl); omega
  refine s_getf (ci := 1) (k := 6) (C := RX0) (T := TX0) (N := 7) (n := o) (L := 0) (t := 2) dX0_putNumber_8 rfl wi_65 m_408 (Nat.le_of_ble_eq_true rfl) rfl rfl hk7 hv9 ?_
  refine s_iload_n dX0_putNumber_11 rfl ?_
  refine s_iload_n dX0_putNumber_12 rfl ?_
  refine s_alv (o + 6) (by simp) (fun al10 => ?_)
  have hk11 : gK G6 (o + 6) = (1, 10) := hCG6.1.k (by rw [cde_n (by omega) (by omega)]; omega : cde (o + 6) = 107) al10
  refine s_iast dX0_putNumber_13 hk11 (by omega) (by omega) ?_
  generalize eG12r : gset G6 (o + 6) ((k : Int).toNat) n = G12
  have eG12 := eG12r.symm
  have hCG12 : CI a b G12 := by rw [eG12]; exact hCG6.set (by rw [(by rw [cde_n (by omega) (by omega)]; omega : cde (o + 6) = 107)]; rfl) (by rw [(by rw [cde_n (by omega) (by omega)]; omega : cde (o + 6) = 107)]; exact trivial)
  have hXG12 : KX G6 G12 := KX.set KX.rf eG12
  have hFG12 : WX (fun x => x = o + 5 ∨ x = o + 6) G G12 := WX.set hFG6 eG12 (by show _; omega)
  show WP kX0_putNumber X 14 [some (2, ((o : Nat) : Int)), some (0, k), some (0, n)] [] G12
  exact s_vret hR dX0_putNumber_14 rfl (hQ G12 hCG12 (KX.trans hXG6 hXG12) hFG12 trivial)

abbrev kX0_removeType : KD := (RX0, cX0_removeType, 2, none, [])
def TX0_removeType : TR := fun as G Qr => ∃ (o : Nat) (k : Int) (a b : Nat), as = [(2, ((o : Nat) : Int)), (0, k)] ∧ CI a b G ∧ (a ≤ 2840000 ∧ b ≤ 590000) ∧ (isFc o) ∧ (0 ≤ k ∧ k < 6) ∧ ∀ (G' : LG), CI a b G' → KX G G' → WX (fun x => x = o + 1 ∨ x = o + 4) G G' → (gS G' (o + 4) k.toNat = 0 ∧ ∀ j, j ≠ k.toNat → gS G' (o + 4) j = gS G (o + 4) j) → Qr (.inl none) G'
set_option maxHeartbeats 4000000 in
set_option maxRecDepth 100000 in
theorem gX0_removeType : Good kX0_removeType yX0_removeType 0 TX0_removeType := by
  refine good_of (by decide) rfl rfl (fun as G Qr h => ?_) (fun X as G Qr hcf hR hT oa => ?_)
  · obtain ⟨o, k, a, b, rfl, -⟩ := h; exact Nat.le_of_ble_eq_true rfl
  obtain ⟨o, k, a, b, rfl, hC, hab, ho, hk, hQ⟩ := hT
  show WP kX0_removeType X 0 [some (2, ((o : Nat) : Int)), some (0, k)] [] G
  have hr_k : inR k := okv_R (oa _ (by simp))
  refine s_aload_n dX0_removeType_0 rfl (Int.natCast_nonneg _) ?_
  refine s_alv (o) (by simp) (fun al1 => ?_)
  have hk2 : gK G (o) = (9, 0) := hC.1.k (by rw [cde_n (by omega) (by omega)]; omega : cde o = 101) al1
  have hv3 : gS G o 1 = ((o + 1 : Nat) : Int) := by have h9 : (gS G o 1) = (((o % 1048576) + 1 : Nat) : Int) := hC.1.v (j := 1) (by rw [cde_n (by omega) (by omega)]; omega : cde o = 101) al1 (by rw [hk2]; exact Nat.le_of_ble_eq_true rfl); omega
  refine s_getf (ci := 1) (k := 1) (C := RX0) (T := TX0) (N := 7) (n := o) (L := 0) (t := 2) dX0_removeType_1 rfl wi_65 m_409 (Nat.le_of_ble_eq_true rfl) rfl rfl hk2 hv3 ?_
  refine s_iload_n dX0_removeType_4 rfl ?_
  refine s_iconst dX0_removeType_5 (by decide) ?_
  refine s_alv (o + 1) (by simp) (fun al4 => ?_)
  have hk5 : gK G (o + 1) = (1, 6) := hC.1.k (by rw [cde_n (by omega) (by omega)]; omega : cde (o + 1) = 102) al4
  refine s_iast dX0_removeType_6 hk5 (by omega) (by omega) ?_
  generalize eG6r : gset G (o + 1) ((k : Int).toNat) 0 = G6
  have eG6 := eG6r.symm
  have hCG6 : CI a b G6 := by rw [eG6]; exact hC.set (by rw [(by rw [cde_n (by omega) (by omega)]; omega : cde (o + 1) = 102)]; rfl) (by rw [(by rw [cde_n (by omega) (by omega)]; omega : cde (o + 1) = 102)]; exact trivial)
  have hXG6 : KX G G6 := KX.set KX.rf eG6
  have hFG6 : WX (fun x => x = o + 1 ∨ x = o + 4) G G6 := WX.set WX.rf eG6 (by show _; omega)
  show WP kX0_removeType X 7 [some (2, ((o : Nat) : Int)), some (0, k)] [] G6
  refine s_aload_n dX0_removeType_7 rfl (Int.natCast_nonneg _) ?_
  have hk7 : gK G6 (o) = (9, 0) := ((hXG6).k hk2 (by decide))
  refine s_alv (o) (by simp) (fun al8 => ?_)
  have hv9 : gS G6 o 4 = ((o + 4 : Nat) : Int) := by have h9 : (gS G6 o 4) = (((o % 1048576) + 4 : Nat) : Int) := hCG6.1.v (j := 4) (by rw [cde_n (by omega) (by omega)]; omega : cde o = 101) al8 (by rw [hk7]; exact Nat.le_of_ble_eq_true rfl); omega
  refine s_getf (ci := 1) (k := 4) (C := RX0) (T := TX0) (N := 7) (n := o) (L := 0) (t := 2) dX0_removeType_8 rfl wi_65 m_406 (Nat.le_of_ble_eq_true rfl) rfl rfl hk7 hv9 ?_
  refine s_iload_n dX0_removeType_11 rfl ?_
  refine s_iconst dX0_removeType_12 (by decide) ?_
  refine s_alv (o + 4) (by simp) (fun al10 => ?_)
  have hk11 : gK G6 (o + 4) = (1, 16) := hCG6.1.k (by rw [cde_n (by omega) (by omega)]; omega : cde (o + 4) = 105) al10
  refine s_iast dX0_removeType_13 hk11 (by omega) (by omega) ?_
  generalize eG12r : gset G6 (o + 4) ((k : Int).toNat) 0 = G12
  have eG12 := eG12r.symm
  have hCG12 : CI a b G12 := by rw [eG12]; exact hCG6.set (by rw [(by rw [cde_n (by omega) (by omega)]; omega : cde (o + 4) = 105)]; rfl) (by rw [(by rw [cde_n (by omega) (by omega)]; omega : cde (o + 4) = 105)]; exact (show 0 ≤ 0 ∧ 0 ≤ 200 from by omega))
  have hXG12 : KX G6 G12 := KX.set KX.rf eG12
  have hFG12 : WX (fun x => x = o + 1 ∨ x = o + 4) G G12 := WX.set hFG6 eG12 (by show _; omega)
  show WP kX0_removeType X 14 [some (2, ((o : Nat) : Int)), some (0, k)] [] G12
  exact s_vret hR dX0_removeType_14 rfl (hQ G12 hCG12 (KX.trans hXG6 hXG12) hFG12 ⟨gsaE eG12, fun j hj => by rw [eG12, gset_ne _ _ (fun z => hj z.2), gset_o eG6 (x := o + 4) (by omega)]⟩)

abbrev kX0_removeValue : KD := (RX0, cX0_removeValue, 2, none, [])
def TX0_removeValue : TR := fun as G Qr => ∃ (o : Nat) (k : Int) (a b : Nat), as = [(2, ((o : Nat) : Int)), (0, k)] ∧ CI a b G ∧ (a ≤ 2840000 ∧ b ≤ 590000) ∧ (isFc o) ∧ (0 ≤ k ∧ k < 10) ∧ ∀ (G' : LG), CI a b G' → KX G G' → WX (fun x => x = o + 2 ∨ x = o + 4 ∨ x = o + 5) G G' → (gS G' (o + 4) (6 + k).toNat = 0 ∧ ∀ j, j ≠ (6 + k).toNat → gS G' (o + 4) j = gS G (o + 4) j) → Qr (.inl none) G'
set_option maxHeartbeats 4000000 in
set_option maxRecDepth 100000 in
theorem gX0_removeValue : Good kX0_removeValue yX0_removeValue 0 TX0_removeValue := by
  refine good_of (by decide) rfl rfl (fun as G Qr h => ?_) (fun X as G Qr hcf hR hT oa => ?_)
  · obtain ⟨o, k, a, b, rfl, -⟩ := h; exact Nat.le_of_ble_eq_true rfl
  obtain ⟨o, k, a, b, rfl, hC, hab, ho, hk, hQ⟩ := hT
  show WP kX0_removeValue X 0 [some (2, ((o : Nat) : Int)), some (0, k)] [] G
  have hr_k : inR k := okv_R (oa _ (by simp))
  refine s_aload_n dX0_removeValue_0 rfl (Int.natCast_nonneg _) ?_
  refine s_alv (o) (by simp) (fun al1 => ?_)
  have hk2 : gK G (o) = (9, 0) := hC.1.k (by rw [cde_n (by omega) (by omega)]; omega : cde o = 101) al1
  have hv3 : gS G o 2 = ((o + 2 : Nat) : Int) := by have h9 : (gS G o 2) = (((o % 1048576) + 2 : Nat) : Int) := hC.1.v (j := 2) (by rw [cde_n (by omega) (by omega)]; omega : cde o = 101) al1 (by rw [hk2]; exact Nat.le_of_ble_eq_true rfl); omega
  refine s_getf (ci := 1) (k := 2) (C := RX0) (T := TX0) (N := 7) (n := o) (L := 0) (t := 2) dX0_removeValue_1 rfl wi_65 m_404 (Nat.le_of_ble_eq_true rfl) rfl rfl hk2 hv3 ?_
  refine s_iload_n dX0_removeValue_4 rfl ?_
  refine s_iconst dX0_removeValue_5 (by decide) ?_
  refine s_alv (o + 2) (by simp) (fun al4 => ?_)
  have hk5 : gK G (o + 2) = (1, 10) := hC.1.k (by rw [cde_n (by omega) (by omega)]; omega : cde (o + 2) = 103) al4
  refine s_iast dX0_removeValue_6 hk5 (by omega) (by omega) ?_
  generalize eG6r : gset G (o + 2) ((k : Int).toNat) 0 = G6
  have eG6 := eG6r.symm
  have hCG6 : CI a b G6 := by rw [eG6]; exact hC.set (by rw [(by rw [cde_n (by omega) (by omega)]; omega : cde (o + 2) = 103)]; rfl) (by rw [(by rw [cde_n (by omega) (by omega)]; omega : cde (o + 2) = 103)]; exact trivial)
  have hXG6 : KX G G6 := KX.set KX.rf eG6
  have hFG6 : WX (fun x => x = o + 2 ∨ x = o + 4 ∨ x = o + 5) G G6 := WX.set WX.rf eG6 (by show _; omega)
  show WP kX0_removeValue X 7 [some (2, ((o : Nat) : Int)), some (0, k)] [] G6
  refine s_aload_n dX0_removeValue_7 rfl (Int.natCast_nonneg _) ?_
  have hk7 : gK G6 (o) = (9, 0) := ((hXG6).k hk2 (by decide))
  refine s_alv (o) (by simp) (fun al8 => ?_)
  have hv9 : gS G6 o 4 = ((o + 4 : Nat) : Int) := by have h9 : (gS G6 o 4) = (((o % 1048576) + 4 : Nat) : Int) := hCG6.1.v (j := 4) (by rw [cde_n (by omega) (by omega)]; omega : cde o = 101) al8 (by rw [hk7]; exact Nat.le_of_ble_eq_true rfl); omega
  refine s_getf (ci := 1) (k := 4) (C := RX0) (T := TX0) (N := 7) (n := o) (L := 0) (t := 2) dX0_removeValue_8 rfl wi_65 m_406 (Nat.le_of_ble_eq_true rfl) rfl rfl hk7 hv9 ?_
  refine s_bipush dX0_removeValue_11 rfl (by decide) ?_
  refine s_iload_n dX0_removeValue_13 rfl ?_
  refine s_iadd dX0_removeValue_14 (by omega) ?_
  refine s_iconst dX0_removeValue_15 (by decide) ?_
  refine s_alv (o + 4) (by simp) (fun al10 => ?_)
  have hk11 : gK G6 (o + 4) = (1, 16) := hCG6.1.k (by rw [cde_n (by omega) (by omega)]; omega : cde (o + 4) = 105) al10
  refine s_iast dX0_removeValue_16 hk11 (by omega) (by omega) ?_
  generalize eG12r : gset G6 (o + 4) ((6 + k : Int).toNat) 0 = G12
  have eG12 := eG12r.symm
  have hCG12 : CI a b G12 := by rw [eG12]; exact hCG6.set (by rw [(by rw [cde_n (by omega) (by omega)]; omega : cde (o + 4) = 105)]; rfl) (by rw [(by rw [cde_n (by omega) (by omega)]; omega : cde (o + 4) = 105)]; exact (show 0 ≤ 0 ∧ 0 ≤ 200 from by omega))
  have hXG12 : KX G6 G12 := KX.set KX.rf eG12
  have hFG12 : WX (fun x => x = o + 2 ∨ x = o + 4 ∨ x = o + 5) G G12 := WX.set hFG6 eG12 (by show _; omega)
  show WP kX0_removeValue X 17 [some (2, ((o : Nat) : Int)), some (0, k)] [] G12
  refine s_aload_n dX0_removeValue_17 rfl (Int.natCast_nonneg _) ?_
  have hk13 : gK G12 (o) = (9, 0) := ((hXG12).k hk7 (by decide))
  refine s_alv (o) (by simp) (fun al14 => ?_)
  have hv15 : gS G12 o 5 = ((o + 5 : Nat) : Int) := by have h9 : (gS G12 o 5) = (((o % 1048576) + 5 : Nat) : Int) := hCG12.1.v (j := 5) (by rw [cde_n (by omega) (by omega)]; omega : cde o = 101) al14 (by rw [hk13]; exact Nat.le_of_ble_eq_true rfl); omega
  refine s_getf (ci := 1) (k := 5) (C := RX0) (T := TX0) (N := 7) (n := o) (L := 0) (t := 2) dX0_removeValue_18 rfl wi_65 m_407 (Nat.le_of_ble_eq_true rfl) rfl rfl hk13 hv15 ?_
  refine s_iload_n dX0_removeValue_21 rfl ?_
  refine s_iconst dX0_removeValue_22 (by decide) ?_
  refine s_alv (o + 5) (by simp) (fun al16 => ?_)
  have hk17 : gK G12 (o + 5) = (2, 10) := hCG12.1.k (by rw [cde_n (by omega) (by omega)]; omega : cde (o + 5) = 106) al16
  refine s_bast dX0_removeValue_23 hk17 (by omega) (by omega) (by omega) ?_
  generalize eG18r : gset G12 (o + 5) ((k : Int).toNat) 0 = G18
  have eG18 := eG18r.symm
  have hCG18 : CI a b G18 := by rw [eG18]; exact hCG12.set (by rw [(by rw [cde_n (by omega) (by omega)]; omega : cde (o + 5) = 106)]; rfl) (by rw [(by rw [cde_n (by omega) (by omega)]; omega : cde (o + 5) = 106)]; exact trivial)
  have hXG18 : KX G12 G18 := KX.set KX.rf eG18
  have hFG18 : WX (fun x => x = o + 2 ∨ x = o + 4 ∨ x = o + 5) G G18 := WX.set hFG12 eG18 (by show _; omega)
  show WP kX0_removeValue X 24 [some (2, ((o : Nat) : Int)), some (0, k)] [] G18
  exact s_vret hR dX0_removeValue_24 rfl (hQ G18 hCG18 (KX.trans (KX.trans hXG6 hXG12) hXG18) hFG18 ⟨by rw [gset_o eG18 (x := o + 4) (by omega)]; exact gsaE eG12, fun j hj => by rw [gset_o eG18 (x := o + 4) (by omega), eG12, gset_ne _ _ (fun z => hj z.2), gset_o eG6 (x := o + 4) (by omega)]⟩)
