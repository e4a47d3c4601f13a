abbrev kX10_hasValue : KD := (RX10, cX10_hasValue, 2, (some .boolean), [])
def TX10_hasValue : TR := fun as G Qr => ∃ (o : Nat) (k : Int) (a b : Nat), as = [(2, ((o : Nat) : Int)), (0, k)] ∧ CI a b G ∧ (a ≤ 2840000 ∧ b ≤ 590000) ∧ (isVr o) ∧ (0 ≤ k ∧ k < 10) ∧ ∀ (r : Int), ((r = 1 ∧ ¬ gS G (o + 2) k.toNat = -2) ∨ (r = 0 ∧ gS G (o + 2) k.toNat = -2)) → Qr (.inl (some (0, r))) G
set_option maxHeartbeats 4000000 in
set_option maxRecDepth 100000 in
theorem gX10_hasValue : Good kX10_hasValue yX10_hasValue 0 TX10_hasValue := by
  refine good_of (by decide) rfl rfl (fun as G Qr h => ?_) (fun X as G Qr hcf hR hT oa => ?_)
  · obtain ⟨o, k, a, b, rfl, -⟩ := h; exact Nat.le_of_ble_eq_true rfl
  obtain ⟨o, k, a, b, rfl, hC, hab, ho, hk, hQ⟩ := hT
  show WP kX10_hasValue X 0 [some (2, ((o : Nat) : Int)), some (0, k)] [] G
  have hr_k : inR k := okv_R (oa _ (by simp))
  refine s_aload_n dX10_hasValue_0 rfl (Int.natCast_nonneg _) ?_
  refine s_alv (o) (by simp) (fun al1 => ?_)
  have hk2 : gK G (o) = (19, 0) := hC.1.k (by rw [cde_v (by omega) (by omega)]; omega : cde o = 200) al1
  have hv3 : gS G o 1 = ((o + 2 : Nat) : Int) := by have h9 : (gS G o 1) = (((o % 1048576) + 2 : Nat) : Int) := hC.1.v (j := 1) (by rw [cde_v (by omega) (by omega)]; omega : cde o = 200) al1 (by rw [hk2]; exact Nat.le_of_ble_eq_true rfl); omega
  refine s_getf (ci := 11) (k := 1) (C := RX10) (T := TX10) (N := 4) (n := o) (L := 0) (t := 2) dX10_hasValue_1 rfl wi_67 m_415 (Nat.le_of_ble_eq_true rfl) rfl rfl hk2 hv3 ?_
  refine s_iload_n dX10_hasValue_4 rfl ?_
  refine s_alv (o + 2) (by simp) (fun al4 => ?_)
  have hk5 : gK G (o + 2) = (1, 10) := hC.1.k (by rw [cde_v (by omega) (by omega)]; omega : cde (o + 2) = 202) al4
  have hv6 : ((gS G (o + 2) (k : Int).toNat) = -2 ∨ 0 ≤ (gS G (o + 2) (k : Int).toNat)) ∧ (gS G (o + 2) (k : Int).toNat) ≤ 59 := hC.1.v (j := (k : Int).toNat) (by rw [cde_v (by omega) (by omega)]; omega : cde (o + 2) = 202) al4 (by rw [hk5]; show (k : Int).toNat < 10; omega)
  refine s_iald dX10_hasValue_5 hk5 (by omega) (by omega) rfl ?_
  refine s_bipush dX10_hasValue_6 rfl (by decide) ?_
  have J8 : ∀ z7 : Int, (((gS G (o + 2) ((k : Int).toNat)) = ((-2))) ∧ z7 = 0) ∨ ((¬ (gS G (o + 2) ((k : Int).toNat)) = ((-2))) ∧ z7 = 1) → WP kX10_hasValue X 16 [some (2, ((o : Nat) : Int)), some (0, k)] [(0, z7)] G := by
    intro z7 hz7
    exact s_zret hR dX10_hasValue_16 rfl (by first | exact Or.inl rfl | exact Or.inr rfl | omega) (hQ z7 (by omega))
  refine s_icmp_eq (tgt := 15) dX10_hasValue_8 (by decide) (fun c9 => ?_) (fun c9 => ?_)
  · -- 8 to 15
    refine s_iconst dX10_hasValue_15 (by decide) ?_
    exact J8 0 (Or.inl ⟨c9, rfl⟩)
  · -- 8 to 11
    refine s_iconst dX10_hasValue_11 (by decide) ?_
    refine s_goto (tgt := 16) dX10_hasValue_12 (by decide) ?_
    exact J8 1 (Or.inr (⟨c9, rfl⟩))

abbrev kX10_isDefinition : KD := (RX10, cX10_isDefinition, 2, (some .boolean), [])
def TX10_isDefinition : TR := fun as G Qr => ∃ (o : Nat) (k : Int) (a b : Nat), as = [(2, ((o : Nat) : Int)), (0, k)] ∧ CI a b G ∧ (a ≤ 2840000 ∧ b ≤ 590000) ∧ (isVr o) ∧ (0 ≤ k ∧ k < 10) ∧ ∀ (r : Int), ((r = 1 ∧ ¬ gS G (o + 2) k.toNat = -2 ∧ ¬ gS G (o + 3) k.toNat = -1) ∨ (r = 0 ∧ (gS G (o + 2) k.toNat = -2 ∨ gS G (o + 3) k.toNat = -1))) → Qr (.inl (some (0, r))) G
set_option maxHeartbeats 4000000 in
set_option maxRecDepth 100000 in
theorem gX10_isDefinition : Good kX10_isDefinition yX10_isDefinition 1 TX10_isDefinition := by
  refine good_of (by decide) rfl rfl (fun as G Qr h => ?_) (fun X as G Qr hcf hR hT oa => ?_)
  · obtain ⟨o, k, a, b, rfl, -⟩ := h; exact Nat.le_of_ble_eq_true rfl
  obtain ⟨o, k, a, b, rfl, hC, hab, ho, hk, hQ⟩ := hT
  show WP kX10_isDefinition X 0 [some (2, ((o : Nat) : Int)), some (0, k)] [] G
  have hr_k : inR k := okv_R (oa _ (by simp))
  refine s_aload_n dX10_isDefinition_0 rfl (Int.natCast_nonneg _) ?_
  refine s_iload_n dX10_isDefinition_1 rfl ?_
  refine s_alv (o) (by simp) (fun al3 => ?_)
  have hk4 : gK G (o) = (19, 0) := hC.1.k (by rw [cde_v (by omega) (by omega)]; omega : cde o = 200) al3
  refine s_callV (as := [(0, k)]) (rest := []) (n := o) (ci := 11) gX10_hasValue dX10_isDefinition_2 m_1154 m_756 m_1497 m_713 m_83 ⟨by decide, by decide, show (parseMethodDescriptor yX10_hasValue.desc).map (fun d => d.parameters.length) = some 1 from by decide +kernel⟩ (Nat.le_of_ble_eq_true rfl) (by rw [hcf]; exact Nat.le_of_ble_eq_true rfl) hk4 rfl rfl (Nat.le_of_ble_eq_true rfl) ⟨o, k, a, b, rfl, hC, hab, (by first | assumption | omega), (by first | assumption | omega), fun rr1 hp2 => ?_⟩
  show WP kX10_isDefinition X 5 [some (2, ((o : Nat) : Int)), some (0, k)] [(0, rr1)] G
  have J10 : ∀ z9 : Int, ((rr1 = 0) ∧ z9 = 0) ∨ ((¬ rr1 = 0) ∧ ((gS G (o + 3) ((k : Int).toNat)) = ((-1))) ∧ z9 = 0) ∨ ((¬ rr1 = 0) ∧ (¬ (gS G (o + 3) ((k : Int).toNat)) = ((-1))) ∧ z9 = 1) → WP kX10_isDefinition X 23 [some (2, ((o : Nat) : Int)), some (0, k)] [(0, z9)] G := by
    intro z9 hz9
    exact s_zret hR dX10_isDefinition_23 rfl (by first | exact Or.inl rfl | exact Or.inr rfl | omega) (hQ z9 (by omega))
  refine s_if_eq (tgt := 22) dX10_isDefinition_5 (by decide) (fun c11 => ?_) (fun c11 => ?_)
  · -- 5 to 22
    refine s_iconst dX10_isDefinition_22 (by decide) ?_
    exact J10 0 (Or.inl ⟨c11, rfl⟩)
  · -- 5 to 8
    refine s_aload_n dX10_isDefinition_8 rfl (Int.natCast_nonneg _) ?_
    have hv12 : gS G o 2 = ((o + 3 : Nat) : Int) := by have h9 : (gS G o 2) = (((o % 1048576) + 3 : Nat) : Int) := hC.1.v (j := 2) (by rw [cde_v (by omega) (by omega)]; omega : cde o = 200) al3 (by rw [hk4]; exact Nat.le_of_ble_eq_true rfl); omega
    refine s_getf (ci := 11) (k := 2) (C := RX10) (T := TX10) (N := 4) (n := o) (L := 0) (t := 2) dX10_isDefinition_9 rfl wi_67 m_416 (Nat.le_of_ble_eq_true rfl) rfl rfl hk4 hv12 ?_
    refine s_iload_n dX10_isDefinition_12 rfl ?_
    refine s_alv (o + 3) (by simp) (fun al13 => ?_)
    have hk14 : gK G (o + 3) = (1, 10) := hC.1.k (by rw [cde_v (by omega) (by omega)]; omega : cde (o + 3) = 203) al13
    have hv15 : -1 ≤ (gS G (o + 3) (k : Int).toNat) ∧ (gS G (o + 3) (k : Int).toNat) ≤ 119 := hC.1.v (j := (k : Int).toNat) (by rw [cde_v (by omega) (by omega)]; omega : cde (o + 3) = 203) al13 (by rw [hk14]; show (k : Int).toNat < 10; omega)
    refine s_iald dX10_isDefinition_13 hk14 (by omega) (by omega) rfl ?_
    refine s_iconst dX10_isDefinition_14 (by decide) ?_
    refine s_icmp_eq (tgt := 22) dX10_isDefinition_15 (by decide) (fun c16 => ?_) (fun c16 => ?_)
    · -- 15 to 22
      refine s_iconst dX10_isDefinition_22 (by decide) ?_
      exact J10 0 (Or.inr (Or.inl ⟨c11, c16, rfl⟩))
    · -- 15 to 18
      refine s_iconst dX10_isDefinition_18 (by decide) ?_
      refine s_goto (tgt := 23) dX10_isDefinition_19 (by decide) ?_
      exact J10 1 (Or.inr (Or.inr (⟨c11, c16, rfl⟩)))

abbrev kX10_isGhost : KD := (RX10, cX10_isGhost, 2, (some .boolean), [])
def TX10_isGhost : TR := fun as G Qr => ∃ (o : Nat) (k : Int) (a b : Nat), as = [(2, ((o : Nat) : Int)), (0, k)] ∧ CI a b G ∧ (a ≤ 2840000 ∧ b ≤ 590000) ∧ (isVr o) ∧ (0 ≤ k ∧ k < 10) ∧ ∀ (r : Int), (r = 0 ∨ r = 1) → Qr (.inl (some (0, r))) G
set_option maxHeartbeats 4000000 in
set_option maxRecDepth 100000 in
theorem gX10_isGhost : Good kX10_isGhost yX10_isGhost 0 TX10_isGhost := by
  refine good_of (by decide) rfl rfl (fun as G Qr h => ?_) (fun X as G Qr hcf hR hT oa => ?_)
  · obtain ⟨o, k, a, b, rfl, -⟩ := h; exact Nat.le_of_ble_eq_true rfl
  obtain ⟨o, k, a, b, rfl, hC, hab, ho, hk, hQ⟩ := hT
  show WP kX10_isGhost X 0 [some (2, ((o : Nat) : Int)), some (0, k)] [] G
  have hr_k : inR k := okv_R (oa _ (by simp))
  refine s_aload_n dX10_isGhost_0 rfl (Int.natCast_nonneg _) ?_
  refine s_alv (o) (by simp) (fun al1 => ?_)
  have hk2 : gK G (o) = (19, 0) := hC.1.k (by rw [cde_v (by omega) (by omega)]; omega : cde o = 200) al1
  have hv3 : gS G o 3 = ((o + 4 : Nat) : Int) := by have h9 : (gS G o 3) = (((o % 1048576) + 4 : Nat) : Int) := hC.1.v (j := 3) (by rw [cde_v (by omega) (by omega)]; omega : cde o = 200) al1 (by rw [hk2]; exact Nat.le_of_ble_eq_true rfl); omega
  refine s_getf (ci := 11) (k := 3) (C := RX10) (T := TX10) (N := 4) (n := o) (L := 0) (t := 2) dX10_isGhost_1 rfl wi_67 m_417 (Nat.le_of_ble_eq_true rfl) rfl rfl hk2 hv3 ?_
  refine s_iload_n dX10_isGhost_4 rfl ?_
  refine s_alv (o + 4) (by simp) (fun al4 => ?_)
  have hk5 : gK G (o + 4) = (1, 10) := hC.1.k (by rw [cde_v (by omega) (by omega)]; omega : cde (o + 4) = 204) al4
  have hv6 : 0 ≤ (gS G (o + 4) (k : Int).toNat) ∧ (gS G (o + 4) (k : Int).toNat) ≤ 7 := hC.1.v (j := (k : Int).toNat) (by rw [cde_v (by omega) (by omega)]; omega : cde (o + 4) = 204) al4 (by rw [hk5]; show (k : Int).toNat < 10; omega)
  refine s_iald dX10_isGhost_5 hk5 (by omega) (by omega) rfl ?_
  refine s_iconst dX10_isGhost_6 (by decide) ?_
  refine s_iand dX10_isGhost_7 ?_
  have J8 : ∀ z7 : Int, (((i_and (gS G (o + 4) ((k : Int).toNat)) 4) = 0) ∧ z7 = 0) ∨ ((¬ (i_and (gS G (o + 4) ((k : Int).toNat)) 4) = 0) ∧ z7 = 1) → WP kX10_isGhost X 16 [some (2, ((o : Nat) : Int)), some (0, k)] [(0, z7)] G := by
    intro z7 hz7
    exact s_zret hR dX10_isGhost_16 rfl (by first | exact Or.inl rfl | exact Or.inr rfl | omega) (hQ z7 (by omega))
  refine s_if_eq (tgt := 15) dX10_isGhost_8 (by decide) (fun c9 => ?_) (fun c9 => ?_)
  · -- 8 to 15
    refine s_iconst dX10_isGhost_15 (by decide) ?_
    exact J8 0 (Or.inl ⟨c9, rfl⟩)
  · -- 8 to 11
    refine s_iconst dX10_isGhost_11 (by decide) ?_
    refine s_goto (tgt := 16) dX10_isGhost_12 (by decide) ?_
    exact J8 1 (Or.inr (⟨c9, rfl⟩))

abbrev kX10_typeNames : KD := (RX10, cX10_typeNames, 3, (some .int), [])
def TX10_typeNames : TR := fun as G Qr => ∃ (o : Nat) (a b : Nat), as = [(2, ((o : Nat) : Int))] ∧ CI a b G ∧ (a ≤ 2840000 ∧ b ≤ 590000) ∧ (isVr o) ∧ ∀ (r : Int), (True) → Qr (.inl (some (0, r))) G
set_option maxHeartbeats 4000000 in
set_option maxRecDepth 100000 in
theorem gX10_typeNames : Good kX10_typeNames yX10_typeNames 0 TX10_typeNames := by
  refine good_of (by decide) rfl rfl (fun as G Qr h => ?_) (fun X as G Qr hcf hR hT oa => ?_)
  · obtain ⟨o, a, b, rfl, -⟩ := h; exact Nat.le_of_ble_eq_true rfl
  obtain ⟨o, a, b, rfl, hC, hab, ho, hQ⟩ := hT
  show WP kX10_typeNames X 0 [some (2, ((o : Nat) : Int)), none, none] [] G
  refine s_iconst dX10_typeNames_0 (by decide) ?_
  refine s_istore_n dX10_typeNames_1 (by decide) (lv' := [some (2, ((o : Nat) : Int)), some (0, 0), none]) rfl ?_
  refine s_iconst dX10_typeNames_2 (by decide) ?_
  refine s_istore_n dX10_typeNames_3 (by decide) (lv' := [some (2, ((o : Nat) : Int)), some (0, 0), some (0, 0)]) rfl ?_
  have L1 : ∀ (n1 : Nat) (s1 : Int) (k1 : Int), ((0 ≤ k1 ∧ k1 ≤ 6)) → (6 - k1).toNat < n1 → WP kX10_typeNames X 4 [some (2, ((o : Nat) : Int)), some (0, s1), some (0, k1)] [] G := by
    intro n1
    induction n1 with
    | zero => intro s1 k1 hi1 hm1; exact absurd hm1 (Nat.not_lt_zero _)
    | succ n1 ih1 =>
      intro s1 k1 hi1 hm1
      have ik1 := hi1
      refine s_iload_n dX10_typeNames_4 rfl ?_
      refine s_bipush dX10_typeNames_5 rfl (by decide) ?_
      refine s_icmp_ge (tgt := 37) dX10_typeNames_7 (by decide) (fun c2 => ?_) (fun c2 => ?_)
      · -- 7 to 37
        refine s_iload_n dX10_typeNames_37 rfl ?_
        exact s_iret hR dX10_typeNames_38 rfl (hQ s1 trivial)
      · -- 7 to 10
        refine s_iload_n dX10_typeNames_10 rfl ?_
        refine s_aload_n dX10_typeNames_11 rfl (Int.natCast_nonneg _) ?_
        refine s_alv (o) (by simp) (fun al3 => ?_)
        have hk4 : gK G (o) = (19, 0) := hC.1.k (by rw [cde_v (by omega) (by omega)]; omega : cde o = 200) al3
        have hv5 : gS G o 0 = ((o + 1 : Nat) : Int) := by have h9 : (gS G o 0) = (((o % 1048576) + 1 : Nat) : Int) := hC.1.v (j := 0) (by rw [cde_v (by omega) (by omega)]; omega : cde o = 200) al3 (by rw [hk4]; exact Nat.le_of_ble_eq_true rfl); omega
        refine s_getf (ci := 11) (k := 0) (C := RX10) (T := TX10) (N := 4) (n := o) (L := 0) (t := 2) dX10_typeNames_12 rfl wi_67 m_418 (Nat.le_of_ble_eq_true rfl) rfl rfl hk4 hv5 ?_
        refine s_iload_n dX10_typeNames_15 rfl ?_
        refine s_alv (o + 1) (by simp) (fun al6 => ?_)
        have hk7 : gK G (o + 1) = (1, 6) := hC.1.k (by rw [cde_v (by omega) (by omega)]; omega : cde (o + 1) = 201) al6
        have hv8 : -2 ≤ (gS G (o + 1) (k1 : Int).toNat) ∧ (gS G (o + 1) (k1 : Int).toNat) ≤ 59 := hC.1.v (j := (k1 : Int).toNat) (by rw [cde_v (by omega) (by omega)]; omega : cde (o + 1) = 201) al6 (by rw [hk7]; show (k1 : Int).toNat < 6; omega)
        refine s_iald dX10_typeNames_16 hk7 (by omega) (by omega) rfl ?_
        refine s_bipush dX10_typeNames_17 rfl (by decide) ?_
        have J10 : ∀ z9 : Int, ((¬ (gS G (o + 1) ((k1 : Int).toNat)) = ((-2))) ∧ z9 = i_shl 1 k1) ∨ (((gS G (o + 1) ((k1 : Int).toNat)) = ((-2))) ∧ z9 = 0) → WP kX10_typeNames X 29 [some (2, ((o : Nat) : Int)), some (0, s1), some (0, k1)] [(0, z9), (0, s1)] G := by
          intro z9 hz9
          refine s_ior dX10_typeNames_29 ?_
          refine s_istore_n dX10_typeNames_30 (by decide) (lv' := [some (2, ((o : Nat) : Int)), some (0, i_or s1 z9), some (0, k1)]) rfl ?_
          refine s_iinc dX10_typeNames_31 (v := k1) rfl (by omega) (by decide) (lv' := [some (2, ((o : Nat) : Int)), some (0, i_or s1 z9), some (0, k1 + 1)]) rfl ?_
          refine s_goto (tgt := 4) dX10_typeNames_34 (by decide) ?_
          exact ih1 (i_or s1 z9) (k1 + 1) ((by omega)) (by omega)
        refine s_icmp_ne (tgt := 26) dX10_typeNames_19 (by decide) (fun c11 => ?_) (fun c11 => ?_)
        · -- 19 to 26
          refine s_iconst dX10_typeNames_26 (by decide) ?_
          refine s_iload_n dX10_typeNames_27 rfl ?_
          refine s_ishl dX10_typeNames_28 ?_
          exact J10 _ (Or.inl ⟨c11, rfl⟩)
        · -- 19 to 22
          refine s_iconst dX10_typeNames_22 (by decide) ?_
          refine s_goto (tgt := 29) dX10_typeNames_23 (by decide) ?_
          exact J10 0 (Or.inr (⟨c11, rfl⟩))
  exact L1 _ 0 0 ((by omega)) (Nat.lt_succ_self _)

abbrev kX10_ghostNames : KD := (RX10, cX10_ghostNames, 3, (some .int), [])
def TX10_ghostNames : TR := fun as G Qr => ∃ (o : Nat) (a b : Nat), as = [(2, ((o : Nat) : Int))] ∧ CI a b G ∧ (a ≤ 2840000 ∧ b ≤ 590000) ∧ (isVr o) ∧ ∀ (r : Int), (True) → Qr (.inl (some (0, r))) G
set_option maxHeartbeats 4000000 in
set_option maxRecDepth 100000 in
theorem gX10_ghostNames : Good kX10_ghostNames yX10_ghostNames 1 TX10_ghostNames := by
  refine good_of (by decide) rfl rfl (fun as G Qr h => ?_) (fun X as G Qr hcf hR hT oa => ?_)
  · obtain ⟨o, a, b, rfl, -⟩ := h; exact Nat.le_of_ble_eq_true rfl
  obtain ⟨o, a, b, rfl, hC, hab, ho, hQ⟩ := hT
  show WP kX10_ghostNames X 0 [some (2, ((o : Nat) : Int)), none, none] [] G
  refine s_iconst dX10_ghostNames_0 (by decide) ?_
  refine s_istore_n dX10_ghostNames_1 (by decide) (lv' := [some (2, ((o : Nat) : Int)), some (0, 0), none]) rfl ?_
  refine s_iconst dX10_ghostNames_2 (by decide) ?_
  refine s_istore_n dX10_ghostNames_3 (by decide) (lv' := [some (2, ((o : Nat) : Int)), some (0, 0), some (0, 0)]) rfl ?_
  have L1 : ∀ (n1 : Nat) (s1 : Int) (k1 : Int), ((0 ≤ k1 ∧ k1 ≤ 10)) → (10 - k1).toNat < n1 → WP kX10_ghostNames X 4 [some (2, ((o : Nat) : Int)), some (0, s1), some (0, k1)] [] G := by
    intro n1
    induction n1 with
    | zero => intro s1 k1 hi1 hm1; exact absurd hm1 (Nat.not_lt_zero _)
    | succ n1 ih1 =>
      intro s1 k1 hi1 hm1
      have ik1 := hi1
      refine s_iload_n dX10_ghostNames_4 rfl ?_
      refine s_bipush dX10_ghostNames_5 rfl (by decide) ?_
      refine s_icmp_ge (tgt := 42) dX10_ghostNames_7 (by decide) (fun c2 => ?_) (fun c2 => ?_)
      · -- 7 to 42
        refine s_iload_n dX10_ghostNames_42 rfl ?_
        exact s_iret hR dX10_ghostNames_43 rfl (hQ s1 trivial)
      · -- 7 to 10
        refine s_iload_n dX10_ghostNames_10 rfl ?_
        refine s_aload_n dX10_ghostNames_11 rfl (Int.natCast_nonneg _) ?_
        refine s_iload_n dX10_ghostNames_12 rfl ?_
        refine s_alv (o) (by simp) (fun al5 => ?_)
        have hk6 : gK G (o) = (19, 0) := hC.1.k (by rw [cde_v (by omega) (by omega)]; omega : cde o = 200) al5
        refine s_callV (as := [(0, k1)]) (rest := [(0, s1)]) (n := o) (ci := 11) gX10_hasValue dX10_ghostNames_13 m_1154 m_756 m_1497 m_713 m_83 ⟨by decide, by decide, show (parseMethodDescriptor yX10_hasValue.desc).map (fun d => d.parameters.length) = some 1 from by decide +kernel⟩ (Nat.le_of_ble_eq_true rfl) (by rw [hcf]; exact Nat.le_of_ble_eq_true rfl) hk6 rfl rfl (Nat.le_of_ble_eq_true rfl) ⟨o, k1, a, b, rfl, hC, hab, (by first | assumption | omega), (by first | assumption | omega), fun rr3 hp4 => ?_⟩
        show WP kX10_ghostNames X 16 [some (2, ((o : Nat) : Int)), some (0, s1), some (0, k1)] [(0, rr3), (0, s1)] G
        refine s_if_eq (tgt := 33) dX10_ghostNames_16 (by decide) (fun c7 => ?_) (fun c7 => ?_)
        · -- 16 to 33
          refine s_iconst dX10_ghostNames_33 (by decide) ?_
          refine s_ior dX10_ghostNames_34 ?_
          refine s_istore_n dX10_ghostNames_35 (by decide) (lv' := [some (2, ((o : Nat) : Int)), some (0, i_or s1 0), some (0, k1)]) rfl ?_
          refine s_iinc dX10_ghostNames_36 (v := k1) rfl (by omega) (by decide) (lv' := [some (2, ((o : Nat) : Int)), some (0, i_or s1 0), some (0, k1 + 1)]) rfl ?_
          refine s_goto (tgt := 4) dX10_ghostNames_39 (by decide) ?_
          exact ih1 (i_or s1 0) (k1 + 1) ((by omega)) (by omega)
        · -- 16 to 19
          refine s_aload_n dX10_ghostNames_19 rfl (Int.natCast_nonneg _) ?_
          refine s_iload_n dX10_ghostNames_20 rfl ?_
          refine s_callV (as := [(0, k1)]) (rest := [(0, s1)]) (n := o) (ci := 11) gX10_isGhost dX10_ghostNames_21 m_1155 m_759 m_1499 m_713 m_86 ⟨by decide, by decide, show (parseMethodDescriptor yX10_isGhost.desc).map (fun d => d.parameters.length) = some 1 from by decide +kernel⟩ (Nat.le_of_ble_eq_true rfl) (by rw [hcf]; exact Nat.le_of_ble_eq_true rfl) hk6 rfl rfl (Nat.le_of_ble_eq_true rfl) ⟨o, k1, a, b, rfl, hC, hab, (by first | assumption | omega), (by first | assumption | omega), fun rr8 hp9 => ?_⟩
          show WP kX10_ghostNames X 24 [some (2, ((o : Nat) : Int)), some (0, s1), some (0, k1)] [(0, rr8), (0, s1)] G
          have J11 : ∀ z10 : Int, ((rr8 = 0) ∧ z10 = 0) ∨ ((¬ rr8 = 0) ∧ z10 = i_shl 1 k1) → WP kX10_ghostNames X 34 [some (2, ((o : Nat) : Int)), some (0, s1), some (0, k1)] [(0, z10), (0, s1)] G := by
            intro z10 hz10
            refine s_ior dX10_ghostNames_34 ?_
            refine s_istore_n dX10_ghostNames_35 (by decide) (lv' := [some (2, ((o : Nat) : Int)), some (0, i_or s1 z10), some (0, k1)]) rfl ?_
            refine s_iinc dX10_ghostNames_36 (v := k1) rfl (by omega) (by decide) (lv' := [some (2, ((o : Nat) : Int)), some (0, i_or s1 z10), some (0, k1 + 1)]) rfl ?_
            refine s_goto (tgt := 4) dX10_ghostNames_39 (by decide) ?_
            exact ih1 (i_or s1 z10) (k1 + 1) ((by omega)) (by omega)
          refine s_if_eq (tgt := 33) dX10_ghostNames_24 (by decide) (fun c12 => ?_) (fun c12 => ?_)
          · -- 24 to 33
            refine s_iconst dX10_ghostNames_33 (by decide) ?_
            exact J11 0 (Or.inl ⟨c12, rfl⟩)
          · -- 24 to 27
            refine s_iconst dX10_ghostNames_27 (by decide) ?_
            refine s_iload_n dX10_ghostNames_28 rfl ?_
            refine s_ishl dX10_ghostNames_29 ?_
            refine s_goto (tgt := 34) dX10_ghostNames_30 (by decide) ?_
            exact J11 _ (Or.inr (⟨c12, rfl⟩))
  exact L1 _ 0 0 ((by omega)) (Nat.lt_succ_self _)

abbrev kX4_isByItself : KD := (RX4, cX4_isByItself, 1, (some .boolean), [])
def TX4_isByItself : TR := fun as G Qr => ∃ (o : Nat) (a b : Nat), as = [(2, ((o : Nat) : Int))] ∧ CI a b G ∧ (a ≤ 2840000 ∧ b ≤ 590000) ∧ (isNd o) ∧ ∀ (r : Int), ((r = 1 ∧ (¬ gS G o 5 = 0 ∨ gS G o 1 = 3)) ∨ (r = 0 ∧ gS G o 5 = 0 ∧ ¬ gS G o 1 = 3)) → Qr (.inl (some (0, r))) G
set_option maxHeartbeats 4000000 in
set_option maxRecDepth 100000 in
theorem gX4_isByItself : Good kX4_isByItself yX4_isByItself 0 TX4_isByItself := by
  refine good_of (by decide) rfl rfl (fun as G Qr h => ?_) (fun X as G Qr hcf hR hT oa => ?_)
  · obtain ⟨o, a, b, rfl, -⟩ := h; exact Nat.le_of_ble_eq_true rfl
  obtain ⟨o, a, b, rfl, hC, hab, ho, hQ⟩ := hT
  show WP kX4_isByItself X 0 [some (2, ((o : Nat) : Int))] [] G
  refine s_aload_n dX4_isByItself_0 rfl (Int.natCast_nonneg _) ?_
  refine s_alv (o) (by simp) (fun al1 => ?_)
  have hk2 : gK G (o) = (13, 0) := hC.1.k (by rw [cde_n (by omega) (by omega)]; omega : cde o = 100) al1
  have hv3 : 0 ≤ (gS G o 5) ∧ (gS G o 5) ≤ 1 := hC.1.v (j := 5) (by rw [cde_n (by omega) (by omega)]; omega : cde o = 100) al1 (by rw [hk2]; exact Nat.le_of_ble_eq_true rfl)
  refine s_getf (ci := 5) (k := 5) (C := RX4) (T := TX4) (N := 14) (n := o) (L := 0) (t := 0) dX4_isByItself_1 rfl wi_72 m_634 (Nat.le_of_ble_eq_true rfl) rfl rfl hk2 rfl ?_
  have J6 : ∀ z5 : Int, ((¬ (gS G o 5) = 0) ∧ z5 = 1) ∨ (((gS G o 5) = 0) ∧ (¬ (gS G o 1) = ((3 : Int))) ∧ z5 = 0) ∨ (((gS G o 5) = 0) ∧ ((gS G o 1) = ((3 : Int))) ∧ z5 = 1) → WP kX4_isByItself X 20 [some (2, ((o : Nat) : Int))] [(0, z5)] G := by
    intro z5 hz5
    exact s_zret hR dX4_isByItself_20 rfl (by first | exact Or.inl rfl | exact Or.inr rfl | omega) (hQ z5 (by omega))
  refine s_if_ne (tgt := 15) dX4_isByItself_4 (by decide) (fun c7 => ?_) (fun c7 => ?_)
  · -- 4 to 15
    refine s_iconst dX4_isByItself_15 (by decide) ?_
    refine s_goto (tgt := 20) dX4_isByItself_16 (by decide) ?_
    exact J6 1 (Or.inl ⟨c7, rfl⟩)
  · -- 4 to 7
    refine s_aload_n dX4_isByItself_7 rfl (Int.natCast_nonneg _) ?_
    have hv8 : 0 ≤ (gS G o 1) ∧ (gS G o 1) ≤ 6 := hC.1.v (j := 1) (by rw [cde_n (by omega) (by omega)]; omega : cde o = 100) al1 (by rw [hk2]; exact Nat.le_of_ble_eq_true rfl)
    refine s_getf (ci := 5) (k := 1) (C := RX4) (T := TX4) (N := 14) (n := o) (L := 0) (t := 0) dX4_isByItself_8 rfl wi_72 m_630 (Nat.le_of_ble_eq_true rfl) rfl rfl hk2 rfl ?_
    refine s_iconst dX4_isByItself_11 (by decide) ?_
    refine s_icmp_ne (tgt := 19) dX4_isByItself_12 (by decide) (fun c9 => ?_) (fun c9 => ?_)
    · -- 12 to 19
      refine s_iconst dX4_isByItself_19 (by decide) ?_
      exact J6 0 (Or.inr (Or.inl ⟨c7, c9, rfl⟩))
    · -- 12 to 15
      refine s_iconst dX4_isByItself_15 (by decide) ?_
      refine s_goto (tgt := 20) dX4_isByItself_16 (by decide) ?_
      exact J6 1 (Or.inr (Or.inr (⟨c7, c9, rfl⟩)))

abbrev kX5_latestOf : KD := (RX5, cX5_latestOf, 2, (some (.object "MixinUnits$Version")), [])
def TX5_latestOf : TR := fun as G Qr => ∃ (u : Int) (a b : Nat), as = [(2, ((327681 : Nat) : Int)), (0, u)] ∧ CI a b G ∧ (a ≤ 2840000 ∧ b ≤ 590000) ∧ (0 ≤ u ∧ u < 8) ∧ (1 ≤ gS G 327710 u.toNat) ∧ ∀ (r : Nat), ((r : Int) = 131072 + 64 * (5 * u + gS G 327710 u.toNat - 1)) → Qr (.inl (some (2, (r : Int)))) G
set_option maxHeartbeats 4000000 in
set_option maxRecDepth 100000 in
theorem gX5_latestOf : Good kX5_latestOf yX5_latestOf 0 TX5_latestOf := by
  refine good_of (by decide) rfl rfl (fun as G Qr h => ?_) (fun X as G Qr hcf hR hT oa => ?_)
  · obtain ⟨u, a, b, rfl, -⟩ := h; exact Nat.le_of_ble_eq_true rfl
  obtain ⟨u, a, b, rfl, hC, hab, hu, hc1, hQ⟩ := hT
  show WP kX5_latestOf X 0 [some (2, ((327681 : Nat) : Int)), some (0, u)] [] G
  have hr_u : inR u := okv_R (oa _ (by simp))
  refine s_aload_n dX5_latestOf_0 rfl (Int.natCast_nonneg _) ?_
  refine s_alv (327681) (by simp) (fun al1 => ?_)
  have hk2 : gK G (327681) = (14, 0) := hC.1.k (by decide : cde 327681 = 501) al1
  have hv3 : gS G 327681 13 = ((327709 : Nat) : Int) := by have h9 : (gS G 327681 13) = 327709 := hC.1.v (j := 13) (by decide : cde 327681 = 501) al1 (by rw [hk2]; exact Nat.le_of_ble_eq_true rfl); omega
  refine s_getf (ci := 6) (k := 13) (C := RX5) (T := TX5) (N := 18) (n := 327681) (L := 0) (t := 2) dX5_latestOf_1 rfl wi_73 m_654 (Nat.le_of_ble_eq_true rfl) rfl rfl hk2 hv3 ?_
  refine s_iload_n dX5_latestOf_4 rfl ?_
  refine s_iconst dX5_latestOf_5 (by decide) ?_
  refine s_imul dX5_latestOf_6 (by omega) ?_
  refine s_aload_n dX5_latestOf_7 rfl (Int.natCast_nonneg _) ?_
  have hv4 : gS G 327681 14 = ((327710 : Nat) : Int) := by have h9 : (gS G 327681 14) = 327710 := hC.1.v (j := 14) (by decide : cde 327681 = 501) al1 (by rw [hk2]; exact Nat.le_of_ble_eq_true rfl); omega
  refine s_getf (ci := 6) (k := 14) (C := RX5) (T := TX5) (N := 18) (n := 327681) (L := 0) (t := 2) dX5_latestOf_8 rfl wi_73 m_655 (Nat.le_of_ble_eq_true rfl) rfl rfl hk2 hv4 ?_
  refine s_iload_n dX5_latestOf_11 rfl ?_
  refine s_alv (327710) (by simp) (fun al5 => ?_)
  have hk6 : gK G (327710) = (1, 8) := hC.1.k (by decide : cde 327710 = 530) al5
  have hv7 : 0 ≤ (gS G 327710 (u : Int).toNat) ∧ (gS G 327710 (u : Int).toNat) ≤ 5 := hC.1.v (j := (u : Int).toNat) (by decide : cde 327710 = 530) al5 (by rw [hk6]; show (u : Int).toNat < 8; omega)
  refine s_iald dX5_latestOf_12 hk6 (by omega) (by omega) rfl ?_
  refine s_iadd dX5_latestOf_13 (by omega) ?_
  refine s_iconst dX5_latestOf_14 (by decide) ?_
  refine s_isub dX5_latestOf_15 (by omega) ?_
  refine s_alv (327709) (by simp) (fun al8 => ?_)
  have hk9 : gK G (327709) = (5, 40) := hC.1.k (by decide : cde 327709 = 529) al8
  have hv11b : (gS G 327709 (((u * 5) + (gS G 327710 ((u : Int).toNat))) - 1 : Int).toNat) = ((131072 + 64 * ((((u * 5) + (gS G 327710 ((u : Int).toNat))) - 1 : Int).toNat) : Nat) : Int) := hC.1.v (j := (((u * 5) + (gS G 327710 ((u : Int).toNat))) - 1 : Int).toNat) (by decide : cde 327709 = 529) al8 (by rw [hk9]; show (((u * 5) + (gS G 327710 ((u : Int).toNat))) - 1 : Int).toNat < 40; omega)
  obtain ⟨q10, hv11⟩ : ∃ q : Nat, gS G 327709 (((u * 5) + (gS G 327710 ((u : Int).toNat))) - 1 : Int).toNat = (q : Int) := ⟨(gS G 327709 (((u * 5) + (gS G 327710 ((u : Int).toNat))) - 1 : Int).toNat).toNat, by omega⟩
  rw [hv11] at hv11b
  refine s_aald5 dX5_latestOf_16 hk9 (by omega) (by omega) hv11 ?_
  exact s_aret hR dX5_latestOf_17 rfl (by first | exact Or.inl ⟨_, rfl⟩ | exact Or.inr ⟨_, rfl⟩) (hQ q10 (by omega))

abbrev kX5_versionNumberOf : KD := (RX5, cX5_versionNumberOf, 2, (some .int), [])
def TX5_versionNumberOf : TR := fun as G Qr => ∃ (o : Nat) (a b : Nat), as = [(2, ((327681 : Nat) : Int)), (2, ((o : Nat) : Int))] ∧ CI a b G ∧ (a ≤ 2840000 ∧ b ≤ 590000) ∧ (isNd o) ∧ (gS G o 3 ≤ 7) ∧ (-1 ≤ gS G o 4) ∧ (gS G o 4 < gS G 327710 (gS G o 3).toNat) ∧ (1 ≤ gS G 327710 (gS G o 3).toNat) ∧ (gS G 327710 (gS G o 3).toNat ≤ 5) ∧ ∀ (r : Int), ((0 ≤ gS G o 4 ∧ r = gS G o 4) ∨ (gS G o 4 < 0 ∧ r = gS G 327710 (gS G o 3).toNat - 1)) → Qr (.inl (some (0, r))) G
set_option maxHeartbeats 4000000 in
set_option maxRecDepth 100000 in
theorem gX5_versionNumberOf : Good kX5_versionNumberOf yX5_versionNumberOf 0 TX5_versionNumberOf := by
  refine good_of (by decide) rfl rfl (fun as G Qr h => ?_) (fun X as G Qr hcf hR hT oa => ?_)
  · obtain ⟨o, a, b, rfl, -⟩ := h; exact Nat.le_of_ble_eq_true rfl
  obtain ⟨o, a, b, rfl, hC, hab, ho, hnm, hto, hct, hc1, hc5, hQ⟩ := hT
  show WP kX5_versionNumberOf X 0 [some (2, ((327681 : Nat) : Int)), some (2, ((o : Nat) : Int))] [] G
  refine s_aload_n dX5_versionNumberOf_0 rfl (Int.natCast_nonneg _) ?_
  refine s_alv (o) (by simp) (fun al1 => ?_)
  have hk2 : gK G (o) = (13, 0) := hC.1.k (by rw [cde_n (by omega) (by omega)]; omega : cde o = 100) al1
  have hv3 : -1 ≤ (gS G o 4) ∧ (gS G o 4) ≤ 9 := hC.1.v (j := 4) (by rw [cde_n (by omega) (by omega)]; omega : cde o = 100) al1 (by rw [hk2]; exact Nat.le_of_ble_eq_true rfl)
  refine s_getf (ci := 5) (k := 4) (C := RX4) (T := TX4) (N := 14) (n := o) (L := 0) (t := 0) dX5_versionNumberOf_1 rfl wi_72 m_638 (Nat.le_of_ble_eq_true rfl) rfl rfl hk2 rfl ?_
  have J13 : ∀ z12 : Int, (((gS G o 4) < 0) ∧ z12 = (gS G 327710 ((gS G o 3 : Int).toNat)) - 1) ∨ ((¬ (gS G o 4) < 0) ∧ z12 = gS G o 4) → WP kX5_versionNumberOf X 25 [some (2, ((327681 : Nat) : Int)), some (2, ((o : Nat) : Int))] [(0, z12)] G := by
    intro z12 hz12
    exact s_iret hR dX5_versionNumberOf_25 rfl (hQ z12 (by omega))
  refine s_if_lt (tgt := 14) dX5_versionNumberOf_4 (by decide) (fun c14 => ?_) (fun c14 => ?_)
  · -- 4 to 14
    refine s_aload_n dX5_versionNumberOf_14 rfl (Int.natCast_nonneg _) ?_
    refine s_alv (327681) (by simp) (fun al15 => ?_)
    have hk16 : gK G (327681) = (14, 0) := hC.1.k (by decide : cde 327681 = 501) al15
    have hv17 : gS G 327681 14 = ((327710 : Nat) : Int) := by have h9 : (gS G 327681 14) = 327710 := hC.1.v (j := 14) (by decide : cde 327681 = 501) al15 (by rw [hk16]; exact Nat.le_of_ble_eq_true rfl); omega
    refine s_getf (ci := 6) (k := 14) (C := RX5) (T := TX5) (N := 18) (n := 327681) (L := 0) (t := 2) dX5_versionNumberOf_15 rfl wi_73 m_655 (Nat.le_of_ble_eq_true rfl) rfl rfl hk16 hv17 ?_
    refine s_aload_n dX5_versionNumberOf_18 rfl (Int.natCast_nonneg _) ?_
    have hv18 : 0 ≤ (gS G o 3) ∧ (gS G o 3) ≤ 9 := hC.1.v (j := 3) (by rw [cde_n (by omega) (by omega)]; omega : cde o = 100) al1 (by rw [hk2]; exact Nat.le_of_ble_eq_true rfl)
    refine s_getf (ci := 5) (k := 3) (C := RX4) (T := TX4) (N := 14) (n := o) (L := 0) (t := 0) dX5_versionNumberOf_19 rfl wi_72 m_639 (Nat.le_of_ble_eq_true rfl) rfl rfl hk2 rfl ?_
    refine s_alv (327710) (by simp) (fun al19 => ?_)
    have hk20 : gK G (327710) = (1, 8) := hC.1.k (by decide : cde 327710 = 530) al19
    have hv21 : 0 ≤ (gS G 327710 (gS G o 3 : Int).toNat) ∧ (gS G 327710 (gS G o 3 : Int).toNat) ≤ 5 := hC.1.v (j := (gS G o 3 : Int).toNat) (by decide : cde 327710 = 530) al19 (by rw [hk20]; show (gS G o 3 : Int).toNat < 8; omega)
    refine s_iald dX5_versionNumberOf_22 hk20 (by omega) (by omega) rfl ?_
    refine s_iconst dX5_versionNumberOf_23 (by decide) ?_
    refine s_isub dX5_versionNumberOf_24 (by omega) ?_
    exact J13 _ (Or.inl ⟨c14, rfl⟩)
  · -- 4 to 7
    refine s_aload_n dX5_versionNumberOf_7 rfl (Int.natCast_nonneg _) ?_
    refine s_getf (ci := 5) (k := 4) (C := RX4) (T := TX4) (N := 14) (n := o) (L := 0) (t := 0) dX5_versionNumberOf_8 rfl wi_72 m_638 (Nat.le_of_ble_eq_true rfl) rfl rfl hk2 rfl ?_
    refine s_goto (tgt := 25) dX5_versionNumberOf_11 (by decide) ?_
    exact J13 _ (Or.inr (⟨c14, rfl⟩))

abbrev kX5_versionOf : KD := (RX5, cX5_versionOf, 2, (some (.object "MixinUnits$Version")), [])
def TX5_versionOf : TR := fun as G Qr => ∃ (o : Nat) (a b : Nat), as = [(2, ((327681 : Nat) : Int)), (2, ((o : Nat) : Int))] ∧ CI a b G ∧ (a ≤ 2840000 ∧ b ≤ 590000) ∧ (isNd o) ∧ (gS G o 3 ≤ 7) ∧ (-1 ≤ gS G o 4) ∧ (gS G o 4 < gS G 327710 (gS G o 3).toNat) ∧ (1 ≤ gS G 327710 (gS G o 3).toNat) ∧ (gS G 327710 (gS G o 3).toNat ≤ 5) ∧ ∀ (r : Nat), (isVr r ∧ (r : Int) = 131072 + 64 * (5 * gS G o 3 + (if 0 ≤ gS G o 4 then gS G o 4 else gS G 327710 (gS G o 3).toNat - 1))) → Qr (.inl (some (2, (r : Int)))) G
set_option maxHeartbeats 4000000 in
set_option maxRecDepth 100000 in
theorem gX5_versionOf : Good kX5_versionOf yX5_versionOf 1 TX5_versionOf := by
  refine good_of (by decide) rfl rfl (fun as G Qr h => ?_) (fun X as G Qr hcf hR hT oa => ?_)
  · obtain ⟨o, a, b, rfl, -⟩ := h; exact Nat.le_of_ble_eq_true rfl
  obtain ⟨o, a, b, rfl, hC, hab, ho, hnm, hto, hct, hc1, hc5, hQ⟩ := hT
  show WP kX5_versionOf X 0 [some (2, ((327681 : Nat) : Int)), some (2, ((o : Nat) : Int))] [] G
  refine s_aload_n dX5_versionOf_0 rfl (Int.natCast_nonneg _) ?_
  refine s_alv (327681) (by simp) (fun al1 => ?_)
  have hk2 : gK G (327681) = (14, 0) := hC.1.k (by decide : cde 327681 = 501) al1
  have hv3 : gS G 327681 13 = ((327709 : Nat) : Int) := by have h9 : (gS G 327681 13) = 327709 := hC.1.v (j := 13) (by decide : cde 327681 = 501) al1 (by rw [hk2]; exact Nat.le_of_ble_eq_true rfl); omega
  refine s_getf (ci := 6) (k := 13) (C := RX5) (T := TX5) (N := 18) (n := 327681) (L := 0) (t := 2) dX5_versionOf_1 rfl wi_73 m_654 (Nat.le_of_ble_eq_true rfl) rfl rfl hk2 hv3 ?_
  refine s_aload_n dX5_versionOf_4 rfl (Int.natCast_nonneg _) ?_
  refine s_alv (o) (by simp) (fun al4 => ?_)
  have hk5 : gK G (o) = (13, 0) := hC.1.k (by rw [cde_n (by omega) (by omega)]; omega : cde o = 100) al4
  have hv6 : 0 ≤ (gS G o 3) ∧ (gS G o 3) ≤ 9 := hC.1.v (j := 3) (by rw [cde_n (by omega) (by omega)]; omega : cde o = 100) al4 (by rw [hk5]; exact Nat.le_of_ble_eq_true rfl)
  refine s_getf (ci := 5) (k := 3) (C := RX4) (T := TX4) (N := 14) (n := o) (L := 0) (t := 0) dX5_versionOf_5 rfl wi_72 m_639 (Nat.le_of_ble_eq_true rfl) rfl rfl hk5 rfl ?_
  refine s_iconst dX5_versionOf_8 (by decide) ?_
  refine s_imul dX5_versionOf_9 (by omega) ?_
  refine s_aload_n dX5_versionOf_10 rfl (Int.natCast_nonneg _) ?_
  refine s_aload_n dX5_versionOf_11 rfl (Int.natCast_nonneg _) ?_
  refine s_callV (as := [(2, ((o : Nat) : Int))]) (rest := [(0, (gS G o 3) * 5), (2, ((327709 : Nat) : Int))]) (n := 327681) (ci := 6) gX5_versionNumberOf dX5_versionOf_12 m_1391 m_983 m_1708 m_719 m_331 ⟨by decide, by decide, show (parseMethodDescriptor yX5_versionNumberOf.desc).map (fun d => d.parameters.length) = some 1 from by decide +kernel⟩ (Nat.le_of_ble_eq_true rfl) (by rw [hcf]; exact Nat.le_of_ble_eq_true rfl) hk2 rfl rfl (Nat.le_of_ble_eq_true rfl) ⟨o, a, b, rfl, hC, hab, (by first | assumption | omega), (by first | assumption | omega), (by first | assumption | omega), (by first | assumption | omega), (by first | assumption | omega), (by first | assumption | omega), fun rr7 hp8 => ?_⟩
  show WP kX5_versionOf X 15 [some (2, ((327681 : Nat) : Int)), some (2, ((o : Nat) : Int))] [(0, rr7), (0, (gS G o 3) * 5), (2, ((327709 : Nat) : Int))] G
  refine s_iadd dX5_versionOf_15 (by omega) ?_
  refine s_alv (327709) (by simp) (fun al9 => ?_)
  have hk10 : gK G (327709) = (5, 40) := hC.1.k (by decide : cde 327709 = 529) al9
  have hv12b : (gS G 327709 (((gS G o 3) * 5) + rr7 : Int).toNat) = ((131072 + 64 * ((((gS G o 3) * 5) + rr7 : Int).toNat) : Nat) : Int) := hC.1.v (j := (((gS G o 3) * 5) + rr7 : Int).toNat) (by decide : cde 327709 = 529) al9 (by rw [hk10]; show (((gS G o 3) * 5) + rr7 : Int).toNat < 40; omega)
  obtain ⟨q11, hv12⟩ : ∃ q : Nat, gS G 327709 (((gS G o 3) * 5) + rr7 : Int).toNat = (q : Int) := ⟨(gS G 327709 (((gS G o 3) * 5) + rr7 : Int).toNat).toNat, by omega⟩
  rw [hv12] at hv12b
  refine s_aald5 dX5_versionOf_16 hk10 (by omega) (by omega) hv12 ?_
  exact s_aret hR dX5_versionOf_17 rfl (by first | exact Or.inl ⟨_, rfl⟩ | exact Or.inr ⟨_, rfl⟩) (hQ q11 ⟨by omega, by split <;> omega⟩)

abbrev kX5_weightOf : KD := (RX5, cX5_weightOf, 4, (some .int), [])
def TX5_weightOf : TR := fun as G Qr => ∃ (x y z : Int) (a b : Nat), as = [(2, ((327681 : Nat) : Int)), (0, x), (0, y), (0, z)] ∧ CI a b G ∧ (a ≤ 2840000 ∧ b ≤ 590000) ∧ (0 ≤ x ∧ x < 120) ∧ (y < 120) ∧ (z < 120) ∧ ∀ (r : Int), (r = 1 + gS G 327705 x.toNat + (if y < 0 then 0 else gS G 327705 y.toNat) + (if z < 0 then 0 else gS G 327705 z.toNat)) → Qr (.inl (some (0, r))) G
set_option maxHeartbeats 4000000 in
set_option maxRecDepth 100000 in
theorem gX5_weightOf : Good kX5_weightOf yX5_weightOf 0 TX5_weightOf := by
  refine good_of (by decide) rfl rfl (fun as G Qr h => ?_) (fun X as G Qr hcf hR hT oa => ?_)
  · obtain ⟨x, y, z, a, b, rfl, -⟩ := h; exact Nat.le_of_ble_eq_true rfl
  obtain ⟨x, y, z, a, b, rfl, hC, hab, hx, hy, hz, hQ⟩ := hT
  show WP kX5_weightOf X 0 [some (2, ((327681 : Nat) : Int)), some (0, x), some (0, y), some (0, z)] [] G
  have hr_x : inR x := okv_R (oa _ (by simp))
  have hr_y : inR y := okv_R (oa _ (by simp))
  have hr_z : inR z := okv_R (oa _ (by simp))
  refine s_iconst dX5_weightOf_0 (by decide) ?_
  refine s_aload_n dX5_weightOf_1 rfl (Int.natCast_nonneg _) ?_
  refine s_alv (327681) (by simp) (fun al1 => ?_)
  have hk2 : gK G (327681) = (14, 0) := hC.1.k (by decide : cde 327681 = 501) al1
  have hv3 : gS G 327681 9 = ((327705 : Nat) : Int) := by have h9 : (gS G 327681 9) = 327705 := hC.1.v (j := 9) (by decide : cde 327681 = 501) al1 (by rw [hk2]; exact Nat.le_of_ble_eq_true rfl); omega
  refine s_getf (ci := 6) (k := 9) (C := RX5) (T := TX5) (N := 18) (n := 327681) (L := 0) (t := 2) dX5_weightOf_2 rfl wi_73 m_651 (Nat.le_of_ble_eq_true rfl) rfl rfl hk2 hv3 ?_
  refine s_iload_n dX5_weightOf_5 rfl ?_
  refine s_alv (327705) (by simp) (fun al4 => ?_)
  have hk5 : gK G (327705) = (1, 120) := hC.1.k (by decide : cde 327705 = 525) al4
  have hv6 : 0 ≤ (gS G 327705 (x : Int).toNat) ∧ (gS G 327705 (x : Int).toNat) ≤ 12 := hC.1.v (j := (x : Int).toNat) (by decide : cde 327705 = 525) al4 (by rw [hk5]; show (x : Int).toNat < 120; omega)
  refine s_iald dX5_weightOf_6 hk5 (by omega) (by omega) rfl ?_
  refine s_iadd dX5_weightOf_7 (by omega) ?_
  refine s_iload_n dX5_weightOf_8 rfl ?_
  refine s_if_ge (tgt := 16) dX5_weightOf_9 (by decide) (fun c7 => ?_) (fun c7 => ?_)
  · -- 9 to 16
    refine s_aload_n dX5_weightOf_16 rfl (Int.natCast_nonneg _) ?_
    have hv8 : gS G 327681 9 = ((327705 : Nat) : Int) := by have h9 : (gS G 327681 9) = 327705 := hC.1.v (j := 9) (by decide : cde 327681 = 501) al1 (by rw [hk2]; exact Nat.le_of_ble_eq_true rfl); omega
    refine s_getf (ci := 6) (k := 9) (C := RX5) (T := TX5) (N := 18) (n := 327681) (L := 0) (t := 2) dX5_weightOf_17 rfl wi_73 m_651 (Nat.le_of_ble_eq_true rfl) rfl rfl hk2 hv8 ?_
    refine s_iload_n dX5_weightOf_20 rfl ?_
    have hv9 : 0 ≤ (gS G 327705 (y : Int).toNat) ∧ (gS G 327705 (y : Int).toNat) ≤ 12 := hC.1.v (j := (y : Int).toNat) (by decide : cde 327705 = 525) al4 (by rw [hk5]; show (y : Int).toNat < 120; omega)
    refine s_iald dX5_weightOf_21 hk5 (by omega) (by omega) rfl ?_
    refine s_iadd dX5_weightOf_22 (by omega) ?_
    refine s_iload_n dX5_weightOf_23 rfl ?_
    refine s_if_ge (tgt := 31) dX5_weightOf_24 (by decide) (fun c10 => ?_) (fun c10 => ?_)
    · -- 24 to 31
      refine s_aload_n dX5_weightOf_31 rfl (Int.natCast_nonneg _) ?_
      have hv11 : gS G 327681 9 = ((327705 : Nat) : Int) := by have h9 : (gS G 327681 9) = 327705 := hC.1.v (j := 9) (by decide : cde 327681 = 501) al1 (by rw [hk2]; exact Nat.le_of_ble_eq_true rfl); omega
      refine s_getf (ci := 6) (k := 9) (C := RX5) (T := TX5) (N := 18) (n := 327681) (L := 0) (t := 2) dX5_weightOf_32 rfl wi_73 m_651 (Nat.le_of_ble_eq_true rfl) rfl rfl hk2 hv11 ?_
      refine s_iload_n dX5_weightOf_35 rfl ?_
      have hv12 : 0 ≤ (gS G 327705 (z : Int).toNat) ∧ (gS G 327705 (z : Int).toNat) ≤ 12 := hC.1.v (j := (z : Int).toNat) (by decide : cde 327705 = 525) al4 (by rw [hk5]; show (z : Int).toNat < 120; omega)
      refine s_iald dX5_weightOf_36 hk5 (by omega) (by omega) rfl ?_
      refine s_iadd dX5_weightOf_37 (by omega) ?_
      exact s_iret hR dX5_weightOf_38 rfl (hQ (((1 + (gS G 327705 ((x : Int).toNat))) + (gS G 327705 ((y : Int).toNat))) + (gS G 327705 ((z : Int).toNat))) (by (repeat' split) <;> omega))
    · -- 24 to 27
      refine s_iconst dX5_weightOf_27 (by decide) ?_
      refine s_goto (tgt := 37) dX5_weightOf_28 (by decide) ?_
      refine s_iadd dX5_weightOf_37 (by omega) ?_
      exact s_iret hR dX5_weightOf_38 rfl (hQ (((1 + (gS G 327705 ((x : Int).toNat))) + (gS G 327705 ((y : Int).toNat))) + 0) (by (repeat' split) <;> omega))
  · -- 9 to 12
    refine s_iconst dX5_weightOf_12 (by decide) ?_
    refine s_goto (tgt := 22) dX5_weightOf_13 (by decide) ?_
    refine s_iadd dX5_weightOf_22 (by omega) ?_
    refine s_iload_n dX5_weightOf_23 rfl ?_
    refine s_if_ge (tgt := 31) dX5_weightOf_24 (by decide) (fun c13 => ?_) (fun c13 => ?_)
    · -- 24 to 31
      refine s_aload_n dX5_weightOf_31 rfl (Int.natCast_nonneg _) ?_
      have hv14 : gS G 327681 9 = ((327705 : Nat) : Int) := by have h9 : (gS G 327681 9) = 327705 := hC.1.v (j := 9) (by decide : cde 327681 = 501) al1 (by rw [hk2]; exact Nat.le_of_ble_eq_true rfl); omega
      refine s_getf (ci := 6) (k := 9) (C := RX5) (T := TX5) (N := 18) (n := 327681) (L := 0) (t := 2) dX5_weightOf_32 rfl wi_73 m_651 (Nat.le_of_ble_eq_true rfl) rfl rfl hk2 hv14 ?_
      refine s_iload_n dX5_weightOf_35 rfl ?_
      have hv15 : 0 ≤ (gS G 327705 (z : Int).toNat) ∧ (gS G 327705 (z : Int).toNat) ≤ 12 := hC.1.v (j := (z : Int).toNat) (by decide : cde 327705 = 525) al4 (by rw [hk5]; show (z : Int).toNat < 120; omega)
      refine s_iald dX5_weightOf_36 hk5 (by omega) (by omega) rfl ?_
      refine s_iadd dX5_weightOf_37 (by omega) ?_
      exact s_iret hR dX5_weightOf_38 rfl (hQ (((1 + (gS G 327705 ((x : Int).toNat))) + 0) + (gS G 327705 ((z : Int).toNat))) (by (repeat' split) <;> omega))
    · -- 24 to 27
      refine s_iconst dX5_weightOf_27 (by decide) ?_
      refine s_goto (tgt := 37) dX5_weightOf_28 (by decide) ?_
      refine s_iadd dX5_weightOf_37 (by omega) ?_
      exact s_iret hR dX5_weightOf_38 rfl (hQ (((1 + (gS G 327705 ((x : Int).toNat))) + 0) + 0) (by (repeat' split) <;> omega))

abbrev kX1_clear : KD := (RX1, cX1_clear, 1, none, [])
def TX1_clear : TR := fun as G Qr => ∃ (o : Nat) (a b : Nat), as = [(2, ((o : Nat) : Int))] ∧ CI a b G ∧ (a ≤ 2840000 ∧ b ≤ 590000) ∧ (isFl o) ∧ ∀ (G' : LG), CI a b G' → KX G G' → WX (fun x => x = o + 2 ∨ x = o + 5) G G' → (∀ k : Nat, k < 6 → gS G' (o + 2) k = 0 ∧ gS G' (o + 5) k = 0) → Qr (.inl none) G'
set_option maxHeartbeats 4000000 in
set_option maxRecDepth 100000 in
theorem gX1_clear : Good kX1_clear yX1_clear 1 TX1_clear := by
  refine good_of (by decide) rfl rfl (fun as G Qr h => ?_) (fun X as G Qr hcf hR hT oa => ?_)
  · obtain ⟨o, a, b, rfl, -⟩ := h; exact Nat.le_of_ble_eq_true rfl
  obtain ⟨o, a, b, rfl, hC, hab, ho, hQ⟩ := hT
  show WP kX1_clear X 0 [some (2, ((o : Nat) : Int))] [] G
  refine s_aload_n dX1_clear_0 rfl (Int.natCast_nonneg _) ?_
  refine s_alv (o) (by simp) (fun al1 => ?_)
  have hk2 : gK G (o) = (10, 0) := hC.1.k (by rw [cde_f (by omega) (by omega)]; omega : cde o = 400) al1
  have hv3 : gS G o 1 = ((o + 2 : Nat) : Int) := by have h9 : (gS G o 1) = (((o % 1048576) + 2 : Nat) : Int) := hC.1.v (j := 1) (by rw [cde_f (by omega) (by omega)]; omega : cde o = 400) al1 (by rw [hk2]; exact Nat.le_of_ble_eq_true rfl); omega
  refine s_getf (ci := 2) (k := 1) (C := RX1) (T := TX1) (N := 5) (n := o) (L := 0) (t := 2) dX1_clear_1 rfl wi_66 m_411 (Nat.le_of_ble_eq_true rfl) rfl rfl hk2 hv3 ?_
  refine s_iconst dX1_clear_4 (by decide) ?_
  refine s_alv (o + 2) (by simp) (fun al4 => ?_)
  have hk5 : gK G (o + 2) = (1, 6) := hC.1.k (by rw [cde_f (by omega) (by omega)]; omega : cde (o + 2) = 402) al4
  refine s_callS2 (as := [(2, ((o + 2 : Nat) : Int)), (0, 0)]) (rest := []) gJ7_fill_53178 dX1_clear_5 m_1144 m_1751 m_705 m_46 ⟨by decide, by decide, show (parseMethodDescriptor yJ7_fill_53178.desc).map (fun d => d.parameters.length) = some 2 from by decide +kernel⟩ (Nat.le_of_ble_eq_true rfl) (by rw [hcf]; exact Nat.le_of_ble_eq_true rfl) rfl (Nat.le_of_ble_eq_true rfl) ⟨o + 2, 6, 0, rfl, hk5, by omega, ?_⟩
  generalize eG6r : gfil G (o + 2) 6 0 = G6
  have eG6 := eG6r.symm
  have hCG6 : CI a b G6 := by rw [eG6]; exact hC.fil (by rw [(by rw [cde_f (by omega) (by omega)]; omega : cde (o + 2) = 402)]; rfl) (fun j _ => by rw [(by rw [cde_f (by omega) (by omega)]; omega : cde (o + 2) = 402)]; exact (show 0 ≤ 0 ∧ 0 ≤ 200 from by omega))
  have hXG6 : KX G G6 := KX.of (by rw [eG6]; rfl)
  have hFG6 : WX (fun x => x = o + 2 ∨ x = o + 5) G G6 := WX.fil WX.rf eG6 (by show _; omega)
  show WP kX1_clear X 8 [some (2, ((o : Nat) : Int))] [] G6
  refine s_aload_n dX1_clear_8 rfl (Int.natCast_nonneg _) ?_
  have hk7 : gK G6 (o) = (10, 0) := ((hXG6).k hk2 (by decide))
  refine s_alv (o) (by simp) (fun al8 => ?_)
  have hv9 : gS G6 o 4 = ((o + 5 : Nat) : Int) := by have h9 : (gS G6 o 4) = (((o % 1048576) + 5 : Nat) : Int) := hCG6.1.v (j := 4) (by rw [cde_f (by omega) (by omega)]; omega : cde o = 400) al8 (by rw [hk7]; exact Nat.le_of_ble_eq_true rfl); omega
  refine s_getf (ci := 2) (k := 4) (C := RX1) (T := TX1) (N := 5) (n := o) (L := 0) (t := 2) dX1_clear_9 rfl wi_66 m_414 (Nat.le_of_ble_eq_true rfl) rfl rfl hk7 hv9 ?_
  refine s_iconst dX1_clear_12 (by decide) ?_
  refine s_alv (o + 5) (by simp) (fun al10 => ?_)
  have hk11 : gK G6 (o + 5) = (1, 6) := hCG6.1.k (by rw [cde_f (by omega) (by omega)]; omega : cde (o + 5) = 405) al10
  refine s_callS2 (as := [(2, ((o + 5 : Nat) : Int)), (0, 0)]) (rest := []) gJ7_fill_53178 dX1_clear_13 m_1144 m_1751 m_705 m_46 ⟨by decide, by decide, show (parseMethodDescriptor yJ7_fill_53178.desc).map (fun d => d.parameters.length) = some 2 from by decide +kernel⟩ (Nat.le_of_ble_eq_true rfl) (by rw [hcf]; exact Nat.le_of_ble_eq_true rfl) rfl (Nat.le_of_ble_eq_true rfl) ⟨o + 5, 6, 0, rfl, hk11, by omega, ?_⟩
  generalize eG12r : gfil G6 (o + 5) 6 0 = G12
  have eG12 := eG12r.symm
  have hCG12 : CI a b G12 := by rw [eG12]; exact hCG6.fil (by rw [(by rw [cde_f (by omega) (by omega)]; omega : cde (o + 5) = 405)]; rfl) (fun j _ => by rw [(by rw [cde_f (by omega) (by omega)]; omega : cde (o + 5) = 405)]; exact (show 0 ≤ 0 ∧ 0 ≤ 201 from by omega))
  have hXG12 : KX G6 G12 := KX.of (by rw [eG12]; rfl)
  have hFG12 : WX (fun x => x = o + 2 ∨ x = o + 5) G G12 := WX.fil hFG6 eG12 (by show _; omega)
  show WP kX1_clear X 16 [some (2, ((o : Nat) : Int))] [] G12
  exact s_vret hR dX1_clear_16 rfl (hQ G12 hCG12 (KX.trans hXG6 hXG12) hFG12 (fun k hk => ⟨by rw [eG12, gfil_ne _ (show o + 2 ≠ o + 5 by omega), eG6, gfil_at, if_pos hk], by rw [eG12, gfil_at, if_pos hk]⟩))

abbrev kX1_isReady : KD := (RX1, cX1_isReady, 3, (some .boolean), [])
def TX1_isReady : TR := fun as G Qr => ∃ (o : Nat) (k : Int) (a b : Nat), as = [(2, ((o : Nat) : Int)), (0, k)] ∧ CI a b G ∧ (a ≤ 2840000 ∧ b ≤ 590000) ∧ (isFl o) ∧ (0 ≤ k ∧ k < 6) ∧ ∀ (r : Int), (r = 0 ∨ r = 1) → Qr (.inl (some (0, r))) G
set_option maxHeartbeats 4000000 in
set_option maxRecDepth 100000 in
theorem gX1_isReady : Good kX1_isReady yX1_isReady 1 TX1_isReady := by
  refine good_of (by decide) rfl rfl (fun as G Qr h => ?_) (fun X as G Qr hcf hR hT oa => ?_)
  · obtain ⟨o, k, a, b, rfl, -⟩ := h; exact Nat.le_of_ble_eq_true rfl
  obtain ⟨o, k, a, b, rfl, hC, hab, ho, hk, hQ⟩ := hT
  show WP kX1_isReady X 0 [some (2, ((o : Nat) : Int)), some (0, k), none] [] G
  have hr_k : inR k := okv_R (oa _ (by simp))
  refine s_iconst dX1_isReady_0 (by decide) ?_
  refine s_istore_n dX1_isReady_1 (by decide) (lv' := [some (2, ((o : Nat) : Int)), some (0, k), some (0, 0)]) rfl ?_
  have L1 : ∀ (n1 : Nat) (m1 : Int), ((0 ≤ m1 ∧ m1 ≤ 6)) → (6 - m1).toNat < n1 → WP kX1_isReady X 2 [some (2, ((o : Nat) : Int)), some (0, k), some (0, m1)] [] G := by
    intro n1
    induction n1 with
    | zero => intro m1 hi1 hm1; exact absurd hm1 (Nat.not_lt_zero _)
    | succ n1 ih1 =>
      intro m1 hi1 hm1
      have im1 := hi1
      refine s_iload_n dX1_isReady_2 rfl ?_
      refine s_bipush dX1_isReady_3 rfl (by decide) ?_
      refine s_icmp_ge (tgt := 38) dX1_isReady_5 (by decide) (fun c2 => ?_) (fun c2 => ?_)
      · -- 5 to 38
        refine s_iconst dX1_isReady_38 (by decide) ?_
        exact s_zret hR dX1_isReady_39 rfl (by first | exact Or.inl rfl | exact Or.inr rfl | omega) (hQ 1 (by omega))
      · -- 5 to 8
        refine s_aload_n dX1_isReady_8 rfl (Int.natCast_nonneg _) ?_
        refine s_alv (o) (by simp) (fun al3 => ?_)
        have hk4 : gK G (o) = (10, 0) := hC.1.k (by rw [cde_f (by omega) (by omega)]; omega : cde o = 400) al3
        have hv5 : gS G o 2 = ((o + 3 : Nat) : Int) := by have h9 : (gS G o 2) = (((o % 1048576) + 3 : Nat) : Int) := hC.1.v (j := 2) (by rw [cde_f (by omega) (by omega)]; omega : cde o = 400) al3 (by rw [hk4]; exact Nat.le_of_ble_eq_true rfl); omega
        refine s_getf (ci := 2) (k := 2) (C := RX1) (T := TX1) (N := 5) (n := o) (L := 0) (t := 2) dX1_isReady_9 rfl wi_66 m_412 (Nat.le_of_ble_eq_true rfl) rfl rfl hk4 hv5 ?_
        refine s_iload_n dX1_isReady_12 rfl ?_
        refine s_alv (o + 3) (by simp) (fun al6 => ?_)
        have hk7 : gK G (o + 3) = (1, 6) := hC.1.k (by rw [cde_f (by omega) (by omega)]; omega : cde (o + 3) = 403) al6
        refine s_iald dX1_isReady_13 hk7 (by omega) (by omega) rfl ?_
        refine s_iload_n dX1_isReady_14 rfl ?_
        refine s_callSN (own := RX1) rfl (by decide +kernel) (as := [(0, gS G (o + 3) ((k : Int).toNat)), (0, m1)]) (rest := []) gX11_isIn dX1_isReady_15 m_1777 m_714 m_97 ⟨by decide, by decide, show (parseMethodDescriptor yX11_isIn.desc).map (fun d => d.parameters.length) = some 2 from by decide +kernel⟩ (Nat.le_of_ble_eq_true rfl) (by rw [hcf]; exact Nat.le_of_ble_eq_true rfl) rfl (Nat.le_of_ble_eq_true rfl) ⟨gS G (o + 3) ((k : Int).toNat), m1, rfl, fun rr8 hp9 => ?_⟩
        show WP kX1_isReady X 18 [some (2, ((o : Nat) : Int)), some (0, k), some (0, m1)] [(0, rr8)] G
        refine s_if_eq (tgt := 32) dX1_isReady_18 (by decide) (fun c10 => ?_) (fun c10 => ?_)
        · -- 18 to 32
          refine s_iinc dX1_isReady_32 (v := m1) rfl (by omega) (by decide) (lv' := [some (2, ((o : Nat) : Int)), some (0, k), some (0, m1 + 1)]) rfl ?_
          refine s_goto (tgt := 2) dX1_isReady_35 (by decide) ?_
          exact ih1 (m1 + 1) ((by omega)) (by omega)
        · -- 18 to 21
          refine s_aload_n dX1_isReady_21 rfl (Int.natCast_nonneg _) ?_
          have hv11 : gS G o 4 = ((o + 5 : Nat) : Int) := by have h9 : (gS G o 4) = (((o % 1048576) + 5 : Nat) : Int) := hC.1.v (j := 4) (by rw [cde_f (by omega) (by omega)]; omega : cde o = 400) al3 (by rw [hk4]; exact Nat.le_of_ble_eq_true rfl); omega
          refine s_getf (ci := 2) (k := 4) (C := RX1) (T := TX1) (N := 5) (n := o) (L := 0) (t := 2) dX1_isReady_22 rfl wi_66 m_414 (Nat.le_of_ble_eq_true rfl) rfl rfl hk4 hv11 ?_
          refine s_iload_n dX1_isReady_25 rfl ?_
          refine s_alv (o + 5) (by simp) (fun al12 => ?_)
          have hk13 : gK G (o + 5) = (1, 6) := hC.1.k (by rw [cde_f (by omega) (by omega)]; omega : cde (o + 5) = 405) al12
          have hv14 : 0 ≤ (gS G (o + 5) (m1 : Int).toNat) ∧ (gS G (o + 5) (m1 : Int).toNat) ≤ 201 := hC.1.v (j := (m1 : Int).toNat) (by rw [cde_f (by omega) (by omega)]; omega : cde (o + 5) = 405) al12 (by rw [hk13]; show (m1 : Int).toNat < 6; omega)
          refine s_iald dX1_isReady_26 hk13 (by omega) (by omega) rfl ?_
          refine s_if_ne (tgt := 32) dX1_isReady_27 (by decide) (fun c15 => ?_) (fun c15 => ?_)
          · -- 27 to 32
            refine s_iinc dX1_isReady_32 (v := m1) rfl (by omega) (by decide) (lv' := [some (2, ((o : Nat) : Int)), some (0, k), some (0, m1 + 1)]) rfl ?_
            refine s_goto (tgt := 2) dX1_isReady_35 (by decide) ?_
            exact ih1 (m1 + 1) ((by omega)) (by omega)
          · -- 27 to 30
            refine s_iconst dX1_isReady_30 (by decide) ?_
            exact s_zret hR dX1_isReady_31 rfl (by first | exact Or.inl rfl | exact Or.inr rfl | omega) (hQ 0 (by omega))
  exact L1 _ 0 ((by omega)) (Nat.lt_succ_self _)

abbrev kX6_keep : KD := (RX6, cX6_keep, 2, none, [])
def TX6_keep : TR := fun as G Qr => ∃ (o : Nat) (a b : Nat), as = [(2, ((o : Nat) : Int)), (2, ((68184 : Nat) : Int))] ∧ CI a b G ∧ (a ≤ 2840000 ∧ b ≤ 590000) ∧ (65536 ≤ o ∧ o ≤ 68096) ∧ (o % 64 = 24 ∨ o % 64 = 26) ∧ (o % 64 = 26 → gS G 68184 1 ≤ 3270) ∧ ∀ (G' : LG), CI a b G' → KX G G' → WX (fun x => x = o ∨ x = o + 1) G G' → (True) → Qr (.inl none) G'
set_option maxHeartbeats 4000000 in
set_option maxRecDepth 100000 in
theorem gX6_keep : Good kX6_keep yX6_keep 1 TX6_keep := by
  refine good_of (by decide) rfl rfl (fun as G Qr h => ?_) (fun X as G Qr hcf hR hT oa => ?_)
  · obtain ⟨o, a, b, rfl, -⟩ := h; exact Nat.le_of_ble_eq_true rfl
  obtain ⟨o, a, b, rfl, hC, hab, ho, hsp, hcn, hQ⟩ := hT
  show WP kX6_keep X 0 [some (2, ((o : Nat) : Int)), some (2, ((68184 : Nat) : Int))] [] G
  refine s_alvl o (k := 0) rfl (fun al0 => ?_)
  refine s_alvl 68184 (k := 1) rfl (fun al1 => ?_)
  have hco : cde o = 124 ∨ cde o = 126 := by rw [cde_n (by omega) (by omega)]; omega
  obtain ⟨qe, Le, he1, he2, he3, he4, he5⟩ := hC.2.1 o al0 hco
  obtain ⟨qs, Ls, hs1, hs2, hs3, hs4, hs5⟩ := hC.2.1 68184 al1 (Or.inl (by decide))
  have hLe : (o % 64 = 24 → Le ≤ 19622) ∧ (o % 64 = 26 → Le ≤ 6540) := by
    have hk9 := (hC.1 qe (kne he3 (by decide))).1
    rw [he3, cde_n (x := qe) (by omega) (by omega)] at hk9
    refine ⟨fun z => ?_, fun z => ?_⟩
    · rw [show 100 + qe % 64 = 125 by omega] at hk9; obtain ⟨L9, h9, -, h8⟩ := hk9; have := congrArg Prod.snd h9; dsimp only at this; omega
    · rw [show 100 + qe % 64 = 127 by omega] at hk9; obtain ⟨L9, h9, -, h8⟩ := hk9; have := congrArg Prod.snd h9; dsimp only at this; omega
  have hlS : Ls ≤ 19622 := by
    have hk9 := (hC.1 qs (kne hs3 (by decide))).1
    rw [hs3, cde_n (x := qs) (by omega) (by omega), show 100 + qs % 64 = 125 by omega] at hk9
    obtain ⟨L9, h9, -, h8⟩ := hk9; have := congrArg Prod.snd h9; dsimp only at this; omega
  have hcs : 0 ≤ gS G 68184 1 ∧ gS G 68184 1 ≤ 9811 := hC.1.v (c := 124) (j := 1) (by decide) al1 (by have h9 : gK G 68184 = (15, 0) := hC.1.k (c := 124) (by decide) al1; rw [h9]; exact Nat.le_of_ble_eq_true rfl)
  have hco1 : 0 ≤ gS G o 1 ∧ gS G o 1 ≤ (Le : Int) := ⟨by
    rcases hco with q | q
    · exact (show 0 ≤ gS G o 1 ∧ gS G o 1 ≤ 9811 from hC.1.v (c := 124) (j := 1) q al0 (by have h9 : gK G o = (15, 0) := hC.1.k (c := 124) q al0; rw [h9]; exact Nat.le_of_ble_eq_true rfl)).1
    · exact (show 0 ≤ gS G o 1 ∧ gS G o 1 ≤ 3270 from hC.1.v (c := 126) (j := 1) q al0 (by have h9 : gK G o = (15, 0) := hC.1.k (c := 126) q al0; rw [h9]; exact Nat.le_of_ble_eq_true rfl)).1, he5⟩
  rcases hsp with hs9 | hs9
  · -- code 124
    refine s_aload_n dX6_keep_0 rfl (Int.natCast_nonneg _) ?_
    have hk1 : gK G (o) = (15, 0) := hC.1.k (by rw [cde_n (by omega) (by omega)]; omega : cde o = 124) al0
    refine s_getf (ci := 7) (k := 0) (C := RX6) (T := TX6) (N := 2) (n := o) (L := 0) (t := 2) dX6_keep_1 rfl wi_74 m_668 (Nat.le_of_ble_eq_true rfl) rfl rfl hk1 he1 ?_
    refine s_alen dX6_keep_4 he3 (by decide) (by omega) ?_
    refine s_aload_n dX6_keep_5 rfl (Int.natCast_nonneg _) ?_
    have hk3 : gK G (68184) = (15, 0) := hC.1.k (by decide : cde 68184 = 124) al1
    have hv4 : 0 ≤ (gS G 68184 1) ∧ (gS G 68184 1) ≤ 9811 := hC.1.v (j := 1) (by decide : cde 68184 = 124) al1 (by rw [hk3]; exact Nat.le_of_ble_eq_true rfl)
    refine s_getf (ci := 7) (k := 1) (C := RX6) (T := TX6) (N := 2) (n := 68184) (L := 0) (t := 0) dX6_keep_6 rfl wi_74 m_660 (Nat.le_of_ble_eq_true rfl) rfl rfl hk3 rfl ?_
    refine s_icmp_ge (tgt := 32) dX6_keep_9 (by decide) (fun c5 => ?_) (fun c5 => ?_)
    · -- 9 to 32
      refine s_aload_n dX6_keep_32 rfl (Int.natCast_nonneg _) ?_
      refine s_getf (ci := 7) (k := 0) (C := RX6) (T := TX6) (N := 2) (n := 68184) (L := 0) (t := 2) dX6_keep_33 rfl wi_74 m_668 (Nat.le_of_ble_eq_true rfl) rfl rfl hk3 hs1 ?_
      refine s_iconst dX6_keep_36 (by decide) ?_
      refine s_aload_n dX6_keep_37 rfl (Int.natCast_nonneg _) ?_
      refine s_getf (ci := 7) (k := 0) (C := RX6) (T := TX6) (N := 2) (n := o) (L := 0) (t := 2) dX6_keep_38 rfl wi_74 m_668 (Nat.le_of_ble_eq_true rfl) rfl rfl hk1 he1 ?_
      refine s_iconst dX6_keep_41 (by decide) ?_
      refine s_aload_n dX6_keep_42 rfl (Int.natCast_nonneg _) ?_
      refine s_getf (ci := 7) (k := 1) (C := RX6) (T := TX6) (N := 2) (n := 68184) (L := 0) (t := 0) dX6_keep_43 rfl wi_74 m_660 (Nat.le_of_ble_eq_true rfl) rfl rfl hk3 rfl ?_
      refine s_copyI dX6_keep_46 m_1412 hs3 he3 (by omega) (by omega) (by omega) (by omega) (by omega) (by rw [hcf]; exact Nat.le_of_ble_eq_true rfl) (Nat.le_of_ble_eq_true rfl) ?_
      generalize eG9r : gcpy G qs (0 : Int).toNat qe (0 : Int).toNat (gS G 68184 1 : Int).toNat = G9
      have eG9 := eG9r.symm
      have hCG9 : CI a b G9 := by rw [eG9]; exact hC.cpy (by rw [(by rw [cde_n (by omega) (by omega)]; omega : cde qe = 125)]; rfl) (fun _ _ _ => by rw [(by rw [cde_n (by omega) (by omega)]; omega : cde qe = 125)]; exact True.intro)
      have hXG9 : KX G G9 := KX.cpy KX.rf eG9
      have hFG9 : WX (fun x => x = o ∨ x = o + 1) G G9 := WX.cpy WX.rf eG9 (by show _; omega)
      show WP kX6_keep X 49 [some (2, ((o : Nat) : Int)), some (2, ((68184 : Nat) : Int))] [] G9
      refine s_aload_n dX6_keep_49 rfl (Int.natCast_nonneg _) ?_
      have hcwG9 : gS G9 68184 = gS G 68184 := by rw [eG9]; exact gcpy_ne _ (by omega)
      have hcyG9 : gS G9 68184 1 = gS G 68184 1 := by rw [hcwG9]
      have hczG9 : gS G9 o 0 = (qe : Int) := by rw [eG9, gcpy_ne _ (by omega)]; exact he1
      have hkzG9 : gK G9 qe = (1, Le) := by rw [eG9, gcpy_K]; exact he3
      refine s_aload_n dX6_keep_50 rfl (Int.natCast_nonneg _) ?_
      have hk10 : gK G9 (68184) = (15, 0) := ((hXG9).k hk3 (by decide))
      refine s_alv (68184) (by simp) (fun al12 => ?_)
      have hv11 : 0 ≤ (gS G9 68184 1) ∧ (gS G9 68184 1) ≤ 9811 := hCG9.1.v (j := 1) (by decide : cde 68184 = 124) al12 (by rw [hk10]; exact Nat.le_of_ble_eq_true rfl)
      refine s_getf (ci := 7) (k := 1) (C := RX6) (T := TX6) (N := 2) (n := 68184) (L := 0) (t := 0) dX6_keep_51 rfl wi_74 m_660 (Nat.le_of_ble_eq_true rfl) rfl rfl hk10 rfl ?_
      have hk13 : gK G9 (o) = (15, 0) := ((hXG9).k hk1 (by decide))
      refine s_putf (ci := 7) (k := 1) (C := RX6) (T := TX6) (N := 2) (n := o) (L := 0) dX6_keep_54 rfl wi_74 m_660 (Nat.le_of_ble_eq_true rfl) rfl rfl tyX6_ok nmX6 rfl (Or.inl rfl) hk13 ?_
      generalize eG14r : gset G9 o 1 (gS G9 68184 1) = G14
      have eG14 := eG14r.symm
      have hCG14 : CI a b G14 := by rw [eG14]; exact hCG9.rowCountQ hco (by rw [show cde o = 124 from by rw [cde_n (by omega) (by omega)]; omega]; exact (show (0 : Int) ≤ _ ∧ _ ≤ (9811 : Int) from ⟨by omega, by omega⟩)) hczG9 hkzG9 (by omega)
      have hXG14 : KX G9 G14 := KX.set KX.rf eG14
      have hFG14 : WX (fun x => x = o ∨ x = o + 1) G G14 := WX.set hFG9 eG14 (by show _; omega)
      show WP kX6_keep X 57 [some (2, ((o : Nat) : Int)), some (2, ((68184 : Nat) : Int))] [] G14
      exact s_vret hR dX6_keep_57 rfl (hQ G14 hCG14 (KX.trans hXG9 hXG14) hFG14 trivial)
    · -- 9 to 12
      refine s_aload_n dX6_keep_12 rfl (Int.natCast_nonneg _) ?_
      refine s_aload_n dX6_keep_13 rfl (Int.natCast_nonneg _) ?_
      refine s_getf (ci := 7) (k := 1) (C := RX6) (T := TX6) (N := 2) (n := 68184) (L := 0) (t := 0) dX6_keep_14 rfl wi_74 m_660 (Nat.le_of_ble_eq_true rfl) rfl rfl hk3 rfl ?_
      refine s_iconst dX6_keep_17 (by decide) ?_
      refine s_aload_n dX6_keep_18 rfl (Int.natCast_nonneg _) ?_
      refine s_getf (ci := 7) (k := 0) (C := RX6) (T := TX6) (N := 2) (n := o) (L := 0) (t := 2) dX6_keep_19 rfl wi_74 m_668 (Nat.le_of_ble_eq_true rfl) rfl rfl hk1 he1 ?_
      refine s_alen dX6_keep_22 he3 (by decide) (by omega) ?_
      refine s_imul dX6_keep_23 (by omega) ?_
      refine s_mmax dX6_keep_24 m_1411 (by rw [hcf]; exact Nat.le_of_ble_eq_true rfl) (Nat.le_of_ble_eq_true rfl) ?_
      obtain ⟨z17, hz17⟩ : ∃ z : Int, z = (if (gS G 68184 1) < (2 * (((Le : Nat) : Int))) then 2 * (((Le : Nat) : Int)) else gS G 68184 1) := ⟨_, rfl⟩
      rw [← hz17]
      have hz17a : ((gS G 68184 1) < (2 * (((Le : Nat) : Int))) ∧ z17 = 2 * (((Le : Nat) : Int))) ∨ (¬ (gS G 68184 1) < (2 * (((Le : Nat) : Int))) ∧ z17 = gS G 68184 1) := by rw [hz17]; by_cases q : (gS G 68184 1) < (2 * (((Le : Nat) : Int))); exact Or.inl ⟨q, if_pos q⟩; exact Or.inr ⟨q, if_neg q⟩
      obtain ⟨nm, hnm⟩ : ∃ nm : Nat, nm = o + 1 + 1048576 * (1 + gc G) := ⟨_, rfl⟩
      have hroom := hC.room
      have hnd : (gK G nm).1 = 0 := hC.2.2.2.2.2.2.2.2.2.1.1 nm (by omega)
      refine s_newI nm (z17).toNat dX6_keep_27 (by omega) (by omega) hnd (by omega) (by omega) ?_
      refine s_putf (ci := 7) (k := 0) (C := RX6) (T := TX6) (N := 2) (n := o) (L := 0) dX6_keep_29 rfl wi_74 m_668 (Nat.le_of_ble_eq_true rfl) rfl rfl tyX6_ok nmX6 rfl (Or.inr (Or.inr (Or.inr (Or.inr ⟨_, rfl⟩)))) (by rw [gnew_Kne _ _ _ _ _ (by omega)]; exact hk1) ?_
      generalize eG18r : gset (gnew G nm 1 (z17).toNat (z17).toNat (fun _ => 0)) o 0 (nm : Int) = G18
      have eG18 := eG18r.symm
      have hXG18 : KX G G18 := KX.set (KX.new KX.rf rfl hnd) eG18
      have hsG18 : gS G18 o 1 = gS G o 1 := by rw [eG18, gset_ne _ _ (fun z => absurd z.2 (by decide)), gnew_ne _ _ _ _ _ (by omega)]
      have hCG18 : CI a b G18 := hC.growRow (x := o) (M := (z17).toNat) (Or.inl ⟨by omega, by omega, by omega⟩) (kne hk1 (by decide)) he1 he3 (by omega) (by omega) (by rw [cde_n (x := o + 1) (by omega) (by omega), show 100 + (o + 1) % 64 = 125 by omega]; exact ⟨_, rfl, by omega, show ((z17).toNat : Nat) ≤ 19622 by omega⟩) hnm (by omega) (fun z z1 z2 => by rw [eG18]; funext y; rw [gset_ne _ _ (fun w => z2 w.1), gnew_ne _ _ _ _ _ z1]) (gsaE eG18) hsG18 (by rw [eG18]; rfl) (by rw [eG18]; rfl) (by rw [eG18]; rfl)
      have hFG18 : WX (fun x => x = o ∨ x = o + 1) G G18 := WX.set (WX.new WX.rf KX.rf rfl hnd) eG18 (by show _; omega)
      have hqG18 : gS G18 o 0 = (nm : Int) := gsaE eG18
      have hkG18 : gK G18 nm = (1, (z17).toNat) := by rw [eG18, gset_K]; exact gnew_K _ _ _ _ _ _
      have hzG18 : gS G18 68184 = gS G 68184 := by rw [gset_o eG18 (x := 68184) (by omega)]; exact gnew_ne _ _ _ _ _ (by omega)
      have hz0G18 : gS G18 68184 0 = (qs : Int) := by rw [hzG18]; exact hs1
      have hz1G18 : gS G18 68184 1 = gS G 68184 1 := by rw [hzG18]
      have hmz : nm % 1048576 = o + 1 := by omega
      show WP kX6_keep X 32 [some (2, ((o : Nat) : Int)), some (2, ((68184 : Nat) : Int))] [] G18
      refine s_aload_n dX6_keep_32 rfl (Int.natCast_nonneg _) ?_
      have hk19 : gK G18 (68184) = (15, 0) := ((hXG18).k hk3 (by decide))
      refine s_alv (68184) (by simp) (fun al20 => ?_)
      refine s_getf (ci := 7) (k := 0) (C := RX6) (T := TX6) (N := 2) (n := 68184) (L := 0) (t := 2) dX6_keep_33 rfl wi_74 m_668 (Nat.le_of_ble_eq_true rfl) rfl rfl hk19 hz0G18 ?_
      refine s_iconst dX6_keep_36 (by decide) ?_
      refine s_aload_n dX6_keep_37 rfl (Int.natCast_nonneg _) ?_
      have hk22 : gK G18 (o) = (15, 0) := ((hXG18).k hk1 (by decide))
      refine s_alv (o) (by simp) (fun al23 => ?_)
      refine s_getf (ci := 7) (k := 0) (C := RX6) (T := TX6) (N := 2) (n := o) (L := 0) (t := 2) dX6_keep_38 rfl wi_74 m_668 (Nat.le_of_ble_eq_true rfl) rfl rfl hk22 hqG18 ?_
      refine s_iconst dX6_keep_41 (by decide) ?_
      refine s_aload_n dX6_keep_42 rfl (Int.natCast_nonneg _) ?_
      have hv25 : 0 ≤ (gS G18 68184 1) ∧ (gS G18 68184 1) ≤ 9811 := hCG18.1.v (j := 1) (by decide : cde 68184 = 124) al20 (by rw [hk19]; exact Nat.le_of_ble_eq_true rfl)
      refine s_getf (ci := 7) (k := 1) (C := RX6) (T := TX6) (N := 2) (n := 68184) (L := 0) (t := 0) dX6_keep_43 rfl wi_74 m_660 (Nat.le_of_ble_eq_true rfl) rfl rfl hk19 rfl ?_
      have hk26 : gK G18 (qs) = (1, Ls) := ((hXG18).k hs3 (by decide))
      refine s_copyI dX6_keep_46 m_1412 hk26 hkG18 (by omega) (by omega) (by omega) (by omega) (by omega) (by rw [hcf]; exact Nat.le_of_ble_eq_true rfl) (Nat.le_of_ble_eq_true rfl) ?_
      generalize eG27r : gcpy G18 qs (0 : Int).toNat nm (0 : Int).toNat (gS G18 68184 1 : Int).toNat = G27
      have eG27 := eG27r.symm
      have hCG27 : CI a b G27 := by rw [eG27]; exact hCG18.cpy (by rw [(by rw [cde_n (by omega) (by omega)]; omega : cde nm = 125)]; rfl) (fun _ _ _ => by rw [(by rw [cde_n (by omega) (by omega)]; omega : cde nm = 125)]; exact True.intro)
      have hXG27 : KX G18 G27 := KX.cpy KX.rf eG27
      have hFG27 : WX (fun x => x = o ∨ x = o + 1) G G27 := WX.cpy hFG18 eG27 (by show _; omega)
      show WP kX6_keep X 49 [some (2, ((o : Nat) : Int)), some (2, ((68184 : Nat) : Int))] [] G27
      refine s_aload_n dX6_keep_49 rfl (Int.natCast_nonneg _) ?_
      have hcwG27 : gS G27 68184 = gS G18 68184 := by rw [eG27]; exact gcpy_ne _ (by omega)
      have hcyG27 : gS G27 68184 1 = gS G18 68184 1 := by rw [hcwG27]
      have hczG27 : gS G27 o 0 = (nm : Int) := by rw [eG27, gcpy_ne _ (by omega)]; exact hqG18
      have hkzG27 : gK G27 nm = (1, (z17).toNat) := by rw [eG27, gcpy_K]; exact hkG18
      refine s_aload_n dX6_keep_50 rfl (Int.natCast_nonneg _) ?_
      have hk28 : gK G27 (68184) = (15, 0) := ((hXG27).k hk19 (by decide))
      refine s_alv (68184) (by simp) (fun al30 => ?_)
      have hv29 : 0 ≤ (gS G27 68184 1) ∧ (gS G27 68184 1) ≤ 9811 := hCG27.1.v (j := 1) (by decide : cde 68184 = 124) al30 (by rw [hk28]; exact Nat.le_of_ble_eq_true rfl)
      refine s_getf (ci := 7) (k := 1) (C := RX6) (T := TX6) (N := 2) (n := 68184) (L := 0) (t := 0) dX6_keep_51 rfl wi_74 m_660 (Nat.le_of_ble_eq_true rfl) rfl rfl hk28 rfl ?_
      have hk31 : gK G27 (o) = (15, 0) := ((hXG27).k hk22 (by decide))
      refine s_putf (ci := 7) (k := 1) (C := RX6) (T := TX6) (N := 2) (n := o) (L := 0) dX6_keep_54 rfl wi_74 m_660 (Nat.le_of_ble_eq_true rfl) rfl rfl tyX6_ok nmX6 rfl (Or.inl rfl) hk31 ?_
      generalize eG32r : gset G27 o 1 (gS G27 68184 1) = G32
      have eG32 := eG32r.symm
      have hCG32 : CI a b G32 := by rw [eG32]; exact hCG27.rowCountQ hco (by rw [show cde o = 124 from by rw [cde_n (by omega) (by omega)]; omega]; exact (show (0 : Int) ≤ _ ∧ _ ≤ (9811 : Int) from ⟨by omega, by omega⟩)) hczG27 hkzG27 (by omega)
      have hXG32 : KX G27 G32 := KX.set KX.rf eG32
      have hFG32 : WX (fun x => x = o ∨ x = o + 1) G G32 := WX.set hFG27 eG32 (by show _; omega)
      show WP kX6_keep X 57 [some (2, ((o : Nat) : Int)), some (2, ((68184 : Nat) : Int))] [] G32
      exact s_vret hR dX6_keep_57 rfl (hQ G32 hCG32 (KX.trans (KX.trans hXG18 hXG27) hXG32) hFG32 trivial)
  · -- code 126
    refine s_aload_n dX6_keep_0 rfl (Int.natCast_nonneg _) ?_
    have hk33 : gK G (o) = (15, 0) := hC.1.k (by rw [cde_n (by omega) (by omega)]; omega : cde o = 126) al0
    refine s_getf (ci := 7) (k := 0) (C := RX6) (T := TX6) (N := 2) (n := o) (L := 0) (t := 2) dX6_keep_1 rfl wi_74 m_668 (Nat.le_of_ble_eq_true rfl) rfl rfl hk33 he1 ?_
    refine s_alen dX6_keep_4 he3 (by decide) (by omega) ?_
    refine s_aload_n dX6_keep_5 rfl (Int.natCast_nonneg _) ?_
    have hk35 : gK G (68184) = (15, 0) := hC.1.k (by decide : cde 68184 = 124) al1
    have hv36 : 0 ≤ (gS G 68184 1) ∧ (gS G 68184 1) ≤ 9811 := hC.1.v (j := 1) (by decide : cde 68184 = 124) al1 (by rw [hk35]; exact Nat.le_of_ble_eq_true rfl)
    refine s_getf (ci := 7) (k := 1) (C := RX6) (T := TX6) (N := 2) (n := 68184) (L := 0) (t := 0) dX6_keep_6 rfl wi_74 m_660 (Nat.le_of_ble_eq_true rfl) rfl rfl hk35 rfl ?_
    refine s_icmp_ge (tgt := 32) dX6_keep_9 (by decide) (fun c37 => ?_) (fun c37 => ?_)
    · -- 9 to 32
      refine s_aload_n dX6_keep_32 rfl (Int.natCast_nonneg _) ?_
      refine s_getf (ci := 7) (k := 0) (C := RX6) (T := TX6) (N := 2) (n := 68184) (L := 0) (t := 2) dX6_keep_33 rfl wi_74 m_668 (Nat.le_of_ble_eq_true rfl) rfl rfl hk35 hs1 ?_
      refine s_iconst dX6_keep_36 (by decide) ?_
      refine s_aload_n dX6_keep_37 rfl (Int.natCast_nonneg _) ?_
      refine s_getf (ci := 7) (k := 0) (C := RX6) (T := TX6) (N := 2) (n := o) (L := 0) (t := 2) dX6_keep_38 rfl wi_74 m_668 (Nat.le_of_ble_eq_true rfl) rfl rfl hk33 he1 ?_
      refine s_iconst dX6_keep_41 (by decide) ?_
      refine s_aload_n dX6_keep_42 rfl (Int.natCast_nonneg _) ?_
      refine s_getf (ci := 7) (k := 1) (C := RX6) (T := TX6) (N := 2) (n := 68184) (L := 0) (t := 0) dX6_keep_43 rfl wi_74 m_660 (Nat.le_of_ble_eq_true rfl) rfl rfl hk35 rfl ?_
      refine s_copyI dX6_keep_46 m_1412 hs3 he3 (by omega) (by omega) (by omega) (by omega) (by omega) (by rw [hcf]; exact Nat.le_of_ble_eq_true rfl) (Nat.le_of_ble_eq_true rfl) ?_
      generalize eG41r : gcpy G qs (0 : Int).toNat qe (0 : Int).toNat (gS G 68184 1 : Int).toNat = G41
      have eG41 := eG41r.symm
      have hCG41 : CI a b G41 := by rw [eG41]; exact hC.cpy (by rw [(by rw [cde_n (by omega) (by omega)]; omega : cde qe = 127)]; rfl) (fun _ _ _ => by rw [(by rw [cde_n (by omega) (by omega)]; omega : cde qe = 127)]; exact True.intro)
      have hXG41 : KX G G41 := KX.cpy KX.rf eG41
      have hFG41 : WX (fun x => x = o ∨ x = o + 1) G G41 := WX.cpy WX.rf eG41 (by show _; omega)
      show WP kX6_keep X 49 [some (2, ((o : Nat) : Int)), some (2, ((68184 : Nat) : Int))] [] G41
      refine s_aload_n dX6_keep_49 rfl (Int.natCast_nonneg _) ?_
      have hcwG41 : gS G41 68184 = gS G 68184 := by rw [eG41]; exact gcpy_ne _ (by omega)
      have hcyG41 : gS G41 68184 1 = gS G 68184 1 := by rw [hcwG41]
      have hczG41 : gS G41 o 0 = (qe : Int) := by rw [eG41, gcpy_ne _ (by omega)]; exact he1
      have hkzG41 : gK G41 qe = (1, Le) := by rw [eG41, gcpy_K]; exact he3
      refine s_aload_n dX6_keep_50 rfl (Int.natCast_nonneg _) ?_
      have hk42 : gK G41 (68184) = (15, 0) := ((hXG41).k hk35 (by decide))
      refine s_alv (68184) (by simp) (fun al44 => ?_)
      have hv43 : 0 ≤ (gS G41 68184 1) ∧ (gS G41 68184 1) ≤ 9811 := hCG41.1.v (j := 1) (by decide : cde 68184 = 124) al44 (by rw [hk42]; exact Nat.le_of_ble_eq_true rfl)
      refine s_getf (ci := 7) (k := 1) (C := RX6) (T := TX6) (N := 2) (n := 68184) (L := 0) (t := 0) dX6_keep_51 rfl wi_74 m_660 (Nat.le_of_ble_eq_true rfl) rfl rfl hk42 rfl ?_
      have hk45 : gK G41 (o) = (15, 0) := ((hXG41).k hk33 (by decide))
      refine s_putf (ci := 7) (k := 1) (C := RX6) (T := TX6) (N := 2) (n := o) (L := 0) dX6_keep_54 rfl wi_74 m_660 (Nat.le_of_ble_eq_true rfl) rfl rfl tyX6_ok nmX6 rfl (Or.inl rfl) hk45 ?_
      generalize eG46r : gset G41 o 1 (gS G41 68184 1) = G46
      have eG46 := eG46r.symm
      have hCG46 : CI a b G46 := by rw [eG46]; exact hCG41.rowCountQ hco (by rw [show cde o = 126 from by rw [cde_n (by omega) (by omega)]; omega]; exact (show (0 : Int) ≤ _ ∧ _ ≤ (3270 : Int) from ⟨by omega, by omega⟩)) hczG41 hkzG41 (by omega)
      have hXG46 : KX G41 G46 := KX.set KX.rf eG46
      have hFG46 : WX (fun x => x = o ∨ x = o + 1) G G46 := WX.set hFG41 eG46 (by show _; omega)
      show WP kX6_keep X 57 [some (2, ((o : Nat) : Int)), some (2, ((68184 : Nat) : Int))] [] G46
      exact s_vret hR dX6_keep_57 rfl (hQ G46 hCG46 (KX.trans hXG41 hXG46) hFG46 trivial)
    · -- 9 to 12
      refine s_aload_n dX6_keep_12 rfl (Int.natCast_nonneg _) ?_
      refine s_aload_n dX6_keep_13 rfl (Int.natCast_nonneg _) ?_
      refine s_getf (ci := 7) (k := 1) (C := RX6) (T := TX6) (N := 2) (n := 68184) (L := 0) (t := 0) dX6_keep_14 rfl wi_74 m_660 (Nat.le_of_ble_eq_true rfl) rfl rfl hk35 rfl ?_
      refine s_iconst dX6_keep_17 (by decide) ?_
      refine s_aload_n dX6_keep_18 rfl (Int.natCast_nonneg _) ?_
      refine s_getf (ci := 7) (k := 0) (C := RX6) (T := TX6) (N := 2) (n := o) (L := 0) (t := 2) dX6_keep_19 rfl wi_74 m_668 (Nat.le_of_ble_eq_true rfl) rfl rfl hk33 he1 ?_
      refine s_alen dX6_keep_22 he3 (by decide) (by omega) ?_
      refine s_imul dX6_keep_23 (by omega) ?_
      refine s_mmax dX6_keep_24 m_1411 (by rw [hcf]; exact Nat.le_of_ble_eq_true rfl) (Nat.le_of_ble_eq_true rfl) ?_
      obtain ⟨z49, hz49⟩ : ∃ z : Int, z = (if (gS G 68184 1) < (2 * (((Le : Nat) : Int))) then 2 * (((Le : Nat) : Int)) else gS G 68184 1) := ⟨_, rfl⟩
      rw [← hz49]
      have hz49a : ((gS G 68184 1) < (2 * (((Le : Nat) : Int))) ∧ z49 = 2 * (((Le : Nat) : Int))) ∨ (¬ (gS G 68184 1) < (2 * (((Le : Nat) : Int))) ∧ z49 = gS G 68184 1) := by rw [hz49]; by_cases q : (gS G 68184 1) < (2 * (((Le : Nat) : Int))); exact Or.inl ⟨q, if_pos q⟩; exact Or.inr ⟨q, if_neg q⟩
      obtain ⟨nm, hnm⟩ : ∃ nm : Nat, nm = o + 1 + 1048576 * (1 + gc G) := ⟨_, rfl⟩
      have hroom := hC.room
      have hnd : (gK G nm).1 = 0 := hC.2.2.2.2.2.2.2.2.2.1.1 nm (by omega)
      refine s_newI nm (z49).toNat dX6_keep_27 (by omega) (by omega) hnd (by omega) (by omega) ?_
      refine s_putf (ci := 7) (k := 0) (C := RX6) (T := TX6) (N := 2) (n := o) (L := 0) dX6_keep_29 rfl wi_74 m_668 (Nat.le_of_ble_eq_true rfl) rfl rfl tyX6_ok nmX6 rfl (Or.inr (Or.inr (Or.inr (Or.inr ⟨_, rfl⟩)))) (by rw [gnew_Kne _ _ _ _ _ (by omega)]; exact hk33) ?_
      generalize eG50r : gset (gnew G nm 1 (z49).toNat (z49).toNat (fun _ => 0)) o 0 (nm : Int) = G50
      have eG50 := eG50r.symm
      have hXG50 : KX G G50 := KX.set (KX.new KX.rf rfl hnd) eG50
      have hsG50 : gS G50 o 1 = gS G o 1 := by rw [eG50, gset_ne _ _ (fun z => absurd z.2 (by decide)), gnew_ne _ _ _ _ _ (by omega)]
      have hCG50 : CI a b G50 := hC.growRow (x := o) (M := (z49).toNat) (Or.inl ⟨by omega, by omega, by omega⟩) (kne hk33 (by decide)) he1 he3 (by omega) (by omega) (by rw [cde_n (x := o + 1) (by omega) (by omega), show 100 + (o + 1) % 64 = 127 by omega]; exact ⟨_, rfl, by omega, show ((z49).toNat : Nat) ≤ 6540 by omega⟩) hnm (by omega) (fun z z1 z2 => by rw [eG50]; funext y; rw [gset_ne _ _ (fun w => z2 w.1), gnew_ne _ _ _ _ _ z1]) (gsaE eG50) hsG50 (by rw [eG50]; rfl) (by rw [eG50]; rfl) (by rw [eG50]; rfl)
      have hFG50 : WX (fun x => x = o ∨ x = o + 1) G G50 := WX.set (WX.new WX.rf KX.rf rfl hnd) eG50 (by show _; omega)
      have hqG50 : gS G50 o 0 = (nm : Int) := gsaE eG50
      have hkG50 : gK G50 nm = (1, (z49).toNat) := by rw [eG50, gset_K]; exact gnew_K _ _ _ _ _ _
      have hzG50 : gS G50 68184 = gS G 68184 := by rw [gset_o eG50 (x := 68184) (by omega)]; exact gnew_ne _ _ _ _ _ (by omega)
      have hz0G50 : gS G50 68184 0 = (qs : Int) := by rw [hzG50]; exact hs1
      have hz1G50 : gS G50 68184 1 = gS G 68184 1 := by rw [hzG50]
      have hmz : nm % 1048576 = o + 1 := by omega
      show WP kX6_keep X 32 [some (2, ((o : Nat) : Int)), some (2, ((68184 : Nat) : Int))] [] G50
      refine s_aload_n dX6_keep_32 rfl (Int.natCast_nonneg _) ?_
      have hk51 : gK G50 (68184) = (15, 0) := ((hXG50).k hk35 (by decide))
      refine s_alv (68184) (by simp) (fun al52 => ?_)
      refine s_getf (ci := 7) (k := 0) (C := RX6) (T := TX6) (N := 2) (n := 68184) (L := 0) (t := 2) dX6_keep_33 rfl wi_74 m_668 (Nat.le_of_ble_eq_true rfl) rfl rfl hk51 hz0G50 ?_
      refine s_iconst dX6_keep_36 (by decide) ?_
      refine s_aload_n dX6_keep_37 rfl (Int.natCast_nonneg _) ?_
      have hk54 : gK G50 (o) = (15, 0) := ((hXG50).k hk33 (by decide))
      refine s_alv (o) (by simp) (fun al55 => ?_)
      refine s_getf (ci := 7) (k := 0) (C := RX6) (T := TX6) (N := 2) (n := o) (L := 0) (t := 2) dX6_keep_38 rfl wi_74 m_668 (Nat.le_of_ble_eq_true rfl) rfl rfl hk54 hqG50 ?_
      refine s_iconst dX6_keep_41 (by decide) ?_
      refine s_aload_n dX6_keep_42 rfl (Int.natCast_nonneg _) ?_
      have hv57 : 0 ≤ (gS G50 68184 1) ∧ (gS G50 68184 1) ≤ 9811 := hCG50.1.v (j := 1) (by decide : cde 68184 = 124) al52 (by rw [hk51]; exact Nat.le_of_ble_eq_true rfl)
      refine s_getf (ci := 7) (k := 1) (C := RX6) (T := TX6) (N := 2) (n := 68184) (L := 0) (t := 0) dX6_keep_43 rfl wi_74 m_660 (Nat.le_of_ble_eq_true rfl) rfl rfl hk51 rfl ?_
      have hk58 : gK G50 (qs) = (1, Ls) := ((hXG50).k hs3 (by decide))
      refine s_copyI dX6_keep_46 m_1412 hk58 hkG50 (by omega) (by omega) (by omega) (by omega) (by omega) (by rw [hcf]; exact Nat.le_of_ble_eq_true rfl) (Nat.le_of_ble_eq_true rfl) ?_
      generalize eG59r : gcpy G50 qs (0 : Int).toNat nm (0 : Int).toNat (gS G50 68184 1 : Int).toNat = G59
      have eG59 := eG59r.symm
      have hCG59 : CI a b G59 := by rw [eG59]; exact hCG50.cpy (by rw [(by rw [cde_n (by omega) (by omega)]; omega : cde nm = 127)]; rfl) (fun _ _ _ => by rw [(by rw [cde_n (by omega) (by omega)]; omega : cde nm = 127)]; exact True.intro)
      have hXG59 : KX G50 G59 := KX.cpy KX.rf eG59
      have hFG59 : WX (fun x => x = o ∨ x = o + 1) G G59 := WX.cpy hFG50 eG59 (by show _; omega)
      show WP kX6_keep X 49 [some (2, ((o : Nat) : Int)), some (2, ((68184 : Nat) : Int))] [] G59
      refine s_aload_n dX6_keep_49 rfl (Int.natCast_nonneg _) ?_
      have hcwG59 : gS G59 68184 = gS G50 68184 := by rw [eG59]; exact gcpy_ne _ (by omega)
      have hcyG59 : gS G59 68184 1 = gS G50 68184 1 := by rw [hcwG59]
      have hczG59 : gS G59 o 0 = (nm : Int) := by rw [eG59, gcpy_ne _ (by omega)]; exact hqG50
      have hkzG59 : gK G59 nm = (1, (z49).toNat) := by rw [eG59, gcpy_K]; exact hkG50
      refine s_aload_n dX6_keep_50 rfl (Int.natCast_nonneg _) ?_
      have hk60 : gK G59 (68184) = (15, 0) := ((hXG59).k hk51 (by decide))
      refine s_alv (68184) (by simp) (fun al62 => ?_)
      have hv61 : 0 ≤ (gS G59 68184 1) ∧ (gS G59 68184 1) ≤ 9811 := hCG59.1.v (j := 1) (by decide : cde 68184 = 124) al62 (by rw [hk60]; exact Nat.le_of_ble_eq_true rfl)
      refine s_getf (ci := 7) (k := 1) (C := RX6) (T := TX6) (N := 2) (n := 68184) (L := 0) (t := 0) dX6_keep_51 rfl wi_74 m_660 (Nat.le_of_ble_eq_true rfl) rfl rfl hk60 rfl ?_
      have hk63 : gK G59 (o) = (15, 0) := ((hXG59).k hk54 (by decide))
      refine s_putf (ci := 7) (k := 1) (C := RX6) (T := TX6) (N := 2) (n := o) (L := 0) dX6_keep_54 rfl wi_74 m_660 (Nat.le_of_ble_eq_true rfl) rfl rfl tyX6_ok nmX6 rfl (Or.inl rfl) hk63 ?_
      generalize eG64r : gset G59 o 1 (gS G59 68184 1) = G64
      have eG64 := eG64r.symm
      have hCG64 : CI a b G64 := by rw [eG64]; exact hCG59.rowCountQ hco (by rw [show cde o = 126 from by rw [cde_n (by omega) (by omega)]; omega]; exact (show (0 : Int) ≤ _ ∧ _ ≤ (3270 : Int) from ⟨by omega, by omega⟩)) hczG59 hkzG59 (by omega)
      have hXG64 : KX G59 G64 := KX.set KX.rf eG64
      have hFG64 : WX (fun x => x = o ∨ x = o + 1) G G64 := WX.set hFG59 eG64 (by show _; omega)
      show WP kX6_keep X 57 [some (2, ((o : Nat) : Int)), some (2, ((68184 : Nat) : Int))] [] G64
      exact s_vret hR dX6_keep_57 rfl (hQ G64 hCG64 (KX.trans (KX.trans hXG50 hXG59) hXG64) hFG64 trivial)
