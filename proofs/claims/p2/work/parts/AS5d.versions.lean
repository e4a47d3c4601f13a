abbrev kX10_copy : KD := (RX10, cX10_copy, 2, none, [])
def TX10_copy : TR := fun as G Qr => ∃ (o w : Nat) (a b : Nat), as = [(2, ((o : Nat) : Int)), (2, ((w : Nat) : Int))] ∧ CI a b G ∧ (a ≤ 2840000 ∧ b ≤ 590000) ∧ (isVr o) ∧ (isVr w) ∧ ∀ (G' : LG), CI a b G' → KX G G' → WX (fun x => o + 1 ≤ x ∧ x ≤ o + 4) G G' → (True) → Qr (.inl none) G'
set_option maxHeartbeats 4000000 in
set_option maxRecDepth 100000 in
theorem gX10_copy : Good kX10_copy yX10_copy 1 TX10_copy := by
  refine good_of (by decide) rfl rfl (fun as G Qr h => ?_) (fun X as G Qr hcf hR hT oa => ?_)
  · obtain ⟨o, w, a, b, rfl, -⟩ := h; exact Nat.le_of_ble_eq_true rfl
  obtain ⟨o, w, a, b, rfl, hC, hab, ho, hw, hQ⟩ := hT
  show WP kX10_copy X 0 [some (2, ((o : Nat) : Int)), some (2, ((w : Nat) : Int))] [] G
  refine s_aload_n dX10_copy_0 rfl (Int.natCast_nonneg _) ?_
  refine s_alv (w) (by simp) (fun al1 => ?_)
  have hk2 : gK G (w) = (19, 0) := hC.1.k (by rw [cde_v (by omega) (by omega)]; omega : cde w = 200) al1
  have hv3 : gS G w 0 = ((w + 1 : Nat) : Int) := by have h9 : (gS G w 0) = (((w % 1048576) + 1 : Nat) : Int) := hC.1.v (j := 0) (by rw [cde_v (by omega) (by omega)]; omega : cde w = 200) al1 (by rw [hk2]; exact Nat.le_of_ble_eq_true rfl); omega
  refine s_getf (ci := 11) (k := 0) (C := RX10) (T := TX10) (N := 4) (n := w) (L := 0) (t := 2) dX10_copy_1 rfl wi_67 m_418 (Nat.le_of_ble_eq_true rfl) rfl rfl hk2 hv3 ?_
  refine s_iconst dX10_copy_4 (by decide) ?_
  refine s_aload_n dX10_copy_5 rfl (Int.natCast_nonneg _) ?_
  refine s_alv (o) (by simp) (fun al4 => ?_)
  have hk5 : gK G (o) = (19, 0) := hC.1.k (by rw [cde_v (by omega) (by omega)]; omega : cde o = 200) al4
  have hv6 : gS G o 0 = ((o + 1 : Nat) : Int) := by have h9 : (gS G o 0) = (((o % 1048576) + 1 : Nat) : Int) := hC.1.v (j := 0) (by rw [cde_v (by omega) (by omega)]; omega : cde o = 200) al4 (by rw [hk5]; exact Nat.le_of_ble_eq_true rfl); omega
  refine s_getf (ci := 11) (k := 0) (C := RX10) (T := TX10) (N := 4) (n := o) (L := 0) (t := 2) dX10_copy_6 rfl wi_67 m_418 (Nat.le_of_ble_eq_true rfl) rfl rfl hk5 hv6 ?_
  refine s_iconst dX10_copy_9 (by decide) ?_
  refine s_bipush dX10_copy_10 rfl (by decide) ?_
  refine s_alv (w + 1) (by simp) (fun al7 => ?_)
  have hk8 : gK G (w + 1) = (1, 6) := hC.1.k (by rw [cde_v (by omega) (by omega)]; omega : cde (w + 1) = 201) al7
  refine s_alv (o + 1) (by simp) (fun al9 => ?_)
  have hk10 : gK G (o + 1) = (1, 6) := hC.1.k (by rw [cde_v (by omega) (by omega)]; omega : cde (o + 1) = 201) al9
  refine s_copyI dX10_copy_12 m_1153 hk8 hk10 (by omega) (by omega) (by omega) (by omega) (by omega) (by rw [hcf]; exact Nat.le_of_ble_eq_true rfl) (Nat.le_of_ble_eq_true rfl) ?_
  generalize eG11r : gcpy G (w + 1) (0 : Int).toNat (o + 1) (0 : Int).toNat (6 : Int).toNat = G11
  have eG11 := eG11r.symm
  have hCG11 : TI G11 ∧ True := ⟨by rw [eG11]; exact hC.1.cpy (fun y9 _ hy9 => by have h9 := (hC.1 (w + 1) (kne hk8 (by decide))).2 y9 (by rw [hk8]; show y9 < 6; omega); rw [(by rw [cde_v (by omega) (by omega)]; omega : cde (w + 1) = 201)] at h9; rw [(by rw [cde_v (by omega) (by omega)]; omega : cde (o + 1) = 201), show ((0 : Int).toNat + (y9 - (0 : Int).toNat)) = y9 by omega]; exact h9), True.intro⟩
  have hXG11 : KX G G11 := KX.cpy KX.rf eG11
  have hFG11 : WX (fun x => o + 1 ≤ x ∧ x ≤ o + 4) G G11 := WX.cpy WX.rf eG11 (by show _; omega)
  show WP kX10_copy X 15 [some (2, ((o : Nat) : Int)), some (2, ((w : Nat) : Int))] [] G11
  refine s_aload_n dX10_copy_15 rfl (Int.natCast_nonneg _) ?_
  have hk12 : gK G11 (w) = (19, 0) := ((hXG11).k hk2 (by decide))
  refine s_alv (w) (by simp) (fun al13 => ?_)
  have hv14 : gS G11 w 1 = ((w + 2 : Nat) : Int) := by have h9 : (gS G11 w 1) = (((w % 1048576) + 2 : Nat) : Int) := hCG11.1.v (j := 1) (by rw [cde_v (by omega) (by omega)]; omega : cde w = 200) al13 (by rw [hk12]; exact Nat.le_of_ble_eq_true rfl); omega
  refine s_getf (ci := 11) (k := 1) (C := RX10) (T := TX10) (N := 4) (n := w) (L := 0) (t := 2) dX10_copy_16 rfl wi_67 m_415 (Nat.le_of_ble_eq_true rfl) rfl rfl hk12 hv14 ?_
  refine s_iconst dX10_copy_19 (by decide) ?_
  refine s_aload_n dX10_copy_20 rfl (Int.natCast_nonneg _) ?_
  have hk15 : gK G11 (o) = (19, 0) := ((hXG11).k hk5 (by decide))
  refine s_alv (o) (by simp) (fun al16 => ?_)
  have hv17 : gS G11 o 1 = ((o + 2 : Nat) : Int) := by have h9 : (gS G11 o 1) = (((o % 1048576) + 2 : Nat) : Int) := hCG11.1.v (j := 1) (by rw [cde_v (by omega) (by omega)]; omega : cde o = 200) al16 (by rw [hk15]; exact Nat.le_of_ble_eq_true rfl); omega
  refine s_getf (ci := 11) (k := 1) (C := RX10) (T := TX10) (N := 4) (n := o) (L := 0) (t := 2) dX10_copy_21 rfl wi_67 m_415 (Nat.le_of_ble_eq_true rfl) rfl rfl hk15 hv17 ?_
  refine s_iconst dX10_copy_24 (by decide) ?_
  refine s_bipush dX10_copy_25 rfl (by decide) ?_
  refine s_alv (w + 2) (by simp) (fun al18 => ?_)
  have hk19 : gK G11 (w + 2) = (1, 10) := hCG11.1.k (by rw [cde_v (by omega) (by omega)]; omega : cde (w + 2) = 202) al18
  refine s_alv (o + 2) (by simp) (fun al20 => ?_)
  have hk21 : gK G11 (o + 2) = (1, 10) := hCG11.1.k (by rw [cde_v (by omega) (by omega)]; omega : cde (o + 2) = 202) al20
  refine s_copyI dX10_copy_27 m_1153 hk19 hk21 (by omega) (by omega) (by omega) (by omega) (by omega) (by rw [hcf]; exact Nat.le_of_ble_eq_true rfl) (Nat.le_of_ble_eq_true rfl) ?_
  generalize eG22r : gcpy G11 (w + 2) (0 : Int).toNat (o + 2) (0 : Int).toNat (10 : Int).toNat = G22
  have eG22 := eG22r.symm
  have hCG22 : TI G22 ∧ True := ⟨by rw [eG22]; exact hCG11.1.cpy (fun y9 _ hy9 => by have h9 := (hCG11.1 (w + 2) (kne hk19 (by decide))).2 y9 (by rw [hk19]; show y9 < 10; omega); rw [(by rw [cde_v (by omega) (by omega)]; omega : cde (w + 2) = 202)] at h9; rw [(by rw [cde_v (by omega) (by omega)]; omega : cde (o + 2) = 202), show ((0 : Int).toNat + (y9 - (0 : Int).toNat)) = y9 by omega]; exact h9), True.intro⟩
  have hXG22 : KX G11 G22 := KX.cpy KX.rf eG22
  have hFG22 : WX (fun x => o + 1 ≤ x ∧ x ≤ o + 4) G G22 := WX.cpy hFG11 eG22 (by show _; omega)
  show WP kX10_copy X 30 [some (2, ((o : Nat) : Int)), some (2, ((w : Nat) : Int))] [] G22
  refine s_aload_n dX10_copy_30 rfl (Int.natCast_nonneg _) ?_
  have hk23 : gK G22 (w) = (19, 0) := ((hXG22).k hk12 (by decide))
  refine s_alv (w) (by simp) (fun al24 => ?_)
  have hv25 : gS G22 w 2 = ((w + 3 : Nat) : Int) := by have h9 : (gS G22 w 2) = (((w % 1048576) + 3 : Nat) : Int) := hCG22.1.v (j := 2) (by rw [cde_v (by omega) (by omega)]; omega : cde w = 200) al24 (by rw [hk23]; exact Nat.le_of_ble_eq_true rfl); omega
  refine s_getf (ci := 11) (k := 2) (C := RX10) (T := TX10) (N := 4) (n := w) (L := 0) (t := 2) dX10_copy_31 rfl wi_67 m_416 (Nat.le_of_ble_eq_true rfl) rfl rfl hk23 hv25 ?_
  refine s_iconst dX10_copy_34 (by decide) ?_
  refine s_aload_n dX10_copy_35 rfl (Int.natCast_nonneg _) ?_
  have hk26 : gK G22 (o) = (19, 0) := ((hXG22).k hk15 (by decide))
  refine s_alv (o) (by simp) (fun al27 => ?_)
  have hv28 : gS G22 o 2 = ((o + 3 : Nat) : Int) := by have h9 : (gS G22 o 2) = (((o % 1048576) + 3 : Nat) : Int) := hCG22.1.v (j := 2) (by rw [cde_v (by omega) (by omega)]; omega : cde o = 200) al27 (by rw [hk26]; exact Nat.le_of_ble_eq_true rfl); omega
  refine s_getf (ci := 11) (k := 2) (C := RX10) (T := TX10) (N := 4) (n := o) (L := 0) (t := 2) dX10_copy_36 rfl wi_67 m_416 (Nat.le_of_ble_eq_true rfl) rfl rfl hk26 hv28 ?_
  refine s_iconst dX10_copy_39 (by decide) ?_
  refine s_bipush dX10_copy_40 rfl (by decide) ?_
  refine s_alv (w + 3) (by simp) (fun al29 => ?_)
  have hk30 : gK G22 (w + 3) = (1, 10) := hCG22.1.k (by rw [cde_v (by omega) (by omega)]; omega : cde (w + 3) = 203) al29
  refine s_alv (o + 3) (by simp) (fun al31 => ?_)
  have hk32 : gK G22 (o + 3) = (1, 10) := hCG22.1.k (by rw [cde_v (by omega) (by omega)]; omega : cde (o + 3) = 203) al31
  refine s_copyI dX10_copy_42 m_1153 hk30 hk32 (by omega) (by omega) (by omega) (by omega) (by omega) (by rw [hcf]; exact Nat.le_of_ble_eq_true rfl) (Nat.le_of_ble_eq_true rfl) ?_
  generalize eG33r : gcpy G22 (w + 3) (0 : Int).toNat (o + 3) (0 : Int).toNat (10 : Int).toNat = G33
  have eG33 := eG33r.symm
  have hCG33 : TI G33 ∧ True := ⟨by rw [eG33]; exact hCG22.1.cpy (fun y9 _ hy9 => by have h9 := (hCG22.1 (w + 3) (kne hk30 (by decide))).2 y9 (by rw [hk30]; show y9 < 10; omega); rw [(by rw [cde_v (by omega) (by omega)]; omega : cde (w + 3) = 203)] at h9; rw [(by rw [cde_v (by omega) (by omega)]; omega : cde (o + 3) = 203), show ((0 : Int).toNat + (y9 - (0 : Int).toNat)) = y9 by omega]; exact h9), True.intro⟩
  have hXG33 : KX G22 G33 := KX.cpy KX.rf eG33
  have hFG33 : WX (fun x => o + 1 ≤ x ∧ x ≤ o + 4) G G33 := WX.cpy hFG22 eG33 (by show _; omega)
  show WP kX10_copy X 45 [some (2, ((o : Nat) : Int)), some (2, ((w : Nat) : Int))] [] G33
  refine s_aload_n dX10_copy_45 rfl (Int.natCast_nonneg _) ?_
  have hk34 : gK G33 (w) = (19, 0) := ((hXG33).k hk23 (by decide))
  refine s_alv (w) (by simp) (fun al35 => ?_)
  have hv36 : gS G33 w 3 = ((w + 4 : Nat) : Int) := by have h9 : (gS G33 w 3) = (((w % 1048576) + 4 : Nat) : Int) := hCG33.1.v (j := 3) (by rw [cde_v (by omega) (by omega)]; omega : cde w = 200) al35 (by rw [hk34]; exact Nat.le_of_ble_eq_true rfl); omega
  refine s_getf (ci := 11) (k := 3) (C := RX10) (T := TX10) (N := 4) (n := w) (L := 0) (t := 2) dX10_copy_46 rfl wi_67 m_417 (Nat.le_of_ble_eq_true rfl) rfl rfl hk34 hv36 ?_
  refine s_iconst dX10_copy_49 (by decide) ?_
  refine s_aload_n dX10_copy_50 rfl (Int.natCast_nonneg _) ?_
  have hk37 : gK G33 (o) = (19, 0) := ((hXG33).k hk26 (by decide))
  refine s_alv (o) (by simp) (fun al38 => ?_)
  have hv39 : gS G33 o 3 = ((o + 4 : Nat) : Int) := by have h9 : (gS G33 o 3) = (((o % 1048576) + 4 : Nat) : Int) := hCG33.1.v (j := 3) (by rw [cde_v (by omega) (by omega)]; omega : cde o = 200) al38 (by rw [hk37]; exact Nat.le_of_ble_eq_true rfl); omega
  refine s_getf (ci := 11) (k := 3) (C := RX10) (T := TX10) (N := 4) (n := o) (L := 0) (t := 2) dX10_copy_51 rfl wi_67 m_417 (Nat.le_of_ble_eq_true rfl) rfl rfl hk37 hv39 ?_
  refine s_iconst dX10_copy_54 (by decide) ?_
  refine s_bipush dX10_copy_55 rfl (by decide) ?_
  refine s_alv (w + 4) (by simp) (fun al40 => ?_)
  have hk41 : gK G33 (w + 4) = (1, 10) := hCG33.1.k (by rw [cde_v (by omega) (by omega)]; omega : cde (w + 4) = 204) al40
  refine s_alv (o + 4) (by simp) (fun al42 => ?_)
  have hk43 : gK G33 (o + 4) = (1, 10) := hCG33.1.k (by rw [cde_v (by omega) (by omega)]; omega : cde (o + 4) = 204) al42
  refine s_copyI dX10_copy_57 m_1153 hk41 hk43 (by omega) (by omega) (by omega) (by omega) (by omega) (by rw [hcf]; exact Nat.le_of_ble_eq_true rfl) (Nat.le_of_ble_eq_true rfl) ?_
  generalize eG44r : gcpy G33 (w + 4) (0 : Int).toNat (o + 4) (0 : Int).toNat (10 : Int).toNat = G44
  have eG44 := eG44r.symm
  have hCG44 : TI G44 ∧ True := ⟨by rw [eG44]; exact hCG33.1.cpy (fun y9 _ hy9 => by have h9 := (hCG33.1 (w + 4) (kne hk41 (by decide))).2 y9 (by rw [hk41]; show y9 < 10; omega); rw [(by rw [cde_v (by omega) (by omega)]; omega : cde (w + 4) = 204)] at h9; rw [(by rw [cde_v (by omega) (by omega)]; omega : cde (o + 4) = 204), show ((0 : Int).toNat + (y9 - (0 : Int).toNat)) = y9 by omega]; exact h9), True.intro⟩
  have hXG44 : KX G33 G44 := KX.cpy KX.rf eG44
  have hFG44 : WX (fun x => o + 1 ≤ x ∧ x ≤ o + 4) G G44 := WX.cpy hFG33 eG44 (by show _; omega)
  show WP kX10_copy X 60 [some (2, ((o : Nat) : Int)), some (2, ((w : Nat) : Int))] [] G44
  have f9 : ∀ z, z ≠ o + 1 → z ≠ o + 2 → z ≠ o + 3 → z ≠ o + 4 → gS G44 z = gS G z := fun z z1 z2 z3 z4 => by rw [eG44, gcpy_ne _ z4, eG33, gcpy_ne _ z3, eG22, gcpy_ne _ z2, eG11, gcpy_ne _ z1]
  have v2 : ∀ k, k < 10 → gS G44 (o + 2) k = gS G (w + 2) k := fun k hk => by rw [eG44, gcpy_ne _ (by omega), eG33, gcpy_ne _ (by omega), eG22, gcpy_at, if_pos ⟨Nat.zero_le _, by omega⟩, show ((0 : Int).toNat + (k - (0 : Int).toNat)) = k by omega, eG11, gcpy_ne _ (by omega)]
  have v3 : ∀ k, k < 10 → gS G44 (o + 3) k = gS G (w + 3) k := fun k hk => by rw [eG44, gcpy_ne _ (by omega), eG33, gcpy_at, if_pos ⟨Nat.zero_le _, by omega⟩, show ((0 : Int).toNat + (k - (0 : Int).toNat)) = k by omega, eG22, gcpy_ne _ (by omega), eG11, gcpy_ne _ (by omega)]
  have hK4 : gK G44 = gK G := by rw [eG44, eG33, eG22, eG11]; rfl
  have hc4 : gc G44 = gc G := by rw [eG44, eG33, eG22, eG11]; rfl
  have hs4 : gs G44 = gs G := by rw [eG44, eG33, eG22, eG11]; rfl
  have fl : ∀ z, z < 131072 ∨ 196608 ≤ z → gS G44 z = gS G z := fun z hz => f9 z (by omega) (by omega) (by omega) (by omega)
  obtain ⟨jw, hjw, hwj⟩ : ∃ j, j < 40 ∧ w = 131072 + 64 * j := ⟨(w - 131072) / 64, by omega, by omega⟩
  have h68 := hC.2.2.2.2.2.2.2.1
  have h8 : E8 G44 := ⟨fun j k hj hk hv => by rw [fl 327681 (by omega)]; by_cases q : 131072 + 64 * j = o; (focus (rw [show 131072 + 64 * j + 2 = o + 2 by omega, v2 k hk] at hv ⊢; rw [show 131072 + 64 * j + 3 = o + 3 by omega, v3 k hk]; rw [hwj] at hv ⊢; exact h68.1 jw k hjw hk hv)); (focus (rw [f9 (131072 + 64 * j + 2) (by omega) (by omega) (by omega) (by omega)] at hv ⊢; rw [f9 (131072 + 64 * j + 3) (by omega) (by omega) (by omega) (by omega)]; exact h68.1 j k hj hk hv)), by rw [fl 327681 (by omega), fl 327697 (by omega)]; exact h68.2⟩
  have h6 : E6 G44 := fun x x0 x1 => by rw [fl 327681 (by omega)] at x1; rw [fl 327701 (by omega), fl 327702 (by omega), fl 327703 (by omega), fl 327704 (by omega), fl 327705 (by omega), fl 327707 (by omega)]; exact hC.2.2.2.2.2.2.1 x x0 x1
  have hoc : cde (o + 1) = 201 ∧ cde (o + 2) = 202 ∧ cde (o + 3) = 203 ∧ cde (o + 4) = 204 := ⟨by rw [cde_v (by omega) (by omega)]; omega, by rw [cde_v (by omega) (by omega)]; omega, by rw [cde_v (by omega) (by omega)]; omega, by rw [cde_v (by omega) (by omega)]; omega⟩
  have h9 : E9 G44 := hC.2.2.2.2.2.2.2.2.1.fr (fun z hz => f9 z (fun q => by rw [q] at hz; omega) (fun q => by rw [q] at hz; omega) (fun q => by rw [q] at hz; omega) (fun q => by rw [q] at hz; omega)) hK4 (by rw [fl 327681 (by omega)]; exact Int.le_refl _)
  have hC9 : CI a b G44 := ⟨hCG44.1, hC.2.prog (fun z hz => f9 z (spq_n (by rw [hoc.1]; rfl) hz) (spq_n (by rw [hoc.2.1]; rfl) hz) (spq_n (by rw [hoc.2.2.1]; rfl) hz) (spq_n (by rw [hoc.2.2.2]; rfl) hz)) hK4 hc4 hs4 h6 h8 h9⟩
  have hCG44 := hC9
  exact s_vret hR dX10_copy_60 rfl (hQ G44 hCG44 (KX.trans (KX.trans (KX.trans hXG11 hXG22) hXG33) hXG44) hFG44 trivial)
