abbrev kX6_clear : KD := (RX6, cX6_clear, 1, none, [])
def TX6_clear : TR := fun as G Qr => ∃ (a b : Nat), as = [(2, ((68184 : Nat) : Int))] ∧ CI a b G ∧ (a ≤ 2840000 ∧ b ≤ 590000) ∧ ∀ (G' : LG), CI a b G' → KX G G' → WX (fun x => x = 68184 ∨ x = 68185) G G' → (gS G' 68184 1 = 0) → Qr (.inl none) G'
set_option maxHeartbeats 4000000 in
set_option maxRecDepth 100000 in
theorem gX6_clear : Good kX6_clear yX6_clear 0 TX6_clear := by
  refine good_of (by decide) rfl rfl (fun as G Qr h => ?_) (fun X as G Qr hcf hR hT oa => ?_)
  · obtain ⟨a, b, rfl, -⟩ := h; exact Nat.le_of_ble_eq_true rfl
  obtain ⟨a, b, rfl, hC, hab, hQ⟩ := hT
  show WP kX6_clear X 0 [some (2, ((68184 : Nat) : Int))] [] G
  refine s_aload_n dX6_clear_0 rfl (Int.natCast_nonneg _) ?_
  refine s_iconst dX6_clear_1 (by decide) ?_
  refine s_alv (68184) (by simp) (fun al1 => ?_)
  have hk2 : gK G (68184) = (15, 0) := hC.1.k (by decide : cde 68184 = 124) al1
  refine s_putf (ci := 7) (k := 1) (C := RX6) (T := TX6) (N := 2) (n := 68184) (L := 0) dX6_clear_2 rfl wi_74 m_660 (Nat.le_of_ble_eq_true rfl) rfl rfl tyX6_ok nmX6 rfl (Or.inl rfl) hk2 ?_
  generalize eG3r : gset G 68184 1 0 = G3
  have eG3 := eG3r.symm
  have hCG3 : CI a b G3 := by rw [eG3]; exact hC.rowCount (Or.inl (by decide)) (show (0 : Int) ≤ 0 ∧ (0 : Int) ≤ 9811 from by decide) (fun q L _ _ => by omega)
  have hXG3 : KX G G3 := KX.set KX.rf eG3
  have hFG3 : WX (fun x => x = 68184 ∨ x = 68185) G G3 := WX.set WX.rf eG3 (by show _; decide)
  show WP kX6_clear X 5 [some (2, ((68184 : Nat) : Int))] [] G3
  exact s_vret hR dX6_clear_5 rfl (hQ G3 hCG3 hXG3 hFG3 (gsaE eG3))

abbrev kX6_add : KD := (RX6, cX6_add, 2, none, [])
def TX6_add : TR := fun as G Qr => ∃ (v : Int) (a b : Nat), as = [(2, ((68184 : Nat) : Int)), (0, v)] ∧ CI a b G ∧ (a ≤ 2840000 ∧ b ≤ 590000) ∧ (0 ≤ gS G 68184 1 ∧ gS G 68184 1 ≤ 9810) ∧ ∀ (G' : LG), CI a b G' → KX G G' → WX (fun x => x = 68184 ∨ x = 68185) G G' → (gS G' 68184 1 = gS G 68184 1 + 1) → Qr (.inl none) G'
set_option maxHeartbeats 4000000 in
set_option maxRecDepth 100000 in
theorem gX6_add : Good kX6_add yX6_add 2 TX6_add := by
  refine good_of (by decide) rfl rfl (fun as G Qr h => ?_) (fun X as G Qr hcf hR hT oa => ?_)
  · obtain ⟨v, a, b, rfl, -⟩ := h; exact Nat.le_of_ble_eq_true rfl
  obtain ⟨v, a, b, rfl, hC, hab, hcn, hQ⟩ := hT
  show WP kX6_add X 0 [some (2, ((68184 : Nat) : Int)), some (0, v)] [] G
  have hr_v : inR v := okv_R (oa _ (by simp))
  refine s_alvl 68184 (k := 0) rfl (fun al0 => ?_)
  obtain ⟨qe, Le, he1, he2, he3, he4, he5⟩ := hC.2.1 68184 al0 (Or.inl (by decide))
  obtain ⟨Lz, hz1, -, hz3⟩ : ∃ L, gK G qe = (1, L) ∧ 16 ≤ L ∧ L ≤ 19622 := hC.1.k (c := 125) ((cde_mod (y := 68185) (by omega) (by decide)).trans (by decide)) (kne he3 (by decide))
  have hLe : Le ≤ 19622 := by rw [he3] at hz1; have := congrArg Prod.snd hz1; dsimp only at this; omega
  refine s_aload_n dX6_add_0 rfl (Int.natCast_nonneg _) ?_
  have hk1 : gK G (68184) = (15, 0) := hC.1.k (by decide : cde 68184 = 124) al0
  have hv2 : 0 ≤ (gS G 68184 1) ∧ (gS G 68184 1) ≤ 9811 := hC.1.v (j := 1) (by decide : cde 68184 = 124) al0 (by rw [hk1]; exact Nat.le_of_ble_eq_true rfl)
  refine s_getf (ci := 7) (k := 1) (C := RX6) (T := TX6) (N := 2) (n := 68184) (L := 0) (t := 0) dX6_add_1 rfl wi_74 m_660 (Nat.le_of_ble_eq_true rfl) rfl rfl hk1 rfl ?_
  refine s_aload_n dX6_add_4 rfl (Int.natCast_nonneg _) ?_
  refine s_getf (ci := 7) (k := 0) (C := RX6) (T := TX6) (N := 2) (n := 68184) (L := 0) (t := 2) dX6_add_5 rfl wi_74 m_668 (Nat.le_of_ble_eq_true rfl) rfl rfl hk1 he1 ?_
  refine s_alen dX6_add_8 he3 (by decide) (by omega) ?_
  refine s_icmp_lt (tgt := 30) dX6_add_9 (by decide) (fun c4 => ?_) (fun c4 => ?_)
  · -- 9 to 30
    refine s_aload_n dX6_add_30 rfl (Int.natCast_nonneg _) ?_
    refine s_getf (ci := 7) (k := 0) (C := RX6) (T := TX6) (N := 2) (n := 68184) (L := 0) (t := 2) dX6_add_31 rfl wi_74 m_668 (Nat.le_of_ble_eq_true rfl) rfl rfl hk1 he1 ?_
    refine s_aload_n dX6_add_34 rfl (Int.natCast_nonneg _) ?_
    refine s_getf (ci := 7) (k := 1) (C := RX6) (T := TX6) (N := 2) (n := 68184) (L := 0) (t := 0) dX6_add_35 rfl wi_74 m_660 (Nat.le_of_ble_eq_true rfl) rfl rfl hk1 rfl ?_
    refine s_iload_n dX6_add_38 rfl ?_
    refine s_iast dX6_add_39 he3 (by omega) (by omega) ?_
    generalize eG7r : gset G qe ((gS G 68184 1 : Int).toNat) v = G7
    have eG7 := eG7r.symm
    have hCG7 : CI a b G7 := by rw [eG7]; exact hC.set (by rw [(by rw [cde_n (by omega) (by omega)]; omega : cde qe = 125)]; rfl) (by rw [(by rw [cde_n (by omega) (by omega)]; omega : cde qe = 125)]; exact trivial)
    have hXG7 : KX G G7 := KX.set KX.rf eG7
    have hFG7 : WX (fun x => x = 68184 ∨ x = 68185) G G7 := WX.set WX.rf eG7 (by show _; omega)
    show WP kX6_add X 40 [some (2, ((68184 : Nat) : Int)), some (0, v)] [] G7
    have hczG7 : gS G7 68184 0 = (qe : Int) := by rw [gset_o eG7 (x := 68184) (by omega)]; exact he1
    have hkzG7 : gK G7 qe = (1, Le) := by rw [eG7, gset_K]; exact he3
    have hcyG7 : gS G7 68184 1 = gS G 68184 1 := by rw [gset_o eG7 (x := 68184) (by omega)]
    refine s_aload_n dX6_add_40 rfl (Int.natCast_nonneg _) ?_
    refine s_dup dX6_add_41 (show (2 : Nat) ≠ 1 by decide) ?_
    have hk8 : gK G7 (68184) = (15, 0) := ((hXG7).k hk1 (by decide))
    refine s_alv (68184) (by simp) (fun al10 => ?_)
    have hv9 : 0 ≤ (gS G7 68184 1) ∧ (gS G7 68184 1) ≤ 9811 := hCG7.1.v (j := 1) (by decide : cde 68184 = 124) al10 (by rw [hk8]; exact Nat.le_of_ble_eq_true rfl)
    refine s_getf (ci := 7) (k := 1) (C := RX6) (T := TX6) (N := 2) (n := 68184) (L := 0) (t := 0) dX6_add_42 rfl wi_74 m_660 (Nat.le_of_ble_eq_true rfl) rfl rfl hk8 rfl ?_
    refine s_iconst dX6_add_45 (by decide) ?_
    refine s_iadd dX6_add_46 (by omega) ?_
    refine s_putf (ci := 7) (k := 1) (C := RX6) (T := TX6) (N := 2) (n := 68184) (L := 0) dX6_add_47 rfl wi_74 m_660 (Nat.le_of_ble_eq_true rfl) rfl rfl tyX6_ok nmX6 rfl (Or.inl rfl) hk8 ?_
    generalize eG11r : gset G7 68184 1 ((gS G7 68184 1) + 1) = G11
    have eG11 := eG11r.symm
    have hCG11 : CI a b G11 := by rw [eG11]; exact hCG7.rowCountQ (Or.inl (by decide)) (show (0 : Int) ≤ _ ∧ _ ≤ (9811 : Int) from ⟨by omega, by omega⟩) hczG7 hkzG7 (by omega)
    have hXG11 : KX G7 G11 := KX.set KX.rf eG11
    have hFG11 : WX (fun x => x = 68184 ∨ x = 68185) G G11 := WX.set hFG7 eG11 (by show _; omega)
    show WP kX6_add X 50 [some (2, ((68184 : Nat) : Int)), some (0, v)] [] G11
    exact s_vret hR dX6_add_50 rfl (hQ G11 hCG11 (KX.trans hXG7 hXG11) hFG11 ((gsaE eG11).trans (by omega)))
  · -- 9 to 12
    refine s_aload_n dX6_add_12 rfl (Int.natCast_nonneg _) ?_
    refine s_aload_n dX6_add_13 rfl (Int.natCast_nonneg _) ?_
    refine s_getf (ci := 7) (k := 0) (C := RX6) (T := TX6) (N := 2) (n := 68184) (L := 0) (t := 2) dX6_add_14 rfl wi_74 m_668 (Nat.le_of_ble_eq_true rfl) rfl rfl hk1 he1 ?_
    refine s_iconst dX6_add_17 (by decide) ?_
    refine s_aload_n dX6_add_18 rfl (Int.natCast_nonneg _) ?_
    refine s_getf (ci := 7) (k := 0) (C := RX6) (T := TX6) (N := 2) (n := 68184) (L := 0) (t := 2) dX6_add_19 rfl wi_74 m_668 (Nat.le_of_ble_eq_true rfl) rfl rfl hk1 he1 ?_
    refine s_alen dX6_add_22 he3 (by decide) (by omega) ?_
    refine s_imul dX6_add_23 (by omega) ?_
    obtain ⟨nm, hnm⟩ : ∃ nm : Nat, nm = 68184 + 1 + 1048576 * (1 + gc G) := ⟨_, rfl⟩
    have hroom := hC.room
    have hnd : (gK G nm).1 = 0 := hC.2.2.2.2.2.2.2.2.2.1.1 nm (by omega)
    refine s_callS2 (as := [(2, ((qe : Nat) : Int)), (0, 2 * (((Le : Nat) : Int)))]) (rest := [(2, ((68184 : Nat) : Int))]) gJ7_copyOf_59c91 dX6_add_24 m_1406 m_1748 m_705 m_43 ⟨by decide, by decide, show (parseMethodDescriptor yJ7_copyOf_59c91.desc).map (fun d => d.parameters.length) = some 2 from by decide +kernel⟩ (Nat.le_of_ble_eq_true rfl) (by rw [hcf]; exact Nat.le_of_ble_eq_true rfl) rfl (Nat.le_of_ble_eq_true rfl) ⟨qe, Le, nm, 2 * (((Le : Nat) : Int)), rfl, he3, by omega, ⟨by omega, by omega, by omega⟩, hnd, by omega, by omega, ?_⟩
    refine s_putf (ci := 7) (k := 0) (C := RX6) (T := TX6) (N := 2) (n := 68184) (L := 0) dX6_add_27 rfl wi_74 m_668 (Nat.le_of_ble_eq_true rfl) rfl rfl tyX6_ok nmX6 rfl (Or.inr (Or.inr (Or.inr (Or.inr ⟨_, rfl⟩)))) (by rw [gcpy_K, gnew_Kne _ _ _ _ _ (by omega)]; exact hk1) ?_
    generalize eG14r : gset (gcpy (gnew G nm 1 (2 * (((Le : Nat) : Int))).toNat (2 * (((Le : Nat) : Int))).toNat (fun _ => 0)) qe 0 nm 0 (if (2 * (((Le : Nat) : Int))) < (Le : Int) then 2 * (((Le : Nat) : Int)) else (Le : Int)).toNat) 68184 0 (nm : Int) = G14
    have eG14 := eG14r.symm
    have hXG14 : KX G G14 := KX.set (KX.cpy (KX.new KX.rf rfl hnd) rfl) eG14
    have hsG14 : gS G14 68184 1 = gS G 68184 1 := by rw [eG14, gset_ne _ _ (fun z => absurd z.2 (by decide)), gcpy_ne _ (by omega), gnew_ne _ _ _ _ _ (by omega)]
    have hCG14 : CI a b G14 := hC.growRow (x := 68184) (M := (2 * (((Le : Nat) : Int))).toNat) (Or.inr rfl) (kne hk1 (by decide)) he1 he3 (by omega) (by omega) (show ∃ L, ((1 : Nat), (2 * (((Le : Nat) : Int))).toNat) = (1, L) ∧ 16 ≤ L ∧ L ≤ 19622 from ⟨_, rfl, by omega, by omega⟩) hnm (by omega) (fun z z1 z2 => by rw [eG14]; funext y; rw [gset_ne _ _ (fun w => z2 w.1), gcpy_ne _ z1, gnew_ne _ _ _ _ _ z1]) (gsaE eG14) hsG14 (by rw [eG14]; rfl) (by rw [eG14]; rfl) (by rw [eG14]; rfl)
    have hFG14 : WX (fun x => x = 68184 ∨ x = 68185) G G14 := WX.set (WX.cpy (WX.new WX.rf KX.rf rfl hnd) rfl (by show _; omega)) eG14 (by show _; decide)
    have hqG14 : gS G14 68184 0 = (nm : Int) := gsaE eG14
    have hkG14 : gK G14 nm = (1, (2 * (((Le : Nat) : Int))).toNat) := by rw [eG14, gset_K, gcpy_K]; exact gnew_K _ _ _ _ _ _
    have hko15 : gK G14 68184 = (15, 0) := hXG14.k hk1 (by decide)
    have hmz : nm % 1048576 = 68185 := by omega
    show WP kX6_add X 30 [some (2, ((68184 : Nat) : Int)), some (0, v)] [] G14
    refine s_aload_n dX6_add_30 rfl (Int.natCast_nonneg _) ?_
    refine s_alv (68184) (by simp) (fun al16 => ?_)
    refine s_getf (ci := 7) (k := 0) (C := RX6) (T := TX6) (N := 2) (n := 68184) (L := 0) (t := 2) dX6_add_31 rfl wi_74 m_668 (Nat.le_of_ble_eq_true rfl) rfl rfl hko15 hqG14 ?_
    refine s_aload_n dX6_add_34 rfl (Int.natCast_nonneg _) ?_
    have hv18 : 0 ≤ (gS G14 68184 1) ∧ (gS G14 68184 1) ≤ 9811 := hCG14.1.v (j := 1) (by decide : cde 68184 = 124) al16 (by rw [hko15]; exact Nat.le_of_ble_eq_true rfl)
    refine s_getf (ci := 7) (k := 1) (C := RX6) (T := TX6) (N := 2) (n := 68184) (L := 0) (t := 0) dX6_add_35 rfl wi_74 m_660 (Nat.le_of_ble_eq_true rfl) rfl rfl hko15 rfl ?_
    refine s_iload_n dX6_add_38 rfl ?_
    refine s_iast dX6_add_39 hkG14 (by omega) (by omega) ?_
    generalize eG19r : gset G14 nm ((gS G14 68184 1 : Int).toNat) v = G19
    have eG19 := eG19r.symm
    have hCG19 : CI a b G19 := by rw [eG19]; exact hCG14.set (by rw [(by rw [cde_n (by omega) (by omega)]; omega : cde nm = 125)]; rfl) (by rw [(by rw [cde_n (by omega) (by omega)]; omega : cde nm = 125)]; exact trivial)
    have hXG19 : KX G14 G19 := KX.set KX.rf eG19
    have hFG19 : WX (fun x => x = 68184 ∨ x = 68185) G G19 := WX.set hFG14 eG19 (by show _; omega)
    show WP kX6_add X 40 [some (2, ((68184 : Nat) : Int)), some (0, v)] [] G19
    have hczG19 : gS G19 68184 0 = (nm : Int) := by rw [gset_o eG19 (x := 68184) (by omega)]; exact hqG14
    have hkzG19 : gK G19 nm = (1, (2 * (((Le : Nat) : Int))).toNat) := by rw [eG19, gset_K]; exact hkG14
    have hcyG19 : gS G19 68184 1 = gS G14 68184 1 := by rw [gset_o eG19 (x := 68184) (by omega)]
    refine s_aload_n dX6_add_40 rfl (Int.natCast_nonneg _) ?_
    refine s_dup dX6_add_41 (show (2 : Nat) ≠ 1 by decide) ?_
    have hk20 : gK G19 (68184) = (15, 0) := ((hXG19).k hko15 (by decide))
    refine s_alv (68184) (by simp) (fun al22 => ?_)
    have hv21 : 0 ≤ (gS G19 68184 1) ∧ (gS G19 68184 1) ≤ 9811 := hCG19.1.v (j := 1) (by decide : cde 68184 = 124) al22 (by rw [hk20]; exact Nat.le_of_ble_eq_true rfl)
    refine s_getf (ci := 7) (k := 1) (C := RX6) (T := TX6) (N := 2) (n := 68184) (L := 0) (t := 0) dX6_add_42 rfl wi_74 m_660 (Nat.le_of_ble_eq_true rfl) rfl rfl hk20 rfl ?_
    refine s_iconst dX6_add_45 (by decide) ?_
    refine s_iadd dX6_add_46 (by omega) ?_
    refine s_putf (ci := 7) (k := 1) (C := RX6) (T := TX6) (N := 2) (n := 68184) (L := 0) dX6_add_47 rfl wi_74 m_660 (Nat.le_of_ble_eq_true rfl) rfl rfl tyX6_ok nmX6 rfl (Or.inl rfl) hk20 ?_
    generalize eG23r : gset G19 68184 1 ((gS G19 68184 1) + 1) = G23
    have eG23 := eG23r.symm
    have hCG23 : CI a b G23 := by rw [eG23]; exact hCG19.rowCountQ (Or.inl (by decide)) (show (0 : Int) ≤ _ ∧ _ ≤ (9811 : Int) from ⟨by omega, by omega⟩) hczG19 hkzG19 (by omega)
    have hXG23 : KX G19 G23 := KX.set KX.rf eG23
    have hFG23 : WX (fun x => x = 68184 ∨ x = 68185) G G23 := WX.set hFG19 eG23 (by show _; omega)
    show WP kX6_add X 50 [some (2, ((68184 : Nat) : Int)), some (0, v)] [] G23
    exact s_vret hR dX6_add_50 rfl (hQ G23 hCG23 (KX.trans (KX.trans hXG14 hXG19) hXG23) hFG23 ((gsaE eG23).trans (by omega)))

abbrev kX6_addParts : KD := (RX6, cX6_addParts, 4, none, [])
def TX6_addParts : TR := fun as G Qr => ∃ (r N : Nat) (n : Int) (a b : Nat), as = [(2, ((68184 : Nat) : Int)), (2, ((r : Nat) : Int)), (0, n)] ∧ CI a b G ∧ (a ≤ 2840000 ∧ b ≤ 590000) ∧ (gK G r = (1, N)) ∧ (N ≤ 1000000) ∧ (n ≤ 200) ∧ (0 ≤ gS G 68184 1 ∧ gS G 68184 1 ≤ 9610) ∧ ∀ (G' : LG), CI a b G' → KX G G' → WX (fun x => x = 68184 ∨ x = 68185) G G' → (0 ≤ gS G' 68184 1 ∧ gS G' 68184 1 ≤ gS G 68184 1 + 201) → Qr (.inl none) G'
set_option maxHeartbeats 4000000 in
set_option maxRecDepth 100000 in
theorem gX6_addParts : Good kX6_addParts yX6_addParts 3 TX6_addParts := by
  refine good_of (by decide) rfl rfl (fun as G Qr h => ?_) (fun X as G Qr hcf hR hT oa => ?_)
  · obtain ⟨r, N, n, a, b, rfl, -⟩ := h; exact Nat.le_of_ble_eq_true rfl
  obtain ⟨r, N, n, a, b, rfl, hC, hab, hkr, hN, hn, hcn, hQ⟩ := hT
  show WP kX6_addParts X 0 [some (2, ((68184 : Nat) : Int)), some (2, ((r : Nat) : Int)), some (0, n), none] [] G
  have hr_n : inR n := okv_R (oa _ (by simp))
  refine s_aload_n dX6_addParts_0 rfl (Int.natCast_nonneg _) ?_
  refine s_iload_n dX6_addParts_1 rfl ?_
  refine s_alv (68184) (by simp) (fun al3 => ?_)
  have hk4 : gK G (68184) = (15, 0) := hC.1.k (by decide : cde 68184 = 124) al3
  refine s_callV (as := [(0, n)]) (rest := []) (n := 68184) (ci := 7) gX6_add dX6_addParts_2 m_1408 m_986 m_1711 m_720 m_334 ⟨by decide, by decide, show (parseMethodDescriptor yX6_add.desc).map (fun d => d.parameters.length) = some 1 from by decide +kernel⟩ (Nat.le_of_ble_eq_true rfl) (by rw [hcf]; exact Nat.le_of_ble_eq_true rfl) hk4 rfl rfl (Nat.le_of_ble_eq_true rfl) ⟨n, a, b, rfl, hC, hab, (by first | assumption | omega), fun G1 hCG1 hXG1 hfG1 hpG1 => ?_⟩
  have hFG1 : WX (fun x => x = 68184 ∨ x = 68185) G G1 := WX.trans WX.rf KX.rf (WX.mono hfG1 (fun x hx => by omega))
  show WP kX6_addParts X 5 [some (2, ((68184 : Nat) : Int)), some (2, ((r : Nat) : Int)), some (0, n), none] [] G1
  refine s_iconst dX6_addParts_5 (by decide) ?_
  refine s_istore_n dX6_addParts_6 (by decide) (lv' := [some (2, ((68184 : Nat) : Int)), some (2, ((r : Nat) : Int)), some (0, n), some (0, 0)]) rfl ?_
  have L5 : ∀ (n5 : Nat) (k5 : Int) (G5 : LG), CI a b G5 → KX G1 G5 → WX (fun x => x = 68184 ∨ x = 68185) G G5 → ((0 ≤ k5 ∧ k5 ≤ 200) ∧ (0 ≤ gS G5 68184 1 ∧ gS G5 68184 1 ≤ gS G 68184 1 + 1 + k5)) → (n - k5).toNat < n5 → WP kX6_addParts X 7 [some (2, ((68184 : Nat) : Int)), some (2, ((r : Nat) : Int)), some (0, n), some (0, k5)] [] G5 := by
    intro n5
    induction n5 with
    | zero => intro k5 G5 hCG5 hXG5 hFG5 hi5 hm5; exact absurd hm5 (Nat.not_lt_zero _)
    | succ n5 ih5 =>
      intro k5 G5 hCG5 hXG5 hFG5 hi5 hm5
      obtain ⟨ik5, ic5⟩ := hi5
      refine s_iload_n dX6_addParts_7 rfl ?_
      refine s_iload_n dX6_addParts_8 rfl ?_
      refine s_icmp_ge (tgt := 31) dX6_addParts_9 (by decide) (fun c6 => ?_) (fun c6 => ?_)
      · -- 9 to 31
        exact s_vret hR dX6_addParts_31 rfl (hQ G5 hCG5 (KX.trans hXG1 hXG5) hFG5 (by omega))
      · -- 9 to 12
        refine s_iload_n dX6_addParts_12 rfl ?_
        refine s_aload_n dX6_addParts_13 rfl (Int.natCast_nonneg _) ?_
        have hk7 : gK G5 (r) = (1, N) := ((hXG5).k ((hXG1).k hkr (by decide)) (by decide))
        refine s_alen dX6_addParts_14 hk7 (by decide) (by omega) ?_
        refine s_icmp_ge (tgt := 31) dX6_addParts_15 (by decide) (fun c8 => ?_) (fun c8 => ?_)
        · -- 15 to 31
          exact s_vret hR dX6_addParts_31 rfl (hQ G5 hCG5 (KX.trans hXG1 hXG5) hFG5 (by omega))
        · -- 15 to 18
          refine s_aload_n dX6_addParts_18 rfl (Int.natCast_nonneg _) ?_
          refine s_aload_n dX6_addParts_19 rfl (Int.natCast_nonneg _) ?_
          refine s_iload_n dX6_addParts_20 rfl ?_
          refine s_iald dX6_addParts_21 hk7 (by omega) (by omega) rfl ?_
          have hk11 : gK G5 (68184) = (15, 0) := ((hXG5).k ((hXG1).k hk4 (by decide)) (by decide))
          refine s_callV (as := [(0, gS G5 r ((k5 : Int).toNat))]) (rest := []) (n := 68184) (ci := 7) gX6_add dX6_addParts_22 m_1408 m_986 m_1711 m_720 m_334 ⟨by decide, by decide, show (parseMethodDescriptor yX6_add.desc).map (fun d => d.parameters.length) = some 1 from by decide +kernel⟩ (Nat.le_of_ble_eq_true rfl) (by rw [hcf]; exact Nat.le_of_ble_eq_true rfl) hk11 rfl rfl (Nat.le_of_ble_eq_true rfl) ⟨gS G5 r ((k5 : Int).toNat), a, b, rfl, hCG5, hab, (by first | assumption | omega), fun G9 hCG9 hXG9 hfG9 hpG9 => ?_⟩
          have hFG9 : WX (fun x => x = 68184 ∨ x = 68185) G G9 := WX.trans hFG5 (KX.trans hXG1 hXG5) (WX.mono hfG9 (fun x hx => by omega))
          show WP kX6_addParts X 25 [some (2, ((68184 : Nat) : Int)), some (2, ((r : Nat) : Int)), some (0, n), some (0, k5)] [] G9
          refine s_iinc dX6_addParts_25 (v := k5) rfl (by omega) (by decide) (lv' := [some (2, ((68184 : Nat) : Int)), some (2, ((r : Nat) : Int)), some (0, n), some (0, k5 + 1)]) rfl ?_
          refine s_goto (tgt := 7) dX6_addParts_28 (by decide) ?_
          exact ih5 (k5 + 1) G9 hCG9 (KX.trans hXG5 hXG9) hFG9 (⟨(by omega), (by omega)⟩) (by omega)
  exact L5 _ 0 G1 hCG1 KX.rf hFG1 (⟨(by omega), (by omega)⟩) (Nat.lt_succ_self _)

abbrev kX6_addValue : KD := (RX6, cX6_addValue, 3, none, [])
def TX6_addValue : TR := fun as G Qr => ∃ (o : Nat) (k : Int) (a b : Nat), as = [(2, ((68184 : Nat) : Int)), (2, ((o : Nat) : Int)), (0, k)] ∧ CI a b G ∧ (a ≤ 2840000 ∧ b ≤ 590000) ∧ (isFc o) ∧ (0 ≤ k ∧ k < 10) ∧ (0 ≤ gS G 68184 1 ∧ gS G 68184 1 ≤ 9607) ∧ ∀ (G' : LG), CI a b G' → KX G G' → WX (fun x => x = 68184 ∨ x = 68185) G G' → (0 ≤ gS G' 68184 1 ∧ gS G' 68184 1 ≤ gS G 68184 1 + 204) → Qr (.inl none) G'
set_option maxHeartbeats 4000000 in
set_option maxRecDepth 100000 in
theorem gX6_addValue : Good kX6_addValue yX6_addValue 4 TX6_addValue := by
  refine good_of (by decide) rfl rfl (fun as G Qr h => ?_) (fun X as G Qr hcf hR hT oa => ?_)
  · obtain ⟨o, k, a, b, rfl, -⟩ := h; exact Nat.le_of_ble_eq_true rfl
  obtain ⟨o, k, a, b, rfl, hC, hab, ho, hk, hcn, hQ⟩ := hT
  show WP kX6_addValue X 0 [some (2, ((68184 : Nat) : Int)), some (2, ((o : Nat) : Int)), some (0, k)] [] G
  have hr_k : inR k := okv_R (oa _ (by simp))
  refine s_aload_n dX6_addValue_0 rfl (Int.natCast_nonneg _) ?_
  refine s_aload_n dX6_addValue_1 rfl (Int.natCast_nonneg _) ?_
  refine s_alv (o) (by simp) (fun al1 => ?_)
  have hk2 : gK G (o) = (9, 0) := hC.1.k (by rw [cde_n (by omega) (by omega)]; omega : cde o = 101) al1
  have hv3 : gS G o 2 = ((o + 2 : Nat) : Int) := by have h9 : (gS G o 2) = (((o % 1048576) + 2 : Nat) : Int) := hC.1.v (j := 2) (by rw [cde_n (by omega) (by omega)]; omega : cde o = 101) al1 (by rw [hk2]; exact Nat.le_of_ble_eq_true rfl); omega
  refine s_getf (ci := 1) (k := 2) (C := RX0) (T := TX0) (N := 7) (n := o) (L := 0) (t := 2) dX6_addValue_2 rfl wi_65 m_665 (Nat.le_of_ble_eq_true rfl) rfl rfl hk2 hv3 ?_
  refine s_iload_n dX6_addValue_5 rfl ?_
  refine s_alv (o + 2) (by simp) (fun al4 => ?_)
  have hk5 : gK G (o + 2) = (1, 10) := hC.1.k (by rw [cde_n (by omega) (by omega)]; omega : cde (o + 2) = 103) al4
  refine s_iald dX6_addValue_6 hk5 (by omega) (by omega) rfl ?_
  refine s_alv (68184) (by simp) (fun al8 => ?_)
  have hk9 : gK G (68184) = (15, 0) := hC.1.k (by decide : cde 68184 = 124) al8
  refine s_callV (as := [(0, gS G (o + 2) ((k : Int).toNat))]) (rest := []) (n := 68184) (ci := 7) gX6_add dX6_addValue_7 m_1408 m_986 m_1711 m_720 m_334 ⟨by decide, by decide, show (parseMethodDescriptor yX6_add.desc).map (fun d => d.parameters.length) = some 1 from by decide +kernel⟩ (Nat.le_of_ble_eq_true rfl) (by rw [hcf]; exact Nat.le_of_ble_eq_true rfl) hk9 rfl rfl (Nat.le_of_ble_eq_true rfl) ⟨gS G (o + 2) ((k : Int).toNat), a, b, rfl, hC, hab, (by first | assumption | omega), fun G6 hCG6 hXG6 hfG6 hpG6 => ?_⟩
  have hFG6 : WX (fun x => x = 68184 ∨ x = 68185) G G6 := WX.trans WX.rf KX.rf (WX.mono hfG6 (fun x hx => by omega))
  show WP kX6_addValue X 10 [some (2, ((68184 : Nat) : Int)), some (2, ((o : Nat) : Int)), some (0, k)] [] G6
  refine s_aload_n dX6_addValue_10 rfl (Int.natCast_nonneg _) ?_
  refine s_aload_n dX6_addValue_11 rfl (Int.natCast_nonneg _) ?_
  have hk10 : gK G6 (o) = (9, 0) := ((hXG6).k hk2 (by decide))
  refine s_alv (o) (by simp) (fun al11 => ?_)
  have hv12 : gS G6 o 3 = ((o + 3 : Nat) : Int) := by have h9 : (gS G6 o 3) = (((o % 1048576) + 3 : Nat) : Int) := hCG6.1.v (j := 3) (by rw [cde_n (by omega) (by omega)]; omega : cde o = 101) al11 (by rw [hk10]; exact Nat.le_of_ble_eq_true rfl); omega
  refine s_getf (ci := 1) (k := 3) (C := RX0) (T := TX0) (N := 7) (n := o) (L := 0) (t := 2) dX6_addValue_12 rfl wi_65 m_663 (Nat.le_of_ble_eq_true rfl) rfl rfl hk10 hv12 ?_
  refine s_bipush dX6_addValue_15 rfl (by decide) ?_
  refine s_iload_n dX6_addValue_17 rfl ?_
  refine s_iadd dX6_addValue_18 (by omega) ?_
  refine s_alv (o + 3) (by simp) (fun al13 => ?_)
  have hk14 : gK G6 (o + 3) = (4, 16) := hCG6.1.k (by rw [cde_n (by omega) (by omega)]; omega : cde (o + 3) = 104) al13
  have hv16b : 0 ≤ (gS G6 (o + 3) (6 + k : Int).toNat) ∧ (gS G6 (o + 3) (6 + k : Int).toNat) % 1048576 = ((((o + 3) % 1048576) + 4 + ((6 + k : Int).toNat) : Nat) : Int) := hCG6.1.v (j := (6 + k : Int).toNat) (by rw [cde_n (by omega) (by omega)]; omega : cde (o + 3) = 104) al13 (by rw [hk14]; show (6 + k : Int).toNat < 16; omega)
  obtain ⟨q15, hv16⟩ : ∃ q : Nat, gS G6 (o + 3) (6 + k : Int).toNat = (q : Int) := ⟨(gS G6 (o + 3) (6 + k : Int).toNat).toNat, by omega⟩
  rw [hv16] at hv16b
  refine s_aald4 dX6_addValue_19 hk14 (by omega) (by omega) hv16 ?_
  refine s_aload_n dX6_addValue_20 rfl (Int.natCast_nonneg _) ?_
  have hv17 : gS G6 o 4 = ((o + 4 : Nat) : Int) := by have h9 : (gS G6 o 4) = (((o % 1048576) + 4 : Nat) : Int) := hCG6.1.v (j := 4) (by rw [cde_n (by omega) (by omega)]; omega : cde o = 101) al11 (by rw [hk10]; exact Nat.le_of_ble_eq_true rfl); omega
  refine s_getf (ci := 1) (k := 4) (C := RX0) (T := TX0) (N := 7) (n := o) (L := 0) (t := 2) dX6_addValue_21 rfl wi_65 m_664 (Nat.le_of_ble_eq_true rfl) rfl rfl hk10 hv17 ?_
  refine s_bipush dX6_addValue_24 rfl (by decide) ?_
  refine s_iload_n dX6_addValue_26 rfl ?_
  refine s_iadd dX6_addValue_27 (by omega) ?_
  refine s_alv (o + 4) (by simp) (fun al18 => ?_)
  have hk19 : gK G6 (o + 4) = (1, 16) := hCG6.1.k (by rw [cde_n (by omega) (by omega)]; omega : cde (o + 4) = 105) al18
  have hv20 : 0 ≤ (gS G6 (o + 4) (6 + k : Int).toNat) ∧ (gS G6 (o + 4) (6 + k : Int).toNat) ≤ 200 := hCG6.1.v (j := (6 + k : Int).toNat) (by rw [cde_n (by omega) (by omega)]; omega : cde (o + 4) = 105) al18 (by rw [hk19]; show (6 + k : Int).toNat < 16; omega)
  refine s_iald dX6_addValue_28 hk19 (by omega) (by omega) rfl ?_
  refine s_alv (q15) (by simp) (fun al21 => ?_)
  obtain ⟨L23, hk22, hL23a, hL23b⟩ := hCG6.1.kr (show 108 ≤ cde q15 ∧ cde q15 < 124 from by rw [cde_n (by omega) (by omega)]; omega) al21
  have hk26 : gK G6 (68184) = (15, 0) := ((hXG6).k hk9 (by decide))
  refine s_callV (as := [(2, ((q15 : Nat) : Int)), (0, gS G6 (o + 4) ((6 + k : Int).toNat))]) (rest := []) (n := 68184) (ci := 7) gX6_addParts dX6_addValue_29 m_1409 m_988 m_1713 m_720 m_336 ⟨by decide, by decide, show (parseMethodDescriptor yX6_addParts.desc).map (fun d => d.parameters.length) = some 2 from by decide +kernel⟩ (Nat.le_of_ble_eq_true rfl) (by rw [hcf]; exact Nat.le_of_ble_eq_true rfl) hk26 rfl rfl (Nat.le_of_ble_eq_true rfl) ⟨q15, L23, gS G6 (o + 4) ((6 + k : Int).toNat), a, b, rfl, hCG6, hab, hk22, (by first | assumption | omega), (by first | assumption | omega), (by first | assumption | omega), fun G24 hCG24 hXG24 hfG24 hpG24 => ?_⟩
  have hFG24 : WX (fun x => x = 68184 ∨ x = 68185) G G24 := WX.trans hFG6 hXG6 (WX.mono hfG24 (fun x hx => by omega))
  show WP kX6_addValue X 32 [some (2, ((68184 : Nat) : Int)), some (2, ((o : Nat) : Int)), some (0, k)] [] G24
  refine s_aload_n dX6_addValue_32 rfl (Int.natCast_nonneg _) ?_
  refine s_aload_n dX6_addValue_33 rfl (Int.natCast_nonneg _) ?_
  have hk27 : gK G24 (o) = (9, 0) := ((hXG24).k hk10 (by decide))
  refine s_alv (o) (by simp) (fun al28 => ?_)
  have hv29 : gS G24 o 5 = ((o + 5 : Nat) : Int) := by have h9 : (gS G24 o 5) = (((o % 1048576) + 5 : Nat) : Int) := hCG24.1.v (j := 5) (by rw [cde_n (by omega) (by omega)]; omega : cde o = 101) al28 (by rw [hk27]; exact Nat.le_of_ble_eq_true rfl); omega
  refine s_getf (ci := 1) (k := 5) (C := RX0) (T := TX0) (N := 7) (n := o) (L := 0) (t := 2) dX6_addValue_34 rfl wi_65 m_666 (Nat.le_of_ble_eq_true rfl) rfl rfl hk27 hv29 ?_
  refine s_iload_n dX6_addValue_37 rfl ?_
  refine s_alv (o + 5) (by simp) (fun al30 => ?_)
  have hk31 : gK G24 (o + 5) = (2, 10) := hCG24.1.k (by rw [cde_n (by omega) (by omega)]; omega : cde (o + 5) = 106) al30
  refine s_bald dX6_addValue_38 hk31 (by omega) (by omega) rfl ?_
  have J33 : ∀ z32 : Int, (((gS G24 (o + 5) ((k : Int).toNat)) = 0) ∧ z32 = 0) ∨ ((¬ (gS G24 (o + 5) ((k : Int).toNat)) = 0) ∧ z32 = 1) → WP kX6_addValue X 47 [some (2, ((68184 : Nat) : Int)), some (2, ((o : Nat) : Int)), some (0, k)] [(0, z32), (2, ((68184 : Nat) : Int))] G24 := by
    intro z32 hz32
    have hk36 : gK G24 (68184) = (15, 0) := ((hXG24).k hk26 (by decide))
    refine s_callV (as := [(0, z32)]) (rest := []) (n := 68184) (ci := 7) gX6_add dX6_addValue_47 m_1408 m_986 m_1711 m_720 m_334 ⟨by decide, by decide, show (parseMethodDescriptor yX6_add.desc).map (fun d => d.parameters.length) = some 1 from by decide +kernel⟩ (Nat.le_of_ble_eq_true rfl) (by rw [hcf]; exact Nat.le_of_ble_eq_true rfl) hk36 rfl rfl (Nat.le_of_ble_eq_true rfl) ⟨z32, a, b, rfl, hCG24, hab, (by first | assumption | omega), fun G34 hCG34 hXG34 hfG34 hpG34 => ?_⟩
    have hFG34 : WX (fun x => x = 68184 ∨ x = 68185) G G34 := WX.trans hFG24 (KX.trans hXG6 hXG24) (WX.mono hfG34 (fun x hx => by omega))
    show WP kX6_addValue X 50 [some (2, ((68184 : Nat) : Int)), some (2, ((o : Nat) : Int)), some (0, k)] [] G34
    refine s_aload_n dX6_addValue_50 rfl (Int.natCast_nonneg _) ?_
    refine s_aload_n dX6_addValue_51 rfl (Int.natCast_nonneg _) ?_
    have hk37 : gK G34 (o) = (9, 0) := ((hXG34).k hk27 (by decide))
    refine s_alv (o) (by simp) (fun al38 => ?_)
    have hv39 : gS G34 o 5 = ((o + 5 : Nat) : Int) := by have h9 : (gS G34 o 5) = (((o % 1048576) + 5 : Nat) : Int) := hCG34.1.v (j := 5) (by rw [cde_n (by omega) (by omega)]; omega : cde o = 101) al38 (by rw [hk37]; exact Nat.le_of_ble_eq_true rfl); omega
    refine s_getf (ci := 1) (k := 5) (C := RX0) (T := TX0) (N := 7) (n := o) (L := 0) (t := 2) dX6_addValue_52 rfl wi_65 m_666 (Nat.le_of_ble_eq_true rfl) rfl rfl hk37 hv39 ?_
    refine s_iload_n dX6_addValue_55 rfl ?_
    have hk40 : gK G34 (o + 5) = (2, 10) := ((hXG34).k hk31 (by decide))
    refine s_bald dX6_addValue_56 hk40 (by omega) (by omega) rfl ?_
    have J45 : ∀ z44 : Int, (((gS G34 (o + 5) ((k : Int).toNat)) = 0) ∧ z44 = 0) ∨ ((¬ (gS G34 (o + 5) ((k : Int).toNat)) = 0) ∧ z44 = gS G34 (o + 6) ((k : Int).toNat)) → WP kX6_addValue X 70 [some (2, ((68184 : Nat) : Int)), some (2, ((o : Nat) : Int)), some (0, k)] [(0, z44), (2, ((68184 : Nat) : Int))] G34 := by
      intro z44 hz44
      have hk48 : gK G34 (68184) = (15, 0) := ((hXG34).k hk36 (by decide))
      refine s_callV (as := [(0, z44)]) (rest := []) (n := 68184) (ci := 7) gX6_add dX6_addValue_70 m_1408 m_986 m_1711 m_720 m_334 ⟨by decide, by decide, show (parseMethodDescriptor yX6_add.desc).map (fun d => d.parameters.length) = some 1 from by decide +kernel⟩ (Nat.le_of_ble_eq_true rfl) (by rw [hcf]; exact Nat.le_of_ble_eq_true rfl) hk48 rfl rfl (Nat.le_of_ble_eq_true rfl) ⟨z44, a, b, rfl, hCG34, hab, (by first | assumption | omega), fun G46 hCG46 hXG46 hfG46 hpG46 => ?_⟩
      have hFG46 : WX (fun x => x = 68184 ∨ x = 68185) G G46 := WX.trans hFG34 (KX.trans (KX.trans hXG6 hXG24) hXG34) (WX.mono hfG46 (fun x hx => by omega))
      show WP kX6_addValue X 73 [some (2, ((68184 : Nat) : Int)), some (2, ((o : Nat) : Int)), some (0, k)] [] G46
      exact s_vret hR dX6_addValue_73 rfl (hQ G46 hCG46 (KX.trans (KX.trans (KX.trans hXG6 hXG24) hXG34) hXG46) hFG46 (by omega))
    refine s_if_eq (tgt := 69) dX6_addValue_57 (by decide) (fun c49 => ?_) (fun c49 => ?_)
    · -- 57 to 69
      refine s_iconst dX6_addValue_69 (by decide) ?_
      exact J45 0 (Or.inl ⟨c49, rfl⟩)
    · -- 57 to 60
      refine s_aload_n dX6_addValue_60 rfl (Int.natCast_nonneg _) ?_
      have hv50 : gS G34 o 6 = ((o + 6 : Nat) : Int) := by have h9 : (gS G34 o 6) = (((o % 1048576) + 6 : Nat) : Int) := hCG34.1.v (j := 6) (by rw [cde_n (by omega) (by omega)]; omega : cde o = 101) al38 (by rw [hk37]; exact Nat.le_of_ble_eq_true rfl); omega
      refine s_getf (ci := 1) (k := 6) (C := RX0) (T := TX0) (N := 7) (n := o) (L := 0) (t := 2) dX6_addValue_61 rfl wi_65 m_667 (Nat.le_of_ble_eq_true rfl) rfl rfl hk37 hv50 ?_
      refine s_iload_n dX6_addValue_64 rfl ?_
      refine s_alv (o + 6) (by simp) (fun al51 => ?_)
      have hk52 : gK G34 (o + 6) = (1, 10) := hCG34.1.k (by rw [cde_n (by omega) (by omega)]; omega : cde (o + 6) = 107) al51
      refine s_iald dX6_addValue_65 hk52 (by omega) (by omega) rfl ?_
      refine s_goto (tgt := 70) dX6_addValue_66 (by decide) ?_
      exact J45 _ (Or.inr (⟨c49, rfl⟩))
  refine s_if_eq (tgt := 46) dX6_addValue_39 (by decide) (fun c53 => ?_) (fun c53 => ?_)
  · -- 39 to 46
    refine s_iconst dX6_addValue_46 (by decide) ?_
    exact J33 0 (Or.inl ⟨c53, rfl⟩)
  · -- 39 to 42
    refine s_iconst dX6_addValue_42 (by decide) ?_
    refine s_goto (tgt := 47) dX6_addValue_43 (by decide) ?_
    exact J33 1 (Or.inr (⟨c53, rfl⟩))

abbrev kX6_addFace : KD := (RX6, cX6_addFace, 4, none, [])
def TX6_addFace : TR := fun as G Qr => ∃ (o : Nat) (s : Int) (a b : Nat), as = [(2, ((68184 : Nat) : Int)), (2, ((o : Nat) : Int)), (0, s)] ∧ CI a b G ∧ (a ≤ 2840000 ∧ b ≤ 590000) ∧ (isFc o) ∧ (0 ≤ gS G 68184 1 ∧ gS G 68184 1 ≤ 6558) ∧ ∀ (G' : LG), CI a b G' → KX G G' → WX (fun x => x = 68184 ∨ x = 68185) G G' → (0 ≤ gS G' 68184 1 ∧ gS G' 68184 1 ≤ gS G 68184 1 + 3253) → Qr (.inl none) G'
set_option maxHeartbeats 4000000 in
set_option maxRecDepth 100000 in
theorem gX6_addFace : Good kX6_addFace yX6_addFace 5 TX6_addFace := by
  refine good_of (by decide) rfl rfl (fun as G Qr h => ?_) (fun X as G Qr hcf hR hT oa => ?_)
  · obtain ⟨o, s, a, b, rfl, -⟩ := h; exact Nat.le_of_ble_eq_true rfl
  obtain ⟨o, s, a, b, rfl, hC, hab, ho, hcn, hQ⟩ := hT
  show WP kX6_addFace X 0 [some (2, ((68184 : Nat) : Int)), some (2, ((o : Nat) : Int)), some (0, s), none] [] G
  have hr_s : inR s := okv_R (oa _ (by simp))
  refine s_aload_n dX6_addFace_0 rfl (Int.natCast_nonneg _) ?_
  refine s_aload_n dX6_addFace_1 rfl (Int.natCast_nonneg _) ?_
  refine s_alv (o) (by simp) (fun al1 => ?_)
  have hk2 : gK G (o) = (9, 0) := hC.1.k (by rw [cde_n (by omega) (by omega)]; omega : cde o = 101) al1
  refine s_getf (ci := 1) (k := 0) (C := RX0) (T := TX0) (N := 7) (n := o) (L := 0) (t := 0) dX6_addFace_2 rfl wi_65 m_661 (Nat.le_of_ble_eq_true rfl) rfl rfl hk2 rfl ?_
  refine s_alv (68184) (by simp) (fun al6 => ?_)
  have hk7 : gK G (68184) = (15, 0) := hC.1.k (by decide : cde 68184 = 124) al6
  refine s_callV (as := [(0, gS G o 0)]) (rest := []) (n := 68184) (ci := 7) gX6_add dX6_addFace_5 m_1408 m_986 m_1711 m_720 m_334 ⟨by decide, by decide, show (parseMethodDescriptor yX6_add.desc).map (fun d => d.parameters.length) = some 1 from by decide +kernel⟩ (Nat.le_of_ble_eq_true rfl) (by rw [hcf]; exact Nat.le_of_ble_eq_true rfl) hk7 rfl rfl (Nat.le_of_ble_eq_true rfl) ⟨gS G o 0, a, b, rfl, hC, hab, (by first | assumption | omega), fun G4 hCG4 hXG4 hfG4 hpG4 => ?_⟩
  have hFG4 : WX (fun x => x = 68184 ∨ x = 68185) G G4 := WX.trans WX.rf KX.rf (WX.mono hfG4 (fun x hx => by omega))
  show WP kX6_addFace X 8 [some (2, ((68184 : Nat) : Int)), some (2, ((o : Nat) : Int)), some (0, s), none] [] G4
  refine s_aload_n dX6_addFace_8 rfl (Int.natCast_nonneg _) ?_
  have hk8 : gK G4 (o) = (9, 0) := ((hXG4).k hk2 (by decide))
  refine s_getf (ci := 1) (k := 0) (C := RX0) (T := TX0) (N := 7) (n := o) (L := 0) (t := 0) dX6_addFace_9 rfl wi_65 m_661 (Nat.le_of_ble_eq_true rfl) rfl rfl hk8 rfl ?_
  refine s_if_eq (tgt := 16) dX6_addFace_12 (by decide) (fun c10 => ?_) (fun c10 => ?_)
  · -- 12 to 16
    refine s_iconst dX6_addFace_16 (by decide) ?_
    refine s_istore_n dX6_addFace_17 (by decide) (lv' := [some (2, ((68184 : Nat) : Int)), some (2, ((o : Nat) : Int)), some (0, s), some (0, 0)]) rfl ?_
    have L11 : ∀ (n11 : Nat) (k11 : Int) (G11 : LG), CI a b G11 → KX G4 G11 → WX (fun x => x = 68184 ∨ x = 68185) G G11 → ((0 ≤ k11 ∧ k11 ≤ 6) ∧ (0 ≤ gS G11 68184 1 ∧ gS G11 68184 1 ≤ gS G 68184 1 + 1 + 202 * k11)) → (6 - k11).toNat < n11 → WP kX6_addFace X 18 [some (2, ((68184 : Nat) : Int)), some (2, ((o : Nat) : Int)), some (0, s), some (0, k11)] [] G11 := by
      intro n11
      induction n11 with
      | zero => intro k11 G11 hCG11 hXG11 hFG11 hi11 hm11; exact absurd hm11 (Nat.not_lt_zero _)
      | succ n11 ih11 =>
        intro k11 G11 hCG11 hXG11 hFG11 hi11 hm11
        obtain ⟨ik11, ic11⟩ := hi11
        refine s_iload_n dX6_addFace_18 rfl ?_
        refine s_bipush dX6_addFace_19 rfl (by decide) ?_
        refine s_icmp_ge (tgt := 56) dX6_addFace_21 (by decide) (fun c12 => ?_) (fun c12 => ?_)
        · -- 21 to 56
          refine s_iconst dX6_addFace_56 (by decide) ?_
          refine s_istore_n dX6_addFace_57 (by decide) (lv' := [some (2, ((68184 : Nat) : Int)), some (2, ((o : Nat) : Int)), some (0, s), some (0, 0)]) rfl ?_
          have L13 : ∀ (n13 : Nat) (m13 : Int) (G13 : LG), CI a b G13 → KX G11 G13 → WX (fun x => x = 68184 ∨ x = 68185) G G13 → ((0 ≤ m13 ∧ m13 ≤ 10) ∧ (0 ≤ gS G13 68184 1 ∧ gS G13 68184 1 ≤ gS G 68184 1 + 1213 + 204 * m13)) → (10 - m13).toNat < n13 → WP kX6_addFace X 58 [some (2, ((68184 : Nat) : Int)), some (2, ((o : Nat) : Int)), some (0, s), some (0, m13)] [] G13 := by
            intro n13
            induction n13 with
            | zero => intro m13 G13 hCG13 hXG13 hFG13 hi13 hm13; exact absurd hm13 (Nat.not_lt_zero _)
            | succ n13 ih13 =>
              intro m13 G13 hCG13 hXG13 hFG13 hi13 hm13
              obtain ⟨im13, id13⟩ := hi13
              refine s_iload_n dX6_addFace_58 rfl ?_
              refine s_bipush dX6_addFace_59 rfl (by decide) ?_
              refine s_icmp_ge (tgt := 84) dX6_addFace_61 (by decide) (fun c14 => ?_) (fun c14 => ?_)
              · -- 61 to 84
                exact s_vret hR dX6_addFace_84 rfl (hQ G13 hCG13 (KX.trans (KX.trans hXG4 hXG11) hXG13) hFG13 (by omega))
              · -- 61 to 64
                refine s_iload_n dX6_addFace_64 rfl ?_
                refine s_iload_n dX6_addFace_65 rfl ?_
                refine s_callSN (own := RX6) rfl (by decide +kernel) (as := [(0, s), (0, m13)]) (rest := []) gX11_isIn dX6_addFace_66 m_1777 m_714 m_97 ⟨by decide, by decide, show (parseMethodDescriptor yX11_isIn.desc).map (fun d => d.parameters.length) = some 2 from by decide +kernel⟩ (Nat.le_of_ble_eq_true rfl) (by rw [hcf]; exact Nat.le_of_ble_eq_true rfl) rfl (Nat.le_of_ble_eq_true rfl) ⟨s, m13, rfl, fun rr15 hp16 => ?_⟩
                show WP kX6_addFace X 69 [some (2, ((68184 : Nat) : Int)), some (2, ((o : Nat) : Int)), some (0, s), some (0, m13)] [(0, rr15)] G13
                refine s_if_eq (tgt := 78) dX6_addFace_69 (by decide) (fun c17 => ?_) (fun c17 => ?_)
                · -- 69 to 78
                  refine s_iinc dX6_addFace_78 (v := m13) rfl (by omega) (by decide) (lv' := [some (2, ((68184 : Nat) : Int)), some (2, ((o : Nat) : Int)), some (0, s), some (0, m13 + 1)]) rfl ?_
                  refine s_goto (tgt := 58) dX6_addFace_81 (by decide) ?_
                  exact ih13 (m13 + 1) G13 hCG13 hXG13 hFG13 (⟨(by omega), (by omega)⟩) (by omega)
                · -- 69 to 72
                  refine s_aload_n dX6_addFace_72 rfl (Int.natCast_nonneg _) ?_
                  refine s_aload_n dX6_addFace_73 rfl (Int.natCast_nonneg _) ?_
                  refine s_iload_n dX6_addFace_74 rfl ?_
                  have hk20 : gK G13 (68184) = (15, 0) := ((hXG13).k ((hXG11).k ((hXG4).k hk7 (by decide)) (by decide)) (by decide))
                  refine s_callV (as := [(2, ((o : Nat) : Int)), (0, m13)]) (rest := []) (n := 68184) (ci := 7) gX6_addValue dX6_addFace_75 m_1410 m_989 m_1714 m_720 m_337 ⟨by decide, by decide, show (parseMethodDescriptor yX6_addValue.desc).map (fun d => d.parameters.length) = some 2 from by decide +kernel⟩ (Nat.le_of_ble_eq_true rfl) (by rw [hcf]; exact Nat.le_of_ble_eq_true rfl) hk20 rfl rfl (Nat.le_of_ble_eq_true rfl) ⟨o, m13, a, b, rfl, hCG13, hab, (by first | assumption | omega), (by first | assumption | omega), (by first | assumption | omega), fun G18 hCG18 hXG18 hfG18 hpG18 => ?_⟩
                  have hFG18 : WX (fun x => x = 68184 ∨ x = 68185) G G18 := WX.trans hFG13 (KX.trans (KX.trans hXG4 hXG11) hXG13) (WX.mono hfG18 (fun x hx => by omega))
                  show WP kX6_addFace X 78 [some (2, ((68184 : Nat) : Int)), some (2, ((o : Nat) : Int)), some (0, s), some (0, m13)] [] G18
                  refine s_iinc dX6_addFace_78 (v := m13) rfl (by omega) (by decide) (lv' := [some (2, ((68184 : Nat) : Int)), some (2, ((o : Nat) : Int)), some (0, s), some (0, m13 + 1)]) rfl ?_
                  refine s_goto (tgt := 58) dX6_addFace_81 (by decide) ?_
                  exact ih13 (m13 + 1) G18 hCG18 (KX.trans hXG13 hXG18) hFG18 (⟨(by omega), (by omega)⟩) (by omega)
          exact L13 _ 0 G11 hCG11 KX.rf hFG11 (⟨(by omega), (by omega)⟩) (Nat.lt_succ_self _)
        · -- 21 to 24
          refine s_aload_n dX6_addFace_24 rfl (Int.natCast_nonneg _) ?_
          refine s_aload_n dX6_addFace_25 rfl (Int.natCast_nonneg _) ?_
          have hk21 : gK G11 (o) = (9, 0) := ((hXG11).k hk8 (by decide))
          refine s_alv (o) (by simp) (fun al22 => ?_)
          have hv23 : gS G11 o 1 = ((o + 1 : Nat) : Int) := by have h9 : (gS G11 o 1) = (((o % 1048576) + 1 : Nat) : Int) := hCG11.1.v (j := 1) (by rw [cde_n (by omega) (by omega)]; omega : cde o = 101) al22 (by rw [hk21]; exact Nat.le_of_ble_eq_true rfl); omega
          refine s_getf (ci := 1) (k := 1) (C := RX0) (T := TX0) (N := 7) (n := o) (L := 0) (t := 2) dX6_addFace_26 rfl wi_65 m_662 (Nat.le_of_ble_eq_true rfl) rfl rfl hk21 hv23 ?_
          refine s_iload_n dX6_addFace_29 rfl ?_
          refine s_alv (o + 1) (by simp) (fun al24 => ?_)
          have hk25 : gK G11 (o + 1) = (1, 6) := hCG11.1.k (by rw [cde_n (by omega) (by omega)]; omega : cde (o + 1) = 102) al24
          refine s_iald dX6_addFace_30 hk25 (by omega) (by omega) rfl ?_
          have hk28 : gK G11 (68184) = (15, 0) := ((hXG11).k ((hXG4).k hk7 (by decide)) (by decide))
          refine s_callV (as := [(0, gS G11 (o + 1) ((k11 : Int).toNat))]) (rest := []) (n := 68184) (ci := 7) gX6_add dX6_addFace_31 m_1408 m_986 m_1711 m_720 m_334 ⟨by decide, by decide, show (parseMethodDescriptor yX6_add.desc).map (fun d => d.parameters.length) = some 1 from by decide +kernel⟩ (Nat.le_of_ble_eq_true rfl) (by rw [hcf]; exact Nat.le_of_ble_eq_true rfl) hk28 rfl rfl (Nat.le_of_ble_eq_true rfl) ⟨gS G11 (o + 1) ((k11 : Int).toNat), a, b, rfl, hCG11, hab, (by first | assumption | omega), fun G26 hCG26 hXG26 hfG26 hpG26 => ?_⟩
          have hFG26 : WX (fun x => x = 68184 ∨ x = 68185) G G26 := WX.trans hFG11 (KX.trans hXG4 hXG11) (WX.mono hfG26 (fun x hx => by omega))
          show WP kX6_addFace X 34 [some (2, ((68184 : Nat) : Int)), some (2, ((o : Nat) : Int)), some (0, s), some (0, k11)] [] G26
          refine s_aload_n dX6_addFace_34 rfl (Int.natCast_nonneg _) ?_
          refine s_aload_n dX6_addFace_35 rfl (Int.natCast_nonneg _) ?_
          have hk29 : gK G26 (o) = (9, 0) := ((hXG26).k hk21 (by decide))
          refine s_alv (o) (by simp) (fun al30 => ?_)
          have hv31 : gS G26 o 3 = ((o + 3 : Nat) : Int) := by have h9 : (gS G26 o 3) = (((o % 1048576) + 3 : Nat) : Int) := hCG26.1.v (j := 3) (by rw [cde_n (by omega) (by omega)]; omega : cde o = 101) al30 (by rw [hk29]; exact Nat.le_of_ble_eq_true rfl); omega
          refine s_getf (ci := 1) (k := 3) (C := RX0) (T := TX0) (N := 7) (n := o) (L := 0) (t := 2) dX6_addFace_36 rfl wi_65 m_663 (Nat.le_of_ble_eq_true rfl) rfl rfl hk29 hv31 ?_
          refine s_iload_n dX6_addFace_39 rfl ?_
          refine s_alv (o + 3) (by simp) (fun al32 => ?_)
          have hk33 : gK G26 (o + 3) = (4, 16) := hCG26.1.k (by rw [cde_n (by omega) (by omega)]; omega : cde (o + 3) = 104) al32
          have hv35b : 0 ≤ (gS G26 (o + 3) (k11 : Int).toNat) ∧ (gS G26 (o + 3) (k11 : Int).toNat) % 1048576 = ((((o + 3) % 1048576) + 4 + ((k11 : Int).toNat) : Nat) : Int) := hCG26.1.v (j := (k11 : Int).toNat) (by rw [cde_n (by omega) (by omega)]; omega : cde (o + 3) = 104) al32 (by rw [hk33]; show (k11 : Int).toNat < 16; omega)
          obtain ⟨q34, hv35⟩ : ∃ q : Nat, gS G26 (o + 3) (k11 : Int).toNat = (q : Int) := ⟨(gS G26 (o + 3) (k11 : Int).toNat).toNat, by omega⟩
          rw [hv35] at hv35b
          refine s_aald4 dX6_addFace_40 hk33 (by omega) (by omega) hv35 ?_
          refine s_aload_n dX6_addFace_41 rfl (Int.natCast_nonneg _) ?_
          have hv36 : gS G26 o 4 = ((o + 4 : Nat) : Int) := by have h9 : (gS G26 o 4) = (((o % 1048576) + 4 : Nat) : Int) := hCG26.1.v (j := 4) (by rw [cde_n (by omega) (by omega)]; omega : cde o = 101) al30 (by rw [hk29]; exact Nat.le_of_ble_eq_true rfl); omega
          refine s_getf (ci := 1) (k := 4) (C := RX0) (T := TX0) (N := 7) (n := o) (L := 0) (t := 2) dX6_addFace_42 rfl wi_65 m_664 (Nat.le_of_ble_eq_true rfl) rfl rfl hk29 hv36 ?_
          refine s_iload_n dX6_addFace_45 rfl ?_
          refine s_alv (o + 4) (by simp) (fun al37 => ?_)
          have hk38 : gK G26 (o + 4) = (1, 16) := hCG26.1.k (by rw [cde_n (by omega) (by omega)]; omega : cde (o + 4) = 105) al37
          have hv39 : 0 ≤ (gS G26 (o + 4) (k11 : Int).toNat) ∧ (gS G26 (o + 4) (k11 : Int).toNat) ≤ 200 := hCG26.1.v (j := (k11 : Int).toNat) (by rw [cde_n (by omega) (by omega)]; omega : cde (o + 4) = 105) al37 (by rw [hk38]; show (k11 : Int).toNat < 16; omega)
          refine s_iald dX6_addFace_46 hk38 (by omega) (by omega) rfl ?_
          refine s_alv (q34) (by simp) (fun al40 => ?_)
          obtain ⟨L42, hk41, hL42a, hL42b⟩ := hCG26.1.kr (show 108 ≤ cde q34 ∧ cde q34 < 124 from by rw [cde_n (by omega) (by omega)]; omega) al40
          have hk45 : gK G26 (68184) = (15, 0) := ((hXG26).k hk28 (by decide))
          refine s_callV (as := [(2, ((q34 : Nat) : Int)), (0, gS G26 (o + 4) ((k11 : Int).toNat))]) (rest := []) (n := 68184) (ci := 7) gX6_addParts dX6_addFace_47 m_1409 m_988 m_1713 m_720 m_336 ⟨by decide, by decide, show (parseMethodDescriptor yX6_addParts.desc).map (fun d => d.parameters.length) = some 2 from by decide +kernel⟩ (Nat.le_of_ble_eq_true rfl) (by rw [hcf]; exact Nat.le_of_ble_eq_true rfl) hk45 rfl rfl (Nat.le_of_ble_eq_true rfl) ⟨q34, L42, gS G26 (o + 4) ((k11 : Int).toNat), a, b, rfl, hCG26, hab, hk41, (by first | assumption | omega), (by first | assumption | omega), (by first | assumption | omega), fun G43 hCG43 hXG43 hfG43 hpG43 => ?_⟩
          have hFG43 : WX (fun x => x = 68184 ∨ x = 68185) G G43 := WX.trans hFG26 (KX.trans (KX.trans hXG4 hXG11) hXG26) (WX.mono hfG43 (fun x hx => by omega))
          show WP kX6_addFace X 50 [some (2, ((68184 : Nat) : Int)), some (2, ((o : Nat) : Int)), some (0, s), some (0, k11)] [] G43
          refine s_iinc dX6_addFace_50 (v := k11) rfl (by omega) (by decide) (lv' := [some (2, ((68184 : Nat) : Int)), some (2, ((o : Nat) : Int)), some (0, s), some (0, k11 + 1)]) rfl ?_
          refine s_goto (tgt := 18) dX6_addFace_53 (by decide) ?_
          exact ih11 (k11 + 1) G43 hCG43 (KX.trans (KX.trans hXG11 hXG26) hXG43) hFG43 (⟨(by omega), (by omega)⟩) (by omega)
    exact L11 _ 0 G4 hCG4 KX.rf hFG4 (⟨(by omega), (by omega)⟩) (Nat.lt_succ_self _)
  · -- 12 to 15
    exact s_vret hR dX6_addFace_15 rfl (hQ G4 hCG4 hXG4 hFG4 (by omega))

abbrev kX6_isSameAs : KD := (RX6, cX6_isSameAs, 2, (some .boolean), [])
def TX6_isSameAs : TR := fun as G Qr => ∃ (o : Nat) (a b : Nat), as = [(2, ((68184 : Nat) : Int)), (2, ((o : Nat) : Int))] ∧ CI a b G ∧ (a ≤ 2840000 ∧ b ≤ 590000) ∧ (65536 ≤ o ∧ o ≤ 68096) ∧ (o % 64 = 24 ∨ o % 64 = 26) ∧ ∀ (r : Int), (r = 0 ∨ r = 1) → Qr (.inl (some (0, r))) G
set_option maxHeartbeats 4000000 in
set_option maxRecDepth 100000 in
theorem gX6_isSameAs : Good kX6_isSameAs yX6_isSameAs 2 TX6_isSameAs := by
  refine good_of (by decide) rfl rfl (fun as G Qr h => ?_) (fun X as G Qr hcf hR hT oa => ?_)
  · obtain ⟨o, a, b, rfl, -⟩ := h; exact Nat.le_of_ble_eq_true rfl
  obtain ⟨o, a, b, rfl, hC, hab, ho, hsp, hQ⟩ := hT
  show WP kX6_isSameAs X 0 [some (2, ((68184 : Nat) : Int)), some (2, ((o : Nat) : Int))] [] G
  rcases hsp with hs9 | hs9
  · -- code 124
    refine s_aload_n dX6_isSameAs_0 rfl (Int.natCast_nonneg _) ?_
    refine s_alv (68184) (by simp) (fun al1 => ?_)
    have hk2 : gK G (68184) = (15, 0) := hC.1.k (by decide : cde 68184 = 124) al1
    obtain ⟨q4, hv3⟩ : ∃ q : Nat, gS G 68184 0 = (q : Int) := ⟨(gS G 68184 0).toNat, by have h9 : 0 ≤ (gS G 68184 0) ∧ (gS G 68184 0) % 1048576 = (((68184 % 1048576) + 1 : Nat) : Int) := hC.1.v (j := 0) (by decide : cde 68184 = 124) al1 (by rw [hk2]; exact Nat.le_of_ble_eq_true rfl); omega⟩
    have hv3a : 0 ≤ (q4 : Int) ∧ (q4 : Int) % 1048576 = (((68184 % 1048576) + 1 : Nat) : Int) := by have h9 : 0 ≤ (gS G 68184 0) ∧ (gS G 68184 0) % 1048576 = (((68184 % 1048576) + 1 : Nat) : Int) := hC.1.v (j := 0) (by decide : cde 68184 = 124) al1 (by rw [hk2]; exact Nat.le_of_ble_eq_true rfl); omega
    refine s_getf (ci := 7) (k := 0) (C := RX6) (T := TX6) (N := 2) (n := 68184) (L := 0) (t := 2) dX6_isSameAs_1 rfl wi_74 m_668 (Nat.le_of_ble_eq_true rfl) rfl rfl hk2 hv3 ?_
    refine s_aload_n dX6_isSameAs_4 rfl (Int.natCast_nonneg _) ?_
    have hv5 : 0 ≤ (gS G 68184 1) ∧ (gS G 68184 1) ≤ 9811 := hC.1.v (j := 1) (by decide : cde 68184 = 124) al1 (by rw [hk2]; exact Nat.le_of_ble_eq_true rfl)
    refine s_getf (ci := 7) (k := 1) (C := RX6) (T := TX6) (N := 2) (n := 68184) (L := 0) (t := 0) dX6_isSameAs_5 rfl wi_74 m_660 (Nat.le_of_ble_eq_true rfl) rfl rfl hk2 rfl ?_
    refine s_aload_n dX6_isSameAs_8 rfl (Int.natCast_nonneg _) ?_
    refine s_alv (o) (by simp) (fun al6 => ?_)
    have hk7 : gK G (o) = (15, 0) := hC.1.k (by rw [cde_n (by omega) (by omega)]; omega : cde o = 124) al6
    obtain ⟨q9, hv8⟩ : ∃ q : Nat, gS G o 0 = (q : Int) := ⟨(gS G o 0).toNat, by have h9 : 0 ≤ (gS G o 0) ∧ (gS G o 0) % 1048576 = (((o % 1048576) + 1 : Nat) : Int) := hC.1.v (j := 0) (by rw [cde_n (by omega) (by omega)]; omega : cde o = 124) al6 (by rw [hk7]; exact Nat.le_of_ble_eq_true rfl); omega⟩
    have hv8a : 0 ≤ (q9 : Int) ∧ (q9 : Int) % 1048576 = (((o % 1048576) + 1 : Nat) : Int) := by have h9 : 0 ≤ (gS G o 0) ∧ (gS G o 0) % 1048576 = (((o % 1048576) + 1 : Nat) : Int) := hC.1.v (j := 0) (by rw [cde_n (by omega) (by omega)]; omega : cde o = 124) al6 (by rw [hk7]; exact Nat.le_of_ble_eq_true rfl); omega
    refine s_getf (ci := 7) (k := 0) (C := RX6) (T := TX6) (N := 2) (n := o) (L := 0) (t := 2) dX6_isSameAs_9 rfl wi_74 m_668 (Nat.le_of_ble_eq_true rfl) rfl rfl hk7 hv8 ?_
    refine s_aload_n dX6_isSameAs_12 rfl (Int.natCast_nonneg _) ?_
    have hv10 : 0 ≤ (gS G o 1) ∧ (gS G o 1) ≤ 9811 := hC.1.v (j := 1) (by rw [cde_n (by omega) (by omega)]; omega : cde o = 124) al6 (by rw [hk7]; exact Nat.le_of_ble_eq_true rfl)
    refine s_getf (ci := 7) (k := 1) (C := RX6) (T := TX6) (N := 2) (n := o) (L := 0) (t := 0) dX6_isSameAs_13 rfl wi_74 m_660 (Nat.le_of_ble_eq_true rfl) rfl rfl hk7 rfl ?_
    refine s_alv (q4) (by simp) (fun al11 => ?_)
    obtain ⟨L13, hk12, hL13a, hL13b⟩ : ∃ L, gK G (q4) = (1, L) ∧ 16 ≤ L ∧ L ≤ 19622 := hC.1.k (by rw [cde_n (by omega) (by omega)]; omega : cde q4 = 125) al11
    refine s_alv (q9) (by simp) (fun al14 => ?_)
    obtain ⟨L16, hk15, hL16a, hL16b⟩ : ∃ L, gK G (q9) = (1, L) ∧ 16 ≤ L ∧ L ≤ 19622 := hC.1.k (by rw [cde_n (by omega) (by omega)]; omega : cde q9 = 125) al14
    refine s_callSN (own := RX6) rfl (by decide +kernel) (as := [(2, ((q4 : Nat) : Int)), (0, gS G 68184 1), (2, ((q9 : Nat) : Int)), (0, gS G o 1)]) (rest := []) gX11_isSameRow dX6_isSameAs_16 m_1778 m_714 m_98 ⟨by decide, by decide, show (parseMethodDescriptor yX11_isSameRow.desc).map (fun d => d.parameters.length) = some 4 from by decide +kernel⟩ (Nat.le_of_ble_eq_true rfl) (by rw [hcf]; exact Nat.le_of_ble_eq_true rfl) rfl (Nat.le_of_ble_eq_true rfl) ⟨q4, L13, gS G 68184 1, q9, L16, gS G o 1, rfl, hk12, (by first | assumption | omega), hk15, (by first | assumption | omega), fun rr17 hp18 => ?_⟩
    show WP kX6_isSameAs X 19 [some (2, ((68184 : Nat) : Int)), some (2, ((o : Nat) : Int))] [(0, rr17)] G
    exact s_zret hR dX6_isSameAs_19 rfl (by first | exact Or.inl rfl | exact Or.inr rfl | omega) (hQ rr17 (by omega))
  · -- code 126
    refine s_aload_n dX6_isSameAs_0 rfl (Int.natCast_nonneg _) ?_
    refine s_alv (68184) (by simp) (fun al19 => ?_)
    have hk20 : gK G (68184) = (15, 0) := hC.1.k (by decide : cde 68184 = 124) al19
    obtain ⟨q22, hv21⟩ : ∃ q : Nat, gS G 68184 0 = (q : Int) := ⟨(gS G 68184 0).toNat, by have h9 : 0 ≤ (gS G 68184 0) ∧ (gS G 68184 0) % 1048576 = (((68184 % 1048576) + 1 : Nat) : Int) := hC.1.v (j := 0) (by decide : cde 68184 = 124) al19 (by rw [hk20]; exact Nat.le_of_ble_eq_true rfl); omega⟩
    have hv21a : 0 ≤ (q22 : Int) ∧ (q22 : Int) % 1048576 = (((68184 % 1048576) + 1 : Nat) : Int) := by have h9 : 0 ≤ (gS G 68184 0) ∧ (gS G 68184 0) % 1048576 = (((68184 % 1048576) + 1 : Nat) : Int) := hC.1.v (j := 0) (by decide : cde 68184 = 124) al19 (by rw [hk20]; exact Nat.le_of_ble_eq_true rfl); omega
    refine s_getf (ci := 7) (k := 0) (C := RX6) (T := TX6) (N := 2) (n := 68184) (L := 0) (t := 2) dX6_isSameAs_1 rfl wi_74 m_668 (Nat.le_of_ble_eq_true rfl) rfl rfl hk20 hv21 ?_
    refine s_aload_n dX6_isSameAs_4 rfl (Int.natCast_nonneg _) ?_
    have hv23 : 0 ≤ (gS G 68184 1) ∧ (gS G 68184 1) ≤ 9811 := hC.1.v (j := 1) (by decide : cde 68184 = 124) al19 (by rw [hk20]; exact Nat.le_of_ble_eq_true rfl)
    refine s_getf (ci := 7) (k := 1) (C := RX6) (T := TX6) (N := 2) (n := 68184) (L := 0) (t := 0) dX6_isSameAs_5 rfl wi_74 m_660 (Nat.le_of_ble_eq_true rfl) rfl rfl hk20 rfl ?_
    refine s_aload_n dX6_isSameAs_8 rfl (Int.natCast_nonneg _) ?_
    refine s_alv (o) (by simp) (fun al24 => ?_)
    have hk25 : gK G (o) = (15, 0) := hC.1.k (by rw [cde_n (by omega) (by omega)]; omega : cde o = 126) al24
    obtain ⟨q27, hv26⟩ : ∃ q : Nat, gS G o 0 = (q : Int) := ⟨(gS G o 0).toNat, by have h9 : 0 ≤ (gS G o 0) ∧ (gS G o 0) % 1048576 = (((o % 1048576) + 1 : Nat) : Int) := hC.1.v (j := 0) (by rw [cde_n (by omega) (by omega)]; omega : cde o = 126) al24 (by rw [hk25]; exact Nat.le_of_ble_eq_true rfl); omega⟩
    have hv26a : 0 ≤ (q27 : Int) ∧ (q27 : Int) % 1048576 = (((o % 1048576) + 1 : Nat) : Int) := by have h9 : 0 ≤ (gS G o 0) ∧ (gS G o 0) % 1048576 = (((o % 1048576) + 1 : Nat) : Int) := hC.1.v (j := 0) (by rw [cde_n (by omega) (by omega)]; omega : cde o = 126) al24 (by rw [hk25]; exact Nat.le_of_ble_eq_true rfl); omega
    refine s_getf (ci := 7) (k := 0) (C := RX6) (T := TX6) (N := 2) (n := o) (L := 0) (t := 2) dX6_isSameAs_9 rfl wi_74 m_668 (Nat.le_of_ble_eq_true rfl) rfl rfl hk25 hv26 ?_
    refine s_aload_n dX6_isSameAs_12 rfl (Int.natCast_nonneg _) ?_
    have hv28 : 0 ≤ (gS G o 1) ∧ (gS G o 1) ≤ 3270 := hC.1.v (j := 1) (by rw [cde_n (by omega) (by omega)]; omega : cde o = 126) al24 (by rw [hk25]; exact Nat.le_of_ble_eq_true rfl)
    refine s_getf (ci := 7) (k := 1) (C := RX6) (T := TX6) (N := 2) (n := o) (L := 0) (t := 0) dX6_isSameAs_13 rfl wi_74 m_660 (Nat.le_of_ble_eq_true rfl) rfl rfl hk25 rfl ?_
    refine s_alv (q22) (by simp) (fun al29 => ?_)
    obtain ⟨L31, hk30, hL31a, hL31b⟩ : ∃ L, gK G (q22) = (1, L) ∧ 16 ≤ L ∧ L ≤ 19622 := hC.1.k (by rw [cde_n (by omega) (by omega)]; omega : cde q22 = 125) al29
    refine s_alv (q27) (by simp) (fun al32 => ?_)
    obtain ⟨L34, hk33, hL34a, hL34b⟩ : ∃ L, gK G (q27) = (1, L) ∧ 16 ≤ L ∧ L ≤ 6540 := hC.1.k (by rw [cde_n (by omega) (by omega)]; omega : cde q27 = 127) al32
    refine s_callSN (own := RX6) rfl (by decide +kernel) (as := [(2, ((q22 : Nat) : Int)), (0, gS G 68184 1), (2, ((q27 : Nat) : Int)), (0, gS G o 1)]) (rest := []) gX11_isSameRow dX6_isSameAs_16 m_1778 m_714 m_98 ⟨by decide, by decide, show (parseMethodDescriptor yX11_isSameRow.desc).map (fun d => d.parameters.length) = some 4 from by decide +kernel⟩ (Nat.le_of_ble_eq_true rfl) (by rw [hcf]; exact Nat.le_of_ble_eq_true rfl) rfl (Nat.le_of_ble_eq_true rfl) ⟨q22, L31, gS G 68184 1, q27, L34, gS G o 1, rfl, hk30, (by first | assumption | omega), hk33, (by first | assumption | omega), fun rr35 hp36 => ?_⟩
    show WP kX6_isSameAs X 19 [some (2, ((68184 : Nat) : Int)), some (2, ((o : Nat) : Int))] [(0, rr35)] G
    exact s_zret hR dX6_isSameAs_19 rfl (by first | exact Or.inl rfl | exact Or.inr rfl | omega) (hQ rr35 (by omega))
