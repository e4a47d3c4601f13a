abbrev kX6_clear : KD := (RX6, cX6_clear, 1, none, [])
def TX6_clear : TR := fun as G Qr => ∃ (a b : Nat), as = [(2, ((68184 : Nat) : Int))] ∧ CI a b G ∧ (a ≤ 2840000 ∧ b ≤ 590000) ∧ ∀ (G' : LG), CI a b G' → KX G G' → WX (fun x => x = 68184 ∨ x = 68185) G G' → (gS G' 68184 1 = 0) → Qr (.inl none) G'
set_option maxHeartbeats 4000000 in
set_option maxRecDepth 100000 in
theorem gX6_clear : Good kX6_clear yX6_clear 0 TX6_clear := by
  refine good_of (by decide) rfl rfl (fun as G Qr h => ?_) (fun X as G Qr hcf hR hT oa => ?_)
  · obtain ⟨a, b, rfl, -⟩ := h; exact Nat.le_of_ble_eq_true rfl
  obtain ⟨a, b, rfl, hC, hab, hQ⟩ := hT
  show WP kX6_clear X 0 [some (2, ((68184 : Nat) : Int))] [] G
  refine s_aload_n dX6_clear_0 rfl (Int.natCast_nonneg _) ?_
  refine s_iconst dX6_clear_1 (by decide) ?_
  refine s_alv (68184) (by simp) (fun al1 => ?_)
  have hk2 : gK G (68184) = (15, 0) := hC.1.k (by decide : cde 68184 = 124) al1
  refine s_putf (ci := 7) (k := 1) (C := RX6) (T := TX6) (N := 2) (n := 68184) (L := 0) dX6_clear_2 rfl wi_74 m_660 (Nat.le_of_ble_eq_true rfl) rfl rfl tyX6_ok nmX6 rfl (Or.inl rfl) hk2 ?_
  generalize eG3r : gset G 68184 1 0 = G3
  have eG3 := eG3r.symm
  have hCG3 : CI a b G3 := by rw [eG3]; exact hC.rowCount (Or.inl (by decide)) (show (0 : Int) ≤ 0 ∧ (0 : Int) ≤ 9811 from by decide) (fun q L _ _ => by omega)
  have hXG3 : KX G G3 := KX.set KX.rf eG3
  have hFG3 : WX (fun x => x = 68184 ∨ x = 68185) G G3 := WX.set WX.rf eG3 (by show _; decide)
  show WP kX6_clear X 5 [some (2, ((68184 : Nat) : Int))] [] G3
  exact s_vret hR dX6_clear_5 rfl (hQ G3 hCG3 hXG3 hFG3 (gsaE eG3))

abbrev kX6_add : KD := (RX6, cX6_add, 2, none, [])
def TX6_add : TR := fun as G Qr => ∃ (v : Int) (a b : Nat), as = [(2, ((68184 : Nat) : Int)), (0, v)] ∧ CI a b G ∧ (a ≤ 2840000 ∧ b ≤ 590000) ∧ (0 ≤ gS G 68184 1 ∧ gS G 68184 1 ≤ 9810) ∧ ∀ (G' : LG), CI a b G' → KX G G' → WX (fun x => x = 68184 ∨ x = 68185) G G' → (gS G' 68184 1 = gS G 68184 1 + 1) → Qr (.inl none) G'
set_option maxHeartbeats 4000000 in
set_option maxRecDepth 100000 in
theorem gX6_add : Good kX6_add yX6_add 2 TX6_add := by
  refine good_of (by decide) rfl rfl (fun as G Qr h => ?_) (fun X as G Qr hcf hR hT oa => ?_)
  · obtain ⟨v, a, b, rfl, -⟩ := h; exact Nat.le_of_ble_eq_true rfl
  obtain ⟨v, a, b, rfl, hC, hab, hcn, hQ⟩ := hT
  show WP kX6_add X 0 [some (2, ((68184 : Nat) : Int)), some (0, v)] [] G
  have hr_v : inR v := okv_R (oa _ (by simp))
  refine s_alvl 68184 (k := 0) rfl (fun al0 => ?_)
  obtain ⟨qe, Le, he1, he2, he3, he4, he5⟩ := hC.2.1 68184 al0 (Or.inl (by decide))
  obtain ⟨Lz, hz1, -, hz3⟩ : ∃ L, gK G qe = (1, L) ∧ 16 ≤ L ∧ L ≤ 19622 := hC.1.k (c := 125) ((cde_mod (y := 68185) (by omega) (by decide)).trans (by decide)) (kne he3 (by decide))
  have hLe : Le ≤ 19622 := by rw [he3] at hz1; have := congrArg Prod.snd hz1; dsimp only at this; omega
  refine s_aload_n dX6_add_0 rfl (Int.natCast_nonneg _) ?_
  have hk1 : gK G (68184) = (15, 0) := hC.1.k (by decide : cde 68184 = 124) al0
  have hv2 : 0 ≤ (gS G 68184 1) ∧ (gS G 68184 1) ≤ 9811 := hC.1.v (j := 1) (by decide : cde 68184 = 124) al0 (by rw [hk1]; exact Nat.le_of_ble_eq_true rfl)
  refine s_getf (ci := 7) (k := 1) (C := RX6) (T := TX6) (N := 2) (n := 68184) (L := 0) (t := 0) dX6_add_1 rfl wi_74 m_660 (Nat.le_of_ble_eq_true rfl) rfl rfl hk1 rfl ?_
  refine s_aload_n dX6_add_4 rfl (Int.natCast_nonneg _) ?_
  refine s_getf (ci := 7) (k := 0) (C := RX6) (T := TX6) (N := 2) (n := 68184) (L := 0) (t := 2) dX6_add_5 rfl wi_74 m_668 (Nat.le_of_ble_eq_true rfl) rfl rfl hk1 he1 ?_
  refine s_alen dX6_add_8 he3 (by decide) (by omega) ?_
  refine s_icmp_lt (tgt := 30) dX6_add_9 (by decide) (fun c4 => ?_) (fun c4 => ?_)
  · -- 9 to 30
    refine s_aload_n dX6_add_30 rfl (Int.natCast_nonneg _) ?_
    refine s_getf (ci := 7) (k := 0) (C := RX6) (T := TX6) (N := 2) (n := 68184) (L := 0) (t := 2) dX6_add_31 rfl wi_74 m_668 (Nat.le_of_ble_eq_true rfl) rfl rfl hk1 he1 ?_
    refine s_aload_n dX6_add_34 rfl (Int.natCast_nonneg _) ?_
    refine s_getf (ci := 7) (k := 1) (C := RX6) (T := TX6) (N := 2) (n := 68184) (L := 0) (t := 0) dX6_add_35 rfl wi_74 m_660 (Nat.le_of_ble_eq_true rfl) rfl rfl hk1 rfl ?_
    refine s_iload_n dX6_add_38 rfl ?_
    refine s_iast dX6_add_39 he3 (by omega) (by omega) ?_
    generalize eG7r : gset G qe ((gS G 68184 1 : Int).toNat) v = G7
    have eG7 := eG7r.symm
    have hCG7 : CI a b G7 := by rw [eG7]; exact hC.set (by rw [(by rw [cde_n (by omega) (by omega)]; omega : cde qe = 125)]; rfl) (by rw [(by rw [cde_n (by omega) (by omega)]; omega : cde qe = 125)]; exact trivial)
    have hXG7 : KX G G7 := KX.set KX.rf eG7
    have hFG7 : WX (fun x => x = 68184 ∨ x = 68185) G G7 := WX.set WX.rf eG7 (by show _; omega)
    show WP kX6_add X 40 [some (2, ((68184 : Nat) : Int)), some (0, v)] [] G7
    have hczG7 : gS G7 68184 0 = (qe : Int) := by rw [gset_o eG7 (x := 68184) (by omega)]; exact he1
    have hkzG7 : gK G7 qe = (1, Le) := by rw [eG7, gset_K]; exact he3
    have hcyG7 : gS G7 68184 1 = gS G 68184 1 := by rw [gset_o eG7 (x := 68184) (by omega)]
    refine s_aload_n dX6_add_40 rfl (Int.natCast_nonneg _) ?_
    refine s_dup dX6_add_41 (by decide) ?_
    have hk8 : gK G7 (68184) = (15, 0) := ((hXG7).k hk1 (by decide))
    refine s_alv (68184) (by simp) (fun al10 => ?_)
    have hv9 : 0 ≤ (gS G7 68184 1) ∧ (gS G7 68184 1) ≤ 9811 := hCG7.1.v (j := 1) (by decide : cde 68184 = 124) al10 (by rw [hk8]; exact Nat.le_of_ble_eq_true rfl)
    refine s_getf (ci := 7) (k := 1) (C := RX6) (T := TX6) (N := 2) (n := 68184) (L := 0) (t := 0) dX6_add_42 rfl wi_74 m_660 (Nat.le_of_ble_eq_true rfl) rfl rfl hk8 (gsnE eG7 (by omega)) ?_
    refine s_iconst dX6_add_45 (by decide) ?_
    refine s_iadd dX6_add_46 (by omega) ?_
    refine s_putf (ci := 7) (k := 1) (C := RX6) (T := TX6) (N := 2) (n := 68184) (L := 0) dX6_add_47 rfl wi_74 m_660 (Nat.le_of_ble_eq_true rfl) rfl rfl tyX6_ok nmX6 rfl (Or.inl rfl) hk8 ?_
    generalize eG11r : gset G7 68184 1 ((gS G 68184 1) + 1) = G11
    have eG11 := eG11r.symm
    have hCG11 : CI a b G11 := by rw [eG11]; exact hCG7.rowCountQ (Or.inl (by decide)) (show (0 : Int) ≤ _ ∧ _ ≤ (9811 : Int) from ⟨by omega, by omega⟩) hczG7 hkzG7 (by omega)
    have hXG11 : KX G7 G11 := KX.set KX.rf eG11
    have hFG11 : WX (fun x => x = 68184 ∨ x = 68185) G G11 := WX.set hFG7 eG11 (by show _; omega)
    show WP kX6_add X 50 [some (2, ((68184 : Nat) : Int)), some (0, v)] [] G11
    exact s_vret hR dX6_add_50 rfl (hQ G11 hCG11 (KX.trans hXG7 hXG11) hFG11 ((gsaE eG11).trans (by omega)))
  · -- 9 to 12
    refine s_aload_n dX6_add_12 rfl (Int.natCast_nonneg _) ?_
    refine s_aload_n dX6_add_13 rfl (Int.natCast_nonneg _) ?_
    refine s_getf (ci := 7) (k := 0) (C := RX6) (T := TX6) (N := 2) (n := 68184) (L := 0) (t := 2) dX6_add_14 rfl wi_74 m_668 (Nat.le_of_ble_eq_true rfl) rfl rfl hk1 he1 ?_
    refine s_iconst dX6_add_17 (by decide) ?_
    refine s_aload_n dX6_add_18 rfl (Int.natCast_nonneg _) ?_
    refine s_getf (ci := 7) (k := 0) (C := RX6) (T := TX6) (N := 2) (n := 68184) (L := 0) (t := 2) dX6_add_19 rfl wi_74 m_668 (Nat.le_of_ble_eq_true rfl) rfl rfl hk1 he1 ?_
    refine s_alen dX6_add_22 he3 (by decide) (by omega) ?_
    refine s_imul dX6_add_23 (by omega) ?_
    obtain ⟨nm, hnm⟩ : ∃ nm : Nat, nm = 68184 + 1 + 1048576 * (1 + gc G) := ⟨_, rfl⟩
    have hroom := hC.room
    have hnd : (gK G nm).1 = 0 := hC.2.2.2.2.2.2.2.2.2.1.1 nm (by omega)
    refine s_callS2 (as := [(2, ((qe : Nat) : Int)), (0, 2 * (((Le : Nat) : Int)))]) (rest := [(2, ((68184 : Nat) : Int))]) gJ7_copyOf_59c91 dX6_add_24 m_1406 m_1748 m_705 m_43 ⟨by decide, by decide, show (parseMethodDescriptor yJ7_copyOf_59c91.desc).map (fun d => d.parameters.length) = some 2 from by decide +kernel⟩ (Nat.le_of_ble_eq_true rfl) (by rw [hcf]; exact Nat.le_of_ble_eq_true rfl) rfl (Nat.le_of_ble_eq_true rfl) ⟨qe, Le, nm, 2 * (((Le : Nat) : Int)), rfl, he3, by omega, ⟨by omega, by omega, by omega⟩, hnd, by omega, by omega, ?_⟩
    refine s_putf (ci := 7) (k := 0) (C := RX6) (T := TX6) (N := 2) (n := 68184) (L := 0) dX6_add_27 rfl wi_74 m_668 (Nat.le_of_ble_eq_true rfl) rfl rfl tyX6_ok nmX6 rfl (Or.inr (Or.inr (Or.inr (Or.inr ⟨_, rfl⟩)))) (by rw [gcpy_K, gnew_Kne _ _ _ _ _ (by omega)]; exact hk1) ?_
    generalize eG14r : gset (gcpy (gnew G nm 1 (2 * (((Le : Nat) : Int))).toNat (2 * (((Le : Nat) : Int))).toNat (fun _ => 0)) qe 0 nm 0 (if (2 * (((Le : Nat) : Int))) < (Le : Int) then 2 * (((Le : Nat) : Int)) else (Le : Int)).toNat) 68184 0 (nm : Int) = G14
    have eG14 := eG14r.symm
    have hXG14 : KX G G14 := KX.set (KX.cpy (KX.new KX.rf rfl hnd) rfl) eG14
    have hsG14 : gS G14 68184 1 = gS G 68184 1 := by rw [eG14, gset_ne _ _ (fun z => absurd z.2 (by decide)), gcpy_ne _ (by omega), gnew_ne _ _ _ _ _ (by omega)]
    have hCG14 : CI a b G14 := hC.growRow (x := 68184) (M := (2 * (((Le : Nat) : Int))).toNat) (Or.inr rfl) (kne hk1 (by decide)) he1 he3 (by omega) (by omega) (show ∃ L, ((1 : Nat), (2 * (((Le : Nat) : Int))).toNat) = (1, L) ∧ 16 ≤ L ∧ L ≤ 19622 from ⟨_, rfl, by omega, by omega⟩) hnm (by omega) (fun z z1 z2 => by rw [eG14]; funext y; rw [gset_ne _ _ (fun w => z2 w.1), gcpy_ne _ z1, gnew_ne _ _ _ _ _ z1]) (gsaE eG14) hsG14 (by rw [eG14]; rfl) (by rw [eG14]; rfl) (by rw [eG14]; rfl)
    have hFG14 : WX (fun x => x = 68184 ∨ x = 68185) G G14 := WX.set (WX.cpy (WX.new WX.rf KX.rf rfl hnd) rfl (by show _; omega)) eG14 (by show _; decide)
    have hqG14 : gS G14 68184 0 = (nm : Int) := gsaE eG14
    have hkG14 : gK G14 nm = (1, (2 * (((Le : Nat) : Int))).toNat) := by rw [eG14, gset_K, gcpy_K]; exact gnew_K _ _ _ _ _ _
    have hko15 : gK G14 68184 = (15, 0) := hXG14.k hk1 (by decide)
    have hmz : nm % 1048576 = 68185 := by omega
    show WP kX6_add X 30 [some (2, ((68184 : Nat) : Int)), some (0, v)] [] G14
    refine s_aload_n dX6_add_30 rfl (Int.natCast_nonneg _) ?_
    refine s_alv (68184) (by simp) (fun al16 => ?_)
    refine s_getf (ci := 7) (k := 0) (C := RX6) (T := TX6) (N := 2) (n := 68184) (L := 0) (t := 2) dX6_add_31 rfl wi_74 m_668 (Nat.le_of_ble_eq_true rfl) rfl rfl hko15 hqG14 ?_
    refine s_aload_n dX6_add_34 rfl (Int.natCast_nonneg _) ?_
    have hv18 : 0 ≤ (gS G14 68184 1) ∧ (gS G14 68184 1) ≤ 9811 := hCG14.1.v (j := 1) (by decide : cde 68184 = 124) al16 (by rw [hko15]; exact Nat.le_of_ble_eq_true rfl)
    refine s_getf (ci := 7) (k := 1) (C := RX6) (T := TX6) (N := 2) (n := 68184) (L := 0) (t := 0) dX6_add_35 rfl wi_74 m_660 (Nat.le_of_ble_eq_true rfl) rfl rfl hko15 rfl ?_
    refine s_iload_n dX6_add_38 rfl ?_
    refine s_iast dX6_add_39 hkG14 (by omega) (by omega) ?_
    generalize eG19r : gset G14 nm ((gS G14 68184 1 : Int).toNat) v = G19
    have eG19 := eG19r.symm
    have hCG19 : CI a b G19 := by rw [eG19]; exact hCG14.set (by rw [(by rw [cde_n (by omega) (by omega)]; omega : cde nm = 125)]; rfl) (by rw [(by rw [cde_n (by omega) (by omega)]; omega : cde nm = 125)]; exact trivial)
    have hXG19 : KX G14 G19 := KX.set KX.rf eG19
    have hFG19 : WX (fun x => x = 68184 ∨ x = 68185) G G19 := WX.set hFG14 eG19 (by show _; omega)
    show WP kX6_add X 40 [some (2, ((68184 : Nat) : Int)), some (0, v)] [] G19
    have hczG19 : gS G19 68184 0 = (nm : Int) := by rw [gset_o eG19 (x := 68184) (by omega)]; exact hqG14
    have hkzG19 : gK G19 nm = (1, (2 * (((Le : Nat) : Int))).toNat) := by rw [eG19, gset_K]; exact hkG14
    have hcyG19 : gS G19 68184 1 = gS G14 68184 1 := by rw [gset_o eG19 (x := 68184) (by omega)]
    refine s_aload_n dX6_add_40 rfl (Int.natCast_nonneg _) ?_
    refine s_dup dX6_add_41 (by decide) ?_
    have hk20 : gK G19 (68184) = (15, 0) := ((hXG19).k hko15 (by decide))
    refine s_alv (68184) (by simp) (fun al22 => ?_)
    have hv21 : 0 ≤ (gS G19 68184 1) ∧ (gS G19 68184 1) ≤ 9811 := hCG19.1.v (j := 1) (by decide : cde 68184 = 124) al22 (by rw [hk20]; exact Nat.le_of_ble_eq_true rfl)
    refine s_getf (ci := 7) (k := 1) (C := RX6) (T := TX6) (N := 2) (n := 68184) (L := 0) (t := 0) dX6_add_42 rfl wi_74 m_660 (Nat.le_of_ble_eq_true rfl) rfl rfl hk20 (gsnE eG19 (by omega)) ?_
    refine s_iconst dX6_add_45 (by decide) ?_
    refine s_iadd dX6_add_46 (by omega) ?_
    refine s_putf (ci := 7) (k := 1) (C := RX6) (T := TX6) (N := 2) (n := 68184) (L := 0) dX6_add_47 rfl wi_74 m_660 (Nat.le_of_ble_eq_true rfl) rfl rfl tyX6_ok nmX6 rfl (Or.inl rfl) hk20 ?_
    generalize eG23r : gset G19 68184 1 ((gS G14 68184 1) + 1) = G23
    have eG23 := eG23r.symm
    have hCG23 : CI a b G23 := by rw [eG23]; exact hCG19.rowCountQ (Or.inl (by decide)) (show (0 : Int) ≤ _ ∧ _ ≤ (9811 : Int) from ⟨by omega, by omega⟩) hczG19 hkzG19 (by omega)
    have hXG23 : KX G19 G23 := KX.set KX.rf eG23
    have hFG23 : WX (fun x => x = 68184 ∨ x = 68185) G G23 := WX.set hFG19 eG23 (by show _; omega)
    show WP kX6_add X 50 [some (2, ((68184 : Nat) : Int)), some (0, v)] [] G23
    exact s_vret hR dX6_add_50 rfl (hQ G23 hCG23 (KX.trans (KX.trans hXG14 hXG19) hXG23) hFG23 ((gsaE eG23).trans (by omega)))
