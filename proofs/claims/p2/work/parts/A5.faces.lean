abbrev kX0_putRow : KD := (RX0, cX0_putRow, 4, none, [])
def TX0_putRow : TR := fun as G Qr => ∃ (o : Nat) (p : Int) (r N : Nat) (n : Int) (a b : Nat), as = [(2, ((o : Nat) : Int)), (0, p), (2, ((r : Nat) : Int)), (0, n)] ∧ CI a b G ∧ (a ≤ 2860000 ∧ b ≤ 590000) ∧ (isFc o) ∧ (0 ≤ p ∧ p < 16) ∧ (gK G r = (1, N)) ∧ (N ≤ 100000) ∧ (n ≤ 200 ∨ (N : Int) < n) ∧ (r ≠ o + 3) ∧ ∀ (G' : LG), CI a b G' → KX G G' → WX (fun x => x = o + 3 ∨ x = o + 4 ∨ x = o + 7 + p.toNat) G G' → (PRW G G' o p r n N) → Qr (.inl none) G'
set_option maxHeartbeats 4000000 in
set_option maxRecDepth 100000 in
theorem gX0_putRow : Good kX0_putRow yX0_putRow 1 TX0_putRow := by
  refine good_of (by decide) rfl rfl (fun as G Qr h => ?_) (fun X as G Qr hcf hR hT oa => ?_)
  · obtain ⟨o, p, r, N, n, a, b, rfl, -⟩ := h; exact Nat.le_of_ble_eq_true rfl
  obtain ⟨o, p, r, N, n, a, b, rfl, hC, hab, ho, hp, hkr, hN, hn, hr3, hQ⟩ := hT
  show WP kX0_putRow X 0 [some (2, ((o : Nat) : Int)), some (0, p), some (2, ((r : Nat) : Int)), some (0, n)] [] G
  have hr_p : inR p := okv_R (oa _ (by simp))
  have hr_n : inR n := okv_R (oa _ (by simp))
  refine s_iload_n dX0_putRow_0 rfl ?_
  refine s_if_lt (tgt := 10) dX0_putRow_1 (by decide) (fun c1 => ?_) (fun c1 => ?_)
  · -- 1 to 10
    exact s_vret hR dX0_putRow_10 rfl (hQ G hC KX.rf WX.rf (PRW.no (by omega)))
  · -- 1 to 4
    refine s_iload_n dX0_putRow_4 rfl ?_
    refine s_aload_n dX0_putRow_5 rfl (Int.natCast_nonneg _) ?_
    refine s_alen dX0_putRow_6 hkr (by decide) (by omega) ?_
    refine s_icmp_le (tgt := 11) dX0_putRow_7 (by decide) (fun c2 => ?_) (fun c2 => ?_)
    · -- 7 to 11
      refine s_aload_n dX0_putRow_11 rfl (Int.natCast_nonneg _) ?_
      refine s_alv (o) (by simp) (fun al3 => ?_)
      have hk4 : gK G (o) = (9, 0) := hC.1.k (by rw [cde_n (by omega) (by omega)]; omega : cde o = 101) al3
      have hv5 : gS G o 3 = ((o + 3 : Nat) : Int) := by have h9 : (gS G o 3) = (((o % 1048576) + 3 : Nat) : Int) := hC.1.v (j := 3) (by rw [cde_n (by omega) (by omega)]; omega : cde o = 101) al3 (by rw [hk4]; exact Nat.le_of_ble_eq_true rfl); omega
      refine s_getf (ci := 1) (k := 3) (C := RX0) (T := TX0) (N := 7) (n := o) (L := 0) (t := 2) dX0_putRow_12 rfl wi_65 m_405 (Nat.le_of_ble_eq_true rfl) rfl rfl hk4 hv5 ?_
      refine s_iload_n dX0_putRow_15 rfl ?_
      refine s_alv (o + 3) (by simp) (fun al6 => ?_)
      have hk7 : gK G (o + 3) = (4, 16) := hC.1.k (by rw [cde_n (by omega) (by omega)]; omega : cde (o + 3) = 104) al6
      have hv9b : 0 ≤ (gS G (o + 3) (p : Int).toNat) ∧ (gS G (o + 3) (p : Int).toNat) % 1048576 = ((((o + 3) % 1048576) + 4 + ((p : Int).toNat) : Nat) : Int) := hC.1.v (j := (p : Int).toNat) (by rw [cde_n (by omega) (by omega)]; omega : cde (o + 3) = 104) al6 (by rw [hk7]; show (p : Int).toNat < 16; omega)
      obtain ⟨q8, hv9⟩ : ∃ q : Nat, gS G (o + 3) (p : Int).toNat = (q : Int) := ⟨(gS G (o + 3) (p : Int).toNat).toNat, by omega⟩
      rw [hv9] at hv9b
      refine s_aald4 dX0_putRow_16 hk7 (by omega) (by omega) hv9 ?_
      refine s_alv (q8) (by simp) (fun al10 => ?_)
      obtain ⟨L12, hk11, hL12a, hL12b⟩ := hC.1.kr (show 108 ≤ cde q8 ∧ cde q8 < 124 from by rw [cde_n (by omega) (by omega)]; omega) al10
      refine s_alen dX0_putRow_17 hk11 (by decide) (by omega) ?_
      refine s_iload_n dX0_putRow_18 rfl ?_
      refine s_icmp_ge (tgt := 43) dX0_putRow_19 (by decide) (fun c13 => ?_) (fun c13 => ?_)
      · -- 19 to 43
        refine s_aload_n dX0_putRow_43 rfl (Int.natCast_nonneg _) ?_
        refine s_iconst dX0_putRow_44 (by decide) ?_
        refine s_aload_n dX0_putRow_45 rfl (Int.natCast_nonneg _) ?_
        have hv14 : gS G o 3 = ((o + 3 : Nat) : Int) := by have h9 : (gS G o 3) = (((o % 1048576) + 3 : Nat) : Int) := hC.1.v (j := 3) (by rw [cde_n (by omega) (by omega)]; omega : cde o = 101) al3 (by rw [hk4]; exact Nat.le_of_ble_eq_true rfl); omega
        refine s_getf (ci := 1) (k := 3) (C := RX0) (T := TX0) (N := 7) (n := o) (L := 0) (t := 2) dX0_putRow_46 rfl wi_65 m_405 (Nat.le_of_ble_eq_true rfl) rfl rfl hk4 hv14 ?_
        refine s_iload_n dX0_putRow_49 rfl ?_
        refine s_aald4 dX0_putRow_50 hk7 (by omega) (by omega) hv9 ?_
        refine s_iconst dX0_putRow_51 (by decide) ?_
        refine s_iload_n dX0_putRow_52 rfl ?_
        refine s_copyI dX0_putRow_53 m_1137 hkr hk11 (by omega) (by omega) (by omega) (by omega) (by omega) (by rw [hcf]; exact Nat.le_of_ble_eq_true rfl) (Nat.le_of_ble_eq_true rfl) ?_
        generalize eG17r : gcpy G r (0 : Int).toNat q8 (0 : Int).toNat (n : Int).toNat = G17
        have eG17 := eG17r.symm
        have hCG17 : CI a b G17 := by rw [eG17]; exact hC.cpy (spc_row (by rw [cde_n (by omega) (by omega)]; omega)) (fun _ _ _ => tv_row (by rw [cde_n (by omega) (by omega)]; omega))
        have hXG17 : KX G G17 := KX.cpy KX.rf eG17
        have hFG17 : WX (fun x => x = o + 3 ∨ x = o + 4 ∨ x = o + 7 + p.toNat) G G17 := WX.cpy WX.rf eG17 (by show _; omega)
        show WP kX0_putRow X 56 [some (2, ((o : Nat) : Int)), some (0, p), some (2, ((r : Nat) : Int)), some (0, n)] [] G17
        refine s_aload_n dX0_putRow_56 rfl (Int.natCast_nonneg _) ?_
        have hk18 : gK G17 (o) = (9, 0) := (hXG17).k hk4 (by decide)
        refine s_alv (o) (by simp) (fun al19 => ?_)
        have hv20 : gS G17 o 4 = ((o + 4 : Nat) : Int) := by have h9 : (gS G17 o 4) = (((o % 1048576) + 4 : Nat) : Int) := hCG17.1.v (j := 4) (by rw [cde_n (by omega) (by omega)]; omega : cde o = 101) al19 (by rw [hk18]; exact Nat.le_of_ble_eq_true rfl); omega
        refine s_getf (ci := 1) (k := 4) (C := RX0) (T := TX0) (N := 7) (n := o) (L := 0) (t := 2) dX0_putRow_57 rfl wi_65 m_406 (Nat.le_of_ble_eq_true rfl) rfl rfl hk18 hv20 ?_
        refine s_iload_n dX0_putRow_60 rfl ?_
        refine s_iload_n dX0_putRow_61 rfl ?_
        refine s_alv (o + 4) (by simp) (fun al21 => ?_)
        have hk22 : gK G17 (o + 4) = (1, 16) := hCG17.1.k (by rw [cde_n (by omega) (by omega)]; omega : cde (o + 4) = 105) al21
        refine s_iast dX0_putRow_62 hk22 (by omega) (by omega) ?_
        generalize eG23r : gset G17 (o + 4) ((p : Int).toNat) n = G23
        have eG23 := eG23r.symm
        have hCG23 : CI a b G23 := by rw [eG23]; exact hCG17.set (by rw [(by rw [cde_n (by omega) (by omega)]; omega : cde (o + 4) = 105)]; rfl) (by rw [(by rw [cde_n (by omega) (by omega)]; omega : cde (o + 4) = 105)]; exact (show 0 ≤ n ∧ n ≤ 200 from by omega))
        have hXG23 : KX G17 G23 := KX.set KX.rf eG23
        have hFG23 : WX (fun x => x = o + 3 ∨ x = o + 4 ∨ x = o + 7 + p.toNat) G G23 := WX.set hFG17 eG23 (by show _; omega)
        show WP kX0_putRow X 63 [some (2, ((o : Nat) : Int)), some (0, p), some (2, ((r : Nat) : Int)), some (0, n)] [] G23
        exact s_vret hR dX0_putRow_63 rfl (hQ G23 hCG23 (KX.trans hXG17 hXG23) hFG23 (PRW.mk ho hp hv9 (by omega) (fun _ => rfl) (fun _ _ => rfl) (fun _ => rfl) eG17 eG23 ⟨by omega, by omega⟩))
      · -- 19 to 22
        refine s_aload_n dX0_putRow_22 rfl (Int.natCast_nonneg _) ?_
        have hv24 : gS G o 3 = ((o + 3 : Nat) : Int) := by have h9 : (gS G o 3) = (((o % 1048576) + 3 : Nat) : Int) := hC.1.v (j := 3) (by rw [cde_n (by omega) (by omega)]; omega : cde o = 101) al3 (by rw [hk4]; exact Nat.le_of_ble_eq_true rfl); omega
        refine s_getf (ci := 1) (k := 3) (C := RX0) (T := TX0) (N := 7) (n := o) (L := 0) (t := 2) dX0_putRow_23 rfl wi_65 m_405 (Nat.le_of_ble_eq_true rfl) rfl rfl hk4 hv24 ?_
        refine s_iload_n dX0_putRow_26 rfl ?_
        refine s_iload_n dX0_putRow_27 rfl ?_
        refine s_iconst dX0_putRow_28 (by decide) ?_
        refine s_aload_n dX0_putRow_29 rfl (Int.natCast_nonneg _) ?_
        have hv25 : gS G o 3 = ((o + 3 : Nat) : Int) := by have h9 : (gS G o 3) = (((o % 1048576) + 3 : Nat) : Int) := hC.1.v (j := 3) (by rw [cde_n (by omega) (by omega)]; omega : cde o = 101) al3 (by rw [hk4]; exact Nat.le_of_ble_eq_true rfl); omega
        refine s_getf (ci := 1) (k := 3) (C := RX0) (T := TX0) (N := 7) (n := o) (L := 0) (t := 2) dX0_putRow_30 rfl wi_65 m_405 (Nat.le_of_ble_eq_true rfl) rfl rfl hk4 hv25 ?_
        refine s_iload_n dX0_putRow_33 rfl ?_
        refine s_aald4 dX0_putRow_34 hk7 (by omega) (by omega) hv9 ?_
        refine s_alen dX0_putRow_35 hk11 (by decide) (by omega) ?_
        refine s_imul dX0_putRow_36 (by omega) ?_
        refine s_mmax dX0_putRow_37 m_1136 (by rw [hcf]; exact Nat.le_of_ble_eq_true rfl) (Nat.le_of_ble_eq_true rfl) ?_
        obtain ⟨z28, hz28⟩ : ∃ z : Int, z = (if n < (2 * (((L12 : Nat) : Int))) then 2 * (((L12 : Nat) : Int)) else n) := ⟨_, rfl⟩
        rw [← hz28]
        have hz28a : (n < (2 * (((L12 : Nat) : Int))) ∧ z28 = 2 * (((L12 : Nat) : Int))) ∨ (¬ n < (2 * (((L12 : Nat) : Int))) ∧ z28 = n) := by rw [hz28]; by_cases q : n < (2 * (((L12 : Nat) : Int))); exact Or.inl ⟨q, if_pos q⟩; exact Or.inr ⟨q, if_neg q⟩
        obtain ⟨nm, hnm⟩ : ∃ nm : Nat, nm = o + 7 + p.toNat + 1048576 * (1 + gc G) := ⟨_, rfl⟩
        have hroom := hC.room
        have hnd : (gK G nm).1 = 0 := hC.2.2.2.2.2.2.2.2.2.1.1 nm (by omega)
        refine s_newI nm (z28).toNat dX0_putRow_40 (by omega) (by omega) hnd (by omega) (by omega) ?_
        refine s_aast4 (n := o + 3) (v := nm) (N := 16) (L := (z28).toNat) dX0_putRow_42 (by rw [gnew_Kne _ _ _ _ _ (by omega)]; exact hk7) (gnew_K _ _ _ _ _ _) (by omega) (by omega) ?_
        generalize eG29r : gset (gnew G nm 1 (z28).toNat (z28).toNat (fun _ => 0)) (o + 3) p.toNat (nm : Int) = G29
        have eG29 := eG29r.symm
        have hCG29 : CI a b G29 := by rw [eG29]; exact hC.growFace ho (by omega) (kne hk7 (by decide)) hv9 hk11 (by omega) (by omega) ⟨by omega, by omega⟩ hnm
        have hXG29 : KX G G29 := KX.set (KX.new KX.rf rfl hnd) eG29
        have hFG29 : WX (fun x => x = o + 3 ∨ x = o + 4 ∨ x = o + 7 + p.toNat) G G29 := WX.set (WX.new WX.rf KX.rf rfl hnd) eG29 (by show _; omega)
        have hqG29 : gS G29 (o + 3) p.toNat = (nm : Int) := gsaE eG29
        have hkG29 : gK G29 nm = (1, (z28).toNat) := by rw [eG29, gset_K]; exact gnew_K _ _ _ _ _ _
        show WP kX0_putRow X 43 [some (2, ((o : Nat) : Int)), some (0, p), some (2, ((r : Nat) : Int)), some (0, n)] [] G29
        refine s_aload_n dX0_putRow_43 rfl (Int.natCast_nonneg _) ?_
        refine s_iconst dX0_putRow_44 (by decide) ?_
        refine s_aload_n dX0_putRow_45 rfl (Int.natCast_nonneg _) ?_
        have hk30 : gK G29 (o) = (9, 0) := (hXG29).k hk4 (by decide)
        refine s_alv (o) (by simp) (fun al31 => ?_)
        have hv32 : gS G29 o 3 = ((o + 3 : Nat) : Int) := by have h9 : (gS G29 o 3) = (((o % 1048576) + 3 : Nat) : Int) := hCG29.1.v (j := 3) (by rw [cde_n (by omega) (by omega)]; omega : cde o = 101) al31 (by rw [hk30]; exact Nat.le_of_ble_eq_true rfl); omega
        refine s_getf (ci := 1) (k := 3) (C := RX0) (T := TX0) (N := 7) (n := o) (L := 0) (t := 2) dX0_putRow_46 rfl wi_65 m_405 (Nat.le_of_ble_eq_true rfl) rfl rfl hk30 hv32 ?_
        refine s_iload_n dX0_putRow_49 rfl ?_
        have hk33 : gK G29 (o + 3) = (4, 16) := (hXG29).k hk7 (by decide)
        refine s_alv (o + 3) (by simp) (fun al34 => ?_)
        refine s_aald4 dX0_putRow_50 hk33 (by omega) (by omega) hqG29 ?_
        refine s_iconst dX0_putRow_51 (by decide) ?_
        refine s_iload_n dX0_putRow_52 rfl ?_
        have hk37 : gK G29 (r) = (1, N) := (hXG29).k hkr (by decide)
        refine s_copyI dX0_putRow_53 m_1137 hk37 hkG29 (by omega) (by omega) (by omega) (by omega) (by omega) (by rw [hcf]; exact Nat.le_of_ble_eq_true rfl) (Nat.le_of_ble_eq_true rfl) ?_
        generalize eG38r : gcpy G29 r (0 : Int).toNat nm (0 : Int).toNat (n : Int).toNat = G38
        have eG38 := eG38r.symm
        have hCG38 : CI a b G38 := by rw [eG38]; exact hCG29.cpy (spc_row (by rw [cde_n (by omega) (by omega)]; omega)) (fun _ _ _ => tv_row (by rw [cde_n (by omega) (by omega)]; omega))
        have hXG38 : KX G29 G38 := KX.cpy KX.rf eG38
        have hFG38 : WX (fun x => x = o + 3 ∨ x = o + 4 ∨ x = o + 7 + p.toNat) G G38 := WX.cpy hFG29 eG38 (by show _; omega)
        show WP kX0_putRow X 56 [some (2, ((o : Nat) : Int)), some (0, p), some (2, ((r : Nat) : Int)), some (0, n)] [] G38
        refine s_aload_n dX0_putRow_56 rfl (Int.natCast_nonneg _) ?_
        have hk39 : gK G38 (o) = (9, 0) := (hXG38).k hk30 (by decide)
        refine s_alv (o) (by simp) (fun al40 => ?_)
        have hv41 : gS G38 o 4 = ((o + 4 : Nat) : Int) := by have h9 : (gS G38 o 4) = (((o % 1048576) + 4 : Nat) : Int) := hCG38.1.v (j := 4) (by rw [cde_n (by omega) (by omega)]; omega : cde o = 101) al40 (by rw [hk39]; exact Nat.le_of_ble_eq_true rfl); omega
        refine s_getf (ci := 1) (k := 4) (C := RX0) (T := TX0) (N := 7) (n := o) (L := 0) (t := 2) dX0_putRow_57 rfl wi_65 m_406 (Nat.le_of_ble_eq_true rfl) rfl rfl hk39 hv41 ?_
        refine s_iload_n dX0_putRow_60 rfl ?_
        refine s_iload_n dX0_putRow_61 rfl ?_
        refine s_alv (o + 4) (by simp) (fun al42 => ?_)
        have hk43 : gK G38 (o + 4) = (1, 16) := hCG38.1.k (by rw [cde_n (by omega) (by omega)]; omega : cde (o + 4) = 105) al42
        refine s_iast dX0_putRow_62 hk43 (by omega) (by omega) ?_
        generalize eG44r : gset G38 (o + 4) ((p : Int).toNat) n = G44
        have eG44 := eG44r.symm
        have hCG44 : CI a b G44 := by rw [eG44]; exact hCG38.set (by rw [(by rw [cde_n (by omega) (by omega)]; omega : cde (o + 4) = 105)]; rfl) (by rw [(by rw [cde_n (by omega) (by omega)]; omega : cde (o + 4) = 105)]; exact (show 0 ≤ n ∧ n ≤ 200 from by omega))
        have hXG44 : KX G38 G44 := KX.set KX.rf eG44
        have hFG44 : WX (fun x => x = o + 3 ∨ x = o + 4 ∨ x = o + 7 + p.toNat) G G44 := WX.set hFG38 eG44 (by show _; omega)
        show WP kX0_putRow X 63 [some (2, ((o : Nat) : Int)), some (0, p), some (2, ((r : Nat) : Int)), some (0, n)] [] G44
        exact s_vret hR dX0_putRow_63 rfl (hQ G44 hCG44 (KX.trans (KX.trans hXG29 hXG38) hXG44) hFG44 (PRW.mk ho hp hqG29 (by omega) (fun j => by rw [eG29, gset_ne _ _ (fun q => hr3 q.1), gnew_ne _ _ _ _ _ (fun q => by rw [q] at hkr; rw [hkr] at hnd; exact Nat.succ_ne_zero _ hnd)]) (fun j hj => by rw [eG29, gset_ne _ _ (fun q => hj q.2), gnew_ne _ _ _ _ _ (by omega)]) (fun j => by rw [eG29, gset_ne _ _ (fun q => absurd q.1 (by omega)), gnew_ne _ _ _ _ _ (by omega)]) eG38 eG44 ⟨by omega, by omega⟩))
    · -- 7 to 10
      exact s_vret hR dX0_putRow_10 rfl (hQ G hC KX.rf WX.rf (PRW.no (by omega)))
