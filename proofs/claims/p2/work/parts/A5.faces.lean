abbrev kX0_putRow : KD := (RX0, cX0_putRow, 4, none, [])
def TX0_putRow : TR := fun as G Qr => ∃ (o : Nat) (p : Int) (r N : Nat) (n : Int) (a b : Nat), as = [(2, ((o : Nat) : Int)), (0, p), (2, ((r : Nat) : Int)), (0, n)] ∧ CI a b G ∧ (a ≤ 2840000 ∧ b ≤ 590000) ∧ (isFc o) ∧ (0 ≤ p ∧ p < 16) ∧ (gK G r = (1, N)) ∧ (N ≤ 100000) ∧ (n ≤ 200 ∨ (N : Int) < n) ∧ (r < o ∨ o + 6 < r) ∧ ∀ (G' : LG), CI a b G' → KX G G' → WX (fun x => x = o + 3 ∨ x = o + 4 ∨ x = o + 7 + p.toNat) G G' → (PRW G G' o p r n N) → Qr (.inl none) G'
set_option maxHeartbeats 4000000 in
set_option maxRecDepth 100000 in
theorem gX0_putRow : Good kX0_putRow yX0_putRow 1 TX0_putRow := by
  refine good_of (by decide) rfl rfl (fun as G Qr h => ?_) (fun X as G Qr hcf hR hT oa => ?_)
  · obtain ⟨o, p, r, N, n, a, b, rfl, -⟩ := h; exact Nat.le_of_ble_eq_true rfl
  obtain ⟨o, p, r, N, n, a, b, rfl, hC, hab, ho, hp, hkr, hN, hn, hr3, hQ⟩ := hT
  show WP kX0_putRow X 0 [some (2, ((o : Nat) : Int)), some (0, p), some (2, ((r : Nat) : Int)), some (0, n)] [] G
  have hr_p : inR p := okv_R (oa _ (by simp))
  have hr_n : inR n := okv_R (oa _ (by simp))
  refine s_iload_n dX0_putRow_0 rfl ?_
  refine s_if_lt (tgt := 10) dX0_putRow_1 (by decide) (fun c1 => ?_) (fun c1 => ?_)
  · -- 1 to 10
    exact s_vret hR dX0_putRow_10 rfl (hQ G hC KX.rf WX.rf (PRW.no (by omega)))
  · -- 1 to 4
    refine s_iload_n dX0_putRow_4 rfl ?_
    refine s_aload_n dX0_putRow_5 rfl (Int.natCast_nonneg _) ?_
    refine s_alen dX0_putRow_6 hkr (by decide) (by omega) ?_
    refine s_icmp_le (tgt := 11) dX0_putRow_7 (by decide) (fun c2 => ?_) (fun c2 => ?_)
    · -- 7 to 11
      refine s_aload_n dX0_putRow_11 rfl (Int.natCast_nonneg _) ?_
      refine s_alv (o) (by simp) (fun al3 => ?_)
      have hk4 : gK G (o) = (9, 0) := hC.1.k (by rw [cde_n (by omega) (by omega)]; omega : cde o = 101) al3
      have hv5 : gS G o 3 = ((o + 3 : Nat) : Int) := by have h9 : (gS G o 3) = (((o % 1048576) + 3 : Nat) : Int) := hC.1.v (j := 3) (by rw [cde_n (by omega) (by omega)]; omega : cde o = 101) al3 (by rw [hk4]; exact Nat.le_of_ble_eq_true rfl); omega
      refine s_getf (ci := 1) (k := 3) (C := RX0) (T := TX0) (N := 7) (n := o) (L := 0) (t := 2) dX0_putRow_12 rfl wi_65 m_405 (Nat.le_of_ble_eq_true rfl) rfl rfl hk4 hv5 ?_
      refine s_iload_n dX0_putRow_15 rfl ?_
      refine s_alv (o + 3) (by simp) (fun al6 => ?_)
      have hk7 : gK G (o + 3) = (4, 16) := hC.1.k (by rw [cde_n (by omega) (by omega)]; omega : cde (o + 3) = 104) al6
      have hv9b : 0 ≤ (gS G (o + 3) (p : Int).toNat) ∧ (gS G (o + 3) (p : Int).toNat) % 1048576 = ((((o + 3) % 1048576) + 4 + ((p : Int).toNat) : Nat) : Int) := hC.1.v (j := (p : Int).toNat) (by rw [cde_n (by omega) (by omega)]; omega : cde (o + 3) = 104) al6 (by rw [hk7]; show (p : Int).toNat < 16; omega)
      obtain ⟨q8, hv9⟩ : ∃ q : Nat, gS G (o + 3) (p : Int).toNat = (q : Int) := ⟨(gS G (o + 3) (p : Int).toNat).toNat, by omega⟩
      rw [hv9] at hv9b
      refine s_aald4 dX0_putRow_16 hk7 (by omega) (by omega) hv9 ?_
      refine s_alv (q8) (by simp) (fun al10 => ?_)
      obtain ⟨L12, hk11, hL12a, hL12b⟩ := hC.1.kr (show 108 ≤ cde q8 ∧ cde q8 < 124 from by rw [cde_n (by omega) (by omega)]; omega) al10
      refine s_alen dX0_putRow_17 hk11 (by decide) (by omega) ?_
      refine s_iload_n dX0_putRow_18 rfl ?_
      refine s_icmp_ge (tgt := 43) dX0_putRow_19 (by decide) (fun c13 => ?_) (fun c13 => ?_)
      · -- 19 to 43
        refine s_aload_n dX0_putRow_43 rfl (Int.natCast_nonneg _) ?_
        refine s_iconst dX0_putRow_44 (by decide) ?_
        refine s_aload_n dX0_putRow_45 rfl (Int.natCast_nonneg _) ?_
        have hv14 : gS G o 3 = ((o + 3 : Nat) : Int) := by have h9 : (gS G o 3) = (((o % 1048576) + 3 : Nat) : Int) := hC.1.v (j := 3) (by rw [cde_n (by omega) (by omega)]; omega : cde o = 101) al3 (by rw [hk4]; exact Nat.le_of_ble_eq_true rfl); omega
        refine s_getf (ci := 1) (k := 3) (C := RX0) (T := TX0) (N := 7) (n := o) (L := 0) (t := 2) dX0_putRow_46 rfl wi_65 m_405 (Nat.le_of_ble_eq_true rfl) rfl rfl hk4 hv14 ?_
        refine s_iload_n dX0_putRow_49 rfl ?_
        refine s_aald4 dX0_putRow_50 hk7 (by omega) (by omega) hv9 ?_
        refine s_iconst dX0_putRow_51 (by decide) ?_
        refine s_iload_n dX0_putRow_52 rfl ?_
        refine s_copyI dX0_putRow_53 m_1137 hkr hk11 (by omega) (by omega) (by omega) (by omega) (by omega) (by rw [hcf]; exact Nat.le_of_ble_eq_true rfl) (Nat.le_of_ble_eq_true rfl) ?_
        generalize eG17r : gcpy G r (0 : Int).toNat q8 (0 : Int).toNat (n : Int).toNat = G17
        have eG17 := eG17r.symm
        have hCG17 : CI a b G17 := by rw [eG17]; exact hC.cpy (spc_row (by rw [cde_n (by omega) (by omega)]; omega)) (fun _ _ _ => tv_row (by rw [cde_n (by omega) (by omega)]; omega))
        have hXG17 : KX G G17 := KX.cpy KX.rf eG17
        have hFG17 : WX (fun x => x = o + 3 ∨ x = o + 4 ∨ x = o + 7 + p.toNat) G G17 := WX.cpy WX.rf eG17 (by show _; omega)
        show WP kX0_putRow X 56 [some (2, ((o : Nat) : Int)), some (0, p), some (2, ((r : Nat) : Int)), some (0, n)] [] G17
        refine s_aload_n dX0_putRow_56 rfl (Int.natCast_nonneg _) ?_
        have hk18 : gK G17 (o) = (9, 0) := ((hXG17).k hk4 (by decide))
        refine s_alv (o) (by simp) (fun al19 => ?_)
        have hv20 : gS G17 o 4 = ((o + 4 : Nat) : Int) := by have h9 : (gS G17 o 4) = (((o % 1048576) + 4 : Nat) : Int) := hCG17.1.v (j := 4) (by rw [cde_n (by omega) (by omega)]; omega : cde o = 101) al19 (by rw [hk18]; exact Nat.le_of_ble_eq_true rfl); omega
        refine s_getf (ci := 1) (k := 4) (C := RX0) (T := TX0) (N := 7) (n := o) (L := 0) (t := 2) dX0_putRow_57 rfl wi_65 m_406 (Nat.le_of_ble_eq_true rfl) rfl rfl hk18 hv20 ?_
        refine s_iload_n dX0_putRow_60 rfl ?_
        refine s_iload_n dX0_putRow_61 rfl ?_
        refine s_alv (o + 4) (by simp) (fun al21 => ?_)
        have hk22 : gK G17 (o + 4) = (1, 16) := hCG17.1.k (by rw [cde_n (by omega) (by omega)]; omega : cde (o + 4) = 105) al21
        refine s_iast dX0_putRow_62 hk22 (by omega) (by omega) ?_
        generalize eG23r : gset G17 (o + 4) ((p : Int).toNat) n = G23
        have eG23 := eG23r.symm
        have hCG23 : CI a b G23 := by rw [eG23]; exact hCG17.set (by rw [(by rw [cde_n (by omega) (by omega)]; omega : cde (o + 4) = 105)]; rfl) (by rw [(by rw [cde_n (by omega) (by omega)]; omega : cde (o + 4) = 105)]; exact (show 0 ≤ n ∧ n ≤ 200 from by omega))
        have hXG23 : KX G17 G23 := KX.set KX.rf eG23
        have hFG23 : WX (fun x => x = o + 3 ∨ x = o + 4 ∨ x = o + 7 + p.toNat) G G23 := WX.set hFG17 eG23 (by show _; omega)
        show WP kX0_putRow X 63 [some (2, ((o : Nat) : Int)), some (0, p), some (2, ((r : Nat) : Int)), some (0, n)] [] G23
        exact s_vret hR dX0_putRow_63 rfl (hQ G23 hCG23 (KX.trans hXG17 hXG23) hFG23 (PRW.mk hk11 (by omega) ho hp hv9 (by omega) (fun _ => rfl) (fun _ _ => rfl) (fun _ => rfl) eG17 eG23 ⟨by omega, by omega⟩))
      · -- 19 to 22
        refine s_aload_n dX0_putRow_22 rfl (Int.natCast_nonneg _) ?_
        have hv24 : gS G o 3 = ((o + 3 : Nat) : Int) := by have h9 : (gS G o 3) = (((o % 1048576) + 3 : Nat) : Int) := hC.1.v (j := 3) (by rw [cde_n (by omega) (by omega)]; omega : cde o = 101) al3 (by rw [hk4]; exact Nat.le_of_ble_eq_true rfl); omega
        refine s_getf (ci := 1) (k := 3) (C := RX0) (T := TX0) (N := 7) (n := o) (L := 0) (t := 2) dX0_putRow_23 rfl wi_65 m_405 (Nat.le_of_ble_eq_true rfl) rfl rfl hk4 hv24 ?_
        refine s_iload_n dX0_putRow_26 rfl ?_
        refine s_iload_n dX0_putRow_27 rfl ?_
        refine s_iconst dX0_putRow_28 (by decide) ?_
        refine s_aload_n dX0_putRow_29 rfl (Int.natCast_nonneg _) ?_
        have hv25 : gS G o 3 = ((o + 3 : Nat) : Int) := by have h9 : (gS G o 3) = (((o % 1048576) + 3 : Nat) : Int) := hC.1.v (j := 3) (by rw [cde_n (by omega) (by omega)]; omega : cde o = 101) al3 (by rw [hk4]; exact Nat.le_of_ble_eq_true rfl); omega
        refine s_getf (ci := 1) (k := 3) (C := RX0) (T := TX0) (N := 7) (n := o) (L := 0) (t := 2) dX0_putRow_30 rfl wi_65 m_405 (Nat.le_of_ble_eq_true rfl) rfl rfl hk4 hv25 ?_
        refine s_iload_n dX0_putRow_33 rfl ?_
        refine s_aald4 dX0_putRow_34 hk7 (by omega) (by omega) hv9 ?_
        refine s_alen dX0_putRow_35 hk11 (by decide) (by omega) ?_
        refine s_imul dX0_putRow_36 (by omega) ?_
        refine s_mmax dX0_putRow_37 m_1136 (by rw [hcf]; exact Nat.le_of_ble_eq_true rfl) (Nat.le_of_ble_eq_true rfl) ?_
        obtain ⟨z28, hz28⟩ : ∃ z : Int, z = (if n < (2 * (((L12 : Nat) : Int))) then 2 * (((L12 : Nat) : Int)) else n) := ⟨_, rfl⟩
        rw [← hz28]
        have hz28a : (n < (2 * (((L12 : Nat) : Int))) ∧ z28 = 2 * (((L12 : Nat) : Int))) ∨ (¬ n < (2 * (((L12 : Nat) : Int))) ∧ z28 = n) := by rw [hz28]; by_cases q : n < (2 * (((L12 : Nat) : Int))); exact Or.inl ⟨q, if_pos q⟩; exact Or.inr ⟨q, if_neg q⟩
        obtain ⟨nm, hnm⟩ : ∃ nm : Nat, nm = o + 7 + p.toNat + 1048576 * (1 + gc G) := ⟨_, rfl⟩
        have hroom := hC.room
        have hnd : (gK G nm).1 = 0 := hC.2.2.2.2.2.2.2.2.2.1.1 nm (by omega)
        refine s_newI nm (z28).toNat dX0_putRow_40 (by omega) (by omega) hnd (by omega) (by omega) ?_
        refine s_aast4 (n := o + 3) (v := nm) (N := 16) (L := (z28).toNat) dX0_putRow_42 (by rw [gnew_Kne _ _ _ _ _ (by omega)]; exact hk7) (gnew_K _ _ _ _ _ _) (by omega) (by omega) ?_
        generalize eG29r : gset (gnew G nm 1 (z28).toNat (z28).toNat (fun _ => 0)) (o + 3) p.toNat (nm : Int) = G29
        have eG29 := eG29r.symm
        have hCG29 : CI a b G29 := by rw [eG29]; exact hC.growFace ho (by omega) (kne hk7 (by decide)) hv9 hk11 (by omega) (by omega) ⟨by omega, by omega⟩ hnm
        have hXG29 : KX G G29 := KX.set (KX.new KX.rf rfl hnd) eG29
        have hFG29 : WX (fun x => x = o + 3 ∨ x = o + 4 ∨ x = o + 7 + p.toNat) G G29 := WX.set (WX.new WX.rf KX.rf rfl hnd) eG29 (by show _; omega)
        have hqG29 : gS G29 (o + 3) p.toNat = (nm : Int) := gsaE eG29
        have hkG29 : gK G29 nm = (1, (z28).toNat) := by rw [eG29, gset_K]; exact gnew_K _ _ _ _ _ _
        show WP kX0_putRow X 43 [some (2, ((o : Nat) : Int)), some (0, p), some (2, ((r : Nat) : Int)), some (0, n)] [] G29
        refine s_aload_n dX0_putRow_43 rfl (Int.natCast_nonneg _) ?_
        refine s_iconst dX0_putRow_44 (by decide) ?_
        refine s_aload_n dX0_putRow_45 rfl (Int.natCast_nonneg _) ?_
        have hk30 : gK G29 (o) = (9, 0) := ((hXG29).k hk4 (by decide))
        refine s_alv (o) (by simp) (fun al31 => ?_)
        have hv32 : gS G29 o 3 = ((o + 3 : Nat) : Int) := by have h9 : (gS G29 o 3) = (((o % 1048576) + 3 : Nat) : Int) := hCG29.1.v (j := 3) (by rw [cde_n (by omega) (by omega)]; omega : cde o = 101) al31 (by rw [hk30]; exact Nat.le_of_ble_eq_true rfl); omega
        refine s_getf (ci := 1) (k := 3) (C := RX0) (T := TX0) (N := 7) (n := o) (L := 0) (t := 2) dX0_putRow_46 rfl wi_65 m_405 (Nat.le_of_ble_eq_true rfl) rfl rfl hk30 hv32 ?_
        refine s_iload_n dX0_putRow_49 rfl ?_
        have hk33 : gK G29 (o + 3) = (4, 16) := ((hXG29).k hk7 (by decide))
        refine s_alv (o + 3) (by simp) (fun al34 => ?_)
        refine s_aald4 dX0_putRow_50 hk33 (by omega) (by omega) hqG29 ?_
        refine s_iconst dX0_putRow_51 (by decide) ?_
        refine s_iload_n dX0_putRow_52 rfl ?_
        have hk37 : gK G29 (r) = (1, N) := ((hXG29).k hkr (by decide))
        refine s_copyI dX0_putRow_53 m_1137 hk37 hkG29 (by omega) (by omega) (by omega) (by omega) (by omega) (by rw [hcf]; exact Nat.le_of_ble_eq_true rfl) (Nat.le_of_ble_eq_true rfl) ?_
        generalize eG38r : gcpy G29 r (0 : Int).toNat nm (0 : Int).toNat (n : Int).toNat = G38
        have eG38 := eG38r.symm
        have hCG38 : CI a b G38 := by rw [eG38]; exact hCG29.cpy (spc_row (by rw [cde_n (by omega) (by omega)]; omega)) (fun _ _ _ => tv_row (by rw [cde_n (by omega) (by omega)]; omega))
        have hXG38 : KX G29 G38 := KX.cpy KX.rf eG38
        have hFG38 : WX (fun x => x = o + 3 ∨ x = o + 4 ∨ x = o + 7 + p.toNat) G G38 := WX.cpy hFG29 eG38 (by show _; omega)
        show WP kX0_putRow X 56 [some (2, ((o : Nat) : Int)), some (0, p), some (2, ((r : Nat) : Int)), some (0, n)] [] G38
        refine s_aload_n dX0_putRow_56 rfl (Int.natCast_nonneg _) ?_
        have hk39 : gK G38 (o) = (9, 0) := ((hXG38).k hk30 (by decide))
        refine s_alv (o) (by simp) (fun al40 => ?_)
        have hv41 : gS G38 o 4 = ((o + 4 : Nat) : Int) := by have h9 : (gS G38 o 4) = (((o % 1048576) + 4 : Nat) : Int) := hCG38.1.v (j := 4) (by rw [cde_n (by omega) (by omega)]; omega : cde o = 101) al40 (by rw [hk39]; exact Nat.le_of_ble_eq_true rfl); omega
        refine s_getf (ci := 1) (k := 4) (C := RX0) (T := TX0) (N := 7) (n := o) (L := 0) (t := 2) dX0_putRow_57 rfl wi_65 m_406 (Nat.le_of_ble_eq_true rfl) rfl rfl hk39 hv41 ?_
        refine s_iload_n dX0_putRow_60 rfl ?_
        refine s_iload_n dX0_putRow_61 rfl ?_
        refine s_alv (o + 4) (by simp) (fun al42 => ?_)
        have hk43 : gK G38 (o + 4) = (1, 16) := hCG38.1.k (by rw [cde_n (by omega) (by omega)]; omega : cde (o + 4) = 105) al42
        refine s_iast dX0_putRow_62 hk43 (by omega) (by omega) ?_
        generalize eG44r : gset G38 (o + 4) ((p : Int).toNat) n = G44
        have eG44 := eG44r.symm
        have hCG44 : CI a b G44 := by rw [eG44]; exact hCG38.set (by rw [(by rw [cde_n (by omega) (by omega)]; omega : cde (o + 4) = 105)]; rfl) (by rw [(by rw [cde_n (by omega) (by omega)]; omega : cde (o + 4) = 105)]; exact (show 0 ≤ n ∧ n ≤ 200 from by omega))
        have hXG44 : KX G38 G44 := KX.set KX.rf eG44
        have hFG44 : WX (fun x => x = o + 3 ∨ x = o + 4 ∨ x = o + 7 + p.toNat) G G44 := WX.set hFG38 eG44 (by show _; omega)
        show WP kX0_putRow X 63 [some (2, ((o : Nat) : Int)), some (0, p), some (2, ((r : Nat) : Int)), some (0, n)] [] G44
        exact s_vret hR dX0_putRow_63 rfl (hQ G44 hCG44 (KX.trans (KX.trans hXG29 hXG38) hXG44) hFG44 (PRW.mk hkG29 (by omega) ho hp hqG29 (by omega) (fun j => by rw [eG29, gset_ne _ _ (fun q => absurd q.1 (by omega)), gnew_ne _ _ _ _ _ (fun q => by rw [q] at hkr; rw [hkr] at hnd; exact Nat.succ_ne_zero _ hnd)]) (fun j hj => by rw [eG29, gset_ne _ _ (fun q => hj q.2), gnew_ne _ _ _ _ _ (by omega)]) (fun j => by rw [eG29, gset_ne _ _ (fun q => absurd q.1 (by omega)), gnew_ne _ _ _ _ _ (by omega)]) eG38 eG44 ⟨by omega, by omega⟩))
    · -- 7 to 10
      exact s_vret hR dX0_putRow_10 rfl (hQ G hC KX.rf WX.rf (PRW.no (by omega)))

abbrev kX0_putType : KD := (RX0, cX0_putType, 4, none, [])
def TX0_putType : TR := fun as G Qr => ∃ (o : Nat) (k : Int) (r N : Nat) (n : Int) (a b : Nat), as = [(2, ((o : Nat) : Int)), (0, k), (2, ((r : Nat) : Int)), (0, n)] ∧ CI a b G ∧ (a ≤ 2840000 ∧ b ≤ 590000) ∧ (isFc o) ∧ (0 ≤ k ∧ k < 6) ∧ (gK G r = (1, N)) ∧ (N ≤ 100000) ∧ (n ≤ 200 ∨ (N : Int) < n) ∧ (r < o ∨ o + 6 < r) ∧ ∀ (G' : LG), CI a b G' → KX G G' → WX (fun x => x = o + 1 ∨ x = o + 3 ∨ x = o + 4 ∨ x = o + 7 + k.toNat) G G' → (PRW G G' o k r n N) → Qr (.inl none) G'
set_option maxHeartbeats 4000000 in
set_option maxRecDepth 100000 in
theorem gX0_putType : Good kX0_putType yX0_putType 2 TX0_putType := by
  refine good_of (by decide) rfl rfl (fun as G Qr h => ?_) (fun X as G Qr hcf hR hT oa => ?_)
  · obtain ⟨o, k, r, N, n, a, b, rfl, -⟩ := h; exact Nat.le_of_ble_eq_true rfl
  obtain ⟨o, k, r, N, n, a, b, rfl, hC, hab, ho, hk, hkr, hN, hn, hr3, hQ⟩ := hT
  show WP kX0_putType X 0 [some (2, ((o : Nat) : Int)), some (0, k), some (2, ((r : Nat) : Int)), some (0, n)] [] G
  have hr_k : inR k := okv_R (oa _ (by simp))
  have hr_n : inR n := okv_R (oa _ (by simp))
  refine s_aload_n dX0_putType_0 rfl (Int.natCast_nonneg _) ?_
  refine s_alv (o) (by simp) (fun al1 => ?_)
  have hk2 : gK G (o) = (9, 0) := hC.1.k (by rw [cde_n (by omega) (by omega)]; omega : cde o = 101) al1
  have hv3 : gS G o 1 = ((o + 1 : Nat) : Int) := by have h9 : (gS G o 1) = (((o % 1048576) + 1 : Nat) : Int) := hC.1.v (j := 1) (by rw [cde_n (by omega) (by omega)]; omega : cde o = 101) al1 (by rw [hk2]; exact Nat.le_of_ble_eq_true rfl); omega
  refine s_getf (ci := 1) (k := 1) (C := RX0) (T := TX0) (N := 7) (n := o) (L := 0) (t := 2) dX0_putType_1 rfl wi_65 m_409 (Nat.le_of_ble_eq_true rfl) rfl rfl hk2 hv3 ?_
  refine s_iload_n dX0_putType_4 rfl ?_
  refine s_iconst dX0_putType_5 (by decide) ?_
  refine s_alv (o + 1) (by simp) (fun al4 => ?_)
  have hk5 : gK G (o + 1) = (1, 6) := hC.1.k (by rw [cde_n (by omega) (by omega)]; omega : cde (o + 1) = 102) al4
  refine s_iast dX0_putType_6 hk5 (by omega) (by omega) ?_
  generalize eG6r : gset G (o + 1) ((k : Int).toNat) 2 = G6
  have eG6 := eG6r.symm
  have hCG6 : CI a b G6 := by rw [eG6]; exact hC.set (by rw [(by rw [cde_n (by omega) (by omega)]; omega : cde (o + 1) = 102)]; rfl) (by rw [(by rw [cde_n (by omega) (by omega)]; omega : cde (o + 1) = 102)]; exact trivial)
  have hXG6 : KX G G6 := KX.set KX.rf eG6
  have hFG6 : WX (fun x => x = o + 1 ∨ x = o + 3 ∨ x = o + 4 ∨ x = o + 7 + k.toNat) G G6 := WX.set WX.rf eG6 (by show _; omega)
  show WP kX0_putType X 7 [some (2, ((o : Nat) : Int)), some (0, k), some (2, ((r : Nat) : Int)), some (0, n)] [] G6
  refine s_aload_n dX0_putType_7 rfl (Int.natCast_nonneg _) ?_
  refine s_iload_n dX0_putType_8 rfl ?_
  refine s_aload_n dX0_putType_9 rfl (Int.natCast_nonneg _) ?_
  refine s_iload_n dX0_putType_10 rfl ?_
  have hk7 : gK G6 (r) = (1, N) := ((hXG6).k hkr (by decide))
  have hk10 : gK G6 (o) = (9, 0) := ((hXG6).k hk2 (by decide))
  refine s_callV (as := [(0, k), (2, ((r : Nat) : Int)), (0, n)]) (rest := []) (n := o) (ci := 1) gX0_putRow dX0_putType_11 m_1138 m_746 m_1479 m_711 m_73 ⟨by decide, by decide, show (parseMethodDescriptor yX0_putRow.desc).map (fun d => d.parameters.length) = some 3 from by decide +kernel⟩ (Nat.le_of_ble_eq_true rfl) (by rw [hcf]; exact Nat.le_of_ble_eq_true rfl) hk10 rfl rfl (Nat.le_of_ble_eq_true rfl) ⟨o, k, r, N, n, a, b, rfl, hCG6, hab, (by first | assumption | omega), (by first | assumption | omega), hk7, (by first | assumption | omega), (by first | assumption | omega), (by first | assumption | omega), fun G8 hCG8 hXG8 hfG8 hpG8 => ?_⟩
  have hFG8 : WX (fun x => x = o + 1 ∨ x = o + 3 ∨ x = o + 4 ∨ x = o + 7 + k.toNat) G G8 := WX.trans hFG6 hXG6 (WX.mono hfG8 (fun x hx => by omega))
  show WP kX0_putType X 14 [some (2, ((o : Nat) : Int)), some (0, k), some (2, ((r : Nat) : Int)), some (0, n)] [] G8
  exact s_vret hR dX0_putType_14 rfl (hQ G8 hCG8 (KX.trans hXG6 hXG8) hFG8 (PRW.pre hpG8 (gset_o eG6 (by omega)) (gset_o eG6 (by omega)) (gset_o eG6 (by omega)) (fun q hq => gset_o eG6 (by omega))))

abbrev kX0_putStamp : KD := (RX0, cX0_putStamp, 3, none, [])
def TX0_putStamp : TR := fun as G Qr => ∃ (o : Nat) (k n : Int) (a b : Nat), as = [(2, ((o : Nat) : Int)), (0, k), (0, n)] ∧ CI a b G ∧ (a ≤ 2840000 ∧ b ≤ 590000) ∧ (isFc o) ∧ (0 ≤ k ∧ k < 6) ∧ ∀ (G' : LG), CI a b G' → KX G G' → WX (fun x => x = o + 1 ∨ x = o + 4 ∨ x = o + 7 + k.toNat) G G' → ((∃ q L : Nat, gS G' (o + 3) k.toNat = (q : Int) ∧ q % 1048576 = o + 7 + k.toNat ∧ gK G' q = (1, L) ∧ 1 ≤ L ∧ gS G' q 0 = n) ∧ gS G' (o + 4) k.toNat = 1 ∧ ∀ j, j ≠ k.toNat → gS G' (o + 3) j = gS G (o + 3) j ∧ gS G' (o + 4) j = gS G (o + 4) j) → Qr (.inl none) G'
set_option maxHeartbeats 4000000 in
set_option maxRecDepth 100000 in
theorem gX0_putStamp : Good kX0_putStamp yX0_putStamp 0 TX0_putStamp := by
  refine good_of (by decide) rfl rfl (fun as G Qr h => ?_) (fun X as G Qr hcf hR hT oa => ?_)
  · obtain ⟨o, k, n, a, b, rfl, -⟩ := h; exact Nat.le_of_ble_eq_true rfl
  obtain ⟨o, k, n, a, b, rfl, hC, hab, ho, hk, hQ⟩ := hT
  show WP kX0_putStamp X 0 [some (2, ((o : Nat) : Int)), some (0, k), some (0, n)] [] G
  have hr_k : inR k := okv_R (oa _ (by simp))
  have hr_n : inR n := okv_R (oa _ (by simp))
  refine s_aload_n dX0_putStamp_0 rfl (Int.natCast_nonneg _) ?_
  refine s_alv (o) (by simp) (fun al1 => ?_)
  have hk2 : gK G (o) = (9, 0) := hC.1.k (by rw [cde_n (by omega) (by omega)]; omega : cde o = 101) al1
  have hv3 : gS G o 1 = ((o + 1 : Nat) : Int) := by have h9 : (gS G o 1) = (((o % 1048576) + 1 : Nat) : Int) := hC.1.v (j := 1) (by rw [cde_n (by omega) (by omega)]; omega : cde o = 101) al1 (by rw [hk2]; exact Nat.le_of_ble_eq_true rfl); omega
  refine s_getf (ci := 1) (k := 1) (C := RX0) (T := TX0) (N := 7) (n := o) (L := 0) (t := 2) dX0_putStamp_1 rfl wi_65 m_409 (Nat.le_of_ble_eq_true rfl) rfl rfl hk2 hv3 ?_
  refine s_iload_n dX0_putStamp_4 rfl ?_
  refine s_iconst dX0_putStamp_5 (by decide) ?_
  refine s_alv (o + 1) (by simp) (fun al4 => ?_)
  have hk5 : gK G (o + 1) = (1, 6) := hC.1.k (by rw [cde_n (by omega) (by omega)]; omega : cde (o + 1) = 102) al4
  refine s_iast dX0_putStamp_6 hk5 (by omega) (by omega) ?_
  generalize eG6r : gset G (o + 1) ((k : Int).toNat) 2 = G6
  have eG6 := eG6r.symm
  have hCG6 : CI a b G6 := by rw [eG6]; exact hC.set (by rw [(by rw [cde_n (by omega) (by omega)]; omega : cde (o + 1) = 102)]; rfl) (by rw [(by rw [cde_n (by omega) (by omega)]; omega : cde (o + 1) = 102)]; exact trivial)
  have hXG6 : KX G G6 := KX.set KX.rf eG6
  have hFG6 : WX (fun x => x = o + 1 ∨ x = o + 4 ∨ x = o + 7 + k.toNat) G G6 := WX.set WX.rf eG6 (by show _; omega)
  show WP kX0_putStamp X 7 [some (2, ((o : Nat) : Int)), some (0, k), some (0, n)] [] G6
  refine s_aload_n dX0_putStamp_7 rfl (Int.natCast_nonneg _) ?_
  have hk7 : gK G6 (o) = (9, 0) := ((hXG6).k hk2 (by decide))
  refine s_alv (o) (by simp) (fun al8 => ?_)
  have hv9 : gS G6 o 3 = ((o + 3 : Nat) : Int) := by have h9 : (gS G6 o 3) = (((o % 1048576) + 3 : Nat) : Int) := hCG6.1.v (j := 3) (by rw [cde_n (by omega) (by omega)]; omega : cde o = 101) al8 (by rw [hk7]; exact Nat.le_of_ble_eq_true rfl); omega
  refine s_getf (ci := 1) (k := 3) (C := RX0) (T := TX0) (N := 7) (n := o) (L := 0) (t := 2) dX0_putStamp_8 rfl wi_65 m_405 (Nat.le_of_ble_eq_true rfl) rfl rfl hk7 hv9 ?_
  refine s_iload_n dX0_putStamp_11 rfl ?_
  refine s_alv (o + 3) (by simp) (fun al10 => ?_)
  have hk11 : gK G6 (o + 3) = (4, 16) := hCG6.1.k (by rw [cde_n (by omega) (by omega)]; omega : cde (o + 3) = 104) al10
  have hv13b : 0 ≤ (gS G6 (o + 3) (k : Int).toNat) ∧ (gS G6 (o + 3) (k : Int).toNat) % 1048576 = ((((o + 3) % 1048576) + 4 + ((k : Int).toNat) : Nat) : Int) := hCG6.1.v (j := (k : Int).toNat) (by rw [cde_n (by omega) (by omega)]; omega : cde (o + 3) = 104) al10 (by rw [hk11]; show (k : Int).toNat < 16; omega)
  obtain ⟨q12, hv13⟩ : ∃ q : Nat, gS G6 (o + 3) (k : Int).toNat = (q : Int) := ⟨(gS G6 (o + 3) (k : Int).toNat).toNat, by omega⟩
  rw [hv13] at hv13b
  refine s_aald4 dX0_putStamp_12 hk11 (by omega) (by omega) hv13 ?_
  refine s_iconst dX0_putStamp_13 (by decide) ?_
  refine s_iload_n dX0_putStamp_14 rfl ?_
  refine s_alv (q12) (by simp) (fun al14 => ?_)
  obtain ⟨L16, hk15, hL16a, hL16b⟩ := hCG6.1.kr (show 108 ≤ cde q12 ∧ cde q12 < 124 from by rw [cde_n (by omega) (by omega)]; omega) al14
  refine s_iast dX0_putStamp_15 hk15 (by omega) (by omega) ?_
  generalize eG17r : gset G6 q12 ((0 : Int).toNat) n = G17
  have eG17 := eG17r.symm
  have hCG17 : CI a b G17 := by rw [eG17]; exact hCG6.set (spc_row (by rw [cde_n (by omega) (by omega)]; omega)) (tv_row (by rw [cde_n (by omega) (by omega)]; omega))
  have hXG17 : KX G6 G17 := KX.set KX.rf eG17
  have hFG17 : WX (fun x => x = o + 1 ∨ x = o + 4 ∨ x = o + 7 + k.toNat) G G17 := WX.set hFG6 eG17 (by show _; omega)
  show WP kX0_putStamp X 16 [some (2, ((o : Nat) : Int)), some (0, k), some (0, n)] [] G17
  refine s_aload_n dX0_putStamp_16 rfl (Int.natCast_nonneg _) ?_
  have hk18 : gK G17 (o) = (9, 0) := ((hXG17).k hk7 (by decide))
  refine s_alv (o) (by simp) (fun al19 => ?_)
  have hv20 : gS G17 o 4 = ((o + 4 : Nat) : Int) := by have h9 : (gS G17 o 4) = (((o % 1048576) + 4 : Nat) : Int) := hCG17.1.v (j := 4) (by rw [cde_n (by omega) (by omega)]; omega : cde o = 101) al19 (by rw [hk18]; exact Nat.le_of_ble_eq_true rfl); omega
  refine s_getf (ci := 1) (k := 4) (C := RX0) (T := TX0) (N := 7) (n := o) (L := 0) (t := 2) dX0_putStamp_17 rfl wi_65 m_406 (Nat.le_of_ble_eq_true rfl) rfl rfl hk18 hv20 ?_
  refine s_iload_n dX0_putStamp_20 rfl ?_
  refine s_iconst dX0_putStamp_21 (by decide) ?_
  refine s_alv (o + 4) (by simp) (fun al21 => ?_)
  have hk22 : gK G17 (o + 4) = (1, 16) := hCG17.1.k (by rw [cde_n (by omega) (by omega)]; omega : cde (o + 4) = 105) al21
  refine s_iast dX0_putStamp_22 hk22 (by omega) (by omega) ?_
  generalize eG23r : gset G17 (o + 4) ((k : Int).toNat) 1 = G23
  have eG23 := eG23r.symm
  have hCG23 : CI a b G23 := by rw [eG23]; exact hCG17.set (by rw [(by rw [cde_n (by omega) (by omega)]; omega : cde (o + 4) = 105)]; rfl) (by rw [(by rw [cde_n (by omega) (by omega)]; omega : cde (o + 4) = 105)]; exact (show 0 ≤ 1 ∧ 1 ≤ 200 from by omega))
  have hXG23 : KX G17 G23 := KX.set KX.rf eG23
  have hFG23 : WX (fun x => x = o + 1 ∨ x = o + 4 ∨ x = o + 7 + k.toNat) G G23 := WX.set hFG17 eG23 (by show _; omega)
  show WP kX0_putStamp X 23 [some (2, ((o : Nat) : Int)), some (0, k), some (0, n)] [] G23
  have hk24 : gK G23 (q12) = (1, L16) := ((hXG23).k ((hXG17).k hk15 (by decide)) (by decide))
  exact s_vret hR dX0_putStamp_23 rfl (hQ G23 hCG23 (KX.trans (KX.trans hXG6 hXG17) hXG23) hFG23 ⟨⟨q12, L16, by rw [gset_o eG23 (x := o + 3) (by omega), gset_o eG17 (x := o + 3) (by omega)]; exact hv13, by omega, hk24, by omega, by rw [gset_o eG23 (x := q12) (by omega)]; exact gsaE eG17⟩, gsaE eG23, fun j hj => ⟨by rw [gset_o eG23 (x := o + 3) (by omega), gset_o eG17 (x := o + 3) (by omega), gset_o eG6 (x := o + 3) (by omega)], by rw [eG23, gset_ne _ _ (fun z => hj z.2), gset_o eG17 (x := o + 4) (by omega), gset_o eG6 (x := o + 4) (by omega)]⟩⟩)

abbrev kX0_putValue : KD := (RX0, cX0_putValue, 5, none, [])
def TX0_putValue : TR := fun as G Qr => ∃ (o : Nat) (k t : Int) (r N : Nat) (n : Int) (a b : Nat), as = [(2, ((o : Nat) : Int)), (0, k), (0, t), (2, ((r : Nat) : Int)), (0, n)] ∧ CI a b G ∧ (a ≤ 2840000 ∧ b ≤ 590000) ∧ (isFc o) ∧ (0 ≤ k ∧ k < 10) ∧ (gK G r = (1, N)) ∧ (N ≤ 100000) ∧ (n ≤ 200 ∨ (N : Int) < n) ∧ (r < o ∨ o + 6 < r) ∧ ∀ (G' : LG), CI a b G' → KX G G' → WX (fun x => x = o + 2 ∨ x = o + 5 ∨ x = o + 3 ∨ x = o + 4 ∨ x = o + 13 + k.toNat) G G' → (PRW G G' o (6 + k) r n N ∧ ∀ j, j ≠ k.toNat → gS G' (o + 2) j = gS G (o + 2) j) → Qr (.inl none) G'
set_option maxHeartbeats 4000000 in
set_option maxRecDepth 100000 in
theorem gX0_putValue : Good kX0_putValue yX0_putValue 2 TX0_putValue := by
  refine good_of (by decide) rfl rfl (fun as G Qr h => ?_) (fun X as G Qr hcf hR hT oa => ?_)
  · obtain ⟨o, k, t, r, N, n, a, b, rfl, -⟩ := h; exact Nat.le_of_ble_eq_true rfl
  obtain ⟨o, k, t, r, N, n, a, b, rfl, hC, hab, ho, hk, hkr, hN, hn, hr3, hQ⟩ := hT
  show WP kX0_putValue X 0 [some (2, ((o : Nat) : Int)), some (0, k), some (0, t), some (2, ((r : Nat) : Int)), some (0, n)] [] G
  have hr_k : inR k := okv_R (oa _ (by simp))
  have hr_t : inR t := okv_R (oa _ (by simp))
  have hr_n : inR n := okv_R (oa _ (by simp))
  refine s_aload_n dX0_putValue_0 rfl (Int.natCast_nonneg _) ?_
  refine s_alv (o) (by simp) (fun al1 => ?_)
  have hk2 : gK G (o) = (9, 0) := hC.1.k (by rw [cde_n (by omega) (by omega)]; omega : cde o = 101) al1
  have hv3 : gS G o 2 = ((o + 2 : Nat) : Int) := by have h9 : (gS G o 2) = (((o % 1048576) + 2 : Nat) : Int) := hC.1.v (j := 2) (by rw [cde_n (by omega) (by omega)]; omega : cde o = 101) al1 (by rw [hk2]; exact Nat.le_of_ble_eq_true rfl); omega
  refine s_getf (ci := 1) (k := 2) (C := RX0) (T := TX0) (N := 7) (n := o) (L := 0) (t := 2) dX0_putValue_1 rfl wi_65 m_404 (Nat.le_of_ble_eq_true rfl) rfl rfl hk2 hv3 ?_
  refine s_iload_n dX0_putValue_4 rfl ?_
  refine s_iload_n dX0_putValue_5 rfl ?_
  refine s_alv (o + 2) (by simp) (fun al4 => ?_)
  have hk5 : gK G (o + 2) = (1, 10) := hC.1.k (by rw [cde_n (by omega) (by omega)]; omega : cde (o + 2) = 103) al4
  refine s_iast dX0_putValue_6 hk5 (by omega) (by omega) ?_
  generalize eG6r : gset G (o + 2) ((k : Int).toNat) t = G6
  have eG6 := eG6r.symm
  have hCG6 : CI a b G6 := by rw [eG6]; exact hC.set (by rw [(by rw [cde_n (by omega) (by omega)]; omega : cde (o + 2) = 103)]; rfl) (by rw [(by rw [cde_n (by omega) (by omega)]; omega : cde (o + 2) = 103)]; exact trivial)
  have hXG6 : KX G G6 := KX.set KX.rf eG6
  have hFG6 : WX (fun x => x = o + 2 ∨ x = o + 5 ∨ x = o + 3 ∨ x = o + 4 ∨ x = o + 13 + k.toNat) G G6 := WX.set WX.rf eG6 (by show _; omega)
  show WP kX0_putValue X 7 [some (2, ((o : Nat) : Int)), some (0, k), some (0, t), some (2, ((r : Nat) : Int)), some (0, n)] [] G6
  refine s_aload_n dX0_putValue_7 rfl (Int.natCast_nonneg _) ?_
  have hk7 : gK G6 (o) = (9, 0) := ((hXG6).k hk2 (by decide))
  refine s_alv (o) (by simp) (fun al8 => ?_)
  have hv9 : gS G6 o 5 = ((o + 5 : Nat) : Int) := by have h9 : (gS G6 o 5) = (((o % 1048576) + 5 : Nat) : Int) := hCG6.1.v (j := 5) (by rw [cde_n (by omega) (by omega)]; omega : cde o = 101) al8 (by rw [hk7]; exact Nat.le_of_ble_eq_true rfl); omega
  refine s_getf (ci := 1) (k := 5) (C := RX0) (T := TX0) (N := 7) (n := o) (L := 0) (t := 2) dX0_putValue_8 rfl wi_65 m_407 (Nat.le_of_ble_eq_true rfl) rfl rfl hk7 hv9 ?_
  refine s_iload_n dX0_putValue_11 rfl ?_
  refine s_iconst dX0_putValue_12 (by decide) ?_
  refine s_alv (o + 5) (by simp) (fun al10 => ?_)
  have hk11 : gK G6 (o + 5) = (2, 10) := hCG6.1.k (by rw [cde_n (by omega) (by omega)]; omega : cde (o + 5) = 106) al10
  refine s_bast dX0_putValue_13 hk11 (by omega) (by omega) (by omega) ?_
  generalize eG12r : gset G6 (o + 5) ((k : Int).toNat) 0 = G12
  have eG12 := eG12r.symm
  have hCG12 : CI a b G12 := by rw [eG12]; exact hCG6.set (by rw [(by rw [cde_n (by omega) (by omega)]; omega : cde (o + 5) = 106)]; rfl) (by rw [(by rw [cde_n (by omega) (by omega)]; omega : cde (o + 5) = 106)]; exact trivial)
  have hXG12 : KX G6 G12 := KX.set KX.rf eG12
  have hFG12 : WX (fun x => x = o + 2 ∨ x = o + 5 ∨ x = o + 3 ∨ x = o + 4 ∨ x = o + 13 + k.toNat) G G12 := WX.set hFG6 eG12 (by show _; omega)
  show WP kX0_putValue X 14 [some (2, ((o : Nat) : Int)), some (0, k), some (0, t), some (2, ((r : Nat) : Int)), some (0, n)] [] G12
  refine s_aload_n dX0_putValue_14 rfl (Int.natCast_nonneg _) ?_
  refine s_bipush dX0_putValue_15 rfl (by decide) ?_
  refine s_iload_n dX0_putValue_17 rfl ?_
  refine s_iadd dX0_putValue_18 (by omega) ?_
  refine s_aload_n dX0_putValue_19 rfl (Int.natCast_nonneg _) ?_
  refine s_iload dX0_putValue_20 rfl ?_
  have hk13 : gK G12 (r) = (1, N) := ((hXG12).k ((hXG6).k hkr (by decide)) (by decide))
  have hk16 : gK G12 (o) = (9, 0) := ((hXG12).k hk7 (by decide))
  refine s_callV (as := [(0, 6 + k), (2, ((r : Nat) : Int)), (0, n)]) (rest := []) (n := o) (ci := 1) gX0_putRow dX0_putValue_22 m_1138 m_746 m_1479 m_711 m_73 ⟨by decide, by decide, show (parseMethodDescriptor yX0_putRow.desc).map (fun d => d.parameters.length) = some 3 from by decide +kernel⟩ (Nat.le_of_ble_eq_true rfl) (by rw [hcf]; exact Nat.le_of_ble_eq_true rfl) hk16 rfl rfl (Nat.le_of_ble_eq_true rfl) ⟨o, 6 + k, r, N, n, a, b, rfl, hCG12, hab, (by first | assumption | omega), (by first | assumption | omega), hk13, (by first | assumption | omega), (by first | assumption | omega), (by first | assumption | omega), fun G14 hCG14 hXG14 hfG14 hpG14 => ?_⟩
  have hFG14 : WX (fun x => x = o + 2 ∨ x = o + 5 ∨ x = o + 3 ∨ x = o + 4 ∨ x = o + 13 + k.toNat) G G14 := WX.trans hFG12 (KX.trans hXG6 hXG12) (WX.mono hfG14 (fun x hx => by omega))
  show WP kX0_putValue X 25 [some (2, ((o : Nat) : Int)), some (0, k), some (0, t), some (2, ((r : Nat) : Int)), some (0, n)] [] G14
  exact s_vret hR dX0_putValue_25 rfl (hQ G14 hCG14 (KX.trans (KX.trans hXG6 hXG12) hXG14) hFG14 ⟨PRW.pre hpG14 ((gset_o eG12 (x := r) (by omega)).trans (gset_o eG6 (by omega))) ((gset_o eG12 (x := o + 3) (by omega)).trans (gset_o eG6 (by omega))) ((gset_o eG12 (x := o + 4) (by omega)).trans (gset_o eG6 (by omega))) (fun q hq => ((gset_o eG12 (x := q) (by omega)).trans (gset_o eG6 (by omega)))), fun j hj => by rw [show gS G14 (o + 2) = gS G12 (o + 2) from hfG14 (o + 2) (KX.al (KX.trans hXG6 hXG12) (kne hk5 (by decide))) (by show ¬ _; omega), gset_o eG12 (x := o + 2) (by omega), eG6, gset_ne _ _ (fun z => hj z.2)]⟩)

abbrev kX0_putNumberOf : KD := (RX0, cX0_putNumberOf, 4, none, [])
def TX0_putNumberOf : TR := fun as G Qr => ∃ (o : Nat) (k : Int) (o2 : Nat) (k2 : Int) (a b : Nat), as = [(2, ((o : Nat) : Int)), (0, k), (2, ((o2 : Nat) : Int)), (0, k2)] ∧ CI a b G ∧ (a ≤ 2840000 ∧ b ≤ 590000) ∧ (isFc o) ∧ (0 ≤ k ∧ k < 10) ∧ (isFc o2) ∧ (0 ≤ k2 ∧ k2 < 10) ∧ ∀ (G' : LG), CI a b G' → KX G G' → WX (fun x => x = o + 5 ∨ x = o + 6) G G' → (True) → Qr (.inl none) G'
set_option maxHeartbeats 4000000 in
set_option maxRecDepth 100000 in
theorem gX0_putNumberOf : Good kX0_putNumberOf yX0_putNumberOf 1 TX0_putNumberOf := by
  refine good_of (by decide) rfl rfl (fun as G Qr h => ?_) (fun X as G Qr hcf hR hT oa => ?_)
  · obtain ⟨o, k, o2, k2, a, b, rfl, -⟩ := h; exact Nat.le_of_ble_eq_true rfl
  obtain ⟨o, k, o2, k2, a, b, rfl, hC, hab, ho, hk, ho2, hk2, hQ⟩ := hT
  show WP kX0_putNumberOf X 0 [some (2, ((o : Nat) : Int)), some (0, k), some (2, ((o2 : Nat) : Int)), some (0, k2)] [] G
  have hr_k : inR k := okv_R (oa _ (by simp))
  have hr_k2 : inR k2 := okv_R (oa _ (by simp))
  refine s_aload_n dX0_putNumberOf_0 rfl (Int.natCast_nonneg _) ?_
  refine s_alv (o2) (by simp) (fun al1 => ?_)
  have hk2 : gK G (o2) = (9, 0) := hC.1.k (by rw [cde_n (by omega) (by omega)]; omega : cde o2 = 101) al1
  have hv3 : gS G o2 5 = ((o2 + 5 : Nat) : Int) := by have h9 : (gS G o2 5) = (((o2 % 1048576) + 5 : Nat) : Int) := hC.1.v (j := 5) (by rw [cde_n (by omega) (by omega)]; omega : cde o2 = 101) al1 (by rw [hk2]; exact Nat.le_of_ble_eq_true rfl); omega
  refine s_getf (ci := 1) (k := 5) (C := RX0) (T := TX0) (N := 7) (n := o2) (L := 0) (t := 2) dX0_putNumberOf_1 rfl wi_65 m_407 (Nat.le_of_ble_eq_true rfl) rfl rfl hk2 hv3 ?_
  refine s_iload_n dX0_putNumberOf_4 rfl ?_
  refine s_alv (o2 + 5) (by simp) (fun al4 => ?_)
  have hk5 : gK G (o2 + 5) = (2, 10) := hC.1.k (by rw [cde_n (by omega) (by omega)]; omega : cde (o2 + 5) = 106) al4
  refine s_bald dX0_putNumberOf_5 hk5 (by omega) (by omega) rfl ?_
  refine s_if_eq (tgt := 20) dX0_putNumberOf_6 (by decide) (fun c6 => ?_) (fun c6 => ?_)
  · -- 6 to 20
    exact s_vret hR dX0_putNumberOf_20 rfl (hQ G hC KX.rf WX.rf trivial)
  · -- 6 to 9
    refine s_aload_n dX0_putNumberOf_9 rfl (Int.natCast_nonneg _) ?_
    refine s_iload_n dX0_putNumberOf_10 rfl ?_
    refine s_aload_n dX0_putNumberOf_11 rfl (Int.natCast_nonneg _) ?_
    have hv7 : gS G o2 6 = ((o2 + 6 : Nat) : Int) := by have h9 : (gS G o2 6) = (((o2 % 1048576) + 6 : Nat) : Int) := hC.1.v (j := 6) (by rw [cde_n (by omega) (by omega)]; omega : cde o2 = 101) al1 (by rw [hk2]; exact Nat.le_of_ble_eq_true rfl); omega
    refine s_getf (ci := 1) (k := 6) (C := RX0) (T := TX0) (N := 7) (n := o2) (L := 0) (t := 2) dX0_putNumberOf_12 rfl wi_65 m_408 (Nat.le_of_ble_eq_true rfl) rfl rfl hk2 hv7 ?_
    refine s_iload_n dX0_putNumberOf_15 rfl ?_
    refine s_alv (o2 + 6) (by simp) (fun al8 => ?_)
    have hk9 : gK G (o2 + 6) = (1, 10) := hC.1.k (by rw [cde_n (by omega) (by omega)]; omega : cde (o2 + 6) = 107) al8
    refine s_iald dX0_putNumberOf_16 hk9 (by omega) (by omega) rfl ?_
    refine s_alv (o) (by simp) (fun al12 => ?_)
    have hk13 : gK G (o) = (9, 0) := hC.1.k (by rw [cde_n (by omega) (by omega)]; omega : cde o = 101) al12
    refine s_callV (as := [(0, k), (0, gS G (o2 + 6) ((k2 : Int).toNat))]) (rest := []) (n := o) (ci := 1) gX0_putNumber dX0_putNumberOf_17 m_1139 m_744 m_1477 m_711 m_71 ⟨by decide, by decide, show (parseMethodDescriptor yX0_putNumber.desc).map (fun d => d.parameters.length) = some 2 from by decide +kernel⟩ (Nat.le_of_ble_eq_true rfl) (by rw [hcf]; exact Nat.le_of_ble_eq_true rfl) hk13 rfl rfl (Nat.le_of_ble_eq_true rfl) ⟨o, k, gS G (o2 + 6) ((k2 : Int).toNat), a, b, rfl, hC, hab, (by first | assumption | omega), (by first | assumption | omega), fun G10 hCG10 hXG10 hfG10 hpG10 => ?_⟩
    have hFG10 : WX (fun x => x = o + 5 ∨ x = o + 6) G G10 := WX.trans WX.rf KX.rf (WX.mono hfG10 (fun x hx => by omega))
    show WP kX0_putNumberOf X 20 [some (2, ((o : Nat) : Int)), some (0, k), some (2, ((o2 : Nat) : Int)), some (0, k2)] [] G10
    exact s_vret hR dX0_putNumberOf_20 rfl (hQ G10 hCG10 hXG10 hFG10 trivial)

abbrev kX0_valueNames : KD := (RX0, cX0_valueNames, 3, (some .int), [])
def TX0_valueNames : TR := fun as G Qr => ∃ (o : Nat) (a b : Nat), as = [(2, ((o : Nat) : Int))] ∧ CI a b G ∧ (a ≤ 2840000 ∧ b ≤ 590000) ∧ (isFc o) ∧ ∀ (r : Int), (True) → Qr (.inl (some (0, r))) G
set_option maxHeartbeats 4000000 in
set_option maxRecDepth 100000 in
theorem gX0_valueNames : Good kX0_valueNames yX0_valueNames 1 TX0_valueNames := by
  refine good_of (by decide) rfl rfl (fun as G Qr h => ?_) (fun X as G Qr hcf hR hT oa => ?_)
  · obtain ⟨o, a, b, rfl, -⟩ := h; exact Nat.le_of_ble_eq_true rfl
  obtain ⟨o, a, b, rfl, hC, hab, ho, hQ⟩ := hT
  show WP kX0_valueNames X 0 [some (2, ((o : Nat) : Int)), none, none] [] G
  refine s_iconst dX0_valueNames_0 (by decide) ?_
  refine s_istore_n dX0_valueNames_1 (by decide) (lv' := [some (2, ((o : Nat) : Int)), some (0, 0), none]) rfl ?_
  refine s_iconst dX0_valueNames_2 (by decide) ?_
  refine s_istore_n dX0_valueNames_3 (by decide) (lv' := [some (2, ((o : Nat) : Int)), some (0, 0), some (0, 0)]) rfl ?_
  have L1 : ∀ (n1 : Nat) (s1 : Int) (k1 : Int), ((0 ≤ k1 ∧ k1 ≤ 10)) → (10 - k1).toNat < n1 → WP kX0_valueNames X 4 [some (2, ((o : Nat) : Int)), some (0, s1), some (0, k1)] [] G := by
    intro n1
    induction n1 with
    | zero => intro s1 k1 hi1 hm1; exact absurd hm1 (Nat.not_lt_zero _)
    | succ n1 ih1 =>
      intro s1 k1 hi1 hm1
      have ik1 := hi1
      refine s_iload_n dX0_valueNames_4 rfl ?_
      refine s_bipush dX0_valueNames_5 rfl (by decide) ?_
      refine s_icmp_ge (tgt := 34) dX0_valueNames_7 (by decide) (fun c2 => ?_) (fun c2 => ?_)
      · -- 7 to 34
        refine s_iload_n dX0_valueNames_34 rfl ?_
        exact s_iret hR dX0_valueNames_35 rfl (hQ s1 trivial)
      · -- 7 to 10
        refine s_iload_n dX0_valueNames_10 rfl ?_
        refine s_aload_n dX0_valueNames_11 rfl (Int.natCast_nonneg _) ?_
        refine s_iload_n dX0_valueNames_12 rfl ?_
        refine s_alv (o) (by simp) (fun al5 => ?_)
        have hk6 : gK G (o) = (9, 0) := hC.1.k (by rw [cde_n (by omega) (by omega)]; omega : cde o = 101) al5
        refine s_callV (as := [(0, k1)]) (rest := [(0, s1)]) (n := o) (ci := 1) gX0_hasValue dX0_valueNames_13 m_1143 m_739 m_1473 m_711 m_66 ⟨by decide, by decide, show (parseMethodDescriptor yX0_hasValue.desc).map (fun d => d.parameters.length) = some 1 from by decide +kernel⟩ (Nat.le_of_ble_eq_true rfl) (by rw [hcf]; exact Nat.le_of_ble_eq_true rfl) hk6 rfl rfl (Nat.le_of_ble_eq_true rfl) ⟨o, k1, a, b, rfl, hC, hab, (by first | assumption | omega), (by first | assumption | omega), fun rr3 hp4 => ?_⟩
        show WP kX0_valueNames X 16 [some (2, ((o : Nat) : Int)), some (0, s1), some (0, k1)] [(0, rr3), (0, s1)] G
        have J8 : ∀ z7 : Int, ((rr3 = 0) ∧ z7 = 0) ∨ ((¬ rr3 = 0) ∧ z7 = i_shl 1 k1) → WP kX0_valueNames X 26 [some (2, ((o : Nat) : Int)), some (0, s1), some (0, k1)] [(0, z7), (0, s1)] G := by
          intro z7 hz7
          refine s_ior dX0_valueNames_26 ?_
          refine s_istore_n dX0_valueNames_27 (by decide) (lv' := [some (2, ((o : Nat) : Int)), some (0, i_or s1 z7), some (0, k1)]) rfl ?_
          refine s_iinc dX0_valueNames_28 (v := k1) rfl (by omega) (by decide) (lv' := [some (2, ((o : Nat) : Int)), some (0, i_or s1 z7), some (0, k1 + 1)]) rfl ?_
          refine s_goto (tgt := 4) dX0_valueNames_31 (by decide) ?_
          exact ih1 (i_or s1 z7) (k1 + 1) ((by omega)) (by omega)
        refine s_if_eq (tgt := 25) dX0_valueNames_16 (by decide) (fun c9 => ?_) (fun c9 => ?_)
        · -- 16 to 25
          refine s_iconst dX0_valueNames_25 (by decide) ?_
          exact J8 0 (Or.inl ⟨c9, rfl⟩)
        · -- 16 to 19
          refine s_iconst dX0_valueNames_19 (by decide) ?_
          refine s_iload_n dX0_valueNames_20 rfl ?_
          refine s_ishl dX0_valueNames_21 ?_
          refine s_goto (tgt := 26) dX0_valueNames_22 (by decide) ?_
          exact J8 _ (Or.inr (⟨c9, rfl⟩))
  exact L1 _ 0 0 ((by omega)) (Nat.lt_succ_self _)

abbrev kX0_isStamp : KD := (RX0, cX0_isStamp, 2, (some .boolean), [])
def TX0_isStamp : TR := fun as G Qr => ∃ (o : Nat) (k : Int) (a b : Nat), as = [(2, ((o : Nat) : Int)), (0, k)] ∧ CI a b G ∧ (a ≤ 2840000 ∧ b ≤ 590000) ∧ (isFc o) ∧ (0 ≤ k ∧ k < 6) ∧ ∀ (r : Int), (r = 0 ∨ r = 1) → Qr (.inl (some (0, r))) G
set_option maxHeartbeats 4000000 in
set_option maxRecDepth 100000 in
theorem gX0_isStamp : Good kX0_isStamp yX0_isStamp 0 TX0_isStamp := by
  refine good_of (by decide) rfl rfl (fun as G Qr h => ?_) (fun X as G Qr hcf hR hT oa => ?_)
  · obtain ⟨o, k, a, b, rfl, -⟩ := h; exact Nat.le_of_ble_eq_true rfl
  obtain ⟨o, k, a, b, rfl, hC, hab, ho, hk, hQ⟩ := hT
  show WP kX0_isStamp X 0 [some (2, ((o : Nat) : Int)), some (0, k)] [] G
  have hr_k : inR k := okv_R (oa _ (by simp))
  refine s_aload_n dX0_isStamp_0 rfl (Int.natCast_nonneg _) ?_
  refine s_alv (o) (by simp) (fun al1 => ?_)
  have hk2 : gK G (o) = (9, 0) := hC.1.k (by rw [cde_n (by omega) (by omega)]; omega : cde o = 101) al1
  have hv3 : gS G o 1 = ((o + 1 : Nat) : Int) := by have h9 : (gS G o 1) = (((o % 1048576) + 1 : Nat) : Int) := hC.1.v (j := 1) (by rw [cde_n (by omega) (by omega)]; omega : cde o = 101) al1 (by rw [hk2]; exact Nat.le_of_ble_eq_true rfl); omega
  refine s_getf (ci := 1) (k := 1) (C := RX0) (T := TX0) (N := 7) (n := o) (L := 0) (t := 2) dX0_isStamp_1 rfl wi_65 m_409 (Nat.le_of_ble_eq_true rfl) rfl rfl hk2 hv3 ?_
  refine s_iload_n dX0_isStamp_4 rfl ?_
  refine s_alv (o + 1) (by simp) (fun al4 => ?_)
  have hk5 : gK G (o + 1) = (1, 6) := hC.1.k (by rw [cde_n (by omega) (by omega)]; omega : cde (o + 1) = 102) al4
  refine s_iald dX0_isStamp_5 hk5 (by omega) (by omega) rfl ?_
  refine s_iconst dX0_isStamp_6 (by decide) ?_
  refine s_icmp_ne (tgt := 37) dX0_isStamp_7 (by decide) (fun c6 => ?_) (fun c6 => ?_)
  · -- 7 to 37
    refine s_iconst dX0_isStamp_37 (by decide) ?_
    exact s_zret hR dX0_isStamp_38 rfl (by first | exact Or.inl rfl | exact Or.inr rfl | omega) (hQ 0 (by omega))
  · -- 7 to 10
    refine s_aload_n dX0_isStamp_10 rfl (Int.natCast_nonneg _) ?_
    have hv7 : gS G o 4 = ((o + 4 : Nat) : Int) := by have h9 : (gS G o 4) = (((o % 1048576) + 4 : Nat) : Int) := hC.1.v (j := 4) (by rw [cde_n (by omega) (by omega)]; omega : cde o = 101) al1 (by rw [hk2]; exact Nat.le_of_ble_eq_true rfl); omega
    refine s_getf (ci := 1) (k := 4) (C := RX0) (T := TX0) (N := 7) (n := o) (L := 0) (t := 2) dX0_isStamp_11 rfl wi_65 m_406 (Nat.le_of_ble_eq_true rfl) rfl rfl hk2 hv7 ?_
    refine s_iload_n dX0_isStamp_14 rfl ?_
    refine s_alv (o + 4) (by simp) (fun al8 => ?_)
    have hk9 : gK G (o + 4) = (1, 16) := hC.1.k (by rw [cde_n (by omega) (by omega)]; omega : cde (o + 4) = 105) al8
    have hv10 : 0 ≤ (gS G (o + 4) (k : Int).toNat) ∧ (gS G (o + 4) (k : Int).toNat) ≤ 200 := hC.1.v (j := (k : Int).toNat) (by rw [cde_n (by omega) (by omega)]; omega : cde (o + 4) = 105) al8 (by rw [hk9]; show (k : Int).toNat < 16; omega)
    refine s_iald dX0_isStamp_15 hk9 (by omega) (by omega) rfl ?_
    refine s_iconst dX0_isStamp_16 (by decide) ?_
    refine s_icmp_ne (tgt := 37) dX0_isStamp_17 (by decide) (fun c11 => ?_) (fun c11 => ?_)
    · -- 17 to 37
      refine s_iconst dX0_isStamp_37 (by decide) ?_
      exact s_zret hR dX0_isStamp_38 rfl (by first | exact Or.inl rfl | exact Or.inr rfl | omega) (hQ 0 (by omega))
    · -- 17 to 20
      refine s_aload_n dX0_isStamp_20 rfl (Int.natCast_nonneg _) ?_
      have hv12 : gS G o 3 = ((o + 3 : Nat) : Int) := by have h9 : (gS G o 3) = (((o % 1048576) + 3 : Nat) : Int) := hC.1.v (j := 3) (by rw [cde_n (by omega) (by omega)]; omega : cde o = 101) al1 (by rw [hk2]; exact Nat.le_of_ble_eq_true rfl); omega
      refine s_getf (ci := 1) (k := 3) (C := RX0) (T := TX0) (N := 7) (n := o) (L := 0) (t := 2) dX0_isStamp_21 rfl wi_65 m_405 (Nat.le_of_ble_eq_true rfl) rfl rfl hk2 hv12 ?_
      refine s_iload_n dX0_isStamp_24 rfl ?_
      refine s_alv (o + 3) (by simp) (fun al13 => ?_)
      have hk14 : gK G (o + 3) = (4, 16) := hC.1.k (by rw [cde_n (by omega) (by omega)]; omega : cde (o + 3) = 104) al13
      have hv16b : 0 ≤ (gS G (o + 3) (k : Int).toNat) ∧ (gS G (o + 3) (k : Int).toNat) % 1048576 = ((((o + 3) % 1048576) + 4 + ((k : Int).toNat) : Nat) : Int) := hC.1.v (j := (k : Int).toNat) (by rw [cde_n (by omega) (by omega)]; omega : cde (o + 3) = 104) al13 (by rw [hk14]; show (k : Int).toNat < 16; omega)
      obtain ⟨q15, hv16⟩ : ∃ q : Nat, gS G (o + 3) (k : Int).toNat = (q : Int) := ⟨(gS G (o + 3) (k : Int).toNat).toNat, by omega⟩
      rw [hv16] at hv16b
      refine s_aald4 dX0_isStamp_25 hk14 (by omega) (by omega) hv16 ?_
      refine s_iconst dX0_isStamp_26 (by decide) ?_
      refine s_alv (q15) (by simp) (fun al17 => ?_)
      obtain ⟨L19, hk18, hL19a, hL19b⟩ := hC.1.kr (show 108 ≤ cde q15 ∧ cde q15 < 124 from by rw [cde_n (by omega) (by omega)]; omega) al17
      refine s_iald dX0_isStamp_27 hk18 (by omega) (by omega) rfl ?_
      refine s_bipush dX0_isStamp_28 rfl (by decide) ?_
      have J21 : ∀ z20 : Int, (((gS G q15 ((0 : Int).toNat)) < ((8 : Int))) ∧ z20 = 0) ∨ ((¬ (gS G q15 ((0 : Int).toNat)) < ((8 : Int))) ∧ z20 = 1) → WP kX0_isStamp X 38 [some (2, ((o : Nat) : Int)), some (0, k)] [(0, z20)] G := by
        intro z20 hz20
        exact s_zret hR dX0_isStamp_38 rfl (by first | exact Or.inl rfl | exact Or.inr rfl | omega) (hQ z20 (by omega))
      refine s_icmp_lt (tgt := 37) dX0_isStamp_30 (by decide) (fun c22 => ?_) (fun c22 => ?_)
      · -- 30 to 37
        refine s_iconst dX0_isStamp_37 (by decide) ?_
        exact J21 0 (Or.inl ⟨c22, rfl⟩)
      · -- 30 to 33
        refine s_iconst dX0_isStamp_33 (by decide) ?_
        refine s_goto (tgt := 38) dX0_isStamp_34 (by decide) ?_
        exact J21 1 (Or.inr (⟨c22, rfl⟩))

abbrev kX0_copyValue : KD := (RX0, cX0_copyValue, 4, none, [])
def TX0_copyValue : TR := fun as G Qr => ∃ (o : Nat) (k : Int) (o2 : Nat) (k2 : Int) (a b : Nat), as = [(2, ((o : Nat) : Int)), (0, k), (2, ((o2 : Nat) : Int)), (0, k2)] ∧ CI a b G ∧ (a ≤ 2840000 ∧ b ≤ 590000) ∧ (isFc o) ∧ (0 ≤ k ∧ k < 10) ∧ (isFc o2) ∧ (0 ≤ k2 ∧ k2 < 10) ∧ (o ≠ o2) ∧ ((gK G (o + 3)).1 ≠ 0) ∧ ((gK G (o + 4)).1 ≠ 0) ∧ ∀ (G' : LG), CI a b G' → KX G G' → WX (fun x => x = o + 2 ∨ x = o + 5 ∨ x = o + 6 ∨ x = o + 3 ∨ x = o + 4 ∨ x = o + 13 + k.toNat) G G' → ((∀ P : Int → Prop, FPo P G o2 (6 + k2).toNat → FPo P G' o (6 + k).toNat) ∧ ∀ j, j ≠ (6 + k).toNat → gS G' (o + 3) j = gS G (o + 3) j ∧ gS G' (o + 4) j = gS G (o + 4) j) → Qr (.inl none) G'
set_option maxHeartbeats 4000000 in
set_option maxRecDepth 100000 in
theorem gX0_copyValue : Good kX0_copyValue yX0_copyValue 3 TX0_copyValue := by
  refine good_of (by decide) rfl rfl (fun as G Qr h => ?_) (fun X as G Qr hcf hR hT oa => ?_)
  · obtain ⟨o, k, o2, k2, a, b, rfl, -⟩ := h; exact Nat.le_of_ble_eq_true rfl
  obtain ⟨o, k, o2, k2, a, b, rfl, hC, hab, ho, hk, ho2, hk2, hoo, h3al, h4al, hQ⟩ := hT
  show WP kX0_copyValue X 0 [some (2, ((o : Nat) : Int)), some (0, k), some (2, ((o2 : Nat) : Int)), some (0, k2)] [] G
  have hr_k : inR k := okv_R (oa _ (by simp))
  have hr_k2 : inR k2 := okv_R (oa _ (by simp))
  refine s_aload_n dX0_copyValue_0 rfl (Int.natCast_nonneg _) ?_
  refine s_iload_n dX0_copyValue_1 rfl ?_
  refine s_aload_n dX0_copyValue_2 rfl (Int.natCast_nonneg _) ?_
  refine s_alv (o2) (by simp) (fun al1 => ?_)
  have hk2 : gK G (o2) = (9, 0) := hC.1.k (by rw [cde_n (by omega) (by omega)]; omega : cde o2 = 101) al1
  have hv3 : gS G o2 2 = ((o2 + 2 : Nat) : Int) := by have h9 : (gS G o2 2) = (((o2 % 1048576) + 2 : Nat) : Int) := hC.1.v (j := 2) (by rw [cde_n (by omega) (by omega)]; omega : cde o2 = 101) al1 (by rw [hk2]; exact Nat.le_of_ble_eq_true rfl); omega
  refine s_getf (ci := 1) (k := 2) (C := RX0) (T := TX0) (N := 7) (n := o2) (L := 0) (t := 2) dX0_copyValue_3 rfl wi_65 m_404 (Nat.le_of_ble_eq_true rfl) rfl rfl hk2 hv3 ?_
  refine s_iload_n dX0_copyValue_6 rfl ?_
  refine s_alv (o2 + 2) (by simp) (fun al4 => ?_)
  have hk5 : gK G (o2 + 2) = (1, 10) := hC.1.k (by rw [cde_n (by omega) (by omega)]; omega : cde (o2 + 2) = 103) al4
  refine s_iald dX0_copyValue_7 hk5 (by omega) (by omega) rfl ?_
  refine s_aload_n dX0_copyValue_8 rfl (Int.natCast_nonneg _) ?_
  have hv6 : gS G o2 3 = ((o2 + 3 : Nat) : Int) := by have h9 : (gS G o2 3) = (((o2 % 1048576) + 3 : Nat) : Int) := hC.1.v (j := 3) (by rw [cde_n (by omega) (by omega)]; omega : cde o2 = 101) al1 (by rw [hk2]; exact Nat.le_of_ble_eq_true rfl); omega
  refine s_getf (ci := 1) (k := 3) (C := RX0) (T := TX0) (N := 7) (n := o2) (L := 0) (t := 2) dX0_copyValue_9 rfl wi_65 m_405 (Nat.le_of_ble_eq_true rfl) rfl rfl hk2 hv6 ?_
  refine s_bipush dX0_copyValue_12 rfl (by decide) ?_
  refine s_iload_n dX0_copyValue_14 rfl ?_
  refine s_iadd dX0_copyValue_15 (by omega) ?_
  refine s_alv (o2 + 3) (by simp) (fun al7 => ?_)
  have hk8 : gK G (o2 + 3) = (4, 16) := hC.1.k (by rw [cde_n (by omega) (by omega)]; omega : cde (o2 + 3) = 104) al7
  have hv10b : 0 ≤ (gS G (o2 + 3) (6 + k2 : Int).toNat) ∧ (gS G (o2 + 3) (6 + k2 : Int).toNat) % 1048576 = ((((o2 + 3) % 1048576) + 4 + ((6 + k2 : Int).toNat) : Nat) : Int) := hC.1.v (j := (6 + k2 : Int).toNat) (by rw [cde_n (by omega) (by omega)]; omega : cde (o2 + 3) = 104) al7 (by rw [hk8]; show (6 + k2 : Int).toNat < 16; omega)
  obtain ⟨q9, hv10⟩ : ∃ q : Nat, gS G (o2 + 3) (6 + k2 : Int).toNat = (q : Int) := ⟨(gS G (o2 + 3) (6 + k2 : Int).toNat).toNat, by omega⟩
  rw [hv10] at hv10b
  refine s_aald4 dX0_copyValue_16 hk8 (by omega) (by omega) hv10 ?_
  refine s_aload_n dX0_copyValue_17 rfl (Int.natCast_nonneg _) ?_
  have hv11 : gS G o2 4 = ((o2 + 4 : Nat) : Int) := by have h9 : (gS G o2 4) = (((o2 % 1048576) + 4 : Nat) : Int) := hC.1.v (j := 4) (by rw [cde_n (by omega) (by omega)]; omega : cde o2 = 101) al1 (by rw [hk2]; exact Nat.le_of_ble_eq_true rfl); omega
  refine s_getf (ci := 1) (k := 4) (C := RX0) (T := TX0) (N := 7) (n := o2) (L := 0) (t := 2) dX0_copyValue_18 rfl wi_65 m_406 (Nat.le_of_ble_eq_true rfl) rfl rfl hk2 hv11 ?_
  refine s_bipush dX0_copyValue_21 rfl (by decide) ?_
  refine s_iload_n dX0_copyValue_23 rfl ?_
  refine s_iadd dX0_copyValue_24 (by omega) ?_
  refine s_alv (o2 + 4) (by simp) (fun al12 => ?_)
  have hk13 : gK G (o2 + 4) = (1, 16) := hC.1.k (by rw [cde_n (by omega) (by omega)]; omega : cde (o2 + 4) = 105) al12
  have hv14 : 0 ≤ (gS G (o2 + 4) (6 + k2 : Int).toNat) ∧ (gS G (o2 + 4) (6 + k2 : Int).toNat) ≤ 200 := hC.1.v (j := (6 + k2 : Int).toNat) (by rw [cde_n (by omega) (by omega)]; omega : cde (o2 + 4) = 105) al12 (by rw [hk13]; show (6 + k2 : Int).toNat < 16; omega)
  refine s_iald dX0_copyValue_25 hk13 (by omega) (by omega) rfl ?_
  refine s_alv (q9) (by simp) (fun al15 => ?_)
  obtain ⟨L17, hk16, hL17a, hL17b⟩ := hC.1.kr (show 108 ≤ cde q9 ∧ cde q9 < 124 from by rw [cde_n (by omega) (by omega)]; omega) al15
  refine s_alv (o) (by simp) (fun al20 => ?_)
  have hk21 : gK G (o) = (9, 0) := hC.1.k (by rw [cde_n (by omega) (by omega)]; omega : cde o = 101) al20
  refine s_callV (as := [(0, k), (0, gS G (o2 + 2) ((k2 : Int).toNat)), (2, ((q9 : Nat) : Int)), (0, gS G (o2 + 4) ((6 + k2 : Int).toNat))]) (rest := []) (n := o) (ci := 1) gX0_putValue dX0_copyValue_26 m_1141 m_750 m_1483 m_711 m_77 ⟨by decide, by decide, show (parseMethodDescriptor yX0_putValue.desc).map (fun d => d.parameters.length) = some 4 from by decide +kernel⟩ (Nat.le_of_ble_eq_true rfl) (by rw [hcf]; exact Nat.le_of_ble_eq_true rfl) hk21 rfl rfl (Nat.le_of_ble_eq_true rfl) ⟨o, k, gS G (o2 + 2) ((k2 : Int).toNat), q9, L17, gS G (o2 + 4) ((6 + k2 : Int).toNat), a, b, rfl, hC, hab, (by first | assumption | omega), (by first | assumption | omega), hk16, (by first | assumption | omega), (by first | assumption | omega), (by first | assumption | omega), fun G18 hCG18 hXG18 hfG18 hpG18 => ?_⟩
  have hFG18 : WX (fun x => x = o + 2 ∨ x = o + 5 ∨ x = o + 6 ∨ x = o + 3 ∨ x = o + 4 ∨ x = o + 13 + k.toNat) G G18 := WX.trans WX.rf KX.rf (WX.mono hfG18 (fun x hx => by omega))
  show WP kX0_copyValue X 29 [some (2, ((o : Nat) : Int)), some (0, k), some (2, ((o2 : Nat) : Int)), some (0, k2)] [] G18
  refine s_aload_n dX0_copyValue_29 rfl (Int.natCast_nonneg _) ?_
  refine s_iload_n dX0_copyValue_30 rfl ?_
  refine s_aload_n dX0_copyValue_31 rfl (Int.natCast_nonneg _) ?_
  refine s_iload_n dX0_copyValue_32 rfl ?_
  have hk24 : gK G18 (o) = (9, 0) := ((hXG18).k hk21 (by decide))
  refine s_callV (as := [(0, k), (2, ((o2 : Nat) : Int)), (0, k2)]) (rest := []) (n := o) (ci := 1) gX0_putNumberOf dX0_copyValue_33 m_1142 m_745 m_1478 m_711 m_72 ⟨by decide, by decide, show (parseMethodDescriptor yX0_putNumberOf.desc).map (fun d => d.parameters.length) = some 3 from by decide +kernel⟩ (Nat.le_of_ble_eq_true rfl) (by rw [hcf]; exact Nat.le_of_ble_eq_true rfl) hk24 rfl rfl (Nat.le_of_ble_eq_true rfl) ⟨o, k, o2, k2, a, b, rfl, hCG18, hab, (by first | assumption | omega), (by first | assumption | omega), (by first | assumption | omega), (by first | assumption | omega), fun G22 hCG22 hXG22 hfG22 hpG22 => ?_⟩
  have hFG22 : WX (fun x => x = o + 2 ∨ x = o + 5 ∨ x = o + 6 ∨ x = o + 3 ∨ x = o + 4 ∨ x = o + 13 + k.toNat) G G22 := WX.trans hFG18 hXG18 (WX.mono hfG22 (fun x hx => by omega))
  show WP kX0_copyValue X 36 [some (2, ((o : Nat) : Int)), some (0, k), some (2, ((o2 : Nat) : Int)), some (0, k2)] [] G22
  exact s_vret hR dX0_copyValue_36 rfl (hQ G22 hCG22 (KX.trans hXG18 hXG22) hFG22 ⟨fun P hP => by
        obtain ⟨qq, L9, a1, a2, a3, a4, a5⟩ := hP
        have eq9 : qq = q9 := by rw [hv10] at a1; omega
        subst eq9
        have f9 := PRW.fp (P := P) hpG18.1 ⟨by omega, by rw [hk16] at a3; have := congrArg Prod.snd a3; dsimp only at this; omega⟩ a5
        exact FPo.wx f9 hXG22 hfG22 (by omega) (congrFun (hfG22 (o + 3) (by rw [hXG18 _ h3al]; exact h3al) (by omega)) _) (congrFun (hfG22 (o + 4) (by rw [hXG18 _ h4al]; exact h4al) (by omega)) _), fun j hj => ⟨(congrFun (hfG22 (o + 3) (by rw [hXG18 _ h3al]; exact h3al) (by omega)) _).trans (hpG18.1.2.2 j (by omega)).1, (congrFun (hfG22 (o + 4) (by rw [hXG18 _ h4al]; exact h4al) (by omega)) _).trans (hpG18.1.2.2 j (by omega)).2⟩⟩)

abbrev kX0_clear : KD := (RX0, cX0_clear, 2, none, [])
def TX0_clear : TR := fun as G Qr => ∃ (o : Nat) (a b : Nat), as = [(2, ((o : Nat) : Int))] ∧ CI a b G ∧ (a ≤ 2840000 ∧ b ≤ 590000) ∧ (isFc o) ∧ ∀ (G' : LG), CI a b G' → KX G G' → WX (fun x => x = o + 1 ∨ x = o + 2 ∨ x = o + 4 ∨ x = o + 5) G G' → ((∀ p : Nat, p < 16 → gS G' (o + 4) p = 0) ∧ ∀ k : Nat, k < 10 → gS G' (o + 2) k = 0) → Qr (.inl none) G'
set_option maxHeartbeats 4000000 in
set_option maxRecDepth 100000 in
theorem gX0_clear : Good kX0_clear yX0_clear 1 TX0_clear := by
  refine good_of (by decide) rfl rfl (fun as G Qr h => ?_) (fun X as G Qr hcf hR hT oa => ?_)
  · obtain ⟨o, a, b, rfl, -⟩ := h; exact Nat.le_of_ble_eq_true rfl
  obtain ⟨o, a, b, rfl, hC, hab, ho, hQ⟩ := hT
  show WP kX0_clear X 0 [some (2, ((o : Nat) : Int)), none] [] G
  refine s_aload_n dX0_clear_0 rfl (Int.natCast_nonneg _) ?_
  refine s_alv (o) (by simp) (fun al1 => ?_)
  have hk2 : gK G (o) = (9, 0) := hC.1.k (by rw [cde_n (by omega) (by omega)]; omega : cde o = 101) al1
  have hv3 : gS G o 1 = ((o + 1 : Nat) : Int) := by have h9 : (gS G o 1) = (((o % 1048576) + 1 : Nat) : Int) := hC.1.v (j := 1) (by rw [cde_n (by omega) (by omega)]; omega : cde o = 101) al1 (by rw [hk2]; exact Nat.le_of_ble_eq_true rfl); omega
  refine s_getf (ci := 1) (k := 1) (C := RX0) (T := TX0) (N := 7) (n := o) (L := 0) (t := 2) dX0_clear_1 rfl wi_65 m_409 (Nat.le_of_ble_eq_true rfl) rfl rfl hk2 hv3 ?_
  refine s_iconst dX0_clear_4 (by decide) ?_
  refine s_alv (o + 1) (by simp) (fun al4 => ?_)
  have hk5 : gK G (o + 1) = (1, 6) := hC.1.k (by rw [cde_n (by omega) (by omega)]; omega : cde (o + 1) = 102) al4
  refine s_callS2 (as := [(2, ((o + 1 : Nat) : Int)), (0, 0)]) (rest := []) gJ7_fill_53178 dX0_clear_5 m_1135 m_1751 m_705 m_46 ⟨by decide, by decide, show (parseMethodDescriptor yJ7_fill_53178.desc).map (fun d => d.parameters.length) = some 2 from by decide +kernel⟩ (Nat.le_of_ble_eq_true rfl) (by rw [hcf]; exact Nat.le_of_ble_eq_true rfl) rfl (Nat.le_of_ble_eq_true rfl) ⟨o + 1, 6, 0, rfl, hk5, by omega, ?_⟩
  generalize eG6r : gfil G (o + 1) 6 0 = G6
  have eG6 := eG6r.symm
  have hCG6 : CI a b G6 := by rw [eG6]; exact hC.fil (by rw [(by rw [cde_n (by omega) (by omega)]; omega : cde (o + 1) = 102)]; rfl) (fun j _ => by rw [(by rw [cde_n (by omega) (by omega)]; omega : cde (o + 1) = 102)]; exact True.intro)
  have hXG6 : KX G G6 := KX.of (by rw [eG6]; rfl)
  have hFG6 : WX (fun x => x = o + 1 ∨ x = o + 2 ∨ x = o + 4 ∨ x = o + 5) G G6 := WX.fil WX.rf eG6 (by show _; omega)
  show WP kX0_clear X 8 [some (2, ((o : Nat) : Int)), none] [] G6
  refine s_aload_n dX0_clear_8 rfl (Int.natCast_nonneg _) ?_
  have hk7 : gK G6 (o) = (9, 0) := ((hXG6).k hk2 (by decide))
  refine s_alv (o) (by simp) (fun al8 => ?_)
  have hv9 : gS G6 o 2 = ((o + 2 : Nat) : Int) := by have h9 : (gS G6 o 2) = (((o % 1048576) + 2 : Nat) : Int) := hCG6.1.v (j := 2) (by rw [cde_n (by omega) (by omega)]; omega : cde o = 101) al8 (by rw [hk7]; exact Nat.le_of_ble_eq_true rfl); omega
  refine s_getf (ci := 1) (k := 2) (C := RX0) (T := TX0) (N := 7) (n := o) (L := 0) (t := 2) dX0_clear_9 rfl wi_65 m_404 (Nat.le_of_ble_eq_true rfl) rfl rfl hk7 hv9 ?_
  refine s_iconst dX0_clear_12 (by decide) ?_
  refine s_alv (o + 2) (by simp) (fun al10 => ?_)
  have hk11 : gK G6 (o + 2) = (1, 10) := hCG6.1.k (by rw [cde_n (by omega) (by omega)]; omega : cde (o + 2) = 103) al10
  refine s_callS2 (as := [(2, ((o + 2 : Nat) : Int)), (0, 0)]) (rest := []) gJ7_fill_53178 dX0_clear_13 m_1135 m_1751 m_705 m_46 ⟨by decide, by decide, show (parseMethodDescriptor yJ7_fill_53178.desc).map (fun d => d.parameters.length) = some 2 from by decide +kernel⟩ (Nat.le_of_ble_eq_true rfl) (by rw [hcf]; exact Nat.le_of_ble_eq_true rfl) rfl (Nat.le_of_ble_eq_true rfl) ⟨o + 2, 10, 0, rfl, hk11, by omega, ?_⟩
  generalize eG12r : gfil G6 (o + 2) 10 0 = G12
  have eG12 := eG12r.symm
  have hCG12 : CI a b G12 := by rw [eG12]; exact hCG6.fil (by rw [(by rw [cde_n (by omega) (by omega)]; omega : cde (o + 2) = 103)]; rfl) (fun j _ => by rw [(by rw [cde_n (by omega) (by omega)]; omega : cde (o + 2) = 103)]; exact True.intro)
  have hXG12 : KX G6 G12 := KX.of (by rw [eG12]; rfl)
  have hFG12 : WX (fun x => x = o + 1 ∨ x = o + 2 ∨ x = o + 4 ∨ x = o + 5) G G12 := WX.fil hFG6 eG12 (by show _; omega)
  show WP kX0_clear X 16 [some (2, ((o : Nat) : Int)), none] [] G12
  refine s_aload_n dX0_clear_16 rfl (Int.natCast_nonneg _) ?_
  have hk13 : gK G12 (o) = (9, 0) := ((hXG12).k hk7 (by decide))
  refine s_alv (o) (by simp) (fun al14 => ?_)
  have hv15 : gS G12 o 4 = ((o + 4 : Nat) : Int) := by have h9 : (gS G12 o 4) = (((o % 1048576) + 4 : Nat) : Int) := hCG12.1.v (j := 4) (by rw [cde_n (by omega) (by omega)]; omega : cde o = 101) al14 (by rw [hk13]; exact Nat.le_of_ble_eq_true rfl); omega
  refine s_getf (ci := 1) (k := 4) (C := RX0) (T := TX0) (N := 7) (n := o) (L := 0) (t := 2) dX0_clear_17 rfl wi_65 m_406 (Nat.le_of_ble_eq_true rfl) rfl rfl hk13 hv15 ?_
  refine s_iconst dX0_clear_20 (by decide) ?_
  refine s_alv (o + 4) (by simp) (fun al16 => ?_)
  have hk17 : gK G12 (o + 4) = (1, 16) := hCG12.1.k (by rw [cde_n (by omega) (by omega)]; omega : cde (o + 4) = 105) al16
  refine s_callS2 (as := [(2, ((o + 4 : Nat) : Int)), (0, 0)]) (rest := []) gJ7_fill_53178 dX0_clear_21 m_1135 m_1751 m_705 m_46 ⟨by decide, by decide, show (parseMethodDescriptor yJ7_fill_53178.desc).map (fun d => d.parameters.length) = some 2 from by decide +kernel⟩ (Nat.le_of_ble_eq_true rfl) (by rw [hcf]; exact Nat.le_of_ble_eq_true rfl) rfl (Nat.le_of_ble_eq_true rfl) ⟨o + 4, 16, 0, rfl, hk17, by omega, ?_⟩
  generalize eG18r : gfil G12 (o + 4) 16 0 = G18
  have eG18 := eG18r.symm
  have hCG18 : CI a b G18 := by rw [eG18]; exact hCG12.fil (by rw [(by rw [cde_n (by omega) (by omega)]; omega : cde (o + 4) = 105)]; rfl) (fun j _ => by rw [(by rw [cde_n (by omega) (by omega)]; omega : cde (o + 4) = 105)]; exact (show 0 ≤ 0 ∧ 0 ≤ 200 from by omega))
  have hXG18 : KX G12 G18 := KX.of (by rw [eG18]; rfl)
  have hFG18 : WX (fun x => x = o + 1 ∨ x = o + 2 ∨ x = o + 4 ∨ x = o + 5) G G18 := WX.fil hFG12 eG18 (by show _; omega)
  show WP kX0_clear X 24 [some (2, ((o : Nat) : Int)), none] [] G18
  refine s_iconst dX0_clear_24 (by decide) ?_
  refine s_istore_n dX0_clear_25 (by decide) (lv' := [some (2, ((o : Nat) : Int)), some (0, 0)]) rfl ?_
  have L19 : ∀ (n19 : Nat) (k19 : Int) (G19 : LG), CI a b G19 → KX G18 G19 → WX (fun x => x = o + 1 ∨ x = o + 2 ∨ x = o + 4 ∨ x = o + 5) G G19 → ((0 ≤ k19 ∧ k19 ≤ 10) ∧ (∀ p : Nat, p < 16 → gS G19 (o + 4) p = 0) ∧ (∀ k : Nat, k < 10 → gS G19 (o + 2) k = 0)) → (10 - k19).toNat < n19 → WP kX0_clear X 26 [some (2, ((o : Nat) : Int)), some (0, k19)] [] G19 := by
    intro n19
    induction n19 with
    | zero => intro k19 G19 hCG19 hXG19 hFG19 hi19 hm19; exact absurd hm19 (Nat.not_lt_zero _)
    | succ n19 ih19 =>
      intro k19 G19 hCG19 hXG19 hFG19 hi19 hm19
      obtain ⟨ik19, iz19, iv19⟩ := hi19
      refine s_iload_n dX0_clear_26 rfl ?_
      refine s_bipush dX0_clear_27 rfl (by decide) ?_
      refine s_icmp_ge (tgt := 45) dX0_clear_29 (by decide) (fun c20 => ?_) (fun c20 => ?_)
      · -- 29 to 45
        exact s_vret hR dX0_clear_45 rfl (hQ G19 hCG19 (KX.trans (KX.trans (KX.trans hXG6 hXG12) hXG18) hXG19) hFG19 ⟨iz19, iv19⟩)
      · -- 29 to 32
        refine s_aload_n dX0_clear_32 rfl (Int.natCast_nonneg _) ?_
        have hk21 : gK G19 (o) = (9, 0) := ((hXG19).k ((hXG18).k hk13 (by decide)) (by decide))
        refine s_alv (o) (by simp) (fun al22 => ?_)
        have hv23 : gS G19 o 5 = ((o + 5 : Nat) : Int) := by have h9 : (gS G19 o 5) = (((o % 1048576) + 5 : Nat) : Int) := hCG19.1.v (j := 5) (by rw [cde_n (by omega) (by omega)]; omega : cde o = 101) al22 (by rw [hk21]; exact Nat.le_of_ble_eq_true rfl); omega
        refine s_getf (ci := 1) (k := 5) (C := RX0) (T := TX0) (N := 7) (n := o) (L := 0) (t := 2) dX0_clear_33 rfl wi_65 m_407 (Nat.le_of_ble_eq_true rfl) rfl rfl hk21 hv23 ?_
        refine s_iload_n dX0_clear_36 rfl ?_
        refine s_iconst dX0_clear_37 (by decide) ?_
        refine s_alv (o + 5) (by simp) (fun al24 => ?_)
        have hk25 : gK G19 (o + 5) = (2, 10) := hCG19.1.k (by rw [cde_n (by omega) (by omega)]; omega : cde (o + 5) = 106) al24
        refine s_bast dX0_clear_38 hk25 (by omega) (by omega) (by omega) ?_
        generalize eG26r : gset G19 (o + 5) ((k19 : Int).toNat) 0 = G26
        have eG26 := eG26r.symm
        have hCG26 : CI a b G26 := by rw [eG26]; exact hCG19.set (by rw [(by rw [cde_n (by omega) (by omega)]; omega : cde (o + 5) = 106)]; rfl) (by rw [(by rw [cde_n (by omega) (by omega)]; omega : cde (o + 5) = 106)]; exact trivial)
        have hXG26 : KX G19 G26 := KX.set KX.rf eG26
        have hFG26 : WX (fun x => x = o + 1 ∨ x = o + 2 ∨ x = o + 4 ∨ x = o + 5) G G26 := WX.set hFG19 eG26 (by show _; omega)
        show WP kX0_clear X 39 [some (2, ((o : Nat) : Int)), some (0, k19)] [] G26
        refine s_iinc dX0_clear_39 (v := k19) rfl (by omega) (by decide) (lv' := [some (2, ((o : Nat) : Int)), some (0, k19 + 1)]) rfl ?_
        refine s_goto (tgt := 26) dX0_clear_42 (by decide) ?_
        exact ih19 (k19 + 1) G26 hCG26 (KX.trans hXG19 hXG26) hFG26 (⟨(by omega), (by intro p hp; rw [gset_o eG26 (x := o + 4) (by omega)]; exact iz19 p hp), (by intro k hk; rw [gset_o eG26 (x := o + 2) (by omega)]; exact iv19 k hk)⟩) (by omega)
  exact L19 _ 0 G18 hCG18 KX.rf hFG18 (⟨(by omega), (by intro p hp; rw [eG18, gfil_at, if_pos hp]), (by intro k hk; rw [eG18, gfil_ne _ (show o + 2 ≠ o + 4 by omega), eG12, gfil_at, if_pos hk])⟩) (Nat.lt_succ_self _)
