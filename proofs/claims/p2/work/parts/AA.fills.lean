abbrev kX1_copied : KD := (RX1, cX1_copied, 3, (some .int), [])
def TX1_copied : TR := fun as G Qr => ∃ (w N : Nat) (n : Int) (q : Nat) (a b : Nat), as = [(2, ((w : Nat) : Int)), (0, n), (2, ((q : Nat) : Int))] ∧ CI a b G ∧ (a ≤ 2840000 ∧ b ≤ 590000) ∧ (gK G w = (1, N)) ∧ (N ≤ 100000) ∧ (gK G q = (1, 200)) ∧ (FRW q) ∧ (q < 1048576) ∧ (w % 1048576 ≠ q) ∧ ∀ (r : Int) (G' : LG), CI a b G' → KX G G' → WX (fun x => x = q) G G' → ((0 ≤ r ∧ r ≤ 200) ∧ ∀ P : Int → Prop, RPs P G w n → RPs P G' q r) → Qr (.inl (some (0, r))) G'
set_option maxHeartbeats 4000000 in
set_option maxRecDepth 100000 in
theorem gX1_copied : Good kX1_copied yX1_copied 1 TX1_copied := by
  refine good_of (by decide) rfl rfl (fun as G Qr h => ?_) (fun X as G Qr hcf hR hT oa => ?_)
  · obtain ⟨w, N, n, q, a, b, rfl, -⟩ := h; exact Nat.le_of_ble_eq_true rfl
  obtain ⟨w, N, n, q, a, b, rfl, hC, hab, hkr, hN, hkq, hfq, hq9, hwq, hQ⟩ := hT
  show WP kX1_copied X 0 [some (2, ((w : Nat) : Int)), some (0, n), some (2, ((q : Nat) : Int))] [] G
  have hr_n : inR n := okv_R (oa _ (by simp))
  refine s_iload_n dX1_copied_0 rfl ?_
  refine s_if_lt (tgt := 16) dX1_copied_1 (by decide) (fun c1 => ?_) (fun c1 => ?_)
  · -- 1 to 16
    refine s_iconst dX1_copied_16 (by decide) ?_
    exact s_iret hR dX1_copied_17 rfl (hQ 0 G hC KX.rf WX.rf ⟨⟨by omega, by omega⟩, fun P _ => RPs.zero (by omega)⟩)
  · -- 1 to 4
    refine s_iload_n dX1_copied_4 rfl ?_
    refine s_aload_n dX1_copied_5 rfl (Int.natCast_nonneg _) ?_
    refine s_alen dX1_copied_6 hkr (by decide) (by omega) ?_
    refine s_icmp_gt (tgt := 16) dX1_copied_7 (by decide) (fun c2 => ?_) (fun c2 => ?_)
    · -- 7 to 16
      refine s_iconst dX1_copied_16 (by decide) ?_
      exact s_iret hR dX1_copied_17 rfl (hQ 0 G hC KX.rf WX.rf ⟨⟨by omega, by omega⟩, fun P _ => RPs.zero (by omega)⟩)
    · -- 7 to 10
      refine s_iload_n dX1_copied_10 rfl ?_
      refine s_aload_n dX1_copied_11 rfl (Int.natCast_nonneg _) ?_
      refine s_alen dX1_copied_12 hkq (by decide) (by omega) ?_
      refine s_icmp_le (tgt := 18) dX1_copied_13 (by decide) (fun c3 => ?_) (fun c3 => ?_)
      · -- 13 to 18
        refine s_aload_n dX1_copied_18 rfl (Int.natCast_nonneg _) ?_
        refine s_iconst dX1_copied_19 (by decide) ?_
        refine s_aload_n dX1_copied_20 rfl (Int.natCast_nonneg _) ?_
        refine s_iconst dX1_copied_21 (by decide) ?_
        refine s_iload_n dX1_copied_22 rfl ?_
        refine s_copyI dX1_copied_23 m_1147 hkr hkq (by omega) (by omega) (by omega) (by omega) (by omega) (by rw [hcf]; exact Nat.le_of_ble_eq_true rfl) (Nat.le_of_ble_eq_true rfl) ?_
        generalize eG4r : gcpy G w (0 : Int).toNat q (0 : Int).toNat (n : Int).toNat = G4
        have eG4 := eG4r.symm
        have hCG4 : CI a b G4 := by rw [eG4]; exact hC.cpy hfq.1 (fun _ _ _ => hfq.2 _ _ _)
        have hXG4 : KX G G4 := KX.cpy KX.rf eG4
        have hFG4 : WX (fun x => x = q) G G4 := WX.cpy WX.rf eG4 (by show _; omega)
        show WP kX1_copied X 26 [some (2, ((w : Nat) : Int)), some (0, n), some (2, ((q : Nat) : Int))] [] G4
        refine s_iload_n dX1_copied_26 rfl ?_
        exact s_iret hR dX1_copied_27 rfl (hQ n G4 hCG4 hXG4 hFG4 ⟨⟨by omega, by omega⟩, fun P hP => by have h9 := RPs.cpy (n := 0) (m := n) (RPs.zero (P := P) (G := G) (r := q) (by omega)) (by omega) (by omega) hP (kne hkq (by decide)) eG4; rw [Int.zero_add] at h9; exact h9⟩)
      · -- 13 to 16
        refine s_iconst dX1_copied_16 (by decide) ?_
        exact s_iret hR dX1_copied_17 rfl (hQ 0 G hC KX.rf WX.rf ⟨⟨by omega, by omega⟩, fun P _ => RPs.zero (by omega)⟩)

abbrev kX1_tell : KD := (RX1, cX1_tell, 4, none, [])
def TX1_tell : TR := fun as G Qr => ∃ (o : Nat) (k : Int) (w N : Nat) (n : Int) (a b : Nat), as = [(2, ((o : Nat) : Int)), (0, k), (2, ((w : Nat) : Int)), (0, n)] ∧ CI a b G ∧ (a ≤ 2840000 ∧ b ≤ 590000) ∧ (isFl o) ∧ (0 ≤ k ∧ k < 6) ∧ (gK G w = (1, N)) ∧ (N ≤ 100000) ∧ (w % 1048576 < 262144 ∨ 327680 ≤ w % 1048576) ∧ ∀ (G' : LG), CI a b G' → KX G G' → WX (fun x => x = o + 2 ∨ x = o + 8 + k.toNat) G G' → ((∀ P : Int → Prop, RPs P G w n → RPs P G' (o + 8 + k.toNat) (gS G' (o + 2) k.toNat)) ∧ ∀ j, j ≠ k.toNat → gS G' (o + 2) j = gS G (o + 2) j) → Qr (.inl none) G'
set_option maxHeartbeats 4000000 in
set_option maxRecDepth 100000 in
theorem gX1_tell : Good kX1_tell yX1_tell 2 TX1_tell := by
  refine good_of (by decide) rfl rfl (fun as G Qr h => ?_) (fun X as G Qr hcf hR hT oa => ?_)
  · obtain ⟨o, k, w, N, n, a, b, rfl, -⟩ := h; exact Nat.le_of_ble_eq_true rfl
  obtain ⟨o, k, w, N, n, a, b, rfl, hC, hab, ho, hk, hkr, hN, hwo, hQ⟩ := hT
  show WP kX1_tell X 0 [some (2, ((o : Nat) : Int)), some (0, k), some (2, ((w : Nat) : Int)), some (0, n)] [] G
  have hr_k : inR k := okv_R (oa _ (by simp))
  have hr_n : inR n := okv_R (oa _ (by simp))
  refine s_alvl (o) (k := 0) rfl (fun al1 => ?_)
  have hk2 : gK G (o) = (10, 0) := hC.1.k (by rw [cde_f (by omega) (by omega)]; omega : cde o = 400) al1
  refine s_alh (o) 1 al1 (by rw [hk2]; exact Nat.le_of_ble_eq_true rfl) (by rw [hk2]; rfl) (fun az2x => ?_)
  have az2v : gS G o 1 = ((o + 2 : Nat) : Int) := by have h9 : (gS G o 1) = (((o % 1048576) + 2 : Nat) : Int) := hC.1.v (j := 1) (by rw [cde_f (by omega) (by omega)]; omega : cde o = 400) al1 (by rw [hk2]; exact Nat.le_of_ble_eq_true rfl); omega
  have az2 : (gK G (o + 2)).1 ≠ 0 := by have h9 := az2x (by omega); rw [az2v, Int.toNat_natCast] at h9; exact h9
  have az2k : gK G (o + 2) = (1, 6) := hC.1.k (by rw [cde_f (by omega) (by omega)]; omega : cde (o + 2) = 402) az2
  refine s_aload_n dX1_tell_0 rfl (Int.natCast_nonneg _) ?_
  have hv3 : gS G o 1 = ((o + 2 : Nat) : Int) := by have h9 : (gS G o 1) = (((o % 1048576) + 2 : Nat) : Int) := hC.1.v (j := 1) (by rw [cde_f (by omega) (by omega)]; omega : cde o = 400) al1 (by rw [hk2]; exact Nat.le_of_ble_eq_true rfl); omega
  refine s_getf (ci := 2) (k := 1) (C := RX1) (T := TX1) (N := 5) (n := o) (L := 0) (t := 2) dX1_tell_1 rfl wi_66 m_411 (Nat.le_of_ble_eq_true rfl) rfl rfl hk2 hv3 ?_
  refine s_iload_n dX1_tell_4 rfl ?_
  refine s_aload_n dX1_tell_5 rfl (Int.natCast_nonneg _) ?_
  refine s_iload_n dX1_tell_6 rfl ?_
  refine s_aload_n dX1_tell_7 rfl (Int.natCast_nonneg _) ?_
  have hv4 : gS G o 0 = ((o + 1 : Nat) : Int) := by have h9 : (gS G o 0) = (((o % 1048576) + 1 : Nat) : Int) := hC.1.v (j := 0) (by rw [cde_f (by omega) (by omega)]; omega : cde o = 400) al1 (by rw [hk2]; exact Nat.le_of_ble_eq_true rfl); omega
  refine s_getf (ci := 2) (k := 0) (C := RX1) (T := TX1) (N := 5) (n := o) (L := 0) (t := 2) dX1_tell_8 rfl wi_66 m_410 (Nat.le_of_ble_eq_true rfl) rfl rfl hk2 hv4 ?_
  refine s_iload_n dX1_tell_11 rfl ?_
  refine s_alv (o + 1) (by simp) (fun al5 => ?_)
  have hk6 : gK G (o + 1) = (4, 6) := hC.1.k (by rw [cde_f (by omega) (by omega)]; omega : cde (o + 1) = 401) al5
  have hv8b : (gS G (o + 1) (k : Int).toNat) = ((((o + 1) % 1048576) + 7 + ((k : Int).toNat) : Nat) : Int) := hC.1.v (j := (k : Int).toNat) (by rw [cde_f (by omega) (by omega)]; omega : cde (o + 1) = 401) al5 (by rw [hk6]; show (k : Int).toNat < 6; omega)
  obtain ⟨q7, hv8⟩ : ∃ q : Nat, gS G (o + 1) (k : Int).toNat = (q : Int) := ⟨(gS G (o + 1) (k : Int).toNat).toNat, by omega⟩
  rw [hv8] at hv8b
  refine s_aald4 dX1_tell_12 hk6 (by omega) (by omega) hv8 ?_
  refine s_alv (q7) (by simp) (fun al9 => ?_)
  have hk10 := hC.1.kf (show (408 ≤ cde q7 ∧ cde q7 < 414) ∨ (416 ≤ cde q7 ∧ cde q7 < 422) from by rw [cde_f (by omega) (by omega)]; omega) al9
  refine s_callS2 (as := [(2, ((w : Nat) : Int)), (0, n), (2, ((q7 : Nat) : Int))]) (rest := [(0, k), (2, ((o + 2 : Nat) : Int))]) gX1_copied dX1_tell_13 m_1146 m_1791 m_712 m_253 ⟨by decide, by decide, show (parseMethodDescriptor yX1_copied.desc).map (fun d => d.parameters.length) = some 3 from by decide +kernel⟩ (Nat.le_of_ble_eq_true rfl) (by rw [hcf]; exact Nat.le_of_ble_eq_true rfl) rfl (Nat.le_of_ble_eq_true rfl) ⟨w, N, n, q7, a, b, rfl, hC, hab, hkr, (by omega), hk10, (by exact FRW.f (by omega)), (by omega), (by omega), fun rr12 G11 hCG11 hXG11 hfG11 hpG11 => ?_⟩
  have hFG11 : WX (fun x => x = o + 2 ∨ x = o + 8 + k.toNat) G G11 := WX.trans WX.rf KX.rf (WX.mono hfG11 (fun x hx => by omega))
  show WP kX1_tell X 16 [some (2, ((o : Nat) : Int)), some (0, k), some (2, ((w : Nat) : Int)), some (0, n)] [(0, rr12), (0, k), (2, ((o + 2 : Nat) : Int))] G11
  have hk13 : gK G11 (o + 2) = (1, 6) := ((hXG11).k az2k (by decide))
  refine s_iast dX1_tell_16 hk13 (by omega) (by omega) ?_
  generalize eG14r : gset G11 (o + 2) ((k : Int).toNat) rr12 = G14
  have eG14 := eG14r.symm
  have hCG14 : CI a b G14 := by rw [eG14]; exact hCG11.set (by rw [(by rw [cde_f (by omega) (by omega)]; omega : cde (o + 2) = 402)]; rfl) (by rw [(by rw [cde_f (by omega) (by omega)]; omega : cde (o + 2) = 402)]; exact (show 0 ≤ rr12 ∧ rr12 ≤ 200 from by omega))
  have hXG14 : KX G11 G14 := KX.set KX.rf eG14
  have hFG14 : WX (fun x => x = o + 2 ∨ x = o + 8 + k.toNat) G G14 := WX.set hFG11 eG14 (by show _; omega)
  show WP kX1_tell X 17 [some (2, ((o : Nat) : Int)), some (0, k), some (2, ((w : Nat) : Int)), some (0, n)] [] G14
  exact s_vret hR dX1_tell_17 rfl (hQ G14 hCG14 (KX.trans hXG11 hXG14) hFG14 ⟨fun P hP => by rw [show gS G14 (o + 2) k.toNat = _ from gsaE eG14]; exact RPs.at (RPs.set (hpG11.2 P hP) eG14 (by omega)) (by omega), fun j hj => by rw [eG14, gset_ne _ _ (fun z => hj z.2)]; exact congrFun (hfG11 (o + 2) az2 (by show ¬ _; omega)) j⟩)

abbrev kX1_fill : KD := (RX1, cX1_fill, 4, none, [])
def TX1_fill : TR := fun as G Qr => ∃ (o : Nat) (k : Int) (w N : Nat) (n : Int) (a b : Nat), as = [(2, ((o : Nat) : Int)), (0, k), (2, ((w : Nat) : Int)), (0, n)] ∧ CI a b G ∧ (a ≤ 2840000 ∧ b ≤ 590000) ∧ (isFl o) ∧ (0 ≤ k ∧ k < 6) ∧ (gK G w = (1, N)) ∧ (N ≤ 100000) ∧ (w % 1048576 < 262144 ∨ 327680 ≤ w % 1048576) ∧ ∀ (G' : LG), CI a b G' → KX G G' → WX (fun x => x = o + 5 ∨ x = o + 16 + k.toNat) G G' → ((∀ P : Int → Prop, RPs P G w n → RPs P G' (o + 16 + k.toNat) (gS G' (o + 5) k.toNat)) ∧ ∀ j, j ≠ k.toNat → gS G' (o + 5) j = gS G (o + 5) j) → Qr (.inl none) G'
set_option maxHeartbeats 4000000 in
set_option maxRecDepth 100000 in
theorem gX1_fill : Good kX1_fill yX1_fill 2 TX1_fill := by
  refine good_of (by decide) rfl rfl (fun as G Qr h => ?_) (fun X as G Qr hcf hR hT oa => ?_)
  · obtain ⟨o, k, w, N, n, a, b, rfl, -⟩ := h; exact Nat.le_of_ble_eq_true rfl
  obtain ⟨o, k, w, N, n, a, b, rfl, hC, hab, ho, hk, hkr, hN, hwo, hQ⟩ := hT
  show WP kX1_fill X 0 [some (2, ((o : Nat) : Int)), some (0, k), some (2, ((w : Nat) : Int)), some (0, n)] [] G
  have hr_k : inR k := okv_R (oa _ (by simp))
  have hr_n : inR n := okv_R (oa _ (by simp))
  refine s_alvl (o) (k := 0) rfl (fun al1 => ?_)
  have hk2 : gK G (o) = (10, 0) := hC.1.k (by rw [cde_f (by omega) (by omega)]; omega : cde o = 400) al1
  refine s_alh (o) 4 al1 (by rw [hk2]; exact Nat.le_of_ble_eq_true rfl) (by rw [hk2]; rfl) (fun az5x => ?_)
  have az5v : gS G o 4 = ((o + 5 : Nat) : Int) := by have h9 : (gS G o 4) = (((o % 1048576) + 5 : Nat) : Int) := hC.1.v (j := 4) (by rw [cde_f (by omega) (by omega)]; omega : cde o = 400) al1 (by rw [hk2]; exact Nat.le_of_ble_eq_true rfl); omega
  have az5 : (gK G (o + 5)).1 ≠ 0 := by have h9 := az5x (by omega); rw [az5v, Int.toNat_natCast] at h9; exact h9
  have az5k : gK G (o + 5) = (1, 6) := hC.1.k (by rw [cde_f (by omega) (by omega)]; omega : cde (o + 5) = 405) az5
  refine s_aload_n dX1_fill_0 rfl (Int.natCast_nonneg _) ?_
  have hv3 : gS G o 4 = ((o + 5 : Nat) : Int) := by have h9 : (gS G o 4) = (((o % 1048576) + 5 : Nat) : Int) := hC.1.v (j := 4) (by rw [cde_f (by omega) (by omega)]; omega : cde o = 400) al1 (by rw [hk2]; exact Nat.le_of_ble_eq_true rfl); omega
  refine s_getf (ci := 2) (k := 4) (C := RX1) (T := TX1) (N := 5) (n := o) (L := 0) (t := 2) dX1_fill_1 rfl wi_66 m_414 (Nat.le_of_ble_eq_true rfl) rfl rfl hk2 hv3 ?_
  refine s_iload_n dX1_fill_4 rfl ?_
  refine s_aload_n dX1_fill_5 rfl (Int.natCast_nonneg _) ?_
  refine s_iload_n dX1_fill_6 rfl ?_
  refine s_aload_n dX1_fill_7 rfl (Int.natCast_nonneg _) ?_
  have hv4 : gS G o 3 = ((o + 4 : Nat) : Int) := by have h9 : (gS G o 3) = (((o % 1048576) + 4 : Nat) : Int) := hC.1.v (j := 3) (by rw [cde_f (by omega) (by omega)]; omega : cde o = 400) al1 (by rw [hk2]; exact Nat.le_of_ble_eq_true rfl); omega
  refine s_getf (ci := 2) (k := 3) (C := RX1) (T := TX1) (N := 5) (n := o) (L := 0) (t := 2) dX1_fill_8 rfl wi_66 m_413 (Nat.le_of_ble_eq_true rfl) rfl rfl hk2 hv4 ?_
  refine s_iload_n dX1_fill_11 rfl ?_
  refine s_alv (o + 4) (by simp) (fun al5 => ?_)
  have hk6 : gK G (o + 4) = (4, 6) := hC.1.k (by rw [cde_f (by omega) (by omega)]; omega : cde (o + 4) = 404) al5
  have hv8b : (gS G (o + 4) (k : Int).toNat) = ((((o + 4) % 1048576) + 12 + ((k : Int).toNat) : Nat) : Int) := hC.1.v (j := (k : Int).toNat) (by rw [cde_f (by omega) (by omega)]; omega : cde (o + 4) = 404) al5 (by rw [hk6]; show (k : Int).toNat < 6; omega)
  obtain ⟨q7, hv8⟩ : ∃ q : Nat, gS G (o + 4) (k : Int).toNat = (q : Int) := ⟨(gS G (o + 4) (k : Int).toNat).toNat, by omega⟩
  rw [hv8] at hv8b
  refine s_aald4 dX1_fill_12 hk6 (by omega) (by omega) hv8 ?_
  refine s_alv (q7) (by simp) (fun al9 => ?_)
  have hk10 := hC.1.kf (show (408 ≤ cde q7 ∧ cde q7 < 414) ∨ (416 ≤ cde q7 ∧ cde q7 < 422) from by rw [cde_f (by omega) (by omega)]; omega) al9
  refine s_callS2 (as := [(2, ((w : Nat) : Int)), (0, n), (2, ((q7 : Nat) : Int))]) (rest := [(0, k), (2, ((o + 5 : Nat) : Int))]) gX1_copied dX1_fill_13 m_1146 m_1791 m_712 m_253 ⟨by decide, by decide, show (parseMethodDescriptor yX1_copied.desc).map (fun d => d.parameters.length) = some 3 from by decide +kernel⟩ (Nat.le_of_ble_eq_true rfl) (by rw [hcf]; exact Nat.le_of_ble_eq_true rfl) rfl (Nat.le_of_ble_eq_true rfl) ⟨w, N, n, q7, a, b, rfl, hC, hab, hkr, (by omega), hk10, (by exact FRW.f (by omega)), (by omega), (by omega), fun rr12 G11 hCG11 hXG11 hfG11 hpG11 => ?_⟩
  have hFG11 : WX (fun x => x = o + 5 ∨ x = o + 16 + k.toNat) G G11 := WX.trans WX.rf KX.rf (WX.mono hfG11 (fun x hx => by omega))
  show WP kX1_fill X 16 [some (2, ((o : Nat) : Int)), some (0, k), some (2, ((w : Nat) : Int)), some (0, n)] [(0, rr12), (0, k), (2, ((o + 5 : Nat) : Int))] G11
  have hk13 : gK G11 (o + 5) = (1, 6) := ((hXG11).k az5k (by decide))
  refine s_iast dX1_fill_16 hk13 (by omega) (by omega) ?_
  generalize eG14r : gset G11 (o + 5) ((k : Int).toNat) rr12 = G14
  have eG14 := eG14r.symm
  have hCG14 : CI a b G14 := by rw [eG14]; exact hCG11.set (by rw [(by rw [cde_f (by omega) (by omega)]; omega : cde (o + 5) = 405)]; rfl) (by rw [(by rw [cde_f (by omega) (by omega)]; omega : cde (o + 5) = 405)]; exact (show 0 ≤ rr12 ∧ rr12 ≤ 201 from by omega))
  have hXG14 : KX G11 G14 := KX.set KX.rf eG14
  have hFG14 : WX (fun x => x = o + 5 ∨ x = o + 16 + k.toNat) G G14 := WX.set hFG11 eG14 (by show _; omega)
  show WP kX1_fill X 17 [some (2, ((o : Nat) : Int)), some (0, k), some (2, ((w : Nat) : Int)), some (0, n)] [] G14
  exact s_vret hR dX1_fill_17 rfl (hQ G14 hCG14 (KX.trans hXG11 hXG14) hFG14 ⟨fun P hP => by rw [show gS G14 (o + 5) k.toNat = _ from gsaE eG14]; exact RPs.at (RPs.set (hpG11.2 P hP) eG14 (by omega)) (by omega), fun j hj => by rw [eG14, gset_ne _ _ (fun z => hj z.2)]; exact congrFun (hfG11 (o + 5) az5 (by show ¬ _; omega)) j⟩)

abbrev kX1_fillPart : KD := (RX1, cX1_fillPart, 3, none, [])
def TX1_fillPart : TR := fun as G Qr => ∃ (o : Nat) (k m : Int) (a b : Nat), as = [(2, ((o : Nat) : Int)), (0, k), (0, m)] ∧ CI a b G ∧ (a ≤ 2840000 ∧ b ≤ 590000) ∧ (isFl o) ∧ (0 ≤ k ∧ k < 6) ∧ ∀ (G' : LG), CI a b G' → KX G G' → WX (fun x => x = o + 5 ∨ x = o + 16 + k.toNat) G G' → ((∀ P : Int → Prop, P m → RPs P G' (o + 16 + k.toNat) (gS G' (o + 5) k.toNat)) ∧ gS G' (o + 5) k.toNat = 1 ∧ ∀ j, j ≠ k.toNat → gS G' (o + 5) j = gS G (o + 5) j) → Qr (.inl none) G'
set_option maxHeartbeats 4000000 in
set_option maxRecDepth 100000 in
theorem gX1_fillPart : Good kX1_fillPart yX1_fillPart 0 TX1_fillPart := by
  refine good_of (by decide) rfl rfl (fun as G Qr h => ?_) (fun X as G Qr hcf hR hT oa => ?_)
  · obtain ⟨o, k, m, a, b, rfl, -⟩ := h; exact Nat.le_of_ble_eq_true rfl
  obtain ⟨o, k, m, a, b, rfl, hC, hab, ho, hk, hQ⟩ := hT
  show WP kX1_fillPart X 0 [some (2, ((o : Nat) : Int)), some (0, k), some (0, m)] [] G
  have hr_k : inR k := okv_R (oa _ (by simp))
  have hr_m : inR m := okv_R (oa _ (by simp))
  refine s_aload_n dX1_fillPart_0 rfl (Int.natCast_nonneg _) ?_
  refine s_alv (o) (by simp) (fun al1 => ?_)
  have hk2 : gK G (o) = (10, 0) := hC.1.k (by rw [cde_f (by omega) (by omega)]; omega : cde o = 400) al1
  have hv3 : gS G o 3 = ((o + 4 : Nat) : Int) := by have h9 : (gS G o 3) = (((o % 1048576) + 4 : Nat) : Int) := hC.1.v (j := 3) (by rw [cde_f (by omega) (by omega)]; omega : cde o = 400) al1 (by rw [hk2]; exact Nat.le_of_ble_eq_true rfl); omega
  refine s_getf (ci := 2) (k := 3) (C := RX1) (T := TX1) (N := 5) (n := o) (L := 0) (t := 2) dX1_fillPart_1 rfl wi_66 m_413 (Nat.le_of_ble_eq_true rfl) rfl rfl hk2 hv3 ?_
  refine s_iload_n dX1_fillPart_4 rfl ?_
  refine s_alv (o + 4) (by simp) (fun al4 => ?_)
  have hk5 : gK G (o + 4) = (4, 6) := hC.1.k (by rw [cde_f (by omega) (by omega)]; omega : cde (o + 4) = 404) al4
  have hv7b : (gS G (o + 4) (k : Int).toNat) = ((((o + 4) % 1048576) + 12 + ((k : Int).toNat) : Nat) : Int) := hC.1.v (j := (k : Int).toNat) (by rw [cde_f (by omega) (by omega)]; omega : cde (o + 4) = 404) al4 (by rw [hk5]; show (k : Int).toNat < 6; omega)
  obtain ⟨q6, hv7⟩ : ∃ q : Nat, gS G (o + 4) (k : Int).toNat = (q : Int) := ⟨(gS G (o + 4) (k : Int).toNat).toNat, by omega⟩
  rw [hv7] at hv7b
  refine s_aald4 dX1_fillPart_5 hk5 (by omega) (by omega) hv7 ?_
  refine s_iconst dX1_fillPart_6 (by decide) ?_
  refine s_iload_n dX1_fillPart_7 rfl ?_
  refine s_alv (q6) (by simp) (fun al8 => ?_)
  have hk9 := hC.1.kf (show (408 ≤ cde q6 ∧ cde q6 < 414) ∨ (416 ≤ cde q6 ∧ cde q6 < 422) from by rw [cde_f (by omega) (by omega)]; omega) al8
  refine s_iast dX1_fillPart_8 hk9 (by omega) (by omega) ?_
  generalize eG10r : gset G q6 ((0 : Int).toNat) m = G10
  have eG10 := eG10r.symm
  have hCG10 : CI a b G10 := by rw [eG10]; exact hC.set ((sv_fil (r := 0) (j := 0) (v := 0) (by rw [cde_f (by omega) (by omega)]; omega)).1) ((sv_fil (by rw [cde_f (by omega) (by omega)]; omega)).2)
  have hXG10 : KX G G10 := KX.set KX.rf eG10
  have hFG10 : WX (fun x => x = o + 5 ∨ x = o + 16 + k.toNat) G G10 := WX.set WX.rf eG10 (by show _; omega)
  show WP kX1_fillPart X 9 [some (2, ((o : Nat) : Int)), some (0, k), some (0, m)] [] G10
  refine s_aload_n dX1_fillPart_9 rfl (Int.natCast_nonneg _) ?_
  have hk11 : gK G10 (o) = (10, 0) := ((hXG10).k hk2 (by decide))
  refine s_alv (o) (by simp) (fun al12 => ?_)
  have hv13 : gS G10 o 4 = ((o + 5 : Nat) : Int) := by have h9 : (gS G10 o 4) = (((o % 1048576) + 5 : Nat) : Int) := hCG10.1.v (j := 4) (by rw [cde_f (by omega) (by omega)]; omega : cde o = 400) al12 (by rw [hk11]; exact Nat.le_of_ble_eq_true rfl); omega
  refine s_getf (ci := 2) (k := 4) (C := RX1) (T := TX1) (N := 5) (n := o) (L := 0) (t := 2) dX1_fillPart_10 rfl wi_66 m_414 (Nat.le_of_ble_eq_true rfl) rfl rfl hk11 hv13 ?_
  refine s_iload_n dX1_fillPart_13 rfl ?_
  refine s_iconst dX1_fillPart_14 (by decide) ?_
  refine s_alv (o + 5) (by simp) (fun al14 => ?_)
  have hk15 : gK G10 (o + 5) = (1, 6) := hCG10.1.k (by rw [cde_f (by omega) (by omega)]; omega : cde (o + 5) = 405) al14
  refine s_iast dX1_fillPart_15 hk15 (by omega) (by omega) ?_
  generalize eG16r : gset G10 (o + 5) ((k : Int).toNat) 1 = G16
  have eG16 := eG16r.symm
  have hCG16 : CI a b G16 := by rw [eG16]; exact hCG10.set (by rw [(by rw [cde_f (by omega) (by omega)]; omega : cde (o + 5) = 405)]; rfl) (by rw [(by rw [cde_f (by omega) (by omega)]; omega : cde (o + 5) = 405)]; exact (show 0 ≤ 1 ∧ 1 ≤ 201 from by omega))
  have hXG16 : KX G10 G16 := KX.set KX.rf eG16
  have hFG16 : WX (fun x => x = o + 5 ∨ x = o + 16 + k.toNat) G G16 := WX.set hFG10 eG16 (by show _; omega)
  show WP kX1_fillPart X 16 [some (2, ((o : Nat) : Int)), some (0, k), some (0, m)] [] G16
  exact s_vret hR dX1_fillPart_16 rfl (hQ G16 hCG16 (KX.trans hXG10 hXG16) hFG16 ⟨fun P hP j hj => by
      have hj0 : j = 0 := by rw [show gS G16 (o + 5) k.toNat = (1 : Int) from gsaE eG16] at hj; omega
      subst hj0
      rw [show o + 16 + k.toNat = q6 by omega, gset_o eG16 (by omega), show gS G10 q6 0 = m from gsaE eG10, eG16, gset_K, eG10, gset_K]
      exact ⟨kne hk9 (by decide), hP⟩, gsaE eG16, fun j hj => by rw [eG16, gset_ne _ _ (fun z => hj z.2), gset_o eG10 (by omega)]⟩)

abbrev kX1_put : KD := (RX1, cX1_put, 9, (some .int), [])
def TX1_put : TR := fun as G Qr => ∃ (o : Nat) (w N : Nat) (n : Int) (q : Nat) (a b : Nat), as = [(2, ((o : Nat) : Int)), (2, ((w : Nat) : Int)), (0, n), (2, ((q : Nat) : Int))] ∧ CI a b G ∧ (a ≤ 2840000 ∧ b ≤ 590000) ∧ (isFl o) ∧ (gK G w = (1, N)) ∧ (N ≤ 100000) ∧ (gK G q = (1, 200)) ∧ (FRW q) ∧ (q < 1048576) ∧ (∀ k : Nat, k < 6 → q = o + 16 + k → gS G (o + 5) k = 0) ∧ (w % 1048576 ≠ q ∧ q ≠ o + 5 ∧ q ≠ o + 4 ∧ q ≠ o) ∧ ∀ (r : Int) (G' : LG), CI a b G' → KX G G' → WX (fun x => x = q) G G' → ((0 ≤ r ∧ r ≤ 201 ∧ (1 ≤ n → 1 ≤ N → 1 ≤ r)) ∧ ∀ P : Int → Prop, RPs P G w n → (∀ k : Nat, k < 6 → FIP P G o k) → r ≤ 200 → RPs P G' q r) → Qr (.inl (some (0, r))) G'
set_option maxHeartbeats 4000000 in
set_option maxRecDepth 100000 in
theorem gX1_put : Good kX1_put yX1_put 1 TX1_put := by
  refine good_of (by decide) rfl rfl (fun as G Qr h => ?_) (fun X as G Qr hcf hR hT oa => ?_)
  · obtain ⟨o, w, N, n, q, a, b, rfl, -⟩ := h; exact Nat.le_of_ble_eq_true rfl
  obtain ⟨o, w, N, n, q, a, b, rfl, hC, hab, ho, hkr, hN, hkq, hfq, hq9, hq0, hqo, hQ⟩ := hT
  show WP kX1_put X 0 [some (2, ((o : Nat) : Int)), some (2, ((w : Nat) : Int)), some (0, n), some (2, ((q : Nat) : Int)), none, none, none, none, none] [] G
  have hr_n : inR n := okv_R (oa _ (by simp))
  refine s_alvl (o) (k := 0) rfl (fun al1 => ?_)
  have hk2 : gK G (o) = (10, 0) := hC.1.k (by rw [cde_f (by omega) (by omega)]; omega : cde o = 400) al1
  refine s_alh (o) 4 al1 (by rw [hk2]; exact Nat.le_of_ble_eq_true rfl) (by rw [hk2]; rfl) (fun az5x => ?_)
  have az5v : gS G o 4 = ((o + 5 : Nat) : Int) := by have h9 : (gS G o 4) = (((o % 1048576) + 5 : Nat) : Int) := hC.1.v (j := 4) (by rw [cde_f (by omega) (by omega)]; omega : cde o = 400) al1 (by rw [hk2]; exact Nat.le_of_ble_eq_true rfl); omega
  have az5 : (gK G (o + 5)).1 ≠ 0 := by have h9 := az5x (by omega); rw [az5v, Int.toNat_natCast] at h9; exact h9
  have az5k : gK G (o + 5) = (1, 6) := hC.1.k (by rw [cde_f (by omega) (by omega)]; omega : cde (o + 5) = 405) az5
  refine s_iconst dX1_put_0 (by decide) ?_
  refine s_istore dX1_put_1 (by decide) (lv' := [some (2, ((o : Nat) : Int)), some (2, ((w : Nat) : Int)), some (0, n), some (2, ((q : Nat) : Int)), some (0, 0), none, none, none, none]) rfl ?_
  refine s_iconst dX1_put_3 (by decide) ?_
  refine s_istore dX1_put_4 (by decide) (lv' := [some (2, ((o : Nat) : Int)), some (2, ((w : Nat) : Int)), some (0, n), some (2, ((q : Nat) : Int)), some (0, 0), some (0, 0), none, none, none]) rfl ?_
  have L3 : ∀ (n3 : Nat) (c3 : Int) (i3 : Int) (G3 : LG), CI a b G3 → KX G G3 → WX (fun x => x = q) G G3 → (((0 ≤ c3 ∧ c3 ≤ 200) ∧ 0 ≤ i3 ∧ (0 < i3 → 0 < c3)) ∧ (∀ P : Int → Prop, RPs P G w n → (∀ k : Nat, k < 6 → FIP P G o k) → RPs P G3 q c3)) → (n - i3).toNat < n3 → WP kX1_put X 6 [some (2, ((o : Nat) : Int)), some (2, ((w : Nat) : Int)), some (0, n), some (2, ((q : Nat) : Int)), some (0, c3), some (0, i3), none, none, none] [] G3 := by
    intro n3
    induction n3 with
    | zero => intro c3 i3 G3 hCG3 hXG3 hFG3 hi3 hm3; exact absurd hm3 (Nat.not_lt_zero _)
    | succ n3 ih3 =>
      intro c3 i3 G3 hCG3 hXG3 hFG3 hi3 hm3
      obtain ⟨ic3, ip3⟩ := hi3
      have e53 : gS G3 (o + 5) = gS G (o + 5) := hFG3 (o + 5) az5 (by show ¬ _; omega)
      refine s_iload dX1_put_6 rfl ?_
      refine s_iload_n dX1_put_8 rfl ?_
      refine s_icmp_ge (tgt := 144) dX1_put_9 (by decide) (fun c4 => ?_) (fun c4 => ?_)
      · -- 9 to 144
        refine s_iload dX1_put_144 rfl ?_
        exact s_iret hR dX1_put_146 rfl (hQ c3 G3 hCG3 hXG3 hFG3 ⟨by omega, fun P hw hF _ => ip3 P hw hF⟩)
      · -- 9 to 12
        refine s_iload dX1_put_12 rfl ?_
        refine s_aload_n dX1_put_14 rfl (Int.natCast_nonneg _) ?_
        have hk5 : gK G3 (w) = (1, N) := ((hXG3).k hkr (by decide))
        refine s_alen dX1_put_15 hk5 (by decide) (by omega) ?_
        refine s_icmp_ge (tgt := 144) dX1_put_16 (by decide) (fun c6 => ?_) (fun c6 => ?_)
        · -- 16 to 144
          refine s_iload dX1_put_144 rfl ?_
          exact s_iret hR dX1_put_146 rfl (hQ c3 G3 hCG3 hXG3 hFG3 ⟨by omega, fun P hw hF _ => ip3 P hw hF⟩)
        · -- 16 to 19
          refine s_aload_n dX1_put_19 rfl (Int.natCast_nonneg _) ?_
          refine s_iload dX1_put_20 rfl ?_
          refine s_iald dX1_put_22 hk5 (by omega) (by omega) rfl ?_
          refine s_iconst dX1_put_23 (by decide) ?_
          refine s_isubW dX1_put_24 (fun w7 hrw7 hew7 => ?_)
          refine s_istore dX1_put_25 (by decide) (lv' := [some (2, ((o : Nat) : Int)), some (2, ((w : Nat) : Int)), some (0, n), some (2, ((q : Nat) : Int)), some (0, c3), some (0, i3), some (0, w7), none, none]) rfl ?_
          have hk8 : gK G3 (o + 5) = (1, 6) := ((hXG3).k az5k (by decide))
          have hs27 : (0 ≤ w7 ∧ w7 < 6) → 0 ≤ gS G3 (o + 5) (w7).toNat ∧ gS G3 (o + 5) (w7).toNat ≤ 201 := fun z => hCG3.1.v (c := 405) (j := (w7).toNat) (by rw [cde_f (by omega) (by omega)]; omega : cde (o + 5) = 405) (KX.al hXG3 az5) (by rw [hk8]; show _ < 6; omega)
          refine s_iload dX1_put_27 rfl ?_
          have J15 : ∀ z14 : Int, ((w7 < 0) ∧ z14 = 0) ∨ ((¬ w7 < 0) ∧ (((6 : Int)) ≤ w7) ∧ z14 = 0) ∨ ((¬ w7 < 0) ∧ (¬ ((6 : Int)) ≤ w7) ∧ ((gS G3 (o + 5) ((w7 : Int).toNat)) ≤ 0) ∧ z14 = 0) ∨ ((¬ w7 < 0) ∧ (¬ ((6 : Int)) ≤ w7) ∧ (¬ (gS G3 (o + 5) ((w7 : Int).toNat)) ≤ 0) ∧ z14 = 1) → WP kX1_put X 54 [some (2, ((o : Nat) : Int)), some (2, ((w : Nat) : Int)), some (0, n), some (2, ((q : Nat) : Int)), some (0, c3), some (0, i3), some (0, w7), none, none] [(0, z14)] G3 := by
            intro z14 hz14
            refine s_istore dX1_put_54 (by decide) (lv' := [some (2, ((o : Nat) : Int)), some (2, ((w : Nat) : Int)), some (0, n), some (2, ((q : Nat) : Int)), some (0, c3), some (0, i3), some (0, w7), some (0, z14), none]) rfl ?_
            refine s_iload dX1_put_56 rfl ?_
            have J22 : ∀ z21 : Int, ((z14 = 0) ∧ z21 = 1) ∨ ((¬ z14 = 0) ∧ z21 = gS G3 (o + 5) ((w7 : Int).toNat)) → WP kX1_put X 72 [some (2, ((o : Nat) : Int)), some (2, ((w : Nat) : Int)), some (0, n), some (2, ((q : Nat) : Int)), some (0, c3), some (0, i3), some (0, w7), some (0, z14), none] [(0, z21)] G3 := by
              intro z21 hz21
              refine s_istore dX1_put_72 (by decide) (lv' := [some (2, ((o : Nat) : Int)), some (2, ((w : Nat) : Int)), some (0, n), some (2, ((q : Nat) : Int)), some (0, c3), some (0, i3), some (0, w7), some (0, z14), some (0, z21)]) rfl ?_
              refine s_iload dX1_put_74 rfl ?_
              refine s_iload dX1_put_76 rfl ?_
              refine s_iadd dX1_put_78 (by omega) ?_
              refine s_sipush dX1_put_79 rfl (by decide) ?_
              refine s_icmp_gt (tgt := 95) dX1_put_82 (by decide) (fun c23 => ?_) (fun c23 => ?_)
              · -- 82 to 95
                refine s_sipush dX1_put_95 rfl (by decide) ?_
                exact s_iret hR dX1_put_98 rfl (hQ 201 G3 hCG3 hXG3 hFG3 ⟨by omega, fun P _ _ h => absurd h (by omega)⟩)
              · -- 82 to 85
                refine s_iload dX1_put_85 rfl ?_
                refine s_iload dX1_put_87 rfl ?_
                refine s_iadd dX1_put_89 (by omega) ?_
                refine s_aload_n dX1_put_90 rfl (Int.natCast_nonneg _) ?_
                have hk24 : gK G3 (q) = (1, 200) := ((hXG3).k hkq (by decide))
                refine s_alen dX1_put_91 hk24 (by decide) (by omega) ?_
                refine s_icmp_le (tgt := 99) dX1_put_92 (by decide) (fun c25 => ?_) (fun c25 => ?_)
                · -- 92 to 99
                  refine s_iload dX1_put_99 rfl ?_
                  refine s_if_eq (tgt := 123) dX1_put_101 (by decide) (fun c26 => ?_) (fun c26 => ?_)
                  · -- 101 to 123
                    refine s_aload_n dX1_put_123 rfl (Int.natCast_nonneg _) ?_
                    refine s_iload dX1_put_124 rfl ?_
                    refine s_aload_n dX1_put_126 rfl (Int.natCast_nonneg _) ?_
                    refine s_iload dX1_put_127 rfl ?_
                    refine s_iald dX1_put_129 hk5 (by omega) (by omega) rfl ?_
                    refine s_iast dX1_put_130 hk24 (by omega) (by omega) ?_
                    generalize eG27r : gset G3 q ((c3 : Int).toNat) (gS G3 w ((i3 : Int).toNat)) = G27
                    have eG27 := eG27r.symm
                    have hCG27 : CI a b G27 := by rw [eG27]; exact hCG3.set hfq.1 (hfq.2 _ _ _)
                    have hXG27 : KX G3 G27 := KX.set KX.rf eG27
                    have hFG27 : WX (fun x => x = q) G G27 := WX.set hFG3 eG27 (by show _; omega)
                    show WP kX1_put X 131 [some (2, ((o : Nat) : Int)), some (2, ((w : Nat) : Int)), some (0, n), some (2, ((q : Nat) : Int)), some (0, c3), some (0, i3), some (0, w7), some (0, z14), some (0, z21)] [] G27
                    refine s_iload dX1_put_131 rfl ?_
                    refine s_iload dX1_put_133 rfl ?_
                    refine s_iadd dX1_put_135 (by omega) ?_
                    refine s_istore dX1_put_136 (by decide) (lv' := [some (2, ((o : Nat) : Int)), some (2, ((w : Nat) : Int)), some (0, n), some (2, ((q : Nat) : Int)), some (0, c3 + z21), some (0, i3), some (0, w7), some (0, z14), some (0, z21)]) rfl ?_
                    refine s_iinc dX1_put_138 (v := i3) rfl (by omega) (by decide) (lv' := [some (2, ((o : Nat) : Int)), some (2, ((w : Nat) : Int)), some (0, n), some (2, ((q : Nat) : Int)), some (0, c3 + z21), some (0, i3 + 1), some (0, w7), some (0, z14), some (0, z21)]) rfl ?_
                    refine s_goto (tgt := 6) dX1_put_141 (by decide) ?_
                    refine s_mask [true, true, true, true, true, true, false, false, false] (lv' := [some (2, ((o : Nat) : Int)), some (2, ((w : Nat) : Int)), some (0, n), some (2, ((q : Nat) : Int)), some (0, c3 + z21), some (0, i3 + 1), none, none, none]) rfl ?_
                    exact ih3 (c3 + z21) (i3 + 1) G27 hCG27 (KX.trans hXG3 hXG27) hFG27 (⟨(by omega), (by intro P hw hF; exact RPs.cast (RPs.put (ip3 P hw hF) (by omega) ((RPs.wx hw hXG3 hFG3 (by show ¬ _; omega)) _ (by omega)).2 (kne hk24 (by decide)) eG27) (by omega))⟩) (by omega)
                  · -- 101 to 104
                    refine s_aload_n dX1_put_104 rfl (Int.natCast_nonneg _) ?_
                    have hk28 : gK G3 (o) = (10, 0) := ((hXG3).k hk2 (by decide))
                    refine s_alv (o) (by simp) (fun al29 => ?_)
                    have hv30 : gS G3 o 3 = ((o + 4 : Nat) : Int) := by have h9 : (gS G3 o 3) = (((o % 1048576) + 4 : Nat) : Int) := hCG3.1.v (j := 3) (by rw [cde_f (by omega) (by omega)]; omega : cde o = 400) al29 (by rw [hk28]; exact Nat.le_of_ble_eq_true rfl); omega
                    refine s_getf (ci := 2) (k := 3) (C := RX1) (T := TX1) (N := 5) (n := o) (L := 0) (t := 2) dX1_put_105 rfl wi_66 m_413 (Nat.le_of_ble_eq_true rfl) rfl rfl hk28 hv30 ?_
                    refine s_iload dX1_put_108 rfl ?_
                    refine s_alv (o + 4) (by simp) (fun al31 => ?_)
                    have hk32 : gK G3 (o + 4) = (4, 6) := hCG3.1.k (by rw [cde_f (by omega) (by omega)]; omega : cde (o + 4) = 404) al31
                    have hv34b : (gS G3 (o + 4) (w7 : Int).toNat) = ((((o + 4) % 1048576) + 12 + ((w7 : Int).toNat) : Nat) : Int) := hCG3.1.v (j := (w7 : Int).toNat) (by rw [cde_f (by omega) (by omega)]; omega : cde (o + 4) = 404) al31 (by rw [hk32]; show (w7 : Int).toNat < 6; omega)
                    obtain ⟨q33, hv34⟩ : ∃ q : Nat, gS G3 (o + 4) (w7 : Int).toNat = (q : Int) := ⟨(gS G3 (o + 4) (w7 : Int).toNat).toNat, by omega⟩
                    rw [hv34] at hv34b
                    refine s_aald4 dX1_put_110 hk32 (by omega) (by omega) hv34 ?_
                    refine s_iconst dX1_put_111 (by decide) ?_
                    refine s_aload_n dX1_put_112 rfl (Int.natCast_nonneg _) ?_
                    refine s_iload dX1_put_113 rfl ?_
                    refine s_iload dX1_put_115 rfl ?_
                    refine s_alv (q33) (by simp) (fun al35 => ?_)
                    have hk36 := hCG3.1.kf (show (408 ≤ cde q33 ∧ cde q33 < 414) ∨ (416 ≤ cde q33 ∧ cde q33 < 422) from by rw [cde_f (by omega) (by omega)]; omega) al35
                    refine s_copyI dX1_put_117 m_1147 hk36 hk24 (by omega) (by omega) (by omega) (by omega) (by omega) (by rw [hcf]; exact Nat.le_of_ble_eq_true rfl) (Nat.le_of_ble_eq_true rfl) ?_
                    generalize eG37r : gcpy G3 q33 (0 : Int).toNat q (c3 : Int).toNat (z21 : Int).toNat = G37
                    have eG37 := eG37r.symm
                    have hCG37 : CI a b G37 := by rw [eG37]; exact hCG3.cpy hfq.1 (fun _ _ _ => hfq.2 _ _ _)
                    have hXG37 : KX G3 G37 := KX.cpy KX.rf eG37
                    have hFG37 : WX (fun x => x = q) G G37 := WX.cpy hFG3 eG37 (by show _; omega)
                    show WP kX1_put X 120 [some (2, ((o : Nat) : Int)), some (2, ((w : Nat) : Int)), some (0, n), some (2, ((q : Nat) : Int)), some (0, c3), some (0, i3), some (0, w7), some (0, z14), some (0, z21)] [] G37
                    refine s_goto (tgt := 131) dX1_put_120 (by decide) ?_
                    refine s_iload dX1_put_131 rfl ?_
                    refine s_iload dX1_put_133 rfl ?_
                    refine s_iadd dX1_put_135 (by omega) ?_
                    refine s_istore dX1_put_136 (by decide) (lv' := [some (2, ((o : Nat) : Int)), some (2, ((w : Nat) : Int)), some (0, n), some (2, ((q : Nat) : Int)), some (0, c3 + z21), some (0, i3), some (0, w7), some (0, z14), some (0, z21)]) rfl ?_
                    refine s_iinc dX1_put_138 (v := i3) rfl (by omega) (by decide) (lv' := [some (2, ((o : Nat) : Int)), some (2, ((w : Nat) : Int)), some (0, n), some (2, ((q : Nat) : Int)), some (0, c3 + z21), some (0, i3 + 1), some (0, w7), some (0, z14), some (0, z21)]) rfl ?_
                    refine s_goto (tgt := 6) dX1_put_141 (by decide) ?_
                    refine s_mask [true, true, true, true, true, true, false, false, false] (lv' := [some (2, ((o : Nat) : Int)), some (2, ((w : Nat) : Int)), some (0, n), some (2, ((q : Nat) : Int)), some (0, c3 + z21), some (0, i3 + 1), none, none, none]) rfl ?_
                    exact ih3 (c3 + z21) (i3 + 1) G37 hCG37 (KX.trans hXG3 hXG37) hFG37 (⟨(by omega), (by intro P hw hF; exact RPs.cpy (ip3 P hw hF) (by omega) (by omega) (FIP.row (hF (w7 : Int).toNat (by omega)) hXG3 hFG3 e53 (by show ¬ _; intro z; have h8 := hq0 (w7 : Int).toNat (by omega) (by omega); rw [← e53] at h8; omega) (by omega) (by omega) (by omega)) (kne hk24 (by decide)) eG37)⟩) (by omega)
                · -- 92 to 95
                  refine s_sipush dX1_put_95 rfl (by decide) ?_
                  exact s_iret hR dX1_put_98 rfl (hQ 201 G3 hCG3 hXG3 hFG3 ⟨by omega, fun P _ _ h => absurd h (by omega)⟩)
            refine s_if_eq (tgt := 71) dX1_put_58 (by decide) (fun c38 => ?_) (fun c38 => ?_)
            · -- 58 to 71
              refine s_iconst dX1_put_71 (by decide) ?_
              exact J22 1 (Or.inl ⟨c38, rfl⟩)
            · -- 58 to 61
              refine s_aload_n dX1_put_61 rfl (Int.natCast_nonneg _) ?_
              have hk39 : gK G3 (o) = (10, 0) := ((hXG3).k hk2 (by decide))
              refine s_alv (o) (by simp) (fun al40 => ?_)
              have hv41 : gS G3 o 4 = ((o + 5 : Nat) : Int) := by have h9 : (gS G3 o 4) = (((o % 1048576) + 5 : Nat) : Int) := hCG3.1.v (j := 4) (by rw [cde_f (by omega) (by omega)]; omega : cde o = 400) al40 (by rw [hk39]; exact Nat.le_of_ble_eq_true rfl); omega
              refine s_getf (ci := 2) (k := 4) (C := RX1) (T := TX1) (N := 5) (n := o) (L := 0) (t := 2) dX1_put_62 rfl wi_66 m_414 (Nat.le_of_ble_eq_true rfl) rfl rfl hk39 hv41 ?_
              refine s_iload dX1_put_65 rfl ?_
              refine s_alv (o + 5) (by simp) (fun al42 => ?_)
              have hv43 : 0 ≤ (gS G3 (o + 5) (w7 : Int).toNat) ∧ (gS G3 (o + 5) (w7 : Int).toNat) ≤ 201 := hCG3.1.v (j := (w7 : Int).toNat) (by rw [cde_f (by omega) (by omega)]; omega : cde (o + 5) = 405) al42 (by rw [hk8]; show (w7 : Int).toNat < 6; omega)
              refine s_iald dX1_put_67 hk8 (by omega) (by omega) rfl ?_
              refine s_goto (tgt := 72) dX1_put_68 (by decide) ?_
              exact J22 _ (Or.inr (⟨c38, rfl⟩))
          refine s_if_lt (tgt := 53) dX1_put_29 (by decide) (fun c44 => ?_) (fun c44 => ?_)
          · -- 29 to 53
            refine s_iconst dX1_put_53 (by decide) ?_
            exact J15 0 (Or.inl ⟨c44, rfl⟩)
          · -- 29 to 32
            refine s_iload dX1_put_32 rfl ?_
            refine s_bipush dX1_put_34 rfl (by decide) ?_
            refine s_icmp_ge (tgt := 53) dX1_put_36 (by decide) (fun c45 => ?_) (fun c45 => ?_)
            · -- 36 to 53
              refine s_iconst dX1_put_53 (by decide) ?_
              exact J15 0 (Or.inr (Or.inl ⟨c44, c45, rfl⟩))
            · -- 36 to 39
              refine s_aload_n dX1_put_39 rfl (Int.natCast_nonneg _) ?_
              have hk46 : gK G3 (o) = (10, 0) := ((hXG3).k hk2 (by decide))
              refine s_alv (o) (by simp) (fun al47 => ?_)
              have hv48 : gS G3 o 4 = ((o + 5 : Nat) : Int) := by have h9 : (gS G3 o 4) = (((o % 1048576) + 5 : Nat) : Int) := hCG3.1.v (j := 4) (by rw [cde_f (by omega) (by omega)]; omega : cde o = 400) al47 (by rw [hk46]; exact Nat.le_of_ble_eq_true rfl); omega
              refine s_getf (ci := 2) (k := 4) (C := RX1) (T := TX1) (N := 5) (n := o) (L := 0) (t := 2) dX1_put_40 rfl wi_66 m_414 (Nat.le_of_ble_eq_true rfl) rfl rfl hk46 hv48 ?_
              refine s_iload dX1_put_43 rfl ?_
              refine s_alv (o + 5) (by simp) (fun al49 => ?_)
              have hv50 : 0 ≤ (gS G3 (o + 5) (w7 : Int).toNat) ∧ (gS G3 (o + 5) (w7 : Int).toNat) ≤ 201 := hCG3.1.v (j := (w7 : Int).toNat) (by rw [cde_f (by omega) (by omega)]; omega : cde (o + 5) = 405) al49 (by rw [hk8]; show (w7 : Int).toNat < 6; omega)
              refine s_iald dX1_put_45 hk8 (by omega) (by omega) rfl ?_
              refine s_if_le (tgt := 53) dX1_put_46 (by decide) (fun c51 => ?_) (fun c51 => ?_)
              · -- 46 to 53
                refine s_iconst dX1_put_53 (by decide) ?_
                exact J15 0 (Or.inr (Or.inr (Or.inl ⟨c44, c45, c51, rfl⟩)))
              · -- 46 to 49
                refine s_iconst dX1_put_49 (by decide) ?_
                refine s_goto (tgt := 54) dX1_put_50 (by decide) ?_
                exact J15 1 (Or.inr (Or.inr (Or.inr (⟨c44, c45, c51, rfl⟩))))
  exact L3 _ 0 0 G hC KX.rf WX.rf (⟨(by omega), (by intro P _ _; exact RPs.zero (by omega))⟩) (Nat.lt_succ_self _)
