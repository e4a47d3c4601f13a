abbrev kX8_push : KD := (RX8, cX8_push, 2, (some .int), [])
def TX8_push : TR := fun as G Qr => ∃ (p : Int) (a b : Nat), as = [(2, ((327684 : Nat) : Int)), (0, p)] ∧ CI a b G ∧ (a ≤ 2840000 ∧ b ≤ 590000) ∧ (gS G 327684 4 ≤ 2411) ∧ ∀ (r : Int) (G' : LG), CI a b G' → KX G G' → WX (fun x => x = 327684 ∨ x = 327690) G G' → (r = 0 ∧ gS G' 327684 4 = gS G 327684 4 + 1 ∧ LST G' (gS G 327684 4 + 1) ∧ (∀ m, LST G m → LST G' m)) → Qr (.inl (some (0, r))) G'
set_option maxHeartbeats 4000000 in
set_option maxRecDepth 100000 in
theorem gX8_push : Good kX8_push yX8_push 2 TX8_push := by
  refine good_of (by decide) rfl rfl (fun as G Qr h => ?_) (fun X as G Qr hcf hR hT oa => ?_)
  · obtain ⟨p, a, b, rfl, -⟩ := h; exact Nat.le_of_ble_eq_true rfl
  obtain ⟨p, a, b, rfl, hC, hab, ht, hQ⟩ := hT
  show WP kX8_push X 0 [some (2, ((327684 : Nat) : Int)), some (0, p)] [] G
  have hr_p : inR p := okv_R (oa _ (by simp))
  refine s_alvl 327684 (k := 0) rfl (fun al0 => ?_)
  obtain ⟨qs, Ls, hs1, hs2, hs3, hs4, hs5, hs6⟩ := hC.stk al0
  refine s_aload_n dX8_push_0 rfl (Int.natCast_nonneg _) ?_
  have hk1 : gK G (327684) = (17, 0) := hC.1.k (by decide : cde 327684 = 504) al0
  have hv2 : 0 ≤ (gS G 327684 4) ∧ (gS G 327684 4) ≤ 2412 := hC.1.v (j := 4) (by decide : cde 327684 = 504) al0 (by rw [hk1]; exact Nat.le_of_ble_eq_true rfl)
  refine s_getf (ci := 9) (k := 4) (C := RX8) (T := TX8) (N := 5) (n := 327684) (L := 0) (t := 0) dX8_push_1 rfl wi_76 m_676 (Nat.le_of_ble_eq_true rfl) rfl rfl hk1 rfl ?_
  refine s_aload_n dX8_push_4 rfl (Int.natCast_nonneg _) ?_
  refine s_getf (ci := 9) (k := 3) (C := RX8) (T := TX8) (N := 5) (n := 327684) (L := 0) (t := 2) dX8_push_5 rfl wi_76 m_680 (Nat.le_of_ble_eq_true rfl) rfl rfl hk1 hs1 ?_
  refine s_alen dX8_push_8 hs3 (by decide) (by omega) ?_
  refine s_icmp_lt (tgt := 46) dX8_push_9 (by decide) (fun c4 => ?_) (fun c4 => ?_)
  · -- 9 to 46
    refine s_aload_n dX8_push_46 rfl (Int.natCast_nonneg _) ?_
    refine s_getf (ci := 9) (k := 4) (C := RX8) (T := TX8) (N := 5) (n := 327684) (L := 0) (t := 0) dX8_push_47 rfl wi_76 m_676 (Nat.le_of_ble_eq_true rfl) rfl rfl hk1 rfl ?_
    refine s_aload_n dX8_push_50 rfl (Int.natCast_nonneg _) ?_
    refine s_getf (ci := 9) (k := 3) (C := RX8) (T := TX8) (N := 5) (n := 327684) (L := 0) (t := 2) dX8_push_51 rfl wi_76 m_680 (Nat.le_of_ble_eq_true rfl) rfl rfl hk1 hs1 ?_
    refine s_alen dX8_push_54 hs3 (by decide) (by omega) ?_
    refine s_icmp_lt (tgt := 60) dX8_push_55 (by decide) (fun c7 => ?_) (fun c7 => ?_)
    · -- 55 to 60
      refine s_aload_n dX8_push_60 rfl (Int.natCast_nonneg _) ?_
      refine s_getf (ci := 9) (k := 3) (C := RX8) (T := TX8) (N := 5) (n := 327684) (L := 0) (t := 2) dX8_push_61 rfl wi_76 m_680 (Nat.le_of_ble_eq_true rfl) rfl rfl hk1 hs1 ?_
      refine s_aload_n dX8_push_64 rfl (Int.natCast_nonneg _) ?_
      refine s_getf (ci := 9) (k := 4) (C := RX8) (T := TX8) (N := 5) (n := 327684) (L := 0) (t := 0) dX8_push_65 rfl wi_76 m_676 (Nat.le_of_ble_eq_true rfl) rfl rfl hk1 rfl ?_
      refine s_iload_n dX8_push_68 rfl ?_
      refine s_iast dX8_push_69 hs3 (by omega) (by omega) ?_
      generalize eG10r : gset G qs ((gS G 327684 4 : Int).toNat) p = G10
      have eG10 := eG10r.symm
      have hCG10 : CI a b G10 := by rw [eG10]; exact hC.set (by rw [(by rw [cde_s (by omega) (by omega)]; omega : cde qs = 510)]; rfl) (by rw [(by rw [cde_s (by omega) (by omega)]; omega : cde qs = 510)]; exact trivial)
      have hXG10 : KX G G10 := KX.set KX.rf eG10
      have hFG10 : WX (fun x => x = 327684 ∨ x = 327690) G G10 := WX.set WX.rf eG10 (by show _; first | decide | omega)
      show WP kX8_push X 70 [some (2, ((327684 : Nat) : Int)), some (0, p)] [] G10
      have hcwG10 : gS G10 327684 = gS G 327684 := gset_o eG10 (x := 327684) (by omega)
      have hcyG10 : gS G10 327684 4 = gS G 327684 4 := congrFun hcwG10 4
      have hczG10 : gS G10 327684 3 = (qs : Int) := by rw [hcwG10]; exact hs1
      have hkzG10 : gK G10 qs = (1, Ls) := by rw [eG10, gset_K]; exact hs3
      refine s_aload_n dX8_push_70 rfl (Int.natCast_nonneg _) ?_
      refine s_dup dX8_push_71 (show (2 : Nat) ≠ 1 by decide) ?_
      have hk11 : gK G10 (327684) = (17, 0) := ((hXG10).k hk1 (by decide))
      refine s_alv (327684) (by simp) (fun al13 => ?_)
      have hv12 : 0 ≤ (gS G10 327684 4) ∧ (gS G10 327684 4) ≤ 2412 := hCG10.1.v (j := 4) (by decide : cde 327684 = 504) al13 (by rw [hk11]; exact Nat.le_of_ble_eq_true rfl)
      refine s_getf (ci := 9) (k := 4) (C := RX8) (T := TX8) (N := 5) (n := 327684) (L := 0) (t := 0) dX8_push_72 rfl wi_76 m_676 (Nat.le_of_ble_eq_true rfl) rfl rfl hk11 rfl ?_
      refine s_iconst dX8_push_75 (by decide) ?_
      refine s_iadd dX8_push_76 (by omega) ?_
      refine s_putf (ci := 9) (k := 4) (C := RX8) (T := TX8) (N := 5) (n := 327684) (L := 0) dX8_push_77 rfl wi_76 m_676 (Nat.le_of_ble_eq_true rfl) rfl rfl tyX8_ok nmX8 rfl (Or.inl rfl) hk11 ?_
      generalize eG14r : gset G10 327684 4 ((gS G10 327684 4) + 1) = G14
      have eG14 := eG14r.symm
      have hCG14 : CI a b G14 := by rw [eG14]; exact hCG10.top hczG10 hkzG10 (by omega) (by omega)
      have hXG14 : KX G10 G14 := KX.set KX.rf eG14
      have hFG14 : WX (fun x => x = 327684 ∨ x = 327690) G G14 := WX.set hFG10 eG14 (by show _; first | decide | omega)
      show WP kX8_push X 80 [some (2, ((327684 : Nat) : Int)), some (0, p)] [] G14
      refine s_iconst dX8_push_80 (by decide) ?_
      exact s_iret hR dX8_push_81 rfl (hQ 0 G14 hCG14 (KX.trans hXG10 hXG14) hFG14 ⟨rfl, (gsaE eG14).trans (by omega), ⟨_, _, (by rw [eG14, gset_ne _ _ (fun z => absurd z.2 (by decide))]; exact hczG10), (by rw [eG14, gset_K]; exact hkzG10), by omega⟩, LST.gr hs1 hs3 (by rw [eG14, gset_ne _ _ (fun z => absurd z.2 (by decide))]; exact hczG10) (by rw [eG14, gset_K]; exact hkzG10) (by omega)⟩)
    · -- 55 to 58
      exfalso; omega
  · -- 9 to 12
    refine s_aload_n dX8_push_12 rfl (Int.natCast_nonneg _) ?_
    refine s_getf (ci := 9) (k := 4) (C := RX8) (T := TX8) (N := 5) (n := 327684) (L := 0) (t := 0) dX8_push_13 rfl wi_76 m_676 (Nat.le_of_ble_eq_true rfl) rfl rfl hk1 rfl ?_
    refine s_sipush dX8_push_16 rfl (by decide) ?_
    refine s_icmp_ge (tgt := 46) dX8_push_19 (by decide) (fun c16 => ?_) (fun c16 => ?_)
    · -- 19 to 46
      exfalso; omega
    · -- 19 to 22
      refine s_aload_n dX8_push_22 rfl (Int.natCast_nonneg _) ?_
      refine s_aload_n dX8_push_23 rfl (Int.natCast_nonneg _) ?_
      refine s_getf (ci := 9) (k := 3) (C := RX8) (T := TX8) (N := 5) (n := 327684) (L := 0) (t := 2) dX8_push_24 rfl wi_76 m_680 (Nat.le_of_ble_eq_true rfl) rfl rfl hk1 hs1 ?_
      refine s_iconst dX8_push_27 (by decide) ?_
      refine s_aload_n dX8_push_28 rfl (Int.natCast_nonneg _) ?_
      refine s_getf (ci := 9) (k := 3) (C := RX8) (T := TX8) (N := 5) (n := 327684) (L := 0) (t := 2) dX8_push_29 rfl wi_76 m_680 (Nat.le_of_ble_eq_true rfl) rfl rfl hk1 hs1 ?_
      refine s_alen dX8_push_32 hs3 (by decide) (by omega) ?_
      refine s_imul dX8_push_33 (by omega) ?_
      refine s_sipush dX8_push_34 rfl (by decide) ?_
      refine s_mmin dX8_push_37 m_1428 (by rw [hcf]; exact Nat.le_of_ble_eq_true rfl) (Nat.le_of_ble_eq_true rfl) ?_
      obtain ⟨z19, hz19⟩ : ∃ z : Int, z = (if 2412 < (2 * (((Ls : Nat) : Int))) then 2412 else 2 * (((Ls : Nat) : Int))) := ⟨_, rfl⟩
      rw [← hz19]
      have hz19a : (2412 < (2 * (((Ls : Nat) : Int))) ∧ z19 = 2412) ∨ (¬ 2412 < (2 * (((Ls : Nat) : Int))) ∧ z19 = 2 * (((Ls : Nat) : Int))) := by rw [hz19]; by_cases q : 2412 < (2 * (((Ls : Nat) : Int))); exact Or.inl ⟨q, if_pos q⟩; exact Or.inr ⟨q, if_neg q⟩
      obtain ⟨nm, hnm⟩ : ∃ nm : Nat, nm = 327690 + 1048576 * (1 + gc G) := ⟨_, rfl⟩
      have hroom := hC.room
      have hnd : (gK G nm).1 = 0 := hC.2.2.2.2.2.2.2.2.2.1.1 nm (by omega)
      refine s_callS2 (as := [(2, ((qs : Nat) : Int)), (0, z19)]) (rest := [(2, ((327684 : Nat) : Int))]) gJ7_copyOf_59c91 dX8_push_40 m_1429 m_1748 m_705 m_43 ⟨by decide, by decide, show (parseMethodDescriptor yJ7_copyOf_59c91.desc).map (fun d => d.parameters.length) = some 2 from by decide +kernel⟩ (Nat.le_of_ble_eq_true rfl) (by rw [hcf]; exact Nat.le_of_ble_eq_true rfl) rfl (Nat.le_of_ble_eq_true rfl) ⟨qs, Ls, nm, z19, rfl, hs3, by omega, ⟨by omega, by omega, by omega⟩, hnd, by omega, by omega, ?_⟩
      refine s_putf (ci := 9) (k := 3) (C := RX8) (T := TX8) (N := 5) (n := 327684) (L := 0) dX8_push_43 rfl wi_76 m_680 (Nat.le_of_ble_eq_true rfl) rfl rfl tyX8_ok nmX8 rfl (Or.inr (Or.inr (Or.inr (Or.inr ⟨_, rfl⟩)))) (by rw [gcpy_K, gnew_Kne _ _ _ _ _ (by omega)]; exact hk1) ?_
      generalize eG20r : gset (gcpy (gnew G nm 1 (z19 : Int).toNat (z19 : Int).toNat (fun _ => 0)) qs 0 nm 0 (if z19 < (Ls : Int) then z19 else (Ls : Int)).toNat) 327684 3 (nm : Int) = G20
      have eG20 := eG20r.symm
      have hXG20 : KX G G20 := KX.set (KX.cpy (KX.new KX.rf rfl hnd) rfl) eG20
      have hjG20 : ∀ j, j ≠ 3 → gS G20 327684 j = gS G 327684 j := fun j hj => by rw [eG20, gset_ne _ _ (fun z => hj z.2), gcpy_ne _ (by omega), gnew_ne _ _ _ _ _ (by omega)]
      have hsG20 : gS G20 327684 4 = gS G 327684 4 := hjG20 4 (by decide)
      have hCG20 : CI a b G20 := hC.growStack (M := (z19 : Int).toNat) (kne hk1 (by decide)) hs1 hs3 (by omega) (by omega) ⟨by omega, by omega, by omega⟩ hnm (by omega) (fun z z1 z2 => by rw [eG20]; funext y; rw [gset_ne _ _ (fun w => z2 w.1), gcpy_ne _ z1, gnew_ne _ _ _ _ _ z1]) (gsaE eG20) hjG20 (by rw [eG20]; rfl) (by rw [eG20]; rfl) (by rw [eG20]; rfl)
      have hFG20 : WX (fun x => x = 327684 ∨ x = 327690) G G20 := WX.set (WX.cpy (WX.new WX.rf KX.rf rfl hnd) rfl (by show _; omega)) eG20 (by show _; decide)
      have hqG20 : gS G20 327684 3 = (nm : Int) := gsaE eG20
      have hkG20 : gK G20 nm = (1, (z19 : Int).toNat) := by rw [eG20, gset_K, gcpy_K]; exact gnew_K _ _ _ _ _ _
      have hmz : nm % 1048576 = 327690 := by omega
      have hko21 : gK G20 327684 = (17, 0) := hXG20.k hk1 (by decide)
      show WP kX8_push X 46 [some (2, ((327684 : Nat) : Int)), some (0, p)] [] G20
      refine s_aload_n dX8_push_46 rfl (Int.natCast_nonneg _) ?_
      refine s_alv (327684) (by simp) (fun al23 => ?_)
      have hv22 : 0 ≤ (gS G20 327684 4) ∧ (gS G20 327684 4) ≤ 2412 := hCG20.1.v (j := 4) (by decide : cde 327684 = 504) al23 (by rw [hko21]; exact Nat.le_of_ble_eq_true rfl)
      refine s_getf (ci := 9) (k := 4) (C := RX8) (T := TX8) (N := 5) (n := 327684) (L := 0) (t := 0) dX8_push_47 rfl wi_76 m_676 (Nat.le_of_ble_eq_true rfl) rfl rfl hko21 rfl ?_
      refine s_aload_n dX8_push_50 rfl (Int.natCast_nonneg _) ?_
      refine s_getf (ci := 9) (k := 3) (C := RX8) (T := TX8) (N := 5) (n := 327684) (L := 0) (t := 2) dX8_push_51 rfl wi_76 m_680 (Nat.le_of_ble_eq_true rfl) rfl rfl hko21 hqG20 ?_
      refine s_alen dX8_push_54 hkG20 (by decide) (by omega) ?_
      refine s_icmp_lt (tgt := 60) dX8_push_55 (by decide) (fun c25 => ?_) (fun c25 => ?_)
      · -- 55 to 60
        refine s_aload_n dX8_push_60 rfl (Int.natCast_nonneg _) ?_
        refine s_getf (ci := 9) (k := 3) (C := RX8) (T := TX8) (N := 5) (n := 327684) (L := 0) (t := 2) dX8_push_61 rfl wi_76 m_680 (Nat.le_of_ble_eq_true rfl) rfl rfl hko21 hqG20 ?_
        refine s_aload_n dX8_push_64 rfl (Int.natCast_nonneg _) ?_
        refine s_getf (ci := 9) (k := 4) (C := RX8) (T := TX8) (N := 5) (n := 327684) (L := 0) (t := 0) dX8_push_65 rfl wi_76 m_676 (Nat.le_of_ble_eq_true rfl) rfl rfl hko21 rfl ?_
        refine s_iload_n dX8_push_68 rfl ?_
        refine s_iast dX8_push_69 hkG20 (by omega) (by omega) ?_
        generalize eG28r : gset G20 nm ((gS G20 327684 4 : Int).toNat) p = G28
        have eG28 := eG28r.symm
        have hCG28 : CI a b G28 := by rw [eG28]; exact hCG20.set (by rw [(by rw [cde_s (by omega) (by omega)]; omega : cde nm = 510)]; rfl) (by rw [(by rw [cde_s (by omega) (by omega)]; omega : cde nm = 510)]; exact trivial)
        have hXG28 : KX G20 G28 := KX.set KX.rf eG28
        have hFG28 : WX (fun x => x = 327684 ∨ x = 327690) G G28 := WX.set hFG20 eG28 (by show _; first | decide | omega)
        show WP kX8_push X 70 [some (2, ((327684 : Nat) : Int)), some (0, p)] [] G28
        have hcwG28 : gS G28 327684 = gS G20 327684 := gset_o eG28 (x := 327684) (by omega)
        have hcyG28 : gS G28 327684 4 = gS G20 327684 4 := congrFun hcwG28 4
        have hczG28 : gS G28 327684 3 = (nm : Int) := by rw [hcwG28]; exact hqG20
        have hkzG28 : gK G28 nm = (1, (z19 : Int).toNat) := by rw [eG28, gset_K]; exact hkG20
        refine s_aload_n dX8_push_70 rfl (Int.natCast_nonneg _) ?_
        refine s_dup dX8_push_71 (show (2 : Nat) ≠ 1 by decide) ?_
        have hk29 : gK G28 (327684) = (17, 0) := ((hXG28).k hko21 (by decide))
        refine s_alv (327684) (by simp) (fun al31 => ?_)
        have hv30 : 0 ≤ (gS G28 327684 4) ∧ (gS G28 327684 4) ≤ 2412 := hCG28.1.v (j := 4) (by decide : cde 327684 = 504) al31 (by rw [hk29]; exact Nat.le_of_ble_eq_true rfl)
        refine s_getf (ci := 9) (k := 4) (C := RX8) (T := TX8) (N := 5) (n := 327684) (L := 0) (t := 0) dX8_push_72 rfl wi_76 m_676 (Nat.le_of_ble_eq_true rfl) rfl rfl hk29 rfl ?_
        refine s_iconst dX8_push_75 (by decide) ?_
        refine s_iadd dX8_push_76 (by omega) ?_
        refine s_putf (ci := 9) (k := 4) (C := RX8) (T := TX8) (N := 5) (n := 327684) (L := 0) dX8_push_77 rfl wi_76 m_676 (Nat.le_of_ble_eq_true rfl) rfl rfl tyX8_ok nmX8 rfl (Or.inl rfl) hk29 ?_
        generalize eG32r : gset G28 327684 4 ((gS G28 327684 4) + 1) = G32
        have eG32 := eG32r.symm
        have hCG32 : CI a b G32 := by rw [eG32]; exact hCG28.top hczG28 hkzG28 (by omega) (by omega)
        have hXG32 : KX G28 G32 := KX.set KX.rf eG32
        have hFG32 : WX (fun x => x = 327684 ∨ x = 327690) G G32 := WX.set hFG28 eG32 (by show _; first | decide | omega)
        show WP kX8_push X 80 [some (2, ((327684 : Nat) : Int)), some (0, p)] [] G32
        refine s_iconst dX8_push_80 (by decide) ?_
        exact s_iret hR dX8_push_81 rfl (hQ 0 G32 hCG32 (KX.trans (KX.trans hXG20 hXG28) hXG32) hFG32 ⟨rfl, (gsaE eG32).trans (by omega), ⟨_, _, (by rw [eG32, gset_ne _ _ (fun z => absurd z.2 (by decide))]; exact hczG28), (by rw [eG32, gset_K]; exact hkzG28), by omega⟩, LST.gr hs1 hs3 (by rw [eG32, gset_ne _ _ (fun z => absurd z.2 (by decide))]; exact hczG28) (by rw [eG32, gset_K]; exact hkzG28) (by omega)⟩)
      · -- 55 to 58
        exfalso; omega

abbrev kX8_isIntAt : KD := (RX8, cX8_isIntAt, 2, (some .boolean), [])
def TX8_isIntAt : TR := fun as G Qr => ∃ (p : Int) (a b : Nat), as = [(2, ((327684 : Nat) : Int)), (0, p)] ∧ CI a b G ∧ (a ≤ 2840000 ∧ b ≤ 590000) ∧ (0 ≤ p) ∧ ∀ (r : Int), (r = 0 ∨ r = 1) → Qr (.inl (some (0, r))) G
set_option maxHeartbeats 4000000 in
set_option maxRecDepth 100000 in
theorem gX8_isIntAt : Good kX8_isIntAt yX8_isIntAt 0 TX8_isIntAt := by
  refine good_of (by decide) rfl rfl (fun as G Qr h => ?_) (fun X as G Qr hcf hR hT oa => ?_)
  · obtain ⟨p, a, b, rfl, -⟩ := h; exact Nat.le_of_ble_eq_true rfl
  obtain ⟨p, a, b, rfl, hC, hab, hp, hQ⟩ := hT
  show WP kX8_isIntAt X 0 [some (2, ((327684 : Nat) : Int)), some (0, p)] [] G
  have hr_p : inR p := okv_R (oa _ (by simp))
  refine s_alvl 327684 (k := 0) rfl (fun al0 => ?_)
  obtain ⟨qs, Ls, hs1, hs2, hs3, hs4, hs5, hs6⟩ := hC.stk al0
  refine s_iload_n dX8_isIntAt_0 rfl ?_
  refine s_aload_n dX8_isIntAt_1 rfl (Int.natCast_nonneg _) ?_
  have hk1 : gK G (327684) = (17, 0) := hC.1.k (by decide : cde 327684 = 504) al0
  have hv2 : 0 ≤ (gS G 327684 4) ∧ (gS G 327684 4) ≤ 2412 := hC.1.v (j := 4) (by decide : cde 327684 = 504) al0 (by rw [hk1]; exact Nat.le_of_ble_eq_true rfl)
  refine s_getf (ci := 9) (k := 4) (C := RX8) (T := TX8) (N := 5) (n := 327684) (L := 0) (t := 0) dX8_isIntAt_2 rfl wi_76 m_676 (Nat.le_of_ble_eq_true rfl) rfl rfl hk1 rfl ?_
  refine s_icmp_ge (tgt := 21) dX8_isIntAt_5 (by decide) (fun c3 => ?_) (fun c3 => ?_)
  · -- 5 to 21
    refine s_iconst dX8_isIntAt_21 (by decide) ?_
    exact s_zret hR dX8_isIntAt_22 rfl (by first | exact Or.inl rfl | exact Or.inr rfl | omega) (hQ 0 (by omega))
  · -- 5 to 8
    refine s_aload_n dX8_isIntAt_8 rfl (Int.natCast_nonneg _) ?_
    refine s_getf (ci := 9) (k := 3) (C := RX8) (T := TX8) (N := 5) (n := 327684) (L := 0) (t := 2) dX8_isIntAt_9 rfl wi_76 m_680 (Nat.le_of_ble_eq_true rfl) rfl rfl hk1 hs1 ?_
    refine s_iload_n dX8_isIntAt_12 rfl ?_
    refine s_iald dX8_isIntAt_13 hs3 (by omega) (by omega) rfl ?_
    have J6 : ∀ z5 : Int, ((¬ (gS G qs ((p : Int).toNat)) = 0) ∧ z5 = 0) ∨ (((gS G qs ((p : Int).toNat)) = 0) ∧ z5 = 1) → WP kX8_isIntAt X 22 [some (2, ((327684 : Nat) : Int)), some (0, p)] [(0, z5)] G := by
      intro z5 hz5
      exact s_zret hR dX8_isIntAt_22 rfl (by first | exact Or.inl rfl | exact Or.inr rfl | omega) (hQ z5 (by omega))
    refine s_if_ne (tgt := 21) dX8_isIntAt_14 (by decide) (fun c7 => ?_) (fun c7 => ?_)
    · -- 14 to 21
      refine s_iconst dX8_isIntAt_21 (by decide) ?_
      exact J6 0 (Or.inl ⟨c7, rfl⟩)
    · -- 14 to 17
      refine s_iconst dX8_isIntAt_17 (by decide) ?_
      refine s_goto (tgt := 22) dX8_isIntAt_18 (by decide) ?_
      exact J6 1 (Or.inr (⟨c7, rfl⟩))

abbrev kX8_isSameOnStack : KD := (RX8, cX8_isSameOnStack, 5, (some .boolean), [])
def TX8_isSameOnStack : TR := fun as G Qr => ∃ (x y z : Int) (a b : Nat), as = [(2, ((327684 : Nat) : Int)), (0, x), (0, y), (0, z)] ∧ CI a b G ∧ (a ≤ 2840000 ∧ b ≤ 590000) ∧ (0 ≤ x ∧ x ≤ 2412 ∧ 0 ≤ y ∧ y ≤ 2412 ∧ 0 ≤ z ∧ z ≤ gS G 327684 4) ∧ ∀ (r : Int), (r = 0 ∨ r = 1) → Qr (.inl (some (0, r))) G
set_option maxHeartbeats 4000000 in
set_option maxRecDepth 100000 in
theorem gX8_isSameOnStack : Good kX8_isSameOnStack yX8_isSameOnStack 0 TX8_isSameOnStack := by
  refine good_of (by decide) rfl rfl (fun as G Qr h => ?_) (fun X as G Qr hcf hR hT oa => ?_)
  · obtain ⟨x, y, z, a, b, rfl, -⟩ := h; exact Nat.le_of_ble_eq_true rfl
  obtain ⟨x, y, z, a, b, rfl, hC, hab, hx, hQ⟩ := hT
  show WP kX8_isSameOnStack X 0 [some (2, ((327684 : Nat) : Int)), some (0, x), some (0, y), some (0, z), none] [] G
  have hr_x : inR x := okv_R (oa _ (by simp))
  have hr_y : inR y := okv_R (oa _ (by simp))
  have hr_z : inR z := okv_R (oa _ (by simp))
  refine s_alvl 327684 (k := 0) rfl (fun al0 => ?_)
  obtain ⟨qs, Ls, hs1, hs2, hs3, hs4, hs5, hs6⟩ := hC.stk al0
  refine s_iload_n dX8_isSameOnStack_0 rfl ?_
  refine s_iload_n dX8_isSameOnStack_1 rfl ?_
  refine s_isub dX8_isSameOnStack_2 (by omega) ?_
  refine s_iload_n dX8_isSameOnStack_3 rfl ?_
  refine s_iload_n dX8_isSameOnStack_4 rfl ?_
  refine s_isub dX8_isSameOnStack_5 (by omega) ?_
  refine s_icmp_eq (tgt := 11) dX8_isSameOnStack_6 (by decide) (fun c1 => ?_) (fun c1 => ?_)
  · -- 6 to 11
    refine s_iconst dX8_isSameOnStack_11 (by decide) ?_
    refine s_istore dX8_isSameOnStack_12 (by decide) (lv' := [some (2, ((327684 : Nat) : Int)), some (0, x), some (0, y), some (0, z), some (0, 0)]) rfl ?_
    have L2 : ∀ (n2 : Nat) (i2 : Int), ((0 ≤ i2 ∧ (i2 ≤ y - x ∨ i2 = 0))) → (y - x - i2).toNat < n2 → WP kX8_isSameOnStack X 14 [some (2, ((327684 : Nat) : Int)), some (0, x), some (0, y), some (0, z), some (0, i2)] [] G := by
      intro n2
      induction n2 with
      | zero => intro i2 hi2 hm2; exact absurd hm2 (Nat.not_lt_zero _)
      | succ n2 ih2 =>
        intro i2 hi2 hm2
        have ii2 := hi2
        refine s_iload_n dX8_isSameOnStack_14 rfl ?_
        refine s_iload dX8_isSameOnStack_15 rfl ?_
        refine s_iadd dX8_isSameOnStack_17 (by omega) ?_
        refine s_iload_n dX8_isSameOnStack_18 rfl ?_
        refine s_icmp_ge (tgt := 51) dX8_isSameOnStack_19 (by decide) (fun c3 => ?_) (fun c3 => ?_)
        · -- 19 to 51
          refine s_iconst dX8_isSameOnStack_51 (by decide) ?_
          exact s_zret hR dX8_isSameOnStack_52 rfl (by first | exact Or.inl rfl | exact Or.inr rfl | omega) (hQ 1 (by omega))
        · -- 19 to 22
          refine s_aload_n dX8_isSameOnStack_22 rfl (Int.natCast_nonneg _) ?_
          have hk4 : gK G (327684) = (17, 0) := hC.1.k (by decide : cde 327684 = 504) al0
          refine s_getf (ci := 9) (k := 3) (C := RX8) (T := TX8) (N := 5) (n := 327684) (L := 0) (t := 2) dX8_isSameOnStack_23 rfl wi_76 m_680 (Nat.le_of_ble_eq_true rfl) rfl rfl hk4 hs1 ?_
          refine s_iload_n dX8_isSameOnStack_26 rfl ?_
          refine s_iload dX8_isSameOnStack_27 rfl ?_
          refine s_iadd dX8_isSameOnStack_29 (by omega) ?_
          refine s_iald dX8_isSameOnStack_30 hs3 (by omega) (by omega) rfl ?_
          refine s_aload_n dX8_isSameOnStack_31 rfl (Int.natCast_nonneg _) ?_
          refine s_getf (ci := 9) (k := 3) (C := RX8) (T := TX8) (N := 5) (n := 327684) (L := 0) (t := 2) dX8_isSameOnStack_32 rfl wi_76 m_680 (Nat.le_of_ble_eq_true rfl) rfl rfl hk4 hs1 ?_
          refine s_iload_n dX8_isSameOnStack_35 rfl ?_
          refine s_iload dX8_isSameOnStack_36 rfl ?_
          refine s_iadd dX8_isSameOnStack_38 (by omega) ?_
          refine s_iald dX8_isSameOnStack_39 hs3 (by omega) (by omega) rfl ?_
          refine s_icmp_eq (tgt := 45) dX8_isSameOnStack_40 (by decide) (fun c7 => ?_) (fun c7 => ?_)
          · -- 40 to 45
            refine s_iinc dX8_isSameOnStack_45 (v := i2) rfl (by omega) (by decide) (lv' := [some (2, ((327684 : Nat) : Int)), some (0, x), some (0, y), some (0, z), some (0, i2 + 1)]) rfl ?_
            refine s_goto (tgt := 14) dX8_isSameOnStack_48 (by decide) ?_
            exact ih2 (i2 + 1) ((by omega)) (by omega)
          · -- 40 to 43
            refine s_iconst dX8_isSameOnStack_43 (by decide) ?_
            exact s_zret hR dX8_isSameOnStack_44 rfl (by first | exact Or.inl rfl | exact Or.inr rfl | omega) (hQ 0 (by omega))
    exact L2 _ 0 ((by omega)) (Nat.lt_succ_self _)
  · -- 6 to 9
    refine s_iconst dX8_isSameOnStack_9 (by decide) ?_
    exact s_zret hR dX8_isSameOnStack_10 rfl (by first | exact Or.inl rfl | exact Or.inr rfl | omega) (hQ 0 (by omega))

abbrev kX8_endOfType : KD := (RX8, cX8_endOfType, 4, (some .int), [])
def TX8_endOfType : TR := fun as G Qr => ∃ (f : Int) (a b : Nat), as = [(2, ((327684 : Nat) : Int)), (0, f)] ∧ CI a b G ∧ (a ≤ 2840000 ∧ b ≤ 590000) ∧ (0 ≤ f ∧ f ≤ 2413) ∧ ∀ (r : Int), (f ≤ r ∧ (r ≤ f ∨ r ≤ gS G 327684 4)) → Qr (.inl (some (0, r))) G
set_option maxHeartbeats 4000000 in
set_option maxRecDepth 100000 in
theorem gX8_endOfType : Good kX8_endOfType yX8_endOfType 0 TX8_endOfType := by
  refine good_of (by decide) rfl rfl (fun as G Qr h => ?_) (fun X as G Qr hcf hR hT oa => ?_)
  · obtain ⟨f, a, b, rfl, -⟩ := h; exact Nat.le_of_ble_eq_true rfl
  obtain ⟨f, a, b, rfl, hC, hab, hf9, hQ⟩ := hT
  show WP kX8_endOfType X 0 [some (2, ((327684 : Nat) : Int)), some (0, f), none, none] [] G
  have hr_f : inR f := okv_R (oa _ (by simp))
  refine s_alvl 327684 (k := 0) rfl (fun al0 => ?_)
  obtain ⟨qs, Ls, hs1, hs2, hs3, hs4, hs5, hs6⟩ := hC.stk al0
  refine s_iconst dX8_endOfType_0 (by decide) ?_
  refine s_istore_n dX8_endOfType_1 (by decide) (lv' := [some (2, ((327684 : Nat) : Int)), some (0, f), some (0, 1), none]) rfl ?_
  refine s_iload_n dX8_endOfType_2 rfl ?_
  refine s_istore_n dX8_endOfType_3 (by decide) (lv' := [some (2, ((327684 : Nat) : Int)), some (0, f), some (0, 1), some (0, f)]) rfl ?_
  have L1 : ∀ (n1 : Nat) (d1 : Int) (p1 : Int), ((f ≤ p1 ∧ (p1 ≤ f ∨ p1 ≤ gS G 327684 4)) ∧ (1 - (p1 - f) ≤ d1 ∧ d1 ≤ 1 + (p1 - f))) → (gS G 327684 4 - p1).toNat < n1 → WP kX8_endOfType X 4 [some (2, ((327684 : Nat) : Int)), some (0, f), some (0, d1), some (0, p1)] [] G := by
    intro n1
    induction n1 with
    | zero => intro d1 p1 hi1 hm1; exact absurd hm1 (Nat.not_lt_zero _)
    | succ n1 ih1 =>
      intro d1 p1 hi1 hm1
      obtain ⟨ip1, id1⟩ := hi1
      refine s_iload_n dX8_endOfType_4 rfl ?_
      refine s_if_le (tgt := 40) dX8_endOfType_5 (by decide) (fun c2 => ?_) (fun c2 => ?_)
      · -- 5 to 40
        refine s_iload_n dX8_endOfType_40 rfl ?_
        exact s_iret hR dX8_endOfType_41 rfl (hQ p1 (by omega))
      · -- 5 to 8
        refine s_iload_n dX8_endOfType_8 rfl ?_
        refine s_aload_n dX8_endOfType_9 rfl (Int.natCast_nonneg _) ?_
        have hk3 : gK G (327684) = (17, 0) := hC.1.k (by decide : cde 327684 = 504) al0
        have hv4 : 0 ≤ (gS G 327684 4) ∧ (gS G 327684 4) ≤ 2412 := hC.1.v (j := 4) (by decide : cde 327684 = 504) al0 (by rw [hk3]; exact Nat.le_of_ble_eq_true rfl)
        refine s_getf (ci := 9) (k := 4) (C := RX8) (T := TX8) (N := 5) (n := 327684) (L := 0) (t := 0) dX8_endOfType_10 rfl wi_76 m_676 (Nat.le_of_ble_eq_true rfl) rfl rfl hk3 rfl ?_
        refine s_icmp_ge (tgt := 40) dX8_endOfType_13 (by decide) (fun c5 => ?_) (fun c5 => ?_)
        · -- 13 to 40
          refine s_iload_n dX8_endOfType_40 rfl ?_
          exact s_iret hR dX8_endOfType_41 rfl (hQ p1 (by omega))
        · -- 13 to 16
          refine s_iload_n dX8_endOfType_16 rfl ?_
          refine s_aload_n dX8_endOfType_17 rfl (Int.natCast_nonneg _) ?_
          refine s_getf (ci := 9) (k := 3) (C := RX8) (T := TX8) (N := 5) (n := 327684) (L := 0) (t := 2) dX8_endOfType_18 rfl wi_76 m_680 (Nat.le_of_ble_eq_true rfl) rfl rfl hk3 hs1 ?_
          refine s_iload_n dX8_endOfType_21 rfl ?_
          refine s_iald dX8_endOfType_22 hs3 (by omega) (by omega) rfl ?_
          refine s_iconst dX8_endOfType_23 (by decide) ?_
          have J8 : ∀ z7 : Int, ((¬ (gS G qs ((p1 : Int).toNat)) = ((1 : Int))) ∧ z7 = (-1)) ∨ (((gS G qs ((p1 : Int).toNat)) = ((1 : Int))) ∧ z7 = 1) → WP kX8_endOfType X 32 [some (2, ((327684 : Nat) : Int)), some (0, f), some (0, d1), some (0, p1)] [(0, z7), (0, d1)] G := by
            intro z7 hz7
            refine s_iadd dX8_endOfType_32 (by omega) ?_
            refine s_istore_n dX8_endOfType_33 (by decide) (lv' := [some (2, ((327684 : Nat) : Int)), some (0, f), some (0, d1 + z7), some (0, p1)]) rfl ?_
            refine s_iinc dX8_endOfType_34 (v := p1) rfl (by omega) (by decide) (lv' := [some (2, ((327684 : Nat) : Int)), some (0, f), some (0, d1 + z7), some (0, p1 + 1)]) rfl ?_
            refine s_goto (tgt := 4) dX8_endOfType_37 (by decide) ?_
            exact ih1 (d1 + z7) (p1 + 1) (⟨(by omega), (by omega)⟩) (by omega)
          refine s_icmp_ne (tgt := 31) dX8_endOfType_24 (by decide) (fun c9 => ?_) (fun c9 => ?_)
          · -- 24 to 31
            refine s_iconst dX8_endOfType_31 (by decide) ?_
            exact J8 ((-1)) (Or.inl ⟨c9, rfl⟩)
          · -- 24 to 27
            refine s_iconst dX8_endOfType_27 (by decide) ?_
            refine s_goto (tgt := 32) dX8_endOfType_28 (by decide) ?_
            exact J8 1 (Or.inr (⟨c9, rfl⟩))
  exact L1 _ 1 f (⟨(by omega), (by omega)⟩) (Nat.lt_succ_self _)

abbrev kX8_cutTo : KD := (RX8, cX8_cutTo, 4, none, [])
def TX8_cutTo : TR := fun as G Qr => ∃ (p y z : Int) (a b : Nat), as = [(2, ((327684 : Nat) : Int)), (0, p), (0, y), (0, z)] ∧ CI a b G ∧ (a ≤ 2840000 ∧ b ≤ 590000) ∧ (0 ≤ p ∧ p ≤ 2413 ∧ 0 ≤ y ∧ y ≤ 2413 ∧ 0 ≤ z ∧ z ≤ 2413) ∧ ∀ (G' : LG), CI a b G' → KX G G' → WX (fun x => x = 327684 ∨ x = 327690) G G' → ((gS G' 327684 4 = gS G 327684 4 ∨ (gS G' 327684 4 = p + z - y ∧ p ≤ y ∧ y ≤ z ∧ z ≤ gS G 327684 4)) ∧ (∀ m, LST G m → LST G' m)) → Qr (.inl none) G'
set_option maxHeartbeats 4000000 in
set_option maxRecDepth 100000 in
theorem gX8_cutTo : Good kX8_cutTo yX8_cutTo 1 TX8_cutTo := by
  refine good_of (by decide) rfl rfl (fun as G Qr h => ?_) (fun X as G Qr hcf hR hT oa => ?_)
  · obtain ⟨p, y, z, a, b, rfl, -⟩ := h; exact Nat.le_of_ble_eq_true rfl
  obtain ⟨p, y, z, a, b, rfl, hC, hab, hp, hQ⟩ := hT
  show WP kX8_cutTo X 0 [some (2, ((327684 : Nat) : Int)), some (0, p), some (0, y), some (0, z)] [] G
  have hr_p : inR p := okv_R (oa _ (by simp))
  have hr_y : inR y := okv_R (oa _ (by simp))
  have hr_z : inR z := okv_R (oa _ (by simp))
  refine s_alvl 327684 (k := 0) rfl (fun al0 => ?_)
  obtain ⟨qs, Ls, hs1, hs2, hs3, hs4, hs5, hs6⟩ := hC.stk al0
  refine s_iload_n dX8_cutTo_0 rfl ?_
  refine s_iload_n dX8_cutTo_1 rfl ?_
  refine s_icmp_gt (tgt := 43) dX8_cutTo_2 (by decide) (fun c1 => ?_) (fun c1 => ?_)
  · -- 2 to 43
    exact s_vret hR dX8_cutTo_43 rfl (hQ G hC KX.rf WX.rf ⟨Or.inl rfl, fun _ h => h⟩)
  · -- 2 to 5
    refine s_iload_n dX8_cutTo_5 rfl ?_
    refine s_iload_n dX8_cutTo_6 rfl ?_
    refine s_icmp_gt (tgt := 43) dX8_cutTo_7 (by decide) (fun c2 => ?_) (fun c2 => ?_)
    · -- 7 to 43
      exact s_vret hR dX8_cutTo_43 rfl (hQ G hC KX.rf WX.rf ⟨Or.inl rfl, fun _ h => h⟩)
    · -- 7 to 10
      refine s_iload_n dX8_cutTo_10 rfl ?_
      refine s_aload_n dX8_cutTo_11 rfl (Int.natCast_nonneg _) ?_
      have hk3 : gK G (327684) = (17, 0) := hC.1.k (by decide : cde 327684 = 504) al0
      have hv4 : 0 ≤ (gS G 327684 4) ∧ (gS G 327684 4) ≤ 2412 := hC.1.v (j := 4) (by decide : cde 327684 = 504) al0 (by rw [hk3]; exact Nat.le_of_ble_eq_true rfl)
      refine s_getf (ci := 9) (k := 4) (C := RX8) (T := TX8) (N := 5) (n := 327684) (L := 0) (t := 0) dX8_cutTo_12 rfl wi_76 m_676 (Nat.le_of_ble_eq_true rfl) rfl rfl hk3 rfl ?_
      refine s_icmp_gt (tgt := 43) dX8_cutTo_15 (by decide) (fun c5 => ?_) (fun c5 => ?_)
      · -- 15 to 43
        exact s_vret hR dX8_cutTo_43 rfl (hQ G hC KX.rf WX.rf ⟨Or.inl rfl, fun _ h => h⟩)
      · -- 15 to 18
        refine s_aload_n dX8_cutTo_18 rfl (Int.natCast_nonneg _) ?_
        refine s_getf (ci := 9) (k := 3) (C := RX8) (T := TX8) (N := 5) (n := 327684) (L := 0) (t := 2) dX8_cutTo_19 rfl wi_76 m_680 (Nat.le_of_ble_eq_true rfl) rfl rfl hk3 hs1 ?_
        refine s_iload_n dX8_cutTo_22 rfl ?_
        refine s_aload_n dX8_cutTo_23 rfl (Int.natCast_nonneg _) ?_
        refine s_getf (ci := 9) (k := 3) (C := RX8) (T := TX8) (N := 5) (n := 327684) (L := 0) (t := 2) dX8_cutTo_24 rfl wi_76 m_680 (Nat.le_of_ble_eq_true rfl) rfl rfl hk3 hs1 ?_
        refine s_iload_n dX8_cutTo_27 rfl ?_
        refine s_iload_n dX8_cutTo_28 rfl ?_
        refine s_iload_n dX8_cutTo_29 rfl ?_
        refine s_isub dX8_cutTo_30 (by omega) ?_
        refine s_copyI dX8_cutTo_31 m_1435 hs3 hs3 (by omega) (by omega) (by omega) (by omega) (by omega) (by rw [hcf]; exact Nat.le_of_ble_eq_true rfl) (Nat.le_of_ble_eq_true rfl) ?_
        generalize eG8r : gcpy G qs (y : Int).toNat qs (p : Int).toNat (z - y : Int).toNat = G8
        have eG8 := eG8r.symm
        have hCG8 : CI a b G8 := by rw [eG8]; exact hC.cpy (by rw [(by rw [cde_s (by omega) (by omega)]; omega : cde qs = 510)]; rfl) (fun _ _ _ => by rw [(by rw [cde_s (by omega) (by omega)]; omega : cde qs = 510)]; exact True.intro)
        have hXG8 : KX G G8 := KX.cpy KX.rf eG8
        have hFG8 : WX (fun x => x = 327684 ∨ x = 327690) G G8 := WX.cpy WX.rf eG8 (by show _; first | decide | omega)
        show WP kX8_cutTo X 34 [some (2, ((327684 : Nat) : Int)), some (0, p), some (0, y), some (0, z)] [] G8
        have hcwG8 : gS G8 327684 = gS G 327684 := (show gS G8 327684 = gS G 327684 by rw [eG8]; exact gcpy_ne _ (by omega))
        have hcyG8 : gS G8 327684 4 = gS G 327684 4 := congrFun hcwG8 4
        have hczG8 : gS G8 327684 3 = (qs : Int) := by rw [hcwG8]; exact hs1
        have hkzG8 : gK G8 qs = (1, Ls) := by rw [eG8, gcpy_K]; exact hs3
        refine s_aload_n dX8_cutTo_34 rfl (Int.natCast_nonneg _) ?_
        refine s_iload_n dX8_cutTo_35 rfl ?_
        refine s_iload_n dX8_cutTo_36 rfl ?_
        refine s_iadd dX8_cutTo_37 (by omega) ?_
        refine s_iload_n dX8_cutTo_38 rfl ?_
        refine s_isub dX8_cutTo_39 (by omega) ?_
        have hk9 : gK G8 (327684) = (17, 0) := ((hXG8).k hk3 (by decide))
        refine s_putf (ci := 9) (k := 4) (C := RX8) (T := TX8) (N := 5) (n := 327684) (L := 0) dX8_cutTo_40 rfl wi_76 m_676 (Nat.le_of_ble_eq_true rfl) rfl rfl tyX8_ok nmX8 rfl (Or.inl rfl) hk9 ?_
        generalize eG10r : gset G8 327684 4 ((p + z) - y) = G10
        have eG10 := eG10r.symm
        have hCG10 : CI a b G10 := by rw [eG10]; exact hCG8.top hczG8 hkzG8 (by omega) (by omega)
        have hXG10 : KX G8 G10 := KX.set KX.rf eG10
        have hFG10 : WX (fun x => x = 327684 ∨ x = 327690) G G10 := WX.set hFG8 eG10 (by show _; first | decide | omega)
        show WP kX8_cutTo X 43 [some (2, ((327684 : Nat) : Int)), some (0, p), some (0, y), some (0, z)] [] G10
        exact s_vret hR dX8_cutTo_43 rfl (hQ G10 hCG10 (KX.trans hXG8 hXG10) hFG10 ⟨Or.inr ⟨(gsaE eG10).trans (by omega), by omega⟩, LST.gr hs1 hs3 (by rw [eG10, gset_ne _ _ (fun z => absurd z.2 (by decide))]; exact hczG8) (by rw [eG10, gset_K]; exact hkzG8) (by omega)⟩)
