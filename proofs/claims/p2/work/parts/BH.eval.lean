abbrev kX3_evaluateRef : KD := (RX3, cX3_evaluateRef, 2, (some .int), [])
def TX3_evaluateRef : TR := fun as G Qr => ∃ (o : Nat) (c f : Int) (a b : Nat), as = [(2, ((o : Nat) : Int)), (0, c)] ∧ CI a b G ∧ (a ≤ 2840000 ∧ b ≤ 590000) ∧ (isMc o) ∧ (0 ≤ f ∧ f ≤ 24) ∧ (c < 0 ∨ (10 * f ≤ c ∧ c < 10 * gS G o 9 ∧ 0 ≤ gS G (o + 1) c.toNat)) ∧ (AQC G o f) ∧ (0 ≤ gS G (o + 20) 4) ∧ ∀ (r : Int) (G' : LG), CI a b G' → KX G G' → WX (fun x => x = o) G G' → ((r < lenV G' (o + 20) ∧ ¬ r = -1) ∧ lenV G (o + 20) ≤ lenV G' (o + 20) ∧ (0 ≤ gS G' (o + 20) 4 ∧ gS G' (o + 20) 4 ≤ gS G (o + 20) 4) ∧ (∀ j, j ≠ 10 → gS G' o j = gS G o j) ∧ AQC G' o f) → Qr (.inl (some (0, r))) G'
set_option maxHeartbeats 4000000 in
set_option maxRecDepth 100000 in
theorem gX3_evaluateRef : Good kX3_evaluateRef yX3_evaluateRef 0 TX3_evaluateRef := by
  refine good_of (by decide) rfl rfl (fun as G Qr h => ?_) (fun X as G Qr hcf hR hT oa => ?_)
  · obtain ⟨o, c, f, a, b, rfl, -⟩ := h; exact Nat.le_of_ble_eq_true rfl
  obtain ⟨o, c, f, a, b, rfl, hC, hab, ho, hf0, hc, hAQ, hw, hQ⟩ := hT
  show WP kX3_evaluateRef X 0 [some (2, ((o : Nat) : Int)), some (0, c)] [] G
  have hr_c : inR c := okv_R (oa _ (by simp))
  refine s_alvl o (k := 0) rfl (fun alo => ?_)
  refine s_lk (fun hlk => ?_)
  have hmn := hlk.mna hC ho alo
  obtain ⟨kM, kM1, kM2, kM3, kM4, kM5, kM6, kM7, kM8, kM13, kM15, kM20, kMp, kMp5, kMp6, kMp7, kMp8, kMp9, kMp10, kMp13, kMp14, kMp16⟩ := id hmn
  have hin : 0 ≤ gS G o 9 ∧ gS G o 9 ≤ 24 := hC.1.v (c := 300) (j := 9) (by rcases ho with rfl | rfl <;> decide) alo (by rw [kM]; exact Nat.le_of_ble_eq_true rfl)
  have hln := lenV.nn (G := G) (o := o + 20)
  have hO : ∀ j, j ≠ 10 → gS G o j = gS G o j := fun _ _ => rfl
  refine s_iload_n dX3_evaluateRef_0 rfl ?_
  refine s_if_ge (tgt := 7) dX3_evaluateRef_1 (by decide) (fun c1 => ?_) (fun c1 => ?_)
  · -- 1 to 7
    have hc9 := hc.resolve_left (by omega)
    clear hc
    refine s_aload_n dX3_evaluateRef_7 rfl (Int.natCast_nonneg _) ?_
    have hv2 : gS G o 7 = ((o + 7 : Nat) : Int) := by have h9 : (gS G o 7) = (((o % 1048576) + 7 : Nat) : Int) := hC.1.v (j := 7) (by rw [cde_m (by omega) (by omega)]; omega : cde o = 300) (kne kM (by decide)) (by rw [kM]; exact Nat.le_of_ble_eq_true rfl); omega
    refine s_getf (ci := 4) (k := 7) (C := RX3) (T := TX3) (N := 18) (n := o) (L := 0) (t := 2) dX3_evaluateRef_8 rfl wi_71 m_616 (Nat.le_of_ble_eq_true rfl) rfl rfl kM hv2 ?_
    refine s_iload_n dX3_evaluateRef_11 rfl ?_
    refine s_iald dX3_evaluateRef_12 kM7 (by omega) (by omega) rfl ?_
    refine s_iconst dX3_evaluateRef_13 (by decide) ?_
    refine s_icmp_ne (tgt := 22) dX3_evaluateRef_14 (by decide) (fun c3 => ?_) (fun c3 => ?_)
    · -- 14 to 22
      have hstG : ∀ s : Int, 0 ≤ s ∧ s < 240 → gS G (o + 7) s.toNat < lenV G (o + 20) := fun s hs => hC.states ho (kne kM20 (by decide)) s hs
      have hst1G := hstG c (by omega)
      refine s_aload_n dX3_evaluateRef_22 rfl (Int.natCast_nonneg _) ?_
      have hv4 : gS G o 7 = ((o + 7 : Nat) : Int) := by have h9 : (gS G o 7) = (((o % 1048576) + 7 : Nat) : Int) := hC.1.v (j := 7) (by rw [cde_m (by omega) (by omega)]; omega : cde o = 300) (kne kM (by decide)) (by rw [kM]; exact Nat.le_of_ble_eq_true rfl); omega
      refine s_getf (ci := 4) (k := 7) (C := RX3) (T := TX3) (N := 18) (n := o) (L := 0) (t := 2) dX3_evaluateRef_23 rfl wi_71 m_616 (Nat.le_of_ble_eq_true rfl) rfl rfl kM hv4 ?_
      refine s_iload_n dX3_evaluateRef_26 rfl ?_
      refine s_iald dX3_evaluateRef_27 kM7 (by omega) (by omega) rfl ?_
      refine s_if_lt (tgt := 40) dX3_evaluateRef_28 (by decide) (fun c5 => ?_) (fun c5 => ?_)
      · -- 28 to 40
        refine s_bipush dX3_evaluateRef_40 rfl (by decide) ?_
        exact s_iret hR dX3_evaluateRef_42 rfl (hQ ((-3)) G hC KX.rf WX.rf ⟨by omega, Int.le_refl _, by omega, fun _ _ => rfl, hAQ⟩)
      · -- 28 to 31
        refine s_aload_n dX3_evaluateRef_31 rfl (Int.natCast_nonneg _) ?_
        have hv6 : gS G o 7 = ((o + 7 : Nat) : Int) := by have h9 : (gS G o 7) = (((o % 1048576) + 7 : Nat) : Int) := hC.1.v (j := 7) (by rw [cde_m (by omega) (by omega)]; omega : cde o = 300) (kne kM (by decide)) (by rw [kM]; exact Nat.le_of_ble_eq_true rfl); omega
        refine s_getf (ci := 4) (k := 7) (C := RX3) (T := TX3) (N := 18) (n := o) (L := 0) (t := 2) dX3_evaluateRef_32 rfl wi_71 m_616 (Nat.le_of_ble_eq_true rfl) rfl rfl kM hv6 ?_
        refine s_iload_n dX3_evaluateRef_35 rfl ?_
        refine s_iald dX3_evaluateRef_36 kM7 (by omega) (by omega) rfl ?_
        refine s_goto (tgt := 42) dX3_evaluateRef_37 (by decide) ?_
        exact s_iret hR dX3_evaluateRef_42 rfl (hQ (gS G (o + 7) ((c : Int).toNat)) G hC KX.rf WX.rf ⟨by omega, Int.le_refl _, by omega, fun _ _ => rfl, hAQ⟩)
    · -- 14 to 17
      refine s_aload_n dX3_evaluateRef_17 rfl (Int.natCast_nonneg _) ?_
      refine s_iload_n dX3_evaluateRef_18 rfl ?_
      refine s_putf (ci := 4) (k := 10) (C := RX3) (T := TX3) (N := 18) (n := o) (L := 0) dX3_evaluateRef_19 rfl wi_71 m_609 (Nat.le_of_ble_eq_true rfl) rfl rfl tyX3_ok nmX3 rfl (Or.inl rfl) kM ?_
      generalize eG7r : gset G o 10 c = G7
      have eG7 := eG7r.symm
      have hCG7 : CI a b G7 := by rw [eG7]; exact hC.set (by rw [(by rw [cde_m (by omega) (by omega)]; omega : cde o = 300)]; rfl) (by rw [(by rw [cde_m (by omega) (by omega)]; omega : cde o = 300)]; exact (show -1 ≤ c ∧ c ≤ 239 from by omega))
      have hXG7 : KX G G7 := KX.set KX.rf eG7
      have hFG7 : WX (fun x => x = o) G G7 := WX.set WX.rf eG7 (by show _; omega)
      have hfG7 : WX (fun x => x = o % 1048576) G G7 := WX.set WX.rf eG7 rfl
      have hOG7 : ∀ j, j ≠ 10 → gS G7 o j = gS G o j := fun j hj => (show gS G7 o j = gS G o j from by rw [eG7, gset_ne _ _ (fun z => hj z.2)]).trans (hO j hj)
      show WP kX3_evaluateRef X 22 [some (2, ((o : Nat) : Int)), some (0, c)] [] G7
      have hstG7 : ∀ s : Int, 0 ≤ s ∧ s < 240 → gS G7 (o + 7) s.toNat < lenV G7 (o + 20) := fun s hs => hCG7.states ho (KX.al hXG7 (kne kM20 (by decide))) s hs
      have hst1G7 := hstG7 c (by omega)
      have hlvG7 : lenV G7 (o + 20) = lenV G (o + 20) := lenV.cg (by rw [gset_o eG7 (x := o + 20) (by omega)]) (by rw [eG7]; rfl)
      have hcnG7 : gS G7 (o + 20) 4 = gS G (o + 20) 4 := congrFun (gset_o eG7 (x := o + 20) (by omega)) 4
      refine s_aload_n dX3_evaluateRef_22 rfl (Int.natCast_nonneg _) ?_
      have hk8 : gK G7 (o) = (12, 0) := ((hXG7).k kM (by decide))
      refine s_alv (o) (by simp) (fun (al9 : AL G7 o) => ?_)
      have hv10 : gS G7 o 7 = ((o + 7 : Nat) : Int) := by have h9 : (gS G7 o 7) = (((o % 1048576) + 7 : Nat) : Int) := hCG7.1.v (j := 7) (by rw [cde_m (by omega) (by omega)]; omega : cde o = 300) al9 (by rw [hk8]; exact Nat.le_of_ble_eq_true rfl); omega
      refine s_getf (ci := 4) (k := 7) (C := RX3) (T := TX3) (N := 18) (n := o) (L := 0) (t := 2) dX3_evaluateRef_23 rfl wi_71 m_616 (Nat.le_of_ble_eq_true rfl) rfl rfl hk8 hv10 ?_
      refine s_iload_n dX3_evaluateRef_26 rfl ?_
      have hk11 : gK G7 (o + 7) = (1, 240) := ((hXG7).k kM7 (by decide))
      refine s_iald dX3_evaluateRef_27 hk11 (by omega) (by omega) rfl ?_
      refine s_if_lt (tgt := 40) dX3_evaluateRef_28 (by decide) (fun c12 => ?_) (fun c12 => ?_)
      · -- 28 to 40
        refine s_bipush dX3_evaluateRef_40 rfl (by decide) ?_
        exact s_iret hR dX3_evaluateRef_42 rfl (hQ ((-3)) G7 hCG7 hXG7 hFG7 ⟨by omega, by omega, by omega, hOG7, Or.inr (by rw [show gS G7 o 10 = c from gsaE eG7, hOG7 9 (by decide), gset_o eG7 (x := o + 1) (by omega)]; omega)⟩)
      · -- 28 to 31
        refine s_aload_n dX3_evaluateRef_31 rfl (Int.natCast_nonneg _) ?_
        have hv13 : gS G7 o 7 = ((o + 7 : Nat) : Int) := by have h9 : (gS G7 o 7) = (((o % 1048576) + 7 : Nat) : Int) := hCG7.1.v (j := 7) (by rw [cde_m (by omega) (by omega)]; omega : cde o = 300) al9 (by rw [hk8]; exact Nat.le_of_ble_eq_true rfl); omega
        refine s_getf (ci := 4) (k := 7) (C := RX3) (T := TX3) (N := 18) (n := o) (L := 0) (t := 2) dX3_evaluateRef_32 rfl wi_71 m_616 (Nat.le_of_ble_eq_true rfl) rfl rfl hk8 hv13 ?_
        refine s_iload_n dX3_evaluateRef_35 rfl ?_
        refine s_iald dX3_evaluateRef_36 hk11 (by omega) (by omega) rfl ?_
        refine s_goto (tgt := 42) dX3_evaluateRef_37 (by decide) ?_
        exact s_iret hR dX3_evaluateRef_42 rfl (hQ (gS G7 (o + 7) ((c : Int).toNat)) G7 hCG7 hXG7 hFG7 ⟨by omega, by omega, by omega, hOG7, Or.inr (by rw [show gS G7 o 10 = c from gsaE eG7, hOG7 9 (by decide), gset_o eG7 (x := o + 1) (by omega)]; omega)⟩)
  · -- 1 to 4
    refine s_bipush dX3_evaluateRef_4 rfl (by decide) ?_
    exact s_iret hR dX3_evaluateRef_6 rfl (hQ ((-3)) G hC KX.rf WX.rf ⟨by omega, Int.le_refl _, by omega, fun _ _ => rfl, hAQ⟩)

abbrev kX3_evaluate : KD := (RX3, cX3_evaluate, 4, (some .int), [])
def TX3_evaluate (m : Nat) : TR := fun as G Qr => ∃ (o : Nat) (e c d f : Int) (a b : Nat), as = [(2, ((o : Nat) : Int)), (0, e), (0, c), (0, d)] ∧ CI a b G ∧ (a ≤ 2840000 ∧ b ≤ 590000) ∧ (isMc o) ∧ (0 ≤ f ∧ f ≤ 24) ∧ (MC G o f) ∧ (10 * f ≤ c ∧ c < 10 * gS G o 9) ∧ (e < gS G 327681 12) ∧ (AQC G o f) ∧ (0 ≤ d ∧ d ≤ 13 ∧ 14 ≤ d + m) ∧ (0 ≤ gS G (o + 20) 4 ∧ gS G (o + 20) 4 + wE G e ≤ 2999) ∧ ∀ (r : Int) (G' : LG), CI a b G' → KX G G' → WX (fun x => x = o ∨ (o + 20 ≤ x ∧ x ≤ o + 24)) G G' → ((r < lenV G' (o + 20) ∧ ¬ r = -1) ∧ lenV G (o + 20) ≤ lenV G' (o + 20) ∧ (0 ≤ gS G' (o + 20) 4 ∧ gS G' (o + 20) 4 ≤ gS G (o + 20) 4 + wE G e) ∧ (∀ j, j ≠ 10 → gS G' o j = gS G o j) ∧ AQC G' o f) → Qr (.inl (some (0, r))) G'

abbrev kX3_evaluateBoth : KD := (RX3, cX3_evaluateBoth, 6, (some .int), [])
def TX3_evaluateBoth (m : Nat) : TR := fun as G Qr => ∃ (o : Nat) (e c d f : Int) (a b : Nat), as = [(2, ((o : Nat) : Int)), (0, e), (0, c), (0, d)] ∧ CI a b G ∧ (a ≤ 2840000 ∧ b ≤ 590000) ∧ (isMc o) ∧ (0 ≤ f ∧ f ≤ 24) ∧ (MC G o f) ∧ (10 * f ≤ c ∧ c < 10 * gS G o 9) ∧ (0 ≤ e ∧ e < gS G 327681 12) ∧ (AQC G o f) ∧ (gS G 327701 e.toNat = 0 ∨ gS G 327701 e.toNat = 1) ∧ (d ≤ 12 ∧ 0 ≤ d ∧ 13 ≤ d + m) ∧ (0 ≤ gS G (o + 20) 4 ∧ gS G (o + 20) 4 + wE G e ≤ 2999) ∧ ∀ (r : Int) (G' : LG), CI a b G' → KX G G' → WX (fun x => x = o ∨ (o + 20 ≤ x ∧ x ≤ o + 24)) G G' → ((r < lenV G' (o + 20) ∧ ¬ r = -1) ∧ lenV G (o + 20) ≤ lenV G' (o + 20) ∧ (0 ≤ gS G' (o + 20) 4 ∧ gS G' (o + 20) 4 ≤ gS G (o + 20) 4 + wE G e) ∧ (∀ j, j ≠ 10 → gS G' o j = gS G o j) ∧ AQC G' o f) → Qr (.inl (some (0, r))) G'
set_option maxHeartbeats 4000000 in
set_option maxRecDepth 100000 in
theorem gX3_evaluateBoth (m : Nat) (ih : Good kX3_evaluate yX3_evaluate (4 * m + 8) (TX3_evaluate m)) : Good kX3_evaluateBoth yX3_evaluateBoth (4 * m + 9) (TX3_evaluateBoth m) := by
  refine good_of (by decide) rfl rfl (fun as G Qr h => ?_) (fun X as G Qr hcf hR hT oa => ?_)
  · obtain ⟨o, e, c, d, f, a, b, rfl, -⟩ := h; exact Nat.le_of_ble_eq_true rfl
  obtain ⟨o, e, c, d, f, a, b, rfl, hC, hab, ho, hf0, hMC, hc, he, hAQ, hk, hd, hw, hQ⟩ := hT
  show WP kX3_evaluateBoth X 0 [some (2, ((o : Nat) : Int)), some (0, e), some (0, c), some (0, d), none, none] [] G
  have hr_e : inR e := okv_R (oa _ (by simp))
  have hr_c : inR c := okv_R (oa _ (by simp))
  have hr_d : inR d := okv_R (oa _ (by simp))
  have rg0 : RM (fun x => x = o ∨ (o + 20 ≤ x ∧ x ≤ o + 24)) (fun x => x = o ∨ (o + 20 ≤ x ∧ x ≤ o + 24)) := fun x hx => by (try dsimp only at hx ⊢); omega
  have rg1 : RNx (fun x => x = o ∨ (o + 20 ≤ x ∧ x ≤ o + 24)) ((o + 1) % 1048576) := by show ¬ _; omega
  have rg2 : RNx (fun x => x = o ∨ (o + 20 ≤ x ∧ x ≤ o + 24)) ((o + 5) % 1048576) := by show ¬ _; omega
  have rg3 : RNx (fun x => x = o ∨ (o + 20 ≤ x ∧ x ≤ o + 24)) (327681 % 1048576) := by show ¬ _; omega
  have rg4 : RNx (fun x => x = o ∨ (o + 20 ≤ x ∧ x ≤ o + 24)) (327701 % 1048576) := by show ¬ _; omega
  have rg5 : RNx (fun x => x = o ∨ (o + 20 ≤ x ∧ x ≤ o + 24)) (327702 % 1048576) := by show ¬ _; omega
  have rg6 : RNx (fun x => x = o ∨ (o + 20 ≤ x ∧ x ≤ o + 24)) (327703 % 1048576) := by show ¬ _; omega
  have rg7 : RNx (fun x => x = o ∨ (o + 20 ≤ x ∧ x ≤ o + 24)) (327704 % 1048576) := by show ¬ _; omega
  have rg8 : RNx (fun x => x = o ∨ (o + 20 ≤ x ∧ x ≤ o + 24)) (327705 % 1048576) := by show ¬ _; omega
  have rg9 : RM (fun x => (o + 20) ≤ x ∧ x ≤ (o + 20) + 4) (fun x => x = o ∨ (o + 20 ≤ x ∧ x ≤ o + 24)) := fun x hx => by (try dsimp only at hx ⊢); omega
  have rg10 : RNx (fun x => (o + 20) ≤ x ∧ x ≤ (o + 20) + 4) (o % 1048576) := by show ¬ _; omega
  have rg11 : RNx (fun x => (o + 20) ≤ x ∧ x ≤ (o + 20) + 4) ((o + 1) % 1048576) := by show ¬ _; omega
  have rg12 : RNx (fun x => (o + 20) ≤ x ∧ x ≤ (o + 20) + 4) ((o + 5) % 1048576) := by show ¬ _; omega
  have rg13 : RNx (fun x => (o + 20) ≤ x ∧ x ≤ (o + 20) + 4) (327681 % 1048576) := by show ¬ _; omega
  have rg14 : RNx (fun x => (o + 20) ≤ x ∧ x ≤ (o + 20) + 4) (327701 % 1048576) := by show ¬ _; omega
  have rg15 : RNx (fun x => (o + 20) ≤ x ∧ x ≤ (o + 20) + 4) (327702 % 1048576) := by show ¬ _; omega
  have rg16 : RNx (fun x => (o + 20) ≤ x ∧ x ≤ (o + 20) + 4) (327703 % 1048576) := by show ¬ _; omega
  have rg17 : RNx (fun x => (o + 20) ≤ x ∧ x ≤ (o + 20) + 4) (327704 % 1048576) := by show ¬ _; omega
  have rg18 : RNx (fun x => (o + 20) ≤ x ∧ x ≤ (o + 20) + 4) (327705 % 1048576) := by show ¬ _; omega
  refine s_alvl o (k := 0) rfl (fun alo => ?_)
  refine s_lk (fun hlk => ?_)
  have hmn := hlk.mna hC ho alo
  obtain ⟨kM, kM1, kM2, kM3, kM4, kM5, kM6, kM7, kM8, kM13, kM15, kM20, kMp, kMp5, kMp6, kMp7, kMp8, kMp9, kMp10, kMp13, kMp14, kMp16⟩ := id hmn
  have hin : 0 ≤ gS G o 9 ∧ gS G o 9 ≤ 24 := hC.1.v (c := 300) (j := 9) (by rcases ho with rfl | rfl <;> decide) alo (by rw [kM]; exact Nat.le_of_ble_eq_true rfl)
  have hln := lenV.nn (G := G) (o := o + 20)
  have hE6 := hC.2.2.2.2.2.2.1
  obtain ⟨hwt, ⟨hwa, hwb, hwc⟩, hx1, hx2, hx3⟩ := hE6.wt (e := e) he.1 he.2 (by omega)
  clear hE6
  have hO : ∀ j, j ≠ 10 → gS G o j = gS G o j := fun _ _ => rfl
  have hP81 : gS G 327681 = gS G 327681 := rfl
  have hP01 : gS G 327701 = gS G 327701 := rfl
  have hP02 : gS G 327702 = gS G 327702 := rfl
  have hP03 : gS G 327703 = gS G 327703 := rfl
  have hP04 : gS G 327704 = gS G 327704 := rfl
  have hP05 : gS G 327705 = gS G 327705 := rfl
  refine s_aload_n dX3_evaluateBoth_0 rfl (Int.natCast_nonneg _) ?_
  refine s_aload_n dX3_evaluateBoth_1 rfl (Int.natCast_nonneg _) ?_
  have hv1 : gS G o 0 = ((327681 : Nat) : Int) := by have h9 : (gS G o 0) = 327681 := hC.1.v (j := 0) (by rw [cde_m (by omega) (by omega)]; omega : cde o = 300) (kne kM (by decide)) (by rw [kM]; exact Nat.le_of_ble_eq_true rfl); omega
  refine s_getf (ci := 4) (k := 0) (C := RX3) (T := TX3) (N := 18) (n := o) (L := 0) (t := 2) dX3_evaluateBoth_2 rfl wi_71 m_621 (Nat.le_of_ble_eq_true rfl) rfl rfl kM hv1 ?_
  have hv2 : gS G 327681 6 = ((327702 : Nat) : Int) := by have h9 : (gS G 327681 6) = 327702 := hC.1.v (j := 6) (by decide : cde 327681 = 501) (kne kMp (by decide)) (by rw [kMp]; exact Nat.le_of_ble_eq_true rfl); omega
  refine s_getf (ci := 6) (k := 6) (C := RX5) (T := TX5) (N := 18) (n := 327681) (L := 0) (t := 2) dX3_evaluateBoth_5 rfl wi_73 m_611 (Nat.le_of_ble_eq_true rfl) rfl rfl kMp hv2 ?_
  refine s_iload_n dX3_evaluateBoth_8 rfl ?_
  refine s_iald dX3_evaluateBoth_9 kMp6 (by omega) (by omega) rfl ?_
  refine s_iload_n dX3_evaluateBoth_10 rfl ?_
  refine s_iload_n dX3_evaluateBoth_11 rfl ?_
  refine s_iconst dX3_evaluateBoth_12 (by decide) ?_
  refine s_iadd dX3_evaluateBoth_13 (by omega) ?_
  refine s_callV (as := [(0, gS G 327702 ((e : Int).toNat)), (0, c), (0, d + 1)]) (rest := []) (n := o) (ci := 4) ih dX3_evaluateBoth_14 m_1369 m_941 m_1669 m_717 m_289 ⟨by decide, by decide, show (parseMethodDescriptor yX3_evaluate.desc).map (fun d => d.parameters.length) = some 3 from by decide +kernel⟩ (Nat.le_of_ble_eq_true rfl) (by rw [hcf]; omega) kM rfl rfl (Nat.le_of_ble_eq_true rfl) ⟨o, gS G 327702 ((e : Int).toNat), c, d + 1, f, a, b, rfl, hC, hab, (by assumption), (by omega), (by exact hMC), (by omega), (by omega), (by exact hAQ), (by omega), (by omega), fun rr4 G3 hCG3 hXG3 hfG3 hpG3 => ?_⟩
  have hFG3 : WX (fun x => x = o ∨ (o + 20 ≤ x ∧ x ≤ o + 24)) G G3 := WX.trans WX.rf KX.rf (WX.mono hfG3 rg0)
  have hOG3 : ∀ j, j ≠ 10 → gS G3 o j = gS G o j := fun j hj => (hpG3.2.2.2.1 j hj).trans (hO j hj)
  have hMCG3 : MC G3 o f := hMC.cg (hpG3.2.2.2.1 9 (by decide)) (hfG3 (o + 1) (KX.al KX.rf (kne kM1 (by decide))) rg1) (hfG3 (o + 5) (KX.al KX.rf (kne kM5 (by decide))) rg2)
  have hAQG3 : AQC G3 o f := hpG3.2.2.2.2
  have hP81G3 : gS G3 327681 = gS G 327681 := (hfG3 327681 (KX.al KX.rf (kne kMp (by decide))) rg3).trans hP81
  have hP01G3 : gS G3 327701 = gS G 327701 := (hfG3 327701 (KX.al KX.rf (kne kMp5 (by decide))) rg4).trans hP01
  have hP02G3 : gS G3 327702 = gS G 327702 := (hfG3 327702 (KX.al KX.rf (kne kMp6 (by decide))) rg5).trans hP02
  have hP03G3 : gS G3 327703 = gS G 327703 := (hfG3 327703 (KX.al KX.rf (kne kMp7 (by decide))) rg6).trans hP03
  have hP04G3 : gS G3 327704 = gS G 327704 := (hfG3 327704 (KX.al KX.rf (kne kMp8 (by decide))) rg7).trans hP04
  have hP05G3 : gS G3 327705 = gS G 327705 := (hfG3 327705 (KX.al KX.rf (kne kMp9 (by decide))) rg8).trans hP05
  show WP kX3_evaluateBoth X 17 [some (2, ((o : Nat) : Int)), some (0, e), some (0, c), some (0, d), none, none] [(0, rr4)] G3
  have h9_G3 := hOG3 9 (by decide)
  have hpnG3 : gS G3 327681 12 = gS G 327681 12 := by rw [hP81G3]
  have hqkG3 : gS G3 327701 e.toNat = gS G 327701 e.toNat := by rw [hP01G3]
  have hq2G3 : gS G3 327702 e.toNat = gS G 327702 e.toNat := by rw [hP02G3]
  have hv2G3 : wE G3 (gS G3 327702 e.toNat) = wE G (gS G 327702 e.toNat) := by rw [hP02G3]; exact wE.cg hP05G3 _
  have hq3G3 : gS G3 327703 e.toNat = gS G 327703 e.toNat := by rw [hP03G3]
  have hv3G3 : wE G3 (gS G3 327703 e.toNat) = wE G (gS G 327703 e.toNat) := by rw [hP03G3]; exact wE.cg hP05G3 _
  have hq4G3 : gS G3 327704 e.toNat = gS G 327704 e.toNat := by rw [hP04G3]
  have hv4G3 : wE G3 (gS G3 327704 e.toNat) = wE G (gS G 327704 e.toNat) := by rw [hP04G3]; exact wE.cg hP05G3 _
  refine s_istore dX3_evaluateBoth_17 (by decide) (lv' := [some (2, ((o : Nat) : Int)), some (0, e), some (0, c), some (0, d), some (0, rr4), none]) rfl ?_
  refine s_iload dX3_evaluateBoth_19 rfl ?_
  refine s_if_ge (tgt := 29) dX3_evaluateBoth_21 (by decide) (fun c5 => ?_) (fun c5 => ?_)
  · -- 21 to 29
    refine s_aload_n dX3_evaluateBoth_29 rfl (Int.natCast_nonneg _) ?_
    refine s_aload_n dX3_evaluateBoth_30 rfl (Int.natCast_nonneg _) ?_
    have hk6 : gK G3 (o) = (12, 0) := ((hXG3).k kM (by decide))
    refine s_alv (o) (by simp) (fun (al7 : AL G3 o) => ?_)
    have hv8 : gS G3 o 0 = ((327681 : Nat) : Int) := by have h9 : (gS G3 o 0) = 327681 := hCG3.1.v (j := 0) (by rw [cde_m (by omega) (by omega)]; omega : cde o = 300) al7 (by rw [hk6]; exact Nat.le_of_ble_eq_true rfl); omega
    refine s_getf (ci := 4) (k := 0) (C := RX3) (T := TX3) (N := 18) (n := o) (L := 0) (t := 2) dX3_evaluateBoth_31 rfl wi_71 m_621 (Nat.le_of_ble_eq_true rfl) rfl rfl hk6 hv8 ?_
    have hk9 : gK G3 (327681) = (14, 0) := ((hXG3).k kMp (by decide))
    refine s_alv (327681) (by simp) (fun (al10 : AL G3 327681) => ?_)
    have hv11 : gS G3 327681 7 = ((327703 : Nat) : Int) := by have h9 : (gS G3 327681 7) = 327703 := hCG3.1.v (j := 7) (by decide : cde 327681 = 501) al10 (by rw [hk9]; exact Nat.le_of_ble_eq_true rfl); omega
    refine s_getf (ci := 6) (k := 7) (C := RX5) (T := TX5) (N := 18) (n := 327681) (L := 0) (t := 2) dX3_evaluateBoth_34 rfl wi_73 m_613 (Nat.le_of_ble_eq_true rfl) rfl rfl hk9 hv11 ?_
    refine s_iload_n dX3_evaluateBoth_37 rfl ?_
    have hk12 : gK G3 (327703) = (1, 120) := ((hXG3).k kMp7 (by decide))
    refine s_alv (327703) (by simp) (fun (al13 : AL G3 327703) => ?_)
    have hv14 : -1 ≤ (gS G3 327703 (e : Int).toNat) ∧ (gS G3 327703 (e : Int).toNat) ≤ 119 := hCG3.1.v (j := (e : Int).toNat) (by decide : cde 327703 = 523) al13 (by rw [hk12]; show (e : Int).toNat < 120; omega)
    refine s_iald dX3_evaluateBoth_38 hk12 (by omega) (by omega) rfl ?_
    refine s_iload_n dX3_evaluateBoth_39 rfl ?_
    refine s_iload_n dX3_evaluateBoth_40 rfl ?_
    refine s_iconst dX3_evaluateBoth_41 (by decide) ?_
    refine s_iadd dX3_evaluateBoth_42 (by omega) ?_
    refine s_callV (as := [(0, gS G3 327703 ((e : Int).toNat)), (0, c), (0, d + 1)]) (rest := []) (n := o) (ci := 4) ih dX3_evaluateBoth_43 m_1369 m_941 m_1669 m_717 m_289 ⟨by decide, by decide, show (parseMethodDescriptor yX3_evaluate.desc).map (fun d => d.parameters.length) = some 3 from by decide +kernel⟩ (Nat.le_of_ble_eq_true rfl) (by rw [hcf]; omega) hk6 rfl rfl (Nat.le_of_ble_eq_true rfl) ⟨o, gS G3 327703 ((e : Int).toNat), c, d + 1, f, a, b, rfl, hCG3, hab, (by assumption), (by omega), (by exact hMCG3), (by omega), (by omega), (by exact hAQG3), (by omega), (by omega), fun rr16 G15 hCG15 hXG15 hfG15 hpG15 => ?_⟩
    have hFG15 : WX (fun x => x = o ∨ (o + 20 ≤ x ∧ x ≤ o + 24)) G G15 := WX.trans hFG3 hXG3 (WX.mono hfG15 rg0)
    have hOG15 : ∀ j, j ≠ 10 → gS G15 o j = gS G o j := fun j hj => (hpG15.2.2.2.1 j hj).trans (hOG3 j hj)
    have hMCG15 : MC G15 o f := hMCG3.cg (hpG15.2.2.2.1 9 (by decide)) (hfG15 (o + 1) (KX.al hXG3 (kne kM1 (by decide))) rg1) (hfG15 (o + 5) (KX.al hXG3 (kne kM5 (by decide))) rg2)
    have hAQG15 : AQC G15 o f := hpG15.2.2.2.2
    have hP81G15 : gS G15 327681 = gS G 327681 := (hfG15 327681 (KX.al hXG3 (kne kMp (by decide))) rg3).trans hP81G3
    have hP01G15 : gS G15 327701 = gS G 327701 := (hfG15 327701 (KX.al hXG3 (kne kMp5 (by decide))) rg4).trans hP01G3
    have hP02G15 : gS G15 327702 = gS G 327702 := (hfG15 327702 (KX.al hXG3 (kne kMp6 (by decide))) rg5).trans hP02G3
    have hP03G15 : gS G15 327703 = gS G 327703 := (hfG15 327703 (KX.al hXG3 (kne kMp7 (by decide))) rg6).trans hP03G3
    have hP04G15 : gS G15 327704 = gS G 327704 := (hfG15 327704 (KX.al hXG3 (kne kMp8 (by decide))) rg7).trans hP04G3
    have hP05G15 : gS G15 327705 = gS G 327705 := (hfG15 327705 (KX.al hXG3 (kne kMp9 (by decide))) rg8).trans hP05G3
    show WP kX3_evaluateBoth X 46 [some (2, ((o : Nat) : Int)), some (0, e), some (0, c), some (0, d), some (0, rr4), none] [(0, rr16)] G15
    have h9_G15 := hOG15 9 (by decide)
    have hpnG15 : gS G15 327681 12 = gS G 327681 12 := by rw [hP81G15]
    have hqkG15 : gS G15 327701 e.toNat = gS G 327701 e.toNat := by rw [hP01G15]
    have hq2G15 : gS G15 327702 e.toNat = gS G 327702 e.toNat := by rw [hP02G15]
    have hv2G15 : wE G15 (gS G15 327702 e.toNat) = wE G (gS G 327702 e.toNat) := by rw [hP02G15]; exact wE.cg hP05G15 _
    have hq3G15 : gS G15 327703 e.toNat = gS G 327703 e.toNat := by rw [hP03G15]
    have hv3G15 : wE G15 (gS G15 327703 e.toNat) = wE G (gS G 327703 e.toNat) := by rw [hP03G15]; exact wE.cg hP05G15 _
    have hq4G15 : gS G15 327704 e.toNat = gS G 327704 e.toNat := by rw [hP04G15]
    have hv4G15 : wE G15 (gS G15 327704 e.toNat) = wE G (gS G 327704 e.toNat) := by rw [hP04G15]; exact wE.cg hP05G15 _
    refine s_istore dX3_evaluateBoth_46 (by decide) (lv' := [some (2, ((o : Nat) : Int)), some (0, e), some (0, c), some (0, d), some (0, rr4), some (0, rr16)]) rfl ?_
    refine s_iload dX3_evaluateBoth_48 rfl ?_
    refine s_if_ge (tgt := 56) dX3_evaluateBoth_50 (by decide) (fun c17 => ?_) (fun c17 => ?_)
    · -- 50 to 56
      refine s_aload_n dX3_evaluateBoth_56 rfl (Int.natCast_nonneg _) ?_
      have hk18 : gK G15 (o) = (12, 0) := ((hXG15).k hk6 (by decide))
      refine s_alv (o) (by simp) (fun (al19 : AL G15 o) => ?_)
      have hv20 : gS G15 o 0 = ((327681 : Nat) : Int) := by have h9 : (gS G15 o 0) = 327681 := hCG15.1.v (j := 0) (by rw [cde_m (by omega) (by omega)]; omega : cde o = 300) al19 (by rw [hk18]; exact Nat.le_of_ble_eq_true rfl); omega
      refine s_getf (ci := 4) (k := 0) (C := RX3) (T := TX3) (N := 18) (n := o) (L := 0) (t := 2) dX3_evaluateBoth_57 rfl wi_71 m_621 (Nat.le_of_ble_eq_true rfl) rfl rfl hk18 hv20 ?_
      have hk21 : gK G15 (327681) = (14, 0) := ((hXG15).k hk9 (by decide))
      refine s_alv (327681) (by simp) (fun (al22 : AL G15 327681) => ?_)
      have hv23 : gS G15 327681 5 = ((327701 : Nat) : Int) := by have h9 : (gS G15 327681 5) = 327701 := hCG15.1.v (j := 5) (by decide : cde 327681 = 501) al22 (by rw [hk21]; exact Nat.le_of_ble_eq_true rfl); omega
      refine s_getf (ci := 6) (k := 5) (C := RX5) (T := TX5) (N := 18) (n := 327681) (L := 0) (t := 2) dX3_evaluateBoth_60 rfl wi_73 m_610 (Nat.le_of_ble_eq_true rfl) rfl rfl hk21 hv23 ?_
      refine s_iload_n dX3_evaluateBoth_63 rfl ?_
      have hk24 : gK G15 (327701) = (1, 120) := ((hXG15).k ((hXG3).k kMp5 (by decide)) (by decide))
      refine s_alv (327701) (by simp) (fun (al25 : AL G15 327701) => ?_)
      have hv26 : 0 ≤ (gS G15 327701 (e : Int).toNat) ∧ (gS G15 327701 (e : Int).toNat) ≤ 6 := hCG15.1.v (j := (e : Int).toNat) (by decide : cde 327701 = 521) al25 (by rw [hk24]; show (e : Int).toNat < 120; omega)
      refine s_iald dX3_evaluateBoth_64 hk24 (by omega) (by omega) rfl ?_
      refine s_iconst dX3_evaluateBoth_65 (by decide) ?_
      refine s_icmp_ne (tgt := 81) dX3_evaluateBoth_66 (by decide) (fun c27 => ?_) (fun c27 => ?_)
      · -- 66 to 81
        refine s_aload_n dX3_evaluateBoth_81 rfl (Int.natCast_nonneg _) ?_
        have hv28 : gS G15 o 12 = ((o + 20 : Nat) : Int) := by have h9 : (gS G15 o 12) = (((o % 1048576) + 20 : Nat) : Int) := hCG15.1.v (j := 12) (by rw [cde_m (by omega) (by omega)]; omega : cde o = 300) al19 (by rw [hk18]; exact Nat.le_of_ble_eq_true rfl); omega
        refine s_getf (ci := 4) (k := 12) (C := RX3) (T := TX3) (N := 18) (n := o) (L := 0) (t := 2) dX3_evaluateBoth_82 rfl wi_71 m_618 (Nat.le_of_ble_eq_true rfl) rfl rfl hk18 hv28 ?_
        refine s_iload dX3_evaluateBoth_85 rfl ?_
        have hk31 : gK G15 (o + 20) = (18, 0) := ((hXG15).k ((hXG3).k kM20 (by decide)) (by decide))
        refine s_callV (as := [(0, rr4)]) (rest := []) (n := o + 20) (ci := 10) gX9_isPair dX3_evaluateBoth_87 m_1355 m_1017 m_1738 m_723 m_365 ⟨by decide, by decide, show (parseMethodDescriptor yX9_isPair.desc).map (fun d => d.parameters.length) = some 1 from by decide +kernel⟩ (Nat.le_of_ble_eq_true rfl) (by rw [hcf]; omega) hk31 rfl rfl (Nat.le_of_ble_eq_true rfl) ⟨o + 20, rr4, a, b, rfl, hCG15, hab, (by omega), (by omega), fun rr29 hp30 => ?_⟩
        show WP kX3_evaluateBoth X 90 [some (2, ((o : Nat) : Int)), some (0, e), some (0, c), some (0, d), some (0, rr4), some (0, rr16)] [(0, rr29)] G15
        refine s_if_ne (tgt := 105) dX3_evaluateBoth_90 (by decide) (fun c32 => ?_) (fun c32 => ?_)
        · -- 90 to 105
          refine s_bipush dX3_evaluateBoth_105 rfl (by decide) ?_
          refine s_goto (tgt := 137) dX3_evaluateBoth_107 (by decide) ?_
          have hcvG15 := hCG15.cntV (o := o + 20) (by omega) (KX.al (KX.trans hXG3 hXG15) (kne kM20 (by decide)))
          exact s_iret hR dX3_evaluateBoth_137 rfl (hQ ((-3)) G15 hCG15 (KX.trans hXG3 hXG15) hFG15 ⟨by omega, by omega, by omega, hOG15, hAQG15⟩)
        · -- 90 to 93
          refine s_aload_n dX3_evaluateBoth_93 rfl (Int.natCast_nonneg _) ?_
          have hv33 : gS G15 o 12 = ((o + 20 : Nat) : Int) := by have h9 : (gS G15 o 12) = (((o % 1048576) + 20 : Nat) : Int) := hCG15.1.v (j := 12) (by rw [cde_m (by omega) (by omega)]; omega : cde o = 300) al19 (by rw [hk18]; exact Nat.le_of_ble_eq_true rfl); omega
          refine s_getf (ci := 4) (k := 12) (C := RX3) (T := TX3) (N := 18) (n := o) (L := 0) (t := 2) dX3_evaluateBoth_94 rfl wi_71 m_618 (Nat.le_of_ble_eq_true rfl) rfl rfl hk18 hv33 ?_
          refine s_iload dX3_evaluateBoth_97 rfl ?_
          refine s_callV (as := [(0, rr16)]) (rest := []) (n := o + 20) (ci := 10) gX9_isPair dX3_evaluateBoth_99 m_1355 m_1017 m_1738 m_723 m_365 ⟨by decide, by decide, show (parseMethodDescriptor yX9_isPair.desc).map (fun d => d.parameters.length) = some 1 from by decide +kernel⟩ (Nat.le_of_ble_eq_true rfl) (by rw [hcf]; omega) hk31 rfl rfl (Nat.le_of_ble_eq_true rfl) ⟨o + 20, rr16, a, b, rfl, hCG15, hab, (by omega), (by omega), fun rr34 hp35 => ?_⟩
          show WP kX3_evaluateBoth X 102 [some (2, ((o : Nat) : Int)), some (0, e), some (0, c), some (0, d), some (0, rr4), some (0, rr16)] [(0, rr34)] G15
          refine s_if_eq (tgt := 110) dX3_evaluateBoth_102 (by decide) (fun c36 => ?_) (fun c36 => ?_)
          · -- 102 to 110
            refine s_aload_n dX3_evaluateBoth_110 rfl (Int.natCast_nonneg _) ?_
            have hv37 : gS G15 o 12 = ((o + 20 : Nat) : Int) := by have h9 : (gS G15 o 12) = (((o % 1048576) + 20 : Nat) : Int) := hCG15.1.v (j := 12) (by rw [cde_m (by omega) (by omega)]; omega : cde o = 300) al19 (by rw [hk18]; exact Nat.le_of_ble_eq_true rfl); omega
            refine s_getf (ci := 4) (k := 12) (C := RX3) (T := TX3) (N := 18) (n := o) (L := 0) (t := 2) dX3_evaluateBoth_111 rfl wi_71 m_618 (Nat.le_of_ble_eq_true rfl) rfl rfl hk18 hv37 ?_
            refine s_aload_n dX3_evaluateBoth_114 rfl (Int.natCast_nonneg _) ?_
            have hv38 : gS G15 o 12 = ((o + 20 : Nat) : Int) := by have h9 : (gS G15 o 12) = (((o % 1048576) + 20 : Nat) : Int) := hCG15.1.v (j := 12) (by rw [cde_m (by omega) (by omega)]; omega : cde o = 300) al19 (by rw [hk18]; exact Nat.le_of_ble_eq_true rfl); omega
            refine s_getf (ci := 4) (k := 12) (C := RX3) (T := TX3) (N := 18) (n := o) (L := 0) (t := 2) dX3_evaluateBoth_115 rfl wi_71 m_618 (Nat.le_of_ble_eq_true rfl) rfl rfl hk18 hv38 ?_
            refine s_iload dX3_evaluateBoth_118 rfl ?_
            refine s_callV (as := [(0, rr4)]) (rest := [(2, ((o + 20 : Nat) : Int))]) (n := o + 20) (ci := 10) gX9_firstOf dX3_evaluateBoth_120 m_1356 m_1015 m_1737 m_723 m_363 ⟨by decide, by decide, show (parseMethodDescriptor yX9_firstOf.desc).map (fun d => d.parameters.length) = some 1 from by decide +kernel⟩ (Nat.le_of_ble_eq_true rfl) (by rw [hcf]; omega) hk31 rfl rfl (Nat.le_of_ble_eq_true rfl) ⟨o + 20, rr4, a, b, rfl, hCG15, hab, (by omega), (by omega), fun rr39 hp40 => ?_⟩
            show WP kX3_evaluateBoth X 123 [some (2, ((o : Nat) : Int)), some (0, e), some (0, c), some (0, d), some (0, rr4), some (0, rr16)] [(0, rr39), (2, ((o + 20 : Nat) : Int))] G15
            refine s_aload_n dX3_evaluateBoth_123 rfl (Int.natCast_nonneg _) ?_
            have hv41 : gS G15 o 12 = ((o + 20 : Nat) : Int) := by have h9 : (gS G15 o 12) = (((o % 1048576) + 20 : Nat) : Int) := hCG15.1.v (j := 12) (by rw [cde_m (by omega) (by omega)]; omega : cde o = 300) al19 (by rw [hk18]; exact Nat.le_of_ble_eq_true rfl); omega
            refine s_getf (ci := 4) (k := 12) (C := RX3) (T := TX3) (N := 18) (n := o) (L := 0) (t := 2) dX3_evaluateBoth_124 rfl wi_71 m_618 (Nat.le_of_ble_eq_true rfl) rfl rfl hk18 hv41 ?_
            refine s_iload dX3_evaluateBoth_127 rfl ?_
            refine s_callV (as := [(0, rr16)]) (rest := [(0, rr39), (2, ((o + 20 : Nat) : Int))]) (n := o + 20) (ci := 10) gX9_firstOf dX3_evaluateBoth_129 m_1356 m_1015 m_1737 m_723 m_363 ⟨by decide, by decide, show (parseMethodDescriptor yX9_firstOf.desc).map (fun d => d.parameters.length) = some 1 from by decide +kernel⟩ (Nat.le_of_ble_eq_true rfl) (by rw [hcf]; omega) hk31 rfl rfl (Nat.le_of_ble_eq_true rfl) ⟨o + 20, rr16, a, b, rfl, hCG15, hab, (by omega), (by omega), fun rr42 hp43 => ?_⟩
            show WP kX3_evaluateBoth X 132 [some (2, ((o : Nat) : Int)), some (0, e), some (0, c), some (0, d), some (0, rr4), some (0, rr16)] [(0, rr42), (0, rr39), (2, ((o + 20 : Nat) : Int))] G15
            refine s_iaddW dX3_evaluateBoth_132 (fun w44 hrw44 hew44 => ?_)
            refine s_iconst dX3_evaluateBoth_133 (by decide) ?_
            refine s_callV (as := [(0, w44), (0, (-1))]) (rest := []) (n := o + 20) (ci := 10) gX9_add dX3_evaluateBoth_134 m_1372 m_1012 m_1734 m_723 m_360 ⟨by decide, by decide, show (parseMethodDescriptor yX9_add.desc).map (fun d => d.parameters.length) = some 2 from by decide +kernel⟩ (Nat.le_of_ble_eq_true rfl) (by rw [hcf]; omega) hk31 rfl rfl (Nat.le_of_ble_eq_true rfl) ⟨o + 20, w44, (-1), a, b, rfl, hCG15, hab, (by omega), (by omega), (by omega), fun rr46 G45 hCG45 hXG45 hfG45 hpG45 => ?_⟩
            have hFG45 : WX (fun x => x = o ∨ (o + 20 ≤ x ∧ x ≤ o + 24)) G G45 := WX.trans hFG15 (KX.trans hXG3 hXG15) (WX.mono hfG45 rg9)
            have hOG45 : ∀ j, j ≠ 10 → gS G45 o j = gS G o j := fun j hj => (congrFun (hfG45 o (KX.al (KX.trans hXG3 hXG15) (kne kM (by decide))) rg10) j).trans (hOG15 j hj)
            have hMCG45 : MC G45 o f := hMCG15.cg (congrFun (hfG45 (o) (KX.al (KX.trans hXG3 hXG15) (kne kM (by decide))) rg10) 9) (hfG45 (o + 1) (KX.al (KX.trans hXG3 hXG15) (kne kM1 (by decide))) rg11) (hfG45 (o + 5) (KX.al (KX.trans hXG3 hXG15) (kne kM5 (by decide))) rg12)
            have hAQG45 : AQC G45 o f := hAQG15.cg (congrFun (hfG45 (o) (KX.al (KX.trans hXG3 hXG15) (kne kM (by decide))) rg10) 9) (congrFun (hfG45 (o) (KX.al (KX.trans hXG3 hXG15) (kne kM (by decide))) rg10) 10) (hfG45 (o + 1) (KX.al (KX.trans hXG3 hXG15) (kne kM1 (by decide))) rg11)
            have hP81G45 : gS G45 327681 = gS G 327681 := (hfG45 327681 (KX.al (KX.trans hXG3 hXG15) (kne kMp (by decide))) rg13).trans hP81G15
            have hP01G45 : gS G45 327701 = gS G 327701 := (hfG45 327701 (KX.al (KX.trans hXG3 hXG15) (kne kMp5 (by decide))) rg14).trans hP01G15
            have hP02G45 : gS G45 327702 = gS G 327702 := (hfG45 327702 (KX.al (KX.trans hXG3 hXG15) (kne kMp6 (by decide))) rg15).trans hP02G15
            have hP03G45 : gS G45 327703 = gS G 327703 := (hfG45 327703 (KX.al (KX.trans hXG3 hXG15) (kne kMp7 (by decide))) rg16).trans hP03G15
            have hP04G45 : gS G45 327704 = gS G 327704 := (hfG45 327704 (KX.al (KX.trans hXG3 hXG15) (kne kMp8 (by decide))) rg17).trans hP04G15
            have hP05G45 : gS G45 327705 = gS G 327705 := (hfG45 327705 (KX.al (KX.trans hXG3 hXG15) (kne kMp9 (by decide))) rg18).trans hP05G15
            show WP kX3_evaluateBoth X 137 [some (2, ((o : Nat) : Int)), some (0, e), some (0, c), some (0, d), some (0, rr4), some (0, rr16)] [(0, rr46)] G45
            have hcvG45 := hCG45.cntV (o := o + 20) (by omega) (KX.al (KX.trans (KX.trans hXG3 hXG15) hXG45) (kne kM20 (by decide)))
            exact s_iret hR dX3_evaluateBoth_137 rfl (hQ rr46 G45 hCG45 (KX.trans (KX.trans hXG3 hXG15) hXG45) hFG45 ⟨by omega, by omega, by omega, hOG45, hAQG45⟩)
          · -- 102 to 105
            refine s_bipush dX3_evaluateBoth_105 rfl (by decide) ?_
            refine s_goto (tgt := 137) dX3_evaluateBoth_107 (by decide) ?_
            have hcvG15 := hCG15.cntV (o := o + 20) (by omega) (KX.al (KX.trans hXG3 hXG15) (kne kM20 (by decide)))
            exact s_iret hR dX3_evaluateBoth_137 rfl (hQ ((-3)) G15 hCG15 (KX.trans hXG3 hXG15) hFG15 ⟨by omega, by omega, by omega, hOG15, hAQG15⟩)
      · -- 66 to 69
        refine s_aload_n dX3_evaluateBoth_69 rfl (Int.natCast_nonneg _) ?_
        have hv47 : gS G15 o 12 = ((o + 20 : Nat) : Int) := by have h9 : (gS G15 o 12) = (((o % 1048576) + 20 : Nat) : Int) := hCG15.1.v (j := 12) (by rw [cde_m (by omega) (by omega)]; omega : cde o = 300) al19 (by rw [hk18]; exact Nat.le_of_ble_eq_true rfl); omega
        refine s_getf (ci := 4) (k := 12) (C := RX3) (T := TX3) (N := 18) (n := o) (L := 0) (t := 2) dX3_evaluateBoth_70 rfl wi_71 m_618 (Nat.le_of_ble_eq_true rfl) rfl rfl hk18 hv47 ?_
        refine s_iload dX3_evaluateBoth_73 rfl ?_
        refine s_iload dX3_evaluateBoth_75 rfl ?_
        have hk50 : gK G15 (o + 20) = (18, 0) := ((hXG15).k ((hXG3).k kM20 (by decide)) (by decide))
        refine s_callV (as := [(0, rr4), (0, rr16)]) (rest := []) (n := o + 20) (ci := 10) gX9_add dX3_evaluateBoth_77 m_1372 m_1012 m_1734 m_723 m_360 ⟨by decide, by decide, show (parseMethodDescriptor yX9_add.desc).map (fun d => d.parameters.length) = some 2 from by decide +kernel⟩ (Nat.le_of_ble_eq_true rfl) (by rw [hcf]; omega) hk50 rfl rfl (Nat.le_of_ble_eq_true rfl) ⟨o + 20, rr4, rr16, a, b, rfl, hCG15, hab, (by omega), (by omega), (by omega), fun rr49 G48 hCG48 hXG48 hfG48 hpG48 => ?_⟩
        have hFG48 : WX (fun x => x = o ∨ (o + 20 ≤ x ∧ x ≤ o + 24)) G G48 := WX.trans hFG15 (KX.trans hXG3 hXG15) (WX.mono hfG48 rg9)
        have hOG48 : ∀ j, j ≠ 10 → gS G48 o j = gS G o j := fun j hj => (congrFun (hfG48 o (KX.al (KX.trans hXG3 hXG15) (kne kM (by decide))) rg10) j).trans (hOG15 j hj)
        have hMCG48 : MC G48 o f := hMCG15.cg (congrFun (hfG48 (o) (KX.al (KX.trans hXG3 hXG15) (kne kM (by decide))) rg10) 9) (hfG48 (o + 1) (KX.al (KX.trans hXG3 hXG15) (kne kM1 (by decide))) rg11) (hfG48 (o + 5) (KX.al (KX.trans hXG3 hXG15) (kne kM5 (by decide))) rg12)
        have hAQG48 : AQC G48 o f := hAQG15.cg (congrFun (hfG48 (o) (KX.al (KX.trans hXG3 hXG15) (kne kM (by decide))) rg10) 9) (congrFun (hfG48 (o) (KX.al (KX.trans hXG3 hXG15) (kne kM (by decide))) rg10) 10) (hfG48 (o + 1) (KX.al (KX.trans hXG3 hXG15) (kne kM1 (by decide))) rg11)
        have hP81G48 : gS G48 327681 = gS G 327681 := (hfG48 327681 (KX.al (KX.trans hXG3 hXG15) (kne kMp (by decide))) rg13).trans hP81G15
        have hP01G48 : gS G48 327701 = gS G 327701 := (hfG48 327701 (KX.al (KX.trans hXG3 hXG15) (kne kMp5 (by decide))) rg14).trans hP01G15
        have hP02G48 : gS G48 327702 = gS G 327702 := (hfG48 327702 (KX.al (KX.trans hXG3 hXG15) (kne kMp6 (by decide))) rg15).trans hP02G15
        have hP03G48 : gS G48 327703 = gS G 327703 := (hfG48 327703 (KX.al (KX.trans hXG3 hXG15) (kne kMp7 (by decide))) rg16).trans hP03G15
        have hP04G48 : gS G48 327704 = gS G 327704 := (hfG48 327704 (KX.al (KX.trans hXG3 hXG15) (kne kMp8 (by decide))) rg17).trans hP04G15
        have hP05G48 : gS G48 327705 = gS G 327705 := (hfG48 327705 (KX.al (KX.trans hXG3 hXG15) (kne kMp9 (by decide))) rg18).trans hP05G15
        show WP kX3_evaluateBoth X 80 [some (2, ((o : Nat) : Int)), some (0, e), some (0, c), some (0, d), some (0, rr4), some (0, rr16)] [(0, rr49)] G48
        have hcvG48 := hCG48.cntV (o := o + 20) (by omega) (KX.al (KX.trans (KX.trans hXG3 hXG15) hXG48) (kne kM20 (by decide)))
        exact s_iret hR dX3_evaluateBoth_80 rfl (hQ rr49 G48 hCG48 (KX.trans (KX.trans hXG3 hXG15) hXG48) hFG48 ⟨by omega, by omega, by omega, hOG48, hAQG48⟩)
    · -- 50 to 53
      refine s_bipush dX3_evaluateBoth_53 rfl (by decide) ?_
      exact s_iret hR dX3_evaluateBoth_55 rfl (hQ ((-3)) G15 hCG15 (KX.trans hXG3 hXG15) hFG15 ⟨by omega, by omega, by omega, hOG15, hAQG15⟩)
  · -- 21 to 24
    refine s_bipush dX3_evaluateBoth_24 rfl (by decide) ?_
    refine s_goto (tgt := 46) dX3_evaluateBoth_26 (by decide) ?_
    have h9_G3 := hOG3 9 (by decide)
    have hpnG3 : gS G3 327681 12 = gS G 327681 12 := by rw [hP81G3]
    have hqkG3 : gS G3 327701 e.toNat = gS G 327701 e.toNat := by rw [hP01G3]
    have hq2G3 : gS G3 327702 e.toNat = gS G 327702 e.toNat := by rw [hP02G3]
    have hv2G3 : wE G3 (gS G3 327702 e.toNat) = wE G (gS G 327702 e.toNat) := by rw [hP02G3]; exact wE.cg hP05G3 _
    have hq3G3 : gS G3 327703 e.toNat = gS G 327703 e.toNat := by rw [hP03G3]
    have hv3G3 : wE G3 (gS G3 327703 e.toNat) = wE G (gS G 327703 e.toNat) := by rw [hP03G3]; exact wE.cg hP05G3 _
    have hq4G3 : gS G3 327704 e.toNat = gS G 327704 e.toNat := by rw [hP04G3]
    have hv4G3 : wE G3 (gS G3 327704 e.toNat) = wE G (gS G 327704 e.toNat) := by rw [hP04G3]; exact wE.cg hP05G3 _
    refine s_istore dX3_evaluateBoth_46 (by decide) (lv' := [some (2, ((o : Nat) : Int)), some (0, e), some (0, c), some (0, d), some (0, rr4), some (0, (-3))]) rfl ?_
    refine s_iload dX3_evaluateBoth_48 rfl ?_
    refine s_if_ge (tgt := 56) dX3_evaluateBoth_50 (by decide) (fun c51 => ?_) (fun c51 => ?_)
    · -- 50 to 56
      refine s_aload_n dX3_evaluateBoth_56 rfl (Int.natCast_nonneg _) ?_
      have hk52 : gK G3 (o) = (12, 0) := ((hXG3).k kM (by decide))
      refine s_alv (o) (by simp) (fun (al53 : AL G3 o) => ?_)
      have hv54 : gS G3 o 0 = ((327681 : Nat) : Int) := by have h9 : (gS G3 o 0) = 327681 := hCG3.1.v (j := 0) (by rw [cde_m (by omega) (by omega)]; omega : cde o = 300) al53 (by rw [hk52]; exact Nat.le_of_ble_eq_true rfl); omega
      refine s_getf (ci := 4) (k := 0) (C := RX3) (T := TX3) (N := 18) (n := o) (L := 0) (t := 2) dX3_evaluateBoth_57 rfl wi_71 m_621 (Nat.le_of_ble_eq_true rfl) rfl rfl hk52 hv54 ?_
      have hk55 : gK G3 (327681) = (14, 0) := ((hXG3).k kMp (by decide))
      refine s_alv (327681) (by simp) (fun (al56 : AL G3 327681) => ?_)
      have hv57 : gS G3 327681 5 = ((327701 : Nat) : Int) := by have h9 : (gS G3 327681 5) = 327701 := hCG3.1.v (j := 5) (by decide : cde 327681 = 501) al56 (by rw [hk55]; exact Nat.le_of_ble_eq_true rfl); omega
      refine s_getf (ci := 6) (k := 5) (C := RX5) (T := TX5) (N := 18) (n := 327681) (L := 0) (t := 2) dX3_evaluateBoth_60 rfl wi_73 m_610 (Nat.le_of_ble_eq_true rfl) rfl rfl hk55 hv57 ?_
      refine s_iload_n dX3_evaluateBoth_63 rfl ?_
      have hk58 : gK G3 (327701) = (1, 120) := ((hXG3).k kMp5 (by decide))
      refine s_alv (327701) (by simp) (fun (al59 : AL G3 327701) => ?_)
      have hv60 : 0 ≤ (gS G3 327701 (e : Int).toNat) ∧ (gS G3 327701 (e : Int).toNat) ≤ 6 := hCG3.1.v (j := (e : Int).toNat) (by decide : cde 327701 = 521) al59 (by rw [hk58]; show (e : Int).toNat < 120; omega)
      refine s_iald dX3_evaluateBoth_64 hk58 (by omega) (by omega) rfl ?_
      refine s_iconst dX3_evaluateBoth_65 (by decide) ?_
      refine s_icmp_ne (tgt := 81) dX3_evaluateBoth_66 (by decide) (fun c61 => ?_) (fun c61 => ?_)
      · -- 66 to 81
        refine s_aload_n dX3_evaluateBoth_81 rfl (Int.natCast_nonneg _) ?_
        have hv62 : gS G3 o 12 = ((o + 20 : Nat) : Int) := by have h9 : (gS G3 o 12) = (((o % 1048576) + 20 : Nat) : Int) := hCG3.1.v (j := 12) (by rw [cde_m (by omega) (by omega)]; omega : cde o = 300) al53 (by rw [hk52]; exact Nat.le_of_ble_eq_true rfl); omega
        refine s_getf (ci := 4) (k := 12) (C := RX3) (T := TX3) (N := 18) (n := o) (L := 0) (t := 2) dX3_evaluateBoth_82 rfl wi_71 m_618 (Nat.le_of_ble_eq_true rfl) rfl rfl hk52 hv62 ?_
        refine s_iload dX3_evaluateBoth_85 rfl ?_
        have hk65 : gK G3 (o + 20) = (18, 0) := ((hXG3).k kM20 (by decide))
        refine s_callV (as := [(0, rr4)]) (rest := []) (n := o + 20) (ci := 10) gX9_isPair dX3_evaluateBoth_87 m_1355 m_1017 m_1738 m_723 m_365 ⟨by decide, by decide, show (parseMethodDescriptor yX9_isPair.desc).map (fun d => d.parameters.length) = some 1 from by decide +kernel⟩ (Nat.le_of_ble_eq_true rfl) (by rw [hcf]; omega) hk65 rfl rfl (Nat.le_of_ble_eq_true rfl) ⟨o + 20, rr4, a, b, rfl, hCG3, hab, (by omega), (by omega), fun rr63 hp64 => ?_⟩
        show WP kX3_evaluateBoth X 90 [some (2, ((o : Nat) : Int)), some (0, e), some (0, c), some (0, d), some (0, rr4), some (0, (-3))] [(0, rr63)] G3
        refine s_if_ne (tgt := 105) dX3_evaluateBoth_90 (by decide) (fun c66 => ?_) (fun c66 => ?_)
        · -- 90 to 105
          refine s_bipush dX3_evaluateBoth_105 rfl (by decide) ?_
          refine s_goto (tgt := 137) dX3_evaluateBoth_107 (by decide) ?_
          have hcvG3 := hCG3.cntV (o := o + 20) (by omega) (KX.al hXG3 (kne kM20 (by decide)))
          exact s_iret hR dX3_evaluateBoth_137 rfl (hQ ((-3)) G3 hCG3 hXG3 hFG3 ⟨by omega, by omega, by omega, hOG3, hAQG3⟩)
        · -- 90 to 93
          refine s_aload_n dX3_evaluateBoth_93 rfl (Int.natCast_nonneg _) ?_
          have hv67 : gS G3 o 12 = ((o + 20 : Nat) : Int) := by have h9 : (gS G3 o 12) = (((o % 1048576) + 20 : Nat) : Int) := hCG3.1.v (j := 12) (by rw [cde_m (by omega) (by omega)]; omega : cde o = 300) al53 (by rw [hk52]; exact Nat.le_of_ble_eq_true rfl); omega
          refine s_getf (ci := 4) (k := 12) (C := RX3) (T := TX3) (N := 18) (n := o) (L := 0) (t := 2) dX3_evaluateBoth_94 rfl wi_71 m_618 (Nat.le_of_ble_eq_true rfl) rfl rfl hk52 hv67 ?_
          refine s_iload dX3_evaluateBoth_97 rfl ?_
          refine s_callV (as := [(0, (-3))]) (rest := []) (n := o + 20) (ci := 10) gX9_isPair dX3_evaluateBoth_99 m_1355 m_1017 m_1738 m_723 m_365 ⟨by decide, by decide, show (parseMethodDescriptor yX9_isPair.desc).map (fun d => d.parameters.length) = some 1 from by decide +kernel⟩ (Nat.le_of_ble_eq_true rfl) (by rw [hcf]; omega) hk65 rfl rfl (Nat.le_of_ble_eq_true rfl) ⟨o + 20, (-3), a, b, rfl, hCG3, hab, (by omega), (by omega), fun rr68 hp69 => ?_⟩
          show WP kX3_evaluateBoth X 102 [some (2, ((o : Nat) : Int)), some (0, e), some (0, c), some (0, d), some (0, rr4), some (0, (-3))] [(0, rr68)] G3
          refine s_if_eq (tgt := 110) dX3_evaluateBoth_102 (by decide) (fun c70 => ?_) (fun c70 => ?_)
          · -- 102 to 110
            refine s_aload_n dX3_evaluateBoth_110 rfl (Int.natCast_nonneg _) ?_
            have hv71 : gS G3 o 12 = ((o + 20 : Nat) : Int) := by have h9 : (gS G3 o 12) = (((o % 1048576) + 20 : Nat) : Int) := hCG3.1.v (j := 12) (by rw [cde_m (by omega) (by omega)]; omega : cde o = 300) al53 (by rw [hk52]; exact Nat.le_of_ble_eq_true rfl); omega
            refine s_getf (ci := 4) (k := 12) (C := RX3) (T := TX3) (N := 18) (n := o) (L := 0) (t := 2) dX3_evaluateBoth_111 rfl wi_71 m_618 (Nat.le_of_ble_eq_true rfl) rfl rfl hk52 hv71 ?_
            refine s_aload_n dX3_evaluateBoth_114 rfl (Int.natCast_nonneg _) ?_
            have hv72 : gS G3 o 12 = ((o + 20 : Nat) : Int) := by have h9 : (gS G3 o 12) = (((o % 1048576) + 20 : Nat) : Int) := hCG3.1.v (j := 12) (by rw [cde_m (by omega) (by omega)]; omega : cde o = 300) al53 (by rw [hk52]; exact Nat.le_of_ble_eq_true rfl); omega
            refine s_getf (ci := 4) (k := 12) (C := RX3) (T := TX3) (N := 18) (n := o) (L := 0) (t := 2) dX3_evaluateBoth_115 rfl wi_71 m_618 (Nat.le_of_ble_eq_true rfl) rfl rfl hk52 hv72 ?_
            refine s_iload dX3_evaluateBoth_118 rfl ?_
            refine s_callV (as := [(0, rr4)]) (rest := [(2, ((o + 20 : Nat) : Int))]) (n := o + 20) (ci := 10) gX9_firstOf dX3_evaluateBoth_120 m_1356 m_1015 m_1737 m_723 m_363 ⟨by decide, by decide, show (parseMethodDescriptor yX9_firstOf.desc).map (fun d => d.parameters.length) = some 1 from by decide +kernel⟩ (Nat.le_of_ble_eq_true rfl) (by rw [hcf]; omega) hk65 rfl rfl (Nat.le_of_ble_eq_true rfl) ⟨o + 20, rr4, a, b, rfl, hCG3, hab, (by omega), (by omega), fun rr73 hp74 => ?_⟩
            show WP kX3_evaluateBoth X 123 [some (2, ((o : Nat) : Int)), some (0, e), some (0, c), some (0, d), some (0, rr4), some (0, (-3))] [(0, rr73), (2, ((o + 20 : Nat) : Int))] G3
            refine s_aload_n dX3_evaluateBoth_123 rfl (Int.natCast_nonneg _) ?_
            have hv75 : gS G3 o 12 = ((o + 20 : Nat) : Int) := by have h9 : (gS G3 o 12) = (((o % 1048576) + 20 : Nat) : Int) := hCG3.1.v (j := 12) (by rw [cde_m (by omega) (by omega)]; omega : cde o = 300) al53 (by rw [hk52]; exact Nat.le_of_ble_eq_true rfl); omega
            refine s_getf (ci := 4) (k := 12) (C := RX3) (T := TX3) (N := 18) (n := o) (L := 0) (t := 2) dX3_evaluateBoth_124 rfl wi_71 m_618 (Nat.le_of_ble_eq_true rfl) rfl rfl hk52 hv75 ?_
            refine s_iload dX3_evaluateBoth_127 rfl ?_
            refine s_callV (as := [(0, (-3))]) (rest := [(0, rr73), (2, ((o + 20 : Nat) : Int))]) (n := o + 20) (ci := 10) gX9_firstOf dX3_evaluateBoth_129 m_1356 m_1015 m_1737 m_723 m_363 ⟨by decide, by decide, show (parseMethodDescriptor yX9_firstOf.desc).map (fun d => d.parameters.length) = some 1 from by decide +kernel⟩ (Nat.le_of_ble_eq_true rfl) (by rw [hcf]; omega) hk65 rfl rfl (Nat.le_of_ble_eq_true rfl) ⟨o + 20, (-3), a, b, rfl, hCG3, hab, (by omega), (by omega), fun rr76 hp77 => ?_⟩
            show WP kX3_evaluateBoth X 132 [some (2, ((o : Nat) : Int)), some (0, e), some (0, c), some (0, d), some (0, rr4), some (0, (-3))] [(0, rr76), (0, rr73), (2, ((o + 20 : Nat) : Int))] G3
            refine s_iaddW dX3_evaluateBoth_132 (fun w78 hrw78 hew78 => ?_)
            refine s_iconst dX3_evaluateBoth_133 (by decide) ?_
            refine s_callV (as := [(0, w78), (0, (-1))]) (rest := []) (n := o + 20) (ci := 10) gX9_add dX3_evaluateBoth_134 m_1372 m_1012 m_1734 m_723 m_360 ⟨by decide, by decide, show (parseMethodDescriptor yX9_add.desc).map (fun d => d.parameters.length) = some 2 from by decide +kernel⟩ (Nat.le_of_ble_eq_true rfl) (by rw [hcf]; omega) hk65 rfl rfl (Nat.le_of_ble_eq_true rfl) ⟨o + 20, w78, (-1), a, b, rfl, hCG3, hab, (by omega), (by omega), (by omega), fun rr80 G79 hCG79 hXG79 hfG79 hpG79 => ?_⟩
            have hFG79 : WX (fun x => x = o ∨ (o + 20 ≤ x ∧ x ≤ o + 24)) G G79 := WX.trans hFG3 hXG3 (WX.mono hfG79 rg9)
            have hOG79 : ∀ j, j ≠ 10 → gS G79 o j = gS G o j := fun j hj => (congrFun (hfG79 o (KX.al hXG3 (kne kM (by decide))) rg10) j).trans (hOG3 j hj)
            have hMCG79 : MC G79 o f := hMCG3.cg (congrFun (hfG79 (o) (KX.al hXG3 (kne kM (by decide))) rg10) 9) (hfG79 (o + 1) (KX.al hXG3 (kne kM1 (by decide))) rg11) (hfG79 (o + 5) (KX.al hXG3 (kne kM5 (by decide))) rg12)
            have hAQG79 : AQC G79 o f := hAQG3.cg (congrFun (hfG79 (o) (KX.al hXG3 (kne kM (by decide))) rg10) 9) (congrFun (hfG79 (o) (KX.al hXG3 (kne kM (by decide))) rg10) 10) (hfG79 (o + 1) (KX.al hXG3 (kne kM1 (by decide))) rg11)
            have hP81G79 : gS G79 327681 = gS G 327681 := (hfG79 327681 (KX.al hXG3 (kne kMp (by decide))) rg13).trans hP81G3
            have hP01G79 : gS G79 327701 = gS G 327701 := (hfG79 327701 (KX.al hXG3 (kne kMp5 (by decide))) rg14).trans hP01G3
            have hP02G79 : gS G79 327702 = gS G 327702 := (hfG79 327702 (KX.al hXG3 (kne kMp6 (by decide))) rg15).trans hP02G3
            have hP03G79 : gS G79 327703 = gS G 327703 := (hfG79 327703 (KX.al hXG3 (kne kMp7 (by decide))) rg16).trans hP03G3
            have hP04G79 : gS G79 327704 = gS G 327704 := (hfG79 327704 (KX.al hXG3 (kne kMp8 (by decide))) rg17).trans hP04G3
            have hP05G79 : gS G79 327705 = gS G 327705 := (hfG79 327705 (KX.al hXG3 (kne kMp9 (by decide))) rg18).trans hP05G3
            show WP kX3_evaluateBoth X 137 [some (2, ((o : Nat) : Int)), some (0, e), some (0, c), some (0, d), some (0, rr4), some (0, (-3))] [(0, rr80)] G79
            have hcvG79 := hCG79.cntV (o := o + 20) (by omega) (KX.al (KX.trans hXG3 hXG79) (kne kM20 (by decide)))
            exact s_iret hR dX3_evaluateBoth_137 rfl (hQ rr80 G79 hCG79 (KX.trans hXG3 hXG79) hFG79 ⟨by omega, by omega, by omega, hOG79, hAQG79⟩)
          · -- 102 to 105
            refine s_bipush dX3_evaluateBoth_105 rfl (by decide) ?_
            refine s_goto (tgt := 137) dX3_evaluateBoth_107 (by decide) ?_
            have hcvG3 := hCG3.cntV (o := o + 20) (by omega) (KX.al hXG3 (kne kM20 (by decide)))
            exact s_iret hR dX3_evaluateBoth_137 rfl (hQ ((-3)) G3 hCG3 hXG3 hFG3 ⟨by omega, by omega, by omega, hOG3, hAQG3⟩)
      · -- 66 to 69
        refine s_aload_n dX3_evaluateBoth_69 rfl (Int.natCast_nonneg _) ?_
        have hv81 : gS G3 o 12 = ((o + 20 : Nat) : Int) := by have h9 : (gS G3 o 12) = (((o % 1048576) + 20 : Nat) : Int) := hCG3.1.v (j := 12) (by rw [cde_m (by omega) (by omega)]; omega : cde o = 300) al53 (by rw [hk52]; exact Nat.le_of_ble_eq_true rfl); omega
        refine s_getf (ci := 4) (k := 12) (C := RX3) (T := TX3) (N := 18) (n := o) (L := 0) (t := 2) dX3_evaluateBoth_70 rfl wi_71 m_618 (Nat.le_of_ble_eq_true rfl) rfl rfl hk52 hv81 ?_
        refine s_iload dX3_evaluateBoth_73 rfl ?_
        refine s_iload dX3_evaluateBoth_75 rfl ?_
        have hk84 : gK G3 (o + 20) = (18, 0) := ((hXG3).k kM20 (by decide))
        refine s_callV (as := [(0, rr4), (0, (-3))]) (rest := []) (n := o + 20) (ci := 10) gX9_add dX3_evaluateBoth_77 m_1372 m_1012 m_1734 m_723 m_360 ⟨by decide, by decide, show (parseMethodDescriptor yX9_add.desc).map (fun d => d.parameters.length) = some 2 from by decide +kernel⟩ (Nat.le_of_ble_eq_true rfl) (by rw [hcf]; omega) hk84 rfl rfl (Nat.le_of_ble_eq_true rfl) ⟨o + 20, rr4, (-3), a, b, rfl, hCG3, hab, (by omega), (by omega), (by omega), fun rr83 G82 hCG82 hXG82 hfG82 hpG82 => ?_⟩
        have hFG82 : WX (fun x => x = o ∨ (o + 20 ≤ x ∧ x ≤ o + 24)) G G82 := WX.trans hFG3 hXG3 (WX.mono hfG82 rg9)
        have hOG82 : ∀ j, j ≠ 10 → gS G82 o j = gS G o j := fun j hj => (congrFun (hfG82 o (KX.al hXG3 (kne kM (by decide))) rg10) j).trans (hOG3 j hj)
        have hMCG82 : MC G82 o f := hMCG3.cg (congrFun (hfG82 (o) (KX.al hXG3 (kne kM (by decide))) rg10) 9) (hfG82 (o + 1) (KX.al hXG3 (kne kM1 (by decide))) rg11) (hfG82 (o + 5) (KX.al hXG3 (kne kM5 (by decide))) rg12)
        have hAQG82 : AQC G82 o f := hAQG3.cg (congrFun (hfG82 (o) (KX.al hXG3 (kne kM (by decide))) rg10) 9) (congrFun (hfG82 (o) (KX.al hXG3 (kne kM (by decide))) rg10) 10) (hfG82 (o + 1) (KX.al hXG3 (kne kM1 (by decide))) rg11)
        have hP81G82 : gS G82 327681 = gS G 327681 := (hfG82 327681 (KX.al hXG3 (kne kMp (by decide))) rg13).trans hP81G3
        have hP01G82 : gS G82 327701 = gS G 327701 := (hfG82 327701 (KX.al hXG3 (kne kMp5 (by decide))) rg14).trans hP01G3
        have hP02G82 : gS G82 327702 = gS G 327702 := (hfG82 327702 (KX.al hXG3 (kne kMp6 (by decide))) rg15).trans hP02G3
        have hP03G82 : gS G82 327703 = gS G 327703 := (hfG82 327703 (KX.al hXG3 (kne kMp7 (by decide))) rg16).trans hP03G3
        have hP04G82 : gS G82 327704 = gS G 327704 := (hfG82 327704 (KX.al hXG3 (kne kMp8 (by decide))) rg17).trans hP04G3
        have hP05G82 : gS G82 327705 = gS G 327705 := (hfG82 327705 (KX.al hXG3 (kne kMp9 (by decide))) rg18).trans hP05G3
        show WP kX3_evaluateBoth X 80 [some (2, ((o : Nat) : Int)), some (0, e), some (0, c), some (0, d), some (0, rr4), some (0, (-3))] [(0, rr83)] G82
        have hcvG82 := hCG82.cntV (o := o + 20) (by omega) (KX.al (KX.trans hXG3 hXG82) (kne kM20 (by decide)))
        exact s_iret hR dX3_evaluateBoth_80 rfl (hQ rr83 G82 hCG82 (KX.trans hXG3 hXG82) hFG82 ⟨by omega, by omega, by omega, hOG82, hAQG82⟩)
    · -- 50 to 53
      refine s_bipush dX3_evaluateBoth_53 rfl (by decide) ?_
      exact s_iret hR dX3_evaluateBoth_55 rfl (hQ ((-3)) G3 hCG3 hXG3 hFG3 ⟨by omega, by omega, by omega, hOG3, hAQG3⟩)

abbrev kX3_evaluateWhen : KD := (RX3, cX3_evaluateWhen, 6, (some .int), [])
def TX3_evaluateWhen (m : Nat) : TR := fun as G Qr => ∃ (o : Nat) (e c d f : Int) (a b : Nat), as = [(2, ((o : Nat) : Int)), (0, e), (0, c), (0, d)] ∧ CI a b G ∧ (a ≤ 2840000 ∧ b ≤ 590000) ∧ (isMc o) ∧ (0 ≤ f ∧ f ≤ 24) ∧ (MC G o f) ∧ (10 * f ≤ c ∧ c < 10 * gS G o 9) ∧ (0 ≤ e ∧ e < gS G 327681 12) ∧ (AQC G o f) ∧ (gS G 327701 e.toNat = 4) ∧ (d ≤ 12 ∧ 0 ≤ d ∧ 13 ≤ d + m) ∧ (0 ≤ gS G (o + 20) 4 ∧ gS G (o + 20) 4 + wE G e ≤ 2999) ∧ ∀ (r : Int) (G' : LG), CI a b G' → KX G G' → WX (fun x => x = o ∨ (o + 20 ≤ x ∧ x ≤ o + 24)) G G' → ((r < lenV G' (o + 20) ∧ ¬ r = -1) ∧ lenV G (o + 20) ≤ lenV G' (o + 20) ∧ (0 ≤ gS G' (o + 20) 4 ∧ gS G' (o + 20) 4 ≤ gS G (o + 20) 4 + wE G e) ∧ (∀ j, j ≠ 10 → gS G' o j = gS G o j) ∧ AQC G' o f) → Qr (.inl (some (0, r))) G'
set_option maxHeartbeats 4000000 in
set_option maxRecDepth 100000 in
theorem gX3_evaluateWhen (m : Nat) (ih : Good kX3_evaluate yX3_evaluate (4 * m + 8) (TX3_evaluate m)) : Good kX3_evaluateWhen yX3_evaluateWhen (4 * m + 9) (TX3_evaluateWhen m) := by
  refine good_of (by decide) rfl rfl (fun as G Qr h => ?_) (fun X as G Qr hcf hR hT oa => ?_)
  · obtain ⟨o, e, c, d, f, a, b, rfl, -⟩ := h; exact Nat.le_of_ble_eq_true rfl
  obtain ⟨o, e, c, d, f, a, b, rfl, hC, hab, ho, hf0, hMC, hc, he, hAQ, hk, hd, hw, hQ⟩ := hT
  show WP kX3_evaluateWhen X 0 [some (2, ((o : Nat) : Int)), some (0, e), some (0, c), some (0, d), none, none] [] G
  have hr_e : inR e := okv_R (oa _ (by simp))
  have hr_c : inR c := okv_R (oa _ (by simp))
  have hr_d : inR d := okv_R (oa _ (by simp))
  have rg0 : RM (fun x => x = o ∨ (o + 20 ≤ x ∧ x ≤ o + 24)) (fun x => x = o ∨ (o + 20 ≤ x ∧ x ≤ o + 24)) := fun x hx => by (try dsimp only at hx ⊢); omega
  have rg1 : RNx (fun x => x = o ∨ (o + 20 ≤ x ∧ x ≤ o + 24)) ((o + 1) % 1048576) := by show ¬ _; omega
  have rg2 : RNx (fun x => x = o ∨ (o + 20 ≤ x ∧ x ≤ o + 24)) ((o + 5) % 1048576) := by show ¬ _; omega
  have rg3 : RNx (fun x => x = o ∨ (o + 20 ≤ x ∧ x ≤ o + 24)) (327681 % 1048576) := by show ¬ _; omega
  have rg4 : RNx (fun x => x = o ∨ (o + 20 ≤ x ∧ x ≤ o + 24)) (327701 % 1048576) := by show ¬ _; omega
  have rg5 : RNx (fun x => x = o ∨ (o + 20 ≤ x ∧ x ≤ o + 24)) (327702 % 1048576) := by show ¬ _; omega
  have rg6 : RNx (fun x => x = o ∨ (o + 20 ≤ x ∧ x ≤ o + 24)) (327703 % 1048576) := by show ¬ _; omega
  have rg7 : RNx (fun x => x = o ∨ (o + 20 ≤ x ∧ x ≤ o + 24)) (327704 % 1048576) := by show ¬ _; omega
  have rg8 : RNx (fun x => x = o ∨ (o + 20 ≤ x ∧ x ≤ o + 24)) (327705 % 1048576) := by show ¬ _; omega
  refine s_alvl o (k := 0) rfl (fun alo => ?_)
  refine s_lk (fun hlk => ?_)
  have hmn := hlk.mna hC ho alo
  obtain ⟨kM, kM1, kM2, kM3, kM4, kM5, kM6, kM7, kM8, kM13, kM15, kM20, kMp, kMp5, kMp6, kMp7, kMp8, kMp9, kMp10, kMp13, kMp14, kMp16⟩ := id hmn
  have hin : 0 ≤ gS G o 9 ∧ gS G o 9 ≤ 24 := hC.1.v (c := 300) (j := 9) (by rcases ho with rfl | rfl <;> decide) alo (by rw [kM]; exact Nat.le_of_ble_eq_true rfl)
  have hln := lenV.nn (G := G) (o := o + 20)
  have hE6 := hC.2.2.2.2.2.2.1
  obtain ⟨hwt, ⟨hwa, hwb, hwc⟩, hx1, hx2, hx3⟩ := hE6.wt (e := e) he.1 he.2 (by omega)
  clear hE6
  have hO : ∀ j, j ≠ 10 → gS G o j = gS G o j := fun _ _ => rfl
  have hP81 : gS G 327681 = gS G 327681 := rfl
  have hP01 : gS G 327701 = gS G 327701 := rfl
  have hP02 : gS G 327702 = gS G 327702 := rfl
  have hP03 : gS G 327703 = gS G 327703 := rfl
  have hP04 : gS G 327704 = gS G 327704 := rfl
  have hP05 : gS G 327705 = gS G 327705 := rfl
  refine s_aload_n dX3_evaluateWhen_0 rfl (Int.natCast_nonneg _) ?_
  refine s_aload_n dX3_evaluateWhen_1 rfl (Int.natCast_nonneg _) ?_
  have hv1 : gS G o 0 = ((327681 : Nat) : Int) := by have h9 : (gS G o 0) = 327681 := hC.1.v (j := 0) (by rw [cde_m (by omega) (by omega)]; omega : cde o = 300) (kne kM (by decide)) (by rw [kM]; exact Nat.le_of_ble_eq_true rfl); omega
  refine s_getf (ci := 4) (k := 0) (C := RX3) (T := TX3) (N := 18) (n := o) (L := 0) (t := 2) dX3_evaluateWhen_2 rfl wi_71 m_621 (Nat.le_of_ble_eq_true rfl) rfl rfl kM hv1 ?_
  have hv2 : gS G 327681 6 = ((327702 : Nat) : Int) := by have h9 : (gS G 327681 6) = 327702 := hC.1.v (j := 6) (by decide : cde 327681 = 501) (kne kMp (by decide)) (by rw [kMp]; exact Nat.le_of_ble_eq_true rfl); omega
  refine s_getf (ci := 6) (k := 6) (C := RX5) (T := TX5) (N := 18) (n := 327681) (L := 0) (t := 2) dX3_evaluateWhen_5 rfl wi_73 m_611 (Nat.le_of_ble_eq_true rfl) rfl rfl kMp hv2 ?_
  refine s_iload_n dX3_evaluateWhen_8 rfl ?_
  refine s_iald dX3_evaluateWhen_9 kMp6 (by omega) (by omega) rfl ?_
  refine s_iload_n dX3_evaluateWhen_10 rfl ?_
  refine s_iload_n dX3_evaluateWhen_11 rfl ?_
  refine s_iconst dX3_evaluateWhen_12 (by decide) ?_
  refine s_iadd dX3_evaluateWhen_13 (by omega) ?_
  refine s_callV (as := [(0, gS G 327702 ((e : Int).toNat)), (0, c), (0, d + 1)]) (rest := []) (n := o) (ci := 4) ih dX3_evaluateWhen_14 m_1369 m_941 m_1669 m_717 m_289 ⟨by decide, by decide, show (parseMethodDescriptor yX3_evaluate.desc).map (fun d => d.parameters.length) = some 3 from by decide +kernel⟩ (Nat.le_of_ble_eq_true rfl) (by rw [hcf]; omega) kM rfl rfl (Nat.le_of_ble_eq_true rfl) ⟨o, gS G 327702 ((e : Int).toNat), c, d + 1, f, a, b, rfl, hC, hab, (by assumption), (by omega), (by exact hMC), (by omega), (by omega), (by exact hAQ), (by omega), (by omega), fun rr4 G3 hCG3 hXG3 hfG3 hpG3 => ?_⟩
  have hFG3 : WX (fun x => x = o ∨ (o + 20 ≤ x ∧ x ≤ o + 24)) G G3 := WX.trans WX.rf KX.rf (WX.mono hfG3 rg0)
  have hOG3 : ∀ j, j ≠ 10 → gS G3 o j = gS G o j := fun j hj => (hpG3.2.2.2.1 j hj).trans (hO j hj)
  have hMCG3 : MC G3 o f := hMC.cg (hpG3.2.2.2.1 9 (by decide)) (hfG3 (o + 1) (KX.al KX.rf (kne kM1 (by decide))) rg1) (hfG3 (o + 5) (KX.al KX.rf (kne kM5 (by decide))) rg2)
  have hAQG3 : AQC G3 o f := hpG3.2.2.2.2
  have hP81G3 : gS G3 327681 = gS G 327681 := (hfG3 327681 (KX.al KX.rf (kne kMp (by decide))) rg3).trans hP81
  have hP01G3 : gS G3 327701 = gS G 327701 := (hfG3 327701 (KX.al KX.rf (kne kMp5 (by decide))) rg4).trans hP01
  have hP02G3 : gS G3 327702 = gS G 327702 := (hfG3 327702 (KX.al KX.rf (kne kMp6 (by decide))) rg5).trans hP02
  have hP03G3 : gS G3 327703 = gS G 327703 := (hfG3 327703 (KX.al KX.rf (kne kMp7 (by decide))) rg6).trans hP03
  have hP04G3 : gS G3 327704 = gS G 327704 := (hfG3 327704 (KX.al KX.rf (kne kMp8 (by decide))) rg7).trans hP04
  have hP05G3 : gS G3 327705 = gS G 327705 := (hfG3 327705 (KX.al KX.rf (kne kMp9 (by decide))) rg8).trans hP05
  show WP kX3_evaluateWhen X 17 [some (2, ((o : Nat) : Int)), some (0, e), some (0, c), some (0, d), none, none] [(0, rr4)] G3
  have h9_G3 := hOG3 9 (by decide)
  have hpnG3 : gS G3 327681 12 = gS G 327681 12 := by rw [hP81G3]
  have hqkG3 : gS G3 327701 e.toNat = gS G 327701 e.toNat := by rw [hP01G3]
  have hq2G3 : gS G3 327702 e.toNat = gS G 327702 e.toNat := by rw [hP02G3]
  have hv2G3 : wE G3 (gS G3 327702 e.toNat) = wE G (gS G 327702 e.toNat) := by rw [hP02G3]; exact wE.cg hP05G3 _
  have hq3G3 : gS G3 327703 e.toNat = gS G 327703 e.toNat := by rw [hP03G3]
  have hv3G3 : wE G3 (gS G3 327703 e.toNat) = wE G (gS G 327703 e.toNat) := by rw [hP03G3]; exact wE.cg hP05G3 _
  have hq4G3 : gS G3 327704 e.toNat = gS G 327704 e.toNat := by rw [hP04G3]
  have hv4G3 : wE G3 (gS G3 327704 e.toNat) = wE G (gS G 327704 e.toNat) := by rw [hP04G3]; exact wE.cg hP05G3 _
  refine s_istore dX3_evaluateWhen_17 (by decide) (lv' := [some (2, ((o : Nat) : Int)), some (0, e), some (0, c), some (0, d), some (0, rr4), none]) rfl ?_
  refine s_iload dX3_evaluateWhen_19 rfl ?_
  refine s_if_lt (tgt := 36) dX3_evaluateWhen_21 (by decide) (fun c5 => ?_) (fun c5 => ?_)
  · -- 21 to 36
    refine s_bipush dX3_evaluateWhen_36 rfl (by decide) ?_
    exact s_iret hR dX3_evaluateWhen_38 rfl (hQ ((-3)) G3 hCG3 hXG3 hFG3 ⟨by omega, by omega, by omega, hOG3, hAQG3⟩)
  · -- 21 to 24
    refine s_aload_n dX3_evaluateWhen_24 rfl (Int.natCast_nonneg _) ?_
    have hk6 : gK G3 (o) = (12, 0) := ((hXG3).k kM (by decide))
    refine s_alv (o) (by simp) (fun (al7 : AL G3 o) => ?_)
    have hv8 : gS G3 o 12 = ((o + 20 : Nat) : Int) := by have h9 : (gS G3 o 12) = (((o % 1048576) + 20 : Nat) : Int) := hCG3.1.v (j := 12) (by rw [cde_m (by omega) (by omega)]; omega : cde o = 300) al7 (by rw [hk6]; exact Nat.le_of_ble_eq_true rfl); omega
    refine s_getf (ci := 4) (k := 12) (C := RX3) (T := TX3) (N := 18) (n := o) (L := 0) (t := 2) dX3_evaluateWhen_25 rfl wi_71 m_618 (Nat.le_of_ble_eq_true rfl) rfl rfl hk6 hv8 ?_
    refine s_iload dX3_evaluateWhen_28 rfl ?_
    have hk11 : gK G3 (o + 20) = (18, 0) := ((hXG3).k kM20 (by decide))
    refine s_callV (as := [(0, rr4)]) (rest := []) (n := o + 20) (ci := 10) gX9_isPair dX3_evaluateWhen_30 m_1355 m_1017 m_1738 m_723 m_365 ⟨by decide, by decide, show (parseMethodDescriptor yX9_isPair.desc).map (fun d => d.parameters.length) = some 1 from by decide +kernel⟩ (Nat.le_of_ble_eq_true rfl) (by rw [hcf]; omega) hk11 rfl rfl (Nat.le_of_ble_eq_true rfl) ⟨o + 20, rr4, a, b, rfl, hCG3, hab, (by omega), (by omega), fun rr9 hp10 => ?_⟩
    show WP kX3_evaluateWhen X 33 [some (2, ((o : Nat) : Int)), some (0, e), some (0, c), some (0, d), some (0, rr4), none] [(0, rr9)] G3
    refine s_if_eq (tgt := 39) dX3_evaluateWhen_33 (by decide) (fun c12 => ?_) (fun c12 => ?_)
    · -- 33 to 39
      refine s_aload_n dX3_evaluateWhen_39 rfl (Int.natCast_nonneg _) ?_
      have hv13 : gS G3 o 12 = ((o + 20 : Nat) : Int) := by have h9 : (gS G3 o 12) = (((o % 1048576) + 20 : Nat) : Int) := hCG3.1.v (j := 12) (by rw [cde_m (by omega) (by omega)]; omega : cde o = 300) al7 (by rw [hk6]; exact Nat.le_of_ble_eq_true rfl); omega
      refine s_getf (ci := 4) (k := 12) (C := RX3) (T := TX3) (N := 18) (n := o) (L := 0) (t := 2) dX3_evaluateWhen_40 rfl wi_71 m_618 (Nat.le_of_ble_eq_true rfl) rfl rfl hk6 hv13 ?_
      refine s_iload dX3_evaluateWhen_43 rfl ?_
      refine s_callV (as := [(0, rr4)]) (rest := []) (n := o + 20) (ci := 10) gX9_firstOf dX3_evaluateWhen_45 m_1356 m_1015 m_1737 m_723 m_363 ⟨by decide, by decide, show (parseMethodDescriptor yX9_firstOf.desc).map (fun d => d.parameters.length) = some 1 from by decide +kernel⟩ (Nat.le_of_ble_eq_true rfl) (by rw [hcf]; omega) hk11 rfl rfl (Nat.le_of_ble_eq_true rfl) ⟨o + 20, rr4, a, b, rfl, hCG3, hab, (by omega), (by omega), fun rr14 hp15 => ?_⟩
      show WP kX3_evaluateWhen X 48 [some (2, ((o : Nat) : Int)), some (0, e), some (0, c), some (0, d), some (0, rr4), none] [(0, rr14)] G3
      have J17 : ∀ z16 : Int, ((rr14 = 0) ∧ z16 = 0) ∨ ((¬ rr14 = 0) ∧ z16 = 1) → WP kX3_evaluateWhen X 56 [some (2, ((o : Nat) : Int)), some (0, e), some (0, c), some (0, d), some (0, rr4), none] [(0, z16)] G3 := by
        intro z16 hz16
        refine s_istore dX3_evaluateWhen_56 (by decide) (lv' := [some (2, ((o : Nat) : Int)), some (0, e), some (0, c), some (0, d), some (0, rr4), some (0, z16)]) rfl ?_
        refine s_aload_n dX3_evaluateWhen_58 rfl (Int.natCast_nonneg _) ?_
        refine s_iload dX3_evaluateWhen_59 rfl ?_
        refine s_if_eq (tgt := 76) dX3_evaluateWhen_61 (by decide) (fun c18 => ?_) (fun c18 => ?_)
        · -- 61 to 76
          refine s_aload_n dX3_evaluateWhen_76 rfl (Int.natCast_nonneg _) ?_
          have hv19 : gS G3 o 0 = ((327681 : Nat) : Int) := by have h9 : (gS G3 o 0) = 327681 := hCG3.1.v (j := 0) (by rw [cde_m (by omega) (by omega)]; omega : cde o = 300) al7 (by rw [hk6]; exact Nat.le_of_ble_eq_true rfl); omega
          refine s_getf (ci := 4) (k := 0) (C := RX3) (T := TX3) (N := 18) (n := o) (L := 0) (t := 2) dX3_evaluateWhen_77 rfl wi_71 m_621 (Nat.le_of_ble_eq_true rfl) rfl rfl hk6 hv19 ?_
          have hk20 : gK G3 (327681) = (14, 0) := ((hXG3).k kMp (by decide))
          refine s_alv (327681) (by simp) (fun (al21 : AL G3 327681) => ?_)
          have hv22 : gS G3 327681 8 = ((327704 : Nat) : Int) := by have h9 : (gS G3 327681 8) = 327704 := hCG3.1.v (j := 8) (by decide : cde 327681 = 501) al21 (by rw [hk20]; exact Nat.le_of_ble_eq_true rfl); omega
          refine s_getf (ci := 6) (k := 8) (C := RX5) (T := TX5) (N := 18) (n := 327681) (L := 0) (t := 2) dX3_evaluateWhen_80 rfl wi_73 m_614 (Nat.le_of_ble_eq_true rfl) rfl rfl hk20 hv22 ?_
          refine s_iload_n dX3_evaluateWhen_83 rfl ?_
          have hk23 : gK G3 (327704) = (1, 120) := ((hXG3).k kMp8 (by decide))
          refine s_alv (327704) (by simp) (fun (al24 : AL G3 327704) => ?_)
          have hv25 : -1 ≤ (gS G3 327704 (e : Int).toNat) ∧ (gS G3 327704 (e : Int).toNat) ≤ 119 := hCG3.1.v (j := (e : Int).toNat) (by decide : cde 327704 = 524) al24 (by rw [hk23]; show (e : Int).toNat < 120; omega)
          refine s_iald dX3_evaluateWhen_84 hk23 (by omega) (by omega) rfl ?_
          refine s_iload_n dX3_evaluateWhen_85 rfl ?_
          refine s_iload_n dX3_evaluateWhen_86 rfl ?_
          refine s_iconst dX3_evaluateWhen_87 (by decide) ?_
          refine s_iadd dX3_evaluateWhen_88 (by omega) ?_
          refine s_callV (as := [(0, gS G3 327704 ((e : Int).toNat)), (0, c), (0, d + 1)]) (rest := []) (n := o) (ci := 4) ih dX3_evaluateWhen_89 m_1369 m_941 m_1669 m_717 m_289 ⟨by decide, by decide, show (parseMethodDescriptor yX3_evaluate.desc).map (fun d => d.parameters.length) = some 3 from by decide +kernel⟩ (Nat.le_of_ble_eq_true rfl) (by rw [hcf]; omega) hk6 rfl rfl (Nat.le_of_ble_eq_true rfl) ⟨o, gS G3 327704 ((e : Int).toNat), c, d + 1, f, a, b, rfl, hCG3, hab, (by assumption), (by omega), (by exact hMCG3), (by omega), (by omega), (by exact hAQG3), (by omega), (by omega), fun rr27 G26 hCG26 hXG26 hfG26 hpG26 => ?_⟩
          have hFG26 : WX (fun x => x = o ∨ (o + 20 ≤ x ∧ x ≤ o + 24)) G G26 := WX.trans hFG3 hXG3 (WX.mono hfG26 rg0)
          have hOG26 : ∀ j, j ≠ 10 → gS G26 o j = gS G o j := fun j hj => (hpG26.2.2.2.1 j hj).trans (hOG3 j hj)
          have hMCG26 : MC G26 o f := hMCG3.cg (hpG26.2.2.2.1 9 (by decide)) (hfG26 (o + 1) (KX.al hXG3 (kne kM1 (by decide))) rg1) (hfG26 (o + 5) (KX.al hXG3 (kne kM5 (by decide))) rg2)
          have hAQG26 : AQC G26 o f := hpG26.2.2.2.2
          have hP81G26 : gS G26 327681 = gS G 327681 := (hfG26 327681 (KX.al hXG3 (kne kMp (by decide))) rg3).trans hP81G3
          have hP01G26 : gS G26 327701 = gS G 327701 := (hfG26 327701 (KX.al hXG3 (kne kMp5 (by decide))) rg4).trans hP01G3
          have hP02G26 : gS G26 327702 = gS G 327702 := (hfG26 327702 (KX.al hXG3 (kne kMp6 (by decide))) rg5).trans hP02G3
          have hP03G26 : gS G26 327703 = gS G 327703 := (hfG26 327703 (KX.al hXG3 (kne kMp7 (by decide))) rg6).trans hP03G3
          have hP04G26 : gS G26 327704 = gS G 327704 := (hfG26 327704 (KX.al hXG3 (kne kMp8 (by decide))) rg7).trans hP04G3
          have hP05G26 : gS G26 327705 = gS G 327705 := (hfG26 327705 (KX.al hXG3 (kne kMp9 (by decide))) rg8).trans hP05G3
          show WP kX3_evaluateWhen X 92 [some (2, ((o : Nat) : Int)), some (0, e), some (0, c), some (0, d), some (0, rr4), some (0, z16)] [(0, rr27)] G26
          exact s_iret hR dX3_evaluateWhen_92 rfl (hQ rr27 G26 hCG26 (KX.trans hXG3 hXG26) hFG26 ⟨by omega, by omega, by omega, hOG26, hAQG26⟩)
        · -- 61 to 64
          refine s_aload_n dX3_evaluateWhen_64 rfl (Int.natCast_nonneg _) ?_
          have hv28 : gS G3 o 0 = ((327681 : Nat) : Int) := by have h9 : (gS G3 o 0) = 327681 := hCG3.1.v (j := 0) (by rw [cde_m (by omega) (by omega)]; omega : cde o = 300) al7 (by rw [hk6]; exact Nat.le_of_ble_eq_true rfl); omega
          refine s_getf (ci := 4) (k := 0) (C := RX3) (T := TX3) (N := 18) (n := o) (L := 0) (t := 2) dX3_evaluateWhen_65 rfl wi_71 m_621 (Nat.le_of_ble_eq_true rfl) rfl rfl hk6 hv28 ?_
          have hk29 : gK G3 (327681) = (14, 0) := ((hXG3).k kMp (by decide))
          refine s_alv (327681) (by simp) (fun (al30 : AL G3 327681) => ?_)
          have hv31 : gS G3 327681 7 = ((327703 : Nat) : Int) := by have h9 : (gS G3 327681 7) = 327703 := hCG3.1.v (j := 7) (by decide : cde 327681 = 501) al30 (by rw [hk29]; exact Nat.le_of_ble_eq_true rfl); omega
          refine s_getf (ci := 6) (k := 7) (C := RX5) (T := TX5) (N := 18) (n := 327681) (L := 0) (t := 2) dX3_evaluateWhen_68 rfl wi_73 m_613 (Nat.le_of_ble_eq_true rfl) rfl rfl hk29 hv31 ?_
          refine s_iload_n dX3_evaluateWhen_71 rfl ?_
          have hk32 : gK G3 (327703) = (1, 120) := ((hXG3).k kMp7 (by decide))
          refine s_alv (327703) (by simp) (fun (al33 : AL G3 327703) => ?_)
          have hv34 : -1 ≤ (gS G3 327703 (e : Int).toNat) ∧ (gS G3 327703 (e : Int).toNat) ≤ 119 := hCG3.1.v (j := (e : Int).toNat) (by decide : cde 327703 = 523) al33 (by rw [hk32]; show (e : Int).toNat < 120; omega)
          refine s_iald dX3_evaluateWhen_72 hk32 (by omega) (by omega) rfl ?_
          refine s_goto (tgt := 85) dX3_evaluateWhen_73 (by decide) ?_
          refine s_iload_n dX3_evaluateWhen_85 rfl ?_
          refine s_iload_n dX3_evaluateWhen_86 rfl ?_
          refine s_iconst dX3_evaluateWhen_87 (by decide) ?_
          refine s_iadd dX3_evaluateWhen_88 (by omega) ?_
          refine s_callV (as := [(0, gS G3 327703 ((e : Int).toNat)), (0, c), (0, d + 1)]) (rest := []) (n := o) (ci := 4) ih dX3_evaluateWhen_89 m_1369 m_941 m_1669 m_717 m_289 ⟨by decide, by decide, show (parseMethodDescriptor yX3_evaluate.desc).map (fun d => d.parameters.length) = some 3 from by decide +kernel⟩ (Nat.le_of_ble_eq_true rfl) (by rw [hcf]; omega) hk6 rfl rfl (Nat.le_of_ble_eq_true rfl) ⟨o, gS G3 327703 ((e : Int).toNat), c, d + 1, f, a, b, rfl, hCG3, hab, (by assumption), (by omega), (by exact hMCG3), (by omega), (by omega), (by exact hAQG3), (by omega), (by omega), fun rr36 G35 hCG35 hXG35 hfG35 hpG35 => ?_⟩
          have hFG35 : WX (fun x => x = o ∨ (o + 20 ≤ x ∧ x ≤ o + 24)) G G35 := WX.trans hFG3 hXG3 (WX.mono hfG35 rg0)
          have hOG35 : ∀ j, j ≠ 10 → gS G35 o j = gS G o j := fun j hj => (hpG35.2.2.2.1 j hj).trans (hOG3 j hj)
          have hMCG35 : MC G35 o f := hMCG3.cg (hpG35.2.2.2.1 9 (by decide)) (hfG35 (o + 1) (KX.al hXG3 (kne kM1 (by decide))) rg1) (hfG35 (o + 5) (KX.al hXG3 (kne kM5 (by decide))) rg2)
          have hAQG35 : AQC G35 o f := hpG35.2.2.2.2
          have hP81G35 : gS G35 327681 = gS G 327681 := (hfG35 327681 (KX.al hXG3 (kne kMp (by decide))) rg3).trans hP81G3
          have hP01G35 : gS G35 327701 = gS G 327701 := (hfG35 327701 (KX.al hXG3 (kne kMp5 (by decide))) rg4).trans hP01G3
          have hP02G35 : gS G35 327702 = gS G 327702 := (hfG35 327702 (KX.al hXG3 (kne kMp6 (by decide))) rg5).trans hP02G3
          have hP03G35 : gS G35 327703 = gS G 327703 := (hfG35 327703 (KX.al hXG3 (kne kMp7 (by decide))) rg6).trans hP03G3
          have hP04G35 : gS G35 327704 = gS G 327704 := (hfG35 327704 (KX.al hXG3 (kne kMp8 (by decide))) rg7).trans hP04G3
          have hP05G35 : gS G35 327705 = gS G 327705 := (hfG35 327705 (KX.al hXG3 (kne kMp9 (by decide))) rg8).trans hP05G3
          show WP kX3_evaluateWhen X 92 [some (2, ((o : Nat) : Int)), some (0, e), some (0, c), some (0, d), some (0, rr4), some (0, z16)] [(0, rr36)] G35
          exact s_iret hR dX3_evaluateWhen_92 rfl (hQ rr36 G35 hCG35 (KX.trans hXG3 hXG35) hFG35 ⟨by omega, by omega, by omega, hOG35, hAQG35⟩)
      refine s_if_eq (tgt := 55) dX3_evaluateWhen_48 (by decide) (fun c37 => ?_) (fun c37 => ?_)
      · -- 48 to 55
        refine s_iconst dX3_evaluateWhen_55 (by decide) ?_
        exact J17 0 (Or.inl ⟨c37, rfl⟩)
      · -- 48 to 51
        refine s_iconst dX3_evaluateWhen_51 (by decide) ?_
        refine s_goto (tgt := 56) dX3_evaluateWhen_52 (by decide) ?_
        exact J17 1 (Or.inr (⟨c37, rfl⟩))
    · -- 33 to 36
      refine s_bipush dX3_evaluateWhen_36 rfl (by decide) ?_
      exact s_iret hR dX3_evaluateWhen_38 rfl (hQ ((-3)) G3 hCG3 hXG3 hFG3 ⟨by omega, by omega, by omega, hOG3, hAQG3⟩)

abbrev kX3_evaluateHalf : KD := (RX3, cX3_evaluateHalf, 5, (some .int), [])
def TX3_evaluateHalf (m : Nat) : TR := fun as G Qr => ∃ (o : Nat) (e c d f : Int) (a b : Nat), as = [(2, ((o : Nat) : Int)), (0, e), (0, c), (0, d)] ∧ CI a b G ∧ (a ≤ 2840000 ∧ b ≤ 590000) ∧ (isMc o) ∧ (0 ≤ f ∧ f ≤ 24) ∧ (MC G o f) ∧ (10 * f ≤ c ∧ c < 10 * gS G o 9) ∧ (0 ≤ e ∧ e < gS G 327681 12) ∧ (AQC G o f) ∧ (gS G 327701 e.toNat = 2 ∨ gS G 327701 e.toNat = 3) ∧ (d ≤ 12 ∧ 0 ≤ d ∧ 13 ≤ d + m) ∧ (0 ≤ gS G (o + 20) 4 ∧ gS G (o + 20) 4 + wE G e ≤ 2999) ∧ ∀ (r : Int) (G' : LG), CI a b G' → KX G G' → WX (fun x => x = o ∨ (o + 20 ≤ x ∧ x ≤ o + 24)) G G' → ((r < lenV G' (o + 20) ∧ ¬ r = -1) ∧ lenV G (o + 20) ≤ lenV G' (o + 20) ∧ (0 ≤ gS G' (o + 20) 4 ∧ gS G' (o + 20) 4 ≤ gS G (o + 20) 4 + wE G e) ∧ (∀ j, j ≠ 10 → gS G' o j = gS G o j) ∧ AQC G' o f) → Qr (.inl (some (0, r))) G'
set_option maxHeartbeats 4000000 in
set_option maxRecDepth 100000 in
theorem gX3_evaluateHalf (m : Nat) (ih : Good kX3_evaluate yX3_evaluate (4 * m + 8) (TX3_evaluate m)) : Good kX3_evaluateHalf yX3_evaluateHalf (4 * m + 9) (TX3_evaluateHalf m) := by
  refine good_of (by decide) rfl rfl (fun as G Qr h => ?_) (fun X as G Qr hcf hR hT oa => ?_)
  · obtain ⟨o, e, c, d, f, a, b, rfl, -⟩ := h; exact Nat.le_of_ble_eq_true rfl
  obtain ⟨o, e, c, d, f, a, b, rfl, hC, hab, ho, hf0, hMC, hc, he, hAQ, hk, hd, hw, hQ⟩ := hT
  show WP kX3_evaluateHalf X 0 [some (2, ((o : Nat) : Int)), some (0, e), some (0, c), some (0, d), none] [] G
  have hr_e : inR e := okv_R (oa _ (by simp))
  have hr_c : inR c := okv_R (oa _ (by simp))
  have hr_d : inR d := okv_R (oa _ (by simp))
  have rg0 : RM (fun x => x = o ∨ (o + 20 ≤ x ∧ x ≤ o + 24)) (fun x => x = o ∨ (o + 20 ≤ x ∧ x ≤ o + 24)) := fun x hx => by (try dsimp only at hx ⊢); omega
  have rg1 : RNx (fun x => x = o ∨ (o + 20 ≤ x ∧ x ≤ o + 24)) ((o + 1) % 1048576) := by show ¬ _; omega
  have rg2 : RNx (fun x => x = o ∨ (o + 20 ≤ x ∧ x ≤ o + 24)) ((o + 5) % 1048576) := by show ¬ _; omega
  have rg3 : RNx (fun x => x = o ∨ (o + 20 ≤ x ∧ x ≤ o + 24)) (327681 % 1048576) := by show ¬ _; omega
  have rg4 : RNx (fun x => x = o ∨ (o + 20 ≤ x ∧ x ≤ o + 24)) (327701 % 1048576) := by show ¬ _; omega
  have rg5 : RNx (fun x => x = o ∨ (o + 20 ≤ x ∧ x ≤ o + 24)) (327702 % 1048576) := by show ¬ _; omega
  have rg6 : RNx (fun x => x = o ∨ (o + 20 ≤ x ∧ x ≤ o + 24)) (327703 % 1048576) := by show ¬ _; omega
  have rg7 : RNx (fun x => x = o ∨ (o + 20 ≤ x ∧ x ≤ o + 24)) (327704 % 1048576) := by show ¬ _; omega
  have rg8 : RNx (fun x => x = o ∨ (o + 20 ≤ x ∧ x ≤ o + 24)) (327705 % 1048576) := by show ¬ _; omega
  refine s_alvl o (k := 0) rfl (fun alo => ?_)
  refine s_lk (fun hlk => ?_)
  have hmn := hlk.mna hC ho alo
  obtain ⟨kM, kM1, kM2, kM3, kM4, kM5, kM6, kM7, kM8, kM13, kM15, kM20, kMp, kMp5, kMp6, kMp7, kMp8, kMp9, kMp10, kMp13, kMp14, kMp16⟩ := id hmn
  have hin : 0 ≤ gS G o 9 ∧ gS G o 9 ≤ 24 := hC.1.v (c := 300) (j := 9) (by rcases ho with rfl | rfl <;> decide) alo (by rw [kM]; exact Nat.le_of_ble_eq_true rfl)
  have hln := lenV.nn (G := G) (o := o + 20)
  have hE6 := hC.2.2.2.2.2.2.1
  obtain ⟨hwt, ⟨hwa, hwb, hwc⟩, hx1, hx2, hx3⟩ := hE6.wt (e := e) he.1 he.2 (by omega)
  clear hE6
  have hO : ∀ j, j ≠ 10 → gS G o j = gS G o j := fun _ _ => rfl
  have hP81 : gS G 327681 = gS G 327681 := rfl
  have hP01 : gS G 327701 = gS G 327701 := rfl
  have hP02 : gS G 327702 = gS G 327702 := rfl
  have hP03 : gS G 327703 = gS G 327703 := rfl
  have hP04 : gS G 327704 = gS G 327704 := rfl
  have hP05 : gS G 327705 = gS G 327705 := rfl
  refine s_aload_n dX3_evaluateHalf_0 rfl (Int.natCast_nonneg _) ?_
  refine s_aload_n dX3_evaluateHalf_1 rfl (Int.natCast_nonneg _) ?_
  have hv1 : gS G o 0 = ((327681 : Nat) : Int) := by have h9 : (gS G o 0) = 327681 := hC.1.v (j := 0) (by rw [cde_m (by omega) (by omega)]; omega : cde o = 300) (kne kM (by decide)) (by rw [kM]; exact Nat.le_of_ble_eq_true rfl); omega
  refine s_getf (ci := 4) (k := 0) (C := RX3) (T := TX3) (N := 18) (n := o) (L := 0) (t := 2) dX3_evaluateHalf_2 rfl wi_71 m_621 (Nat.le_of_ble_eq_true rfl) rfl rfl kM hv1 ?_
  have hv2 : gS G 327681 6 = ((327702 : Nat) : Int) := by have h9 : (gS G 327681 6) = 327702 := hC.1.v (j := 6) (by decide : cde 327681 = 501) (kne kMp (by decide)) (by rw [kMp]; exact Nat.le_of_ble_eq_true rfl); omega
  refine s_getf (ci := 6) (k := 6) (C := RX5) (T := TX5) (N := 18) (n := 327681) (L := 0) (t := 2) dX3_evaluateHalf_5 rfl wi_73 m_611 (Nat.le_of_ble_eq_true rfl) rfl rfl kMp hv2 ?_
  refine s_iload_n dX3_evaluateHalf_8 rfl ?_
  refine s_iald dX3_evaluateHalf_9 kMp6 (by omega) (by omega) rfl ?_
  refine s_iload_n dX3_evaluateHalf_10 rfl ?_
  refine s_iload_n dX3_evaluateHalf_11 rfl ?_
  refine s_iconst dX3_evaluateHalf_12 (by decide) ?_
  refine s_iadd dX3_evaluateHalf_13 (by omega) ?_
  refine s_callV (as := [(0, gS G 327702 ((e : Int).toNat)), (0, c), (0, d + 1)]) (rest := []) (n := o) (ci := 4) ih dX3_evaluateHalf_14 m_1369 m_941 m_1669 m_717 m_289 ⟨by decide, by decide, show (parseMethodDescriptor yX3_evaluate.desc).map (fun d => d.parameters.length) = some 3 from by decide +kernel⟩ (Nat.le_of_ble_eq_true rfl) (by rw [hcf]; omega) kM rfl rfl (Nat.le_of_ble_eq_true rfl) ⟨o, gS G 327702 ((e : Int).toNat), c, d + 1, f, a, b, rfl, hC, hab, (by assumption), (by omega), (by exact hMC), (by omega), (by omega), (by exact hAQ), (by omega), (by omega), fun rr4 G3 hCG3 hXG3 hfG3 hpG3 => ?_⟩
  have hFG3 : WX (fun x => x = o ∨ (o + 20 ≤ x ∧ x ≤ o + 24)) G G3 := WX.trans WX.rf KX.rf (WX.mono hfG3 rg0)
  have hOG3 : ∀ j, j ≠ 10 → gS G3 o j = gS G o j := fun j hj => (hpG3.2.2.2.1 j hj).trans (hO j hj)
  have hMCG3 : MC G3 o f := hMC.cg (hpG3.2.2.2.1 9 (by decide)) (hfG3 (o + 1) (KX.al KX.rf (kne kM1 (by decide))) rg1) (hfG3 (o + 5) (KX.al KX.rf (kne kM5 (by decide))) rg2)
  have hAQG3 : AQC G3 o f := hpG3.2.2.2.2
  have hP81G3 : gS G3 327681 = gS G 327681 := (hfG3 327681 (KX.al KX.rf (kne kMp (by decide))) rg3).trans hP81
  have hP01G3 : gS G3 327701 = gS G 327701 := (hfG3 327701 (KX.al KX.rf (kne kMp5 (by decide))) rg4).trans hP01
  have hP02G3 : gS G3 327702 = gS G 327702 := (hfG3 327702 (KX.al KX.rf (kne kMp6 (by decide))) rg5).trans hP02
  have hP03G3 : gS G3 327703 = gS G 327703 := (hfG3 327703 (KX.al KX.rf (kne kMp7 (by decide))) rg6).trans hP03
  have hP04G3 : gS G3 327704 = gS G 327704 := (hfG3 327704 (KX.al KX.rf (kne kMp8 (by decide))) rg7).trans hP04
  have hP05G3 : gS G3 327705 = gS G 327705 := (hfG3 327705 (KX.al KX.rf (kne kMp9 (by decide))) rg8).trans hP05
  show WP kX3_evaluateHalf X 17 [some (2, ((o : Nat) : Int)), some (0, e), some (0, c), some (0, d), none] [(0, rr4)] G3
  have h9_G3 := hOG3 9 (by decide)
  have hpnG3 : gS G3 327681 12 = gS G 327681 12 := by rw [hP81G3]
  have hqkG3 : gS G3 327701 e.toNat = gS G 327701 e.toNat := by rw [hP01G3]
  have hq2G3 : gS G3 327702 e.toNat = gS G 327702 e.toNat := by rw [hP02G3]
  have hv2G3 : wE G3 (gS G3 327702 e.toNat) = wE G (gS G 327702 e.toNat) := by rw [hP02G3]; exact wE.cg hP05G3 _
  have hq3G3 : gS G3 327703 e.toNat = gS G 327703 e.toNat := by rw [hP03G3]
  have hv3G3 : wE G3 (gS G3 327703 e.toNat) = wE G (gS G 327703 e.toNat) := by rw [hP03G3]; exact wE.cg hP05G3 _
  have hq4G3 : gS G3 327704 e.toNat = gS G 327704 e.toNat := by rw [hP04G3]
  have hv4G3 : wE G3 (gS G3 327704 e.toNat) = wE G (gS G 327704 e.toNat) := by rw [hP04G3]; exact wE.cg hP05G3 _
  refine s_istore dX3_evaluateHalf_17 (by decide) (lv' := [some (2, ((o : Nat) : Int)), some (0, e), some (0, c), some (0, d), some (0, rr4)]) rfl ?_
  refine s_iload dX3_evaluateHalf_19 rfl ?_
  refine s_if_lt (tgt := 36) dX3_evaluateHalf_21 (by decide) (fun c5 => ?_) (fun c5 => ?_)
  · -- 21 to 36
    refine s_bipush dX3_evaluateHalf_36 rfl (by decide) ?_
    exact s_iret hR dX3_evaluateHalf_38 rfl (hQ ((-3)) G3 hCG3 hXG3 hFG3 ⟨by omega, by omega, by omega, hOG3, hAQG3⟩)
  · -- 21 to 24
    refine s_aload_n dX3_evaluateHalf_24 rfl (Int.natCast_nonneg _) ?_
    have hk6 : gK G3 (o) = (12, 0) := ((hXG3).k kM (by decide))
    refine s_alv (o) (by simp) (fun (al7 : AL G3 o) => ?_)
    have hv8 : gS G3 o 12 = ((o + 20 : Nat) : Int) := by have h9 : (gS G3 o 12) = (((o % 1048576) + 20 : Nat) : Int) := hCG3.1.v (j := 12) (by rw [cde_m (by omega) (by omega)]; omega : cde o = 300) al7 (by rw [hk6]; exact Nat.le_of_ble_eq_true rfl); omega
    refine s_getf (ci := 4) (k := 12) (C := RX3) (T := TX3) (N := 18) (n := o) (L := 0) (t := 2) dX3_evaluateHalf_25 rfl wi_71 m_618 (Nat.le_of_ble_eq_true rfl) rfl rfl hk6 hv8 ?_
    refine s_iload dX3_evaluateHalf_28 rfl ?_
    have hk11 : gK G3 (o + 20) = (18, 0) := ((hXG3).k kM20 (by decide))
    refine s_callV (as := [(0, rr4)]) (rest := []) (n := o + 20) (ci := 10) gX9_isPair dX3_evaluateHalf_30 m_1355 m_1017 m_1738 m_723 m_365 ⟨by decide, by decide, show (parseMethodDescriptor yX9_isPair.desc).map (fun d => d.parameters.length) = some 1 from by decide +kernel⟩ (Nat.le_of_ble_eq_true rfl) (by rw [hcf]; omega) hk11 rfl rfl (Nat.le_of_ble_eq_true rfl) ⟨o + 20, rr4, a, b, rfl, hCG3, hab, (by omega), (by omega), fun rr9 hp10 => ?_⟩
    show WP kX3_evaluateHalf X 33 [some (2, ((o : Nat) : Int)), some (0, e), some (0, c), some (0, d), some (0, rr4)] [(0, rr9)] G3
    refine s_if_ne (tgt := 39) dX3_evaluateHalf_33 (by decide) (fun c12 => ?_) (fun c12 => ?_)
    · -- 33 to 39
      refine s_aload_n dX3_evaluateHalf_39 rfl (Int.natCast_nonneg _) ?_
      have hv13 : gS G3 o 0 = ((327681 : Nat) : Int) := by have h9 : (gS G3 o 0) = 327681 := hCG3.1.v (j := 0) (by rw [cde_m (by omega) (by omega)]; omega : cde o = 300) al7 (by rw [hk6]; exact Nat.le_of_ble_eq_true rfl); omega
      refine s_getf (ci := 4) (k := 0) (C := RX3) (T := TX3) (N := 18) (n := o) (L := 0) (t := 2) dX3_evaluateHalf_40 rfl wi_71 m_621 (Nat.le_of_ble_eq_true rfl) rfl rfl hk6 hv13 ?_
      have hk14 : gK G3 (327681) = (14, 0) := ((hXG3).k kMp (by decide))
      refine s_alv (327681) (by simp) (fun (al15 : AL G3 327681) => ?_)
      have hv16 : gS G3 327681 5 = ((327701 : Nat) : Int) := by have h9 : (gS G3 327681 5) = 327701 := hCG3.1.v (j := 5) (by decide : cde 327681 = 501) al15 (by rw [hk14]; exact Nat.le_of_ble_eq_true rfl); omega
      refine s_getf (ci := 6) (k := 5) (C := RX5) (T := TX5) (N := 18) (n := 327681) (L := 0) (t := 2) dX3_evaluateHalf_43 rfl wi_73 m_610 (Nat.le_of_ble_eq_true rfl) rfl rfl hk14 hv16 ?_
      refine s_iload_n dX3_evaluateHalf_46 rfl ?_
      have hk17 : gK G3 (327701) = (1, 120) := ((hXG3).k kMp5 (by decide))
      refine s_alv (327701) (by simp) (fun (al18 : AL G3 327701) => ?_)
      have hv19 : 0 ≤ (gS G3 327701 (e : Int).toNat) ∧ (gS G3 327701 (e : Int).toNat) ≤ 6 := hCG3.1.v (j := (e : Int).toNat) (by decide : cde 327701 = 521) al18 (by rw [hk17]; show (e : Int).toNat < 120; omega)
      refine s_iald dX3_evaluateHalf_47 hk17 (by omega) (by omega) rfl ?_
      refine s_iconst dX3_evaluateHalf_48 (by decide) ?_
      refine s_icmp_ne (tgt := 64) dX3_evaluateHalf_49 (by decide) (fun c20 => ?_) (fun c20 => ?_)
      · -- 49 to 64
        refine s_aload_n dX3_evaluateHalf_64 rfl (Int.natCast_nonneg _) ?_
        have hv21 : gS G3 o 12 = ((o + 20 : Nat) : Int) := by have h9 : (gS G3 o 12) = (((o % 1048576) + 20 : Nat) : Int) := hCG3.1.v (j := 12) (by rw [cde_m (by omega) (by omega)]; omega : cde o = 300) al7 (by rw [hk6]; exact Nat.le_of_ble_eq_true rfl); omega
        refine s_getf (ci := 4) (k := 12) (C := RX3) (T := TX3) (N := 18) (n := o) (L := 0) (t := 2) dX3_evaluateHalf_65 rfl wi_71 m_618 (Nat.le_of_ble_eq_true rfl) rfl rfl hk6 hv21 ?_
        refine s_iload dX3_evaluateHalf_68 rfl ?_
        refine s_callV (as := [(0, rr4)]) (rest := []) (n := o + 20) (ci := 10) gX9_secondOf dX3_evaluateHalf_70 m_1377 m_1019 m_1740 m_723 m_367 ⟨by decide, by decide, show (parseMethodDescriptor yX9_secondOf.desc).map (fun d => d.parameters.length) = some 1 from by decide +kernel⟩ (Nat.le_of_ble_eq_true rfl) (by rw [hcf]; omega) hk11 rfl rfl (Nat.le_of_ble_eq_true rfl) ⟨o + 20, rr4, a, b, rfl, hCG3, hab, (by omega), (by omega), fun rr22 hp23 => ?_⟩
        show WP kX3_evaluateHalf X 73 [some (2, ((o : Nat) : Int)), some (0, e), some (0, c), some (0, d), some (0, rr4)] [(0, rr22)] G3
        exact s_iret hR dX3_evaluateHalf_73 rfl (hQ rr22 G3 hCG3 hXG3 hFG3 ⟨by omega, by omega, by omega, hOG3, hAQG3⟩)
      · -- 49 to 52
        refine s_aload_n dX3_evaluateHalf_52 rfl (Int.natCast_nonneg _) ?_
        have hv24 : gS G3 o 12 = ((o + 20 : Nat) : Int) := by have h9 : (gS G3 o 12) = (((o % 1048576) + 20 : Nat) : Int) := hCG3.1.v (j := 12) (by rw [cde_m (by omega) (by omega)]; omega : cde o = 300) al7 (by rw [hk6]; exact Nat.le_of_ble_eq_true rfl); omega
        refine s_getf (ci := 4) (k := 12) (C := RX3) (T := TX3) (N := 18) (n := o) (L := 0) (t := 2) dX3_evaluateHalf_53 rfl wi_71 m_618 (Nat.le_of_ble_eq_true rfl) rfl rfl hk6 hv24 ?_
        refine s_iload dX3_evaluateHalf_56 rfl ?_
        refine s_callV (as := [(0, rr4)]) (rest := []) (n := o + 20) (ci := 10) gX9_firstOf dX3_evaluateHalf_58 m_1356 m_1015 m_1737 m_723 m_363 ⟨by decide, by decide, show (parseMethodDescriptor yX9_firstOf.desc).map (fun d => d.parameters.length) = some 1 from by decide +kernel⟩ (Nat.le_of_ble_eq_true rfl) (by rw [hcf]; omega) hk11 rfl rfl (Nat.le_of_ble_eq_true rfl) ⟨o + 20, rr4, a, b, rfl, hCG3, hab, (by omega), (by omega), fun rr25 hp26 => ?_⟩
        show WP kX3_evaluateHalf X 61 [some (2, ((o : Nat) : Int)), some (0, e), some (0, c), some (0, d), some (0, rr4)] [(0, rr25)] G3
        refine s_goto (tgt := 73) dX3_evaluateHalf_61 (by decide) ?_
        exact s_iret hR dX3_evaluateHalf_73 rfl (hQ rr25 G3 hCG3 hXG3 hFG3 ⟨by omega, by omega, by omega, hOG3, hAQG3⟩)
    · -- 33 to 36
      refine s_bipush dX3_evaluateHalf_36 rfl (by decide) ?_
      exact s_iret hR dX3_evaluateHalf_38 rfl (hQ ((-3)) G3 hCG3 hXG3 hFG3 ⟨by omega, by omega, by omega, hOG3, hAQG3⟩)

set_option maxHeartbeats 4000000 in
set_option maxRecDepth 100000 in
theorem gX3_evaluate_s (m : Nat) (ih : Good kX3_evaluate yX3_evaluate (4 * m + 8) (TX3_evaluate m)) : Good kX3_evaluate yX3_evaluate (4 * (m + 1) + 8) (TX3_evaluate (m + 1)) := by
  refine good_of (by decide) rfl rfl (fun as G Qr h => ?_) (fun X as G Qr hcf hR hT oa => ?_)
  · obtain ⟨o, e, c, d, f, a, b, rfl, -⟩ := h; exact Nat.le_of_ble_eq_true rfl
  obtain ⟨o, e, c, d, f, a, b, rfl, hC, hab, ho, hf0, hMC, hc, he, hAQ, hd, hw, hQ⟩ := hT
  show WP kX3_evaluate X 0 [some (2, ((o : Nat) : Int)), some (0, e), some (0, c), some (0, d)] [] G
  have hr_e : inR e := okv_R (oa _ (by simp))
  have hr_c : inR c := okv_R (oa _ (by simp))
  have hr_d : inR d := okv_R (oa _ (by simp))
  have rg0 : RM (fun x => x = o ∨ (o + 20 ≤ x ∧ x ≤ o + 24)) (fun x => x = o ∨ (o + 20 ≤ x ∧ x ≤ o + 24)) := fun x hx => by (try dsimp only at hx ⊢); omega
  have rg1 : RNx (fun x => x = o ∨ (o + 20 ≤ x ∧ x ≤ o + 24)) ((o + 1) % 1048576) := by show ¬ _; omega
  have rg2 : RNx (fun x => x = o ∨ (o + 20 ≤ x ∧ x ≤ o + 24)) ((o + 5) % 1048576) := by show ¬ _; omega
  have rg3 : RNx (fun x => x = o ∨ (o + 20 ≤ x ∧ x ≤ o + 24)) (327681 % 1048576) := by show ¬ _; omega
  have rg4 : RNx (fun x => x = o ∨ (o + 20 ≤ x ∧ x ≤ o + 24)) (327701 % 1048576) := by show ¬ _; omega
  have rg5 : RNx (fun x => x = o ∨ (o + 20 ≤ x ∧ x ≤ o + 24)) (327702 % 1048576) := by show ¬ _; omega
  have rg6 : RNx (fun x => x = o ∨ (o + 20 ≤ x ∧ x ≤ o + 24)) (327703 % 1048576) := by show ¬ _; omega
  have rg7 : RNx (fun x => x = o ∨ (o + 20 ≤ x ∧ x ≤ o + 24)) (327704 % 1048576) := by show ¬ _; omega
  have rg8 : RNx (fun x => x = o ∨ (o + 20 ≤ x ∧ x ≤ o + 24)) (327705 % 1048576) := by show ¬ _; omega
  have rg9 : RM (fun x => (o + 20) ≤ x ∧ x ≤ (o + 20) + 4) (fun x => x = o ∨ (o + 20 ≤ x ∧ x ≤ o + 24)) := fun x hx => by (try dsimp only at hx ⊢); omega
  have rg10 : RNx (fun x => (o + 20) ≤ x ∧ x ≤ (o + 20) + 4) (o % 1048576) := by show ¬ _; omega
  have rg11 : RNx (fun x => (o + 20) ≤ x ∧ x ≤ (o + 20) + 4) ((o + 1) % 1048576) := by show ¬ _; omega
  have rg12 : RNx (fun x => (o + 20) ≤ x ∧ x ≤ (o + 20) + 4) ((o + 5) % 1048576) := by show ¬ _; omega
  have rg13 : RNx (fun x => (o + 20) ≤ x ∧ x ≤ (o + 20) + 4) (327681 % 1048576) := by show ¬ _; omega
  have rg14 : RNx (fun x => (o + 20) ≤ x ∧ x ≤ (o + 20) + 4) (327701 % 1048576) := by show ¬ _; omega
  have rg15 : RNx (fun x => (o + 20) ≤ x ∧ x ≤ (o + 20) + 4) (327702 % 1048576) := by show ¬ _; omega
  have rg16 : RNx (fun x => (o + 20) ≤ x ∧ x ≤ (o + 20) + 4) (327703 % 1048576) := by show ¬ _; omega
  have rg17 : RNx (fun x => (o + 20) ≤ x ∧ x ≤ (o + 20) + 4) (327704 % 1048576) := by show ¬ _; omega
  have rg18 : RNx (fun x => (o + 20) ≤ x ∧ x ≤ (o + 20) + 4) (327705 % 1048576) := by show ¬ _; omega
  have rg19 : RM (fun x => x = o) (fun x => x = o ∨ (o + 20 ≤ x ∧ x ≤ o + 24)) := fun x hx => by (try dsimp only at hx ⊢); omega
  have rg20 : RNx (fun x => x = o) ((o + 1) % 1048576) := by show ¬ _; omega
  have rg21 : RNx (fun x => x = o) ((o + 5) % 1048576) := by show ¬ _; omega
  have rg22 : RNx (fun x => x = o) (327681 % 1048576) := by show ¬ _; omega
  have rg23 : RNx (fun x => x = o) (327701 % 1048576) := by show ¬ _; omega
  have rg24 : RNx (fun x => x = o) (327702 % 1048576) := by show ¬ _; omega
  have rg25 : RNx (fun x => x = o) (327703 % 1048576) := by show ¬ _; omega
  have rg26 : RNx (fun x => x = o) (327704 % 1048576) := by show ¬ _; omega
  have rg27 : RNx (fun x => x = o) (327705 % 1048576) := by show ¬ _; omega
  refine s_alvl o (k := 0) rfl (fun alo => ?_)
  refine s_lk (fun hlk => ?_)
  have hmn := hlk.mna hC ho alo
  obtain ⟨kM, kM1, kM2, kM3, kM4, kM5, kM6, kM7, kM8, kM13, kM15, kM20, kMp, kMp5, kMp6, kMp7, kMp8, kMp9, kMp10, kMp13, kMp14, kMp16⟩ := id hmn
  have hin : 0 ≤ gS G o 9 ∧ gS G o 9 ≤ 24 := hC.1.v (c := 300) (j := 9) (by rcases ho with rfl | rfl <;> decide) alo (by rw [kM]; exact Nat.le_of_ble_eq_true rfl)
  have hln := lenV.nn (G := G) (o := o + 20)
  have hwn := hC.2.2.2.2.2.2.1.wn (e := e) he
  have hO : ∀ j, j ≠ 10 → gS G o j = gS G o j := fun _ _ => rfl
  have hP81 : gS G 327681 = gS G 327681 := rfl
  have hP01 : gS G 327701 = gS G 327701 := rfl
  have hP02 : gS G 327702 = gS G 327702 := rfl
  have hP03 : gS G 327703 = gS G 327703 := rfl
  have hP04 : gS G 327704 = gS G 327704 := rfl
  have hP05 : gS G 327705 = gS G 327705 := rfl
  refine s_iload_n dX3_evaluate_0 rfl ?_
  refine s_if_lt (tgt := 10) dX3_evaluate_1 (by decide) (fun c1 => ?_) (fun c1 => ?_)
  · -- 1 to 10
    refine s_bipush dX3_evaluate_10 rfl (by decide) ?_
    exact s_iret hR dX3_evaluate_12 rfl (hQ ((-3)) G hC KX.rf WX.rf ⟨by omega, by omega, by omega, hO, hAQ⟩)
  · -- 1 to 4
    refine s_iload_n dX3_evaluate_4 rfl ?_
    refine s_bipush dX3_evaluate_5 rfl (by decide) ?_
    refine s_icmp_le (tgt := 13) dX3_evaluate_7 (by decide) (fun c2 => ?_) (fun c2 => ?_)
    · -- 7 to 13
      refine s_aload_n dX3_evaluate_13 rfl (Int.natCast_nonneg _) ?_
      have hv3 : gS G o 0 = ((327681 : Nat) : Int) := by have h9 : (gS G o 0) = 327681 := hC.1.v (j := 0) (by rw [cde_m (by omega) (by omega)]; omega : cde o = 300) (kne kM (by decide)) (by rw [kM]; exact Nat.le_of_ble_eq_true rfl); omega
      refine s_getf (ci := 4) (k := 0) (C := RX3) (T := TX3) (N := 18) (n := o) (L := 0) (t := 2) dX3_evaluate_14 rfl wi_71 m_621 (Nat.le_of_ble_eq_true rfl) rfl rfl kM hv3 ?_
      have hv4 : gS G 327681 5 = ((327701 : Nat) : Int) := by have h9 : (gS G 327681 5) = 327701 := hC.1.v (j := 5) (by decide : cde 327681 = 501) (kne kMp (by decide)) (by rw [kMp]; exact Nat.le_of_ble_eq_true rfl); omega
      refine s_getf (ci := 6) (k := 5) (C := RX5) (T := TX5) (N := 18) (n := 327681) (L := 0) (t := 2) dX3_evaluate_17 rfl wi_73 m_610 (Nat.le_of_ble_eq_true rfl) rfl rfl kMp hv4 ?_
      refine s_iload_n dX3_evaluate_20 rfl ?_
      have hv5 : 0 ≤ (gS G 327701 (e : Int).toNat) ∧ (gS G 327701 (e : Int).toNat) ≤ 6 := hC.1.v (j := (e : Int).toNat) (by decide : cde 327701 = 521) (kne kMp5 (by decide)) (by rw [kMp5]; show (e : Int).toNat < 120; omega)
      refine s_iald dX3_evaluate_21 kMp5 (by omega) (by omega) rfl ?_
      by_cases c6_0 : (gS G 327701 ((e : Int).toNat)) = 0
      · -- case 0
        refine s_tableIn (tgt := 101) (off := 79) dX3_evaluate_22 (by omega) (by omega) (by rw [c6_0]; rfl) (by decide) ?_
        refine s_aload_n dX3_evaluate_101 rfl (Int.natCast_nonneg _) ?_
        refine s_iload_n dX3_evaluate_102 rfl ?_
        refine s_iload_n dX3_evaluate_103 rfl ?_
        refine s_iload_n dX3_evaluate_104 rfl ?_
        refine s_callV (as := [(0, e), (0, c), (0, d)]) (rest := []) (n := o) (ci := 4) (gX3_evaluateBoth m ih) dX3_evaluate_105 m_1374 m_942 m_1670 m_717 m_290 ⟨by decide, by decide, show (parseMethodDescriptor yX3_evaluateBoth.desc).map (fun d => d.parameters.length) = some 3 from by decide +kernel⟩ (Nat.le_of_ble_eq_true rfl) (by rw [hcf]; omega) kM rfl rfl (Nat.le_of_ble_eq_true rfl) ⟨o, e, c, d, f, a, b, rfl, hC, hab, (by assumption), (by omega), (by assumption), (by omega), (by omega), (by assumption), (by omega), (by omega), (by omega), fun rr8 G7 hCG7 hXG7 hfG7 hpG7 => ?_⟩
        have hFG7 : WX (fun x => x = o ∨ (o + 20 ≤ x ∧ x ≤ o + 24)) G G7 := WX.trans WX.rf KX.rf (WX.mono hfG7 rg0)
        have hOG7 : ∀ j, j ≠ 10 → gS G7 o j = gS G o j := fun j hj => (hpG7.2.2.2.1 j hj).trans (hO j hj)
        have hMCG7 : MC G7 o f := hMC.cg (hpG7.2.2.2.1 9 (by decide)) (hfG7 (o + 1) (KX.al KX.rf (kne kM1 (by decide))) rg1) (hfG7 (o + 5) (KX.al KX.rf (kne kM5 (by decide))) rg2)
        have hAQG7 : AQC G7 o f := hpG7.2.2.2.2
        have hP81G7 : gS G7 327681 = gS G 327681 := (hfG7 327681 (KX.al KX.rf (kne kMp (by decide))) rg3).trans hP81
        have hP01G7 : gS G7 327701 = gS G 327701 := (hfG7 327701 (KX.al KX.rf (kne kMp5 (by decide))) rg4).trans hP01
        have hP02G7 : gS G7 327702 = gS G 327702 := (hfG7 327702 (KX.al KX.rf (kne kMp6 (by decide))) rg5).trans hP02
        have hP03G7 : gS G7 327703 = gS G 327703 := (hfG7 327703 (KX.al KX.rf (kne kMp7 (by decide))) rg6).trans hP03
        have hP04G7 : gS G7 327704 = gS G 327704 := (hfG7 327704 (KX.al KX.rf (kne kMp8 (by decide))) rg7).trans hP04
        have hP05G7 : gS G7 327705 = gS G 327705 := (hfG7 327705 (KX.al KX.rf (kne kMp9 (by decide))) rg8).trans hP05
        show WP kX3_evaluate X 108 [some (2, ((o : Nat) : Int)), some (0, e), some (0, c), some (0, d)] [(0, rr8)] G7
        exact s_iret hR dX3_evaluate_108 rfl (hQ rr8 G7 hCG7 hXG7 hFG7 ⟨by omega, by omega, by omega, hOG7, hAQG7⟩)
      by_cases c6_1 : (gS G 327701 ((e : Int).toNat)) = 1
      · -- case 1
        refine s_tableIn (tgt := 101) (off := 79) dX3_evaluate_22 (by omega) (by omega) (by rw [c6_1]; rfl) (by decide) ?_
        refine s_aload_n dX3_evaluate_101 rfl (Int.natCast_nonneg _) ?_
        refine s_iload_n dX3_evaluate_102 rfl ?_
        refine s_iload_n dX3_evaluate_103 rfl ?_
        refine s_iload_n dX3_evaluate_104 rfl ?_
        refine s_callV (as := [(0, e), (0, c), (0, d)]) (rest := []) (n := o) (ci := 4) (gX3_evaluateBoth m ih) dX3_evaluate_105 m_1374 m_942 m_1670 m_717 m_290 ⟨by decide, by decide, show (parseMethodDescriptor yX3_evaluateBoth.desc).map (fun d => d.parameters.length) = some 3 from by decide +kernel⟩ (Nat.le_of_ble_eq_true rfl) (by rw [hcf]; omega) kM rfl rfl (Nat.le_of_ble_eq_true rfl) ⟨o, e, c, d, f, a, b, rfl, hC, hab, (by assumption), (by omega), (by assumption), (by omega), (by omega), (by assumption), (by omega), (by omega), (by omega), fun rr10 G9 hCG9 hXG9 hfG9 hpG9 => ?_⟩
        have hFG9 : WX (fun x => x = o ∨ (o + 20 ≤ x ∧ x ≤ o + 24)) G G9 := WX.trans WX.rf KX.rf (WX.mono hfG9 rg0)
        have hOG9 : ∀ j, j ≠ 10 → gS G9 o j = gS G o j := fun j hj => (hpG9.2.2.2.1 j hj).trans (hO j hj)
        have hMCG9 : MC G9 o f := hMC.cg (hpG9.2.2.2.1 9 (by decide)) (hfG9 (o + 1) (KX.al KX.rf (kne kM1 (by decide))) rg1) (hfG9 (o + 5) (KX.al KX.rf (kne kM5 (by decide))) rg2)
        have hAQG9 : AQC G9 o f := hpG9.2.2.2.2
        have hP81G9 : gS G9 327681 = gS G 327681 := (hfG9 327681 (KX.al KX.rf (kne kMp (by decide))) rg3).trans hP81
        have hP01G9 : gS G9 327701 = gS G 327701 := (hfG9 327701 (KX.al KX.rf (kne kMp5 (by decide))) rg4).trans hP01
        have hP02G9 : gS G9 327702 = gS G 327702 := (hfG9 327702 (KX.al KX.rf (kne kMp6 (by decide))) rg5).trans hP02
        have hP03G9 : gS G9 327703 = gS G 327703 := (hfG9 327703 (KX.al KX.rf (kne kMp7 (by decide))) rg6).trans hP03
        have hP04G9 : gS G9 327704 = gS G 327704 := (hfG9 327704 (KX.al KX.rf (kne kMp8 (by decide))) rg7).trans hP04
        have hP05G9 : gS G9 327705 = gS G 327705 := (hfG9 327705 (KX.al KX.rf (kne kMp9 (by decide))) rg8).trans hP05
        show WP kX3_evaluate X 108 [some (2, ((o : Nat) : Int)), some (0, e), some (0, c), some (0, d)] [(0, rr10)] G9
        exact s_iret hR dX3_evaluate_108 rfl (hQ rr10 G9 hCG9 hXG9 hFG9 ⟨by omega, by omega, by omega, hOG9, hAQG9⟩)
      by_cases c6_2 : (gS G 327701 ((e : Int).toNat)) = 2
      · -- case 2
        refine s_tableIn (tgt := 117) (off := 95) dX3_evaluate_22 (by omega) (by omega) (by rw [c6_2]; rfl) (by decide) ?_
        refine s_aload_n dX3_evaluate_117 rfl (Int.natCast_nonneg _) ?_
        refine s_iload_n dX3_evaluate_118 rfl ?_
        refine s_iload_n dX3_evaluate_119 rfl ?_
        refine s_iload_n dX3_evaluate_120 rfl ?_
        refine s_callV (as := [(0, e), (0, c), (0, d)]) (rest := []) (n := o) (ci := 4) (gX3_evaluateHalf m ih) dX3_evaluate_121 m_1376 m_943 m_1671 m_717 m_291 ⟨by decide, by decide, show (parseMethodDescriptor yX3_evaluateHalf.desc).map (fun d => d.parameters.length) = some 3 from by decide +kernel⟩ (Nat.le_of_ble_eq_true rfl) (by rw [hcf]; omega) kM rfl rfl (Nat.le_of_ble_eq_true rfl) ⟨o, e, c, d, f, a, b, rfl, hC, hab, (by assumption), (by omega), (by assumption), (by omega), (by omega), (by assumption), (by omega), (by omega), (by omega), fun rr12 G11 hCG11 hXG11 hfG11 hpG11 => ?_⟩
        have hFG11 : WX (fun x => x = o ∨ (o + 20 ≤ x ∧ x ≤ o + 24)) G G11 := WX.trans WX.rf KX.rf (WX.mono hfG11 rg0)
        have hOG11 : ∀ j, j ≠ 10 → gS G11 o j = gS G o j := fun j hj => (hpG11.2.2.2.1 j hj).trans (hO j hj)
        have hMCG11 : MC G11 o f := hMC.cg (hpG11.2.2.2.1 9 (by decide)) (hfG11 (o + 1) (KX.al KX.rf (kne kM1 (by decide))) rg1) (hfG11 (o + 5) (KX.al KX.rf (kne kM5 (by decide))) rg2)
        have hAQG11 : AQC G11 o f := hpG11.2.2.2.2
        have hP81G11 : gS G11 327681 = gS G 327681 := (hfG11 327681 (KX.al KX.rf (kne kMp (by decide))) rg3).trans hP81
        have hP01G11 : gS G11 327701 = gS G 327701 := (hfG11 327701 (KX.al KX.rf (kne kMp5 (by decide))) rg4).trans hP01
        have hP02G11 : gS G11 327702 = gS G 327702 := (hfG11 327702 (KX.al KX.rf (kne kMp6 (by decide))) rg5).trans hP02
        have hP03G11 : gS G11 327703 = gS G 327703 := (hfG11 327703 (KX.al KX.rf (kne kMp7 (by decide))) rg6).trans hP03
        have hP04G11 : gS G11 327704 = gS G 327704 := (hfG11 327704 (KX.al KX.rf (kne kMp8 (by decide))) rg7).trans hP04
        have hP05G11 : gS G11 327705 = gS G 327705 := (hfG11 327705 (KX.al KX.rf (kne kMp9 (by decide))) rg8).trans hP05
        show WP kX3_evaluate X 124 [some (2, ((o : Nat) : Int)), some (0, e), some (0, c), some (0, d)] [(0, rr12)] G11
        exact s_iret hR dX3_evaluate_124 rfl (hQ rr12 G11 hCG11 hXG11 hFG11 ⟨by omega, by omega, by omega, hOG11, hAQG11⟩)
      by_cases c6_3 : (gS G 327701 ((e : Int).toNat)) = 3
      · -- case 3
        refine s_tableIn (tgt := 117) (off := 95) dX3_evaluate_22 (by omega) (by omega) (by rw [c6_3]; rfl) (by decide) ?_
        refine s_aload_n dX3_evaluate_117 rfl (Int.natCast_nonneg _) ?_
        refine s_iload_n dX3_evaluate_118 rfl ?_
        refine s_iload_n dX3_evaluate_119 rfl ?_
        refine s_iload_n dX3_evaluate_120 rfl ?_
        refine s_callV (as := [(0, e), (0, c), (0, d)]) (rest := []) (n := o) (ci := 4) (gX3_evaluateHalf m ih) dX3_evaluate_121 m_1376 m_943 m_1671 m_717 m_291 ⟨by decide, by decide, show (parseMethodDescriptor yX3_evaluateHalf.desc).map (fun d => d.parameters.length) = some 3 from by decide +kernel⟩ (Nat.le_of_ble_eq_true rfl) (by rw [hcf]; omega) kM rfl rfl (Nat.le_of_ble_eq_true rfl) ⟨o, e, c, d, f, a, b, rfl, hC, hab, (by assumption), (by omega), (by assumption), (by omega), (by omega), (by assumption), (by omega), (by omega), (by omega), fun rr14 G13 hCG13 hXG13 hfG13 hpG13 => ?_⟩
        have hFG13 : WX (fun x => x = o ∨ (o + 20 ≤ x ∧ x ≤ o + 24)) G G13 := WX.trans WX.rf KX.rf (WX.mono hfG13 rg0)
        have hOG13 : ∀ j, j ≠ 10 → gS G13 o j = gS G o j := fun j hj => (hpG13.2.2.2.1 j hj).trans (hO j hj)
        have hMCG13 : MC G13 o f := hMC.cg (hpG13.2.2.2.1 9 (by decide)) (hfG13 (o + 1) (KX.al KX.rf (kne kM1 (by decide))) rg1) (hfG13 (o + 5) (KX.al KX.rf (kne kM5 (by decide))) rg2)
        have hAQG13 : AQC G13 o f := hpG13.2.2.2.2
        have hP81G13 : gS G13 327681 = gS G 327681 := (hfG13 327681 (KX.al KX.rf (kne kMp (by decide))) rg3).trans hP81
        have hP01G13 : gS G13 327701 = gS G 327701 := (hfG13 327701 (KX.al KX.rf (kne kMp5 (by decide))) rg4).trans hP01
        have hP02G13 : gS G13 327702 = gS G 327702 := (hfG13 327702 (KX.al KX.rf (kne kMp6 (by decide))) rg5).trans hP02
        have hP03G13 : gS G13 327703 = gS G 327703 := (hfG13 327703 (KX.al KX.rf (kne kMp7 (by decide))) rg6).trans hP03
        have hP04G13 : gS G13 327704 = gS G 327704 := (hfG13 327704 (KX.al KX.rf (kne kMp8 (by decide))) rg7).trans hP04
        have hP05G13 : gS G13 327705 = gS G 327705 := (hfG13 327705 (KX.al KX.rf (kne kMp9 (by decide))) rg8).trans hP05
        show WP kX3_evaluate X 124 [some (2, ((o : Nat) : Int)), some (0, e), some (0, c), some (0, d)] [(0, rr14)] G13
        exact s_iret hR dX3_evaluate_124 rfl (hQ rr14 G13 hCG13 hXG13 hFG13 ⟨by omega, by omega, by omega, hOG13, hAQG13⟩)
      by_cases c6_4 : (gS G 327701 ((e : Int).toNat)) = 4
      · -- case 4
        refine s_tableIn (tgt := 109) (off := 87) dX3_evaluate_22 (by omega) (by omega) (by rw [c6_4]; rfl) (by decide) ?_
        refine s_aload_n dX3_evaluate_109 rfl (Int.natCast_nonneg _) ?_
        refine s_iload_n dX3_evaluate_110 rfl ?_
        refine s_iload_n dX3_evaluate_111 rfl ?_
        refine s_iload_n dX3_evaluate_112 rfl ?_
        refine s_callV (as := [(0, e), (0, c), (0, d)]) (rest := []) (n := o) (ci := 4) (gX3_evaluateWhen m ih) dX3_evaluate_113 m_1375 m_945 m_1673 m_717 m_293 ⟨by decide, by decide, show (parseMethodDescriptor yX3_evaluateWhen.desc).map (fun d => d.parameters.length) = some 3 from by decide +kernel⟩ (Nat.le_of_ble_eq_true rfl) (by rw [hcf]; omega) kM rfl rfl (Nat.le_of_ble_eq_true rfl) ⟨o, e, c, d, f, a, b, rfl, hC, hab, (by assumption), (by omega), (by assumption), (by omega), (by omega), (by assumption), (by omega), (by omega), (by omega), fun rr16 G15 hCG15 hXG15 hfG15 hpG15 => ?_⟩
        have hFG15 : WX (fun x => x = o ∨ (o + 20 ≤ x ∧ x ≤ o + 24)) G G15 := WX.trans WX.rf KX.rf (WX.mono hfG15 rg0)
        have hOG15 : ∀ j, j ≠ 10 → gS G15 o j = gS G o j := fun j hj => (hpG15.2.2.2.1 j hj).trans (hO j hj)
        have hMCG15 : MC G15 o f := hMC.cg (hpG15.2.2.2.1 9 (by decide)) (hfG15 (o + 1) (KX.al KX.rf (kne kM1 (by decide))) rg1) (hfG15 (o + 5) (KX.al KX.rf (kne kM5 (by decide))) rg2)
        have hAQG15 : AQC G15 o f := hpG15.2.2.2.2
        have hP81G15 : gS G15 327681 = gS G 327681 := (hfG15 327681 (KX.al KX.rf (kne kMp (by decide))) rg3).trans hP81
        have hP01G15 : gS G15 327701 = gS G 327701 := (hfG15 327701 (KX.al KX.rf (kne kMp5 (by decide))) rg4).trans hP01
        have hP02G15 : gS G15 327702 = gS G 327702 := (hfG15 327702 (KX.al KX.rf (kne kMp6 (by decide))) rg5).trans hP02
        have hP03G15 : gS G15 327703 = gS G 327703 := (hfG15 327703 (KX.al KX.rf (kne kMp7 (by decide))) rg6).trans hP03
        have hP04G15 : gS G15 327704 = gS G 327704 := (hfG15 327704 (KX.al KX.rf (kne kMp8 (by decide))) rg7).trans hP04
        have hP05G15 : gS G15 327705 = gS G 327705 := (hfG15 327705 (KX.al KX.rf (kne kMp9 (by decide))) rg8).trans hP05
        show WP kX3_evaluate X 116 [some (2, ((o : Nat) : Int)), some (0, e), some (0, c), some (0, d)] [(0, rr16)] G15
        exact s_iret hR dX3_evaluate_116 rfl (hQ rr16 G15 hCG15 hXG15 hFG15 ⟨by omega, by omega, by omega, hOG15, hAQG15⟩)
      by_cases c6_5 : (gS G 327701 ((e : Int).toNat)) = 5
      · -- case 5
        refine s_tableIn (tgt := 64) (off := 42) dX3_evaluate_22 (by omega) (by omega) (by rw [c6_5]; rfl) (by decide) ?_
        refine s_aload_n dX3_evaluate_64 rfl (Int.natCast_nonneg _) ?_
        have hv17 : gS G o 12 = ((o + 20 : Nat) : Int) := by have h9 : (gS G o 12) = (((o % 1048576) + 20 : Nat) : Int) := hC.1.v (j := 12) (by rw [cde_m (by omega) (by omega)]; omega : cde o = 300) (kne kM (by decide)) (by rw [kM]; exact Nat.le_of_ble_eq_true rfl); omega
        refine s_getf (ci := 4) (k := 12) (C := RX3) (T := TX3) (N := 18) (n := o) (L := 0) (t := 2) dX3_evaluate_65 rfl wi_71 m_618 (Nat.le_of_ble_eq_true rfl) rfl rfl kM hv17 ?_
        refine s_aload_n dX3_evaluate_68 rfl (Int.natCast_nonneg _) ?_
        have hv18 : gS G o 0 = ((327681 : Nat) : Int) := by have h9 : (gS G o 0) = 327681 := hC.1.v (j := 0) (by rw [cde_m (by omega) (by omega)]; omega : cde o = 300) (kne kM (by decide)) (by rw [kM]; exact Nat.le_of_ble_eq_true rfl); omega
        refine s_getf (ci := 4) (k := 0) (C := RX3) (T := TX3) (N := 18) (n := o) (L := 0) (t := 2) dX3_evaluate_69 rfl wi_71 m_621 (Nat.le_of_ble_eq_true rfl) rfl rfl kM hv18 ?_
        have hv19 : gS G 327681 6 = ((327702 : Nat) : Int) := by have h9 : (gS G 327681 6) = 327702 := hC.1.v (j := 6) (by decide : cde 327681 = 501) (kne kMp (by decide)) (by rw [kMp]; exact Nat.le_of_ble_eq_true rfl); omega
        refine s_getf (ci := 6) (k := 6) (C := RX5) (T := TX5) (N := 18) (n := 327681) (L := 0) (t := 2) dX3_evaluate_72 rfl wi_73 m_611 (Nat.le_of_ble_eq_true rfl) rfl rfl kMp hv19 ?_
        refine s_iload_n dX3_evaluate_75 rfl ?_
        refine s_iald dX3_evaluate_76 kMp6 (by omega) (by omega) rfl ?_
        refine s_iconst dX3_evaluate_77 (by decide) ?_
        refine s_callV (as := [(0, gS G 327702 ((e : Int).toNat)), (0, (-1))]) (rest := []) (n := o + 20) (ci := 10) gX9_add dX3_evaluate_78 m_1372 m_1012 m_1734 m_723 m_360 ⟨by decide, by decide, show (parseMethodDescriptor yX9_add.desc).map (fun d => d.parameters.length) = some 2 from by decide +kernel⟩ (Nat.le_of_ble_eq_true rfl) (by rw [hcf]; omega) kM20 rfl rfl (Nat.le_of_ble_eq_true rfl) ⟨o + 20, gS G 327702 ((e : Int).toNat), (-1), a, b, rfl, hC, hab, (by omega), (by omega), (by omega), fun rr21 G20 hCG20 hXG20 hfG20 hpG20 => ?_⟩
        have hFG20 : WX (fun x => x = o ∨ (o + 20 ≤ x ∧ x ≤ o + 24)) G G20 := WX.trans WX.rf KX.rf (WX.mono hfG20 rg9)
        have hOG20 : ∀ j, j ≠ 10 → gS G20 o j = gS G o j := fun j hj => (congrFun (hfG20 o (KX.al KX.rf (kne kM (by decide))) rg10) j).trans (hO j hj)
        have hMCG20 : MC G20 o f := hMC.cg (congrFun (hfG20 (o) (KX.al KX.rf (kne kM (by decide))) rg10) 9) (hfG20 (o + 1) (KX.al KX.rf (kne kM1 (by decide))) rg11) (hfG20 (o + 5) (KX.al KX.rf (kne kM5 (by decide))) rg12)
        have hAQG20 : AQC G20 o f := hAQ.cg (congrFun (hfG20 (o) (KX.al KX.rf (kne kM (by decide))) rg10) 9) (congrFun (hfG20 (o) (KX.al KX.rf (kne kM (by decide))) rg10) 10) (hfG20 (o + 1) (KX.al KX.rf (kne kM1 (by decide))) rg11)
        have hP81G20 : gS G20 327681 = gS G 327681 := (hfG20 327681 (KX.al KX.rf (kne kMp (by decide))) rg13).trans hP81
        have hP01G20 : gS G20 327701 = gS G 327701 := (hfG20 327701 (KX.al KX.rf (kne kMp5 (by decide))) rg14).trans hP01
        have hP02G20 : gS G20 327702 = gS G 327702 := (hfG20 327702 (KX.al KX.rf (kne kMp6 (by decide))) rg15).trans hP02
        have hP03G20 : gS G20 327703 = gS G 327703 := (hfG20 327703 (KX.al KX.rf (kne kMp7 (by decide))) rg16).trans hP03
        have hP04G20 : gS G20 327704 = gS G 327704 := (hfG20 327704 (KX.al KX.rf (kne kMp8 (by decide))) rg17).trans hP04
        have hP05G20 : gS G20 327705 = gS G 327705 := (hfG20 327705 (KX.al KX.rf (kne kMp9 (by decide))) rg18).trans hP05
        show WP kX3_evaluate X 81 [some (2, ((o : Nat) : Int)), some (0, e), some (0, c), some (0, d)] [(0, rr21)] G20
        have hcvG20 := hCG20.cntV (o := o + 20) (by omega) (KX.al hXG20 (kne kM20 (by decide)))
        exact s_iret hR dX3_evaluate_81 rfl (hQ rr21 G20 hCG20 hXG20 hFG20 ⟨by omega, by omega, by omega, hOG20, hAQG20⟩)
      by_cases c6_6 : (gS G 327701 ((e : Int).toNat)) = 6
      · -- case 6
        refine s_tableIn (tgt := 82) (off := 60) dX3_evaluate_22 (by omega) (by omega) (by rw [c6_6]; rfl) (by decide) ?_
        refine s_aload_n dX3_evaluate_82 rfl (Int.natCast_nonneg _) ?_
        refine s_aload_n dX3_evaluate_83 rfl (Int.natCast_nonneg _) ?_
        refine s_iload_n dX3_evaluate_84 rfl ?_
        refine s_aload_n dX3_evaluate_85 rfl (Int.natCast_nonneg _) ?_
        have hv22 : gS G o 0 = ((327681 : Nat) : Int) := by have h9 : (gS G o 0) = 327681 := hC.1.v (j := 0) (by rw [cde_m (by omega) (by omega)]; omega : cde o = 300) (kne kM (by decide)) (by rw [kM]; exact Nat.le_of_ble_eq_true rfl); omega
        refine s_getf (ci := 4) (k := 0) (C := RX3) (T := TX3) (N := 18) (n := o) (L := 0) (t := 2) dX3_evaluate_86 rfl wi_71 m_621 (Nat.le_of_ble_eq_true rfl) rfl rfl kM hv22 ?_
        have hv23 : gS G 327681 6 = ((327702 : Nat) : Int) := by have h9 : (gS G 327681 6) = 327702 := hC.1.v (j := 6) (by decide : cde 327681 = 501) (kne kMp (by decide)) (by rw [kMp]; exact Nat.le_of_ble_eq_true rfl); omega
        refine s_getf (ci := 6) (k := 6) (C := RX5) (T := TX5) (N := 18) (n := 327681) (L := 0) (t := 2) dX3_evaluate_89 rfl wi_73 m_611 (Nat.le_of_ble_eq_true rfl) rfl rfl kMp hv23 ?_
        refine s_iload_n dX3_evaluate_92 rfl ?_
        refine s_iald dX3_evaluate_93 kMp6 (by omega) (by omega) rfl ?_
        have h6 := hC.2.2.2.2.2.2.1.w (e := e) (by omega) (by omega)
        refine s_callV (as := [(0, c), (0, gS G 327702 ((e : Int).toNat))]) (rest := [(2, ((o : Nat) : Int))]) (n := o) (ci := 4) gX3_target dX3_evaluate_94 m_1364 m_967 m_1694 m_717 m_315 ⟨by decide, by decide, show (parseMethodDescriptor yX3_target.desc).map (fun d => d.parameters.length) = some 2 from by decide +kernel⟩ (Nat.le_of_ble_eq_true rfl) (by rw [hcf]; omega) kM rfl rfl (Nat.le_of_ble_eq_true rfl) ⟨o, c, gS G 327702 ((e : Int).toNat), a, b, rfl, hC, hab, (by assumption), (by omega), (by omega), fun rr24 hp25 => ?_⟩
        show WP kX3_evaluate X 97 [some (2, ((o : Nat) : Int)), some (0, e), some (0, c), some (0, d)] [(0, rr24), (2, ((o : Nat) : Int))] G
        have hmc := hMC (c - c % 10 + gS G 327702 (e : Int).toNat) (by omega) (by omega)
        refine s_callV (as := [(0, rr24)]) (rest := []) (n := o) (ci := 4) gX3_evaluateRef dX3_evaluate_97 m_1373 m_944 m_1672 m_717 m_292 ⟨by decide, by decide, show (parseMethodDescriptor yX3_evaluateRef.desc).map (fun d => d.parameters.length) = some 1 from by decide +kernel⟩ (Nat.le_of_ble_eq_true rfl) (by rw [hcf]; omega) kM rfl rfl (Nat.le_of_ble_eq_true rfl) ⟨o, rr24, f, a, b, rfl, hC, hab, (by assumption), (by omega), (by rw [hp25]; omega), (by assumption), (by omega), fun rr27 G26 hCG26 hXG26 hfG26 hpG26 => ?_⟩
        have hFG26 : WX (fun x => x = o ∨ (o + 20 ≤ x ∧ x ≤ o + 24)) G G26 := WX.trans WX.rf KX.rf (WX.mono hfG26 rg19)
        have hOG26 : ∀ j, j ≠ 10 → gS G26 o j = gS G o j := fun j hj => (hpG26.2.2.2.1 j hj).trans (hO j hj)
        have hMCG26 : MC G26 o f := hMC.cg (hpG26.2.2.2.1 9 (by decide)) (hfG26 (o + 1) (KX.al KX.rf (kne kM1 (by decide))) rg20) (hfG26 (o + 5) (KX.al KX.rf (kne kM5 (by decide))) rg21)
        have hAQG26 : AQC G26 o f := hpG26.2.2.2.2
        have hP81G26 : gS G26 327681 = gS G 327681 := (hfG26 327681 (KX.al KX.rf (kne kMp (by decide))) rg22).trans hP81
        have hP01G26 : gS G26 327701 = gS G 327701 := (hfG26 327701 (KX.al KX.rf (kne kMp5 (by decide))) rg23).trans hP01
        have hP02G26 : gS G26 327702 = gS G 327702 := (hfG26 327702 (KX.al KX.rf (kne kMp6 (by decide))) rg24).trans hP02
        have hP03G26 : gS G26 327703 = gS G 327703 := (hfG26 327703 (KX.al KX.rf (kne kMp7 (by decide))) rg25).trans hP03
        have hP04G26 : gS G26 327704 = gS G 327704 := (hfG26 327704 (KX.al KX.rf (kne kMp8 (by decide))) rg26).trans hP04
        have hP05G26 : gS G26 327705 = gS G 327705 := (hfG26 327705 (KX.al KX.rf (kne kMp9 (by decide))) rg27).trans hP05
        show WP kX3_evaluate X 100 [some (2, ((o : Nat) : Int)), some (0, e), some (0, c), some (0, d)] [(0, rr27)] G26
        exact s_iret hR dX3_evaluate_100 rfl (hQ rr27 G26 hCG26 hXG26 hFG26 ⟨by omega, by omega, by omega, hOG26, hAQG26⟩)
      exfalso; omega
    · -- 7 to 10
      refine s_bipush dX3_evaluate_10 rfl (by decide) ?_
      exact s_iret hR dX3_evaluate_12 rfl (hQ ((-3)) G hC KX.rf WX.rf ⟨by omega, by omega, by omega, hO, hAQ⟩)

theorem gX3_evaluate0 : Good kX3_evaluate yX3_evaluate 8 (TX3_evaluate 0) := by
  refine good_of (by decide) rfl rfl (fun as G Qr h => ?_) (fun X as G Qr hcf hR hT oa => ?_)
  · obtain ⟨o, e, c, d, f, a, b, rfl, -⟩ := h; exact Nat.le_of_ble_eq_true rfl
  obtain ⟨o, e, c, d, f, a, b, rfl, hC, hab, ho, hf0, hMC, hc, he, hAQ, hd, hw, hQ⟩ := hT
  exfalso; omega
theorem gX3_evaluatem : ∀ m, Good kX3_evaluate yX3_evaluate (4 * m + 8) (TX3_evaluate m) := by
  intro m
  induction m with
  | zero => exact gX3_evaluate0
  | succ m ih => exact gX3_evaluate_s m ih
theorem gX3_evaluate : Good kX3_evaluate yX3_evaluate 64 (TX3_evaluate 14) := gX3_evaluatem 14
