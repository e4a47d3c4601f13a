abbrev kX3_open : KD := (RX3, cX3_open, 3, (some .int), [])
def TX3_open : TR := fun as G Qr => ∃ (o : Nat) (c d f : Int) (a b : Nat), as = [(2, ((o : Nat) : Int)), (0, c), (0, d)] ∧ CI a b G ∧ (a ≤ 2840000 ∧ b ≤ 590000) ∧ (isMc o) ∧ (0 ≤ f ∧ f ≤ 24) ∧ (c < 0 ∨ (10 * f ≤ c ∧ c < 10 * gS G o 9 ∧ 0 ≤ gS G (o + 1) c.toNat)) ∧ (0 ≤ d ∧ d ≤ 240) ∧ (SK G o f d) ∧ ∀ (r : Int) (G' : LG), CI a b G' → KX G G' → WX (fun x => x = o + 7 ∨ x = o + 8) G G' → ((0 ≤ r ∧ r ≤ 240) ∧ SK G' o f r ∧ ((unk G' (o + 7) 240 : Nat) : Int) + r = ((unk G (o + 7) 240 : Nat) : Int) + d) → Qr (.inl (some (0, r))) G'
set_option maxHeartbeats 4000000 in
set_option maxRecDepth 100000 in
theorem gX3_open : Good kX3_open yX3_open 0 TX3_open := by
  refine good_of (by decide) rfl rfl (fun as G Qr h => ?_) (fun X as G Qr hcf hR hT oa => ?_)
  · obtain ⟨o, c, d, f, a, b, rfl, -⟩ := h; exact Nat.le_of_ble_eq_true rfl
  obtain ⟨o, c, d, f, a, b, rfl, hC, hab, ho, hf0, hc, hd, hSK, hQ⟩ := hT
  show WP kX3_open X 0 [some (2, ((o : Nat) : Int)), some (0, c), some (0, d)] [] G
  have hr_c : inR c := okv_R (oa _ (by simp))
  have hr_d : inR d := okv_R (oa _ (by simp))
  refine s_alvl o (k := 0) rfl (fun alo => ?_)
  refine s_lk (fun hlk => ?_)
  have hmn := hlk.mna hC ho alo
  obtain ⟨kM, kM1, kM2, kM3, kM4, kM5, kM6, kM7, kM8, kM13, kM15, kM20, kMp, kMp5, kMp6, kMp7, kMp8, kMp9, kMp10, kMp13, kMp14, kMp16⟩ := id hmn
  have hin : 0 ≤ gS G o 9 ∧ gS G o 9 ≤ 24 := hC.1.v (c := 300) (j := 9) (by rcases ho with rfl | rfl <;> decide) alo (by rw [kM]; exact Nat.le_of_ble_eq_true rfl)
  refine s_iload_n dX3_open_0 rfl ?_
  refine s_if_lt (tgt := 21) dX3_open_1 (by decide) (fun c1 => ?_) (fun c1 => ?_)
  · -- 1 to 21
    refine s_iload_n dX3_open_21 rfl ?_
    exact s_iret hR dX3_open_22 rfl (hQ d G hC KX.rf WX.rf ⟨hd, hSK, rfl⟩)
  · -- 1 to 4
    have hc9 := hc.resolve_left (by omega)
    clear hc
    refine s_aload_n dX3_open_4 rfl (Int.natCast_nonneg _) ?_
    have hv2 : gS G o 7 = ((o + 7 : Nat) : Int) := by have h9 : (gS G o 7) = (((o % 1048576) + 7 : Nat) : Int) := hC.1.v (j := 7) (by rw [cde_m (by omega) (by omega)]; omega : cde o = 300) (kne kM (by decide)) (by rw [kM]; exact Nat.le_of_ble_eq_true rfl); omega
    refine s_getf (ci := 4) (k := 7) (C := RX3) (T := TX3) (N := 18) (n := o) (L := 0) (t := 2) dX3_open_5 rfl wi_71 m_616 (Nat.le_of_ble_eq_true rfl) rfl rfl kM hv2 ?_
    refine s_iload_n dX3_open_8 rfl ?_
    refine s_iald dX3_open_9 kM7 (by omega) (by omega) rfl ?_
    refine s_iconst dX3_open_10 (by decide) ?_
    refine s_icmp_ne (tgt := 21) dX3_open_11 (by decide) (fun c3 => ?_) (fun c3 => ?_)
    · -- 11 to 21
      refine s_iload_n dX3_open_21 rfl ?_
      exact s_iret hR dX3_open_22 rfl (hQ d G hC KX.rf WX.rf ⟨hd, hSK, rfl⟩)
    · -- 11 to 14
      refine s_iload_n dX3_open_14 rfl ?_
      refine s_sipush dX3_open_15 rfl (by decide) ?_
      refine s_icmp_lt (tgt := 23) dX3_open_18 (by decide) (fun c4 => ?_) (fun c4 => ?_)
      · -- 18 to 23
        refine s_aload_n dX3_open_23 rfl (Int.natCast_nonneg _) ?_
        have hv5 : gS G o 7 = ((o + 7 : Nat) : Int) := by have h9 : (gS G o 7) = (((o % 1048576) + 7 : Nat) : Int) := hC.1.v (j := 7) (by rw [cde_m (by omega) (by omega)]; omega : cde o = 300) (kne kM (by decide)) (by rw [kM]; exact Nat.le_of_ble_eq_true rfl); omega
        refine s_getf (ci := 4) (k := 7) (C := RX3) (T := TX3) (N := 18) (n := o) (L := 0) (t := 2) dX3_open_24 rfl wi_71 m_616 (Nat.le_of_ble_eq_true rfl) rfl rfl kM hv5 ?_
        refine s_iload_n dX3_open_27 rfl ?_
        refine s_bipush dX3_open_28 rfl (by decide) ?_
        refine s_iast dX3_open_30 kM7 (by omega) (by omega) ?_
        generalize eG6r : gset G (o + 7) ((c : Int).toNat) ((-2)) = G6
        have eG6 := eG6r.symm
        have hCG6 : CI a b G6 := by rw [eG6]; exact hC.state (o := o + 20) (by omega) (Or.inl (by omega)) (by have := lenV.nn (G := G) (o := o + 20); omega)
        have hXG6 : KX G G6 := KX.set KX.rf eG6
        have hFG6 : WX (fun x => x = o + 7 ∨ x = o + 8) G G6 := WX.set WX.rf eG6 (by show _; omega)
        show WP kX3_open X 31 [some (2, ((o : Nat) : Int)), some (0, c), some (0, d)] [] G6
        refine s_aload_n dX3_open_31 rfl (Int.natCast_nonneg _) ?_
        have hk7 : gK G6 (o) = (12, 0) := ((hXG6).k kM (by decide))
        refine s_alv (o) (by simp) (fun (al8 : AL G6 o) => ?_)
        have hv9 : gS G6 o 8 = ((o + 8 : Nat) : Int) := by have h9 : (gS G6 o 8) = (((o % 1048576) + 8 : Nat) : Int) := hCG6.1.v (j := 8) (by rw [cde_m (by omega) (by omega)]; omega : cde o = 300) al8 (by rw [hk7]; exact Nat.le_of_ble_eq_true rfl); omega
        refine s_getf (ci := 4) (k := 8) (C := RX3) (T := TX3) (N := 18) (n := o) (L := 0) (t := 2) dX3_open_32 rfl wi_71 m_617 (Nat.le_of_ble_eq_true rfl) rfl rfl hk7 hv9 ?_
        refine s_iload_n dX3_open_35 rfl ?_
        refine s_iload_n dX3_open_36 rfl ?_
        have hk10 : gK G6 (o + 8) = (1, 240) := ((hXG6).k kM8 (by decide))
        refine s_iast dX3_open_37 hk10 (by omega) (by omega) ?_
        generalize eG11r : gset G6 (o + 8) ((d : Int).toNat) c = G11
        have eG11 := eG11r.symm
        have hCG11 : CI a b G11 := by rw [eG11]; exact hCG6.set (by rw [(by rw [cde_m (by omega) (by omega)]; omega : cde (o + 8) = 308)]; rfl) (by rw [(by rw [cde_m (by omega) (by omega)]; omega : cde (o + 8) = 308)]; exact (show 0 ≤ c ∧ c ≤ 239 from by omega))
        have hXG11 : KX G6 G11 := KX.set KX.rf eG11
        have hFG11 : WX (fun x => x = o + 7 ∨ x = o + 8) G G11 := WX.set hFG6 eG11 (by show _; omega)
        show WP kX3_open X 38 [some (2, ((o : Nat) : Int)), some (0, c), some (0, d)] [] G11
        have x9 : gS G11 o = gS G o := (gset_o eG11 (by omega)).trans (gset_o eG6 (by omega))
        have x1 : gS G11 (o + 1) = gS G (o + 1) := (gset_o eG11 (by omega)).trans (gset_o eG6 (by omega))
        have x8 : gS G6 (o + 8) = gS G (o + 8) := gset_o eG6 (by omega)
        have hS3 : SK G11 o f (d + 1) := hSK.push (congrFun x9 9) x1 (fun j hj => by rw [eG11, gset_ne _ _ (fun z => hj z.2), x8]) (gsaE eG11) (by omega) hc9
        have hu := unk.set eG6 240
        rw [if_pos ⟨by omega, by omega⟩, if_neg (by omega)] at hu
        have hu2 : unk G11 (o + 7) 240 = unk G6 (o + 7) 240 := unk.cg (gset_o eG11 (by omega)) 240
        refine s_iload_n dX3_open_38 rfl ?_
        refine s_iconst dX3_open_39 (by decide) ?_
        refine s_iadd dX3_open_40 (by omega) ?_
        exact s_iret hR dX3_open_41 rfl (hQ (d + 1) G11 hCG11 (KX.trans hXG6 hXG11) hFG11 ⟨by omega, hS3, by omega⟩)
      · -- 18 to 21
        refine s_iload_n dX3_open_21 rfl ?_
        exact s_iret hR dX3_open_22 rfl (hQ d G hC KX.rf WX.rf ⟨hd, hSK, rfl⟩)

abbrev kX3_close : KD := (RX3, cX3_close, 3, none, [])
def TX3_close : TR := fun as G Qr => ∃ (o : Nat) (c v : Int) (a b : Nat), as = [(2, ((o : Nat) : Int)), (0, c), (0, v)] ∧ CI a b G ∧ (a ≤ 2840000 ∧ b ≤ 590000) ∧ (isMc o) ∧ (0 ≤ c ∧ c < 240) ∧ (v < lenV G (o + 20)) ∧ (¬ v = -1) ∧ ∀ (G' : LG), CI a b G' → KX G G' → WX (fun x => x = o ∨ x = o + 7 ∨ x = o + 13) G G' → ((∀ j, j ≠ 14 → gS G' o j = gS G o j) ∧ unk G' (o + 7) 240 ≤ unk G (o + 7) 240) → Qr (.inl none) G'
set_option maxHeartbeats 4000000 in
set_option maxRecDepth 100000 in
theorem gX3_close : Good kX3_close yX3_close 2 TX3_close := by
  refine good_of (by decide) rfl rfl (fun as G Qr h => ?_) (fun X as G Qr hcf hR hT oa => ?_)
  · obtain ⟨o, c, v, a, b, rfl, -⟩ := h; exact Nat.le_of_ble_eq_true rfl
  obtain ⟨o, c, v, a, b, rfl, hC, hab, ho, hc, hv, hv1, hQ⟩ := hT
  show WP kX3_close X 0 [some (2, ((o : Nat) : Int)), some (0, c), some (0, v)] [] G
  have hr_c : inR c := okv_R (oa _ (by simp))
  have hr_v : inR v := okv_R (oa _ (by simp))
  refine s_alvl o (k := 0) rfl (fun alo => ?_)
  refine s_lk (fun hlk => ?_)
  have hmn := hlk.mna hC ho alo
  obtain ⟨kM, kM1, kM2, kM3, kM4, kM5, kM6, kM7, kM8, kM13, kM15, kM20, kMp, kMp5, kMp6, kMp7, kMp8, kMp9, kMp10, kMp13, kMp14, kMp16⟩ := id hmn
  have hin : 0 ≤ gS G o 9 ∧ gS G o 9 ≤ 24 := hC.1.v (c := 300) (j := 9) (by rcases ho with rfl | rfl <;> decide) alo (by rw [kM]; exact Nat.le_of_ble_eq_true rfl)
  refine s_aload_n dX3_close_0 rfl (Int.natCast_nonneg _) ?_
  have hv1 : gS G o 7 = ((o + 7 : Nat) : Int) := by have h9 : (gS G o 7) = (((o % 1048576) + 7 : Nat) : Int) := hC.1.v (j := 7) (by rw [cde_m (by omega) (by omega)]; omega : cde o = 300) (kne kM (by decide)) (by rw [kM]; exact Nat.le_of_ble_eq_true rfl); omega
  refine s_getf (ci := 4) (k := 7) (C := RX3) (T := TX3) (N := 18) (n := o) (L := 0) (t := 2) dX3_close_1 rfl wi_71 m_616 (Nat.le_of_ble_eq_true rfl) rfl rfl kM hv1 ?_
  refine s_iload_n dX3_close_4 rfl ?_
  refine s_iload_n dX3_close_5 rfl ?_
  refine s_iast dX3_close_6 kM7 (by omega) (by omega) ?_
  generalize eG2r : gset G (o + 7) ((c : Int).toNat) v = G2
  have eG2 := eG2r.symm
  have hCG2 : CI a b G2 := by rw [eG2]; exact hC.state (o := o + 20) (by omega) (Or.inl (by omega)) hv
  have hXG2 : KX G G2 := KX.set KX.rf eG2
  have hFG2 : WX (fun x => x = o ∨ x = o + 7 ∨ x = o + 13) G G2 := WX.set WX.rf eG2 (by show _; omega)
  show WP kX3_close X 7 [some (2, ((o : Nat) : Int)), some (0, c), some (0, v)] [] G2
  have hu := unk.set eG2 240
  have hu9 : unk G2 (o + 7) 240 ≤ unk G (o + 7) 240 := by rw [if_neg (by omega)] at hu; omega
  have hl7 : lenV G2 (o + 20) = lenV G (o + 20) := lenV.cg (by rw [gset_o eG2 (x := o + 20) (by omega)]) (by rw [eG2]; rfl)
  have ho7 : gS G2 o = gS G o := gset_o eG2 (by omega)
  refine s_iload_n dX3_close_7 rfl ?_
  refine s_if_lt (tgt := 59) dX3_close_8 (by decide) (fun c3 => ?_) (fun c3 => ?_)
  · -- 8 to 59
    exact s_vret hR dX3_close_59 rfl (hQ G2 hCG2 hXG2 hFG2 ⟨fun j _ => congrFun ho7 j, hu9⟩)
  · -- 8 to 11
    refine s_aload_n dX3_close_11 rfl (Int.natCast_nonneg _) ?_
    have hk4 : gK G2 (o) = (12, 0) := ((hXG2).k kM (by decide))
    refine s_alv (o) (by simp) (fun (al5 : AL G2 o) => ?_)
    have hv6 : gS G2 o 2 = ((o + 2 : Nat) : Int) := by have h9 : (gS G2 o 2) = (((o % 1048576) + 2 : Nat) : Int) := hCG2.1.v (j := 2) (by rw [cde_m (by omega) (by omega)]; omega : cde o = 300) al5 (by rw [hk4]; exact Nat.le_of_ble_eq_true rfl); omega
    refine s_getf (ci := 4) (k := 2) (C := RX3) (T := TX3) (N := 18) (n := o) (L := 0) (t := 2) dX3_close_12 rfl wi_71 m_598 (Nat.le_of_ble_eq_true rfl) rfl rfl hk4 hv6 ?_
    refine s_iload_n dX3_close_15 rfl ?_
    have hk7 : gK G2 (o + 2) = (1, 240) := ((hXG2).k kM2 (by decide))
    refine s_iald dX3_close_16 hk7 (by omega) (by omega) rfl ?_
    refine s_iconst dX3_close_17 (by decide) ?_
    refine s_iand dX3_close_18 ?_
    refine s_if_eq (tgt := 59) dX3_close_19 (by decide) (fun c8 => ?_) (fun c8 => ?_)
    · -- 19 to 59
      exact s_vret hR dX3_close_59 rfl (hQ G2 hCG2 hXG2 hFG2 ⟨fun j _ => congrFun ho7 j, hu9⟩)
    · -- 19 to 22
      refine s_aload_n dX3_close_22 rfl (Int.natCast_nonneg _) ?_
      have hv9 : 0 ≤ (gS G2 o 14) ∧ (gS G2 o 14) ≤ 240 := hCG2.1.v (j := 14) (by rw [cde_m (by omega) (by omega)]; omega : cde o = 300) al5 (by rw [hk4]; exact Nat.le_of_ble_eq_true rfl)
      refine s_getf (ci := 4) (k := 14) (C := RX3) (T := TX3) (N := 18) (n := o) (L := 0) (t := 0) dX3_close_23 rfl wi_71 m_607 (Nat.le_of_ble_eq_true rfl) rfl rfl hk4 rfl ?_
      refine s_sipush dX3_close_26 rfl (by decide) ?_
      refine s_icmp_ge (tgt := 59) dX3_close_29 (by decide) (fun c10 => ?_) (fun c10 => ?_)
      · -- 29 to 59
        exact s_vret hR dX3_close_59 rfl (hQ G2 hCG2 hXG2 hFG2 ⟨fun j _ => congrFun ho7 j, hu9⟩)
      · -- 29 to 32
        refine s_aload_n dX3_close_32 rfl (Int.natCast_nonneg _) ?_
        have hv11 : gS G2 o 13 = ((o + 13 : Nat) : Int) := by have h9 : (gS G2 o 13) = (((o % 1048576) + 13 : Nat) : Int) := hCG2.1.v (j := 13) (by rw [cde_m (by omega) (by omega)]; omega : cde o = 300) al5 (by rw [hk4]; exact Nat.le_of_ble_eq_true rfl); omega
        refine s_getf (ci := 4) (k := 13) (C := RX3) (T := TX3) (N := 18) (n := o) (L := 0) (t := 2) dX3_close_33 rfl wi_71 m_619 (Nat.le_of_ble_eq_true rfl) rfl rfl hk4 hv11 ?_
        refine s_aload_n dX3_close_36 rfl (Int.natCast_nonneg _) ?_
        refine s_getf (ci := 4) (k := 14) (C := RX3) (T := TX3) (N := 18) (n := o) (L := 0) (t := 0) dX3_close_37 rfl wi_71 m_607 (Nat.le_of_ble_eq_true rfl) rfl rfl hk4 rfl ?_
        refine s_aload_n dX3_close_40 rfl (Int.natCast_nonneg _) ?_
        have hv13 : gS G2 o 12 = ((o + 20 : Nat) : Int) := by have h9 : (gS G2 o 12) = (((o % 1048576) + 20 : Nat) : Int) := hCG2.1.v (j := 12) (by rw [cde_m (by omega) (by omega)]; omega : cde o = 300) al5 (by rw [hk4]; exact Nat.le_of_ble_eq_true rfl); omega
        refine s_getf (ci := 4) (k := 12) (C := RX3) (T := TX3) (N := 18) (n := o) (L := 0) (t := 2) dX3_close_41 rfl wi_71 m_618 (Nat.le_of_ble_eq_true rfl) rfl rfl hk4 hv13 ?_
        refine s_iload_n dX3_close_44 rfl ?_
        have hk16 : gK G2 (o + 20) = (18, 0) := ((hXG2).k kM20 (by decide))
        refine s_callV (as := [(0, v)]) (rest := [(0, gS G2 o 14), (2, ((o + 13 : Nat) : Int))]) (n := o + 20) (ci := 10) gX9_entryOf dX3_close_45 m_1371 m_1014 m_1736 m_723 m_362 ⟨by decide, by decide, show (parseMethodDescriptor yX9_entryOf.desc).map (fun d => d.parameters.length) = some 1 from by decide +kernel⟩ (Nat.le_of_ble_eq_true rfl) (by rw [hcf]; exact Nat.le_of_ble_eq_true rfl) hk16 rfl rfl (Nat.le_of_ble_eq_true rfl) ⟨o + 20, v, a, b, rfl, hCG2, hab, (by omega), (by omega), fun rr14 hp15 => ?_⟩
        show WP kX3_close X 48 [some (2, ((o : Nat) : Int)), some (0, c), some (0, v)] [(0, rr14), (0, gS G2 o 14), (2, ((o + 13 : Nat) : Int))] G2
        have hk17 : gK G2 (o + 13) = (1, 240) := ((hXG2).k kM13 (by decide))
        refine s_iast dX3_close_48 hk17 (by omega) (by omega) ?_
        generalize eG18r : gset G2 (o + 13) ((gS G2 o 14 : Int).toNat) rr14 = G18
        have eG18 := eG18r.symm
        have hCG18 : CI a b G18 := by rw [eG18]; exact hCG2.set (by rw [(by rw [cde_m (by omega) (by omega)]; omega : cde (o + 13) = 313)]; rfl) (by rw [(by rw [cde_m (by omega) (by omega)]; omega : cde (o + 13) = 313)]; exact trivial)
        have hXG18 : KX G2 G18 := KX.set KX.rf eG18
        have hFG18 : WX (fun x => x = o ∨ x = o + 7 ∨ x = o + 13) G G18 := WX.set hFG2 eG18 (by show _; omega)
        show WP kX3_close X 49 [some (2, ((o : Nat) : Int)), some (0, c), some (0, v)] [] G18
        refine s_aload_n dX3_close_49 rfl (Int.natCast_nonneg _) ?_
        refine s_dup dX3_close_50 (show (2 : Nat) ≠ 1 by decide) ?_
        have hk19 : gK G18 (o) = (12, 0) := ((hXG18).k hk4 (by decide))
        refine s_alv (o) (by simp) (fun (al21 : AL G18 o) => ?_)
        have hv20 : 0 ≤ (gS G18 o 14) ∧ (gS G18 o 14) ≤ 240 := hCG18.1.v (j := 14) (by rw [cde_m (by omega) (by omega)]; omega : cde o = 300) al21 (by rw [hk19]; exact Nat.le_of_ble_eq_true rfl)
        refine s_getf (ci := 4) (k := 14) (C := RX3) (T := TX3) (N := 18) (n := o) (L := 0) (t := 0) dX3_close_51 rfl wi_71 m_607 (Nat.le_of_ble_eq_true rfl) rfl rfl hk19 rfl ?_
        refine s_iconst dX3_close_54 (by decide) ?_
        refine s_iadd dX3_close_55 (by omega) ?_
        refine s_putf (ci := 4) (k := 14) (C := RX3) (T := TX3) (N := 18) (n := o) (L := 0) dX3_close_56 rfl wi_71 m_607 (Nat.le_of_ble_eq_true rfl) rfl rfl tyX3_ok nmX3 rfl (Or.inl rfl) hk19 ?_
        generalize eG22r : gset G18 o 14 ((gS G18 o 14) + 1) = G22
        have eG22 := eG22r.symm
        have hCG22 : CI a b G22 := by rw [eG22]; exact hCG18.set (by rw [(by rw [cde_m (by omega) (by omega)]; omega : cde o = 300)]; rfl) (by rw [(by rw [cde_m (by omega) (by omega)]; omega : cde o = 300)]; exact (show 0 ≤ ((gS G18 o 14) + 1) ∧ ((gS G18 o 14) + 1) ≤ 240 from by omega))
        have hXG22 : KX G18 G22 := KX.set KX.rf eG22
        have hFG22 : WX (fun x => x = o ∨ x = o + 7 ∨ x = o + 13) G G22 := WX.set hFG18 eG22 (by show _; omega)
        show WP kX3_close X 59 [some (2, ((o : Nat) : Int)), some (0, c), some (0, v)] [] G22
        exact s_vret hR dX3_close_59 rfl (hQ G22 hCG22 (KX.trans (KX.trans hXG2 hXG18) hXG22) hFG22 ⟨fun j hj => by rw [eG22, gset_ne _ _ (fun z => hj z.2), gset_o eG18 (x := o) (by omega), ho7], by rw [unk.cg (gset_o eG22 (x := o + 7) (by omega)) 240, unk.cg (gset_o eG18 (x := o + 7) (by omega)) 240]; exact hu9⟩)

abbrev kX3_giveValue : KD := (RX3, cX3_giveValue, 7, none, [])
def TX3_giveValue : TR := fun as G Qr => ∃ (o : Nat) (c f : Int) (a b : Nat), as = [(2, ((o : Nat) : Int)), (0, c)] ∧ CI a b G ∧ (a ≤ 2840000 ∧ b ≤ 590000) ∧ (isMc o) ∧ (0 ≤ f ∧ f ≤ 24) ∧ (MI G o f) ∧ (MC G o f) ∧ (c < 0 ∨ (10 * f ≤ c ∧ c < 10 * gS G o 9 ∧ 0 ≤ gS G (o + 1) c.toNat)) ∧ (0 ≤ gS G (o + 20) 4 ∧ gS G (o + 20) 4 + 12 * (((unk G (o + 7) 240 : Nat) : Int)) ≤ 2880) ∧ ∀ (G' : LG), CI a b G' → KX G G' → WX (fun x => x = o ∨ x = o + 7 ∨ x = o + 8 ∨ x = o + 13 ∨ (o + 20 ≤ x ∧ x ≤ o + 24)) G G' → (gS G' o 9 = gS G o 9 ∧ 0 ≤ gS G' (o + 20) 4 ∧ gS G' (o + 20) 4 + 12 * (((unk G' (o + 7) 240 : Nat) : Int)) ≤ 2880) → Qr (.inl none) G'
set_option maxHeartbeats 4000000 in
set_option maxRecDepth 100000 in
theorem gX3_giveValue : Good kX3_giveValue yX3_giveValue 65 TX3_giveValue := by
  refine good_of (by decide) rfl rfl (fun as G Qr h => ?_) (fun X as G Qr hcf hR hT oa => ?_)
  · obtain ⟨o, c, f, a, b, rfl, -⟩ := h; exact Nat.le_of_ble_eq_true rfl
  obtain ⟨o, c, f, a, b, rfl, hC, hab, ho, hf0, hMI, hMC, hc, hpt, hQ⟩ := hT
  show WP kX3_giveValue X 0 [some (2, ((o : Nat) : Int)), some (0, c), none, none, none, none, none] [] G
  have hr_c : inR c := okv_R (oa _ (by simp))
  have rg0 : RM (fun x => x = o + 7 ∨ x = o + 8) (fun x => x = o ∨ x = o + 7 ∨ x = o + 8 ∨ x = o + 13 ∨ (o + 20 ≤ x ∧ x ≤ o + 24)) := fun x hx => by (try dsimp only at hx ⊢); omega
  have rg1 : RNx (fun x => x = o + 7 ∨ x = o + 8) (o % 1048576) := by show ¬ _; omega
  have rg2 : RNx (fun x => x = o + 7 ∨ x = o + 8) ((o + 1) % 1048576) := by show ¬ _; omega
  have rg3 : RNx (fun x => x = o + 7 ∨ x = o + 8) ((o + 3) % 1048576) := by show ¬ _; omega
  have rg4 : RNx (fun x => x = o + 7 ∨ x = o + 8) ((o + 4) % 1048576) := by show ¬ _; omega
  have rg5 : RNx (fun x => x = o + 7 ∨ x = o + 8) (327681 % 1048576) := by show ¬ _; omega
  have rg6 : RNx (fun x => x = o + 7 ∨ x = o + 8) ((o + 5) % 1048576) := by show ¬ _; omega
  have rg7 : RNx (fun x => x = o % 1048576) ((o + 1) % 1048576) := by show ¬ _; omega
  have rg8 : RNx (fun x => x = o % 1048576) ((o + 3) % 1048576) := by show ¬ _; omega
  have rg9 : RNx (fun x => x = o % 1048576) ((o + 4) % 1048576) := by show ¬ _; omega
  have rg10 : RNx (fun x => x = o % 1048576) (327681 % 1048576) := by show ¬ _; omega
  have rg11 : RNx (fun x => x = o % 1048576) ((o + 5) % 1048576) := by show ¬ _; omega
  have rg12 : RM (fun x => x = o ∨ (o + 20 ≤ x ∧ x ≤ o + 24)) (fun x => x = o ∨ x = o + 7 ∨ x = o + 8 ∨ x = o + 13 ∨ (o + 20 ≤ x ∧ x ≤ o + 24)) := fun x hx => by (try dsimp only at hx ⊢); omega
  have rg13 : RNx (fun x => x = o ∨ (o + 20 ≤ x ∧ x ≤ o + 24)) ((o + 1) % 1048576) := by show ¬ _; omega
  have rg14 : RNx (fun x => x = o ∨ (o + 20 ≤ x ∧ x ≤ o + 24)) ((o + 3) % 1048576) := by show ¬ _; omega
  have rg15 : RNx (fun x => x = o ∨ (o + 20 ≤ x ∧ x ≤ o + 24)) ((o + 4) % 1048576) := by show ¬ _; omega
  have rg16 : RNx (fun x => x = o ∨ (o + 20 ≤ x ∧ x ≤ o + 24)) (327681 % 1048576) := by show ¬ _; omega
  have rg17 : RNx (fun x => x = o ∨ (o + 20 ≤ x ∧ x ≤ o + 24)) ((o + 5) % 1048576) := by show ¬ _; omega
  have rg18 : RM (fun x => x = o ∨ x = o + 7 ∨ x = o + 13) (fun x => x = o ∨ x = o + 7 ∨ x = o + 8 ∨ x = o + 13 ∨ (o + 20 ≤ x ∧ x ≤ o + 24)) := fun x hx => by (try dsimp only at hx ⊢); omega
  have rg19 : RNx (fun x => x = o ∨ x = o + 7 ∨ x = o + 13) ((o + 1) % 1048576) := by show ¬ _; omega
  have rg20 : RNx (fun x => x = o ∨ x = o + 7 ∨ x = o + 13) ((o + 3) % 1048576) := by show ¬ _; omega
  have rg21 : RNx (fun x => x = o ∨ x = o + 7 ∨ x = o + 13) ((o + 4) % 1048576) := by show ¬ _; omega
  have rg22 : RNx (fun x => x = o ∨ x = o + 7 ∨ x = o + 13) (327681 % 1048576) := by show ¬ _; omega
  have rg23 : RNx (fun x => x = o ∨ x = o + 7 ∨ x = o + 13) ((o + 5) % 1048576) := by show ¬ _; omega
  have rg24 : RNx (fun x => x = (o + 20) % 1048576) (o % 1048576) := by show ¬ _; omega
  have rg25 : RNx (fun x => x = (o + 20) % 1048576) ((o + 1) % 1048576) := by show ¬ _; omega
  have rg26 : RNx (fun x => x = (o + 20) % 1048576) ((o + 3) % 1048576) := by show ¬ _; omega
  have rg27 : RNx (fun x => x = (o + 20) % 1048576) ((o + 4) % 1048576) := by show ¬ _; omega
  have rg28 : RNx (fun x => x = (o + 20) % 1048576) (327681 % 1048576) := by show ¬ _; omega
  have rg29 : RNx (fun x => x = (o + 20) % 1048576) ((o + 5) % 1048576) := by show ¬ _; omega
  refine s_alvl o (k := 0) rfl (fun alo => ?_)
  refine s_lk (fun hlk => ?_)
  have hmn := hlk.mna hC ho alo
  obtain ⟨kM, kM1, kM2, kM3, kM4, kM5, kM6, kM7, kM8, kM13, kM15, kM20, kMp, kMp5, kMp6, kMp7, kMp8, kMp9, kMp10, kMp13, kMp14, kMp16⟩ := id hmn
  have hin : 0 ≤ gS G o 9 ∧ gS G o 9 ≤ 24 := hC.1.v (c := 300) (j := 9) (by rcases ho with rfl | rfl <;> decide) alo (by rw [kM]; exact Nat.le_of_ble_eq_true rfl)
  have hln := lenV.nn (G := G) (o := o + 20)
  have hI : gS G o 9 = gS G o 9 := rfl
  refine s_aload_n dX3_giveValue_0 rfl (Int.natCast_nonneg _) ?_
  refine s_iload_n dX3_giveValue_1 rfl ?_
  refine s_iconst dX3_giveValue_2 (by decide) ?_
  refine s_callV (as := [(0, c), (0, 0)]) (rest := []) (n := o) (ci := 4) gX3_open dX3_giveValue_3 m_1368 m_959 m_1686 m_717 m_307 ⟨by decide, by decide, show (parseMethodDescriptor yX3_open.desc).map (fun d => d.parameters.length) = some 2 from by decide +kernel⟩ (Nat.le_of_ble_eq_true rfl) (by rw [hcf]; exact Nat.le_of_ble_eq_true rfl) kM rfl rfl (Nat.le_of_ble_eq_true rfl) ⟨o, c, 0, f, a, b, rfl, hC, hab, (by assumption), (by omega), (by assumption), (by omega), (by intro i h0 h1; omega), fun rr2 G1 hCG1 hXG1 hfG1 hpG1 => ?_⟩
  have hFG1 : WX (fun x => x = o ∨ x = o + 7 ∨ x = o + 8 ∨ x = o + 13 ∨ (o + 20 ≤ x ∧ x ≤ o + 24)) G G1 := WX.trans WX.rf KX.rf (WX.mono hfG1 rg0)
  have hIG1 : gS G1 o 9 = gS G o 9 := (congrFun (hfG1 o (KX.al KX.rf (kne kM (by decide))) rg1) 9).trans hI
  have hMIG1 : MI G1 o f := hMI.cg (congrFun (hfG1 (o) (KX.al KX.rf (kne kM (by decide))) rg1) 9) (hfG1 (o + 1) (KX.al KX.rf (kne kM1 (by decide))) rg2) (hfG1 (o + 3) (KX.al KX.rf (kne kM3 (by decide))) rg3) (hfG1 (o + 4) (KX.al KX.rf (kne kM4 (by decide))) rg4) (congrFun (hfG1 (327681) (KX.al KX.rf (kne kMp (by decide))) rg5) 12)
  have hMCG1 : MC G1 o f := hMC.cg (congrFun (hfG1 (o) (KX.al KX.rf (kne kM (by decide))) rg1) 9) (hfG1 (o + 1) (KX.al KX.rf (kne kM1 (by decide))) rg2) (hfG1 (o + 5) (KX.al KX.rf (kne kM5 (by decide))) rg6)
  show WP kX3_giveValue X 6 [some (2, ((o : Nat) : Int)), some (0, c), none, none, none, none, none] [(0, rr2)] G1
  have ht0 : gS G1 (o + 20) 4 = gS G (o + 20) 4 := congrFun (hfG1 (o + 20) (kne kM20 (by decide)) (by show ¬ _; omega)) 4
  refine s_istore_n dX3_giveValue_6 (by decide) (lv' := [some (2, ((o : Nat) : Int)), some (0, c), some (0, rr2), none, none, none, none]) rfl ?_
  refine s_iconst dX3_giveValue_7 (by decide) ?_
  refine s_istore_n dX3_giveValue_8 (by decide) (lv' := [some (2, ((o : Nat) : Int)), some (0, c), some (0, rr2), some (0, 0), none, none, none]) rfl ?_
  have L3 : ∀ (n3 : Nat) (d3 : Int) (r3 : Int) (G3 : LG), CI a b G3 → KX G1 G3 → WX (fun x => x = o ∨ x = o + 7 ∨ x = o + 8 ∨ x = o + 13 ∨ (o + 20 ≤ x ∧ x ≤ o + 24)) G G3 → (((0 ≤ d3 ∧ d3 ≤ 240) ∧ 0 ≤ r3 ∧ r3 ≤ 480) ∧ (0 ≤ gS G3 (o + 20) 4 ∧ gS G3 (o + 20) 4 + 12 * (((unk G3 (o + 7) 240 : Nat) : Int) + d3) ≤ 2880) ∧ (SK G3 o f d3) ∧ (gS G3 o 9 = gS G o 9) ∧ (MI G3 o f) ∧ (MC G3 o f)) → (480 - r3).toNat < n3 → WP kX3_giveValue X 9 [some (2, ((o : Nat) : Int)), some (0, c), some (0, d3), some (0, r3), none, none, none] [] G3 := by
    intro n3
    induction n3 with
    | zero => intro d3 r3 G3 hCG3 hXG3 hFG3 hi3 hm3; exact absurd hm3 (Nat.not_lt_zero _)
    | succ n3 ih3 =>
      intro d3 r3 G3 hCG3 hXG3 hFG3 hi3 hm3
      obtain ⟨id3, ip3, iSK3, hIG3, hMIG3, hMCG3⟩ := hi3
      refine s_iload_n dX3_giveValue_9 rfl ?_
      refine s_sipush dX3_giveValue_10 rfl (by decide) ?_
      refine s_icmp_ge (tgt := 106) dX3_giveValue_13 (by decide) (fun c4 => ?_) (fun c4 => ?_)
      · -- 13 to 106
        exact s_vret hR dX3_giveValue_106 rfl (hQ G3 hCG3 (KX.trans hXG1 hXG3) hFG3 ⟨hIG3, by omega⟩)
      · -- 13 to 16
        refine s_iload_n dX3_giveValue_16 rfl ?_
        refine s_if_le (tgt := 106) dX3_giveValue_17 (by decide) (fun c5 => ?_) (fun c5 => ?_)
        · -- 17 to 106
          exact s_vret hR dX3_giveValue_106 rfl (hQ G3 hCG3 (KX.trans hXG1 hXG3) hFG3 ⟨hIG3, by omega⟩)
        · -- 17 to 20
          refine s_aload_n dX3_giveValue_20 rfl (Int.natCast_nonneg _) ?_
          have hk6 : gK G3 (o) = (12, 0) := ((hXG3).k ((hXG1).k kM (by decide)) (by decide))
          refine s_alv (o) (by simp) (fun (al7 : AL G3 o) => ?_)
          have hv8 : gS G3 o 8 = ((o + 8 : Nat) : Int) := by have h9 : (gS G3 o 8) = (((o % 1048576) + 8 : Nat) : Int) := hCG3.1.v (j := 8) (by rw [cde_m (by omega) (by omega)]; omega : cde o = 300) al7 (by rw [hk6]; exact Nat.le_of_ble_eq_true rfl); omega
          refine s_getf (ci := 4) (k := 8) (C := RX3) (T := TX3) (N := 18) (n := o) (L := 0) (t := 2) dX3_giveValue_21 rfl wi_71 m_617 (Nat.le_of_ble_eq_true rfl) rfl rfl hk6 hv8 ?_
          refine s_iload_n dX3_giveValue_24 rfl ?_
          refine s_iconst dX3_giveValue_25 (by decide) ?_
          refine s_isub dX3_giveValue_26 (by omega) ?_
          have hk9 : gK G3 (o + 8) = (1, 240) := ((hXG3).k ((hXG1).k kM8 (by decide)) (by decide))
          refine s_alv (o + 8) (by simp) (fun (al10 : AL G3 (o + 8)) => ?_)
          have hv11 : 0 ≤ (gS G3 (o + 8) (d3 - 1 : Int).toNat) ∧ (gS G3 (o + 8) (d3 - 1 : Int).toNat) ≤ 239 := hCG3.1.v (j := (d3 - 1 : Int).toNat) (by rw [cde_m (by omega) (by omega)]; omega : cde (o + 8) = 308) al10 (by rw [hk9]; show (d3 - 1 : Int).toNat < 240; omega)
          refine s_iald dX3_giveValue_27 hk9 (by omega) (by omega) rfl ?_
          have hsk := iSK3 (d3 - 1) (by omega) (by omega)
          have hmi := hMIG3 (gS G3 (o + 8) ((d3 - 1 : Int).toNat)) (by omega) (by omega)
          refine s_istore dX3_giveValue_28 (by decide) (lv' := [some (2, ((o : Nat) : Int)), some (0, c), some (0, d3), some (0, r3), some (0, gS G3 (o + 8) ((d3 - 1 : Int).toNat)), none, none]) rfl ?_
          refine s_aload_n dX3_giveValue_30 rfl (Int.natCast_nonneg _) ?_
          have hv12 : gS G3 o 12 = ((o + 20 : Nat) : Int) := by have h9 : (gS G3 o 12) = (((o % 1048576) + 20 : Nat) : Int) := hCG3.1.v (j := 12) (by rw [cde_m (by omega) (by omega)]; omega : cde o = 300) al7 (by rw [hk6]; exact Nat.le_of_ble_eq_true rfl); omega
          refine s_getf (ci := 4) (k := 12) (C := RX3) (T := TX3) (N := 18) (n := o) (L := 0) (t := 2) dX3_giveValue_31 rfl wi_71 m_618 (Nat.le_of_ble_eq_true rfl) rfl rfl hk6 hv12 ?_
          have hk13 : gK G3 (o + 20) = (18, 0) := ((hXG3).k ((hXG1).k kM20 (by decide)) (by decide))
          refine s_alv (o + 20) (by simp) (fun (al15 : AL G3 (o + 20)) => ?_)
          have hv14 : 0 ≤ (gS G3 (o + 20) 4) ∧ (gS G3 (o + 20) 4) ≤ 8192 := hCG3.1.v (j := 4) (by rw [cde_m (by omega) (by omega)]; omega : cde (o + 20) = 320) al15 (by rw [hk13]; exact Nat.le_of_ble_eq_true rfl)
          refine s_getf (ci := 10) (k := 4) (C := RX9) (T := TX9) (N := 5) (n := o + 20) (L := 0) (t := 0) dX3_giveValue_34 rfl wi_77 m_606 (Nat.le_of_ble_eq_true rfl) rfl rfl hk13 rfl ?_
          refine s_istore dX3_giveValue_37 (by decide) (lv' := [some (2, ((o : Nat) : Int)), some (0, c), some (0, d3), some (0, r3), some (0, gS G3 (o + 8) ((d3 - 1 : Int).toNat)), some (0, gS G3 (o + 20) 4), none]) rfl ?_
          refine s_aload_n dX3_giveValue_39 rfl (Int.natCast_nonneg _) ?_
          refine s_iconst dX3_giveValue_40 (by decide) ?_
          refine s_putf (ci := 4) (k := 10) (C := RX3) (T := TX3) (N := 18) (n := o) (L := 0) dX3_giveValue_41 rfl wi_71 m_609 (Nat.le_of_ble_eq_true rfl) rfl rfl tyX3_ok nmX3 rfl (Or.inl rfl) hk6 ?_
          generalize eG16r : gset G3 o 10 ((-1)) = G16
          have eG16 := eG16r.symm
          have hCG16 : CI a b G16 := by rw [eG16]; exact hCG3.set (by rw [(by rw [cde_m (by omega) (by omega)]; omega : cde o = 300)]; rfl) (by rw [(by rw [cde_m (by omega) (by omega)]; omega : cde o = 300)]; exact (show -1 ≤ ((-1)) ∧ ((-1)) ≤ 239 from by omega))
          have hXG16 : KX G3 G16 := KX.set KX.rf eG16
          have hFG16 : WX (fun x => x = o ∨ x = o + 7 ∨ x = o + 8 ∨ x = o + 13 ∨ (o + 20 ≤ x ∧ x ≤ o + 24)) G G16 := WX.set hFG3 eG16 (by show _; omega)
          have hfG16 : WX (fun x => x = o % 1048576) G3 G16 := WX.set WX.rf eG16 rfl
          have hIG16 : gS G16 o 9 = gS G o 9 := (show gS G16 o 9 = gS G3 o 9 from by rw [eG16, gset_ne _ _ (fun z => absurd z.2 (by decide))]).trans hIG3
          have hMIG16 : MI G16 o f := hMIG3.cg (show gS G16 o 9 = gS G3 o 9 from by rw [eG16, gset_ne _ _ (fun z => absurd z.2 (by decide))]) (hfG16 (o + 1) (KX.al (KX.trans hXG1 hXG3) (kne kM1 (by decide))) rg7) (hfG16 (o + 3) (KX.al (KX.trans hXG1 hXG3) (kne kM3 (by decide))) rg8) (hfG16 (o + 4) (KX.al (KX.trans hXG1 hXG3) (kne kM4 (by decide))) rg9) (congrFun (hfG16 (327681) (KX.al (KX.trans hXG1 hXG3) (kne kMp (by decide))) rg10) 12)
          have hMCG16 : MC G16 o f := hMCG3.cg (show gS G16 o 9 = gS G3 o 9 from by rw [eG16, gset_ne _ _ (fun z => absurd z.2 (by decide))]) (hfG16 (o + 1) (KX.al (KX.trans hXG1 hXG3) (kne kM1 (by decide))) rg7) (hfG16 (o + 5) (KX.al (KX.trans hXG1 hXG3) (kne kM5 (by decide))) rg11)
          show WP kX3_giveValue X 44 [some (2, ((o : Nat) : Int)), some (0, c), some (0, d3), some (0, r3), some (0, gS G3 (o + 8) ((d3 - 1 : Int).toNat)), some (0, gS G3 (o + 20) 4), none] [] G16
          have hx1 : gS G16 (o + 1) = gS G3 (o + 1) := (gset_o eG16 (x := o + 1) (by omega))
          have hx2 : gS G16 (o + 20) = gS G3 (o + 20) := gset_o eG16 (by omega)
          have hx3 : gS G16 327681 = gS G3 327681 := gset_o eG16 (by omega)
          have hx4 : unk G16 (o + 7) 240 = unk G3 (o + 7) 240 := unk.cg (gset_o eG16 (by omega)) 240
          have hx5 : gS G16 (o + 20) 4 = gS G3 (o + 20) 4 := congrFun hx2 4
          have hx6 : gS G16 327681 12 = gS G3 327681 12 := congrFun hx3 12
          have hx7 : gS G16 (o + 1) (gS G3 (o + 8) ((d3 - 1 : Int).toNat) : Int).toNat = gS G3 (o + 1) (gS G3 (o + 8) ((d3 - 1 : Int).toNat) : Int).toNat := congrFun hx1 _
          have hx8 : SK G16 o f d3 := iSK3.cg (show gS G16 o 9 = gS G3 o 9 from by rw [eG16, gset_ne _ _ (fun z => absurd z.2 (by decide))]) hx1 (gset_o eG16 (by omega))
          have hwn := hCG16.2.2.2.2.2.2.1.wn (e := gS G16 (o + 1) (gS G3 (o + 8) ((d3 - 1 : Int).toNat) : Int).toNat) (by omega)
          have hcv := hCG16.cntV (o := o + 20) (by omega) (KX.al (KX.trans (KX.trans hXG1 hXG3) hXG16) (kne kM20 (by decide)))
          refine s_aload_n dX3_giveValue_44 rfl (Int.natCast_nonneg _) ?_
          refine s_aload_n dX3_giveValue_45 rfl (Int.natCast_nonneg _) ?_
          have hk17 : gK G16 (o) = (12, 0) := ((hXG16).k hk6 (by decide))
          refine s_alv (o) (by simp) (fun (al18 : AL G16 o) => ?_)
          have hv19 : gS G16 o 1 = ((o + 1 : Nat) : Int) := by have h9 : (gS G16 o 1) = (((o % 1048576) + 1 : Nat) : Int) := hCG16.1.v (j := 1) (by rw [cde_m (by omega) (by omega)]; omega : cde o = 300) al18 (by rw [hk17]; exact Nat.le_of_ble_eq_true rfl); omega
          refine s_getf (ci := 4) (k := 1) (C := RX3) (T := TX3) (N := 18) (n := o) (L := 0) (t := 2) dX3_giveValue_46 rfl wi_71 m_593 (Nat.le_of_ble_eq_true rfl) rfl rfl hk17 hv19 ?_
          refine s_iload dX3_giveValue_49 rfl ?_
          have hk20 : gK G16 (o + 1) = (1, 240) := ((hXG16).k ((hXG3).k ((hXG1).k kM1 (by decide)) (by decide)) (by decide))
          refine s_alv (o + 1) (by simp) (fun (al21 : AL G16 (o + 1)) => ?_)
          have hv22 : -2 ≤ (gS G16 (o + 1) (gS G3 (o + 8) ((d3 - 1 : Int).toNat) : Int).toNat) ∧ (gS G16 (o + 1) (gS G3 (o + 8) ((d3 - 1 : Int).toNat) : Int).toNat) ≤ 119 := hCG16.1.v (j := (gS G3 (o + 8) ((d3 - 1 : Int).toNat) : Int).toNat) (by rw [cde_m (by omega) (by omega)]; omega : cde (o + 1) = 301) al21 (by rw [hk20]; show (gS G3 (o + 8) ((d3 - 1 : Int).toNat) : Int).toNat < 240; omega)
          refine s_iald dX3_giveValue_51 hk20 (by omega) (by omega) rfl ?_
          refine s_iload dX3_giveValue_52 rfl ?_
          refine s_iconst dX3_giveValue_54 (by decide) ?_
          refine s_callV (as := [(0, gS G16 (o + 1) ((gS G3 (o + 8) ((d3 - 1 : Int).toNat) : Int).toNat)), (0, gS G3 (o + 8) ((d3 - 1 : Int).toNat)), (0, 0)]) (rest := []) (n := o) (ci := 4) gX3_evaluate dX3_giveValue_55 m_1369 m_941 m_1669 m_717 m_289 ⟨by decide, by decide, show (parseMethodDescriptor yX3_evaluate.desc).map (fun d => d.parameters.length) = some 3 from by decide +kernel⟩ (Nat.le_of_ble_eq_true rfl) (by rw [hcf]; exact Nat.le_of_ble_eq_true rfl) hk17 rfl rfl (Nat.le_of_ble_eq_true rfl) ⟨o, gS G16 (o + 1) ((gS G3 (o + 8) ((d3 - 1 : Int).toNat) : Int).toNat), gS G3 (o + 8) ((d3 - 1 : Int).toNat), 0, f, a, b, rfl, hCG16, hab, (by assumption), (by omega), (by exact hMCG16), (by omega), (by omega), (by exact Or.inl (by rw [show gS G16 o 10 = -1 from gsaE eG16]; decide)), (by omega), (by omega), fun rr24 G23 hCG23 hXG23 hfG23 hpG23 => ?_⟩
          have hFG23 : WX (fun x => x = o ∨ x = o + 7 ∨ x = o + 8 ∨ x = o + 13 ∨ (o + 20 ≤ x ∧ x ≤ o + 24)) G G23 := WX.trans hFG16 (KX.trans (KX.trans hXG1 hXG3) hXG16) (WX.mono hfG23 rg12)
          have hIG23 : gS G23 o 9 = gS G o 9 := (hpG23.2.2.2.1 9 (by decide)).trans hIG16
          have hMIG23 : MI G23 o f := hMIG16.cg (hpG23.2.2.2.1 9 (by decide)) (hfG23 (o + 1) (KX.al (KX.trans (KX.trans hXG1 hXG3) hXG16) (kne kM1 (by decide))) rg13) (hfG23 (o + 3) (KX.al (KX.trans (KX.trans hXG1 hXG3) hXG16) (kne kM3 (by decide))) rg14) (hfG23 (o + 4) (KX.al (KX.trans (KX.trans hXG1 hXG3) hXG16) (kne kM4 (by decide))) rg15) (congrFun (hfG23 (327681) (KX.al (KX.trans (KX.trans hXG1 hXG3) hXG16) (kne kMp (by decide))) rg16) 12)
          have hMCG23 : MC G23 o f := hMCG16.cg (hpG23.2.2.2.1 9 (by decide)) (hfG23 (o + 1) (KX.al (KX.trans (KX.trans hXG1 hXG3) hXG16) (kne kM1 (by decide))) rg13) (hfG23 (o + 5) (KX.al (KX.trans (KX.trans hXG1 hXG3) hXG16) (kne kM5 (by decide))) rg17)
          show WP kX3_giveValue X 58 [some (2, ((o : Nat) : Int)), some (0, c), some (0, d3), some (0, r3), some (0, gS G3 (o + 8) ((d3 - 1 : Int).toNat)), some (0, gS G3 (o + 20) 4), none] [(0, rr24)] G23
          have hy1 : SK G23 o f d3 := hx8.cg (hpG23.2.2.2.1 9 (by decide)) (hfG23 (o + 1) (KX.al (KX.trans (KX.trans hXG1 hXG3) hXG16) (kne kM1 (by decide))) (by show ¬ _; omega)) (hfG23 (o + 8) (KX.al (KX.trans (KX.trans hXG1 hXG3) hXG16) (kne kM8 (by decide))) (by show ¬ _; omega))
          have hy2 : unk G23 (o + 7) 240 = unk G16 (o + 7) 240 := unk.cg (hfG23 (o + 7) (KX.al (KX.trans (KX.trans hXG1 hXG3) hXG16) (kne kM7 (by decide))) (by show ¬ _; omega)) 240
          refine s_istore dX3_giveValue_58 (by decide) (lv' := [some (2, ((o : Nat) : Int)), some (0, c), some (0, d3), some (0, r3), some (0, gS G3 (o + 8) ((d3 - 1 : Int).toNat)), some (0, gS G3 (o + 20) 4), some (0, rr24)]) rfl ?_
          refine s_aload_n dX3_giveValue_60 rfl (Int.natCast_nonneg _) ?_
          have hk25 : gK G23 (o) = (12, 0) := ((hXG23).k hk17 (by decide))
          refine s_alv (o) (by simp) (fun (al27 : AL G23 o) => ?_)
          have hv26 : -1 ≤ (gS G23 o 10) ∧ (gS G23 o 10) ≤ 239 := hCG23.1.v (j := 10) (by rw [cde_m (by omega) (by omega)]; omega : cde o = 300) al27 (by rw [hk25]; exact Nat.le_of_ble_eq_true rfl)
          refine s_getf (ci := 4) (k := 10) (C := RX3) (T := TX3) (N := 18) (n := o) (L := 0) (t := 0) dX3_giveValue_61 rfl wi_71 m_609 (Nat.le_of_ble_eq_true rfl) rfl rfl hk25 rfl ?_
          refine s_if_lt (tgt := 89) dX3_giveValue_64 (by decide) (fun c28 => ?_) (fun c28 => ?_)
          · -- 64 to 89
            refine s_aload_n dX3_giveValue_89 rfl (Int.natCast_nonneg _) ?_
            refine s_iload dX3_giveValue_90 rfl ?_
            refine s_iload dX3_giveValue_92 rfl ?_
            refine s_callV (as := [(0, gS G3 (o + 8) ((d3 - 1 : Int).toNat)), (0, rr24)]) (rest := []) (n := o) (ci := 4) gX3_close dX3_giveValue_94 m_1370 m_939 m_1667 m_717 m_287 ⟨by decide, by decide, show (parseMethodDescriptor yX3_close.desc).map (fun d => d.parameters.length) = some 2 from by decide +kernel⟩ (Nat.le_of_ble_eq_true rfl) (by rw [hcf]; exact Nat.le_of_ble_eq_true rfl) hk25 rfl rfl (Nat.le_of_ble_eq_true rfl) ⟨o, gS G3 (o + 8) ((d3 - 1 : Int).toNat), rr24, a, b, rfl, hCG23, hab, (by assumption), (by omega), (by omega), (by omega), fun G29 hCG29 hXG29 hfG29 hpG29 => ?_⟩
            have hFG29 : WX (fun x => x = o ∨ x = o + 7 ∨ x = o + 8 ∨ x = o + 13 ∨ (o + 20 ≤ x ∧ x ≤ o + 24)) G G29 := WX.trans hFG23 (KX.trans (KX.trans (KX.trans hXG1 hXG3) hXG16) hXG23) (WX.mono hfG29 rg18)
            have hIG29 : gS G29 o 9 = gS G o 9 := (hpG29.1 9 (by decide)).trans hIG23
            have hMIG29 : MI G29 o f := hMIG23.cg (hpG29.1 9 (by decide)) (hfG29 (o + 1) (KX.al (KX.trans (KX.trans (KX.trans hXG1 hXG3) hXG16) hXG23) (kne kM1 (by decide))) rg19) (hfG29 (o + 3) (KX.al (KX.trans (KX.trans (KX.trans hXG1 hXG3) hXG16) hXG23) (kne kM3 (by decide))) rg20) (hfG29 (o + 4) (KX.al (KX.trans (KX.trans (KX.trans hXG1 hXG3) hXG16) hXG23) (kne kM4 (by decide))) rg21) (congrFun (hfG29 (327681) (KX.al (KX.trans (KX.trans (KX.trans hXG1 hXG3) hXG16) hXG23) (kne kMp (by decide))) rg22) 12)
            have hMCG29 : MC G29 o f := hMCG23.cg (hpG29.1 9 (by decide)) (hfG29 (o + 1) (KX.al (KX.trans (KX.trans (KX.trans hXG1 hXG3) hXG16) hXG23) (kne kM1 (by decide))) rg19) (hfG29 (o + 5) (KX.al (KX.trans (KX.trans (KX.trans hXG1 hXG3) hXG16) hXG23) (kne kM5 (by decide))) rg23)
            show WP kX3_giveValue X 97 [some (2, ((o : Nat) : Int)), some (0, c), some (0, d3), some (0, r3), some (0, gS G3 (o + 8) ((d3 - 1 : Int).toNat)), some (0, gS G3 (o + 20) 4), some (0, rr24)] [] G29
            have ht1 : gS G29 (o + 20) 4 = gS G23 (o + 20) 4 := congrFun (hfG29 (o + 20) (KX.al (KX.trans (KX.trans (KX.trans hXG1 hXG3) hXG16) hXG23) (kne kM20 (by decide))) (by show ¬ _; omega)) 4
            have ht2 : SK G29 o f (d3 - 1) := SK.cg (fun i i0 i1 => hy1 i i0 (by omega)) (hpG29.1 9 (by decide)) (hfG29 (o + 1) (KX.al (KX.trans (KX.trans (KX.trans hXG1 hXG3) hXG16) hXG23) (kne kM1 (by decide))) (by show ¬ _; omega)) (hfG29 (o + 8) (KX.al (KX.trans (KX.trans (KX.trans hXG1 hXG3) hXG16) hXG23) (kne kM8 (by decide))) (by show ¬ _; omega))
            refine s_iinc dX3_giveValue_97 (v := d3) rfl (by omega) (by decide) (lv' := [some (2, ((o : Nat) : Int)), some (0, c), some (0, d3 + (-1)), some (0, r3), some (0, gS G3 (o + 8) ((d3 - 1 : Int).toNat)), some (0, gS G3 (o + 20) 4), some (0, rr24)]) rfl ?_
            refine s_iinc dX3_giveValue_100 (v := r3) rfl (by omega) (by decide) (lv' := [some (2, ((o : Nat) : Int)), some (0, c), some (0, d3 + (-1)), some (0, r3 + 1), some (0, gS G3 (o + 8) ((d3 - 1 : Int).toNat)), some (0, gS G3 (o + 20) 4), some (0, rr24)]) rfl ?_
            refine s_goto (tgt := 9) dX3_giveValue_103 (by decide) ?_
            refine s_mask [true, true, true, true, false, false, false] (lv' := [some (2, ((o : Nat) : Int)), some (0, c), some (0, d3 + (-1)), some (0, r3 + 1), none, none, none]) rfl ?_
            exact ih3 (d3 + (-1)) (r3 + 1) G29 hCG29 (KX.trans (KX.trans (KX.trans hXG3 hXG16) hXG23) hXG29) hFG29 (⟨(by omega), (by omega), (by exact ht2), (by exact hIG29), (by exact hMIG29), (by exact hMCG29)⟩) (by omega)
          · -- 64 to 67
            refine s_aload_n dX3_giveValue_67 rfl (Int.natCast_nonneg _) ?_
            have hv31 : gS G23 o 12 = ((o + 20 : Nat) : Int) := by have h9 : (gS G23 o 12) = (((o % 1048576) + 20 : Nat) : Int) := hCG23.1.v (j := 12) (by rw [cde_m (by omega) (by omega)]; omega : cde o = 300) al27 (by rw [hk25]; exact Nat.le_of_ble_eq_true rfl); omega
            refine s_getf (ci := 4) (k := 12) (C := RX3) (T := TX3) (N := 18) (n := o) (L := 0) (t := 2) dX3_giveValue_68 rfl wi_71 m_618 (Nat.le_of_ble_eq_true rfl) rfl rfl hk25 hv31 ?_
            refine s_iload dX3_giveValue_71 rfl ?_
            have hk32 : gK G23 (o + 20) = (18, 0) := ((hXG23).k ((hXG16).k hk13 (by decide)) (by decide))
            refine s_putf (ci := 10) (k := 4) (C := RX9) (T := TX9) (N := 5) (n := o + 20) (L := 0) dX3_giveValue_73 rfl wi_77 m_606 (Nat.le_of_ble_eq_true rfl) rfl rfl tyX9_ok nmX9 rfl (Or.inl rfl) hk32 ?_
            generalize eG33r : gset G23 (o + 20) 4 (gS G3 (o + 20) 4) = G33
            have eG33 := eG33r.symm
            have hCG33 : CI a b G33 := by rw [eG33]; exact hCG23.cutV (o := o + 20) (by omega) (KX.al (KX.trans (KX.trans (KX.trans hXG1 hXG3) hXG16) hXG23) (kne kM20 (by decide))) (by omega) rfl
            have hXG33 : KX G23 G33 := KX.set KX.rf eG33
            have hFG33 : WX (fun x => x = o ∨ x = o + 7 ∨ x = o + 8 ∨ x = o + 13 ∨ (o + 20 ≤ x ∧ x ≤ o + 24)) G G33 := WX.set hFG23 eG33 (by show _; omega)
            have hfG33 : WX (fun x => x = (o + 20) % 1048576) G23 G33 := WX.set WX.rf eG33 rfl
            have hIG33 : gS G33 o 9 = gS G o 9 := (congrFun (hfG33 (o) (KX.al (KX.trans (KX.trans (KX.trans hXG1 hXG3) hXG16) hXG23) (kne kM (by decide))) rg24) 9).trans hIG23
            have hMIG33 : MI G33 o f := hMIG23.cg (congrFun (hfG33 (o) (KX.al (KX.trans (KX.trans (KX.trans hXG1 hXG3) hXG16) hXG23) (kne kM (by decide))) rg24) 9) (hfG33 (o + 1) (KX.al (KX.trans (KX.trans (KX.trans hXG1 hXG3) hXG16) hXG23) (kne kM1 (by decide))) rg25) (hfG33 (o + 3) (KX.al (KX.trans (KX.trans (KX.trans hXG1 hXG3) hXG16) hXG23) (kne kM3 (by decide))) rg26) (hfG33 (o + 4) (KX.al (KX.trans (KX.trans (KX.trans hXG1 hXG3) hXG16) hXG23) (kne kM4 (by decide))) rg27) (congrFun (hfG33 (327681) (KX.al (KX.trans (KX.trans (KX.trans hXG1 hXG3) hXG16) hXG23) (kne kMp (by decide))) rg28) 12)
            have hMCG33 : MC G33 o f := hMCG23.cg (congrFun (hfG33 (o) (KX.al (KX.trans (KX.trans (KX.trans hXG1 hXG3) hXG16) hXG23) (kne kM (by decide))) rg24) 9) (hfG33 (o + 1) (KX.al (KX.trans (KX.trans (KX.trans hXG1 hXG3) hXG16) hXG23) (kne kM1 (by decide))) rg25) (hfG33 (o + 5) (KX.al (KX.trans (KX.trans (KX.trans hXG1 hXG3) hXG16) hXG23) (kne kM5 (by decide))) rg29)
            show WP kX3_giveValue X 76 [some (2, ((o : Nat) : Int)), some (0, c), some (0, d3), some (0, r3), some (0, gS G3 (o + 8) ((d3 - 1 : Int).toNat)), some (0, gS G3 (o + 20) 4), some (0, rr24)] [] G33
            have hz1 : SK G33 o f d3 := hy1.cg (congrFun (gset_o eG33 (x := o) (by omega)) 9) (gset_o eG33 (x := o + 1) (by omega)) (gset_o eG33 (x := o + 8) (by omega))
            have hz2 : unk G33 (o + 7) 240 = unk G23 (o + 7) 240 := unk.cg (gset_o eG33 (x := o + 7) (by omega)) 240
            have hz3 : gS G33 (o + 20) 4 = gS G3 (o + 20) 4 := gsaE eG33
            have hz4 : AQC G33 o f := hpG23.2.2.2.2.cg (congrFun (gset_o eG33 (x := o) (by omega)) 9) (congrFun (gset_o eG33 (x := o) (by omega)) 10) (gset_o eG33 (x := o + 1) (by omega))
            refine s_aload_n dX3_giveValue_76 rfl (Int.natCast_nonneg _) ?_
            refine s_aload_n dX3_giveValue_77 rfl (Int.natCast_nonneg _) ?_
            have hk34 : gK G33 (o) = (12, 0) := ((hXG33).k hk25 (by decide))
            refine s_alv (o) (by simp) (fun (al36 : AL G33 o) => ?_)
            have hv35 : -1 ≤ (gS G33 o 10) ∧ (gS G33 o 10) ≤ 239 := hCG33.1.v (j := 10) (by rw [cde_m (by omega) (by omega)]; omega : cde o = 300) al36 (by rw [hk34]; exact Nat.le_of_ble_eq_true rfl)
            refine s_getf (ci := 4) (k := 10) (C := RX3) (T := TX3) (N := 18) (n := o) (L := 0) (t := 0) dX3_giveValue_78 rfl wi_71 m_609 (Nat.le_of_ble_eq_true rfl) rfl rfl hk34 rfl ?_
            refine s_iload_n dX3_giveValue_81 rfl ?_
            refine s_callV (as := [(0, gS G33 o 10), (0, d3)]) (rest := []) (n := o) (ci := 4) gX3_open dX3_giveValue_82 m_1368 m_959 m_1686 m_717 m_307 ⟨by decide, by decide, show (parseMethodDescriptor yX3_open.desc).map (fun d => d.parameters.length) = some 2 from by decide +kernel⟩ (Nat.le_of_ble_eq_true rfl) (by rw [hcf]; exact Nat.le_of_ble_eq_true rfl) hk34 rfl rfl (Nat.le_of_ble_eq_true rfl) ⟨o, gS G33 o 10, d3, f, a, b, rfl, hCG33, hab, (by assumption), (by omega), (by exact hz4), (by omega), (by exact hz1), fun rr38 G37 hCG37 hXG37 hfG37 hpG37 => ?_⟩
            have hFG37 : WX (fun x => x = o ∨ x = o + 7 ∨ x = o + 8 ∨ x = o + 13 ∨ (o + 20 ≤ x ∧ x ≤ o + 24)) G G37 := WX.trans hFG33 (KX.trans (KX.trans (KX.trans (KX.trans hXG1 hXG3) hXG16) hXG23) hXG33) (WX.mono hfG37 rg0)
            have hIG37 : gS G37 o 9 = gS G o 9 := (congrFun (hfG37 o (KX.al (KX.trans (KX.trans (KX.trans (KX.trans hXG1 hXG3) hXG16) hXG23) hXG33) (kne kM (by decide))) rg1) 9).trans hIG33
            have hMIG37 : MI G37 o f := hMIG33.cg (congrFun (hfG37 (o) (KX.al (KX.trans (KX.trans (KX.trans (KX.trans hXG1 hXG3) hXG16) hXG23) hXG33) (kne kM (by decide))) rg1) 9) (hfG37 (o + 1) (KX.al (KX.trans (KX.trans (KX.trans (KX.trans hXG1 hXG3) hXG16) hXG23) hXG33) (kne kM1 (by decide))) rg2) (hfG37 (o + 3) (KX.al (KX.trans (KX.trans (KX.trans (KX.trans hXG1 hXG3) hXG16) hXG23) hXG33) (kne kM3 (by decide))) rg3) (hfG37 (o + 4) (KX.al (KX.trans (KX.trans (KX.trans (KX.trans hXG1 hXG3) hXG16) hXG23) hXG33) (kne kM4 (by decide))) rg4) (congrFun (hfG37 (327681) (KX.al (KX.trans (KX.trans (KX.trans (KX.trans hXG1 hXG3) hXG16) hXG23) hXG33) (kne kMp (by decide))) rg5) 12)
            have hMCG37 : MC G37 o f := hMCG33.cg (congrFun (hfG37 (o) (KX.al (KX.trans (KX.trans (KX.trans (KX.trans hXG1 hXG3) hXG16) hXG23) hXG33) (kne kM (by decide))) rg1) 9) (hfG37 (o + 1) (KX.al (KX.trans (KX.trans (KX.trans (KX.trans hXG1 hXG3) hXG16) hXG23) hXG33) (kne kM1 (by decide))) rg2) (hfG37 (o + 5) (KX.al (KX.trans (KX.trans (KX.trans (KX.trans hXG1 hXG3) hXG16) hXG23) hXG33) (kne kM5 (by decide))) rg6)
            show WP kX3_giveValue X 85 [some (2, ((o : Nat) : Int)), some (0, c), some (0, d3), some (0, r3), some (0, gS G3 (o + 8) ((d3 - 1 : Int).toNat)), some (0, gS G3 (o + 20) 4), some (0, rr24)] [(0, rr38)] G37
            have ht1 : gS G37 (o + 20) 4 = gS G33 (o + 20) 4 := congrFun (hfG37 (o + 20) (KX.al (KX.trans (KX.trans (KX.trans (KX.trans hXG1 hXG3) hXG16) hXG23) hXG33) (kne kM20 (by decide))) (by show ¬ _; omega)) 4
            refine s_istore_n dX3_giveValue_85 (by decide) (lv' := [some (2, ((o : Nat) : Int)), some (0, c), some (0, rr38), some (0, r3), some (0, gS G3 (o + 8) ((d3 - 1 : Int).toNat)), some (0, gS G3 (o + 20) 4), some (0, rr24)]) rfl ?_
            refine s_goto (tgt := 100) dX3_giveValue_86 (by decide) ?_
            refine s_iinc dX3_giveValue_100 (v := r3) rfl (by omega) (by decide) (lv' := [some (2, ((o : Nat) : Int)), some (0, c), some (0, rr38), some (0, r3 + 1), some (0, gS G3 (o + 8) ((d3 - 1 : Int).toNat)), some (0, gS G3 (o + 20) 4), some (0, rr24)]) rfl ?_
            refine s_goto (tgt := 9) dX3_giveValue_103 (by decide) ?_
            refine s_mask [true, true, true, true, false, false, false] (lv' := [some (2, ((o : Nat) : Int)), some (0, c), some (0, rr38), some (0, r3 + 1), none, none, none]) rfl ?_
            exact ih3 rr38 (r3 + 1) G37 hCG37 (KX.trans (KX.trans (KX.trans (KX.trans hXG3 hXG16) hXG23) hXG33) hXG37) hFG37 (⟨(by omega), (by omega), (by exact hpG37.2.1), (by exact hIG37), (by exact hMIG37), (by exact hMCG37)⟩) (by omega)
  exact L3 _ rr2 0 G1 hCG1 KX.rf hFG1 (⟨(by omega), (by omega), (by exact hpG1.2.1), (by exact hIG1), (by exact hMIG1), (by exact hMCG1)⟩) (Nat.lt_succ_self _)

abbrev kX3_giveValues : KD := (RX3, cX3_giveValues, 5, none, [])
def TX3_giveValues : TR := fun as G Qr => ∃ (o n : Nat) (f w : Int) (a b : Nat), as = [(2, ((o : Nat) : Int)), (2, ((n : Nat) : Int)), (0, f), (0, w)] ∧ CI a b G ∧ (a ≤ 2840000 ∧ b ≤ 590000) ∧ (isMc o) ∧ (isNd n) ∧ (0 ≤ f ∧ f ≤ 24) ∧ (MI G o f) ∧ (MC G o f) ∧ (f ≤ w ∧ w < gS G o 9) ∧ ∀ (G' : LG), CI a b G' → KX G G' → WX (fun x => x = o ∨ x = o + 7 ∨ x = o + 8 ∨ x = o + 13 ∨ (o + 20 ≤ x ∧ x ≤ o + 24)) G G' → (gS G' o 9 = gS G o 9) → Qr (.inl none) G'
set_option maxHeartbeats 4000000 in
set_option maxRecDepth 100000 in
theorem gX3_giveValues : Good kX3_giveValues yX3_giveValues 66 TX3_giveValues := by
  refine good_of (by decide) rfl rfl (fun as G Qr h => ?_) (fun X as G Qr hcf hR hT oa => ?_)
  · obtain ⟨o, n, f, w, a, b, rfl, -⟩ := h; exact Nat.le_of_ble_eq_true rfl
  obtain ⟨o, n, f, w, a, b, rfl, hC, hab, ho, hn, hf0, hMI, hMC, hw, hQ⟩ := hT
  show WP kX3_giveValues X 0 [some (2, ((o : Nat) : Int)), some (2, ((n : Nat) : Int)), some (0, f), some (0, w), none] [] G
  have hr_f : inR f := okv_R (oa _ (by simp))
  have hr_w : inR w := okv_R (oa _ (by simp))
  have rg0 : RNx (fun x => x = (o + 20) % 1048576) (o % 1048576) := by show ¬ _; omega
  have rg1 : RNx (fun x => x = (o + 20) % 1048576) ((o + 1) % 1048576) := by show ¬ _; omega
  have rg2 : RNx (fun x => x = (o + 20) % 1048576) ((o + 3) % 1048576) := by show ¬ _; omega
  have rg3 : RNx (fun x => x = (o + 20) % 1048576) ((o + 4) % 1048576) := by show ¬ _; omega
  have rg4 : RNx (fun x => x = (o + 20) % 1048576) (327681 % 1048576) := by show ¬ _; omega
  have rg5 : RNx (fun x => x = (o + 20) % 1048576) ((o + 5) % 1048576) := by show ¬ _; omega
  have rg6 : RNx (fun x => x = o % 1048576) ((o + 1) % 1048576) := by show ¬ _; omega
  have rg7 : RNx (fun x => x = o % 1048576) ((o + 3) % 1048576) := by show ¬ _; omega
  have rg8 : RNx (fun x => x = o % 1048576) ((o + 4) % 1048576) := by show ¬ _; omega
  have rg9 : RNx (fun x => x = o % 1048576) (327681 % 1048576) := by show ¬ _; omega
  have rg10 : RNx (fun x => x = o % 1048576) ((o + 5) % 1048576) := by show ¬ _; omega
  have rg11 : RM (fun x => x = o ∨ x = o + 7 ∨ x = o + 8 ∨ x = o + 13 ∨ (o + 20 ≤ x ∧ x ≤ o + 24)) (fun x => x = o ∨ x = o + 7 ∨ x = o + 8 ∨ x = o + 13 ∨ (o + 20 ≤ x ∧ x ≤ o + 24)) := fun x hx => by (try dsimp only at hx ⊢); omega
  have rg12 : RNx (fun x => x = o ∨ x = o + 7 ∨ x = o + 8 ∨ x = o + 13 ∨ (o + 20 ≤ x ∧ x ≤ o + 24)) ((o + 1) % 1048576) := by show ¬ _; omega
  have rg13 : RNx (fun x => x = o ∨ x = o + 7 ∨ x = o + 8 ∨ x = o + 13 ∨ (o + 20 ≤ x ∧ x ≤ o + 24)) ((o + 3) % 1048576) := by show ¬ _; omega
  have rg14 : RNx (fun x => x = o ∨ x = o + 7 ∨ x = o + 8 ∨ x = o + 13 ∨ (o + 20 ≤ x ∧ x ≤ o + 24)) ((o + 4) % 1048576) := by show ¬ _; omega
  have rg15 : RNx (fun x => x = o ∨ x = o + 7 ∨ x = o + 8 ∨ x = o + 13 ∨ (o + 20 ≤ x ∧ x ≤ o + 24)) (327681 % 1048576) := by show ¬ _; omega
  have rg16 : RNx (fun x => x = o ∨ x = o + 7 ∨ x = o + 8 ∨ x = o + 13 ∨ (o + 20 ≤ x ∧ x ≤ o + 24)) ((o + 5) % 1048576) := by show ¬ _; omega
  refine s_alvl o (k := 0) rfl (fun alo => ?_)
  refine s_lk (fun hlk => ?_)
  have hmn := hlk.mna hC ho alo
  obtain ⟨kM, kM1, kM2, kM3, kM4, kM5, kM6, kM7, kM8, kM13, kM15, kM20, kMp, kMp5, kMp6, kMp7, kMp8, kMp9, kMp10, kMp13, kMp14, kMp16⟩ := id hmn
  have hin : 0 ≤ gS G o 9 ∧ gS G o 9 ≤ 24 := hC.1.v (c := 300) (j := 9) (by rcases ho with rfl | rfl <;> decide) alo (by rw [kM]; exact Nat.le_of_ble_eq_true rfl)
  have hln := lenV.nn (G := G) (o := o + 20)
  have hI : gS G o 9 = gS G o 9 := rfl
  refine s_aload_n dX3_giveValues_0 rfl (Int.natCast_nonneg _) ?_
  have hv1 : gS G o 12 = ((o + 20 : Nat) : Int) := by have h9 : (gS G o 12) = (((o % 1048576) + 20 : Nat) : Int) := hC.1.v (j := 12) (by rw [cde_m (by omega) (by omega)]; omega : cde o = 300) (kne kM (by decide)) (by rw [kM]; exact Nat.le_of_ble_eq_true rfl); omega
  refine s_getf (ci := 4) (k := 12) (C := RX3) (T := TX3) (N := 18) (n := o) (L := 0) (t := 2) dX3_giveValues_1 rfl wi_71 m_618 (Nat.le_of_ble_eq_true rfl) rfl rfl kM hv1 ?_
  refine s_iconst dX3_giveValues_4 (by decide) ?_
  refine s_putf (ci := 10) (k := 4) (C := RX9) (T := TX9) (N := 5) (n := o + 20) (L := 0) dX3_giveValues_5 rfl wi_77 m_606 (Nat.le_of_ble_eq_true rfl) rfl rfl tyX9_ok nmX9 rfl (Or.inl rfl) kM20 ?_
  generalize eG2r : gset G (o + 20) 4 0 = G2
  have eG2 := eG2r.symm
  have hCG2 : CI a b G2 := by rw [eG2]; exact hC.cutV (o := o + 20) (by omega) (kne kM20 (by decide)) (by omega) rfl
  have hXG2 : KX G G2 := KX.set KX.rf eG2
  have hFG2 : WX (fun x => x = o ∨ x = o + 7 ∨ x = o + 8 ∨ x = o + 13 ∨ (o + 20 ≤ x ∧ x ≤ o + 24)) G G2 := WX.set WX.rf eG2 (by show _; omega)
  have hfG2 : WX (fun x => x = (o + 20) % 1048576) G G2 := WX.set WX.rf eG2 rfl
  have hIG2 : gS G2 o 9 = gS G o 9 := (congrFun (hfG2 (o) (KX.al KX.rf (kne kM (by decide))) rg0) 9).trans hI
  have hMIG2 : MI G2 o f := hMI.cg (congrFun (hfG2 (o) (KX.al KX.rf (kne kM (by decide))) rg0) 9) (hfG2 (o + 1) (KX.al KX.rf (kne kM1 (by decide))) rg1) (hfG2 (o + 3) (KX.al KX.rf (kne kM3 (by decide))) rg2) (hfG2 (o + 4) (KX.al KX.rf (kne kM4 (by decide))) rg3) (congrFun (hfG2 (327681) (KX.al KX.rf (kne kMp (by decide))) rg4) 12)
  have hMCG2 : MC G2 o f := hMC.cg (congrFun (hfG2 (o) (KX.al KX.rf (kne kM (by decide))) rg0) 9) (hfG2 (o + 1) (KX.al KX.rf (kne kM1 (by decide))) rg1) (hfG2 (o + 5) (KX.al KX.rf (kne kM5 (by decide))) rg5)
  show WP kX3_giveValues X 8 [some (2, ((o : Nat) : Int)), some (2, ((n : Nat) : Int)), some (0, f), some (0, w), none] [] G2
  refine s_aload_n dX3_giveValues_8 rfl (Int.natCast_nonneg _) ?_
  refine s_iconst dX3_giveValues_9 (by decide) ?_
  have hk3 : gK G2 (o) = (12, 0) := ((hXG2).k kM (by decide))
  refine s_putf (ci := 4) (k := 14) (C := RX3) (T := TX3) (N := 18) (n := o) (L := 0) dX3_giveValues_10 rfl wi_71 m_607 (Nat.le_of_ble_eq_true rfl) rfl rfl tyX3_ok nmX3 rfl (Or.inl rfl) hk3 ?_
  generalize eG4r : gset G2 o 14 0 = G4
  have eG4 := eG4r.symm
  have hCG4 : CI a b G4 := by rw [eG4]; exact hCG2.set (by rw [(by rw [cde_m (by omega) (by omega)]; omega : cde o = 300)]; rfl) (by rw [(by rw [cde_m (by omega) (by omega)]; omega : cde o = 300)]; exact (show 0 ≤ 0 ∧ 0 ≤ 240 from by omega))
  have hXG4 : KX G2 G4 := KX.set KX.rf eG4
  have hFG4 : WX (fun x => x = o ∨ x = o + 7 ∨ x = o + 8 ∨ x = o + 13 ∨ (o + 20 ≤ x ∧ x ≤ o + 24)) G G4 := WX.set hFG2 eG4 (by show _; omega)
  have hfG4 : WX (fun x => x = o % 1048576) G2 G4 := WX.set WX.rf eG4 rfl
  have hIG4 : gS G4 o 9 = gS G o 9 := (show gS G4 o 9 = gS G2 o 9 from by rw [eG4, gset_ne _ _ (fun z => absurd z.2 (by decide))]).trans hIG2
  have hMIG4 : MI G4 o f := hMIG2.cg (show gS G4 o 9 = gS G2 o 9 from by rw [eG4, gset_ne _ _ (fun z => absurd z.2 (by decide))]) (hfG4 (o + 1) (KX.al hXG2 (kne kM1 (by decide))) rg6) (hfG4 (o + 3) (KX.al hXG2 (kne kM3 (by decide))) rg7) (hfG4 (o + 4) (KX.al hXG2 (kne kM4 (by decide))) rg8) (congrFun (hfG4 (327681) (KX.al hXG2 (kne kMp (by decide))) rg9) 12)
  have hMCG4 : MC G4 o f := hMCG2.cg (show gS G4 o 9 = gS G2 o 9 from by rw [eG4, gset_ne _ _ (fun z => absurd z.2 (by decide))]) (hfG4 (o + 1) (KX.al hXG2 (kne kM1 (by decide))) rg6) (hfG4 (o + 5) (KX.al hXG2 (kne kM5 (by decide))) rg10)
  show WP kX3_giveValues X 13 [some (2, ((o : Nat) : Int)), some (2, ((n : Nat) : Int)), some (0, f), some (0, w), none] [] G4
  have hc0 : gS G4 (o + 20) 4 = 0 := (congrFun (gset_o eG4 (x := o + 20) (by omega)) 4).trans (gsaE eG2)
  have hul := unk.le G4 (o + 7) 240
  refine s_iload_n dX3_giveValues_13 rfl ?_
  refine s_bipush dX3_giveValues_14 rfl (by decide) ?_
  refine s_imul dX3_giveValues_16 (by omega) ?_
  refine s_istore dX3_giveValues_17 (by decide) (lv' := [some (2, ((o : Nat) : Int)), some (2, ((n : Nat) : Int)), some (0, f), some (0, w), some (0, f * 10)]) rfl ?_
  have L5 : ∀ (n5 : Nat) (s5 : Int) (G5 : LG), CI a b G5 → KX G4 G5 → WX (fun x => x = o ∨ x = o + 7 ∨ x = o + 8 ∨ x = o + 13 ∨ (o + 20 ≤ x ∧ x ≤ o + 24)) G G5 → ((10 * f ≤ s5 ∧ s5 ≤ 240) ∧ (0 ≤ gS G5 (o + 20) 4 ∧ gS G5 (o + 20) 4 + 12 * (((unk G5 (o + 7) 240 : Nat) : Int)) ≤ 2880) ∧ (gS G5 o 9 = gS G o 9) ∧ (MI G5 o f) ∧ (MC G5 o f)) → (240 - s5).toNat < n5 → WP kX3_giveValues X 19 [some (2, ((o : Nat) : Int)), some (2, ((n : Nat) : Int)), some (0, f), some (0, w), some (0, s5)] [] G5 := by
    intro n5
    induction n5 with
    | zero => intro s5 G5 hCG5 hXG5 hFG5 hi5 hm5; exact absurd hm5 (Nat.not_lt_zero _)
    | succ n5 ih5 =>
      intro s5 G5 hCG5 hXG5 hFG5 hi5 hm5
      obtain ⟨is5, ip5, hIG5, hMIG5, hMCG5⟩ := hi5
      refine s_iload dX3_giveValues_19 rfl ?_
      refine s_aload_n dX3_giveValues_21 rfl (Int.natCast_nonneg _) ?_
      have hk8 : gK G5 (o) = (12, 0) := ((hXG5).k ((hXG4).k hk3 (by decide)) (by decide))
      refine s_callV (as := []) (rest := [(0, s5)]) (n := o) (ci := 4) gX3_slotCount dX3_giveValues_22 m_1361 m_966 m_1693 m_717 m_314 ⟨by decide, by decide, show (parseMethodDescriptor yX3_slotCount.desc).map (fun d => d.parameters.length) = some 0 from by decide +kernel⟩ (Nat.le_of_ble_eq_true rfl) (by rw [hcf]; exact Nat.le_of_ble_eq_true rfl) hk8 rfl rfl (Nat.le_of_ble_eq_true rfl) ⟨o, a, b, rfl, hCG5, hab, (by first | assumption | omega), fun rr6 hp7 => ?_⟩
      show WP kX3_giveValues X 25 [some (2, ((o : Nat) : Int)), some (2, ((n : Nat) : Int)), some (0, f), some (0, w), some (0, s5)] [(0, rr6), (0, s5)] G5
      refine s_icmp_ge (tgt := 71) dX3_giveValues_25 (by decide) (fun c9 => ?_) (fun c9 => ?_)
      · -- 25 to 71
        refine s_iconst dX3_giveValues_71 (by decide) ?_
        refine s_istore dX3_giveValues_72 (by decide) (lv' := [some (2, ((o : Nat) : Int)), some (2, ((n : Nat) : Int)), some (0, f), some (0, w), some (0, 0)]) rfl ?_
        have L10 : ∀ (n10 : Nat) (k10 : Int) (G10 : LG), CI a b G10 → KX G5 G10 → WX (fun x => x = o ∨ x = o + 7 ∨ x = o + 8 ∨ x = o + 13 ∨ (o + 20 ≤ x ∧ x ≤ o + 24)) G G10 → ((0 ≤ k10 ∧ k10 ≤ 10) ∧ (0 ≤ gS G10 (o + 20) 4 ∧ gS G10 (o + 20) 4 + 12 * (((unk G10 (o + 7) 240 : Nat) : Int)) ≤ 2880) ∧ (gS G10 o 9 = gS G o 9) ∧ (MI G10 o f) ∧ (MC G10 o f)) → (10 - k10).toNat < n10 → WP kX3_giveValues X 74 [some (2, ((o : Nat) : Int)), some (2, ((n : Nat) : Int)), some (0, f), some (0, w), some (0, k10)] [] G10 := by
          intro n10
          induction n10 with
          | zero => intro k10 G10 hCG10 hXG10 hFG10 hi10 hm10; exact absurd hm10 (Nat.not_lt_zero _)
          | succ n10 ih10 =>
            intro k10 G10 hCG10 hXG10 hFG10 hi10 hm10
            obtain ⟨ik10, ip10, hIG10, hMIG10, hMCG10⟩ := hi10
            refine s_iload dX3_giveValues_74 rfl ?_
            refine s_bipush dX3_giveValues_76 rfl (by decide) ?_
            refine s_icmp_ge (tgt := 99) dX3_giveValues_78 (by decide) (fun c11 => ?_) (fun c11 => ?_)
            · -- 78 to 99
              exact s_vret hR dX3_giveValues_99 rfl (hQ G10 hCG10 (KX.trans (KX.trans (KX.trans hXG2 hXG4) hXG5) hXG10) hFG10 hIG10)
            · -- 78 to 81
              refine s_aload_n dX3_giveValues_81 rfl (Int.natCast_nonneg _) ?_
              refine s_aload_n dX3_giveValues_82 rfl (Int.natCast_nonneg _) ?_
              refine s_aload_n dX3_giveValues_83 rfl (Int.natCast_nonneg _) ?_
              refine s_iload_n dX3_giveValues_84 rfl ?_
              refine s_iload dX3_giveValues_85 rfl ?_
              have hk14 : gK G10 (o) = (12, 0) := ((hXG10).k hk8 (by decide))
              refine s_callV (as := [(2, ((n : Nat) : Int)), (0, w), (0, k10)]) (rest := [(2, ((o : Nat) : Int))]) (n := o) (ci := 4) gX3_faceCell dX3_giveValues_87 m_1380 m_946 m_1674 m_717 m_294 ⟨by decide, by decide, show (parseMethodDescriptor yX3_faceCell.desc).map (fun d => d.parameters.length) = some 3 from by decide +kernel⟩ (Nat.le_of_ble_eq_true rfl) (by rw [hcf]; exact Nat.le_of_ble_eq_true rfl) hk14 rfl rfl (Nat.le_of_ble_eq_true rfl) ⟨o, n, w, k10, f, a, b, rfl, hCG10, hab, (by assumption), (by assumption), (by omega), (by exact hMIG10), (by exact hMCG10), (by omega), (by omega), fun rr12 hp13 => ?_⟩
              show WP kX3_giveValues X 90 [some (2, ((o : Nat) : Int)), some (2, ((n : Nat) : Int)), some (0, f), some (0, w), some (0, k10)] [(0, rr12), (2, ((o : Nat) : Int))] G10
              refine s_callV (as := [(0, rr12)]) (rest := []) (n := o) (ci := 4) gX3_giveValue dX3_giveValues_90 m_1367 m_949 m_1677 m_717 m_297 ⟨by decide, by decide, show (parseMethodDescriptor yX3_giveValue.desc).map (fun d => d.parameters.length) = some 1 from by decide +kernel⟩ (Nat.le_of_ble_eq_true rfl) (by rw [hcf]; exact Nat.le_of_ble_eq_true rfl) hk14 rfl rfl (Nat.le_of_ble_eq_true rfl) ⟨o, rr12, f, a, b, rfl, hCG10, hab, (by assumption), (by omega), (by exact hMIG10), (by exact hMCG10), (by omega), (by omega), fun G15 hCG15 hXG15 hfG15 hpG15 => ?_⟩
              have hFG15 : WX (fun x => x = o ∨ x = o + 7 ∨ x = o + 8 ∨ x = o + 13 ∨ (o + 20 ≤ x ∧ x ≤ o + 24)) G G15 := WX.trans hFG10 (KX.trans (KX.trans (KX.trans hXG2 hXG4) hXG5) hXG10) (WX.mono hfG15 rg11)
              have hIG15 : gS G15 o 9 = gS G o 9 := hpG15.1.trans hIG10
              have hMIG15 : MI G15 o f := hMIG10.cg hpG15.1 (hfG15 (o + 1) (KX.al (KX.trans (KX.trans (KX.trans hXG2 hXG4) hXG5) hXG10) (kne kM1 (by decide))) rg12) (hfG15 (o + 3) (KX.al (KX.trans (KX.trans (KX.trans hXG2 hXG4) hXG5) hXG10) (kne kM3 (by decide))) rg13) (hfG15 (o + 4) (KX.al (KX.trans (KX.trans (KX.trans hXG2 hXG4) hXG5) hXG10) (kne kM4 (by decide))) rg14) (congrFun (hfG15 (327681) (KX.al (KX.trans (KX.trans (KX.trans hXG2 hXG4) hXG5) hXG10) (kne kMp (by decide))) rg15) 12)
              have hMCG15 : MC G15 o f := hMCG10.cg hpG15.1 (hfG15 (o + 1) (KX.al (KX.trans (KX.trans (KX.trans hXG2 hXG4) hXG5) hXG10) (kne kM1 (by decide))) rg12) (hfG15 (o + 5) (KX.al (KX.trans (KX.trans (KX.trans hXG2 hXG4) hXG5) hXG10) (kne kM5 (by decide))) rg16)
              show WP kX3_giveValues X 93 [some (2, ((o : Nat) : Int)), some (2, ((n : Nat) : Int)), some (0, f), some (0, w), some (0, k10)] [] G15
              refine s_iinc dX3_giveValues_93 (v := k10) rfl (by omega) (by decide) (lv' := [some (2, ((o : Nat) : Int)), some (2, ((n : Nat) : Int)), some (0, f), some (0, w), some (0, k10 + 1)]) rfl ?_
              refine s_goto (tgt := 74) dX3_giveValues_96 (by decide) ?_
              exact ih10 (k10 + 1) G15 hCG15 (KX.trans hXG10 hXG15) hFG15 (⟨(by omega), (by omega), (by exact hIG15), (by exact hMIG15), (by exact hMCG15)⟩) (by omega)
        exact L10 _ 0 G5 hCG5 KX.rf hFG5 (⟨(by omega), (by omega), (by exact hIG5), (by exact hMIG5), (by exact hMCG5)⟩) (Nat.lt_succ_self _)
      · -- 25 to 28
        refine s_aload_n dX3_giveValues_28 rfl (Int.natCast_nonneg _) ?_
        refine s_iload dX3_giveValues_29 rfl ?_
        refine s_callV (as := [(0, s5)]) (rest := []) (n := o) (ci := 4) gX3_isCell dX3_giveValues_31 m_1362 m_955 m_1682 m_717 m_303 ⟨by decide, by decide, show (parseMethodDescriptor yX3_isCell.desc).map (fun d => d.parameters.length) = some 1 from by decide +kernel⟩ (Nat.le_of_ble_eq_true rfl) (by rw [hcf]; exact Nat.le_of_ble_eq_true rfl) hk8 rfl rfl (Nat.le_of_ble_eq_true rfl) ⟨o, s5, a, b, rfl, hCG5, hab, (by first | assumption | omega), (by first | assumption | omega), fun rr17 hp18 => ?_⟩
        show WP kX3_giveValues X 34 [some (2, ((o : Nat) : Int)), some (2, ((n : Nat) : Int)), some (0, f), some (0, w), some (0, s5)] [(0, rr17)] G5
        refine s_if_eq (tgt := 65) dX3_giveValues_34 (by decide) (fun c19 => ?_) (fun c19 => ?_)
        · -- 34 to 65
          refine s_iinc dX3_giveValues_65 (v := s5) rfl (by omega) (by decide) (lv' := [some (2, ((o : Nat) : Int)), some (2, ((n : Nat) : Int)), some (0, f), some (0, w), some (0, s5 + 1)]) rfl ?_
          refine s_goto (tgt := 19) dX3_giveValues_68 (by decide) ?_
          exact ih5 (s5 + 1) G5 hCG5 hXG5 hFG5 (⟨(by omega), (by omega), (by exact hIG5), (by exact hMIG5), (by exact hMCG5)⟩) (by omega)
        · -- 34 to 37
          refine s_aload_n dX3_giveValues_37 rfl (Int.natCast_nonneg _) ?_
          refine s_alv (o) (by simp) (fun (al20 : AL G5 o) => ?_)
          have hv21 : gS G5 o 6 = ((o + 6 : Nat) : Int) := by have h9 : (gS G5 o 6) = (((o % 1048576) + 6 : Nat) : Int) := hCG5.1.v (j := 6) (by rw [cde_m (by omega) (by omega)]; omega : cde o = 300) al20 (by rw [hk8]; exact Nat.le_of_ble_eq_true rfl); omega
          refine s_getf (ci := 4) (k := 6) (C := RX3) (T := TX3) (N := 18) (n := o) (L := 0) (t := 2) dX3_giveValues_38 rfl wi_71 m_615 (Nat.le_of_ble_eq_true rfl) rfl rfl hk8 hv21 ?_
          refine s_iload dX3_giveValues_41 rfl ?_
          have hk22 : gK G5 (o + 6) = (2, 240) := ((hXG5).k ((hXG4).k ((hXG2).k kM6 (by decide)) (by decide)) (by decide))
          refine s_bald dX3_giveValues_43 hk22 (by omega) (by omega) rfl ?_
          refine s_if_eq (tgt := 65) dX3_giveValues_44 (by decide) (fun c23 => ?_) (fun c23 => ?_)
          · -- 44 to 65
            refine s_iinc dX3_giveValues_65 (v := s5) rfl (by omega) (by decide) (lv' := [some (2, ((o : Nat) : Int)), some (2, ((n : Nat) : Int)), some (0, f), some (0, w), some (0, s5 + 1)]) rfl ?_
            refine s_goto (tgt := 19) dX3_giveValues_68 (by decide) ?_
            exact ih5 (s5 + 1) G5 hCG5 hXG5 hFG5 (⟨(by omega), (by omega), (by exact hIG5), (by exact hMIG5), (by exact hMCG5)⟩) (by omega)
          · -- 44 to 47
            refine s_aload_n dX3_giveValues_47 rfl (Int.natCast_nonneg _) ?_
            have hv24 : gS G5 o 2 = ((o + 2 : Nat) : Int) := by have h9 : (gS G5 o 2) = (((o % 1048576) + 2 : Nat) : Int) := hCG5.1.v (j := 2) (by rw [cde_m (by omega) (by omega)]; omega : cde o = 300) al20 (by rw [hk8]; exact Nat.le_of_ble_eq_true rfl); omega
            refine s_getf (ci := 4) (k := 2) (C := RX3) (T := TX3) (N := 18) (n := o) (L := 0) (t := 2) dX3_giveValues_48 rfl wi_71 m_598 (Nat.le_of_ble_eq_true rfl) rfl rfl hk8 hv24 ?_
            refine s_iload dX3_giveValues_51 rfl ?_
            have hk25 : gK G5 (o + 2) = (1, 240) := ((hXG5).k ((hXG4).k ((hXG2).k kM2 (by decide)) (by decide)) (by decide))
            refine s_iald dX3_giveValues_53 hk25 (by omega) (by omega) rfl ?_
            refine s_iconst dX3_giveValues_54 (by decide) ?_
            refine s_iand dX3_giveValues_55 ?_
            refine s_if_ne (tgt := 65) dX3_giveValues_56 (by decide) (fun c26 => ?_) (fun c26 => ?_)
            · -- 56 to 65
              refine s_iinc dX3_giveValues_65 (v := s5) rfl (by omega) (by decide) (lv' := [some (2, ((o : Nat) : Int)), some (2, ((n : Nat) : Int)), some (0, f), some (0, w), some (0, s5 + 1)]) rfl ?_
              refine s_goto (tgt := 19) dX3_giveValues_68 (by decide) ?_
              exact ih5 (s5 + 1) G5 hCG5 hXG5 hFG5 (⟨(by omega), (by omega), (by exact hIG5), (by exact hMIG5), (by exact hMCG5)⟩) (by omega)
            · -- 56 to 59
              refine s_aload_n dX3_giveValues_59 rfl (Int.natCast_nonneg _) ?_
              refine s_iload dX3_giveValues_60 rfl ?_
              refine s_callV (as := [(0, s5)]) (rest := []) (n := o) (ci := 4) gX3_giveValue dX3_giveValues_62 m_1367 m_949 m_1677 m_717 m_297 ⟨by decide, by decide, show (parseMethodDescriptor yX3_giveValue.desc).map (fun d => d.parameters.length) = some 1 from by decide +kernel⟩ (Nat.le_of_ble_eq_true rfl) (by rw [hcf]; exact Nat.le_of_ble_eq_true rfl) hk8 rfl rfl (Nat.le_of_ble_eq_true rfl) ⟨o, s5, f, a, b, rfl, hCG5, hab, (by assumption), (by omega), (by exact hMIG5), (by exact hMCG5), (by omega), (by omega), fun G27 hCG27 hXG27 hfG27 hpG27 => ?_⟩
              have hFG27 : WX (fun x => x = o ∨ x = o + 7 ∨ x = o + 8 ∨ x = o + 13 ∨ (o + 20 ≤ x ∧ x ≤ o + 24)) G G27 := WX.trans hFG5 (KX.trans (KX.trans hXG2 hXG4) hXG5) (WX.mono hfG27 rg11)
              have hIG27 : gS G27 o 9 = gS G o 9 := hpG27.1.trans hIG5
              have hMIG27 : MI G27 o f := hMIG5.cg hpG27.1 (hfG27 (o + 1) (KX.al (KX.trans (KX.trans hXG2 hXG4) hXG5) (kne kM1 (by decide))) rg12) (hfG27 (o + 3) (KX.al (KX.trans (KX.trans hXG2 hXG4) hXG5) (kne kM3 (by decide))) rg13) (hfG27 (o + 4) (KX.al (KX.trans (KX.trans hXG2 hXG4) hXG5) (kne kM4 (by decide))) rg14) (congrFun (hfG27 (327681) (KX.al (KX.trans (KX.trans hXG2 hXG4) hXG5) (kne kMp (by decide))) rg15) 12)
              have hMCG27 : MC G27 o f := hMCG5.cg hpG27.1 (hfG27 (o + 1) (KX.al (KX.trans (KX.trans hXG2 hXG4) hXG5) (kne kM1 (by decide))) rg12) (hfG27 (o + 5) (KX.al (KX.trans (KX.trans hXG2 hXG4) hXG5) (kne kM5 (by decide))) rg16)
              show WP kX3_giveValues X 65 [some (2, ((o : Nat) : Int)), some (2, ((n : Nat) : Int)), some (0, f), some (0, w), some (0, s5)] [] G27
              refine s_iinc dX3_giveValues_65 (v := s5) rfl (by omega) (by decide) (lv' := [some (2, ((o : Nat) : Int)), some (2, ((n : Nat) : Int)), some (0, f), some (0, w), some (0, s5 + 1)]) rfl ?_
              refine s_goto (tgt := 19) dX3_giveValues_68 (by decide) ?_
              exact ih5 (s5 + 1) G27 hCG27 (KX.trans hXG5 hXG27) hFG27 (⟨(by omega), (by omega), (by exact hIG27), (by exact hMIG27), (by exact hMCG27)⟩) (by omega)
  exact L5 _ (f * 10) G4 hCG4 KX.rf hFG4 (⟨(by omega), (by omega), (by exact hIG4), (by exact hMIG4), (by exact hMCG4)⟩) (Nat.lt_succ_self _)
