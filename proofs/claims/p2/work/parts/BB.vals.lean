abbrev kX9_isPair : KD := (RX9, cX9_isPair, 2, (some .boolean), [])
def TX9_isPair : TR := fun as G Qr => ∃ (o : Nat) (x : Int) (a b : Nat), as = [(2, ((o : Nat) : Int)), (0, x)] ∧ CI a b G ∧ (a ≤ 2840000 ∧ b ≤ 590000) ∧ (isVl o) ∧ (0 ≤ x ∧ x < lenV G o) ∧ ∀ (r : Int), ((r = 0 ∨ r = 1) ∧ (r = 1 → (0 ≤ fsV G o x ∧ fsV G o x < lenV G o) ∧ 0 ≤ snV G o x ∧ snV G o x < lenV G o)) → Qr (.inl (some (0, r))) G
set_option maxHeartbeats 4000000 in
set_option maxRecDepth 100000 in
theorem gX9_isPair : Good kX9_isPair yX9_isPair 0 TX9_isPair := by
  refine good_of (by decide) rfl rfl (fun as G Qr h => ?_) (fun X as G Qr hcf hR hT oa => ?_)
  · obtain ⟨o, x, a, b, rfl, -⟩ := h; exact Nat.le_of_ble_eq_true rfl
  obtain ⟨o, x, a, b, rfl, hC, hab, ho, hx, hQ⟩ := hT
  show WP kX9_isPair X 0 [some (2, ((o : Nat) : Int)), some (0, x)] [] G
  have hr_x : inR x := okv_R (oa _ (by simp))
  refine s_alvl o (k := 0) rfl (fun al0 => ?_)
  obtain ⟨q0, q1, q2, q3, L, ⟨hq0, hq1, hq2, hq3⟩, ⟨hm0, hm1, hm2, hm3⟩, ⟨hk0, hk1, hk2, hk3⟩, ⟨hL1, hL2⟩, hcn, hen, hss, hsr, hln⟩ := hC.vals ho al0
  have hko : gK G o = (18, 0) := hC.1.k (c := 320) (by rcases ho with rfl | rfl <;> decide) al0
  have hfs : ∀ x : Int, fsV G o x = gS G q0 x.toNat := fun x => by unfold fsV; rw [hq0, Int.toNat_natCast]
  have hsn : ∀ x : Int, snV G o x = gS G q1 x.toNat := fun x => by unfold snV; rw [hq1, Int.toNat_natCast]
  have hex := hen x hx.1 (by omega)
  refine s_aload_n dX9_isPair_0 rfl (Int.natCast_nonneg _) ?_
  refine s_getf (ci := 10) (k := 1) (C := RX9) (T := TX9) (N := 5) (n := o) (L := 0) (t := 2) dX9_isPair_1 rfl wi_77 m_693 (Nat.le_of_ble_eq_true rfl) rfl rfl hko hq1 ?_
  refine s_iload_n dX9_isPair_4 rfl ?_
  refine s_iald dX9_isPair_5 hk1 (by omega) (by omega) rfl ?_
  refine s_iconst dX9_isPair_6 (by decide) ?_
  have J3 : ∀ z2 : Int, (((gS G q1 ((x : Int).toNat)) = ((-1))) ∧ z2 = 0) ∨ ((¬ (gS G q1 ((x : Int).toNat)) = ((-1))) ∧ z2 = 1) → WP kX9_isPair X 15 [some (2, ((o : Nat) : Int)), some (0, x)] [(0, z2)] G := by
    intro z2 hz2
    exact s_zret hR dX9_isPair_15 rfl (by first | exact Or.inl rfl | exact Or.inr rfl | omega) (hQ z2 (by rw [hfs, hsn]; omega))
  refine s_icmp_eq (tgt := 14) dX9_isPair_7 (by decide) (fun c4 => ?_) (fun c4 => ?_)
  · -- 7 to 14
    refine s_iconst dX9_isPair_14 (by decide) ?_
    exact J3 0 (Or.inl ⟨c4, rfl⟩)
  · -- 7 to 10
    refine s_iconst dX9_isPair_10 (by decide) ?_
    refine s_goto (tgt := 15) dX9_isPair_11 (by decide) ?_
    exact J3 1 (Or.inr (⟨c4, rfl⟩))

abbrev kX9_firstOf : KD := (RX9, cX9_firstOf, 2, (some .int), [])
def TX9_firstOf : TR := fun as G Qr => ∃ (o : Nat) (x : Int) (a b : Nat), as = [(2, ((o : Nat) : Int)), (0, x)] ∧ CI a b G ∧ (a ≤ 2840000 ∧ b ≤ 590000) ∧ (isVl o) ∧ (0 ≤ x ∧ x < lenV G o) ∧ ∀ (r : Int), (r = fsV G o x) → Qr (.inl (some (0, r))) G
set_option maxHeartbeats 4000000 in
set_option maxRecDepth 100000 in
theorem gX9_firstOf : Good kX9_firstOf yX9_firstOf 0 TX9_firstOf := by
  refine good_of (by decide) rfl rfl (fun as G Qr h => ?_) (fun X as G Qr hcf hR hT oa => ?_)
  · obtain ⟨o, x, a, b, rfl, -⟩ := h; exact Nat.le_of_ble_eq_true rfl
  obtain ⟨o, x, a, b, rfl, hC, hab, ho, hx, hQ⟩ := hT
  show WP kX9_firstOf X 0 [some (2, ((o : Nat) : Int)), some (0, x)] [] G
  have hr_x : inR x := okv_R (oa _ (by simp))
  refine s_alvl o (k := 0) rfl (fun al0 => ?_)
  obtain ⟨q0, q1, q2, q3, L, ⟨hq0, hq1, hq2, hq3⟩, ⟨hm0, hm1, hm2, hm3⟩, ⟨hk0, hk1, hk2, hk3⟩, ⟨hL1, hL2⟩, hcn, hen, hss, hsr, hln⟩ := hC.vals ho al0
  have hko : gK G o = (18, 0) := hC.1.k (c := 320) (by rcases ho with rfl | rfl <;> decide) al0
  have hfs : ∀ x : Int, fsV G o x = gS G q0 x.toNat := fun x => by unfold fsV; rw [hq0, Int.toNat_natCast]
  have hsn : ∀ x : Int, snV G o x = gS G q1 x.toNat := fun x => by unfold snV; rw [hq1, Int.toNat_natCast]
  refine s_aload_n dX9_firstOf_0 rfl (Int.natCast_nonneg _) ?_
  refine s_getf (ci := 10) (k := 0) (C := RX9) (T := TX9) (N := 5) (n := o) (L := 0) (t := 2) dX9_firstOf_1 rfl wi_77 m_697 (Nat.le_of_ble_eq_true rfl) rfl rfl hko hq0 ?_
  refine s_iload_n dX9_firstOf_4 rfl ?_
  refine s_iald dX9_firstOf_5 hk0 (by omega) (by omega) rfl ?_
  exact s_iret hR dX9_firstOf_6 rfl (hQ (gS G q0 ((x : Int).toNat)) ((hfs x).symm))

abbrev kX9_secondOf : KD := (RX9, cX9_secondOf, 2, (some .int), [])
def TX9_secondOf : TR := fun as G Qr => ∃ (o : Nat) (x : Int) (a b : Nat), as = [(2, ((o : Nat) : Int)), (0, x)] ∧ CI a b G ∧ (a ≤ 2840000 ∧ b ≤ 590000) ∧ (isVl o) ∧ (0 ≤ x ∧ x < lenV G o) ∧ ∀ (r : Int), (r = snV G o x) → Qr (.inl (some (0, r))) G
set_option maxHeartbeats 4000000 in
set_option maxRecDepth 100000 in
theorem gX9_secondOf : Good kX9_secondOf yX9_secondOf 0 TX9_secondOf := by
  refine good_of (by decide) rfl rfl (fun as G Qr h => ?_) (fun X as G Qr hcf hR hT oa => ?_)
  · obtain ⟨o, x, a, b, rfl, -⟩ := h; exact Nat.le_of_ble_eq_true rfl
  obtain ⟨o, x, a, b, rfl, hC, hab, ho, hx, hQ⟩ := hT
  show WP kX9_secondOf X 0 [some (2, ((o : Nat) : Int)), some (0, x)] [] G
  have hr_x : inR x := okv_R (oa _ (by simp))
  refine s_alvl o (k := 0) rfl (fun al0 => ?_)
  obtain ⟨q0, q1, q2, q3, L, ⟨hq0, hq1, hq2, hq3⟩, ⟨hm0, hm1, hm2, hm3⟩, ⟨hk0, hk1, hk2, hk3⟩, ⟨hL1, hL2⟩, hcn, hen, hss, hsr, hln⟩ := hC.vals ho al0
  have hko : gK G o = (18, 0) := hC.1.k (c := 320) (by rcases ho with rfl | rfl <;> decide) al0
  have hfs : ∀ x : Int, fsV G o x = gS G q0 x.toNat := fun x => by unfold fsV; rw [hq0, Int.toNat_natCast]
  have hsn : ∀ x : Int, snV G o x = gS G q1 x.toNat := fun x => by unfold snV; rw [hq1, Int.toNat_natCast]
  refine s_aload_n dX9_secondOf_0 rfl (Int.natCast_nonneg _) ?_
  refine s_getf (ci := 10) (k := 1) (C := RX9) (T := TX9) (N := 5) (n := o) (L := 0) (t := 2) dX9_secondOf_1 rfl wi_77 m_693 (Nat.le_of_ble_eq_true rfl) rfl rfl hko hq1 ?_
  refine s_iload_n dX9_secondOf_4 rfl ?_
  refine s_iald dX9_secondOf_5 hk1 (by omega) (by omega) rfl ?_
  exact s_iret hR dX9_secondOf_6 rfl (hQ (gS G q1 ((x : Int).toNat)) ((hsn x).symm))

abbrev kX9_countOf : KD := (RX9, cX9_countOf, 2, (some .long), [])
def TX9_countOf : TR := fun as G Qr => ∃ (o : Nat) (x : Int) (a b : Nat), as = [(2, ((o : Nat) : Int)), (0, x)] ∧ CI a b G ∧ (a ≤ 2840000 ∧ b ≤ 590000) ∧ (isVl o) ∧ (0 ≤ x ∧ x < lenV G o) ∧ ∀ (r : Int), (True) → Qr (.inl (some (1, r))) G
set_option maxHeartbeats 4000000 in
set_option maxRecDepth 100000 in
theorem gX9_countOf : Good kX9_countOf yX9_countOf 0 TX9_countOf := by
  refine good_of (by decide) rfl rfl (fun as G Qr h => ?_) (fun X as G Qr hcf hR hT oa => ?_)
  · obtain ⟨o, x, a, b, rfl, -⟩ := h; exact Nat.le_of_ble_eq_true rfl
  obtain ⟨o, x, a, b, rfl, hC, hab, ho, hx, hQ⟩ := hT
  show WP kX9_countOf X 0 [some (2, ((o : Nat) : Int)), some (0, x)] [] G
  have hr_x : inR x := okv_R (oa _ (by simp))
  refine s_alvl o (k := 0) rfl (fun al0 => ?_)
  obtain ⟨q0, q1, q2, q3, L, ⟨hq0, hq1, hq2, hq3⟩, ⟨hm0, hm1, hm2, hm3⟩, ⟨hk0, hk1, hk2, hk3⟩, ⟨hL1, hL2⟩, hcn, hen, hss, hsr, hln⟩ := hC.vals ho al0
  have hko : gK G o = (18, 0) := hC.1.k (c := 320) (by rcases ho with rfl | rfl <;> decide) al0
  have hfs : ∀ x : Int, fsV G o x = gS G q0 x.toNat := fun x => by unfold fsV; rw [hq0, Int.toNat_natCast]
  have hsn : ∀ x : Int, snV G o x = gS G q1 x.toNat := fun x => by unfold snV; rw [hq1, Int.toNat_natCast]
  refine s_aload_n dX9_countOf_0 rfl (Int.natCast_nonneg _) ?_
  refine s_getf (ci := 10) (k := 2) (C := RX9) (T := TX9) (N := 5) (n := o) (L := 0) (t := 2) dX9_countOf_1 rfl wi_77 m_694 (Nat.le_of_ble_eq_true rfl) rfl rfl hko hq2 ?_
  refine s_iload_n dX9_countOf_4 rfl ?_
  refine s_lald dX9_countOf_5 hk2 (by omega) (by omega) rfl ?_
  exact s_lret hR dX9_countOf_6 rfl (hQ (gS G q2 ((x : Int).toNat)) trivial)

abbrev kX9_entryOf : KD := (RX9, cX9_entryOf, 2, (some .int), [])
def TX9_entryOf : TR := fun as G Qr => ∃ (o : Nat) (x : Int) (a b : Nat), as = [(2, ((o : Nat) : Int)), (0, x)] ∧ CI a b G ∧ (a ≤ 2840000 ∧ b ≤ 590000) ∧ (isVl o) ∧ (0 ≤ x ∧ x < lenV G o) ∧ ∀ (r : Int), (True) → Qr (.inl (some (0, r))) G
set_option maxHeartbeats 4000000 in
set_option maxRecDepth 100000 in
theorem gX9_entryOf : Good kX9_entryOf yX9_entryOf 1 TX9_entryOf := by
  refine good_of (by decide) rfl rfl (fun as G Qr h => ?_) (fun X as G Qr hcf hR hT oa => ?_)
  · obtain ⟨o, x, a, b, rfl, -⟩ := h; exact Nat.le_of_ble_eq_true rfl
  obtain ⟨o, x, a, b, rfl, hC, hab, ho, hx, hQ⟩ := hT
  show WP kX9_entryOf X 0 [some (2, ((o : Nat) : Int)), some (0, x)] [] G
  have hr_x : inR x := okv_R (oa _ (by simp))
  refine s_alvl o (k := 0) rfl (fun al0 => ?_)
  obtain ⟨q0, q1, q2, q3, L, ⟨hq0, hq1, hq2, hq3⟩, ⟨hm0, hm1, hm2, hm3⟩, ⟨hk0, hk1, hk2, hk3⟩, ⟨hL1, hL2⟩, hcn, hen, hss, hsr, hln⟩ := hC.vals ho al0
  have hko : gK G o = (18, 0) := hC.1.k (c := 320) (by rcases ho with rfl | rfl <;> decide) al0
  have hfs : ∀ x : Int, fsV G o x = gS G q0 x.toNat := fun x => by unfold fsV; rw [hq0, Int.toNat_natCast]
  have hsn : ∀ x : Int, snV G o x = gS G q1 x.toNat := fun x => by unfold snV; rw [hq1, Int.toNat_natCast]
  refine s_aload_n dX9_entryOf_0 rfl (Int.natCast_nonneg _) ?_
  refine s_iload_n dX9_entryOf_1 rfl ?_
  refine s_callV (as := [(0, x)]) (rest := []) (n := o) (ci := 10) gX9_isPair dX9_entryOf_2 m_1452 m_1017 m_1738 m_723 m_365 ⟨by decide, by decide, show (parseMethodDescriptor yX9_isPair.desc).map (fun d => d.parameters.length) = some 1 from by decide +kernel⟩ (Nat.le_of_ble_eq_true rfl) (by rw [hcf]; exact Nat.le_of_ble_eq_true rfl) hko rfl rfl (Nat.le_of_ble_eq_true rfl) ⟨o, x, a, b, rfl, hC, hab, (by first | assumption | omega), (by first | assumption | omega), fun rr1 hp2 => ?_⟩
  show WP kX9_entryOf X 5 [some (2, ((o : Nat) : Int)), some (0, x)] [(0, rr1)] G
  refine s_if_eq (tgt := 17) dX9_entryOf_5 (by decide) (fun c3 => ?_) (fun c3 => ?_)
  · -- 5 to 17
    refine s_aload_n dX9_entryOf_17 rfl (Int.natCast_nonneg _) ?_
    refine s_getf (ci := 10) (k := 0) (C := RX9) (T := TX9) (N := 5) (n := o) (L := 0) (t := 2) dX9_entryOf_18 rfl wi_77 m_697 (Nat.le_of_ble_eq_true rfl) rfl rfl hko hq0 ?_
    refine s_iload_n dX9_entryOf_21 rfl ?_
    refine s_iald dX9_entryOf_22 hk0 (by omega) (by omega) rfl ?_
    exact s_iret hR dX9_entryOf_23 rfl (hQ (gS G q0 ((x : Int).toNat)) trivial)
  · -- 5 to 8
    refine s_aload_n dX9_entryOf_8 rfl (Int.natCast_nonneg _) ?_
    refine s_getf (ci := 10) (k := 3) (C := RX9) (T := TX9) (N := 5) (n := o) (L := 0) (t := 2) dX9_entryOf_9 rfl wi_77 m_695 (Nat.le_of_ble_eq_true rfl) rfl rfl hko hq3 ?_
    refine s_iload_n dX9_entryOf_12 rfl ?_
    refine s_iald dX9_entryOf_13 hk3 (by omega) (by omega) rfl ?_
    refine s_goto (tgt := 23) dX9_entryOf_14 (by decide) ?_
    exact s_iret hR dX9_entryOf_23 rfl (hQ (gS G q3 ((x : Int).toNat)) trivial)

abbrev kX9_numberAt : KD := (RX9, cX9_numberAt, 9, (some .int), [])
def TX9_numberAt : TR := fun as G Qr => ∃ (o : Nat) (x y : Int) (a b : Nat), as = [(2, ((o : Nat) : Int)), (0, x), (0, y)] ∧ CI a b G ∧ (a ≤ 2840000 ∧ b ≤ 590000) ∧ (isVl o) ∧ (0 ≤ x ∧ x < lenV G o) ∧ ∀ (r : Int), (True) → Qr (.inl (some (0, r))) G
set_option maxHeartbeats 4000000 in
set_option maxRecDepth 100000 in
theorem gX9_numberAt : Good kX9_numberAt yX9_numberAt 1 TX9_numberAt := by
  refine good_of (by decide) rfl rfl (fun as G Qr h => ?_) (fun X as G Qr hcf hR hT oa => ?_)
  · obtain ⟨o, x, y, a, b, rfl, -⟩ := h; exact Nat.le_of_ble_eq_true rfl
  obtain ⟨o, x, y, a, b, rfl, hC, hab, ho, hx, hQ⟩ := hT
  show WP kX9_numberAt X 0 [some (2, ((o : Nat) : Int)), some (0, x), some (0, y), none, none, none, none, none, none] [] G
  have hr_x : inR x := okv_R (oa _ (by simp))
  have hr_y : inR y := okv_R (oa _ (by simp))
  refine s_alvl o (k := 0) rfl (fun al0 => ?_)
  obtain ⟨q0, q1, q2, q3, L, ⟨hq0, hq1, hq2, hq3⟩, ⟨hm0, hm1, hm2, hm3⟩, ⟨hk0, hk1, hk2, hk3⟩, ⟨hL1, hL2⟩, hcn, hen, hss, hsr, hln⟩ := hC.vals ho al0
  have hko : gK G o = (18, 0) := hC.1.k (c := 320) (by rcases ho with rfl | rfl <;> decide) al0
  have hfs : ∀ x : Int, fsV G o x = gS G q0 x.toNat := fun x => by unfold fsV; rw [hq0, Int.toNat_natCast]
  have hsn : ∀ x : Int, snV G o x = gS G q1 x.toNat := fun x => by unfold snV; rw [hq1, Int.toNat_natCast]
  refine s_iload_n dX9_numberAt_0 rfl ?_
  refine s_istore_n dX9_numberAt_1 (by decide) (lv' := [some (2, ((o : Nat) : Int)), some (0, x), some (0, y), some (0, x), none, none, none, none, none]) rfl ?_
  refine s_iload_n dX9_numberAt_2 rfl ?_
  refine s_i2l dX9_numberAt_3 ?_
  refine s_lstore dX9_numberAt_4 (by decide) (lv' := [some (2, ((o : Nat) : Int)), some (0, x), some (0, y), some (0, x), some (1, y), none, none, none, none]) rfl ?_
  refine s_iconst dX9_numberAt_6 (by decide) ?_
  refine s_istore dX9_numberAt_7 (by decide) (lv' := [some (2, ((o : Nat) : Int)), some (0, x), some (0, y), some (0, x), some (1, y), none, some (0, 0), none, none]) rfl ?_
  have L1 : ∀ (n1 : Nat) (t1 : Int) (l1 : Int) (i1 : Int), (((0 ≤ t1 ∧ t1 < lenV G o) ∧ 0 ≤ i1)) → (gS G o 4 - i1).toNat < n1 → WP kX9_numberAt X 9 [some (2, ((o : Nat) : Int)), some (0, x), some (0, y), some (0, t1), some (1, l1), none, some (0, i1), none, none] [] G := by
    intro n1
    induction n1 with
    | zero => intro t1 l1 i1 hi1 hm1; exact absurd hm1 (Nat.not_lt_zero _)
    | succ n1 ih1 =>
      intro t1 l1 i1 hi1 hm1
      have it1 := hi1
      refine s_iload dX9_numberAt_9 rfl ?_
      refine s_aload_n dX9_numberAt_11 rfl (Int.natCast_nonneg _) ?_
      have hv2 : 0 ≤ (gS G o 4) ∧ (gS G o 4) ≤ 8192 := hC.1.v (j := 4) (by rw [cde_m (by omega) (by omega)]; omega : cde o = 320) al0 (by rw [hko]; exact Nat.le_of_ble_eq_true rfl)
      refine s_getf (ci := 10) (k := 4) (C := RX9) (T := TX9) (N := 5) (n := o) (L := 0) (t := 0) dX9_numberAt_12 rfl wi_77 m_696 (Nat.le_of_ble_eq_true rfl) rfl rfl hko rfl ?_
      refine s_icmp_ge (tgt := 77) dX9_numberAt_15 (by decide) (fun c3 => ?_) (fun c3 => ?_)
      · -- 15 to 77
        refine s_aload_n dX9_numberAt_77 rfl (Int.natCast_nonneg _) ?_
        refine s_getf (ci := 10) (k := 0) (C := RX9) (T := TX9) (N := 5) (n := o) (L := 0) (t := 2) dX9_numberAt_78 rfl wi_77 m_697 (Nat.le_of_ble_eq_true rfl) rfl rfl hko hq0 ?_
        refine s_iload_n dX9_numberAt_81 rfl ?_
        refine s_iald dX9_numberAt_82 hk0 (by omega) (by omega) rfl ?_
        exact s_iret hR dX9_numberAt_83 rfl (hQ (gS G q0 ((t1 : Int).toNat)) trivial)
      · -- 15 to 18
        refine s_aload_n dX9_numberAt_18 rfl (Int.natCast_nonneg _) ?_
        refine s_iload_n dX9_numberAt_19 rfl ?_
        refine s_callV (as := [(0, t1)]) (rest := []) (n := o) (ci := 10) gX9_isPair dX9_numberAt_20 m_1452 m_1017 m_1738 m_723 m_365 ⟨by decide, by decide, show (parseMethodDescriptor yX9_isPair.desc).map (fun d => d.parameters.length) = some 1 from by decide +kernel⟩ (Nat.le_of_ble_eq_true rfl) (by rw [hcf]; exact Nat.le_of_ble_eq_true rfl) hko rfl rfl (Nat.le_of_ble_eq_true rfl) ⟨o, t1, a, b, rfl, hC, hab, (by first | assumption | omega), (by first | assumption | omega), fun rr5 hp6 => ?_⟩
        show WP kX9_numberAt X 23 [some (2, ((o : Nat) : Int)), some (0, x), some (0, y), some (0, t1), some (1, l1), none, some (0, i1), none, none] [(0, rr5)] G
        refine s_if_eq (tgt := 77) dX9_numberAt_23 (by decide) (fun c7 => ?_) (fun c7 => ?_)
        · -- 23 to 77
          refine s_aload_n dX9_numberAt_77 rfl (Int.natCast_nonneg _) ?_
          refine s_getf (ci := 10) (k := 0) (C := RX9) (T := TX9) (N := 5) (n := o) (L := 0) (t := 2) dX9_numberAt_78 rfl wi_77 m_697 (Nat.le_of_ble_eq_true rfl) rfl rfl hko hq0 ?_
          refine s_iload_n dX9_numberAt_81 rfl ?_
          refine s_iald dX9_numberAt_82 hk0 (by omega) (by omega) rfl ?_
          exact s_iret hR dX9_numberAt_83 rfl (hQ (gS G q0 ((t1 : Int).toNat)) trivial)
        · -- 23 to 26
          have hfx := hfs t1
          have hsx := hsn t1
          refine s_aload_n dX9_numberAt_26 rfl (Int.natCast_nonneg _) ?_
          refine s_getf (ci := 10) (k := 2) (C := RX9) (T := TX9) (N := 5) (n := o) (L := 0) (t := 2) dX9_numberAt_27 rfl wi_77 m_694 (Nat.le_of_ble_eq_true rfl) rfl rfl hko hq2 ?_
          refine s_aload_n dX9_numberAt_30 rfl (Int.natCast_nonneg _) ?_
          refine s_getf (ci := 10) (k := 0) (C := RX9) (T := TX9) (N := 5) (n := o) (L := 0) (t := 2) dX9_numberAt_31 rfl wi_77 m_697 (Nat.le_of_ble_eq_true rfl) rfl rfl hko hq0 ?_
          refine s_iload_n dX9_numberAt_34 rfl ?_
          refine s_iald dX9_numberAt_35 hk0 (by omega) (by omega) rfl ?_
          refine s_lald dX9_numberAt_36 hk2 (by omega) (by omega) rfl ?_
          refine s_lstore dX9_numberAt_37 (by decide) (lv' := [some (2, ((o : Nat) : Int)), some (0, x), some (0, y), some (0, t1), some (1, l1), none, some (0, i1), some (1, gS G q2 ((gS G q0 ((t1 : Int).toNat) : Int).toNat)), none]) rfl ?_
          refine s_lload dX9_numberAt_39 rfl ?_
          refine s_lload dX9_numberAt_41 rfl ?_
          refine s_lcmp dX9_numberAt_43 (fun w11 hrw11 hcw11 hqw11 hgw11 => ?_)
          refine s_if_ge (tgt := 57) dX9_numberAt_44 (by decide) (fun c12 => ?_) (fun c12 => ?_)
          · -- 44 to 57
            refine s_lload dX9_numberAt_57 rfl ?_
            refine s_lload dX9_numberAt_59 rfl ?_
            refine s_lsubW dX9_numberAt_61 (fun w13 hrw13 hew13 => ?_)
            refine s_lstore dX9_numberAt_62 (by decide) (lv' := [some (2, ((o : Nat) : Int)), some (0, x), some (0, y), some (0, t1), some (1, w13), none, some (0, i1), some (1, gS G q2 ((gS G q0 ((t1 : Int).toNat) : Int).toNat)), none]) rfl ?_
            refine s_aload_n dX9_numberAt_64 rfl (Int.natCast_nonneg _) ?_
            refine s_getf (ci := 10) (k := 1) (C := RX9) (T := TX9) (N := 5) (n := o) (L := 0) (t := 2) dX9_numberAt_65 rfl wi_77 m_693 (Nat.le_of_ble_eq_true rfl) rfl rfl hko hq1 ?_
            refine s_iload_n dX9_numberAt_68 rfl ?_
            refine s_iald dX9_numberAt_69 hk1 (by omega) (by omega) rfl ?_
            refine s_istore_n dX9_numberAt_70 (by decide) (lv' := [some (2, ((o : Nat) : Int)), some (0, x), some (0, y), some (0, gS G q1 ((t1 : Int).toNat)), some (1, w13), none, some (0, i1), some (1, gS G q2 ((gS G q0 ((t1 : Int).toNat) : Int).toNat)), none]) rfl ?_
            refine s_iinc dX9_numberAt_71 (v := i1) rfl (by omega) (by decide) (lv' := [some (2, ((o : Nat) : Int)), some (0, x), some (0, y), some (0, gS G q1 ((t1 : Int).toNat)), some (1, w13), none, some (0, i1 + 1), some (1, gS G q2 ((gS G q0 ((t1 : Int).toNat) : Int).toNat)), none]) rfl ?_
            refine s_goto (tgt := 9) dX9_numberAt_74 (by decide) ?_
            refine s_mask [true, true, true, true, true, false, true, false, false] (lv' := [some (2, ((o : Nat) : Int)), some (0, x), some (0, y), some (0, gS G q1 ((t1 : Int).toNat)), some (1, w13), none, some (0, i1 + 1), none, none]) rfl ?_
            exact ih1 (gS G q1 ((t1 : Int).toNat)) w13 (i1 + 1) ((by omega)) (by omega)
          · -- 44 to 47
            refine s_aload_n dX9_numberAt_47 rfl (Int.natCast_nonneg _) ?_
            refine s_getf (ci := 10) (k := 0) (C := RX9) (T := TX9) (N := 5) (n := o) (L := 0) (t := 2) dX9_numberAt_48 rfl wi_77 m_697 (Nat.le_of_ble_eq_true rfl) rfl rfl hko hq0 ?_
            refine s_iload_n dX9_numberAt_51 rfl ?_
            refine s_iald dX9_numberAt_52 hk0 (by omega) (by omega) rfl ?_
            refine s_istore_n dX9_numberAt_53 (by decide) (lv' := [some (2, ((o : Nat) : Int)), some (0, x), some (0, y), some (0, gS G q0 ((t1 : Int).toNat)), some (1, l1), none, some (0, i1), some (1, gS G q2 ((gS G q0 ((t1 : Int).toNat) : Int).toNat)), none]) rfl ?_
            refine s_goto (tgt := 71) dX9_numberAt_54 (by decide) ?_
            refine s_iinc dX9_numberAt_71 (v := i1) rfl (by omega) (by decide) (lv' := [some (2, ((o : Nat) : Int)), some (0, x), some (0, y), some (0, gS G q0 ((t1 : Int).toNat)), some (1, l1), none, some (0, i1 + 1), some (1, gS G q2 ((gS G q0 ((t1 : Int).toNat) : Int).toNat)), none]) rfl ?_
            refine s_goto (tgt := 9) dX9_numberAt_74 (by decide) ?_
            refine s_mask [true, true, true, true, true, false, true, false, false] (lv' := [some (2, ((o : Nat) : Int)), some (0, x), some (0, y), some (0, gS G q0 ((t1 : Int).toNat)), some (1, l1), none, some (0, i1 + 1), none, none]) rfl ?_
            exact ih1 (gS G q0 ((t1 : Int).toNat)) l1 (i1 + 1) ((by omega)) (by omega)
  exact L1 _ x y 0 ((by omega)) (Nat.lt_succ_self _)

abbrev kX9_add : KD := (RX9, cX9_add, 4, (some .int), [])
def TX9_add : TR := fun as G Qr => ∃ (o : Nat) (x y : Int) (a b : Nat), as = [(2, ((o : Nat) : Int)), (0, x), (0, y)] ∧ CI a b G ∧ (a ≤ 2840000 ∧ b ≤ 590000) ∧ (isVl o) ∧ (0 ≤ gS G o 4 ∧ gS G o 4 ≤ 2999) ∧ (y = -1 ∨ ((0 ≤ x ∧ x < lenV G o) ∧ 0 ≤ y ∧ y < lenV G o)) ∧ ∀ (r : Int) (G' : LG), CI a b G' → KX G G' → WX (fun x => o ≤ x ∧ x ≤ o + 4) G G' → (r = gS G o 4 ∧ gS G' o 4 = gS G o 4 + 1 ∧ lenV G o ≤ lenV G' o) → Qr (.inl (some (0, r))) G'
set_option maxHeartbeats 4000000 in
set_option maxRecDepth 100000 in
theorem gX9_add : Good kX9_add yX9_add 2 TX9_add := by
  refine good_of (by decide) rfl rfl (fun as G Qr h => ?_) (fun X as G Qr hcf hR hT oa => ?_)
  · obtain ⟨o, x, y, a, b, rfl, -⟩ := h; exact Nat.le_of_ble_eq_true rfl
  obtain ⟨o, x, y, a, b, rfl, hC, hab, ho, hcn0, hxy, hQ⟩ := hT
  show WP kX9_add X 0 [some (2, ((o : Nat) : Int)), some (0, x), some (0, y), none] [] G
  have hr_x : inR x := okv_R (oa _ (by simp))
  have hr_y : inR y := okv_R (oa _ (by simp))
  refine s_alvl o (k := 0) rfl (fun al0 => ?_)
  obtain ⟨q0, q1, q2, q3, L, ⟨hq0, hq1, hq2, hq3⟩, ⟨hm0, hm1, hm2, hm3⟩, ⟨hk0, hk1, hk2, hk3⟩, ⟨hL1, hL2⟩, hcn, hen, hss, hsr, hln⟩ := hC.vals ho al0
  have hko : gK G o = (18, 0) := hC.1.k (c := 320) (by rcases ho with rfl | rfl <;> decide) al0
  have hln1 := hln
  refine s_aload_n dX9_add_0 rfl (Int.natCast_nonneg _) ?_
  have hv1 : 0 ≤ (gS G o 4) ∧ (gS G o 4) ≤ 8192 := hC.1.v (j := 4) (by rw [cde_m (by omega) (by omega)]; omega : cde o = 320) al0 (by rw [hko]; exact Nat.le_of_ble_eq_true rfl)
  refine s_getf (ci := 10) (k := 4) (C := RX9) (T := TX9) (N := 5) (n := o) (L := 0) (t := 0) dX9_add_1 rfl wi_77 m_696 (Nat.le_of_ble_eq_true rfl) rfl rfl hko rfl ?_
  refine s_aload_n dX9_add_4 rfl (Int.natCast_nonneg _) ?_
  refine s_getf (ci := 10) (k := 0) (C := RX9) (T := TX9) (N := 5) (n := o) (L := 0) (t := 2) dX9_add_5 rfl wi_77 m_697 (Nat.le_of_ble_eq_true rfl) rfl rfl hko hq0 ?_
  refine s_alen dX9_add_8 hk0 (by decide) (by omega) ?_
  refine s_icmp_lt (tgt := 84) dX9_add_9 (by decide) (fun c3 => ?_) (fun c3 => ?_)
  · -- 9 to 84
    refine s_iload_n dX9_add_84 rfl ?_
    refine s_iconst dX9_add_85 (by decide) ?_
    have J5 : ∀ z4 : Int, ((¬ y = ((-1))) ∧ z4 = 0) ∨ ((y = ((-1))) ∧ z4 = 1) → WP kX9_add X 94 [some (2, ((o : Nat) : Int)), some (0, x), some (0, y), none] [(0, z4)] G := by
      intro z4 hz4
      refine s_istore_n dX9_add_94 (by decide) (lv' := [some (2, ((o : Nat) : Int)), some (0, x), some (0, y), some (0, z4)]) rfl ?_
      refine s_aload_n dX9_add_95 rfl (Int.natCast_nonneg _) ?_
      refine s_getf (ci := 10) (k := 0) (C := RX9) (T := TX9) (N := 5) (n := o) (L := 0) (t := 2) dX9_add_96 rfl wi_77 m_697 (Nat.le_of_ble_eq_true rfl) rfl rfl hko hq0 ?_
      refine s_aload_n dX9_add_99 rfl (Int.natCast_nonneg _) ?_
      refine s_getf (ci := 10) (k := 4) (C := RX9) (T := TX9) (N := 5) (n := o) (L := 0) (t := 0) dX9_add_100 rfl wi_77 m_696 (Nat.le_of_ble_eq_true rfl) rfl rfl hko rfl ?_
      refine s_iload_n dX9_add_103 rfl ?_
      refine s_iast dX9_add_104 hk0 (by omega) (by omega) ?_
      refine s_aload_n dX9_add_105 rfl (Int.natCast_nonneg _) ?_
      refine s_getf (ci := 10) (k := 1) (C := RX9) (T := TX9) (N := 5) (n := o) (L := 0) (t := 2) dX9_add_106 rfl wi_77 m_693 (Nat.le_of_ble_eq_true rfl) rfl rfl (by rw [gset_K]; exact hko) (show gS (gset G q0 ((gS G o 4 : Int).toNat) x) o 1 = (q1 : Int) from by rw [gset_ne _ _ (fun w => by omega)]; exact hq1) ?_
      refine s_aload_n dX9_add_109 rfl (Int.natCast_nonneg _) ?_
      refine s_getf (ci := 10) (k := 4) (C := RX9) (T := TX9) (N := 5) (n := o) (L := 0) (t := 0) dX9_add_110 rfl wi_77 m_696 (Nat.le_of_ble_eq_true rfl) rfl rfl (by rw [gset_K]; exact hko) (show gS (gset G q0 ((gS G o 4 : Int).toNat) x) o 4 = gS G o 4 from gset_ne _ _ (fun w => by omega)) ?_
      refine s_iload_n dX9_add_113 rfl ?_
      refine s_iast dX9_add_114 (by rw [gset_K]; exact hk1) (by omega) (by omega) ?_
      generalize eG8r : gset (gset G q0 ((gS G o 4 : Int).toNat) x) q1 (gS G o 4).toNat y = G8
      have eG8 := eG8r.symm
      have hCG8 : CI a b G8 := by rw [eG8]; exact hC.valPut ho hq0 hq1 hk0 hk1 hm0 hm1 (by omega) (by omega)
      have hXG8 : KX G G8 := KX.of (by rw [eG8]; rfl)
      have hFG8 : WX (fun x => o ≤ x ∧ x ≤ o + 4) G G8 := WX.set (WX.set WX.rf rfl (by show _; omega)) eG8 (by show _; omega)
      have hr0G8 : gS G8 o 0 = gS G o 0 := by rw [eG8, gset_ne _ _ (fun w => by omega), gset_ne _ _ (fun w => by omega)]
      have hr1G8 : gS G8 o 1 = gS G o 1 := by rw [eG8, gset_ne _ _ (fun w => by omega), gset_ne _ _ (fun w => by omega)]
      have hr2G8 : gS G8 o 2 = gS G o 2 := by rw [eG8, gset_ne _ _ (fun w => by omega), gset_ne _ _ (fun w => by omega)]
      have hr3G8 : gS G8 o 3 = gS G o 3 := by rw [eG8, gset_ne _ _ (fun w => by omega), gset_ne _ _ (fun w => by omega)]
      have hr4G8 : gS G8 o 4 = gS G o 4 := by rw [eG8, gset_ne _ _ (fun w => by omega), gset_ne _ _ (fun w => by omega)]
      have hs0G8 : gS G8 o 0 = (q0 : Int) := hr0G8.trans hq0
      have hkk0G8 : gK G8 q0 = (1, L) := hXG8.k hk0 (by decide)
      have hs1G8 : gS G8 o 1 = (q1 : Int) := hr1G8.trans hq1
      have hkk1G8 : gK G8 q1 = (1, L) := hXG8.k hk1 (by decide)
      have hs2G8 : gS G8 o 2 = (q2 : Int) := hr2G8.trans hq2
      have hkk2G8 : gK G8 q2 = (3, L) := hXG8.k hk2 (by decide)
      have hs3G8 : gS G8 o 3 = (q3 : Int) := hr3G8.trans hq3
      have hkk3G8 : gK G8 q3 = (1, L) := hXG8.k hk3 (by decide)
      show WP kX9_add X 115 [some (2, ((o : Nat) : Int)), some (0, x), some (0, y), some (0, z4)] [] G8
      refine s_aload_n dX9_add_115 rfl (Int.natCast_nonneg _) ?_
      have hk9 : gK G8 (o) = (18, 0) := ((hXG8).k hko (by decide))
      refine s_alv (o) (by simp) (fun (al10 : AL G8 o) => ?_)
      refine s_getf (ci := 10) (k := 2) (C := RX9) (T := TX9) (N := 5) (n := o) (L := 0) (t := 2) dX9_add_116 rfl wi_77 m_694 (Nat.le_of_ble_eq_true rfl) rfl rfl hk9 hs2G8 ?_
      refine s_aload_n dX9_add_119 rfl (Int.natCast_nonneg _) ?_
      have hv12 : 0 ≤ (gS G8 o 4) ∧ (gS G8 o 4) ≤ 8192 := hCG8.1.v (j := 4) (by rw [cde_m (by omega) (by omega)]; omega : cde o = 320) al10 (by rw [hk9]; exact Nat.le_of_ble_eq_true rfl)
      refine s_getf (ci := 10) (k := 4) (C := RX9) (T := TX9) (N := 5) (n := o) (L := 0) (t := 0) dX9_add_120 rfl wi_77 m_696 (Nat.le_of_ble_eq_true rfl) rfl rfl hk9 rfl ?_
      refine s_iload_n dX9_add_123 rfl ?_
      refine s_if_eq (tgt := 131) dX9_add_124 (by decide) (fun c13 => ?_) (fun c13 => ?_)
      · -- 124 to 131
        refine s_ldc2 (v := 2305843009213693952) (own := RX9) dX9_add_131 m_398 (by decide) rfl ?_
        refine s_aload_n dX9_add_134 rfl (Int.natCast_nonneg _) ?_
        refine s_getf (ci := 10) (k := 2) (C := RX9) (T := TX9) (N := 5) (n := o) (L := 0) (t := 2) dX9_add_135 rfl wi_77 m_694 (Nat.le_of_ble_eq_true rfl) rfl rfl hk9 hs2G8 ?_
        refine s_iload_n dX9_add_138 rfl ?_
        refine s_lald dX9_add_139 hkk2G8 (by omega) (by omega) rfl ?_
        refine s_aload_n dX9_add_140 rfl (Int.natCast_nonneg _) ?_
        refine s_getf (ci := 10) (k := 2) (C := RX9) (T := TX9) (N := 5) (n := o) (L := 0) (t := 2) dX9_add_141 rfl wi_77 m_694 (Nat.le_of_ble_eq_true rfl) rfl rfl hk9 hs2G8 ?_
        refine s_iload_n dX9_add_144 rfl ?_
        refine s_lald dX9_add_145 hkk2G8 (by omega) (by omega) rfl ?_
        refine s_laddW dX9_add_146 (fun w16 hrw16 hew16 => ?_)
        refine s_mminL dX9_add_147 m_1451 (by rw [hcf]; exact Nat.le_of_ble_eq_true rfl) (Nat.le_of_ble_eq_true rfl) (fun z17 hrz17 => ?_)
        refine s_last dX9_add_150 hkk2G8 (by omega) (by omega) ?_
        generalize eG18r : gset G8 q2 ((gS G8 o 4 : Int).toNat) z17 = G18
        have eG18 := eG18r.symm
        have hCG18 : CI a b G18 := by rw [eG18]; exact hCG8.set (by rw [(by rw [cde_m (by omega) (by omega)]; omega : cde q2 = 323)]; rfl) (by rw [(by rw [cde_m (by omega) (by omega)]; omega : cde q2 = 323)]; exact trivial)
        have hXG18 : KX G8 G18 := KX.set KX.rf eG18
        have hFG18 : WX (fun x => o ≤ x ∧ x ≤ o + 4) G G18 := WX.set hFG8 eG18 (by show _; omega)
        show WP kX9_add X 151 [some (2, ((o : Nat) : Int)), some (0, x), some (0, y), some (0, z4)] [] G18
        have hs0G18 : gS G18 o 0 = (q0 : Int) := by rw [gset_o eG18 (x := o) (by omega)]; exact hs0G8
        have hkk0G18 : gK G18 q0 = (1, L) := hXG18.k hkk0G8 (by decide)
        have hs1G18 : gS G18 o 1 = (q1 : Int) := by rw [gset_o eG18 (x := o) (by omega)]; exact hs1G8
        have hkk1G18 : gK G18 q1 = (1, L) := hXG18.k hkk1G8 (by decide)
        have hs2G18 : gS G18 o 2 = (q2 : Int) := by rw [gset_o eG18 (x := o) (by omega)]; exact hs2G8
        have hkk2G18 : gK G18 q2 = (3, L) := hXG18.k hkk2G8 (by decide)
        have hs3G18 : gS G18 o 3 = (q3 : Int) := by rw [gset_o eG18 (x := o) (by omega)]; exact hs3G8
        have hkk3G18 : gK G18 q3 = (1, L) := hXG18.k hkk3G8 (by decide)
        have hr4G18 : gS G18 o 4 = gS G8 o 4 := congrFun (gset_o eG18 (x := o) (by omega)) 4
        refine s_aload_n dX9_add_151 rfl (Int.natCast_nonneg _) ?_
        have hk19 : gK G18 (o) = (18, 0) := ((hXG18).k hk9 (by decide))
        refine s_alv (o) (by simp) (fun (al20 : AL G18 o) => ?_)
        refine s_getf (ci := 10) (k := 3) (C := RX9) (T := TX9) (N := 5) (n := o) (L := 0) (t := 2) dX9_add_152 rfl wi_77 m_695 (Nat.le_of_ble_eq_true rfl) rfl rfl hk19 hs3G18 ?_
        refine s_aload_n dX9_add_155 rfl (Int.natCast_nonneg _) ?_
        have hv22 : 0 ≤ (gS G18 o 4) ∧ (gS G18 o 4) ≤ 8192 := hCG18.1.v (j := 4) (by rw [cde_m (by omega) (by omega)]; omega : cde o = 320) al20 (by rw [hk19]; exact Nat.le_of_ble_eq_true rfl)
        refine s_getf (ci := 10) (k := 4) (C := RX9) (T := TX9) (N := 5) (n := o) (L := 0) (t := 0) dX9_add_156 rfl wi_77 m_696 (Nat.le_of_ble_eq_true rfl) rfl rfl hk19 rfl ?_
        refine s_iload_n dX9_add_159 rfl ?_
        refine s_if_eq (tgt := 167) dX9_add_160 (by decide) (fun c23 => ?_) (fun c23 => ?_)
        · -- 160 to 167
          refine s_aload_n dX9_add_167 rfl (Int.natCast_nonneg _) ?_
          refine s_getf (ci := 10) (k := 3) (C := RX9) (T := TX9) (N := 5) (n := o) (L := 0) (t := 2) dX9_add_168 rfl wi_77 m_695 (Nat.le_of_ble_eq_true rfl) rfl rfl hk19 hs3G18 ?_
          refine s_iload_n dX9_add_171 rfl ?_
          refine s_iald dX9_add_172 hkk3G18 (by omega) (by omega) rfl ?_
          refine s_aload_n dX9_add_173 rfl (Int.natCast_nonneg _) ?_
          refine s_getf (ci := 10) (k := 3) (C := RX9) (T := TX9) (N := 5) (n := o) (L := 0) (t := 2) dX9_add_174 rfl wi_77 m_695 (Nat.le_of_ble_eq_true rfl) rfl rfl hk19 hs3G18 ?_
          refine s_iload_n dX9_add_177 rfl ?_
          refine s_iald dX9_add_178 hkk3G18 (by omega) (by omega) rfl ?_
          refine s_iaddW dX9_add_179 (fun w26 hrw26 hew26 => ?_)
          refine s_iast dX9_add_180 hkk3G18 (by omega) (by omega) ?_
          generalize eG27r : gset G18 q3 ((gS G18 o 4 : Int).toNat) w26 = G27
          have eG27 := eG27r.symm
          have hCG27 : CI a b G27 := by rw [eG27]; exact hCG18.set (by rw [(by rw [cde_m (by omega) (by omega)]; omega : cde q3 = 324)]; rfl) (by rw [(by rw [cde_m (by omega) (by omega)]; omega : cde q3 = 324)]; exact trivial)
          have hXG27 : KX G18 G27 := KX.set KX.rf eG27
          have hFG27 : WX (fun x => o ≤ x ∧ x ≤ o + 4) G G27 := WX.set hFG18 eG27 (by show _; omega)
          show WP kX9_add X 181 [some (2, ((o : Nat) : Int)), some (0, x), some (0, y), some (0, z4)] [] G27
          have hs0G27 : gS G27 o 0 = (q0 : Int) := by rw [gset_o eG27 (x := o) (by omega)]; exact hs0G18
          have hkk0G27 : gK G27 q0 = (1, L) := hXG27.k hkk0G18 (by decide)
          have hs1G27 : gS G27 o 1 = (q1 : Int) := by rw [gset_o eG27 (x := o) (by omega)]; exact hs1G18
          have hkk1G27 : gK G27 q1 = (1, L) := hXG27.k hkk1G18 (by decide)
          have hs2G27 : gS G27 o 2 = (q2 : Int) := by rw [gset_o eG27 (x := o) (by omega)]; exact hs2G18
          have hkk2G27 : gK G27 q2 = (3, L) := hXG27.k hkk2G18 (by decide)
          have hs3G27 : gS G27 o 3 = (q3 : Int) := by rw [gset_o eG27 (x := o) (by omega)]; exact hs3G18
          have hkk3G27 : gK G27 q3 = (1, L) := hXG27.k hkk3G18 (by decide)
          have hr4G27 : gS G27 o 4 = gS G18 o 4 := congrFun (gset_o eG27 (x := o) (by omega)) 4
          refine s_aload_n dX9_add_181 rfl (Int.natCast_nonneg _) ?_
          refine s_dup dX9_add_182 (show (2 : Nat) ≠ 1 by decide) ?_
          have hk28 : gK G27 (o) = (18, 0) := ((hXG27).k hk19 (by decide))
          refine s_alv (o) (by simp) (fun (al30 : AL G27 o) => ?_)
          have hv29 : 0 ≤ (gS G27 o 4) ∧ (gS G27 o 4) ≤ 8192 := hCG27.1.v (j := 4) (by rw [cde_m (by omega) (by omega)]; omega : cde o = 320) al30 (by rw [hk28]; exact Nat.le_of_ble_eq_true rfl)
          refine s_getf (ci := 10) (k := 4) (C := RX9) (T := TX9) (N := 5) (n := o) (L := 0) (t := 0) dX9_add_183 rfl wi_77 m_696 (Nat.le_of_ble_eq_true rfl) rfl rfl hk28 rfl ?_
          refine s_iconst dX9_add_186 (by decide) ?_
          refine s_iadd dX9_add_187 (by omega) ?_
          refine s_putf (ci := 10) (k := 4) (C := RX9) (T := TX9) (N := 5) (n := o) (L := 0) dX9_add_188 rfl wi_77 m_696 (Nat.le_of_ble_eq_true rfl) rfl rfl tyX9_ok nmX9 rfl (Or.inl rfl) hk28 ?_
          generalize eG31r : gset G27 o 4 ((gS G27 o 4) + 1) = G31
          have eG31 := eG31r.symm
          have hCG31 : CI a b G31 := by rw [eG31]; exact hCG27.valCount ho hs0G27 hkk0G27 (by omega) (by omega)
          have hXG31 : KX G27 G31 := KX.set KX.rf eG31
          have hFG31 : WX (fun x => o ≤ x ∧ x ≤ o + 4) G G31 := WX.set hFG27 eG31 (by show _; omega)
          show WP kX9_add X 191 [some (2, ((o : Nat) : Int)), some (0, x), some (0, y), some (0, z4)] [] G31
          refine s_aload_n dX9_add_191 rfl (Int.natCast_nonneg _) ?_
          have hk32 : gK G31 (o) = (18, 0) := ((hXG31).k hk28 (by decide))
          refine s_alv (o) (by simp) (fun (al34 : AL G31 o) => ?_)
          have hv33 : 0 ≤ (gS G31 o 4) ∧ (gS G31 o 4) ≤ 8192 := hCG31.1.v (j := 4) (by rw [cde_m (by omega) (by omega)]; omega : cde o = 320) al34 (by rw [hk32]; exact Nat.le_of_ble_eq_true rfl)
          refine s_getf (ci := 10) (k := 4) (C := RX9) (T := TX9) (N := 5) (n := o) (L := 0) (t := 0) dX9_add_192 rfl wi_77 m_696 (Nat.le_of_ble_eq_true rfl) rfl rfl hk32 (gsaE eG31) ?_
          refine s_iconst dX9_add_195 (by decide) ?_
          refine s_isub dX9_add_196 (by omega) ?_
          exact s_iret hR dX9_add_197 rfl (hQ (((gS G27 o 4) + 1) - 1) G31 hCG31 (KX.trans (KX.trans (KX.trans hXG8 hXG18) hXG27) hXG31) hFG31 ⟨by omega, (gsaE eG31).trans (by omega), by unfold lenV; rw [show gS G31 o 0 = (q0 : Int) from by rw [eG31, gset_ne _ _ (fun z => absurd z.2 (by decide))]; exact hs0G27, Int.toNat_natCast, hXG31.k hkk0G27 (by decide)]; rw [hln1]; omega⟩)
        · -- 160 to 163
          refine s_iconst dX9_add_163 (by decide) ?_
          refine s_goto (tgt := 180) dX9_add_164 (by decide) ?_
          refine s_iast dX9_add_180 hkk3G18 (by omega) (by omega) ?_
          generalize eG35r : gset G18 q3 ((gS G18 o 4 : Int).toNat) 1 = G35
          have eG35 := eG35r.symm
          have hCG35 : CI a b G35 := by rw [eG35]; exact hCG18.set (by rw [(by rw [cde_m (by omega) (by omega)]; omega : cde q3 = 324)]; rfl) (by rw [(by rw [cde_m (by omega) (by omega)]; omega : cde q3 = 324)]; exact trivial)
          have hXG35 : KX G18 G35 := KX.set KX.rf eG35
          have hFG35 : WX (fun x => o ≤ x ∧ x ≤ o + 4) G G35 := WX.set hFG18 eG35 (by show _; omega)
          show WP kX9_add X 181 [some (2, ((o : Nat) : Int)), some (0, x), some (0, y), some (0, z4)] [] G35
          have hs0G35 : gS G35 o 0 = (q0 : Int) := by rw [gset_o eG35 (x := o) (by omega)]; exact hs0G18
          have hkk0G35 : gK G35 q0 = (1, L) := hXG35.k hkk0G18 (by decide)
          have hs1G35 : gS G35 o 1 = (q1 : Int) := by rw [gset_o eG35 (x := o) (by omega)]; exact hs1G18
          have hkk1G35 : gK G35 q1 = (1, L) := hXG35.k hkk1G18 (by decide)
          have hs2G35 : gS G35 o 2 = (q2 : Int) := by rw [gset_o eG35 (x := o) (by omega)]; exact hs2G18
          have hkk2G35 : gK G35 q2 = (3, L) := hXG35.k hkk2G18 (by decide)
          have hs3G35 : gS G35 o 3 = (q3 : Int) := by rw [gset_o eG35 (x := o) (by omega)]; exact hs3G18
          have hkk3G35 : gK G35 q3 = (1, L) := hXG35.k hkk3G18 (by decide)
          have hr4G35 : gS G35 o 4 = gS G18 o 4 := congrFun (gset_o eG35 (x := o) (by omega)) 4
          refine s_aload_n dX9_add_181 rfl (Int.natCast_nonneg _) ?_
          refine s_dup dX9_add_182 (show (2 : Nat) ≠ 1 by decide) ?_
          have hk36 : gK G35 (o) = (18, 0) := ((hXG35).k hk19 (by decide))
          refine s_alv (o) (by simp) (fun (al38 : AL G35 o) => ?_)
          have hv37 : 0 ≤ (gS G35 o 4) ∧ (gS G35 o 4) ≤ 8192 := hCG35.1.v (j := 4) (by rw [cde_m (by omega) (by omega)]; omega : cde o = 320) al38 (by rw [hk36]; exact Nat.le_of_ble_eq_true rfl)
          refine s_getf (ci := 10) (k := 4) (C := RX9) (T := TX9) (N := 5) (n := o) (L := 0) (t := 0) dX9_add_183 rfl wi_77 m_696 (Nat.le_of_ble_eq_true rfl) rfl rfl hk36 rfl ?_
          refine s_iconst dX9_add_186 (by decide) ?_
          refine s_iadd dX9_add_187 (by omega) ?_
          refine s_putf (ci := 10) (k := 4) (C := RX9) (T := TX9) (N := 5) (n := o) (L := 0) dX9_add_188 rfl wi_77 m_696 (Nat.le_of_ble_eq_true rfl) rfl rfl tyX9_ok nmX9 rfl (Or.inl rfl) hk36 ?_
          generalize eG39r : gset G35 o 4 ((gS G35 o 4) + 1) = G39
          have eG39 := eG39r.symm
          have hCG39 : CI a b G39 := by rw [eG39]; exact hCG35.valCount ho hs0G35 hkk0G35 (by omega) (by omega)
          have hXG39 : KX G35 G39 := KX.set KX.rf eG39
          have hFG39 : WX (fun x => o ≤ x ∧ x ≤ o + 4) G G39 := WX.set hFG35 eG39 (by show _; omega)
          show WP kX9_add X 191 [some (2, ((o : Nat) : Int)), some (0, x), some (0, y), some (0, z4)] [] G39
          refine s_aload_n dX9_add_191 rfl (Int.natCast_nonneg _) ?_
          have hk40 : gK G39 (o) = (18, 0) := ((hXG39).k hk36 (by decide))
          refine s_alv (o) (by simp) (fun (al42 : AL G39 o) => ?_)
          have hv41 : 0 ≤ (gS G39 o 4) ∧ (gS G39 o 4) ≤ 8192 := hCG39.1.v (j := 4) (by rw [cde_m (by omega) (by omega)]; omega : cde o = 320) al42 (by rw [hk40]; exact Nat.le_of_ble_eq_true rfl)
          refine s_getf (ci := 10) (k := 4) (C := RX9) (T := TX9) (N := 5) (n := o) (L := 0) (t := 0) dX9_add_192 rfl wi_77 m_696 (Nat.le_of_ble_eq_true rfl) rfl rfl hk40 (gsaE eG39) ?_
          refine s_iconst dX9_add_195 (by decide) ?_
          refine s_isub dX9_add_196 (by omega) ?_
          exact s_iret hR dX9_add_197 rfl (hQ (((gS G35 o 4) + 1) - 1) G39 hCG39 (KX.trans (KX.trans (KX.trans hXG8 hXG18) hXG35) hXG39) hFG39 ⟨by omega, (gsaE eG39).trans (by omega), by unfold lenV; rw [show gS G39 o 0 = (q0 : Int) from by rw [eG39, gset_ne _ _ (fun z => absurd z.2 (by decide))]; exact hs0G35, Int.toNat_natCast, hXG39.k hkk0G35 (by decide)]; rw [hln1]; omega⟩)
      · -- 124 to 127
        refine s_lconst dX9_add_127 ?_
        show WP kX9_add X 128 [some (2, ((o : Nat) : Int)), some (0, x), some (0, y), some (0, z4)] [(1, 1), (0, gS G8 o 4), (2, ((q2 : Nat) : Int))] G8
        refine s_goto (tgt := 150) dX9_add_128 (by decide) ?_
        refine s_last dX9_add_150 hkk2G8 (by omega) (by omega) ?_
        generalize eG43r : gset G8 q2 ((gS G8 o 4 : Int).toNat) 1 = G43
        have eG43 := eG43r.symm
        have hCG43 : CI a b G43 := by rw [eG43]; exact hCG8.set (by rw [(by rw [cde_m (by omega) (by omega)]; omega : cde q2 = 323)]; rfl) (by rw [(by rw [cde_m (by omega) (by omega)]; omega : cde q2 = 323)]; exact trivial)
        have hXG43 : KX G8 G43 := KX.set KX.rf eG43
        have hFG43 : WX (fun x => o ≤ x ∧ x ≤ o + 4) G G43 := WX.set hFG8 eG43 (by show _; omega)
        show WP kX9_add X 151 [some (2, ((o : Nat) : Int)), some (0, x), some (0, y), some (0, z4)] [] G43
        have hs0G43 : gS G43 o 0 = (q0 : Int) := by rw [gset_o eG43 (x := o) (by omega)]; exact hs0G8
        have hkk0G43 : gK G43 q0 = (1, L) := hXG43.k hkk0G8 (by decide)
        have hs1G43 : gS G43 o 1 = (q1 : Int) := by rw [gset_o eG43 (x := o) (by omega)]; exact hs1G8
        have hkk1G43 : gK G43 q1 = (1, L) := hXG43.k hkk1G8 (by decide)
        have hs2G43 : gS G43 o 2 = (q2 : Int) := by rw [gset_o eG43 (x := o) (by omega)]; exact hs2G8
        have hkk2G43 : gK G43 q2 = (3, L) := hXG43.k hkk2G8 (by decide)
        have hs3G43 : gS G43 o 3 = (q3 : Int) := by rw [gset_o eG43 (x := o) (by omega)]; exact hs3G8
        have hkk3G43 : gK G43 q3 = (1, L) := hXG43.k hkk3G8 (by decide)
        have hr4G43 : gS G43 o 4 = gS G8 o 4 := congrFun (gset_o eG43 (x := o) (by omega)) 4
        refine s_aload_n dX9_add_151 rfl (Int.natCast_nonneg _) ?_
        have hk44 : gK G43 (o) = (18, 0) := ((hXG43).k hk9 (by decide))
        refine s_alv (o) (by simp) (fun (al45 : AL G43 o) => ?_)
        refine s_getf (ci := 10) (k := 3) (C := RX9) (T := TX9) (N := 5) (n := o) (L := 0) (t := 2) dX9_add_152 rfl wi_77 m_695 (Nat.le_of_ble_eq_true rfl) rfl rfl hk44 hs3G43 ?_
        refine s_aload_n dX9_add_155 rfl (Int.natCast_nonneg _) ?_
        have hv47 : 0 ≤ (gS G43 o 4) ∧ (gS G43 o 4) ≤ 8192 := hCG43.1.v (j := 4) (by rw [cde_m (by omega) (by omega)]; omega : cde o = 320) al45 (by rw [hk44]; exact Nat.le_of_ble_eq_true rfl)
        refine s_getf (ci := 10) (k := 4) (C := RX9) (T := TX9) (N := 5) (n := o) (L := 0) (t := 0) dX9_add_156 rfl wi_77 m_696 (Nat.le_of_ble_eq_true rfl) rfl rfl hk44 rfl ?_
        refine s_iload_n dX9_add_159 rfl ?_
        refine s_if_eq (tgt := 167) dX9_add_160 (by decide) (fun c48 => ?_) (fun c48 => ?_)
        · -- 160 to 167
          refine s_aload_n dX9_add_167 rfl (Int.natCast_nonneg _) ?_
          refine s_getf (ci := 10) (k := 3) (C := RX9) (T := TX9) (N := 5) (n := o) (L := 0) (t := 2) dX9_add_168 rfl wi_77 m_695 (Nat.le_of_ble_eq_true rfl) rfl rfl hk44 hs3G43 ?_
          refine s_iload_n dX9_add_171 rfl ?_
          refine s_iald dX9_add_172 hkk3G43 (by omega) (by omega) rfl ?_
          refine s_aload_n dX9_add_173 rfl (Int.natCast_nonneg _) ?_
          refine s_getf (ci := 10) (k := 3) (C := RX9) (T := TX9) (N := 5) (n := o) (L := 0) (t := 2) dX9_add_174 rfl wi_77 m_695 (Nat.le_of_ble_eq_true rfl) rfl rfl hk44 hs3G43 ?_
          refine s_iload_n dX9_add_177 rfl ?_
          refine s_iald dX9_add_178 hkk3G43 (by omega) (by omega) rfl ?_
          refine s_iaddW dX9_add_179 (fun w51 hrw51 hew51 => ?_)
          refine s_iast dX9_add_180 hkk3G43 (by omega) (by omega) ?_
          generalize eG52r : gset G43 q3 ((gS G43 o 4 : Int).toNat) w51 = G52
          have eG52 := eG52r.symm
          have hCG52 : CI a b G52 := by rw [eG52]; exact hCG43.set (by rw [(by rw [cde_m (by omega) (by omega)]; omega : cde q3 = 324)]; rfl) (by rw [(by rw [cde_m (by omega) (by omega)]; omega : cde q3 = 324)]; exact trivial)
          have hXG52 : KX G43 G52 := KX.set KX.rf eG52
          have hFG52 : WX (fun x => o ≤ x ∧ x ≤ o + 4) G G52 := WX.set hFG43 eG52 (by show _; omega)
          show WP kX9_add X 181 [some (2, ((o : Nat) : Int)), some (0, x), some (0, y), some (0, z4)] [] G52
          have hs0G52 : gS G52 o 0 = (q0 : Int) := by rw [gset_o eG52 (x := o) (by omega)]; exact hs0G43
          have hkk0G52 : gK G52 q0 = (1, L) := hXG52.k hkk0G43 (by decide)
          have hs1G52 : gS G52 o 1 = (q1 : Int) := by rw [gset_o eG52 (x := o) (by omega)]; exact hs1G43
          have hkk1G52 : gK G52 q1 = (1, L) := hXG52.k hkk1G43 (by decide)
          have hs2G52 : gS G52 o 2 = (q2 : Int) := by rw [gset_o eG52 (x := o) (by omega)]; exact hs2G43
          have hkk2G52 : gK G52 q2 = (3, L) := hXG52.k hkk2G43 (by decide)
          have hs3G52 : gS G52 o 3 = (q3 : Int) := by rw [gset_o eG52 (x := o) (by omega)]; exact hs3G43
          have hkk3G52 : gK G52 q3 = (1, L) := hXG52.k hkk3G43 (by decide)
          have hr4G52 : gS G52 o 4 = gS G43 o 4 := congrFun (gset_o eG52 (x := o) (by omega)) 4
          refine s_aload_n dX9_add_181 rfl (Int.natCast_nonneg _) ?_
          refine s_dup dX9_add_182 (show (2 : Nat) ≠ 1 by decide) ?_
          have hk53 : gK G52 (o) = (18, 0) := ((hXG52).k hk44 (by decide))
          refine s_alv (o) (by simp) (fun (al55 : AL G52 o) => ?_)
          have hv54 : 0 ≤ (gS G52 o 4) ∧ (gS G52 o 4) ≤ 8192 := hCG52.1.v (j := 4) (by rw [cde_m (by omega) (by omega)]; omega : cde o = 320) al55 (by rw [hk53]; exact Nat.le_of_ble_eq_true rfl)
          refine s_getf (ci := 10) (k := 4) (C := RX9) (T := TX9) (N := 5) (n := o) (L := 0) (t := 0) dX9_add_183 rfl wi_77 m_696 (Nat.le_of_ble_eq_true rfl) rfl rfl hk53 rfl ?_
          refine s_iconst dX9_add_186 (by decide) ?_
          refine s_iadd dX9_add_187 (by omega) ?_
          refine s_putf (ci := 10) (k := 4) (C := RX9) (T := TX9) (N := 5) (n := o) (L := 0) dX9_add_188 rfl wi_77 m_696 (Nat.le_of_ble_eq_true rfl) rfl rfl tyX9_ok nmX9 rfl (Or.inl rfl) hk53 ?_
          generalize eG56r : gset G52 o 4 ((gS G52 o 4) + 1) = G56
          have eG56 := eG56r.symm
          have hCG56 : CI a b G56 := by rw [eG56]; exact hCG52.valCount ho hs0G52 hkk0G52 (by omega) (by omega)
          have hXG56 : KX G52 G56 := KX.set KX.rf eG56
          have hFG56 : WX (fun x => o ≤ x ∧ x ≤ o + 4) G G56 := WX.set hFG52 eG56 (by show _; omega)
          show WP kX9_add X 191 [some (2, ((o : Nat) : Int)), some (0, x), some (0, y), some (0, z4)] [] G56
          refine s_aload_n dX9_add_191 rfl (Int.natCast_nonneg _) ?_
          have hk57 : gK G56 (o) = (18, 0) := ((hXG56).k hk53 (by decide))
          refine s_alv (o) (by simp) (fun (al59 : AL G56 o) => ?_)
          have hv58 : 0 ≤ (gS G56 o 4) ∧ (gS G56 o 4) ≤ 8192 := hCG56.1.v (j := 4) (by rw [cde_m (by omega) (by omega)]; omega : cde o = 320) al59 (by rw [hk57]; exact Nat.le_of_ble_eq_true rfl)
          refine s_getf (ci := 10) (k := 4) (C := RX9) (T := TX9) (N := 5) (n := o) (L := 0) (t := 0) dX9_add_192 rfl wi_77 m_696 (Nat.le_of_ble_eq_true rfl) rfl rfl hk57 (gsaE eG56) ?_
          refine s_iconst dX9_add_195 (by decide) ?_
          refine s_isub dX9_add_196 (by omega) ?_
          exact s_iret hR dX9_add_197 rfl (hQ (((gS G52 o 4) + 1) - 1) G56 hCG56 (KX.trans (KX.trans (KX.trans hXG8 hXG43) hXG52) hXG56) hFG56 ⟨by omega, (gsaE eG56).trans (by omega), by unfold lenV; rw [show gS G56 o 0 = (q0 : Int) from by rw [eG56, gset_ne _ _ (fun z => absurd z.2 (by decide))]; exact hs0G52, Int.toNat_natCast, hXG56.k hkk0G52 (by decide)]; rw [hln1]; omega⟩)
        · -- 160 to 163
          refine s_iconst dX9_add_163 (by decide) ?_
          refine s_goto (tgt := 180) dX9_add_164 (by decide) ?_
          refine s_iast dX9_add_180 hkk3G43 (by omega) (by omega) ?_
          generalize eG60r : gset G43 q3 ((gS G43 o 4 : Int).toNat) 1 = G60
          have eG60 := eG60r.symm
          have hCG60 : CI a b G60 := by rw [eG60]; exact hCG43.set (by rw [(by rw [cde_m (by omega) (by omega)]; omega : cde q3 = 324)]; rfl) (by rw [(by rw [cde_m (by omega) (by omega)]; omega : cde q3 = 324)]; exact trivial)
          have hXG60 : KX G43 G60 := KX.set KX.rf eG60
          have hFG60 : WX (fun x => o ≤ x ∧ x ≤ o + 4) G G60 := WX.set hFG43 eG60 (by show _; omega)
          show WP kX9_add X 181 [some (2, ((o : Nat) : Int)), some (0, x), some (0, y), some (0, z4)] [] G60
          have hs0G60 : gS G60 o 0 = (q0 : Int) := by rw [gset_o eG60 (x := o) (by omega)]; exact hs0G43
          have hkk0G60 : gK G60 q0 = (1, L) := hXG60.k hkk0G43 (by decide)
          have hs1G60 : gS G60 o 1 = (q1 : Int) := by rw [gset_o eG60 (x := o) (by omega)]; exact hs1G43
          have hkk1G60 : gK G60 q1 = (1, L) := hXG60.k hkk1G43 (by decide)
          have hs2G60 : gS G60 o 2 = (q2 : Int) := by rw [gset_o eG60 (x := o) (by omega)]; exact hs2G43
          have hkk2G60 : gK G60 q2 = (3, L) := hXG60.k hkk2G43 (by decide)
          have hs3G60 : gS G60 o 3 = (q3 : Int) := by rw [gset_o eG60 (x := o) (by omega)]; exact hs3G43
          have hkk3G60 : gK G60 q3 = (1, L) := hXG60.k hkk3G43 (by decide)
          have hr4G60 : gS G60 o 4 = gS G43 o 4 := congrFun (gset_o eG60 (x := o) (by omega)) 4
          refine s_aload_n dX9_add_181 rfl (Int.natCast_nonneg _) ?_
          refine s_dup dX9_add_182 (show (2 : Nat) ≠ 1 by decide) ?_
          have hk61 : gK G60 (o) = (18, 0) := ((hXG60).k hk44 (by decide))
          refine s_alv (o) (by simp) (fun (al63 : AL G60 o) => ?_)
          have hv62 : 0 ≤ (gS G60 o 4) ∧ (gS G60 o 4) ≤ 8192 := hCG60.1.v (j := 4) (by rw [cde_m (by omega) (by omega)]; omega : cde o = 320) al63 (by rw [hk61]; exact Nat.le_of_ble_eq_true rfl)
          refine s_getf (ci := 10) (k := 4) (C := RX9) (T := TX9) (N := 5) (n := o) (L := 0) (t := 0) dX9_add_183 rfl wi_77 m_696 (Nat.le_of_ble_eq_true rfl) rfl rfl hk61 rfl ?_
          refine s_iconst dX9_add_186 (by decide) ?_
          refine s_iadd dX9_add_187 (by omega) ?_
          refine s_putf (ci := 10) (k := 4) (C := RX9) (T := TX9) (N := 5) (n := o) (L := 0) dX9_add_188 rfl wi_77 m_696 (Nat.le_of_ble_eq_true rfl) rfl rfl tyX9_ok nmX9 rfl (Or.inl rfl) hk61 ?_
          generalize eG64r : gset G60 o 4 ((gS G60 o 4) + 1) = G64
          have eG64 := eG64r.symm
          have hCG64 : CI a b G64 := by rw [eG64]; exact hCG60.valCount ho hs0G60 hkk0G60 (by omega) (by omega)
          have hXG64 : KX G60 G64 := KX.set KX.rf eG64
          have hFG64 : WX (fun x => o ≤ x ∧ x ≤ o + 4) G G64 := WX.set hFG60 eG64 (by show _; omega)
          show WP kX9_add X 191 [some (2, ((o : Nat) : Int)), some (0, x), some (0, y), some (0, z4)] [] G64
          refine s_aload_n dX9_add_191 rfl (Int.natCast_nonneg _) ?_
          have hk65 : gK G64 (o) = (18, 0) := ((hXG64).k hk61 (by decide))
          refine s_alv (o) (by simp) (fun (al67 : AL G64 o) => ?_)
          have hv66 : 0 ≤ (gS G64 o 4) ∧ (gS G64 o 4) ≤ 8192 := hCG64.1.v (j := 4) (by rw [cde_m (by omega) (by omega)]; omega : cde o = 320) al67 (by rw [hk65]; exact Nat.le_of_ble_eq_true rfl)
          refine s_getf (ci := 10) (k := 4) (C := RX9) (T := TX9) (N := 5) (n := o) (L := 0) (t := 0) dX9_add_192 rfl wi_77 m_696 (Nat.le_of_ble_eq_true rfl) rfl rfl hk65 (gsaE eG64) ?_
          refine s_iconst dX9_add_195 (by decide) ?_
          refine s_isub dX9_add_196 (by omega) ?_
          exact s_iret hR dX9_add_197 rfl (hQ (((gS G60 o 4) + 1) - 1) G64 hCG64 (KX.trans (KX.trans (KX.trans hXG8 hXG43) hXG60) hXG64) hFG64 ⟨by omega, (gsaE eG64).trans (by omega), by unfold lenV; rw [show gS G64 o 0 = (q0 : Int) from by rw [eG64, gset_ne _ _ (fun z => absurd z.2 (by decide))]; exact hs0G60, Int.toNat_natCast, hXG64.k hkk0G60 (by decide)]; rw [hln1]; omega⟩)
    refine s_icmp_ne (tgt := 93) dX9_add_86 (by decide) (fun c68 => ?_) (fun c68 => ?_)
    · -- 86 to 93
      refine s_iconst dX9_add_93 (by decide) ?_
      exact J5 0 (Or.inl ⟨c68, rfl⟩)
    · -- 86 to 89
      refine s_iconst dX9_add_89 (by decide) ?_
      refine s_goto (tgt := 94) dX9_add_90 (by decide) ?_
      exact J5 1 (Or.inr (⟨c68, rfl⟩))
  · -- 9 to 12
    obtain ⟨n0, hn0⟩ : ∃ n : Nat, n = o + 1 + 1048576 * (1 + gc G) := ⟨_, rfl⟩
    obtain ⟨n1, hn1⟩ : ∃ n : Nat, n = o + 2 + 1048576 * (2 + gc G) := ⟨_, rfl⟩
    obtain ⟨n2, hn2⟩ : ∃ n : Nat, n = o + 3 + 1048576 * (3 + gc G) := ⟨_, rfl⟩
    obtain ⟨n3, hn3⟩ : ∃ n : Nat, n = o + 4 + 1048576 * (4 + gc G) := ⟨_, rfl⟩
    obtain ⟨W0, eW0⟩ : ∃ W : LG, W = gset (gcpy (gnew G n0 1 (2 * (L : Int)).toNat (2 * (L : Int)).toNat (fun _ => 0)) q0 0 n0 0 (if 2 * (L : Int) < (L : Int) then 2 * (L : Int) else (L : Int)).toNat) o 0 (n0 : Int) := ⟨_, rfl⟩
    obtain ⟨W1, eW1⟩ : ∃ W : LG, W = gset (gcpy (gnew W0 n1 1 (2 * (L : Int)).toNat (2 * (L : Int)).toNat (fun _ => 0)) q1 0 n1 0 (if 2 * (L : Int) < (L : Int) then 2 * (L : Int) else (L : Int)).toNat) o 1 (n1 : Int) := ⟨_, rfl⟩
    obtain ⟨W2, eW2⟩ : ∃ W : LG, W = gset (gcpy (gnew W1 n2 3 (2 * (L : Int)).toNat (2 * (L : Int)).toNat (fun _ => 0)) q2 0 n2 0 (if 2 * (L : Int) < (L : Int) then 2 * (L : Int) else (L : Int)).toNat) o 2 (n2 : Int) := ⟨_, rfl⟩
    obtain ⟨W3, eW3⟩ : ∃ W : LG, W = gset (gcpy (gnew W2 n3 1 (2 * (L : Int)).toNat (2 * (L : Int)).toNat (fun _ => 0)) q3 0 n3 0 (if 2 * (L : Int) < (L : Int) then 2 * (L : Int) else (L : Int)).toNat) o 3 (n3 : Int) := ⟨_, rfl⟩
    have hM2 : (2 * (L : Int)).toNat = 2 * L := by omega
    have hif : (if 2 * (L : Int) < (L : Int) then 2 * (L : Int) else (L : Int)).toNat = L := by rw [if_neg (by omega)]; omega
    have hd9 := hC.2.2.2.2.2.2.2.2.2.1.1
    have hd0 : (gK G n0).1 = 0 := hd9 n0 (by omega)
    have hd1 : (gK G n1).1 = 0 := hd9 n1 (by omega)
    have hd2 : (gK G n2).1 = 0 := hd9 n2 (by omega)
    have hd3 : (gK G n3).1 = 0 := hd9 n3 (by omega)
    have hqn00 : q0 ≠ n0 := fun z => by rw [z] at hk0; rw [hk0] at hd0; exact Nat.succ_ne_zero _ hd0
    have hqn01 : q0 ≠ n1 := fun z => by rw [z] at hk0; rw [hk0] at hd1; exact Nat.succ_ne_zero _ hd1
    have hqn02 : q0 ≠ n2 := fun z => by rw [z] at hk0; rw [hk0] at hd2; exact Nat.succ_ne_zero _ hd2
    have hqn03 : q0 ≠ n3 := fun z => by rw [z] at hk0; rw [hk0] at hd3; exact Nat.succ_ne_zero _ hd3
    have hqn10 : q1 ≠ n0 := fun z => by rw [z] at hk1; rw [hk1] at hd0; exact Nat.succ_ne_zero _ hd0
    have hqn11 : q1 ≠ n1 := fun z => by rw [z] at hk1; rw [hk1] at hd1; exact Nat.succ_ne_zero _ hd1
    have hqn12 : q1 ≠ n2 := fun z => by rw [z] at hk1; rw [hk1] at hd2; exact Nat.succ_ne_zero _ hd2
    have hqn13 : q1 ≠ n3 := fun z => by rw [z] at hk1; rw [hk1] at hd3; exact Nat.succ_ne_zero _ hd3
    have hqn20 : q2 ≠ n0 := fun z => by rw [z] at hk2; rw [hk2] at hd0; exact Nat.succ_ne_zero _ hd0
    have hqn21 : q2 ≠ n1 := fun z => by rw [z] at hk2; rw [hk2] at hd1; exact Nat.succ_ne_zero _ hd1
    have hqn22 : q2 ≠ n2 := fun z => by rw [z] at hk2; rw [hk2] at hd2; exact Nat.succ_ne_zero _ hd2
    have hqn23 : q2 ≠ n3 := fun z => by rw [z] at hk2; rw [hk2] at hd3; exact Nat.succ_ne_zero _ hd3
    have hqn30 : q3 ≠ n0 := fun z => by rw [z] at hk3; rw [hk3] at hd0; exact Nat.succ_ne_zero _ hd0
    have hqn31 : q3 ≠ n1 := fun z => by rw [z] at hk3; rw [hk3] at hd1; exact Nat.succ_ne_zero _ hd1
    have hqn32 : q3 ≠ n2 := fun z => by rw [z] at hk3; rw [hk3] at hd2; exact Nat.succ_ne_zero _ hd2
    have hqn33 : q3 ≠ n3 := fun z => by rw [z] at hk3; rw [hk3] at hd3; exact Nat.succ_ne_zero _ hd3
    have hlt : L ≤ 3000 := by omega
    have hz0 : ∀ z, z ≠ n0 → z ≠ o → gS W0 z = gS G z := fun z z1 z2 => by rw [eW0]; funext y; rw [gset_ne _ _ (fun w => z2 w.1), gcpy_ne _ z1, gnew_ne _ _ _ _ _ z1]
    have ho0 : ∀ j, j ≠ 0 → gS W0 o j = gS G o j := fun j hj => by rw [eW0, gset_ne _ _ (fun z => hj z.2), gcpy_ne _ (by omega), gnew_ne _ _ _ _ _ (by omega)]
    have hl0 : gS W0 o 0 = (n0 : Int) := gsaE eW0
    have hK0 : gK W0 = gK (gnew G n0 1 (2 * (L : Int)).toNat (2 * (L : Int)).toNat (fun _ => 0)) := by rw [eW0]; rfl
    have hgc0 : gc W0 = gc G + 1 := by rw [eW0]; rfl
    have hgs0 : gs W0 = gs G + (2 * (L : Int)).toNat := by rw [eW0]; rfl
    have hz1 : ∀ z, z ≠ n1 → z ≠ o → gS W1 z = gS W0 z := fun z z1 z2 => by rw [eW1]; funext y; rw [gset_ne _ _ (fun w => z2 w.1), gcpy_ne _ z1, gnew_ne _ _ _ _ _ z1]
    have ho1 : ∀ j, j ≠ 1 → gS W1 o j = gS W0 o j := fun j hj => by rw [eW1, gset_ne _ _ (fun z => hj z.2), gcpy_ne _ (by omega), gnew_ne _ _ _ _ _ (by omega)]
    have hl1 : gS W1 o 1 = (n1 : Int) := gsaE eW1
    have hK1 : gK W1 = gK (gnew W0 n1 1 (2 * (L : Int)).toNat (2 * (L : Int)).toNat (fun _ => 0)) := by rw [eW1]; rfl
    have hgc1 : gc W1 = gc W0 + 1 := by rw [eW1]; rfl
    have hgs1 : gs W1 = gs W0 + (2 * (L : Int)).toNat := by rw [eW1]; rfl
    have hz2 : ∀ z, z ≠ n2 → z ≠ o → gS W2 z = gS W1 z := fun z z1 z2 => by rw [eW2]; funext y; rw [gset_ne _ _ (fun w => z2 w.1), gcpy_ne _ z1, gnew_ne _ _ _ _ _ z1]
    have ho2 : ∀ j, j ≠ 2 → gS W2 o j = gS W1 o j := fun j hj => by rw [eW2, gset_ne _ _ (fun z => hj z.2), gcpy_ne _ (by omega), gnew_ne _ _ _ _ _ (by omega)]
    have hl2 : gS W2 o 2 = (n2 : Int) := gsaE eW2
    have hK2 : gK W2 = gK (gnew W1 n2 3 (2 * (L : Int)).toNat (2 * (L : Int)).toNat (fun _ => 0)) := by rw [eW2]; rfl
    have hgc2 : gc W2 = gc W1 + 1 := by rw [eW2]; rfl
    have hgs2 : gs W2 = gs W1 + (2 * (L : Int)).toNat := by rw [eW2]; rfl
    have hz3 : ∀ z, z ≠ n3 → z ≠ o → gS W3 z = gS W2 z := fun z z1 z2 => by rw [eW3]; funext y; rw [gset_ne _ _ (fun w => z2 w.1), gcpy_ne _ z1, gnew_ne _ _ _ _ _ z1]
    have ho3 : ∀ j, j ≠ 3 → gS W3 o j = gS W2 o j := fun j hj => by rw [eW3, gset_ne _ _ (fun z => hj z.2), gcpy_ne _ (by omega), gnew_ne _ _ _ _ _ (by omega)]
    have hl3 : gS W3 o 3 = (n3 : Int) := gsaE eW3
    have hK3 : gK W3 = gK (gnew W2 n3 1 (2 * (L : Int)).toNat (2 * (L : Int)).toNat (fun _ => 0)) := by rw [eW3]; rfl
    have hgc3 : gc W3 = gc W2 + 1 := by rw [eW3]; rfl
    have hgs3 : gs W3 = gs W2 + (2 * (L : Int)).toNat := by rw [eW3]; rfl
    have hy0 : ∀ j, j < L → gS W3 n0 j = gS G q0 j := fun j hj => by rw [hz3 n0 (by omega) (by omega)]; rw [hz2 n0 (by omega) (by omega)]; rw [hz1 n0 (by omega) (by omega)]; rw [eW0, gset_ne _ _ (fun w => by omega), hif, gcpy_at, if_pos ⟨by omega, by omega⟩, gnew_ne _ _ _ _ _ hqn00]; rw [show 0 + (j - 0) = j by omega]
    have hx0 : ∀ j, L ≤ j → j < 2 * L → gS W3 n0 j = 0 := fun j hj hj2 => by rw [hz3 n0 (by omega) (by omega)]; rw [hz2 n0 (by omega) (by omega)]; rw [hz1 n0 (by omega) (by omega)]; rw [eW0, gset_ne _ _ (fun w => by omega), hif, gcpy_at, if_neg (by omega), gnew_at]
    have hy1 : ∀ j, j < L → gS W3 n1 j = gS G q1 j := fun j hj => by rw [hz3 n1 (by omega) (by omega)]; rw [hz2 n1 (by omega) (by omega)]; rw [eW1, gset_ne _ _ (fun w => by omega), hif, gcpy_at, if_pos ⟨by omega, by omega⟩, gnew_ne _ _ _ _ _ hqn11]; rw [hz0 q1 hqn10 (by omega)]; rw [show 0 + (j - 0) = j by omega]
    have hx1 : ∀ j, L ≤ j → j < 2 * L → gS W3 n1 j = 0 := fun j hj hj2 => by rw [hz3 n1 (by omega) (by omega)]; rw [hz2 n1 (by omega) (by omega)]; rw [eW1, gset_ne _ _ (fun w => by omega), hif, gcpy_at, if_neg (by omega), gnew_at]
    have hCW : CI a b W3 := hC.growVals (M := 2 * L) ho al0 ⟨hq0, hq1, hq2, hq3⟩ ⟨hk0, hk1, hk2, hk3⟩ hL1 (by omega) (by omega) (by omega) (by omega) (by omega) (fun z z0 z1 z2 z3 z4 => by rw [hz3 z z3 z4, hz2 z z2 z4, hz1 z z1 z4, hz0 z z0 z4]) ⟨by rw [ho3 0 (by decide), ho2 0 (by decide), ho1 0 (by decide)]; exact hl0, by rw [ho3 1 (by decide), ho2 1 (by decide)]; exact hl1, by rw [ho3 2 (by decide)]; exact hl2, hl3⟩ (by rw [ho3 4 (by decide), ho2 4 (by decide), ho1 4 (by decide), ho0 4 (by decide)]) (by rw [hK3, gnewKK hK2, gnewKK hK1, gnewKK hK0, hM2]) (by omega) (by omega) (fun j hj => ⟨hy0 j hj, hy1 j hj⟩) (fun j h1 h2 => ⟨hx0 j h1 h2, hx1 j h1 h2⟩)
    have hroom := hCW.room
    have hkoW0 : gK G o = (18, 0) := hko
    have hkqW0 : gK G q0 = (1, L) := hk0
    have hlW0 : gS G o 0 = (q0 : Int) := by exact hq0
    have hdW0 : (gK G n0).1 = 0 := hd0
    refine s_aload_n dX9_add_12 rfl (Int.natCast_nonneg _) ?_
    refine s_aload_n dX9_add_13 rfl (Int.natCast_nonneg _) ?_
    refine s_getf (ci := 10) (k := 0) (C := RX9) (T := TX9) (N := 5) (n := o) (L := 0) (t := 2) dX9_add_14 rfl wi_77 m_697 (Nat.le_of_ble_eq_true rfl) rfl rfl hkoW0 hlW0 ?_
    refine s_iconst dX9_add_17 (by decide) ?_
    refine s_aload_n dX9_add_18 rfl (Int.natCast_nonneg _) ?_
    refine s_getf (ci := 10) (k := 0) (C := RX9) (T := TX9) (N := 5) (n := o) (L := 0) (t := 2) dX9_add_19 rfl wi_77 m_697 (Nat.le_of_ble_eq_true rfl) rfl rfl hkoW0 hlW0 ?_
    refine s_alen dX9_add_22 hkqW0 (by decide) (by omega) ?_
    refine s_imul dX9_add_23 (by omega) ?_
    refine s_callS2 (as := [(2, ((q0 : Nat) : Int)), (0, 2 * (((L : Nat) : Int)))]) (rest := [(2, ((o : Nat) : Int))]) gJ7_copyOf_59c91 dX9_add_24 m_1449 m_1748 m_705 m_43 ⟨by decide, by decide, show (parseMethodDescriptor yJ7_copyOf_59c91.desc).map (fun d => d.parameters.length) = some 2 from by decide +kernel⟩ (Nat.le_of_ble_eq_true rfl) (by rw [hcf]; exact Nat.le_of_ble_eq_true rfl) rfl (Nat.le_of_ble_eq_true rfl) ⟨q0, L, n0, 2 * (((L : Nat) : Int)), rfl, hkqW0, by omega, ⟨by omega, by omega, by omega⟩, hdW0, by omega, by omega, ?_⟩
    refine s_putf (ci := 10) (k := 0) (C := RX9) (T := TX9) (N := 5) (n := o) (L := 0) dX9_add_27 rfl wi_77 m_697 (Nat.le_of_ble_eq_true rfl) rfl rfl tyX9_ok nmX9 rfl (Or.inr (Or.inr (Or.inr (Or.inr ⟨_, rfl⟩)))) (by rw [gcpy_K, gnew_Kne _ _ _ _ _ (by omega)]; exact hkoW0) ?_
    rw [show gset (gcpy (gnew G n0 1 (2 * (((L : Nat) : Int))).toNat (2 * (((L : Nat) : Int))).toNat (fun _ => 0)) q0 0 n0 0 (if 2 * (((L : Nat) : Int)) < (L : Int) then 2 * (((L : Nat) : Int)) else (L : Int)).toNat) o 0 ((n0 : Nat) : Int) = W0 from eW0.symm]
    have hkoW1 : gK W0 o = (18, 0) := (by rw [hK0, gnew_Kne _ _ _ _ _ (by omega)]; exact hko)
    have hkqW1 : gK W0 q1 = (1, L) := (by rw [hK0, gnew_Kne _ _ _ _ _ hqn10]; exact hk1)
    have hlW1 : gS W0 o 1 = (q1 : Int) := by rw [ho0 1 (by decide)]; exact hq1
    have hdW1 : (gK W0 n1).1 = 0 := (by rw [hK0, gnew_Kne _ _ _ _ _ (by omega)]; exact hd1)
    refine s_aload_n dX9_add_30 rfl (Int.natCast_nonneg _) ?_
    refine s_aload_n dX9_add_31 rfl (Int.natCast_nonneg _) ?_
    refine s_getf (ci := 10) (k := 1) (C := RX9) (T := TX9) (N := 5) (n := o) (L := 0) (t := 2) dX9_add_32 rfl wi_77 m_693 (Nat.le_of_ble_eq_true rfl) rfl rfl hkoW1 hlW1 ?_
    refine s_iconst dX9_add_35 (by decide) ?_
    refine s_aload_n dX9_add_36 rfl (Int.natCast_nonneg _) ?_
    refine s_getf (ci := 10) (k := 1) (C := RX9) (T := TX9) (N := 5) (n := o) (L := 0) (t := 2) dX9_add_37 rfl wi_77 m_693 (Nat.le_of_ble_eq_true rfl) rfl rfl hkoW1 hlW1 ?_
    refine s_alen dX9_add_40 hkqW1 (by decide) (by omega) ?_
    refine s_imul dX9_add_41 (by omega) ?_
    refine s_callS2 (as := [(2, ((q1 : Nat) : Int)), (0, 2 * (((L : Nat) : Int)))]) (rest := [(2, ((o : Nat) : Int))]) gJ7_copyOf_59c91 dX9_add_42 m_1449 m_1748 m_705 m_43 ⟨by decide, by decide, show (parseMethodDescriptor yJ7_copyOf_59c91.desc).map (fun d => d.parameters.length) = some 2 from by decide +kernel⟩ (Nat.le_of_ble_eq_true rfl) (by rw [hcf]; exact Nat.le_of_ble_eq_true rfl) rfl (Nat.le_of_ble_eq_true rfl) ⟨q1, L, n1, 2 * (((L : Nat) : Int)), rfl, hkqW1, by omega, ⟨by omega, by omega, by omega⟩, hdW1, by omega, by omega, ?_⟩
    refine s_putf (ci := 10) (k := 1) (C := RX9) (T := TX9) (N := 5) (n := o) (L := 0) dX9_add_45 rfl wi_77 m_693 (Nat.le_of_ble_eq_true rfl) rfl rfl tyX9_ok nmX9 rfl (Or.inr (Or.inr (Or.inr (Or.inr ⟨_, rfl⟩)))) (by rw [gcpy_K, gnew_Kne _ _ _ _ _ (by omega)]; exact hkoW1) ?_
    rw [show gset (gcpy (gnew W0 n1 1 (2 * (((L : Nat) : Int))).toNat (2 * (((L : Nat) : Int))).toNat (fun _ => 0)) q1 0 n1 0 (if 2 * (((L : Nat) : Int)) < (L : Int) then 2 * (((L : Nat) : Int)) else (L : Int)).toNat) o 1 ((n1 : Nat) : Int) = W1 from eW1.symm]
    have hkoW2 : gK W1 o = (18, 0) := (by rw [hK1, gnew_Kne _ _ _ _ _ (by omega)]; exact (by rw [hK0, gnew_Kne _ _ _ _ _ (by omega)]; exact hko))
    have hkqW2 : gK W1 q2 = (3, L) := (by rw [hK1, gnew_Kne _ _ _ _ _ hqn21]; exact (by rw [hK0, gnew_Kne _ _ _ _ _ hqn20]; exact hk2))
    have hlW2 : gS W1 o 2 = (q2 : Int) := by rw [ho1 2 (by decide)]; rw [ho0 2 (by decide)]; exact hq2
    have hdW2 : (gK W1 n2).1 = 0 := (by rw [hK1, gnew_Kne _ _ _ _ _ (by omega)]; exact (by rw [hK0, gnew_Kne _ _ _ _ _ (by omega)]; exact hd2))
    refine s_aload_n dX9_add_48 rfl (Int.natCast_nonneg _) ?_
    refine s_aload_n dX9_add_49 rfl (Int.natCast_nonneg _) ?_
    refine s_getf (ci := 10) (k := 2) (C := RX9) (T := TX9) (N := 5) (n := o) (L := 0) (t := 2) dX9_add_50 rfl wi_77 m_694 (Nat.le_of_ble_eq_true rfl) rfl rfl hkoW2 hlW2 ?_
    refine s_iconst dX9_add_53 (by decide) ?_
    refine s_aload_n dX9_add_54 rfl (Int.natCast_nonneg _) ?_
    refine s_getf (ci := 10) (k := 2) (C := RX9) (T := TX9) (N := 5) (n := o) (L := 0) (t := 2) dX9_add_55 rfl wi_77 m_694 (Nat.le_of_ble_eq_true rfl) rfl rfl hkoW2 hlW2 ?_
    refine s_alen dX9_add_58 hkqW2 (by decide) (by omega) ?_
    refine s_imul dX9_add_59 (by omega) ?_
    refine s_callS2 (as := [(2, ((q2 : Nat) : Int)), (0, 2 * (((L : Nat) : Int)))]) (rest := [(2, ((o : Nat) : Int))]) gJ7_copyOf_c38d5 dX9_add_60 m_1450 m_1750 m_705 m_45 ⟨by decide, by decide, show (parseMethodDescriptor yJ7_copyOf_c38d5.desc).map (fun d => d.parameters.length) = some 2 from by decide +kernel⟩ (Nat.le_of_ble_eq_true rfl) (by rw [hcf]; exact Nat.le_of_ble_eq_true rfl) rfl (Nat.le_of_ble_eq_true rfl) ⟨q2, L, n2, 2 * (((L : Nat) : Int)), rfl, hkqW2, by omega, ⟨by omega, by omega, by omega⟩, hdW2, by omega, by omega, ?_⟩
    refine s_putf (ci := 10) (k := 2) (C := RX9) (T := TX9) (N := 5) (n := o) (L := 0) dX9_add_63 rfl wi_77 m_694 (Nat.le_of_ble_eq_true rfl) rfl rfl tyX9_ok nmX9 rfl (Or.inr (Or.inr (Or.inr (Or.inr ⟨_, rfl⟩)))) (by rw [gcpy_K, gnew_Kne _ _ _ _ _ (by omega)]; exact hkoW2) ?_
    rw [show gset (gcpy (gnew W1 n2 3 (2 * (((L : Nat) : Int))).toNat (2 * (((L : Nat) : Int))).toNat (fun _ => 0)) q2 0 n2 0 (if 2 * (((L : Nat) : Int)) < (L : Int) then 2 * (((L : Nat) : Int)) else (L : Int)).toNat) o 2 ((n2 : Nat) : Int) = W2 from eW2.symm]
    have hkoW3 : gK W2 o = (18, 0) := (by rw [hK2, gnew_Kne _ _ _ _ _ (by omega)]; exact (by rw [hK1, gnew_Kne _ _ _ _ _ (by omega)]; exact (by rw [hK0, gnew_Kne _ _ _ _ _ (by omega)]; exact hko)))
    have hkqW3 : gK W2 q3 = (1, L) := (by rw [hK2, gnew_Kne _ _ _ _ _ hqn32]; exact (by rw [hK1, gnew_Kne _ _ _ _ _ hqn31]; exact (by rw [hK0, gnew_Kne _ _ _ _ _ hqn30]; exact hk3)))
    have hlW3 : gS W2 o 3 = (q3 : Int) := by rw [ho2 3 (by decide)]; rw [ho1 3 (by decide)]; rw [ho0 3 (by decide)]; exact hq3
    have hdW3 : (gK W2 n3).1 = 0 := (by rw [hK2, gnew_Kne _ _ _ _ _ (by omega)]; exact (by rw [hK1, gnew_Kne _ _ _ _ _ (by omega)]; exact (by rw [hK0, gnew_Kne _ _ _ _ _ (by omega)]; exact hd3)))
    refine s_aload_n dX9_add_66 rfl (Int.natCast_nonneg _) ?_
    refine s_aload_n dX9_add_67 rfl (Int.natCast_nonneg _) ?_
    refine s_getf (ci := 10) (k := 3) (C := RX9) (T := TX9) (N := 5) (n := o) (L := 0) (t := 2) dX9_add_68 rfl wi_77 m_695 (Nat.le_of_ble_eq_true rfl) rfl rfl hkoW3 hlW3 ?_
    refine s_iconst dX9_add_71 (by decide) ?_
    refine s_aload_n dX9_add_72 rfl (Int.natCast_nonneg _) ?_
    refine s_getf (ci := 10) (k := 3) (C := RX9) (T := TX9) (N := 5) (n := o) (L := 0) (t := 2) dX9_add_73 rfl wi_77 m_695 (Nat.le_of_ble_eq_true rfl) rfl rfl hkoW3 hlW3 ?_
    refine s_alen dX9_add_76 hkqW3 (by decide) (by omega) ?_
    refine s_imul dX9_add_77 (by omega) ?_
    refine s_callS2 (as := [(2, ((q3 : Nat) : Int)), (0, 2 * (((L : Nat) : Int)))]) (rest := [(2, ((o : Nat) : Int))]) gJ7_copyOf_59c91 dX9_add_78 m_1449 m_1748 m_705 m_43 ⟨by decide, by decide, show (parseMethodDescriptor yJ7_copyOf_59c91.desc).map (fun d => d.parameters.length) = some 2 from by decide +kernel⟩ (Nat.le_of_ble_eq_true rfl) (by rw [hcf]; exact Nat.le_of_ble_eq_true rfl) rfl (Nat.le_of_ble_eq_true rfl) ⟨q3, L, n3, 2 * (((L : Nat) : Int)), rfl, hkqW3, by omega, ⟨by omega, by omega, by omega⟩, hdW3, by omega, by omega, ?_⟩
    refine s_putf (ci := 10) (k := 3) (C := RX9) (T := TX9) (N := 5) (n := o) (L := 0) dX9_add_81 rfl wi_77 m_695 (Nat.le_of_ble_eq_true rfl) rfl rfl tyX9_ok nmX9 rfl (Or.inr (Or.inr (Or.inr (Or.inr ⟨_, rfl⟩)))) (by rw [gcpy_K, gnew_Kne _ _ _ _ _ (by omega)]; exact hkoW3) ?_
    rw [show gset (gcpy (gnew W2 n3 1 (2 * (((L : Nat) : Int))).toNat (2 * (((L : Nat) : Int))).toNat (fun _ => 0)) q3 0 n3 0 (if 2 * (((L : Nat) : Int)) < (L : Int) then 2 * (((L : Nat) : Int)) else (L : Int)).toNat) o 3 ((n3 : Nat) : Int) = W3 from eW3.symm]
    have hXW3 : KX G W3 := fun z hz => by rw [hK3, gnew_Kne _ _ _ _ _ (fun w => by rw [w] at hz; exact hz hd3), hK2, gnew_Kne _ _ _ _ _ (fun w => by rw [w] at hz; exact hz hd2), hK1, gnew_Kne _ _ _ _ _ (fun w => by rw [w] at hz; exact hz hd1), hK0, gnew_Kne _ _ _ _ _ (fun w => by rw [w] at hz; exact hz hd0)]
    have hCW3 := hCW
    have hFW3 : WX (fun x => o ≤ x ∧ x ≤ o + 4) G W3 := fun z hz hs => by rw [hz3 z (fun w => by rw [w] at hz; exact hz hd3) (fun w => hs (by show _; omega)), hz2 z (fun w => by rw [w] at hz; exact hz hd2) (fun w => hs (by show _; omega)), hz1 z (fun w => by rw [w] at hz; exact hz hd1) (fun w => hs (by show _; omega)), hz0 z (fun w => by rw [w] at hz; exact hz hd0) (fun w => hs (by show _; omega))]
    have hal3 : (gK W3 o).1 ≠ 0 := hXW3.al al0
    obtain ⟨p0, p1, p2, p3, L9, ⟨hp0, hp1, hp2, hp3⟩, ⟨hpm0, hpm1, hpm2, hpm3⟩, ⟨hpk0, hpk1, hpk2, hpk3⟩, ⟨hL91, hL92⟩, hcn9, hen9, hss9, hsr9, hln9⟩ := hCW.vals ho hal3
    have hko9 : gK W3 o = (18, 0) := hXW3.k hko (by decide)
    have hLL : L9 = 2 * L := by have h1 : gS W3 o 3 = (n3 : Int) := hl3; have h2 : p3 = n3 := by omega
      subst h2
      rw [hK3, gnew_K] at hpk3
      have := congrArg Prod.snd hpk3
      dsimp only at this
      omega
    have hc4 : gS W3 o 4 = gS G o 4 := by rw [ho3 4 (by decide), ho2 4 (by decide), ho1 4 (by decide), ho0 4 (by decide)]
    show WP kX9_add X 84 [some (2, ((o : Nat) : Int)), some (0, x), some (0, y), none] [] W3
    refine s_iload_n dX9_add_84 rfl ?_
    refine s_iconst dX9_add_85 (by decide) ?_
    have J70 : ∀ z69 : Int, ((¬ y = ((-1))) ∧ z69 = 0) ∨ ((y = ((-1))) ∧ z69 = 1) → WP kX9_add X 94 [some (2, ((o : Nat) : Int)), some (0, x), some (0, y), none] [(0, z69)] W3 := by
      intro z69 hz69
      refine s_istore_n dX9_add_94 (by decide) (lv' := [some (2, ((o : Nat) : Int)), some (0, x), some (0, y), some (0, z69)]) rfl ?_
      refine s_aload_n dX9_add_95 rfl (Int.natCast_nonneg _) ?_
      refine s_getf (ci := 10) (k := 0) (C := RX9) (T := TX9) (N := 5) (n := o) (L := 0) (t := 2) dX9_add_96 rfl wi_77 m_697 (Nat.le_of_ble_eq_true rfl) rfl rfl hko9 hp0 ?_
      refine s_aload_n dX9_add_99 rfl (Int.natCast_nonneg _) ?_
      have hv72 : 0 ≤ (gS W3 o 4) ∧ (gS W3 o 4) ≤ 8192 := hCW3.1.v (j := 4) (by rw [cde_m (by omega) (by omega)]; omega : cde o = 320) hal3 (by rw [hko9]; exact Nat.le_of_ble_eq_true rfl)
      refine s_getf (ci := 10) (k := 4) (C := RX9) (T := TX9) (N := 5) (n := o) (L := 0) (t := 0) dX9_add_100 rfl wi_77 m_696 (Nat.le_of_ble_eq_true rfl) rfl rfl hko9 rfl ?_
      refine s_iload_n dX9_add_103 rfl ?_
      refine s_iast dX9_add_104 hpk0 (by omega) (by omega) ?_
      refine s_aload_n dX9_add_105 rfl (Int.natCast_nonneg _) ?_
      refine s_getf (ci := 10) (k := 1) (C := RX9) (T := TX9) (N := 5) (n := o) (L := 0) (t := 2) dX9_add_106 rfl wi_77 m_693 (Nat.le_of_ble_eq_true rfl) rfl rfl (by rw [gset_K]; exact hko9) (show gS (gset W3 p0 ((gS W3 o 4 : Int).toNat) x) o 1 = (p1 : Int) from by rw [gset_ne _ _ (fun w => by omega)]; exact hp1) ?_
      refine s_aload_n dX9_add_109 rfl (Int.natCast_nonneg _) ?_
      refine s_getf (ci := 10) (k := 4) (C := RX9) (T := TX9) (N := 5) (n := o) (L := 0) (t := 0) dX9_add_110 rfl wi_77 m_696 (Nat.le_of_ble_eq_true rfl) rfl rfl (by rw [gset_K]; exact hko9) (show gS (gset W3 p0 ((gS W3 o 4 : Int).toNat) x) o 4 = gS W3 o 4 from gset_ne _ _ (fun w => by omega)) ?_
      refine s_iload_n dX9_add_113 rfl ?_
      refine s_iast dX9_add_114 (by rw [gset_K]; exact hpk1) (by omega) (by omega) ?_
      generalize eG73r : gset (gset W3 p0 ((gS W3 o 4 : Int).toNat) x) p1 (gS W3 o 4).toNat y = G73
      have eG73 := eG73r.symm
      have hCG73 : CI a b G73 := by rw [eG73]; exact hCW3.valPut ho hp0 hp1 hpk0 hpk1 hpm0 hpm1 (by omega) (by omega)
      have hXG73 : KX W3 G73 := KX.of (by rw [eG73]; rfl)
      have hFG73 : WX (fun x => o ≤ x ∧ x ≤ o + 4) G G73 := WX.set (WX.set hFW3 rfl (by show _; omega)) eG73 (by show _; omega)
      have hr0G73 : gS G73 o 0 = gS W3 o 0 := by rw [eG73, gset_ne _ _ (fun w => by omega), gset_ne _ _ (fun w => by omega)]
      have hr1G73 : gS G73 o 1 = gS W3 o 1 := by rw [eG73, gset_ne _ _ (fun w => by omega), gset_ne _ _ (fun w => by omega)]
      have hr2G73 : gS G73 o 2 = gS W3 o 2 := by rw [eG73, gset_ne _ _ (fun w => by omega), gset_ne _ _ (fun w => by omega)]
      have hr3G73 : gS G73 o 3 = gS W3 o 3 := by rw [eG73, gset_ne _ _ (fun w => by omega), gset_ne _ _ (fun w => by omega)]
      have hr4G73 : gS G73 o 4 = gS W3 o 4 := by rw [eG73, gset_ne _ _ (fun w => by omega), gset_ne _ _ (fun w => by omega)]
      have hs0G73 : gS G73 o 0 = (p0 : Int) := hr0G73.trans hp0
      have hkk0G73 : gK G73 p0 = (1, L9) := hXG73.k hpk0 (by decide)
      have hs1G73 : gS G73 o 1 = (p1 : Int) := hr1G73.trans hp1
      have hkk1G73 : gK G73 p1 = (1, L9) := hXG73.k hpk1 (by decide)
      have hs2G73 : gS G73 o 2 = (p2 : Int) := hr2G73.trans hp2
      have hkk2G73 : gK G73 p2 = (3, L9) := hXG73.k hpk2 (by decide)
      have hs3G73 : gS G73 o 3 = (p3 : Int) := hr3G73.trans hp3
      have hkk3G73 : gK G73 p3 = (1, L9) := hXG73.k hpk3 (by decide)
      show WP kX9_add X 115 [some (2, ((o : Nat) : Int)), some (0, x), some (0, y), some (0, z69)] [] G73
      refine s_aload_n dX9_add_115 rfl (Int.natCast_nonneg _) ?_
      have hk74 : gK G73 (o) = (18, 0) := ((hXG73).k hko9 (by decide))
      refine s_alv (o) (by simp) (fun (al75 : AL G73 o) => ?_)
      refine s_getf (ci := 10) (k := 2) (C := RX9) (T := TX9) (N := 5) (n := o) (L := 0) (t := 2) dX9_add_116 rfl wi_77 m_694 (Nat.le_of_ble_eq_true rfl) rfl rfl hk74 hs2G73 ?_
      refine s_aload_n dX9_add_119 rfl (Int.natCast_nonneg _) ?_
      have hv77 : 0 ≤ (gS G73 o 4) ∧ (gS G73 o 4) ≤ 8192 := hCG73.1.v (j := 4) (by rw [cde_m (by omega) (by omega)]; omega : cde o = 320) al75 (by rw [hk74]; exact Nat.le_of_ble_eq_true rfl)
      refine s_getf (ci := 10) (k := 4) (C := RX9) (T := TX9) (N := 5) (n := o) (L := 0) (t := 0) dX9_add_120 rfl wi_77 m_696 (Nat.le_of_ble_eq_true rfl) rfl rfl hk74 rfl ?_
      refine s_iload_n dX9_add_123 rfl ?_
      refine s_if_eq (tgt := 131) dX9_add_124 (by decide) (fun c78 => ?_) (fun c78 => ?_)
      · -- 124 to 131
        refine s_ldc2 (v := 2305843009213693952) (own := RX9) dX9_add_131 m_398 (by decide) rfl ?_
        refine s_aload_n dX9_add_134 rfl (Int.natCast_nonneg _) ?_
        refine s_getf (ci := 10) (k := 2) (C := RX9) (T := TX9) (N := 5) (n := o) (L := 0) (t := 2) dX9_add_135 rfl wi_77 m_694 (Nat.le_of_ble_eq_true rfl) rfl rfl hk74 hs2G73 ?_
        refine s_iload_n dX9_add_138 rfl ?_
        refine s_lald dX9_add_139 hkk2G73 (by omega) (by omega) rfl ?_
        refine s_aload_n dX9_add_140 rfl (Int.natCast_nonneg _) ?_
        refine s_getf (ci := 10) (k := 2) (C := RX9) (T := TX9) (N := 5) (n := o) (L := 0) (t := 2) dX9_add_141 rfl wi_77 m_694 (Nat.le_of_ble_eq_true rfl) rfl rfl hk74 hs2G73 ?_
        refine s_iload_n dX9_add_144 rfl ?_
        refine s_lald dX9_add_145 hkk2G73 (by omega) (by omega) rfl ?_
        refine s_laddW dX9_add_146 (fun w81 hrw81 hew81 => ?_)
        refine s_mminL dX9_add_147 m_1451 (by rw [hcf]; exact Nat.le_of_ble_eq_true rfl) (Nat.le_of_ble_eq_true rfl) (fun z82 hrz82 => ?_)
        refine s_last dX9_add_150 hkk2G73 (by omega) (by omega) ?_
        generalize eG83r : gset G73 p2 ((gS G73 o 4 : Int).toNat) z82 = G83
        have eG83 := eG83r.symm
        have hCG83 : CI a b G83 := by rw [eG83]; exact hCG73.set (by rw [(by rw [cde_m (by omega) (by omega)]; omega : cde p2 = 323)]; rfl) (by rw [(by rw [cde_m (by omega) (by omega)]; omega : cde p2 = 323)]; exact trivial)
        have hXG83 : KX G73 G83 := KX.set KX.rf eG83
        have hFG83 : WX (fun x => o ≤ x ∧ x ≤ o + 4) G G83 := WX.set hFG73 eG83 (by show _; omega)
        show WP kX9_add X 151 [some (2, ((o : Nat) : Int)), some (0, x), some (0, y), some (0, z69)] [] G83
        have hs0G83 : gS G83 o 0 = (p0 : Int) := by rw [gset_o eG83 (x := o) (by omega)]; exact hs0G73
        have hkk0G83 : gK G83 p0 = (1, L9) := hXG83.k hkk0G73 (by decide)
        have hs1G83 : gS G83 o 1 = (p1 : Int) := by rw [gset_o eG83 (x := o) (by omega)]; exact hs1G73
        have hkk1G83 : gK G83 p1 = (1, L9) := hXG83.k hkk1G73 (by decide)
        have hs2G83 : gS G83 o 2 = (p2 : Int) := by rw [gset_o eG83 (x := o) (by omega)]; exact hs2G73
        have hkk2G83 : gK G83 p2 = (3, L9) := hXG83.k hkk2G73 (by decide)
        have hs3G83 : gS G83 o 3 = (p3 : Int) := by rw [gset_o eG83 (x := o) (by omega)]; exact hs3G73
        have hkk3G83 : gK G83 p3 = (1, L9) := hXG83.k hkk3G73 (by decide)
        have hr4G83 : gS G83 o 4 = gS G73 o 4 := congrFun (gset_o eG83 (x := o) (by omega)) 4
        refine s_aload_n dX9_add_151 rfl (Int.natCast_nonneg _) ?_
        have hk84 : gK G83 (o) = (18, 0) := ((hXG83).k hk74 (by decide))
        refine s_alv (o) (by simp) (fun (al85 : AL G83 o) => ?_)
        refine s_getf (ci := 10) (k := 3) (C := RX9) (T := TX9) (N := 5) (n := o) (L := 0) (t := 2) dX9_add_152 rfl wi_77 m_695 (Nat.le_of_ble_eq_true rfl) rfl rfl hk84 hs3G83 ?_
        refine s_aload_n dX9_add_155 rfl (Int.natCast_nonneg _) ?_
        have hv87 : 0 ≤ (gS G83 o 4) ∧ (gS G83 o 4) ≤ 8192 := hCG83.1.v (j := 4) (by rw [cde_m (by omega) (by omega)]; omega : cde o = 320) al85 (by rw [hk84]; exact Nat.le_of_ble_eq_true rfl)
        refine s_getf (ci := 10) (k := 4) (C := RX9) (T := TX9) (N := 5) (n := o) (L := 0) (t := 0) dX9_add_156 rfl wi_77 m_696 (Nat.le_of_ble_eq_true rfl) rfl rfl hk84 rfl ?_
        refine s_iload_n dX9_add_159 rfl ?_
        refine s_if_eq (tgt := 167) dX9_add_160 (by decide) (fun c88 => ?_) (fun c88 => ?_)
        · -- 160 to 167
          refine s_aload_n dX9_add_167 rfl (Int.natCast_nonneg _) ?_
          refine s_getf (ci := 10) (k := 3) (C := RX9) (T := TX9) (N := 5) (n := o) (L := 0) (t := 2) dX9_add_168 rfl wi_77 m_695 (Nat.le_of_ble_eq_true rfl) rfl rfl hk84 hs3G83 ?_
          refine s_iload_n dX9_add_171 rfl ?_
          refine s_iald dX9_add_172 hkk3G83 (by omega) (by omega) rfl ?_
          refine s_aload_n dX9_add_173 rfl (Int.natCast_nonneg _) ?_
          refine s_getf (ci := 10) (k := 3) (C := RX9) (T := TX9) (N := 5) (n := o) (L := 0) (t := 2) dX9_add_174 rfl wi_77 m_695 (Nat.le_of_ble_eq_true rfl) rfl rfl hk84 hs3G83 ?_
          refine s_iload_n dX9_add_177 rfl ?_
          refine s_iald dX9_add_178 hkk3G83 (by omega) (by omega) rfl ?_
          refine s_iaddW dX9_add_179 (fun w91 hrw91 hew91 => ?_)
          refine s_iast dX9_add_180 hkk3G83 (by omega) (by omega) ?_
          generalize eG92r : gset G83 p3 ((gS G83 o 4 : Int).toNat) w91 = G92
          have eG92 := eG92r.symm
          have hCG92 : CI a b G92 := by rw [eG92]; exact hCG83.set (by rw [(by rw [cde_m (by omega) (by omega)]; omega : cde p3 = 324)]; rfl) (by rw [(by rw [cde_m (by omega) (by omega)]; omega : cde p3 = 324)]; exact trivial)
          have hXG92 : KX G83 G92 := KX.set KX.rf eG92
          have hFG92 : WX (fun x => o ≤ x ∧ x ≤ o + 4) G G92 := WX.set hFG83 eG92 (by show _; omega)
          show WP kX9_add X 181 [some (2, ((o : Nat) : Int)), some (0, x), some (0, y), some (0, z69)] [] G92
          have hs0G92 : gS G92 o 0 = (p0 : Int) := by rw [gset_o eG92 (x := o) (by omega)]; exact hs0G83
          have hkk0G92 : gK G92 p0 = (1, L9) := hXG92.k hkk0G83 (by decide)
          have hs1G92 : gS G92 o 1 = (p1 : Int) := by rw [gset_o eG92 (x := o) (by omega)]; exact hs1G83
          have hkk1G92 : gK G92 p1 = (1, L9) := hXG92.k hkk1G83 (by decide)
          have hs2G92 : gS G92 o 2 = (p2 : Int) := by rw [gset_o eG92 (x := o) (by omega)]; exact hs2G83
          have hkk2G92 : gK G92 p2 = (3, L9) := hXG92.k hkk2G83 (by decide)
          have hs3G92 : gS G92 o 3 = (p3 : Int) := by rw [gset_o eG92 (x := o) (by omega)]; exact hs3G83
          have hkk3G92 : gK G92 p3 = (1, L9) := hXG92.k hkk3G83 (by decide)
          have hr4G92 : gS G92 o 4 = gS G83 o 4 := congrFun (gset_o eG92 (x := o) (by omega)) 4
          refine s_aload_n dX9_add_181 rfl (Int.natCast_nonneg _) ?_
          refine s_dup dX9_add_182 (show (2 : Nat) ≠ 1 by decide) ?_
          have hk93 : gK G92 (o) = (18, 0) := ((hXG92).k hk84 (by decide))
          refine s_alv (o) (by simp) (fun (al95 : AL G92 o) => ?_)
          have hv94 : 0 ≤ (gS G92 o 4) ∧ (gS G92 o 4) ≤ 8192 := hCG92.1.v (j := 4) (by rw [cde_m (by omega) (by omega)]; omega : cde o = 320) al95 (by rw [hk93]; exact Nat.le_of_ble_eq_true rfl)
          refine s_getf (ci := 10) (k := 4) (C := RX9) (T := TX9) (N := 5) (n := o) (L := 0) (t := 0) dX9_add_183 rfl wi_77 m_696 (Nat.le_of_ble_eq_true rfl) rfl rfl hk93 rfl ?_
          refine s_iconst dX9_add_186 (by decide) ?_
          refine s_iadd dX9_add_187 (by omega) ?_
          refine s_putf (ci := 10) (k := 4) (C := RX9) (T := TX9) (N := 5) (n := o) (L := 0) dX9_add_188 rfl wi_77 m_696 (Nat.le_of_ble_eq_true rfl) rfl rfl tyX9_ok nmX9 rfl (Or.inl rfl) hk93 ?_
          generalize eG96r : gset G92 o 4 ((gS G92 o 4) + 1) = G96
          have eG96 := eG96r.symm
          have hCG96 : CI a b G96 := by rw [eG96]; exact hCG92.valCount ho hs0G92 hkk0G92 (by omega) (by omega)
          have hXG96 : KX G92 G96 := KX.set KX.rf eG96
          have hFG96 : WX (fun x => o ≤ x ∧ x ≤ o + 4) G G96 := WX.set hFG92 eG96 (by show _; omega)
          show WP kX9_add X 191 [some (2, ((o : Nat) : Int)), some (0, x), some (0, y), some (0, z69)] [] G96
          refine s_aload_n dX9_add_191 rfl (Int.natCast_nonneg _) ?_
          have hk97 : gK G96 (o) = (18, 0) := ((hXG96).k hk93 (by decide))
          refine s_alv (o) (by simp) (fun (al99 : AL G96 o) => ?_)
          have hv98 : 0 ≤ (gS G96 o 4) ∧ (gS G96 o 4) ≤ 8192 := hCG96.1.v (j := 4) (by rw [cde_m (by omega) (by omega)]; omega : cde o = 320) al99 (by rw [hk97]; exact Nat.le_of_ble_eq_true rfl)
          refine s_getf (ci := 10) (k := 4) (C := RX9) (T := TX9) (N := 5) (n := o) (L := 0) (t := 0) dX9_add_192 rfl wi_77 m_696 (Nat.le_of_ble_eq_true rfl) rfl rfl hk97 (gsaE eG96) ?_
          refine s_iconst dX9_add_195 (by decide) ?_
          refine s_isub dX9_add_196 (by omega) ?_
          exact s_iret hR dX9_add_197 rfl (hQ (((gS G92 o 4) + 1) - 1) G96 hCG96 (KX.trans (KX.trans (KX.trans (KX.trans hXW3 hXG73) hXG83) hXG92) hXG96) hFG96 ⟨by omega, (gsaE eG96).trans (by omega), by unfold lenV; rw [show gS G96 o 0 = (p0 : Int) from by rw [eG96, gset_ne _ _ (fun z => absurd z.2 (by decide))]; exact hs0G92, Int.toNat_natCast, hXG96.k hkk0G92 (by decide)]; rw [hln1]; omega⟩)
        · -- 160 to 163
          refine s_iconst dX9_add_163 (by decide) ?_
          refine s_goto (tgt := 180) dX9_add_164 (by decide) ?_
          refine s_iast dX9_add_180 hkk3G83 (by omega) (by omega) ?_
          generalize eG100r : gset G83 p3 ((gS G83 o 4 : Int).toNat) 1 = G100
          have eG100 := eG100r.symm
          have hCG100 : CI a b G100 := by rw [eG100]; exact hCG83.set (by rw [(by rw [cde_m (by omega) (by omega)]; omega : cde p3 = 324)]; rfl) (by rw [(by rw [cde_m (by omega) (by omega)]; omega : cde p3 = 324)]; exact trivial)
          have hXG100 : KX G83 G100 := KX.set KX.rf eG100
          have hFG100 : WX (fun x => o ≤ x ∧ x ≤ o + 4) G G100 := WX.set hFG83 eG100 (by show _; omega)
          show WP kX9_add X 181 [some (2, ((o : Nat) : Int)), some (0, x), some (0, y), some (0, z69)] [] G100
          have hs0G100 : gS G100 o 0 = (p0 : Int) := by rw [gset_o eG100 (x := o) (by omega)]; exact hs0G83
          have hkk0G100 : gK G100 p0 = (1, L9) := hXG100.k hkk0G83 (by decide)
          have hs1G100 : gS G100 o 1 = (p1 : Int) := by rw [gset_o eG100 (x := o) (by omega)]; exact hs1G83
          have hkk1G100 : gK G100 p1 = (1, L9) := hXG100.k hkk1G83 (by decide)
          have hs2G100 : gS G100 o 2 = (p2 : Int) := by rw [gset_o eG100 (x := o) (by omega)]; exact hs2G83
          have hkk2G100 : gK G100 p2 = (3, L9) := hXG100.k hkk2G83 (by decide)
          have hs3G100 : gS G100 o 3 = (p3 : Int) := by rw [gset_o eG100 (x := o) (by omega)]; exact hs3G83
          have hkk3G100 : gK G100 p3 = (1, L9) := hXG100.k hkk3G83 (by decide)
          have hr4G100 : gS G100 o 4 = gS G83 o 4 := congrFun (gset_o eG100 (x := o) (by omega)) 4
          refine s_aload_n dX9_add_181 rfl (Int.natCast_nonneg _) ?_
          refine s_dup dX9_add_182 (show (2 : Nat) ≠ 1 by decide) ?_
          have hk101 : gK G100 (o) = (18, 0) := ((hXG100).k hk84 (by decide))
          refine s_alv (o) (by simp) (fun (al103 : AL G100 o) => ?_)
          have hv102 : 0 ≤ (gS G100 o 4) ∧ (gS G100 o 4) ≤ 8192 := hCG100.1.v (j := 4) (by rw [cde_m (by omega) (by omega)]; omega : cde o = 320) al103 (by rw [hk101]; exact Nat.le_of_ble_eq_true rfl)
          refine s_getf (ci := 10) (k := 4) (C := RX9) (T := TX9) (N := 5) (n := o) (L := 0) (t := 0) dX9_add_183 rfl wi_77 m_696 (Nat.le_of_ble_eq_true rfl) rfl rfl hk101 rfl ?_
          refine s_iconst dX9_add_186 (by decide) ?_
          refine s_iadd dX9_add_187 (by omega) ?_
          refine s_putf (ci := 10) (k := 4) (C := RX9) (T := TX9) (N := 5) (n := o) (L := 0) dX9_add_188 rfl wi_77 m_696 (Nat.le_of_ble_eq_true rfl) rfl rfl tyX9_ok nmX9 rfl (Or.inl rfl) hk101 ?_
          generalize eG104r : gset G100 o 4 ((gS G100 o 4) + 1) = G104
          have eG104 := eG104r.symm
          have hCG104 : CI a b G104 := by rw [eG104]; exact hCG100.valCount ho hs0G100 hkk0G100 (by omega) (by omega)
          have hXG104 : KX G100 G104 := KX.set KX.rf eG104
          have hFG104 : WX (fun x => o ≤ x ∧ x ≤ o + 4) G G104 := WX.set hFG100 eG104 (by show _; omega)
          show WP kX9_add X 191 [some (2, ((o : Nat) : Int)), some (0, x), some (0, y), some (0, z69)] [] G104
          refine s_aload_n dX9_add_191 rfl (Int.natCast_nonneg _) ?_
          have hk105 : gK G104 (o) = (18, 0) := ((hXG104).k hk101 (by decide))
          refine s_alv (o) (by simp) (fun (al107 : AL G104 o) => ?_)
          have hv106 : 0 ≤ (gS G104 o 4) ∧ (gS G104 o 4) ≤ 8192 := hCG104.1.v (j := 4) (by rw [cde_m (by omega) (by omega)]; omega : cde o = 320) al107 (by rw [hk105]; exact Nat.le_of_ble_eq_true rfl)
          refine s_getf (ci := 10) (k := 4) (C := RX9) (T := TX9) (N := 5) (n := o) (L := 0) (t := 0) dX9_add_192 rfl wi_77 m_696 (Nat.le_of_ble_eq_true rfl) rfl rfl hk105 (gsaE eG104) ?_
          refine s_iconst dX9_add_195 (by decide) ?_
          refine s_isub dX9_add_196 (by omega) ?_
          exact s_iret hR dX9_add_197 rfl (hQ (((gS G100 o 4) + 1) - 1) G104 hCG104 (KX.trans (KX.trans (KX.trans (KX.trans hXW3 hXG73) hXG83) hXG100) hXG104) hFG104 ⟨by omega, (gsaE eG104).trans (by omega), by unfold lenV; rw [show gS G104 o 0 = (p0 : Int) from by rw [eG104, gset_ne _ _ (fun z => absurd z.2 (by decide))]; exact hs0G100, Int.toNat_natCast, hXG104.k hkk0G100 (by decide)]; rw [hln1]; omega⟩)
      · -- 124 to 127
        refine s_lconst dX9_add_127 ?_
        show WP kX9_add X 128 [some (2, ((o : Nat) : Int)), some (0, x), some (0, y), some (0, z69)] [(1, 1), (0, gS G73 o 4), (2, ((p2 : Nat) : Int))] G73
        refine s_goto (tgt := 150) dX9_add_128 (by decide) ?_
        refine s_last dX9_add_150 hkk2G73 (by omega) (by omega) ?_
        generalize eG108r : gset G73 p2 ((gS G73 o 4 : Int).toNat) 1 = G108
        have eG108 := eG108r.symm
        have hCG108 : CI a b G108 := by rw [eG108]; exact hCG73.set (by rw [(by rw [cde_m (by omega) (by omega)]; omega : cde p2 = 323)]; rfl) (by rw [(by rw [cde_m (by omega) (by omega)]; omega : cde p2 = 323)]; exact trivial)
        have hXG108 : KX G73 G108 := KX.set KX.rf eG108
        have hFG108 : WX (fun x => o ≤ x ∧ x ≤ o + 4) G G108 := WX.set hFG73 eG108 (by show _; omega)
        show WP kX9_add X 151 [some (2, ((o : Nat) : Int)), some (0, x), some (0, y), some (0, z69)] [] G108
        have hs0G108 : gS G108 o 0 = (p0 : Int) := by rw [gset_o eG108 (x := o) (by omega)]; exact hs0G73
        have hkk0G108 : gK G108 p0 = (1, L9) := hXG108.k hkk0G73 (by decide)
        have hs1G108 : gS G108 o 1 = (p1 : Int) := by rw [gset_o eG108 (x := o) (by omega)]; exact hs1G73
        have hkk1G108 : gK G108 p1 = (1, L9) := hXG108.k hkk1G73 (by decide)
        have hs2G108 : gS G108 o 2 = (p2 : Int) := by rw [gset_o eG108 (x := o) (by omega)]; exact hs2G73
        have hkk2G108 : gK G108 p2 = (3, L9) := hXG108.k hkk2G73 (by decide)
        have hs3G108 : gS G108 o 3 = (p3 : Int) := by rw [gset_o eG108 (x := o) (by omega)]; exact hs3G73
        have hkk3G108 : gK G108 p3 = (1, L9) := hXG108.k hkk3G73 (by decide)
        have hr4G108 : gS G108 o 4 = gS G73 o 4 := congrFun (gset_o eG108 (x := o) (by omega)) 4
        refine s_aload_n dX9_add_151 rfl (Int.natCast_nonneg _) ?_
        have hk109 : gK G108 (o) = (18, 0) := ((hXG108).k hk74 (by decide))
        refine s_alv (o) (by simp) (fun (al110 : AL G108 o) => ?_)
        refine s_getf (ci := 10) (k := 3) (C := RX9) (T := TX9) (N := 5) (n := o) (L := 0) (t := 2) dX9_add_152 rfl wi_77 m_695 (Nat.le_of_ble_eq_true rfl) rfl rfl hk109 hs3G108 ?_
        refine s_aload_n dX9_add_155 rfl (Int.natCast_nonneg _) ?_
        have hv112 : 0 ≤ (gS G108 o 4) ∧ (gS G108 o 4) ≤ 8192 := hCG108.1.v (j := 4) (by rw [cde_m (by omega) (by omega)]; omega : cde o = 320) al110 (by rw [hk109]; exact Nat.le_of_ble_eq_true rfl)
        refine s_getf (ci := 10) (k := 4) (C := RX9) (T := TX9) (N := 5) (n := o) (L := 0) (t := 0) dX9_add_156 rfl wi_77 m_696 (Nat.le_of_ble_eq_true rfl) rfl rfl hk109 rfl ?_
        refine s_iload_n dX9_add_159 rfl ?_
        refine s_if_eq (tgt := 167) dX9_add_160 (by decide) (fun c113 => ?_) (fun c113 => ?_)
        · -- 160 to 167
          refine s_aload_n dX9_add_167 rfl (Int.natCast_nonneg _) ?_
          refine s_getf (ci := 10) (k := 3) (C := RX9) (T := TX9) (N := 5) (n := o) (L := 0) (t := 2) dX9_add_168 rfl wi_77 m_695 (Nat.le_of_ble_eq_true rfl) rfl rfl hk109 hs3G108 ?_
          refine s_iload_n dX9_add_171 rfl ?_
          refine s_iald dX9_add_172 hkk3G108 (by omega) (by omega) rfl ?_
          refine s_aload_n dX9_add_173 rfl (Int.natCast_nonneg _) ?_
          refine s_getf (ci := 10) (k := 3) (C := RX9) (T := TX9) (N := 5) (n := o) (L := 0) (t := 2) dX9_add_174 rfl wi_77 m_695 (Nat.le_of_ble_eq_true rfl) rfl rfl hk109 hs3G108 ?_
          refine s_iload_n dX9_add_177 rfl ?_
          refine s_iald dX9_add_178 hkk3G108 (by omega) (by omega) rfl ?_
          refine s_iaddW dX9_add_179 (fun w116 hrw116 hew116 => ?_)
          refine s_iast dX9_add_180 hkk3G108 (by omega) (by omega) ?_
          generalize eG117r : gset G108 p3 ((gS G108 o 4 : Int).toNat) w116 = G117
          have eG117 := eG117r.symm
          have hCG117 : CI a b G117 := by rw [eG117]; exact hCG108.set (by rw [(by rw [cde_m (by omega) (by omega)]; omega : cde p3 = 324)]; rfl) (by rw [(by rw [cde_m (by omega) (by omega)]; omega : cde p3 = 324)]; exact trivial)
          have hXG117 : KX G108 G117 := KX.set KX.rf eG117
          have hFG117 : WX (fun x => o ≤ x ∧ x ≤ o + 4) G G117 := WX.set hFG108 eG117 (by show _; omega)
          show WP kX9_add X 181 [some (2, ((o : Nat) : Int)), some (0, x), some (0, y), some (0, z69)] [] G117
          have hs0G117 : gS G117 o 0 = (p0 : Int) := by rw [gset_o eG117 (x := o) (by omega)]; exact hs0G108
          have hkk0G117 : gK G117 p0 = (1, L9) := hXG117.k hkk0G108 (by decide)
          have hs1G117 : gS G117 o 1 = (p1 : Int) := by rw [gset_o eG117 (x := o) (by omega)]; exact hs1G108
          have hkk1G117 : gK G117 p1 = (1, L9) := hXG117.k hkk1G108 (by decide)
          have hs2G117 : gS G117 o 2 = (p2 : Int) := by rw [gset_o eG117 (x := o) (by omega)]; exact hs2G108
          have hkk2G117 : gK G117 p2 = (3, L9) := hXG117.k hkk2G108 (by decide)
          have hs3G117 : gS G117 o 3 = (p3 : Int) := by rw [gset_o eG117 (x := o) (by omega)]; exact hs3G108
          have hkk3G117 : gK G117 p3 = (1, L9) := hXG117.k hkk3G108 (by decide)
          have hr4G117 : gS G117 o 4 = gS G108 o 4 := congrFun (gset_o eG117 (x := o) (by omega)) 4
          refine s_aload_n dX9_add_181 rfl (Int.natCast_nonneg _) ?_
          refine s_dup dX9_add_182 (show (2 : Nat) ≠ 1 by decide) ?_
          have hk118 : gK G117 (o) = (18, 0) := ((hXG117).k hk109 (by decide))
          refine s_alv (o) (by simp) (fun (al120 : AL G117 o) => ?_)
          have hv119 : 0 ≤ (gS G117 o 4) ∧ (gS G117 o 4) ≤ 8192 := hCG117.1.v (j := 4) (by rw [cde_m (by omega) (by omega)]; omega : cde o = 320) al120 (by rw [hk118]; exact Nat.le_of_ble_eq_true rfl)
          refine s_getf (ci := 10) (k := 4) (C := RX9) (T := TX9) (N := 5) (n := o) (L := 0) (t := 0) dX9_add_183 rfl wi_77 m_696 (Nat.le_of_ble_eq_true rfl) rfl rfl hk118 rfl ?_
          refine s_iconst dX9_add_186 (by decide) ?_
          refine s_iadd dX9_add_187 (by omega) ?_
          refine s_putf (ci := 10) (k := 4) (C := RX9) (T := TX9) (N := 5) (n := o) (L := 0) dX9_add_188 rfl wi_77 m_696 (Nat.le_of_ble_eq_true rfl) rfl rfl tyX9_ok nmX9 rfl (Or.inl rfl) hk118 ?_
          generalize eG121r : gset G117 o 4 ((gS G117 o 4) + 1) = G121
          have eG121 := eG121r.symm
          have hCG121 : CI a b G121 := by rw [eG121]; exact hCG117.valCount ho hs0G117 hkk0G117 (by omega) (by omega)
          have hXG121 : KX G117 G121 := KX.set KX.rf eG121
          have hFG121 : WX (fun x => o ≤ x ∧ x ≤ o + 4) G G121 := WX.set hFG117 eG121 (by show _; omega)
          show WP kX9_add X 191 [some (2, ((o : Nat) : Int)), some (0, x), some (0, y), some (0, z69)] [] G121
          refine s_aload_n dX9_add_191 rfl (Int.natCast_nonneg _) ?_
          have hk122 : gK G121 (o) = (18, 0) := ((hXG121).k hk118 (by decide))
          refine s_alv (o) (by simp) (fun (al124 : AL G121 o) => ?_)
          have hv123 : 0 ≤ (gS G121 o 4) ∧ (gS G121 o 4) ≤ 8192 := hCG121.1.v (j := 4) (by rw [cde_m (by omega) (by omega)]; omega : cde o = 320) al124 (by rw [hk122]; exact Nat.le_of_ble_eq_true rfl)
          refine s_getf (ci := 10) (k := 4) (C := RX9) (T := TX9) (N := 5) (n := o) (L := 0) (t := 0) dX9_add_192 rfl wi_77 m_696 (Nat.le_of_ble_eq_true rfl) rfl rfl hk122 (gsaE eG121) ?_
          refine s_iconst dX9_add_195 (by decide) ?_
          refine s_isub dX9_add_196 (by omega) ?_
          exact s_iret hR dX9_add_197 rfl (hQ (((gS G117 o 4) + 1) - 1) G121 hCG121 (KX.trans (KX.trans (KX.trans (KX.trans hXW3 hXG73) hXG108) hXG117) hXG121) hFG121 ⟨by omega, (gsaE eG121).trans (by omega), by unfold lenV; rw [show gS G121 o 0 = (p0 : Int) from by rw [eG121, gset_ne _ _ (fun z => absurd z.2 (by decide))]; exact hs0G117, Int.toNat_natCast, hXG121.k hkk0G117 (by decide)]; rw [hln1]; omega⟩)
        · -- 160 to 163
          refine s_iconst dX9_add_163 (by decide) ?_
          refine s_goto (tgt := 180) dX9_add_164 (by decide) ?_
          refine s_iast dX9_add_180 hkk3G108 (by omega) (by omega) ?_
          generalize eG125r : gset G108 p3 ((gS G108 o 4 : Int).toNat) 1 = G125
          have eG125 := eG125r.symm
          have hCG125 : CI a b G125 := by rw [eG125]; exact hCG108.set (by rw [(by rw [cde_m (by omega) (by omega)]; omega : cde p3 = 324)]; rfl) (by rw [(by rw [cde_m (by omega) (by omega)]; omega : cde p3 = 324)]; exact trivial)
          have hXG125 : KX G108 G125 := KX.set KX.rf eG125
          have hFG125 : WX (fun x => o ≤ x ∧ x ≤ o + 4) G G125 := WX.set hFG108 eG125 (by show _; omega)
          show WP kX9_add X 181 [some (2, ((o : Nat) : Int)), some (0, x), some (0, y), some (0, z69)] [] G125
          have hs0G125 : gS G125 o 0 = (p0 : Int) := by rw [gset_o eG125 (x := o) (by omega)]; exact hs0G108
          have hkk0G125 : gK G125 p0 = (1, L9) := hXG125.k hkk0G108 (by decide)
          have hs1G125 : gS G125 o 1 = (p1 : Int) := by rw [gset_o eG125 (x := o) (by omega)]; exact hs1G108
          have hkk1G125 : gK G125 p1 = (1, L9) := hXG125.k hkk1G108 (by decide)
          have hs2G125 : gS G125 o 2 = (p2 : Int) := by rw [gset_o eG125 (x := o) (by omega)]; exact hs2G108
          have hkk2G125 : gK G125 p2 = (3, L9) := hXG125.k hkk2G108 (by decide)
          have hs3G125 : gS G125 o 3 = (p3 : Int) := by rw [gset_o eG125 (x := o) (by omega)]; exact hs3G108
          have hkk3G125 : gK G125 p3 = (1, L9) := hXG125.k hkk3G108 (by decide)
          have hr4G125 : gS G125 o 4 = gS G108 o 4 := congrFun (gset_o eG125 (x := o) (by omega)) 4
          refine s_aload_n dX9_add_181 rfl (Int.natCast_nonneg _) ?_
          refine s_dup dX9_add_182 (show (2 : Nat) ≠ 1 by decide) ?_
          have hk126 : gK G125 (o) = (18, 0) := ((hXG125).k hk109 (by decide))
          refine s_alv (o) (by simp) (fun (al128 : AL G125 o) => ?_)
          have hv127 : 0 ≤ (gS G125 o 4) ∧ (gS G125 o 4) ≤ 8192 := hCG125.1.v (j := 4) (by rw [cde_m (by omega) (by omega)]; omega : cde o = 320) al128 (by rw [hk126]; exact Nat.le_of_ble_eq_true rfl)
          refine s_getf (ci := 10) (k := 4) (C := RX9) (T := TX9) (N := 5) (n := o) (L := 0) (t := 0) dX9_add_183 rfl wi_77 m_696 (Nat.le_of_ble_eq_true rfl) rfl rfl hk126 rfl ?_
          refine s_iconst dX9_add_186 (by decide) ?_
          refine s_iadd dX9_add_187 (by omega) ?_
          refine s_putf (ci := 10) (k := 4) (C := RX9) (T := TX9) (N := 5) (n := o) (L := 0) dX9_add_188 rfl wi_77 m_696 (Nat.le_of_ble_eq_true rfl) rfl rfl tyX9_ok nmX9 rfl (Or.inl rfl) hk126 ?_
          generalize eG129r : gset G125 o 4 ((gS G125 o 4) + 1) = G129
          have eG129 := eG129r.symm
          have hCG129 : CI a b G129 := by rw [eG129]; exact hCG125.valCount ho hs0G125 hkk0G125 (by omega) (by omega)
          have hXG129 : KX G125 G129 := KX.set KX.rf eG129
          have hFG129 : WX (fun x => o ≤ x ∧ x ≤ o + 4) G G129 := WX.set hFG125 eG129 (by show _; omega)
          show WP kX9_add X 191 [some (2, ((o : Nat) : Int)), some (0, x), some (0, y), some (0, z69)] [] G129
          refine s_aload_n dX9_add_191 rfl (Int.natCast_nonneg _) ?_
          have hk130 : gK G129 (o) = (18, 0) := ((hXG129).k hk126 (by decide))
          refine s_alv (o) (by simp) (fun (al132 : AL G129 o) => ?_)
          have hv131 : 0 ≤ (gS G129 o 4) ∧ (gS G129 o 4) ≤ 8192 := hCG129.1.v (j := 4) (by rw [cde_m (by omega) (by omega)]; omega : cde o = 320) al132 (by rw [hk130]; exact Nat.le_of_ble_eq_true rfl)
          refine s_getf (ci := 10) (k := 4) (C := RX9) (T := TX9) (N := 5) (n := o) (L := 0) (t := 0) dX9_add_192 rfl wi_77 m_696 (Nat.le_of_ble_eq_true rfl) rfl rfl hk130 (gsaE eG129) ?_
          refine s_iconst dX9_add_195 (by decide) ?_
          refine s_isub dX9_add_196 (by omega) ?_
          exact s_iret hR dX9_add_197 rfl (hQ (((gS G125 o 4) + 1) - 1) G129 hCG129 (KX.trans (KX.trans (KX.trans (KX.trans hXW3 hXG73) hXG108) hXG125) hXG129) hFG129 ⟨by omega, (gsaE eG129).trans (by omega), by unfold lenV; rw [show gS G129 o 0 = (p0 : Int) from by rw [eG129, gset_ne _ _ (fun z => absurd z.2 (by decide))]; exact hs0G125, Int.toNat_natCast, hXG129.k hkk0G125 (by decide)]; rw [hln1]; omega⟩)
    refine s_icmp_ne (tgt := 93) dX9_add_86 (by decide) (fun c133 => ?_) (fun c133 => ?_)
    · -- 86 to 93
      refine s_iconst dX9_add_93 (by decide) ?_
      exact J70 0 (Or.inl ⟨c133, rfl⟩)
    · -- 86 to 89
      refine s_iconst dX9_add_89 (by decide) ?_
      refine s_goto (tgt := 94) dX9_add_90 (by decide) ?_
      exact J70 1 (Or.inr (⟨c133, rfl⟩))
