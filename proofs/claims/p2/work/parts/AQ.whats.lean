abbrev kJx4a65c_size_8abf5 : KD := (RJx4a65c, cJx4a65c_size_8abf5, 1, (some .int), [])
def TJx4a65c_size_8abf5 : TR := fun as G Qr => ∃ (a b : Nat), as = [(2, ((327685 : Nat) : Int))] ∧ CI a b G ∧ (a ≤ 2840000 ∧ b ≤ 590000) ∧ ∀ (r : Int), (r = nN G) → Qr (.inl (some (0, r))) G
set_option maxHeartbeats 4000000 in
set_option maxRecDepth 100000 in
theorem gJx4a65c_size_8abf5 : Good kJx4a65c_size_8abf5 yJx4a65c_size_8abf5 0 TJx4a65c_size_8abf5 := by
  refine good_of (by decide) rfl rfl (fun as G Qr h => ?_) (fun X as G Qr hcf hR hT oa => ?_)
  · obtain ⟨a, b, rfl, -⟩ := h; exact Nat.le_of_ble_eq_true rfl
  obtain ⟨a, b, rfl, hC, hab, hQ⟩ := hT
  show WP kJx4a65c_size_8abf5 X 0 [some (2, ((327685 : Nat) : Int))] [] G
  refine s_aload_n dJx4a65c_size_8abf5_0 rfl (Int.natCast_nonneg _) ?_
  refine s_alv (327685) (by simp) (fun al1 => ?_)
  have hk2 : gK G (327685) = (8, 0) := hC.1.k (by decide : cde 327685 = 505) al1
  have hv3 : 0 ≤ (gS G 327685 2) ∧ (gS G 327685 2) ≤ 40 := hC.1.v (j := 2) (by decide : cde 327685 = 505) al1 (by rw [hk2]; exact Nat.le_of_ble_eq_true rfl)
  refine s_getf (ci := 0) (k := 2) (C := RJx4a65c) (T := TJx4a65c) (N := 3) (n := 327685) (L := 0) (t := 0) dJx4a65c_size_8abf5_1 rfl wi_56 m_400 (Nat.le_of_ble_eq_true rfl) rfl rfl hk2 rfl ?_
  exact s_iret hR dJx4a65c_size_8abf5_4 rfl (hQ (gS G 327685 2) rfl)

abbrev kJ3_checkIndex_8e157 : KD := (RJ3, cJ3_checkIndex_8e157, 3, (some .int), [])
def TJ3_checkIndex_8e157 : TR := fun as G Qr => ∃ (x n : Int), as = [(0, x), (0, n), (2, (-1))] ∧ (0 ≤ x ∧ x < n) ∧ ∀ (r : Int), (r = x) → Qr (.inl (some (0, r))) G
set_option maxHeartbeats 4000000 in
set_option maxRecDepth 100000 in
theorem gJ3_checkIndex_8e157 : Good kJ3_checkIndex_8e157 yJ3_checkIndex_8e157 6 TJ3_checkIndex_8e157 := by
  refine good_of (by decide) rfl rfl (fun as G Qr h => ?_) (fun X as G Qr hcf hR hT oa => ?_)
  · obtain ⟨x, n, rfl, -⟩ := h; exact Nat.le_of_ble_eq_true rfl
  obtain ⟨x, n, rfl, hx, hQ⟩ := hT
  show WP kJ3_checkIndex_8e157 X 0 [some (0, x), some (0, n), some (2, (-1))] [] G
  have hr_x : inR x := okv_R (oa _ (by simp))
  have hr_n : inR n := okv_R (oa _ (by simp))
  refine s_iload_n dJ3_checkIndex_8e157_0 rfl ?_
  refine s_if_lt (tgt := 9) dJ3_checkIndex_8e157_1 (by decide) (fun c1 => ?_) (fun c1 => ?_)
  · -- 1 to 9
    exfalso; omega
  · -- 1 to 4
    refine s_iload_n dJ3_checkIndex_8e157_4 rfl ?_
    refine s_iload_n dJ3_checkIndex_8e157_5 rfl ?_
    refine s_icmp_lt (tgt := 16) dJ3_checkIndex_8e157_6 (by decide) (fun c2 => ?_) (fun c2 => ?_)
    · -- 6 to 16
      refine s_iload_n dJ3_checkIndex_8e157_16 rfl ?_
      exact s_iret hR dJ3_checkIndex_8e157_17 rfl (hQ x rfl)
    · -- 6 to 9
      exfalso; omega

abbrev kJ15_checkIndex_7cf53 : KD := (RJ15, cJ15_checkIndex_7cf53, 2, (some .int), [])
def TJ15_checkIndex_7cf53 : TR := fun as G Qr => ∃ (x n : Int), as = [(0, x), (0, n)] ∧ (0 ≤ x ∧ x < n) ∧ ∀ (r : Int), (r = x) → Qr (.inl (some (0, r))) G
set_option maxHeartbeats 4000000 in
set_option maxRecDepth 100000 in
theorem gJ15_checkIndex_7cf53 : Good kJ15_checkIndex_7cf53 yJ15_checkIndex_7cf53 7 TJ15_checkIndex_7cf53 := by
  refine good_of (by decide) rfl rfl (fun as G Qr h => ?_) (fun X as G Qr hcf hR hT oa => ?_)
  · obtain ⟨x, n, rfl, -⟩ := h; exact Nat.le_of_ble_eq_true rfl
  obtain ⟨x, n, rfl, hx, hQ⟩ := hT
  show WP kJ15_checkIndex_7cf53 X 0 [some (0, x), some (0, n)] [] G
  have hr_x : inR x := okv_R (oa _ (by simp))
  have hr_n : inR n := okv_R (oa _ (by simp))
  refine s_iload_n dJ15_checkIndex_7cf53_0 rfl ?_
  refine s_iload_n dJ15_checkIndex_7cf53_1 rfl ?_
  refine s_null dJ15_checkIndex_7cf53_2 ?_
  refine s_callS2 (as := [(0, x), (0, n), (2, (-1))]) (rest := []) gJ3_checkIndex_8e157 dJ15_checkIndex_7cf53_3 m_1036 m_1746 m_704 m_41 ⟨by decide, by decide, show (parseMethodDescriptor yJ3_checkIndex_8e157.desc).map (fun d => d.parameters.length) = some 3 from by decide +kernel⟩ (Nat.le_of_ble_eq_true rfl) (by rw [hcf]; exact Nat.le_of_ble_eq_true rfl) rfl (Nat.le_of_ble_eq_true rfl) ⟨x, n, rfl, (by first | assumption | omega), fun rr1 hp2 => ?_⟩
  show WP kJ15_checkIndex_7cf53 X 6 [some (0, x), some (0, n)] [(0, rr1)] G
  exact s_iret hR dJ15_checkIndex_7cf53_6 rfl (hQ rr1 (by omega))

abbrev kJx4a65c_elementData_915e3 : KD := (RJx4a65c, cJx4a65c_elementData_915e3, 2, (some (.object "java/lang/Object")), [])
def TJx4a65c_elementData_915e3 : TR := fun as G Qr => ∃ (i : Int) (a b : Nat), as = [(2, ((327685 : Nat) : Int)), (0, i)] ∧ CI a b G ∧ (a ≤ 2840000 ∧ b ≤ 590000) ∧ (0 ≤ i ∧ i < nN G) ∧ ∀ (r : Nat), (isNd r ∧ (r : Int) = 65536 + 64 * i ∧ gK G r = (13, 0)) → Qr (.inl (some (2, (r : Int)))) G
set_option maxHeartbeats 4000000 in
set_option maxRecDepth 100000 in
theorem gJx4a65c_elementData_915e3 : Good kJx4a65c_elementData_915e3 yJx4a65c_elementData_915e3 0 TJx4a65c_elementData_915e3 := by
  refine good_of (by decide) rfl rfl (fun as G Qr h => ?_) (fun X as G Qr hcf hR hT oa => ?_)
  · obtain ⟨i, a, b, rfl, -⟩ := h; exact Nat.le_of_ble_eq_true rfl
  obtain ⟨i, a, b, rfl, hC, hab, hi9, hQ⟩ := hT
  show WP kJx4a65c_elementData_915e3 X 0 [some (2, ((327685 : Nat) : Int)), some (0, i)] [] G
  have hr_i : inR i := okv_R (oa _ (by simp))
  obtain ⟨qn, Ln, hn1, hn2, hn3, hn4, hn5⟩ := hC.2.2.2.2.1
  have hnN : nN G = gS G 327685 2 := rfl
  obtain ⟨oi, hoi⟩ : ∃ oi : Nat, oi = 65536 + 64 * i.toNat := ⟨_, rfl⟩
  have hqi : gS G qn i.toNat = ((oi : Nat) : Int) := by rw [hoi]; exact hn5 i.toNat (by omega)
  have hnd := hC.nd hoi (by omega)
  refine s_aload_n dJx4a65c_elementData_915e3_0 rfl (Int.natCast_nonneg _) ?_
  refine s_alv (327685) (by simp) (fun al1 => ?_)
  have hk2 : gK G (327685) = (8, 0) := hC.1.k (by decide : cde 327685 = 505) al1
  refine s_getf (ci := 0) (k := 1) (C := RJx4a65c) (T := TJx4a65c) (N := 3) (n := 327685) (L := 0) (t := 2) dJx4a65c_elementData_915e3_1 rfl wi_56 m_402 (Nat.le_of_ble_eq_true rfl) rfl rfl hk2 hn1 ?_
  refine s_iload_n dJx4a65c_elementData_915e3_4 rfl ?_
  refine s_aald7 dJx4a65c_elementData_915e3_5 hn3 (by omega) (by omega) hqi ?_
  exact s_aret hR dJx4a65c_elementData_915e3_6 rfl (by first | exact Or.inl ⟨_, rfl⟩ | exact Or.inr ⟨_, rfl⟩) (hQ oi ⟨by omega, by omega, hnd.2.1⟩)

abbrev kJx4a65c_get_915e3 : KD := (RJx4a65c, cJx4a65c_get_915e3, 2, (some (.object "java/lang/Object")), [])
def TJx4a65c_get_915e3 : TR := fun as G Qr => ∃ (i : Int) (a b : Nat), as = [(2, ((327685 : Nat) : Int)), (0, i)] ∧ CI a b G ∧ (a ≤ 2840000 ∧ b ≤ 590000) ∧ (0 ≤ i ∧ i < nN G) ∧ ∀ (r : Nat), (isNd r ∧ (r : Int) = 65536 + 64 * i ∧ gK G r = (13, 0)) → Qr (.inl (some (2, (r : Int)))) G
set_option maxHeartbeats 4000000 in
set_option maxRecDepth 100000 in
theorem gJx4a65c_get_915e3 : Good kJx4a65c_get_915e3 yJx4a65c_get_915e3 8 TJx4a65c_get_915e3 := by
  refine good_of (by decide) rfl rfl (fun as G Qr h => ?_) (fun X as G Qr hcf hR hT oa => ?_)
  · obtain ⟨i, a, b, rfl, -⟩ := h; exact Nat.le_of_ble_eq_true rfl
  obtain ⟨i, a, b, rfl, hC, hab, hi9, hQ⟩ := hT
  show WP kJx4a65c_get_915e3 X 0 [some (2, ((327685 : Nat) : Int)), some (0, i)] [] G
  have hr_i : inR i := okv_R (oa _ (by simp))
  have hnN : nN G = gS G 327685 2 := rfl
  refine s_iload_n dJx4a65c_get_915e3_0 rfl ?_
  refine s_aload_n dJx4a65c_get_915e3_1 rfl (Int.natCast_nonneg _) ?_
  refine s_alv (327685) (by simp) (fun al1 => ?_)
  have hk2 : gK G (327685) = (8, 0) := hC.1.k (by decide : cde 327685 = 505) al1
  have hv3 : 0 ≤ (gS G 327685 2) ∧ (gS G 327685 2) ≤ 40 := hC.1.v (j := 2) (by decide : cde 327685 = 505) al1 (by rw [hk2]; exact Nat.le_of_ble_eq_true rfl)
  refine s_getf (ci := 0) (k := 2) (C := RJx4a65c) (T := TJx4a65c) (N := 3) (n := 327685) (L := 0) (t := 0) dJx4a65c_get_915e3_2 rfl wi_56 m_400 (Nat.le_of_ble_eq_true rfl) rfl rfl hk2 rfl ?_
  refine s_callS2 (as := [(0, i), (0, gS G 327685 2)]) (rest := []) gJ15_checkIndex_7cf53 dJx4a65c_get_915e3_5 m_1046 m_1745 m_703 m_40 ⟨by decide, by decide, show (parseMethodDescriptor yJ15_checkIndex_7cf53.desc).map (fun d => d.parameters.length) = some 2 from by decide +kernel⟩ (Nat.le_of_ble_eq_true rfl) (by rw [hcf]; exact Nat.le_of_ble_eq_true rfl) rfl (Nat.le_of_ble_eq_true rfl) ⟨i, gS G 327685 2, rfl, (by first | assumption | omega), fun rr4 hp5 => ?_⟩
  show WP kJx4a65c_get_915e3 X 8 [some (2, ((327685 : Nat) : Int)), some (0, i)] [(0, rr4)] G
  refine s_pop dJx4a65c_get_915e3_8 (show (0 : Nat) ≠ 1 by decide) ?_
  refine s_aload_n dJx4a65c_get_915e3_9 rfl (Int.natCast_nonneg _) ?_
  refine s_iload_n dJx4a65c_get_915e3_10 rfl ?_
  refine s_callV (as := [(0, i)]) (rest := []) (n := 327685) (ci := 0) gJx4a65c_elementData_915e3 dJx4a65c_get_915e3_11 m_1047 m_727 m_1464 m_707 m_54 ⟨by decide, by decide, show (parseMethodDescriptor yJx4a65c_elementData_915e3.desc).map (fun d => d.parameters.length) = some 1 from by decide +kernel⟩ (Nat.le_of_ble_eq_true rfl) (by rw [hcf]; exact Nat.le_of_ble_eq_true rfl) hk2 rfl rfl (Nat.le_of_ble_eq_true rfl) ⟨i, a, b, rfl, hC, hab, (by first | assumption | omega), fun rr6 hp7 => ?_⟩
  show WP kJx4a65c_get_915e3 X 14 [some (2, ((327685 : Nat) : Int)), some (0, i)] [(2, ((rr6 : Nat) : Int))] G
  exact s_aret hR dJx4a65c_get_915e3_14 rfl (by first | exact Or.inl ⟨_, rfl⟩ | exact Or.inr ⟨_, rfl⟩) (hQ rr6 hp7)

abbrev kX2_stampOf : KD := (RX2, cX2_stampOf, 3, (some .int), [])
def TX2_stampOf : TR := fun as G Qr => ∃ (o n : Nat) (k : Int) (Hs : List (Int → Int)) (v : Int → Int) (a b : Nat), as = [(2, ((327682 : Nat) : Int)), (2, ((o : Nat) : Int)), (0, k)] ∧ CI a b G ∧ (a ≤ 2840000 ∧ b ≤ 590000) ∧ (o = 65536 + 64 * n) ∧ ((n : Int) < nN G) ∧ (0 ≤ k ∧ k < 6) ∧ (ThC G Hs) ∧ (v ∈ Hs) ∧ (gS G o 1 = 1 ∨ gS G o 1 = 3) ∧ (slC G n → WhC G v n) ∧ (¬ slC G n → WhC G v (ptC G n 0) ∧ WhC G v (ptC G n 1)) ∧ ∀ (r : Int) (G' : LG), CI a b G' → KX G G' → WX (fun x => x = 327683 ∨ x = 327687 ∨ x = 327688) G G' → (8 ≤ r ∧ ThC G' Hs ∧ TxC G G' ∧ skC G' v n (r - 8)) → Qr (.inl (some (0, r))) G'
set_option maxHeartbeats 4000000 in
set_option maxRecDepth 100000 in
theorem gX2_stampOf : Good kX2_stampOf yX2_stampOf 3 TX2_stampOf := by
  refine good_of (by decide) rfl rfl (fun as G Qr h => ?_) (fun X as G Qr hcf hR hT oa => ?_)
  · obtain ⟨o, n, k, Hs, v, a, b, rfl, -⟩ := h; exact Nat.le_of_ble_eq_true rfl
  obtain ⟨o, n, k, Hs, v, a, b, rfl, hC, hab, ho9, hn, hk, hTH, hv, hkd, hw1, hw2, hQ⟩ := hT
  show WP kX2_stampOf X 0 [some (2, ((327682 : Nat) : Int)), some (2, ((o : Nat) : Int)), some (0, k)] [] G
  have hr_k : inR k := okv_R (oa _ (by simp))
  refine s_alvl 327682 (k := 0) rfl (fun alZ => ?_)
  refine s_lk (fun hlk => ?_)
  have hfn := hlk.fna hC alZ
  obtain ⟨k327682, k327681, k327683, k262144, k262208, k327684, k68097, k327691, k327692, k262145, k262146, k262148, k262149, k262209, k262210, k262212, k262213, k327710, k327685, k327688⟩ := id hfn
  obtain ⟨hn40, hko, pa, hpa, hpm, hpc, hkp, hpt, hu6, hr4⟩ := hC.nd ho9 hn
  have ho : isNd o := by omega
  have hND := hTH.2.2.2.1
  have hsl : slC G n ↔ (gS G o 1 = 3 ∨ ¬ gS G o 5 = 0) := by unfold slC nkC ngC; rw [ho9]
  have hnk : nkC G n = gS G o 1 := by unfold nkC; rw [ho9]
  have hnn : nnC G n = gS G o 3 := by unfold nnC; rw [ho9]
  have hnt : ntC G n = gS G o 4 := by unfold ntC; rw [ho9]
  have hng : ngC G n = gS G o 5 := by unfold ngC; rw [ho9]
  have hn0 : ¬ gS G o 1 = 6 → 0 < npt (gS G o 1) := npt_0
  have hn1 : gS G o 1 ≤ 3 → 1 < npt (gS G o 1) := npt_1
  have hn2 : gS G o 1 = 3 → 2 < npt (gS G o 1) := npt_2
  obtain ⟨o0, ho0⟩ : ∃ o0 : Nat, o0 = 65536 + 64 * ptC G n 0 := ⟨_, rfl⟩
  have hq0 : ¬ gS G o 1 = 6 → gS G pa 0 = ((o0 : Nat) : Int) ∧ isNd o0 ∧ ptC G n 0 < n := fun z => by obtain ⟨z1, z2⟩ := hpt 0 (npt_0 (by omega)); exact ⟨by rw [ho0]; exact z1, by omega, z2⟩
  obtain ⟨o1, ho1⟩ : ∃ o1 : Nat, o1 = 65536 + 64 * ptC G n 1 := ⟨_, rfl⟩
  have hq1 : gS G o 1 ≤ 3 → gS G pa 1 = ((o1 : Nat) : Int) ∧ isNd o1 ∧ ptC G n 1 < n := fun z => by obtain ⟨z1, z2⟩ := hpt 1 (npt_1 (by omega)); exact ⟨by rw [ho1]; exact z1, by omega, z2⟩
  have hw0e : gS G o 10 = gS G (65536 + 64 * n) 10 := by rw [ho9]
  have hw0f : gS G o0 10 = gS G (65536 + 64 * ptC G n 0) 10 := by rw [ho0]
  have hw1f : gS G o1 10 = gS G (65536 + 64 * ptC G n 1) 10 := by rw [ho1]
  refine s_bipush dX2_stampOf_0 rfl (by decide) ?_
  refine s_aload_n dX2_stampOf_2 rfl (Int.natCast_nonneg _) ?_
  refine s_callV (as := []) (rest := [(0, 8)]) (n := o) (ci := 5) gX4_isByItself dX2_stampOf_3 m_1297 m_970 m_1696 m_718 m_318 ⟨by decide, by decide, show (parseMethodDescriptor yX4_isByItself.desc).map (fun d => d.parameters.length) = some 0 from by decide +kernel⟩ (Nat.le_of_ble_eq_true rfl) (by rw [hcf]; exact Nat.le_of_ble_eq_true rfl) hko rfl rfl (Nat.le_of_ble_eq_true rfl) ⟨o, a, b, rfl, hC, hab, (by first | assumption | omega), fun rr1 hp2 => ?_⟩
  show WP kX2_stampOf X 6 [some (2, ((327682 : Nat) : Int)), some (2, ((o : Nat) : Int)), some (0, k)] [(0, rr1), (0, 8)] G
  refine s_if_eq (tgt := 27) dX2_stampOf_6 (by decide) (fun c3 => ?_) (fun c3 => ?_)
  · -- 6 to 27
    refine s_aload_n dX2_stampOf_27 rfl (Int.natCast_nonneg _) ?_
    have hv4 : gS G 327682 1 = ((327683 : Nat) : Int) := by have h9 : (gS G 327682 1) = 327683 := hC.1.v (j := 1) (by decide : cde 327682 = 502) (kne k327682 (by decide)) (by rw [k327682]; exact Nat.le_of_ble_eq_true rfl); omega
    refine s_getf (ci := 3) (k := 1) (C := RX2) (T := TX2) (N := 8) (n := 327682) (L := 0) (t := 2) dX2_stampOf_28 rfl wi_70 m_568 (Nat.le_of_ble_eq_true rfl) rfl rfl k327682 hv4 ?_
    refine s_bipush dX2_stampOf_31 rfl (by decide) ?_
    refine s_aload_n dX2_stampOf_33 rfl (Int.natCast_nonneg _) ?_
    refine s_getf (ci := 5) (k := 2) (C := RX4) (T := TX4) (N := 14) (n := o) (L := 0) (t := 2) dX2_stampOf_34 rfl wi_72 m_567 (Nat.le_of_ble_eq_true rfl) rfl rfl hko hpa ?_
    refine s_iconst dX2_stampOf_37 (by decide) ?_
    refine s_aald6 dX2_stampOf_38 hkp (by omega) (by omega) (hq0 (by omega)).1 ?_
    refine s_alv (o0) (by simp) (fun al8 => ?_)
    have hk9 : gK G (o0) = (13, 0) := hC.1.k (by rw [cde_n (by omega) (by omega)]; omega : cde o0 = 100) al8
    refine s_getf (ci := 5) (k := 10) (C := RX4) (T := TX4) (N := 14) (n := o0) (L := 0) (t := 0) dX2_stampOf_39 rfl wi_72 m_591 (Nat.le_of_ble_eq_true rfl) rfl rfl hk9 rfl ?_
    refine s_aload_n dX2_stampOf_42 rfl (Int.natCast_nonneg _) ?_
    refine s_getf (ci := 5) (k := 2) (C := RX4) (T := TX4) (N := 14) (n := o) (L := 0) (t := 2) dX2_stampOf_43 rfl wi_72 m_567 (Nat.le_of_ble_eq_true rfl) rfl rfl hko hpa ?_
    refine s_iconst dX2_stampOf_46 (by decide) ?_
    refine s_aald6 dX2_stampOf_47 hkp (by omega) (by omega) (hq1 (by omega)).1 ?_
    refine s_alv (o1) (by simp) (fun al14 => ?_)
    have hk15 : gK G (o1) = (13, 0) := hC.1.k (by rw [cde_n (by omega) (by omega)]; omega : cde o1 = 100) al14
    refine s_getf (ci := 5) (k := 10) (C := RX4) (T := TX4) (N := 14) (n := o1) (L := 0) (t := 0) dX2_stampOf_48 rfl wi_72 m_591 (Nat.le_of_ble_eq_true rfl) rfl rfl hk15 rfl ?_
    refine s_iload_n dX2_stampOf_51 rfl ?_
    refine s_callV (as := [(0, 9), (0, gS G o0 10), (0, gS G o1 10), (0, k)]) (rest := [(0, 8)]) (n := 327683) (ci := 8) gX7_numberOf dX2_stampOf_52 m_1298 m_995 m_1718 m_721 m_343 ⟨by decide, by decide, show (parseMethodDescriptor yX7_numberOf.desc).map (fun d => d.parameters.length) = some 4 from by decide +kernel⟩ (Nat.le_of_ble_eq_true rfl) (by rw [hcf]; exact Nat.le_of_ble_eq_true rfl) k327683 rfl rfl (Nat.le_of_ble_eq_true rfl) ⟨9, gS G o0 10, gS G o1 10, k, Hs, v, a, b, rfl, hC, hab, (by assumption), (by assumption), (by exact fun G9 tx t ht => mk_sk tx hn (by omega) (sk_parts tx hND hn (fun z => by have := hsl.mp z; omega) (by omega) (by rw [hw0f]; exact (hw2 (fun z => by have := hsl.mp z; omega)).1) (by rw [hw1f]; exact (hw2 (fun z => by have := hsl.mp z; omega)).2) hk ht)), fun rr18 G17 hCG17 hXG17 hfG17 hpG17 => ?_⟩
    have hFG17 : WX (fun x => x = 327683 ∨ x = 327687 ∨ x = 327688) G G17 := WX.trans WX.rf KX.rf (WX.mono hfG17 (fun x hx => by exact hx))
    show WP kX2_stampOf X 55 [some (2, ((327682 : Nat) : Int)), some (2, ((o : Nat) : Int)), some (0, k)] [(0, rr18), (0, 8)] G17
    have hbd9 := thC_bound hpG17.1
    have hb9 := hpG17.2.2.1
    refine s_iadd dX2_stampOf_55 (by omega) ?_
    exact s_iret hR dX2_stampOf_56 rfl (hQ (8 + rr18) G17 hCG17 hXG17 hFG17 ⟨by omega, hpG17.1, hpG17.2.1, by rw [show (8 + rr18) - 8 = rr18 by omega]; exact sk_parts hpG17.2.1 hND hn (fun z => by have := hsl.mp z; omega) (by omega) (by rw [hw0f]; exact (hw2 (fun z => by have := hsl.mp z; omega)).1) (by rw [hw1f]; exact (hw2 (fun z => by have := hsl.mp z; omega)).2) hk hpG17.2.2⟩)
  · -- 6 to 9
    refine s_aload_n dX2_stampOf_9 rfl (Int.natCast_nonneg _) ?_
    have hv19 : gS G 327682 1 = ((327683 : Nat) : Int) := by have h9 : (gS G 327682 1) = 327683 := hC.1.v (j := 1) (by decide : cde 327682 = 502) (kne k327682 (by decide)) (by rw [k327682]; exact Nat.le_of_ble_eq_true rfl); omega
    refine s_getf (ci := 3) (k := 1) (C := RX2) (T := TX2) (N := 8) (n := 327682) (L := 0) (t := 2) dX2_stampOf_10 rfl wi_70 m_568 (Nat.le_of_ble_eq_true rfl) rfl rfl k327682 hv19 ?_
    refine s_bipush dX2_stampOf_13 rfl (by decide) ?_
    refine s_aload_n dX2_stampOf_15 rfl (Int.natCast_nonneg _) ?_
    refine s_getf (ci := 5) (k := 10) (C := RX4) (T := TX4) (N := 14) (n := o) (L := 0) (t := 0) dX2_stampOf_16 rfl wi_72 m_591 (Nat.le_of_ble_eq_true rfl) rfl rfl hko rfl ?_
    refine s_iload_n dX2_stampOf_19 rfl ?_
    refine s_iconst dX2_stampOf_20 (by decide) ?_
    refine s_callV (as := [(0, 8), (0, gS G o 10), (0, k), (0, 0)]) (rest := [(0, 8)]) (n := 327683) (ci := 8) gX7_numberOf dX2_stampOf_21 m_1298 m_995 m_1718 m_721 m_343 ⟨by decide, by decide, show (parseMethodDescriptor yX7_numberOf.desc).map (fun d => d.parameters.length) = some 4 from by decide +kernel⟩ (Nat.le_of_ble_eq_true rfl) (by rw [hcf]; exact Nat.le_of_ble_eq_true rfl) k327683 rfl rfl (Nat.le_of_ble_eq_true rfl) ⟨8, gS G o 10, k, 0, Hs, v, a, b, rfl, hC, hab, (by assumption), (by assumption), (by exact fun G9 tx t ht => mk_sk tx hn (by omega) (sk_self tx hND hn (hsl.mpr (by omega)) (by rw [hw0e]; exact hw1 (hsl.mpr (by omega))) hk ht)), fun rr22 G21 hCG21 hXG21 hfG21 hpG21 => ?_⟩
    have hFG21 : WX (fun x => x = 327683 ∨ x = 327687 ∨ x = 327688) G G21 := WX.trans WX.rf KX.rf (WX.mono hfG21 (fun x hx => by exact hx))
    show WP kX2_stampOf X 24 [some (2, ((327682 : Nat) : Int)), some (2, ((o : Nat) : Int)), some (0, k)] [(0, rr22), (0, 8)] G21
    have hbd9 := thC_bound hpG21.1
    have hb9 := hpG21.2.2.1
    refine s_goto (tgt := 55) dX2_stampOf_24 (by decide) ?_
    refine s_iadd dX2_stampOf_55 (by omega) ?_
    exact s_iret hR dX2_stampOf_56 rfl (hQ (8 + rr22) G21 hCG21 hXG21 hFG21 ⟨by omega, hpG21.1, hpG21.2.1, by rw [show (8 + rr22) - 8 = rr22 by omega]; exact sk_self hpG21.2.1 hND hn (hsl.mpr (by omega)) (by rw [hw0e]; exact hw1 (hsl.mpr (by omega))) hk hpG21.2.2⟩)

abbrev kX2_findWhat : KD := (RX2, cX2_findWhat, 2, (some .int), [])
def TX2_findWhat : TR := fun as G Qr => ∃ (o n : Nat) (Hs : List (Int → Int)) (a b : Nat), as = [(2, ((327682 : Nat) : Int)), (2, ((o : Nat) : Int))] ∧ CI a b G ∧ (a ≤ 2840000 ∧ b ≤ 590000) ∧ (o = 65536 + 64 * n) ∧ ((n : Int) < nN G) ∧ (ThC G Hs) ∧ (curC G ∈ Hs) ∧ (¬ slC G n → ¬ nkC G n = 6 → WhC G (curC G) (ptC G n 0)) ∧ (¬ slC G n → nkC G n < 4 → WhC G (curC G) (ptC G n 1)) ∧ ∀ (r : Int) (G' : LG), CI a b G' → KX G G' → WX (fun x => x = 327683 ∨ x = 327687 ∨ x = 327688) G G' → (ThC G' Hs ∧ TxC G G' ∧ idC G' (curC G) n r) → Qr (.inl (some (0, r))) G'
set_option maxHeartbeats 4000000 in
set_option maxRecDepth 100000 in
theorem gX2_findWhat : Good kX2_findWhat yX2_findWhat 3 TX2_findWhat := by
  refine good_of (by decide) rfl rfl (fun as G Qr h => ?_) (fun X as G Qr hcf hR hT oa => ?_)
  · obtain ⟨o, n, Hs, a, b, rfl, -⟩ := h; exact Nat.le_of_ble_eq_true rfl
  obtain ⟨o, n, Hs, a, b, rfl, hC, hab, ho9, hn, hTH, hv, hw2, hw3, hQ⟩ := hT
  show WP kX2_findWhat X 0 [some (2, ((327682 : Nat) : Int)), some (2, ((o : Nat) : Int))] [] G
  refine s_alvl 327682 (k := 0) rfl (fun alZ => ?_)
  refine s_lk (fun hlk => ?_)
  have hfn := hlk.fna hC alZ
  obtain ⟨k327682, k327681, k327683, k262144, k262208, k327684, k68097, k327691, k327692, k262145, k262146, k262148, k262149, k262209, k262210, k262212, k262213, k327710, k327685, k327688⟩ := id hfn
  obtain ⟨hn40, hko, pa, hpa, hpm, hpc, hkp, hpt, hu6, hr4⟩ := hC.nd ho9 hn
  have ho : isNd o := by omega
  have hND := hTH.2.2.2.1
  have hsl : slC G n ↔ (gS G o 1 = 3 ∨ ¬ gS G o 5 = 0) := by unfold slC nkC ngC; rw [ho9]
  have hnk : nkC G n = gS G o 1 := by unfold nkC; rw [ho9]
  have hnn : nnC G n = gS G o 3 := by unfold nnC; rw [ho9]
  have hnt : ntC G n = gS G o 4 := by unfold ntC; rw [ho9]
  have hng : ngC G n = gS G o 5 := by unfold ngC; rw [ho9]
  have hn0 : ¬ gS G o 1 = 6 → 0 < npt (gS G o 1) := npt_0
  have hn1 : gS G o 1 ≤ 3 → 1 < npt (gS G o 1) := npt_1
  have hn2 : gS G o 1 = 3 → 2 < npt (gS G o 1) := npt_2
  obtain ⟨o0, ho0⟩ : ∃ o0 : Nat, o0 = 65536 + 64 * ptC G n 0 := ⟨_, rfl⟩
  have hq0 : ¬ gS G o 1 = 6 → gS G pa 0 = ((o0 : Nat) : Int) ∧ isNd o0 ∧ ptC G n 0 < n := fun z => by obtain ⟨z1, z2⟩ := hpt 0 (npt_0 (by omega)); exact ⟨by rw [ho0]; exact z1, by omega, z2⟩
  obtain ⟨o1, ho1⟩ : ∃ o1 : Nat, o1 = 65536 + 64 * ptC G n 1 := ⟨_, rfl⟩
  have hq1 : gS G o 1 ≤ 3 → gS G pa 1 = ((o1 : Nat) : Int) ∧ isNd o1 ∧ ptC G n 1 < n := fun z => by obtain ⟨z1, z2⟩ := hpt 1 (npt_1 (by omega)); exact ⟨by rw [ho1]; exact z1, by omega, z2⟩
  have hw0e : gS G o 10 = gS G (65536 + 64 * n) 10 := by rw [ho9]
  have hw0f : gS G o0 10 = gS G (65536 + 64 * ptC G n 0) 10 := by rw [ho0]
  have hw1f : gS G o1 10 = gS G (65536 + 64 * ptC G n 1) 10 := by rw [ho1]
  have hnum : gS G o 0 = (n : Int) := by have h9 : gS G o 0 = (((o % 1048576 - 65536) / 64 : Nat) : Int) := hC.1.v (c := 100) (j := 0) (by rw [cde_n (by omega) (by omega)]; omega) (kne hko (by decide)) (by rw [hko]; exact Nat.le_of_ble_eq_true rfl); omega
  have hti3 : 0 ≤ gS G o 3 ∧ gS G o 3 ≤ 9 := hC.1.v (c := 100) (j := 3) (by rw [cde_n (by omega) (by omega)]; omega) (kne hko (by decide)) (by rw [hko]; exact Nat.le_of_ble_eq_true rfl)
  have hti4 : -1 ≤ gS G o 4 ∧ gS G o 4 ≤ 9 := hC.1.v (c := 100) (j := 4) (by rw [cde_n (by omega) (by omega)]; omega) (kne hko (by decide)) (by rw [hko]; exact Nat.le_of_ble_eq_true rfl)
  have hti1 : 0 ≤ gS G o 1 ∧ gS G o 1 ≤ 6 := hC.1.v (c := 100) (j := 1) (by rw [cde_n (by omega) (by omega)]; omega) (kne hko (by decide)) (by rw [hko]; exact Nat.le_of_ble_eq_true rfl)
  have hvr : gS G o 1 = 6 → (0 ≤ gS G o 4 → vrC G (curC G) n = gS G o 4) ∧ (gS G o 4 < 0 → vrC G (curC G) n = gS G 327710 (gS G o 3).toNat - 1) := fun z => by unfold vrC curC; rw [hnt, hnn]; have z9 := (hu6 z).2.2.1; refine ⟨fun y => ?_, fun y => ?_⟩; (rw [if_neg (by omega)]); (rw [if_pos y]; show (if gS G 327710 (gS G o 3).toNat = 0 then (0 : Int) else gS G 327710 (gS G o 3).toNat - 1) = _; rw [if_neg (by omega)])
  refine s_aload_n dX2_findWhat_0 rfl (Int.natCast_nonneg _) ?_
  refine s_callV (as := []) (rest := []) (n := o) (ci := 5) gX4_isByItself dX2_findWhat_1 m_1297 m_970 m_1696 m_718 m_318 ⟨by decide, by decide, show (parseMethodDescriptor yX4_isByItself.desc).map (fun d => d.parameters.length) = some 0 from by decide +kernel⟩ (Nat.le_of_ble_eq_true rfl) (by rw [hcf]; exact Nat.le_of_ble_eq_true rfl) hko rfl rfl (Nat.le_of_ble_eq_true rfl) ⟨o, a, b, rfl, hC, hab, (by first | assumption | omega), fun rr1 hp2 => ?_⟩
  show WP kX2_findWhat X 4 [some (2, ((327682 : Nat) : Int)), some (2, ((o : Nat) : Int))] [(0, rr1)] G
  refine s_if_eq (tgt := 23) dX2_findWhat_4 (by decide) (fun c3 => ?_) (fun c3 => ?_)
  · -- 4 to 23
    refine s_aload_n dX2_findWhat_23 rfl (Int.natCast_nonneg _) ?_
    have hv4 : 0 ≤ (gS G o 1) ∧ (gS G o 1) ≤ 6 := hC.1.v (j := 1) (by rw [cde_n (by omega) (by omega)]; omega : cde o = 100) (kne hko (by decide)) (by rw [hko]; exact Nat.le_of_ble_eq_true rfl)
    refine s_getf (ci := 5) (k := 1) (C := RX4) (T := TX4) (N := 14) (n := o) (L := 0) (t := 0) dX2_findWhat_24 rfl wi_72 m_569 (Nat.le_of_ble_eq_true rfl) rfl rfl hko rfl ?_
    refine s_bipush dX2_findWhat_27 rfl (by decide) ?_
    refine s_icmp_ne (tgt := 55) dX2_findWhat_29 (by decide) (fun c5 => ?_) (fun c5 => ?_)
    · -- 29 to 55
      refine s_aload_n dX2_findWhat_55 rfl (Int.natCast_nonneg _) ?_
      refine s_getf (ci := 5) (k := 1) (C := RX4) (T := TX4) (N := 14) (n := o) (L := 0) (t := 0) dX2_findWhat_56 rfl wi_72 m_569 (Nat.le_of_ble_eq_true rfl) rfl rfl hko rfl ?_
      refine s_iconst dX2_findWhat_59 (by decide) ?_
      refine s_icmp_eq (tgt := 71) dX2_findWhat_60 (by decide) (fun c7 => ?_) (fun c7 => ?_)
      · -- 60 to 71
        refine s_aload_n dX2_findWhat_71 rfl (Int.natCast_nonneg _) ?_
        have hv8 : gS G 327682 1 = ((327683 : Nat) : Int) := by have h9 : (gS G 327682 1) = 327683 := hC.1.v (j := 1) (by decide : cde 327682 = 502) (kne k327682 (by decide)) (by rw [k327682]; exact Nat.le_of_ble_eq_true rfl); omega
        refine s_getf (ci := 3) (k := 1) (C := RX2) (T := TX2) (N := 8) (n := 327682) (L := 0) (t := 2) dX2_findWhat_72 rfl wi_70 m_568 (Nat.le_of_ble_eq_true rfl) rfl rfl k327682 hv8 ?_
        refine s_aload_n dX2_findWhat_75 rfl (Int.natCast_nonneg _) ?_
        refine s_getf (ci := 5) (k := 1) (C := RX4) (T := TX4) (N := 14) (n := o) (L := 0) (t := 0) dX2_findWhat_76 rfl wi_72 m_569 (Nat.le_of_ble_eq_true rfl) rfl rfl hko rfl ?_
        refine s_aload_n dX2_findWhat_79 rfl (Int.natCast_nonneg _) ?_
        refine s_getf (ci := 5) (k := 2) (C := RX4) (T := TX4) (N := 14) (n := o) (L := 0) (t := 2) dX2_findWhat_80 rfl wi_72 m_567 (Nat.le_of_ble_eq_true rfl) rfl rfl hko hpa ?_
        refine s_iconst dX2_findWhat_83 (by decide) ?_
        refine s_aald6 dX2_findWhat_84 hkp (by omega) (by omega) (hq0 (by omega)).1 ?_
        refine s_alv (o0) (by simp) (fun al13 => ?_)
        have hk14 : gK G (o0) = (13, 0) := hC.1.k (by rw [cde_n (by omega) (by omega)]; omega : cde o0 = 100) al13
        refine s_getf (ci := 5) (k := 10) (C := RX4) (T := TX4) (N := 14) (n := o0) (L := 0) (t := 0) dX2_findWhat_85 rfl wi_72 m_591 (Nat.le_of_ble_eq_true rfl) rfl rfl hk14 rfl ?_
        refine s_aload_n dX2_findWhat_88 rfl (Int.natCast_nonneg _) ?_
        have hv16 : 0 ≤ (gS G o 3) ∧ (gS G o 3) ≤ 9 := hC.1.v (j := 3) (by rw [cde_n (by omega) (by omega)]; omega : cde o = 100) (kne hko (by decide)) (by rw [hko]; exact Nat.le_of_ble_eq_true rfl)
        refine s_getf (ci := 5) (k := 3) (C := RX4) (T := TX4) (N := 14) (n := o) (L := 0) (t := 0) dX2_findWhat_89 rfl wi_72 m_570 (Nat.le_of_ble_eq_true rfl) rfl rfl hko rfl ?_
        refine s_aload_n dX2_findWhat_92 rfl (Int.natCast_nonneg _) ?_
        have hv17 : -1 ≤ (gS G o 4) ∧ (gS G o 4) ≤ 9 := hC.1.v (j := 4) (by rw [cde_n (by omega) (by omega)]; omega : cde o = 100) (kne hko (by decide)) (by rw [hko]; exact Nat.le_of_ble_eq_true rfl)
        refine s_getf (ci := 5) (k := 4) (C := RX4) (T := TX4) (N := 14) (n := o) (L := 0) (t := 0) dX2_findWhat_93 rfl wi_72 m_571 (Nat.le_of_ble_eq_true rfl) rfl rfl hko rfl ?_
        refine s_callV (as := [(0, gS G o 1), (0, gS G o0 10), (0, gS G o 3), (0, gS G o 4)]) (rest := []) (n := 327683) (ci := 8) gX7_numberOf dX2_findWhat_96 m_1298 m_995 m_1718 m_721 m_343 ⟨by decide, by decide, show (parseMethodDescriptor yX7_numberOf.desc).map (fun d => d.parameters.length) = some 4 from by decide +kernel⟩ (Nat.le_of_ble_eq_true rfl) (by rw [hcf]; exact Nat.le_of_ble_eq_true rfl) k327683 rfl rfl (Nat.le_of_ble_eq_true rfl) ⟨gS G o 1, gS G o0 10, gS G o 3, gS G o 4, Hs, (curC G), a, b, rfl, hC, hab, (by assumption), (by assumption), (by exact fun G9 tx t ht => mk_id tx hn (id_ren tx hND hn (fun z => by have := hsl.mp z; omega) (by omega) (by rw [hw0f]; exact hw2 (fun z => by have := hsl.mp z; omega) (by omega)) (by omega) (by omega) (by omega) ht)), fun rr19 G18 hCG18 hXG18 hfG18 hpG18 => ?_⟩
        have hFG18 : WX (fun x => x = 327683 ∨ x = 327687 ∨ x = 327688) G G18 := WX.trans WX.rf KX.rf (WX.mono hfG18 (fun x hx => by exact hx))
        show WP kX2_findWhat X 99 [some (2, ((327682 : Nat) : Int)), some (2, ((o : Nat) : Int))] [(0, rr19)] G18
        exact s_iret hR dX2_findWhat_99 rfl (hQ rr19 G18 hCG18 hXG18 hFG18 ⟨hpG18.1, hpG18.2.1, by have tx := hpG18.2.1; have ht := hpG18.2.2; exact id_ren tx hND hn (fun z => by have := hsl.mp z; omega) (by omega) (by rw [hw0f]; exact hw2 (fun z => by have := hsl.mp z; omega) (by omega)) (by omega) (by omega) (by omega) ht⟩)
      · -- 60 to 63
        refine s_aload_n dX2_findWhat_63 rfl (Int.natCast_nonneg _) ?_
        refine s_getf (ci := 5) (k := 1) (C := RX4) (T := TX4) (N := 14) (n := o) (L := 0) (t := 0) dX2_findWhat_64 rfl wi_72 m_569 (Nat.le_of_ble_eq_true rfl) rfl rfl hko rfl ?_
        refine s_iconst dX2_findWhat_67 (by decide) ?_
        refine s_icmp_ne (tgt := 100) dX2_findWhat_68 (by decide) (fun c21 => ?_) (fun c21 => ?_)
        · -- 68 to 100
          refine s_aload_n dX2_findWhat_100 rfl (Int.natCast_nonneg _) ?_
          have hv22 : gS G 327682 1 = ((327683 : Nat) : Int) := by have h9 : (gS G 327682 1) = 327683 := hC.1.v (j := 1) (by decide : cde 327682 = 502) (kne k327682 (by decide)) (by rw [k327682]; exact Nat.le_of_ble_eq_true rfl); omega
          refine s_getf (ci := 3) (k := 1) (C := RX2) (T := TX2) (N := 8) (n := 327682) (L := 0) (t := 2) dX2_findWhat_101 rfl wi_70 m_568 (Nat.le_of_ble_eq_true rfl) rfl rfl k327682 hv22 ?_
          refine s_aload_n dX2_findWhat_104 rfl (Int.natCast_nonneg _) ?_
          refine s_getf (ci := 5) (k := 1) (C := RX4) (T := TX4) (N := 14) (n := o) (L := 0) (t := 0) dX2_findWhat_105 rfl wi_72 m_569 (Nat.le_of_ble_eq_true rfl) rfl rfl hko rfl ?_
          refine s_aload_n dX2_findWhat_108 rfl (Int.natCast_nonneg _) ?_
          refine s_getf (ci := 5) (k := 2) (C := RX4) (T := TX4) (N := 14) (n := o) (L := 0) (t := 2) dX2_findWhat_109 rfl wi_72 m_567 (Nat.le_of_ble_eq_true rfl) rfl rfl hko hpa ?_
          refine s_iconst dX2_findWhat_112 (by decide) ?_
          refine s_aald6 dX2_findWhat_113 hkp (by omega) (by omega) (hq0 (by omega)).1 ?_
          refine s_alv (o0) (by simp) (fun al27 => ?_)
          have hk28 : gK G (o0) = (13, 0) := hC.1.k (by rw [cde_n (by omega) (by omega)]; omega : cde o0 = 100) al27
          refine s_getf (ci := 5) (k := 10) (C := RX4) (T := TX4) (N := 14) (n := o0) (L := 0) (t := 0) dX2_findWhat_114 rfl wi_72 m_591 (Nat.le_of_ble_eq_true rfl) rfl rfl hk28 rfl ?_
          refine s_aload_n dX2_findWhat_117 rfl (Int.natCast_nonneg _) ?_
          refine s_getf (ci := 5) (k := 2) (C := RX4) (T := TX4) (N := 14) (n := o) (L := 0) (t := 2) dX2_findWhat_118 rfl wi_72 m_567 (Nat.le_of_ble_eq_true rfl) rfl rfl hko hpa ?_
          refine s_iconst dX2_findWhat_121 (by decide) ?_
          refine s_aald6 dX2_findWhat_122 hkp (by omega) (by omega) (hq1 (by omega)).1 ?_
          refine s_alv (o1) (by simp) (fun al33 => ?_)
          have hk34 : gK G (o1) = (13, 0) := hC.1.k (by rw [cde_n (by omega) (by omega)]; omega : cde o1 = 100) al33
          refine s_getf (ci := 5) (k := 10) (C := RX4) (T := TX4) (N := 14) (n := o1) (L := 0) (t := 0) dX2_findWhat_123 rfl wi_72 m_591 (Nat.le_of_ble_eq_true rfl) rfl rfl hk34 rfl ?_
          refine s_iconst dX2_findWhat_126 (by decide) ?_
          refine s_callV (as := [(0, gS G o 1), (0, gS G o0 10), (0, gS G o1 10), (0, 0)]) (rest := []) (n := 327683) (ci := 8) gX7_numberOf dX2_findWhat_127 m_1298 m_995 m_1718 m_721 m_343 ⟨by decide, by decide, show (parseMethodDescriptor yX7_numberOf.desc).map (fun d => d.parameters.length) = some 4 from by decide +kernel⟩ (Nat.le_of_ble_eq_true rfl) (by rw [hcf]; exact Nat.le_of_ble_eq_true rfl) k327683 rfl rfl (Nat.le_of_ble_eq_true rfl) ⟨gS G o 1, gS G o0 10, gS G o1 10, 0, Hs, (curC G), a, b, rfl, hC, hab, (by assumption), (by assumption), (by exact fun G9 tx t ht => mk_id tx hn (id_parts tx hND hn (fun z => by have := hsl.mp z; omega) (by omega) (by rw [hw0f]; exact hw2 (fun z => by have := hsl.mp z; omega) (by omega)) (by rw [hw1f]; exact hw3 (fun z => by have := hsl.mp z; omega) (by omega)) (by omega) ht)), fun rr37 G36 hCG36 hXG36 hfG36 hpG36 => ?_⟩
          have hFG36 : WX (fun x => x = 327683 ∨ x = 327687 ∨ x = 327688) G G36 := WX.trans WX.rf KX.rf (WX.mono hfG36 (fun x hx => by exact hx))
          show WP kX2_findWhat X 130 [some (2, ((327682 : Nat) : Int)), some (2, ((o : Nat) : Int))] [(0, rr37)] G36
          exact s_iret hR dX2_findWhat_130 rfl (hQ rr37 G36 hCG36 hXG36 hFG36 ⟨hpG36.1, hpG36.2.1, by have tx := hpG36.2.1; have ht := hpG36.2.2; exact id_parts tx hND hn (fun z => by have := hsl.mp z; omega) (by omega) (by rw [hw0f]; exact hw2 (fun z => by have := hsl.mp z; omega) (by omega)) (by rw [hw1f]; exact hw3 (fun z => by have := hsl.mp z; omega) (by omega)) (by omega) ht⟩)
        · -- 68 to 71
          refine s_aload_n dX2_findWhat_71 rfl (Int.natCast_nonneg _) ?_
          have hv38 : gS G 327682 1 = ((327683 : Nat) : Int) := by have h9 : (gS G 327682 1) = 327683 := hC.1.v (j := 1) (by decide : cde 327682 = 502) (kne k327682 (by decide)) (by rw [k327682]; exact Nat.le_of_ble_eq_true rfl); omega
          refine s_getf (ci := 3) (k := 1) (C := RX2) (T := TX2) (N := 8) (n := 327682) (L := 0) (t := 2) dX2_findWhat_72 rfl wi_70 m_568 (Nat.le_of_ble_eq_true rfl) rfl rfl k327682 hv38 ?_
          refine s_aload_n dX2_findWhat_75 rfl (Int.natCast_nonneg _) ?_
          refine s_getf (ci := 5) (k := 1) (C := RX4) (T := TX4) (N := 14) (n := o) (L := 0) (t := 0) dX2_findWhat_76 rfl wi_72 m_569 (Nat.le_of_ble_eq_true rfl) rfl rfl hko rfl ?_
          refine s_aload_n dX2_findWhat_79 rfl (Int.natCast_nonneg _) ?_
          refine s_getf (ci := 5) (k := 2) (C := RX4) (T := TX4) (N := 14) (n := o) (L := 0) (t := 2) dX2_findWhat_80 rfl wi_72 m_567 (Nat.le_of_ble_eq_true rfl) rfl rfl hko hpa ?_
          refine s_iconst dX2_findWhat_83 (by decide) ?_
          refine s_aald6 dX2_findWhat_84 hkp (by omega) (by omega) (hq0 (by omega)).1 ?_
          refine s_alv (o0) (by simp) (fun al43 => ?_)
          have hk44 : gK G (o0) = (13, 0) := hC.1.k (by rw [cde_n (by omega) (by omega)]; omega : cde o0 = 100) al43
          refine s_getf (ci := 5) (k := 10) (C := RX4) (T := TX4) (N := 14) (n := o0) (L := 0) (t := 0) dX2_findWhat_85 rfl wi_72 m_591 (Nat.le_of_ble_eq_true rfl) rfl rfl hk44 rfl ?_
          refine s_aload_n dX2_findWhat_88 rfl (Int.natCast_nonneg _) ?_
          have hv46 : 0 ≤ (gS G o 3) ∧ (gS G o 3) ≤ 9 := hC.1.v (j := 3) (by rw [cde_n (by omega) (by omega)]; omega : cde o = 100) (kne hko (by decide)) (by rw [hko]; exact Nat.le_of_ble_eq_true rfl)
          refine s_getf (ci := 5) (k := 3) (C := RX4) (T := TX4) (N := 14) (n := o) (L := 0) (t := 0) dX2_findWhat_89 rfl wi_72 m_570 (Nat.le_of_ble_eq_true rfl) rfl rfl hko rfl ?_
          refine s_aload_n dX2_findWhat_92 rfl (Int.natCast_nonneg _) ?_
          have hv47 : -1 ≤ (gS G o 4) ∧ (gS G o 4) ≤ 9 := hC.1.v (j := 4) (by rw [cde_n (by omega) (by omega)]; omega : cde o = 100) (kne hko (by decide)) (by rw [hko]; exact Nat.le_of_ble_eq_true rfl)
          refine s_getf (ci := 5) (k := 4) (C := RX4) (T := TX4) (N := 14) (n := o) (L := 0) (t := 0) dX2_findWhat_93 rfl wi_72 m_571 (Nat.le_of_ble_eq_true rfl) rfl rfl hko rfl ?_
          refine s_callV (as := [(0, gS G o 1), (0, gS G o0 10), (0, gS G o 3), (0, gS G o 4)]) (rest := []) (n := 327683) (ci := 8) gX7_numberOf dX2_findWhat_96 m_1298 m_995 m_1718 m_721 m_343 ⟨by decide, by decide, show (parseMethodDescriptor yX7_numberOf.desc).map (fun d => d.parameters.length) = some 4 from by decide +kernel⟩ (Nat.le_of_ble_eq_true rfl) (by rw [hcf]; exact Nat.le_of_ble_eq_true rfl) k327683 rfl rfl (Nat.le_of_ble_eq_true rfl) ⟨gS G o 1, gS G o0 10, gS G o 3, gS G o 4, Hs, (curC G), a, b, rfl, hC, hab, (by assumption), (by assumption), (by exact fun G9 tx t ht => mk_id tx hn (id_ren tx hND hn (fun z => by have := hsl.mp z; omega) (by omega) (by rw [hw0f]; exact hw2 (fun z => by have := hsl.mp z; omega) (by omega)) (by omega) (by omega) (by omega) ht)), fun rr49 G48 hCG48 hXG48 hfG48 hpG48 => ?_⟩
          have hFG48 : WX (fun x => x = 327683 ∨ x = 327687 ∨ x = 327688) G G48 := WX.trans WX.rf KX.rf (WX.mono hfG48 (fun x hx => by exact hx))
          show WP kX2_findWhat X 99 [some (2, ((327682 : Nat) : Int)), some (2, ((o : Nat) : Int))] [(0, rr49)] G48
          exact s_iret hR dX2_findWhat_99 rfl (hQ rr49 G48 hCG48 hXG48 hFG48 ⟨hpG48.1, hpG48.2.1, by have tx := hpG48.2.1; have ht := hpG48.2.2; exact id_ren tx hND hn (fun z => by have := hsl.mp z; omega) (by omega) (by rw [hw0f]; exact hw2 (fun z => by have := hsl.mp z; omega) (by omega)) (by omega) (by omega) (by omega) ht⟩)
    · -- 29 to 32
      refine s_aload_n dX2_findWhat_32 rfl (Int.natCast_nonneg _) ?_
      have hv50 : gS G 327682 1 = ((327683 : Nat) : Int) := by have h9 : (gS G 327682 1) = 327683 := hC.1.v (j := 1) (by decide : cde 327682 = 502) (kne k327682 (by decide)) (by rw [k327682]; exact Nat.le_of_ble_eq_true rfl); omega
      refine s_getf (ci := 3) (k := 1) (C := RX2) (T := TX2) (N := 8) (n := 327682) (L := 0) (t := 2) dX2_findWhat_33 rfl wi_70 m_568 (Nat.le_of_ble_eq_true rfl) rfl rfl k327682 hv50 ?_
      refine s_bipush dX2_findWhat_36 rfl (by decide) ?_
      refine s_aload_n dX2_findWhat_38 rfl (Int.natCast_nonneg _) ?_
      have hv51 : 0 ≤ (gS G o 3) ∧ (gS G o 3) ≤ 9 := hC.1.v (j := 3) (by rw [cde_n (by omega) (by omega)]; omega : cde o = 100) (kne hko (by decide)) (by rw [hko]; exact Nat.le_of_ble_eq_true rfl)
      refine s_getf (ci := 5) (k := 3) (C := RX4) (T := TX4) (N := 14) (n := o) (L := 0) (t := 0) dX2_findWhat_39 rfl wi_72 m_570 (Nat.le_of_ble_eq_true rfl) rfl rfl hko rfl ?_
      refine s_aload_n dX2_findWhat_42 rfl (Int.natCast_nonneg _) ?_
      have hv52 : gS G 327682 0 = ((327681 : Nat) : Int) := by have h9 : (gS G 327682 0) = 327681 := hC.1.v (j := 0) (by decide : cde 327682 = 502) (kne k327682 (by decide)) (by rw [k327682]; exact Nat.le_of_ble_eq_true rfl); omega
      refine s_getf (ci := 3) (k := 0) (C := RX2) (T := TX2) (N := 8) (n := 327682) (L := 0) (t := 2) dX2_findWhat_43 rfl wi_70 m_584 (Nat.le_of_ble_eq_true rfl) rfl rfl k327682 hv52 ?_
      refine s_aload_n dX2_findWhat_46 rfl (Int.natCast_nonneg _) ?_
      refine s_callV (as := [(2, ((o : Nat) : Int))]) (rest := [(0, gS G o 3), (0, 6), (2, ((327683 : Nat) : Int))]) (n := 327681) (ci := 6) gX5_versionNumberOf dX2_findWhat_47 m_1299 m_983 m_1708 m_719 m_331 ⟨by decide, by decide, show (parseMethodDescriptor yX5_versionNumberOf.desc).map (fun d => d.parameters.length) = some 1 from by decide +kernel⟩ (Nat.le_of_ble_eq_true rfl) (by rw [hcf]; exact Nat.le_of_ble_eq_true rfl) k327681 rfl rfl (Nat.le_of_ble_eq_true rfl) ⟨o, a, b, rfl, hC, hab, (by omega), (by omega), (by have := hu6 (by omega); omega), (by have := hu6 (by omega); omega), (by have := hu6 (by omega); omega), (by have := hu6 (by omega); omega), fun rr53 hp54 => ?_⟩
      show WP kX2_findWhat X 50 [some (2, ((327682 : Nat) : Int)), some (2, ((o : Nat) : Int))] [(0, rr53), (0, gS G o 3), (0, 6), (2, ((327683 : Nat) : Int))] G
      refine s_iconst dX2_findWhat_50 (by decide) ?_
      refine s_callV (as := [(0, 6), (0, gS G o 3), (0, rr53), (0, 0)]) (rest := []) (n := 327683) (ci := 8) gX7_numberOf dX2_findWhat_51 m_1298 m_995 m_1718 m_721 m_343 ⟨by decide, by decide, show (parseMethodDescriptor yX7_numberOf.desc).map (fun d => d.parameters.length) = some 4 from by decide +kernel⟩ (Nat.le_of_ble_eq_true rfl) (by rw [hcf]; exact Nat.le_of_ble_eq_true rfl) k327683 rfl rfl (Nat.le_of_ble_eq_true rfl) ⟨6, gS G o 3, rr53, 0, Hs, (curC G), a, b, rfl, hC, hab, (by assumption), (by assumption), (by exact fun G9 tx t ht => mk_id tx hn (id_unit tx hn (fun z => by have := hsl.mp z; omega) (by omega) (by omega) (by have := hvr (by omega); omega) ht)), fun rr56 G55 hCG55 hXG55 hfG55 hpG55 => ?_⟩
      have hFG55 : WX (fun x => x = 327683 ∨ x = 327687 ∨ x = 327688) G G55 := WX.trans WX.rf KX.rf (WX.mono hfG55 (fun x hx => by exact hx))
      show WP kX2_findWhat X 54 [some (2, ((327682 : Nat) : Int)), some (2, ((o : Nat) : Int))] [(0, rr56)] G55
      exact s_iret hR dX2_findWhat_54 rfl (hQ rr56 G55 hCG55 hXG55 hFG55 ⟨hpG55.1, hpG55.2.1, by have tx := hpG55.2.1; have ht := hpG55.2.2; exact id_unit tx hn (fun z => by have := hsl.mp z; omega) (by omega) (by omega) (by have := hvr (by omega); omega) ht⟩)
  · -- 4 to 7
    refine s_aload_n dX2_findWhat_7 rfl (Int.natCast_nonneg _) ?_
    have hv57 : gS G 327682 1 = ((327683 : Nat) : Int) := by have h9 : (gS G 327682 1) = 327683 := hC.1.v (j := 1) (by decide : cde 327682 = 502) (kne k327682 (by decide)) (by rw [k327682]; exact Nat.le_of_ble_eq_true rfl); omega
    refine s_getf (ci := 3) (k := 1) (C := RX2) (T := TX2) (N := 8) (n := 327682) (L := 0) (t := 2) dX2_findWhat_8 rfl wi_70 m_568 (Nat.le_of_ble_eq_true rfl) rfl rfl k327682 hv57 ?_
    refine s_bipush dX2_findWhat_11 rfl (by decide) ?_
    refine s_aload_n dX2_findWhat_13 rfl (Int.natCast_nonneg _) ?_
    have hv58 : (gS G o 0) = ((((o % 1048576) - 65536) / 64 : Nat) : Int) := hC.1.v (j := 0) (by rw [cde_n (by omega) (by omega)]; omega : cde o = 100) (kne hko (by decide)) (by rw [hko]; exact Nat.le_of_ble_eq_true rfl)
    refine s_getf (ci := 5) (k := 0) (C := RX4) (T := TX4) (N := 14) (n := o) (L := 0) (t := 0) dX2_findWhat_14 rfl wi_72 m_586 (Nat.le_of_ble_eq_true rfl) rfl rfl hko rfl ?_
    refine s_iconst dX2_findWhat_17 (by decide) ?_
    refine s_iconst dX2_findWhat_18 (by decide) ?_
    refine s_callV (as := [(0, 7), (0, gS G o 0), (0, 0), (0, 0)]) (rest := []) (n := 327683) (ci := 8) gX7_numberOf dX2_findWhat_19 m_1298 m_995 m_1718 m_721 m_343 ⟨by decide, by decide, show (parseMethodDescriptor yX7_numberOf.desc).map (fun d => d.parameters.length) = some 4 from by decide +kernel⟩ (Nat.le_of_ble_eq_true rfl) (by rw [hcf]; exact Nat.le_of_ble_eq_true rfl) k327683 rfl rfl (Nat.le_of_ble_eq_true rfl) ⟨7, gS G o 0, 0, 0, Hs, (curC G), a, b, rfl, hC, hab, (by assumption), (by assumption), (by exact fun G9 tx t ht => mk_id tx hn (id_self tx hn (hsl.mpr (by omega)) (by rw [hnum] at ht; exact ht))), fun rr60 G59 hCG59 hXG59 hfG59 hpG59 => ?_⟩
    have hFG59 : WX (fun x => x = 327683 ∨ x = 327687 ∨ x = 327688) G G59 := WX.trans WX.rf KX.rf (WX.mono hfG59 (fun x hx => by exact hx))
    show WP kX2_findWhat X 22 [some (2, ((327682 : Nat) : Int)), some (2, ((o : Nat) : Int))] [(0, rr60)] G59
    exact s_iret hR dX2_findWhat_22 rfl (hQ rr60 G59 hCG59 hXG59 hFG59 ⟨hpG59.1, hpG59.2.1, by have tx := hpG59.2.1; have ht := hpG59.2.2; exact id_self tx hn (hsl.mpr (by omega)) (by rw [hnum] at ht; exact ht)⟩)
