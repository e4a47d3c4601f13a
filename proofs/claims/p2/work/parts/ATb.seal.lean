abbrev kX2_seal : KD := (RX2, cX2_seal, 7, (some .int), [])
def TX2_seal : TR := fun as G Qr => ∃ (o n A B f : Nat) (Hs : List (Int → Int)) (v : Int → Int) (a b : Nat), as = [(2, ((327682 : Nat) : Int)), (2, ((o : Nat) : Int)), (2, ((A : Nat) : Int)), (2, ((B : Nat) : Int)), (2, ((f : Nat) : Int))] ∧ CI a b G ∧ (a ≤ 2840000 ∧ b ≤ 590000) ∧ (o = 65536 + 64 * n) ∧ ((n : Int) < nN G) ∧ (ThC G Hs) ∧ (v ∈ Hs) ∧ (gS G o 1 = 1) ∧ (slC G n → WhC G v n) ∧ (¬ slC G n → WhC G v (ptC G n 0) ∧ WhC G v (ptC G n 1)) ∧ (isFc A) ∧ (isFc B) ∧ (isFc f) ∧ (A ≠ f ∧ B ≠ f) ∧ (FPa (PnC G v n) G B) ∧ (FPa (PnC G v n) G f) ∧ ∀ (r : Int) (G' : LG), CI a b G' → KX G G' → WX (fun x => x = 327683 ∨ x = 327687 ∨ x = 327688 ∨ x = 327691 ∨ (262144 ≤ x ∧ x < 262272) ∨ (f + 1 ≤ x ∧ x ≤ f + 22)) G G' → (ThC G' Hs ∧ TxC G G' ∧ FPa (PnC G' v n) G' f) → Qr (.inl (some (0, r))) G'
set_option maxHeartbeats 4000000 in
set_option maxRecDepth 100000 in
theorem gX2_seal : Good kX2_seal yX2_seal 4 TX2_seal := by
  refine good_of (by decide) rfl rfl (fun as G Qr h => ?_) (fun X as G Qr hcf hR hT oa => ?_)
  · obtain ⟨o, n, A, B, f, Hs, v, a, b, rfl, -⟩ := h; exact Nat.le_of_ble_eq_true rfl
  obtain ⟨o, n, A, B, f, Hs, v, a, b, rfl, hC, hab, ho9, hn, hTH, hv, hkd, hwn, hw2, hA, hB, hf, hne, hFB, hFf, hQ⟩ := hT
  show WP kX2_seal X 0 [some (2, ((327682 : Nat) : Int)), some (2, ((o : Nat) : Int)), some (2, ((A : Nat) : Int)), some (2, ((B : Nat) : Int)), some (2, ((f : Nat) : Int)), none, none] [] G
  replace hwn : HID (slC G n → WhC G v n) := hwn
  replace hw2 : HID (¬ slC G n → WhC G v (ptC G n 0) ∧ WhC G v (ptC G n 1)) := hw2
  refine s_alvl 327682 (k := 0) rfl (fun (alZ : AL G 327682) => ?_)
  refine s_alvl A (k := 2) rfl (fun (alA : AL G A) => ?_)
  refine s_alvl B (k := 3) rfl (fun (alB : AL G B) => ?_)
  refine s_alvl f (k := 4) rfl (fun (alf : AL G f) => ?_)
  refine s_lk (fun hlk => ?_)
  have hfn := hlk.fna hC alZ
  obtain ⟨k327682, k327681, k327683, k262144, k262208, k327684, k68097, k327691, k327692, k262145, k262146, k262148, k262149, k262209, k262210, k262212, k262213, k327710, k327685, k327688⟩ := id hfn
  have hfA := hlk.fc hC hA alA
  obtain ⟨kA0, kA1, kA2, kA3, kA4, kA5, kA6⟩ := hfA.1
  have hfB := hlk.fc hC hB alB
  obtain ⟨kB0, kB1, kB2, kB3, kB4, kB5, kB6⟩ := hfB.1
  have hff := hlk.fc hC hf alf
  obtain ⟨kf0, kf1, kf2, kf3, kf4, kf5, kf6⟩ := hff.1
  obtain ⟨hn40, hko, pa, hpa, hpm, hpc, hkp, hpt, hu6, hr4⟩ := hC.nd ho9 hn
  have ho : isNd o := by omega
  have hND := hTH.2.2.2.1
  have hsl : slC G n ↔ (gS G o 1 = 3 ∨ ¬ gS G o 5 = 0) := by unfold slC nkC ngC; rw [ho9]
  have hnk : nkC G n = gS G o 1 := by unfold nkC; rw [ho9]
  have hnn : nnC G n = gS G o 3 := by unfold nnC; rw [ho9]
  have hnt : ntC G n = gS G o 4 := by unfold ntC; rw [ho9]
  have hng : ngC G n = gS G o 5 := by unfold ngC; rw [ho9]
  have hn0 : ¬ gS G o 1 = 6 → 0 < npt (gS G o 1) := npt_0
  have hn1 : gS G o 1 ≤ 3 → 1 < npt (gS G o 1) := npt_1
  have hn2 : gS G o 1 = 3 → 2 < npt (gS G o 1) := npt_2
  obtain ⟨o0, ho0⟩ : ∃ o0 : Nat, o0 = 65536 + 64 * ptC G n 0 := ⟨_, rfl⟩
  have hq0 : ¬ gS G o 1 = 6 → gS G pa 0 = ((o0 : Nat) : Int) ∧ isNd o0 ∧ ptC G n 0 < n := fun z => by obtain ⟨z1, z2⟩ := hpt 0 (npt_0 (by omega)); exact ⟨by rw [ho0]; exact z1, by omega, z2⟩
  obtain ⟨o1, ho1⟩ : ∃ o1 : Nat, o1 = 65536 + 64 * ptC G n 1 := ⟨_, rfl⟩
  have hq1 : gS G o 1 ≤ 3 → gS G pa 1 = ((o1 : Nat) : Int) ∧ isNd o1 ∧ ptC G n 1 < n := fun z => by obtain ⟨z1, z2⟩ := hpt 1 (npt_1 (by omega)); exact ⟨by rw [ho1]; exact z1, by omega, z2⟩
  have hnk0 : nkC G n = gS G o 1 := hnk
  clear hnk
  have hp0n := (hq0 (by omega)).2.2
  have hp1n := (hq1 (by omega)).2.2
  have hk0 := (hC.nd (n := ptC G n 0) rfl (by omega)).2.1
  have hk1 := (hC.nd (n := ptC G n 1) rfl (by omega)).2.1
  rw [← ho0] at hk0
  rw [← ho1] at hk1
  have rg0 : RM (fun x => x = 262144 + 2 ∨ x = 262144 + 5) (fun x => x = 327683 ∨ x = 327687 ∨ x = 327688 ∨ x = 327691 ∨ (262144 ≤ x ∧ x < 262272) ∨ (f + 1 ≤ x ∧ x ≤ f + 22)) := fun x hx => by (try dsimp only at hx ⊢); omega
  have rg1 : RNt (fun x => x = 262144 + 2 ∨ x = 262144 + 5) := ⟨by refine ⟨?_, ?_, ?_, ?_, ?_, ?_⟩ <;> (show ¬ _; omega), fun n9 h9 => by show ¬ _; omega⟩
  have rg2 : RNx (fun x => x = 262144 + 2 ∨ x = 262144 + 5) ((65536 + 64 * n) % 1048576) := by show ¬ _; omega
  have rg3 : RNx (fun x => x = 262144 + 2 ∨ x = 262144 + 5) ((65536 + 64 * ptC G n 0) % 1048576) := by show ¬ _; omega
  have rg4 : RNx (fun x => x = 262144 + 2 ∨ x = 262144 + 5) ((65536 + 64 * ptC G n 1) % 1048576) := by show ¬ _; omega
  have rg5 : RNx (fun x => x = 262144 + 2 ∨ x = 262144 + 5) (o % 1048576) := by show ¬ _; omega
  have rg6 : RNf (fun x => x = 262144 + 2 ∨ x = 262144 + 5) B := ⟨by show ¬ _; omega, by show ¬ _; omega, fun p hp => by show ¬ _; omega⟩
  have rg7 : RNf (fun x => x = 262144 + 2 ∨ x = 262144 + 5) f := ⟨by show ¬ _; omega, by show ¬ _; omega, fun p hp => by show ¬ _; omega⟩
  have rg8 : RM (fun x => x = 262208 + 2 ∨ x = 262208 + 5) (fun x => x = 327683 ∨ x = 327687 ∨ x = 327688 ∨ x = 327691 ∨ (262144 ≤ x ∧ x < 262272) ∨ (f + 1 ≤ x ∧ x ≤ f + 22)) := fun x hx => by (try dsimp only at hx ⊢); omega
  have rg9 : RNt (fun x => x = 262208 + 2 ∨ x = 262208 + 5) := ⟨by refine ⟨?_, ?_, ?_, ?_, ?_, ?_⟩ <;> (show ¬ _; omega), fun n9 h9 => by show ¬ _; omega⟩
  have rg10 : RNx (fun x => x = 262208 + 2 ∨ x = 262208 + 5) ((65536 + 64 * n) % 1048576) := by show ¬ _; omega
  have rg11 : RNx (fun x => x = 262208 + 2 ∨ x = 262208 + 5) ((65536 + 64 * ptC G n 0) % 1048576) := by show ¬ _; omega
  have rg12 : RNx (fun x => x = 262208 + 2 ∨ x = 262208 + 5) ((65536 + 64 * ptC G n 1) % 1048576) := by show ¬ _; omega
  have rg13 : RNx (fun x => x = 262208 + 2 ∨ x = 262208 + 5) (o % 1048576) := by show ¬ _; omega
  have rg14 : RNf (fun x => x = 262208 + 2 ∨ x = 262208 + 5) B := ⟨by show ¬ _; omega, by show ¬ _; omega, fun p hp => by show ¬ _; omega⟩
  have rg15 : RNf (fun x => x = 262208 + 2 ∨ x = 262208 + 5) f := ⟨by show ¬ _; omega, by show ¬ _; omega, fun p hp => by show ¬ _; omega⟩
  have rg16 : RM (fun x => x = 327691 ∨ (f + 1 ≤ x ∧ x ≤ f + 22)) (fun x => x = 327683 ∨ x = 327687 ∨ x = 327688 ∨ x = 327691 ∨ (262144 ≤ x ∧ x < 262272) ∨ (f + 1 ≤ x ∧ x ≤ f + 22)) := fun x hx => by (try dsimp only at hx ⊢); omega
  have rg17 : RNt (fun x => x = 327691 ∨ (f + 1 ≤ x ∧ x ≤ f + 22)) := ⟨by refine ⟨?_, ?_, ?_, ?_, ?_, ?_⟩ <;> (show ¬ _; omega), fun n9 h9 => by show ¬ _; omega⟩
  have rg18 : RNx (fun x => x = 327691 ∨ (f + 1 ≤ x ∧ x ≤ f + 22)) ((65536 + 64 * n) % 1048576) := by show ¬ _; omega
  have rg19 : RNx (fun x => x = 327691 ∨ (f + 1 ≤ x ∧ x ≤ f + 22)) ((65536 + 64 * ptC G n 0) % 1048576) := by show ¬ _; omega
  have rg20 : RNx (fun x => x = 327691 ∨ (f + 1 ≤ x ∧ x ≤ f + 22)) ((65536 + 64 * ptC G n 1) % 1048576) := by show ¬ _; omega
  have rg21 : RNx (fun x => x = 327691 ∨ (f + 1 ≤ x ∧ x ≤ f + 22)) (o % 1048576) := by show ¬ _; omega
  have rg22 : RNf (fun x => x = 327691 ∨ (f + 1 ≤ x ∧ x ≤ f + 22)) B := ⟨by show ¬ _; omega, by show ¬ _; omega, fun p hp => by show ¬ _; omega⟩
  have rg23 : RNk (fun x => x = 327691 ∨ (f + 1 ≤ x ∧ x ≤ f + 22)) (262208 + 16) 6 := fun k hk => by show ¬ _; omega
  have rg24 : RNx (fun x => x = 327691 ∨ (f + 1 ≤ x ∧ x ≤ f + 22)) ((262208 + 5) % 1048576) := by show ¬ _; omega
  have rg25 : RM (fun x => x = 327683 ∨ x = 327687 ∨ x = 327688) (fun x => x = 327683 ∨ x = 327687 ∨ x = 327688 ∨ x = 327691 ∨ (262144 ≤ x ∧ x < 262272) ∨ (f + 1 ≤ x ∧ x ≤ f + 22)) := fun x hx => by (try dsimp only at hx ⊢); omega
  have rg26 : RNx (fun x => x = 327683 ∨ x = 327687 ∨ x = 327688) ((65536 + 64 * ptC G n 0) % 1048576) := by show ¬ _; omega
  have rg27 : RNx (fun x => x = 327683 ∨ x = 327687 ∨ x = 327688) ((65536 + 64 * ptC G n 1) % 1048576) := by show ¬ _; omega
  have rg28 : RNx (fun x => x = 327683 ∨ x = 327687 ∨ x = 327688) (o % 1048576) := by show ¬ _; omega
  have rg29 : RNf (fun x => x = 327683 ∨ x = 327687 ∨ x = 327688) B := ⟨by show ¬ _; omega, by show ¬ _; omega, fun p hp => by show ¬ _; omega⟩
  have rg30 : RNf (fun x => x = 327683 ∨ x = 327687 ∨ x = 327688) f := ⟨by show ¬ _; omega, by show ¬ _; omega, fun p hp => by show ¬ _; omega⟩
  have rg31 : RNk (fun x => x = 327683 ∨ x = 327687 ∨ x = 327688) (262208 + 16) 6 := fun k hk => by show ¬ _; omega
  have rg32 : RNx (fun x => x = 327683 ∨ x = 327687 ∨ x = 327688) ((262208 + 5) % 1048576) := by show ¬ _; omega
  have hTX : TxC G G := TxC.rf
  have hnk : nkC G n = 1 := by rw [hnk0]; exact hkd
  refine s_aload_n dX2_seal_0 rfl (Int.natCast_nonneg _) ?_
  have hv1 : gS G 327682 2 = ((262144 : Nat) : Int) := by have h9 : (gS G 327682 2) = 262144 := hC.1.v (j := 2) (by decide : cde 327682 = 502) (kne k327682 (by decide)) (by rw [k327682]; exact Nat.le_of_ble_eq_true rfl); omega
  refine s_getf (ci := 3) (k := 2) (C := RX2) (T := TX2) (N := 8) (n := 327682) (L := 0) (t := 2) dX2_seal_1 rfl wi_70 m_577 (Nat.le_of_ble_eq_true rfl) rfl rfl k327682 hv1 ?_
  refine s_callV (as := []) (rest := []) (n := 262144) (ci := 2) gX1_clear dX2_seal_4 m_1309 m_911 m_1487 m_712 m_252 ⟨by decide, by decide, show (parseMethodDescriptor yX1_clear.desc).map (fun d => d.parameters.length) = some 0 from by decide +kernel⟩ (Nat.le_of_ble_eq_true rfl) (by rw [hcf]; exact Nat.le_of_ble_eq_true rfl) k262144 rfl rfl (Nat.le_of_ble_eq_true rfl) ⟨262144, a, b, rfl, hC, hab, (by first | assumption | omega), fun G2 hCG2 hXG2 hfG2 hpG2 => ?_⟩
  have hFG2 : WX (fun x => x = 327683 ∨ x = 327687 ∨ x = 327688 ∨ x = 327691 ∨ (262144 ≤ x ∧ x < 262272) ∨ (f + 1 ≤ x ∧ x ≤ f + 22)) G G2 := WX.trans WX.rf KX.rf (WX.mono hfG2 rg0)
  have hS_G2 : ThC G2 Hs ∧ TxC G G2 := hTH.wx hC hXG2 hfG2 (hfn.kx KX.rf) rg1.1 rg1.2
  have hTHG2 : ThC G2 Hs := hS_G2.1
  have hnG2 : (n : Int) < nN G2 := by rw [hS_G2.2.1.1]; exact hn
  have hTXG2 : TxC G G2 := hTX.trans hS_G2.2
  have hwnG2 : HID (slC G n → WhC G2 v n) := fun z => hS_G2.2.wh hTH.2.2.2.1 hn (hwn z) (by rw [hfG2 (65536 + 64 * n) (KX.al KX.rf (by rw [← ho9]; exact kne hko (by decide))) rg2])
  have hw2G2 : HID (¬ slC G n → WhC G2 v (ptC G n 0) ∧ WhC G2 v (ptC G n 1)) := fun z => ⟨hS_G2.2.wh hTH.2.2.2.1 (by rw [hTX.1.1]; omega) (hw2 z).1 (by rw [hfG2 (65536 + 64 * ptC G n 0) (KX.al KX.rf (by rw [← ho0]; exact kne hk0 (by decide))) rg3]), hS_G2.2.wh hTH.2.2.2.1 (by rw [hTX.1.1]; omega) (hw2 z).2 (by rw [hfG2 (65536 + 64 * ptC G n 1) (KX.al KX.rf (by rw [← ho1]; exact kne hk1 (by decide))) rg4])⟩
  have hkdG2 : gS G2 o 1 = 1 := (congrFun (hfG2 o (KX.al KX.rf (kne hko (by decide))) rg5) 1).trans hkd
  have hnkG2 : nkC G2 n = 1 := (hS_G2.2.1.2 n hn).1.trans hnk
  have hFBG2 : FPa (PnC G2 v n) G2 B := ((hFB).ns hXG2 hfG2 ⟨KX.al KX.rf (kne kB3 (by decide)), KX.al KX.rf (kne kB4 (by decide))⟩ rg6).mono (fun x hx => hS_G2.2.pn hTH.2.2.2.1 hn hx)
  have hFfG2 : FPa (PnC G2 v n) G2 f := ((hFf).ns hXG2 hfG2 ⟨KX.al KX.rf (kne kf3 (by decide)), KX.al KX.rf (kne kf4 (by decide))⟩ rg7).mono (fun x hx => hS_G2.2.pn hTH.2.2.2.1 hn hx)
  show WP kX2_seal X 7 [some (2, ((327682 : Nat) : Int)), some (2, ((o : Nat) : Int)), some (2, ((A : Nat) : Int)), some (2, ((B : Nat) : Int)), some (2, ((f : Nat) : Int)), none, none] [] G2
  refine s_aload_n dX2_seal_7 rfl (Int.natCast_nonneg _) ?_
  have hk4 : gK G2 (327682) = (11, 0) := ((hXG2).k k327682 (by decide))
  refine s_alv (327682) (by simp) (fun (al5 : AL G2 327682) => ?_)
  have hv6 : gS G2 327682 3 = ((262208 : Nat) : Int) := by have h9 : (gS G2 327682 3) = 262208 := hCG2.1.v (j := 3) (by decide : cde 327682 = 502) al5 (by rw [hk4]; exact Nat.le_of_ble_eq_true rfl); omega
  refine s_getf (ci := 3) (k := 3) (C := RX2) (T := TX2) (N := 8) (n := 327682) (L := 0) (t := 2) dX2_seal_8 rfl wi_70 m_580 (Nat.le_of_ble_eq_true rfl) rfl rfl hk4 hv6 ?_
  have hk9 : gK G2 (262208) = (10, 0) := ((hXG2).k k262208 (by decide))
  refine s_callV (as := []) (rest := []) (n := 262208) (ci := 2) gX1_clear dX2_seal_11 m_1309 m_911 m_1487 m_712 m_252 ⟨by decide, by decide, show (parseMethodDescriptor yX1_clear.desc).map (fun d => d.parameters.length) = some 0 from by decide +kernel⟩ (Nat.le_of_ble_eq_true rfl) (by rw [hcf]; exact Nat.le_of_ble_eq_true rfl) hk9 rfl rfl (Nat.le_of_ble_eq_true rfl) ⟨262208, a, b, rfl, hCG2, hab, (by first | assumption | omega), fun G7 hCG7 hXG7 hfG7 hpG7 => ?_⟩
  have hFG7 : WX (fun x => x = 327683 ∨ x = 327687 ∨ x = 327688 ∨ x = 327691 ∨ (262144 ≤ x ∧ x < 262272) ∨ (f + 1 ≤ x ∧ x ≤ f + 22)) G G7 := WX.trans hFG2 hXG2 (WX.mono hfG7 rg8)
  have hS_G7 : ThC G7 Hs ∧ TxC G2 G7 := hTHG2.wx hCG2 hXG7 hfG7 (hfn.kx hXG2) rg9.1 rg9.2
  have hTHG7 : ThC G7 Hs := hS_G7.1
  have hnG7 : (n : Int) < nN G7 := by rw [hS_G7.2.1.1]; exact hnG2
  have hTXG7 : TxC G G7 := hTXG2.trans hS_G7.2
  have hwnG7 : HID (slC G n → WhC G7 v n) := fun z => hS_G7.2.wh hTHG2.2.2.2.1 hnG2 (hwnG2 z) (by rw [hfG7 (65536 + 64 * n) (KX.al hXG2 (by rw [← ho9]; exact kne hko (by decide))) rg10])
  have hw2G7 : HID (¬ slC G n → WhC G7 v (ptC G n 0) ∧ WhC G7 v (ptC G n 1)) := fun z => ⟨hS_G7.2.wh hTHG2.2.2.2.1 (by rw [hTXG2.1.1]; omega) (hw2G2 z).1 (by rw [hfG7 (65536 + 64 * ptC G n 0) (KX.al hXG2 (by rw [← ho0]; exact kne hk0 (by decide))) rg11]), hS_G7.2.wh hTHG2.2.2.2.1 (by rw [hTXG2.1.1]; omega) (hw2G2 z).2 (by rw [hfG7 (65536 + 64 * ptC G n 1) (KX.al hXG2 (by rw [← ho1]; exact kne hk1 (by decide))) rg12])⟩
  have hkdG7 : gS G7 o 1 = 1 := (congrFun (hfG7 o (KX.al hXG2 (kne hko (by decide))) rg13) 1).trans hkdG2
  have hnkG7 : nkC G7 n = 1 := (hS_G7.2.1.2 n hnG2).1.trans hnkG2
  have hFBG7 : FPa (PnC G7 v n) G7 B := ((hFBG2).ns hXG7 hfG7 ⟨KX.al hXG2 (kne kB3 (by decide)), KX.al hXG2 (kne kB4 (by decide))⟩ rg14).mono (fun x hx => hS_G7.2.pn hTHG2.2.2.2.1 hnG2 hx)
  have hFfG7 : FPa (PnC G7 v n) G7 f := ((hFfG2).ns hXG7 hfG7 ⟨KX.al hXG2 (kne kf3 (by decide)), KX.al hXG2 (kne kf4 (by decide))⟩ rg15).mono (fun x hx => hS_G7.2.pn hTHG2.2.2.2.1 hnG2 hx)
  have hFJG7 : ∀ k : Nat, k < 6 → FIP (PnC G7 v n) G7 262208 k := fun k hk => FIP.zero (hpG7 k hk).2
  show WP kX2_seal X 14 [some (2, ((327682 : Nat) : Int)), some (2, ((o : Nat) : Int)), some (2, ((A : Nat) : Int)), some (2, ((B : Nat) : Int)), some (2, ((f : Nat) : Int)), none, none] [] G7
  refine s_iconst dX2_seal_14 (by decide) ?_
  refine s_istore dX2_seal_15 (by decide) (lv' := [some (2, ((327682 : Nat) : Int)), some (2, ((o : Nat) : Int)), some (2, ((A : Nat) : Int)), some (2, ((B : Nat) : Int)), some (2, ((f : Nat) : Int)), some (0, 0), none]) rfl ?_
  have L10 : ∀ (fu10 : Nat) (n10 : Int) (G10 : LG), CI a b G10 → KX G7 G10 → WX (fun x => x = 327683 ∨ x = 327687 ∨ x = 327688 ∨ x = 327691 ∨ (262144 ≤ x ∧ x < 262272) ∨ (f + 1 ≤ x ∧ x ≤ f + 22)) G G10 → ((0 ≤ n10 ∧ n10 ≤ 6) ∧ (∀ k : Nat, (k : Int) < n10 → (gS G (B + 1) k = 1 ∧ gS G (A + 1) k = 2) → gS G10 262213 k = 1) ∧ (ThC G10 Hs) ∧ ((n : Int) < nN G10) ∧ (TxC G G10) ∧ (HID (slC G n → WhC G10 v n)) ∧ (HID (¬ slC G n → WhC G10 v (ptC G n 0) ∧ WhC G10 v (ptC G n 1))) ∧ (gS G10 o 1 = 1) ∧ (nkC G10 n = 1) ∧ (FPa (PnC G10 v n) G10 B) ∧ (FPa (PnC G10 v n) G10 f) ∧ (∀ k : Nat, k < 6 → FIP (PnC G10 v n) G10 262208 k)) → (6 - n10).toNat < fu10 → WP kX2_seal X 17 [some (2, ((327682 : Nat) : Int)), some (2, ((o : Nat) : Int)), some (2, ((A : Nat) : Int)), some (2, ((B : Nat) : Int)), some (2, ((f : Nat) : Int)), some (0, n10), none] [] G10 := by
    intro fu10
    induction fu10 with
    | zero => intro n10 G10 hCG10 hXG10 hFG10 hi10 hm10; exact absurd hm10 (Nat.not_lt_zero _)
    | succ fu10 ih10 =>
      intro n10 G10 hCG10 hXG10 hFG10 hi10 hm10
      obtain ⟨in_10, iz10, hTHG10, hnG10, hTXG10, hwnG10, hw2G10, hkdG10, hnkG10, hFBG10, hFfG10, hFJG10⟩ := hi10
      have hbt10 : gS G10 (B + 1) = gS G (B + 1) := hFG10 (B + 1) (kne kB1 (by decide)) (by show ¬ _; omega)
      have hat10 : gS G10 (A + 1) = gS G (A + 1) := hFG10 (A + 1) (kne kA1 (by decide)) (by show ¬ _; omega)
      refine s_iload dX2_seal_17 rfl ?_
      refine s_bipush dX2_seal_19 rfl (by decide) ?_
      refine s_icmp_ge (tgt := 91) dX2_seal_21 (by decide) (fun c11 => ?_) (fun c11 => ?_)
      · -- 21 to 91
        refine s_iconst dX2_seal_91 (by decide) ?_
        refine s_istore dX2_seal_92 (by decide) (lv' := [some (2, ((327682 : Nat) : Int)), some (2, ((o : Nat) : Int)), some (2, ((A : Nat) : Int)), some (2, ((B : Nat) : Int)), some (2, ((f : Nat) : Int)), some (0, 0), none]) rfl ?_
        refine s_iconst dX2_seal_94 (by decide) ?_
        refine s_istore dX2_seal_95 (by decide) (lv' := [some (2, ((327682 : Nat) : Int)), some (2, ((o : Nat) : Int)), some (2, ((A : Nat) : Int)), some (2, ((B : Nat) : Int)), some (2, ((f : Nat) : Int)), some (0, 0), some (0, 0)]) rfl ?_
        have L12 : ∀ (n12 : Nat) (m12 : Int) (e12 : Int) (G12 : LG), CI a b G12 → KX G10 G12 → WX (fun x => x = 327683 ∨ x = 327687 ∨ x = 327688 ∨ x = 327691 ∨ (262144 ≤ x ∧ x < 262272) ∨ (f + 1 ≤ x ∧ x ≤ f + 22)) G G12 → ((0 ≤ e12 ∧ e12 ≤ 6) ∧ (∀ k : Nat, k < 6 → (gS G (B + 1) k = 1 ∧ gS G (A + 1) k = 2) → gS G12 262213 k = 1) ∧ (ThC G12 Hs) ∧ ((n : Int) < nN G12) ∧ (TxC G G12) ∧ (HID (slC G n → WhC G12 v n)) ∧ (HID (¬ slC G n → WhC G12 v (ptC G n 0) ∧ WhC G12 v (ptC G n 1))) ∧ (gS G12 o 1 = 1) ∧ (nkC G12 n = 1) ∧ (FPa (PnC G12 v n) G12 B) ∧ (FPa (PnC G12 v n) G12 f) ∧ (∀ k : Nat, k < 6 → FIP (PnC G12 v n) G12 262208 k)) → (6 - e12).toNat < n12 → WP kX2_seal X 97 [some (2, ((327682 : Nat) : Int)), some (2, ((o : Nat) : Int)), some (2, ((A : Nat) : Int)), some (2, ((B : Nat) : Int)), some (2, ((f : Nat) : Int)), some (0, m12), some (0, e12)] [] G12 := by
          intro n12
          induction n12 with
          | zero => intro m12 e12 G12 hCG12 hXG12 hFG12 hi12 hm12; exact absurd hm12 (Nat.not_lt_zero _)
          | succ n12 ih12 =>
            intro m12 e12 G12 hCG12 hXG12 hFG12 hi12 hm12
            obtain ⟨ie12, iz12, hTHG12, hnG12, hTXG12, hwnG12, hw2G12, hkdG12, hnkG12, hFBG12, hFfG12, hFJG12⟩ := hi12
            refine s_iload dX2_seal_97 rfl ?_
            have K13 : (True) → WP kX2_seal X 136 [some (2, ((327682 : Nat) : Int)), some (2, ((o : Nat) : Int)), some (2, ((A : Nat) : Int)), some (2, ((B : Nat) : Int)), some (2, ((f : Nat) : Int)), some (0, m12), some (0, e12)] [] G12 := by
              intro hi13
              refine s_iconst dX2_seal_136 (by decide) ?_
              refine s_istore dX2_seal_137 (by decide) (lv' := [some (2, ((327682 : Nat) : Int)), some (2, ((o : Nat) : Int)), some (2, ((A : Nat) : Int)), some (2, ((B : Nat) : Int)), some (2, ((f : Nat) : Int)), some (0, m12), some (0, 0)]) rfl ?_
              have L14 : ∀ (n14 : Nat) (m14 : Int) (e14 : Int) (G14 : LG), CI a b G14 → KX G12 G14 → WX (fun x => x = 327683 ∨ x = 327687 ∨ x = 327688 ∨ x = 327691 ∨ (262144 ≤ x ∧ x < 262272) ∨ (f + 1 ≤ x ∧ x ≤ f + 22)) G G14 → ((0 ≤ e14 ∧ e14 ≤ 10) ∧ (ThC G14 Hs) ∧ ((n : Int) < nN G14) ∧ (TxC G G14) ∧ (HID (slC G n → WhC G14 v n)) ∧ (HID (¬ slC G n → WhC G14 v (ptC G n 0) ∧ WhC G14 v (ptC G n 1))) ∧ (gS G14 o 1 = 1) ∧ (nkC G14 n = 1) ∧ (FPa (PnC G14 v n) G14 B) ∧ (FPa (PnC G14 v n) G14 f) ∧ (∀ k : Nat, k < 6 → FIP (PnC G14 v n) G14 262208 k)) → (10 - e14).toNat < n14 → WP kX2_seal X 139 [some (2, ((327682 : Nat) : Int)), some (2, ((o : Nat) : Int)), some (2, ((A : Nat) : Int)), some (2, ((B : Nat) : Int)), some (2, ((f : Nat) : Int)), some (0, m14), some (0, e14)] [] G14 := by
                intro n14
                induction n14 with
                | zero => intro m14 e14 G14 hCG14 hXG14 hFG14 hi14 hm14; exact absurd hm14 (Nat.not_lt_zero _)
                | succ n14 ih14 =>
                  intro m14 e14 G14 hCG14 hXG14 hFG14 hi14 hm14
                  obtain ⟨ie14, hTHG14, hnG14, hTXG14, hwnG14, hw2G14, hkdG14, hnkG14, hFBG14, hFfG14, hFJG14⟩ := hi14
                  refine s_iload dX2_seal_139 rfl ?_
                  refine s_bipush dX2_seal_141 rfl (by decide) ?_
                  refine s_icmp_ge (tgt := 178) dX2_seal_143 (by decide) (fun c15 => ?_) (fun c15 => ?_)
                  · -- 143 to 178
                    refine s_iload dX2_seal_178 rfl ?_
                    exact s_iret hR dX2_seal_180 rfl (hQ m14 G14 hCG14 (KX.trans (KX.trans (KX.trans (KX.trans hXG2 hXG7) hXG10) hXG12) hXG14) hFG14 ⟨hTHG14, hTXG14, hFfG14⟩)
                  · -- 143 to 146
                    refine s_iload dX2_seal_146 rfl ?_
                    refine s_if_ne (tgt := 178) dX2_seal_148 (by decide) (fun c16 => ?_) (fun c16 => ?_)
                    · -- 148 to 178
                      refine s_iload dX2_seal_178 rfl ?_
                      exact s_iret hR dX2_seal_180 rfl (hQ m14 G14 hCG14 (KX.trans (KX.trans (KX.trans (KX.trans hXG2 hXG7) hXG10) hXG12) hXG14) hFG14 ⟨hTHG14, hTXG14, hFfG14⟩)
                    · -- 148 to 151
                      refine s_aload_n dX2_seal_151 rfl (Int.natCast_nonneg _) ?_
                      refine s_iload dX2_seal_152 rfl ?_
                      have hk19 : gK G14 (B) = (9, 0) := ((hXG14).k ((hXG12).k ((hXG10).k ((hXG7).k ((hXG2).k kB0 (by decide)) (by decide)) (by decide)) (by decide)) (by decide))
                      refine s_callV (as := [(0, e14)]) (rest := []) (n := B) (ci := 1) gX0_hasValue dX2_seal_154 m_1313 m_739 m_1473 m_711 m_66 ⟨by decide, by decide, show (parseMethodDescriptor yX0_hasValue.desc).map (fun d => d.parameters.length) = some 1 from by decide +kernel⟩ (Nat.le_of_ble_eq_true rfl) (by rw [hcf]; exact Nat.le_of_ble_eq_true rfl) hk19 rfl rfl (Nat.le_of_ble_eq_true rfl) ⟨B, e14, a, b, rfl, hCG14, hab, (by first | assumption | omega), (by first | assumption | omega), fun rr17 hp18 => ?_⟩
                      show WP kX2_seal X 157 [some (2, ((327682 : Nat) : Int)), some (2, ((o : Nat) : Int)), some (2, ((A : Nat) : Int)), some (2, ((B : Nat) : Int)), some (2, ((f : Nat) : Int)), some (0, m14), some (0, e14)] [(0, rr17)] G14
                      refine s_if_eq (tgt := 172) dX2_seal_157 (by decide) (fun c20 => ?_) (fun c20 => ?_)
                      · -- 157 to 172
                        refine s_iinc dX2_seal_172 (v := e14) rfl (by omega) (by decide) (lv' := [some (2, ((327682 : Nat) : Int)), some (2, ((o : Nat) : Int)), some (2, ((A : Nat) : Int)), some (2, ((B : Nat) : Int)), some (2, ((f : Nat) : Int)), some (0, m14), some (0, e14 + 1)]) rfl ?_
                        refine s_goto (tgt := 139) dX2_seal_175 (by decide) ?_
                        exact ih14 m14 (e14 + 1) G14 hCG14 hXG14 hFG14 (⟨(by omega), (by exact hTHG14), (by exact hnG14), (by exact hTXG14), (by exact hwnG14), (by exact hw2G14), (by exact hkdG14), (by exact hnkG14), (by exact hFBG14), (by exact hFfG14), (by exact hFJG14)⟩) (by omega)
                      · -- 157 to 160
                        refine s_aload_n dX2_seal_160 rfl (Int.natCast_nonneg _) ?_
                        refine s_iload dX2_seal_161 rfl ?_
                        refine s_aload_n dX2_seal_163 rfl (Int.natCast_nonneg _) ?_
                        refine s_aload_n dX2_seal_164 rfl (Int.natCast_nonneg _) ?_
                        refine s_aload dX2_seal_165 rfl (Int.natCast_nonneg _) ?_
                        have hk23 : gK G14 (327682) = (11, 0) := ((hXG14).k ((hXG12).k ((hXG10).k ((hXG7).k hk4 (by decide)) (by decide)) (by decide)) (by decide))
                        refine s_callV (as := [(0, e14), (2, ((A : Nat) : Int)), (2, ((B : Nat) : Int)), (2, ((f : Nat) : Int))]) (rest := []) (n := 327682) (ci := 3) gX2_sealValue dX2_seal_167 m_1328 m_936 m_1664 m_716 m_284 ⟨by decide, by decide, show (parseMethodDescriptor yX2_sealValue.desc).map (fun d => d.parameters.length) = some 4 from by decide +kernel⟩ (Nat.le_of_ble_eq_true rfl) (by rw [hcf]; exact Nat.le_of_ble_eq_true rfl) hk23 rfl rfl (Nat.le_of_ble_eq_true rfl) ⟨(PnC G14 v n), e14, A, B, f, a, b, rfl, hCG14, hab, (by omega), (by assumption), (by assumption), (by assumption), (by omega), (by exact hFJG14), (by exact hFBG14), (by exact hFfG14), fun rr22 G21 hCG21 hXG21 hfG21 hpG21 => ?_⟩
                        have hFG21 : WX (fun x => x = 327683 ∨ x = 327687 ∨ x = 327688 ∨ x = 327691 ∨ (262144 ≤ x ∧ x < 262272) ∨ (f + 1 ≤ x ∧ x ≤ f + 22)) G G21 := WX.trans hFG14 (KX.trans (KX.trans (KX.trans (KX.trans hXG2 hXG7) hXG10) hXG12) hXG14) (WX.mono hfG21 rg16)
                        have hS_G21 : ThC G21 Hs ∧ TxC G14 G21 := hTHG14.wx hCG14 hXG21 hfG21 (hfn.kx (KX.trans (KX.trans (KX.trans (KX.trans hXG2 hXG7) hXG10) hXG12) hXG14)) rg17.1 rg17.2
                        have hTHG21 : ThC G21 Hs := hS_G21.1
                        have hnG21 : (n : Int) < nN G21 := by rw [hS_G21.2.1.1]; exact hnG14
                        have hTXG21 : TxC G G21 := hTXG14.trans hS_G21.2
                        have hwnG21 : HID (slC G n → WhC G21 v n) := fun z => hS_G21.2.wh hTHG14.2.2.2.1 hnG14 (hwnG14 z) (by rw [hfG21 (65536 + 64 * n) (KX.al (KX.trans (KX.trans (KX.trans (KX.trans hXG2 hXG7) hXG10) hXG12) hXG14) (by rw [← ho9]; exact kne hko (by decide))) rg18])
                        have hw2G21 : HID (¬ slC G n → WhC G21 v (ptC G n 0) ∧ WhC G21 v (ptC G n 1)) := fun z => ⟨hS_G21.2.wh hTHG14.2.2.2.1 (by rw [hTXG14.1.1]; omega) (hw2G14 z).1 (by rw [hfG21 (65536 + 64 * ptC G n 0) (KX.al (KX.trans (KX.trans (KX.trans (KX.trans hXG2 hXG7) hXG10) hXG12) hXG14) (by rw [← ho0]; exact kne hk0 (by decide))) rg19]), hS_G21.2.wh hTHG14.2.2.2.1 (by rw [hTXG14.1.1]; omega) (hw2G14 z).2 (by rw [hfG21 (65536 + 64 * ptC G n 1) (KX.al (KX.trans (KX.trans (KX.trans (KX.trans hXG2 hXG7) hXG10) hXG12) hXG14) (by rw [← ho1]; exact kne hk1 (by decide))) rg20])⟩
                        have hkdG21 : gS G21 o 1 = 1 := (congrFun (hfG21 o (KX.al (KX.trans (KX.trans (KX.trans (KX.trans hXG2 hXG7) hXG10) hXG12) hXG14) (kne hko (by decide))) rg21) 1).trans hkdG14
                        have hnkG21 : nkC G21 n = 1 := (hS_G21.2.1.2 n hnG14).1.trans hnkG14
                        have hFBG21 : FPa (PnC G21 v n) G21 B := ((hFBG14).ns hXG21 hfG21 ⟨KX.al (KX.trans (KX.trans (KX.trans (KX.trans hXG2 hXG7) hXG10) hXG12) hXG14) (kne kB3 (by decide)), KX.al (KX.trans (KX.trans (KX.trans (KX.trans hXG2 hXG7) hXG10) hXG12) hXG14) (kne kB4 (by decide))⟩ rg22).mono (fun x hx => hS_G21.2.pn hTHG14.2.2.2.1 hnG14 hx)
                        have hFfG21 : FPa (PnC G21 v n) G21 f := (hpG21).mono (fun x hx => hS_G21.2.pn hTHG14.2.2.2.1 hnG14 hx)
                        have hFJG21 : ∀ k : Nat, k < 6 → FIP (PnC G21 v n) G21 262208 k := fun k hk => by have h9 := FIP.ns (hFJG14 k hk) hXG21 hfG21 hk (KX.al (KX.trans (KX.trans (KX.trans (KX.trans hXG2 hXG7) hXG10) hXG12) hXG14) (kne k262213 (by decide))) rg23 rg24; exact fun z => (h9 z).mono (fun x hx => hS_G21.2.pn hTHG14.2.2.2.1 hnG14 hx)
                        show WP kX2_seal X 170 [some (2, ((327682 : Nat) : Int)), some (2, ((o : Nat) : Int)), some (2, ((A : Nat) : Int)), some (2, ((B : Nat) : Int)), some (2, ((f : Nat) : Int)), some (0, m14), some (0, e14)] [(0, rr22)] G21
                        refine s_istore dX2_seal_170 (by decide) (lv' := [some (2, ((327682 : Nat) : Int)), some (2, ((o : Nat) : Int)), some (2, ((A : Nat) : Int)), some (2, ((B : Nat) : Int)), some (2, ((f : Nat) : Int)), some (0, rr22), some (0, e14)]) rfl ?_
                        refine s_iinc dX2_seal_172 (v := e14) rfl (by omega) (by decide) (lv' := [some (2, ((327682 : Nat) : Int)), some (2, ((o : Nat) : Int)), some (2, ((A : Nat) : Int)), some (2, ((B : Nat) : Int)), some (2, ((f : Nat) : Int)), some (0, rr22), some (0, e14 + 1)]) rfl ?_
                        refine s_goto (tgt := 139) dX2_seal_175 (by decide) ?_
                        exact ih14 rr22 (e14 + 1) G21 hCG21 (KX.trans hXG14 hXG21) hFG21 (⟨(by omega), (by exact hTHG21), (by exact hnG21), (by exact hTXG21), (by exact hwnG21), (by exact hw2G21), (by exact hkdG21), (by exact hnkG21), (by exact hFBG21), (by exact hFfG21), (by exact hFJG21)⟩) (by omega)
              exact L14 _ m12 0 G12 hCG12 KX.rf hFG12 (⟨(by omega), (by exact hTHG12), (by exact hnG12), (by exact hTXG12), (by exact hwnG12), (by exact hw2G12), (by exact hkdG12), (by exact hnkG12), (by exact hFBG12), (by exact hFfG12), (by exact hFJG12)⟩) (Nat.lt_succ_self _)
            refine s_bipush dX2_seal_99 rfl (by decide) ?_
            refine s_icmp_ge (tgt := 136) dX2_seal_101 (by decide) (fun c24 => ?_) (fun c24 => ?_)
            · -- 101 to 136
              exact K13  (trivial)
            · -- 101 to 104
              refine s_iload dX2_seal_104 rfl ?_
              refine s_if_ne (tgt := 136) dX2_seal_106 (by decide) (fun c25 => ?_) (fun c25 => ?_)
              · -- 106 to 136
                exact K13  (trivial)
              · -- 106 to 109
                refine s_aload_n dX2_seal_109 rfl (Int.natCast_nonneg _) ?_
                refine s_iload dX2_seal_110 rfl ?_
                have hk28 : gK G12 (B) = (9, 0) := ((hXG12).k ((hXG10).k ((hXG7).k ((hXG2).k kB0 (by decide)) (by decide)) (by decide)) (by decide))
                refine s_callV (as := [(0, e12)]) (rest := []) (n := B) (ci := 1) gX0_hasType dX2_seal_112 m_1317 m_738 m_1472 m_711 m_65 ⟨by decide, by decide, show (parseMethodDescriptor yX0_hasType.desc).map (fun d => d.parameters.length) = some 1 from by decide +kernel⟩ (Nat.le_of_ble_eq_true rfl) (by rw [hcf]; exact Nat.le_of_ble_eq_true rfl) hk28 rfl rfl (Nat.le_of_ble_eq_true rfl) ⟨B, e12, a, b, rfl, hCG12, hab, (by first | assumption | omega), (by first | assumption | omega), fun rr26 hp27 => ?_⟩
                show WP kX2_seal X 115 [some (2, ((327682 : Nat) : Int)), some (2, ((o : Nat) : Int)), some (2, ((A : Nat) : Int)), some (2, ((B : Nat) : Int)), some (2, ((f : Nat) : Int)), some (0, m12), some (0, e12)] [(0, rr26)] G12
                refine s_if_eq (tgt := 130) dX2_seal_115 (by decide) (fun c29 => ?_) (fun c29 => ?_)
                · -- 115 to 130
                  refine s_iinc dX2_seal_130 (v := e12) rfl (by omega) (by decide) (lv' := [some (2, ((327682 : Nat) : Int)), some (2, ((o : Nat) : Int)), some (2, ((A : Nat) : Int)), some (2, ((B : Nat) : Int)), some (2, ((f : Nat) : Int)), some (0, m12), some (0, e12 + 1)]) rfl ?_
                  refine s_goto (tgt := 97) dX2_seal_133 (by decide) ?_
                  exact ih12 m12 (e12 + 1) G12 hCG12 hXG12 hFG12 (⟨(by omega), (by exact iz12), (by exact hTHG12), (by exact hnG12), (by exact hTXG12), (by exact hwnG12), (by exact hw2G12), (by exact hkdG12), (by exact hnkG12), (by exact hFBG12), (by exact hFfG12), (by exact hFJG12)⟩) (by omega)
                · -- 115 to 118
                  refine s_aload_n dX2_seal_118 rfl (Int.natCast_nonneg _) ?_
                  refine s_iload dX2_seal_119 rfl ?_
                  refine s_aload_n dX2_seal_121 rfl (Int.natCast_nonneg _) ?_
                  refine s_aload_n dX2_seal_122 rfl (Int.natCast_nonneg _) ?_
                  refine s_aload dX2_seal_123 rfl (Int.natCast_nonneg _) ?_
                  have hk32 : gK G12 (327682) = (11, 0) := ((hXG12).k ((hXG10).k ((hXG7).k hk4 (by decide)) (by decide)) (by decide))
                  refine s_callV (as := [(0, e12), (2, ((A : Nat) : Int)), (2, ((B : Nat) : Int)), (2, ((f : Nat) : Int))]) (rest := []) (n := 327682) (ci := 3) gX2_sealType dX2_seal_125 m_1327 m_935 m_1663 m_716 m_283 ⟨by decide, by decide, show (parseMethodDescriptor yX2_sealType.desc).map (fun d => d.parameters.length) = some 4 from by decide +kernel⟩ (Nat.le_of_ble_eq_true rfl) (by rw [hcf]; exact Nat.le_of_ble_eq_true rfl) hk32 rfl rfl (Nat.le_of_ble_eq_true rfl) ⟨(PnC G12 v n), e12, A, B, f, a, b, rfl, hCG12, hab, (by omega), (by assumption), (by assumption), (by assumption), (by omega), (by exact hFJG12), (by exact hFBG12), (by exact hFfG12), (by intro hz; have hz1 : gS G12 (B + 1) = gS G (B + 1) := hFG12 (B + 1) (kne kB1 (by decide)) (by show ¬ _; omega); have hz2 : gS G12 (A + 1) = gS G (A + 1) := hFG12 (A + 1) (kne kA1 (by decide)) (by show ¬ _; omega); rw [hz1, hz2] at hz; have hz3 := iz12 (e12 : Int).toNat (by omega) hz; exact ((hFJG12 (e12 : Int).toNat (by omega)) (by rw [hz3]; decide) 0 (by rw [hz3]; decide)).2), fun rr31 G30 hCG30 hXG30 hfG30 hpG30 => ?_⟩
                  have hFG30 : WX (fun x => x = 327683 ∨ x = 327687 ∨ x = 327688 ∨ x = 327691 ∨ (262144 ≤ x ∧ x < 262272) ∨ (f + 1 ≤ x ∧ x ≤ f + 22)) G G30 := WX.trans hFG12 (KX.trans (KX.trans (KX.trans hXG2 hXG7) hXG10) hXG12) (WX.mono hfG30 rg16)
                  have hS_G30 : ThC G30 Hs ∧ TxC G12 G30 := hTHG12.wx hCG12 hXG30 hfG30 (hfn.kx (KX.trans (KX.trans (KX.trans hXG2 hXG7) hXG10) hXG12)) rg17.1 rg17.2
                  have hTHG30 : ThC G30 Hs := hS_G30.1
                  have hnG30 : (n : Int) < nN G30 := by rw [hS_G30.2.1.1]; exact hnG12
                  have hTXG30 : TxC G G30 := hTXG12.trans hS_G30.2
                  have hwnG30 : HID (slC G n → WhC G30 v n) := fun z => hS_G30.2.wh hTHG12.2.2.2.1 hnG12 (hwnG12 z) (by rw [hfG30 (65536 + 64 * n) (KX.al (KX.trans (KX.trans (KX.trans hXG2 hXG7) hXG10) hXG12) (by rw [← ho9]; exact kne hko (by decide))) rg18])
                  have hw2G30 : HID (¬ slC G n → WhC G30 v (ptC G n 0) ∧ WhC G30 v (ptC G n 1)) := fun z => ⟨hS_G30.2.wh hTHG12.2.2.2.1 (by rw [hTXG12.1.1]; omega) (hw2G12 z).1 (by rw [hfG30 (65536 + 64 * ptC G n 0) (KX.al (KX.trans (KX.trans (KX.trans hXG2 hXG7) hXG10) hXG12) (by rw [← ho0]; exact kne hk0 (by decide))) rg19]), hS_G30.2.wh hTHG12.2.2.2.1 (by rw [hTXG12.1.1]; omega) (hw2G12 z).2 (by rw [hfG30 (65536 + 64 * ptC G n 1) (KX.al (KX.trans (KX.trans (KX.trans hXG2 hXG7) hXG10) hXG12) (by rw [← ho1]; exact kne hk1 (by decide))) rg20])⟩
                  have hkdG30 : gS G30 o 1 = 1 := (congrFun (hfG30 o (KX.al (KX.trans (KX.trans (KX.trans hXG2 hXG7) hXG10) hXG12) (kne hko (by decide))) rg21) 1).trans hkdG12
                  have hnkG30 : nkC G30 n = 1 := (hS_G30.2.1.2 n hnG12).1.trans hnkG12
                  have hFBG30 : FPa (PnC G30 v n) G30 B := ((hFBG12).ns hXG30 hfG30 ⟨KX.al (KX.trans (KX.trans (KX.trans hXG2 hXG7) hXG10) hXG12) (kne kB3 (by decide)), KX.al (KX.trans (KX.trans (KX.trans hXG2 hXG7) hXG10) hXG12) (kne kB4 (by decide))⟩ rg22).mono (fun x hx => hS_G30.2.pn hTHG12.2.2.2.1 hnG12 hx)
                  have hFfG30 : FPa (PnC G30 v n) G30 f := (hpG30).mono (fun x hx => hS_G30.2.pn hTHG12.2.2.2.1 hnG12 hx)
                  have hFJG30 : ∀ k : Nat, k < 6 → FIP (PnC G30 v n) G30 262208 k := fun k hk => by have h9 := FIP.ns (hFJG12 k hk) hXG30 hfG30 hk (KX.al (KX.trans (KX.trans (KX.trans hXG2 hXG7) hXG10) hXG12) (kne k262213 (by decide))) rg23 rg24; exact fun z => (h9 z).mono (fun x hx => hS_G30.2.pn hTHG12.2.2.2.1 hnG12 hx)
                  show WP kX2_seal X 128 [some (2, ((327682 : Nat) : Int)), some (2, ((o : Nat) : Int)), some (2, ((A : Nat) : Int)), some (2, ((B : Nat) : Int)), some (2, ((f : Nat) : Int)), some (0, m12), some (0, e12)] [(0, rr31)] G30
                  refine s_istore dX2_seal_128 (by decide) (lv' := [some (2, ((327682 : Nat) : Int)), some (2, ((o : Nat) : Int)), some (2, ((A : Nat) : Int)), some (2, ((B : Nat) : Int)), some (2, ((f : Nat) : Int)), some (0, rr31), some (0, e12)]) rfl ?_
                  refine s_iinc dX2_seal_130 (v := e12) rfl (by omega) (by decide) (lv' := [some (2, ((327682 : Nat) : Int)), some (2, ((o : Nat) : Int)), some (2, ((A : Nat) : Int)), some (2, ((B : Nat) : Int)), some (2, ((f : Nat) : Int)), some (0, rr31), some (0, e12 + 1)]) rfl ?_
                  refine s_goto (tgt := 97) dX2_seal_133 (by decide) ?_
                  exact ih12 rr31 (e12 + 1) G30 hCG30 (KX.trans hXG12 hXG30) hFG30 (⟨(by omega), (by intro k hk hz; rw [hfG30 262213 (KX.al (KX.trans (KX.trans (KX.trans hXG2 hXG7) hXG10) hXG12) (kne k262213 (by decide))) (by show ¬ _; omega)]; exact iz12 k hk hz), (by exact hTHG30), (by exact hnG30), (by exact hTXG30), (by exact hwnG30), (by exact hw2G30), (by exact hkdG30), (by exact hnkG30), (by exact hFBG30), (by exact hFfG30), (by exact hFJG30)⟩) (by omega)
        exact L12 _ 0 0 G10 hCG10 KX.rf hFG10 (⟨(by omega), (by exact fun k hk => iz10 k (by omega)), (by exact hTHG10), (by exact hnG10), (by exact hTXG10), (by exact hwnG10), (by exact hw2G10), (by exact hkdG10), (by exact hnkG10), (by exact hFBG10), (by exact hFfG10), (by exact hFJG10)⟩) (Nat.lt_succ_self _)
      · -- 21 to 24
        refine s_aload_n dX2_seal_24 rfl (Int.natCast_nonneg _) ?_
        have hk33 : gK G10 (B) = (9, 0) := ((hXG10).k ((hXG7).k ((hXG2).k kB0 (by decide)) (by decide)) (by decide))
        refine s_alv (B) (by simp) (fun (al34 : AL G10 B) => ?_)
        have hv35 : gS G10 B 1 = ((B + 1 : Nat) : Int) := by have h9 : (gS G10 B 1) = (((B % 1048576) + 1 : Nat) : Int) := hCG10.1.v (j := 1) (by rw [cde_n (by omega) (by omega)]; omega : cde B = 101) al34 (by rw [hk33]; exact Nat.le_of_ble_eq_true rfl); omega
        refine s_getf (ci := 1) (k := 1) (C := RX0) (T := TX0) (N := 7) (n := B) (L := 0) (t := 2) dX2_seal_25 rfl wi_65 m_573 (Nat.le_of_ble_eq_true rfl) rfl rfl hk33 hv35 ?_
        refine s_iload dX2_seal_28 rfl ?_
        have hk36 : gK G10 (B + 1) = (1, 6) := ((hXG10).k ((hXG7).k ((hXG2).k kB1 (by decide)) (by decide)) (by decide))
        refine s_iald dX2_seal_30 hk36 (by omega) (by omega) rfl ?_
        refine s_iconst dX2_seal_31 (by decide) ?_
        refine s_icmp_ne (tgt := 85) dX2_seal_32 (by decide) (fun c37 => ?_) (fun c37 => ?_)
        · -- 32 to 85
          refine s_iinc dX2_seal_85 (v := n10) rfl (by omega) (by decide) (lv' := [some (2, ((327682 : Nat) : Int)), some (2, ((o : Nat) : Int)), some (2, ((A : Nat) : Int)), some (2, ((B : Nat) : Int)), some (2, ((f : Nat) : Int)), some (0, n10 + 1), none]) rfl ?_
          refine s_goto (tgt := 17) dX2_seal_88 (by decide) ?_
          exact ih10 (n10 + 1) G10 hCG10 hXG10 hFG10 (⟨(by omega), (by intro k hk hz; by_cases e : k = (n10 : Int).toNat; (focus (exfalso; subst e; have z1 := congrFun hbt10 (n10 : Int).toNat; have z2 := congrFun hat10 (n10 : Int).toNat; omega)); exact iz10 k (by omega) hz), (by exact hTHG10), (by exact hnG10), (by exact hTXG10), (by exact hwnG10), (by exact hw2G10), (by exact hkdG10), (by exact hnkG10), (by exact hFBG10), (by exact hFfG10), (by exact hFJG10)⟩) (by omega)
        · -- 32 to 35
          refine s_aload_n dX2_seal_35 rfl (Int.natCast_nonneg _) ?_
          have hk38 : gK G10 (A) = (9, 0) := ((hXG10).k ((hXG7).k ((hXG2).k kA0 (by decide)) (by decide)) (by decide))
          refine s_alv (A) (by simp) (fun (al39 : AL G10 A) => ?_)
          have hv40 : gS G10 A 1 = ((A + 1 : Nat) : Int) := by have h9 : (gS G10 A 1) = (((A % 1048576) + 1 : Nat) : Int) := hCG10.1.v (j := 1) (by rw [cde_n (by omega) (by omega)]; omega : cde A = 101) al39 (by rw [hk38]; exact Nat.le_of_ble_eq_true rfl); omega
          refine s_getf (ci := 1) (k := 1) (C := RX0) (T := TX0) (N := 7) (n := A) (L := 0) (t := 2) dX2_seal_36 rfl wi_65 m_573 (Nat.le_of_ble_eq_true rfl) rfl rfl hk38 hv40 ?_
          refine s_iload dX2_seal_39 rfl ?_
          have hk41 : gK G10 (A + 1) = (1, 6) := ((hXG10).k ((hXG7).k ((hXG2).k kA1 (by decide)) (by decide)) (by decide))
          refine s_iald dX2_seal_41 hk41 (by omega) (by omega) rfl ?_
          refine s_iconst dX2_seal_42 (by decide) ?_
          refine s_icmp_ne (tgt := 85) dX2_seal_43 (by decide) (fun c42 => ?_) (fun c42 => ?_)
          · -- 43 to 85
            refine s_iinc dX2_seal_85 (v := n10) rfl (by omega) (by decide) (lv' := [some (2, ((327682 : Nat) : Int)), some (2, ((o : Nat) : Int)), some (2, ((A : Nat) : Int)), some (2, ((B : Nat) : Int)), some (2, ((f : Nat) : Int)), some (0, n10 + 1), none]) rfl ?_
            refine s_goto (tgt := 17) dX2_seal_88 (by decide) ?_
            exact ih10 (n10 + 1) G10 hCG10 hXG10 hFG10 (⟨(by omega), (by intro k hk hz; by_cases e : k = (n10 : Int).toNat; (focus (exfalso; subst e; have z1 := congrFun hbt10 (n10 : Int).toNat; have z2 := congrFun hat10 (n10 : Int).toNat; omega)); exact iz10 k (by omega) hz), (by exact hTHG10), (by exact hnG10), (by exact hTXG10), (by exact hwnG10), (by exact hw2G10), (by exact hkdG10), (by exact hnkG10), (by exact hFBG10), (by exact hFfG10), (by exact hFJG10)⟩) (by omega)
          · -- 43 to 46
            refine s_aload_n dX2_seal_46 rfl (Int.natCast_nonneg _) ?_
            have hk43 : gK G10 (327682) = (11, 0) := ((hXG10).k ((hXG7).k hk4 (by decide)) (by decide))
            refine s_alv (327682) (by simp) (fun (al44 : AL G10 327682) => ?_)
            have hv45 : gS G10 327682 2 = ((262144 : Nat) : Int) := by have h9 : (gS G10 327682 2) = 262144 := hCG10.1.v (j := 2) (by decide : cde 327682 = 502) al44 (by rw [hk43]; exact Nat.le_of_ble_eq_true rfl); omega
            refine s_getf (ci := 3) (k := 2) (C := RX2) (T := TX2) (N := 8) (n := 327682) (L := 0) (t := 2) dX2_seal_47 rfl wi_70 m_577 (Nat.le_of_ble_eq_true rfl) rfl rfl hk43 hv45 ?_
            refine s_iload dX2_seal_50 rfl ?_
            refine s_aload_n dX2_seal_52 rfl (Int.natCast_nonneg _) ?_
            have hv46 : gS G10 A 3 = ((A + 3 : Nat) : Int) := by have h9 : (gS G10 A 3) = (((A % 1048576) + 3 : Nat) : Int) := hCG10.1.v (j := 3) (by rw [cde_n (by omega) (by omega)]; omega : cde A = 101) al39 (by rw [hk38]; exact Nat.le_of_ble_eq_true rfl); omega
            refine s_getf (ci := 1) (k := 3) (C := RX0) (T := TX0) (N := 7) (n := A) (L := 0) (t := 2) dX2_seal_53 rfl wi_65 m_574 (Nat.le_of_ble_eq_true rfl) rfl rfl hk38 hv46 ?_
            refine s_iload dX2_seal_56 rfl ?_
            have hk47 : gK G10 (A + 3) = (4, 16) := ((hXG10).k ((hXG7).k ((hXG2).k kA3 (by decide)) (by decide)) (by decide))
            refine s_alv (A + 3) (by simp) (fun (al48 : AL G10 (A + 3)) => ?_)
            have hv50b : 0 ≤ (gS G10 (A + 3) (n10 : Int).toNat) ∧ (gS G10 (A + 3) (n10 : Int).toNat) % 1048576 = ((((A + 3) % 1048576) + 4 + ((n10 : Int).toNat) : Nat) : Int) := hCG10.1.v (j := (n10 : Int).toNat) (by rw [cde_n (by omega) (by omega)]; omega : cde (A + 3) = 104) al48 (by rw [hk47]; show (n10 : Int).toNat < 16; omega)
            obtain ⟨q49, hv50⟩ : ∃ q : Nat, gS G10 (A + 3) (n10 : Int).toNat = (q : Int) := ⟨(gS G10 (A + 3) (n10 : Int).toNat).toNat, by omega⟩
            rw [hv50] at hv50b
            refine s_aald4 dX2_seal_58 hk47 (by omega) (by omega) hv50 ?_
            refine s_aload_n dX2_seal_59 rfl (Int.natCast_nonneg _) ?_
            have hv51 : gS G10 A 4 = ((A + 4 : Nat) : Int) := by have h9 : (gS G10 A 4) = (((A % 1048576) + 4 : Nat) : Int) := hCG10.1.v (j := 4) (by rw [cde_n (by omega) (by omega)]; omega : cde A = 101) al39 (by rw [hk38]; exact Nat.le_of_ble_eq_true rfl); omega
            refine s_getf (ci := 1) (k := 4) (C := RX0) (T := TX0) (N := 7) (n := A) (L := 0) (t := 2) dX2_seal_60 rfl wi_65 m_575 (Nat.le_of_ble_eq_true rfl) rfl rfl hk38 hv51 ?_
            refine s_iload dX2_seal_63 rfl ?_
            have hk52 : gK G10 (A + 4) = (1, 16) := ((hXG10).k ((hXG7).k ((hXG2).k kA4 (by decide)) (by decide)) (by decide))
            refine s_alv (A + 4) (by simp) (fun (al53 : AL G10 (A + 4)) => ?_)
            have hv54 : 0 ≤ (gS G10 (A + 4) (n10 : Int).toNat) ∧ (gS G10 (A + 4) (n10 : Int).toNat) ≤ 200 := hCG10.1.v (j := (n10 : Int).toNat) (by rw [cde_n (by omega) (by omega)]; omega : cde (A + 4) = 105) al53 (by rw [hk52]; show (n10 : Int).toNat < 16; omega)
            refine s_iald dX2_seal_65 hk52 (by omega) (by omega) rfl ?_
            refine s_alv (q49) (by simp) (fun (al55 : AL G10 q49) => ?_)
            obtain ⟨L57, hk56, hL57a, hL57b⟩ := hCG10.1.kr (show 108 ≤ cde q49 ∧ cde q49 < 124 from by rw [cde_n (by omega) (by omega)]; omega) al55
            have hk60 : gK G10 (262144) = (10, 0) := ((hXG10).k ((hXG7).k ((hXG2).k k262144 (by decide)) (by decide)) (by decide))
            refine s_callV (as := [(0, n10), (2, ((q49 : Nat) : Int)), (0, gS G10 (A + 4) ((n10 : Int).toNat))]) (rest := []) (n := 262144) (ci := 2) gX1_fill dX2_seal_66 m_1324 m_912 m_1488 m_712 m_254 ⟨by decide, by decide, show (parseMethodDescriptor yX1_fill.desc).map (fun d => d.parameters.length) = some 3 from by decide +kernel⟩ (Nat.le_of_ble_eq_true rfl) (by rw [hcf]; exact Nat.le_of_ble_eq_true rfl) hk60 rfl rfl (Nat.le_of_ble_eq_true rfl) ⟨262144, n10, q49, L57, gS G10 (A + 4) ((n10 : Int).toNat), a, b, rfl, hCG10, hab, (by first | assumption | omega), (by first | assumption | omega), hk56, (by first | assumption | omega), (by first | assumption | omega), fun G58 hCG58 hXG58 hfG58 hpG58 => ?_⟩
            have hFG58 : WX (fun x => x = 327683 ∨ x = 327687 ∨ x = 327688 ∨ x = 327691 ∨ (262144 ≤ x ∧ x < 262272) ∨ (f + 1 ≤ x ∧ x ≤ f + 22)) G G58 := WX.trans hFG10 (KX.trans (KX.trans hXG2 hXG7) hXG10) (WX.mono hfG58 (fun x hx => by omega))
            have hS_G58 : ThC G58 Hs ∧ TxC G10 G58 := hTHG10.wx hCG10 hXG58 hfG58 (hfn.kx (KX.trans (KX.trans hXG2 hXG7) hXG10)) (by refine ⟨?_, ?_, ?_, ?_, ?_, ?_⟩ <;> (show ¬ _; omega)) (fun n9 h9 => by show ¬ _; omega)
            have hTHG58 : ThC G58 Hs := hS_G58.1
            have hnG58 : (n : Int) < nN G58 := by rw [hS_G58.2.1.1]; exact hnG10
            have hTXG58 : TxC G G58 := hTXG10.trans hS_G58.2
            have hwnG58 : HID (slC G n → WhC G58 v n) := fun z => hS_G58.2.wh hTHG10.2.2.2.1 hnG10 (hwnG10 z) (by rw [hfG58 (65536 + 64 * n) (KX.al (KX.trans (KX.trans hXG2 hXG7) hXG10) (by rw [← ho9]; exact kne hko (by decide))) (by show ¬ _; omega)])
            have hw2G58 : HID (¬ slC G n → WhC G58 v (ptC G n 0) ∧ WhC G58 v (ptC G n 1)) := fun z => ⟨hS_G58.2.wh hTHG10.2.2.2.1 (by rw [hTXG10.1.1]; omega) (hw2G10 z).1 (by rw [hfG58 (65536 + 64 * ptC G n 0) (KX.al (KX.trans (KX.trans hXG2 hXG7) hXG10) (by rw [← ho0]; exact kne hk0 (by decide))) (by show ¬ _; omega)]), hS_G58.2.wh hTHG10.2.2.2.1 (by rw [hTXG10.1.1]; omega) (hw2G10 z).2 (by rw [hfG58 (65536 + 64 * ptC G n 1) (KX.al (KX.trans (KX.trans hXG2 hXG7) hXG10) (by rw [← ho1]; exact kne hk1 (by decide))) (by show ¬ _; omega)])⟩
            have hkdG58 : gS G58 o 1 = 1 := (congrFun (hfG58 o (KX.al (KX.trans (KX.trans hXG2 hXG7) hXG10) (kne hko (by decide))) (by show ¬ _; omega)) 1).trans hkdG10
            have hnkG58 : nkC G58 n = 1 := (hS_G58.2.1.2 n hnG10).1.trans hnkG10
            have hFBG58 : FPa (PnC G58 v n) G58 B := ((hFBG10).ns hXG58 hfG58 ⟨KX.al (KX.trans (KX.trans hXG2 hXG7) hXG10) (kne kB3 (by decide)), KX.al (KX.trans (KX.trans hXG2 hXG7) hXG10) (kne kB4 (by decide))⟩ ⟨by show ¬ _; omega, by show ¬ _; omega, fun p hp => by show ¬ _; omega⟩).mono (fun x hx => hS_G58.2.pn hTHG10.2.2.2.1 hnG10 hx)
            have hFfG58 : FPa (PnC G58 v n) G58 f := ((hFfG10).ns hXG58 hfG58 ⟨KX.al (KX.trans (KX.trans hXG2 hXG7) hXG10) (kne kf3 (by decide)), KX.al (KX.trans (KX.trans hXG2 hXG7) hXG10) (kne kf4 (by decide))⟩ ⟨by show ¬ _; omega, by show ¬ _; omega, fun p hp => by show ¬ _; omega⟩).mono (fun x hx => hS_G58.2.pn hTHG10.2.2.2.1 hnG10 hx)
            have hFJG58 : ∀ k : Nat, k < 6 → FIP (PnC G58 v n) G58 262208 k := fun k hk => by have h9 := FIP.ns (hFJG10 k hk) hXG58 hfG58 hk (KX.al (KX.trans (KX.trans hXG2 hXG7) hXG10) (kne k262213 (by decide))) (fun k hk => by show ¬ _; omega) (by show ¬ _; omega); exact fun z => (h9 z).mono (fun x hx => hS_G58.2.pn hTHG10.2.2.2.1 hnG10 hx)
            show WP kX2_seal X 69 [some (2, ((327682 : Nat) : Int)), some (2, ((o : Nat) : Int)), some (2, ((A : Nat) : Int)), some (2, ((B : Nat) : Int)), some (2, ((f : Nat) : Int)), some (0, n10), none] [] G58
            refine s_aload_n dX2_seal_69 rfl (Int.natCast_nonneg _) ?_
            have hk61 : gK G58 (327682) = (11, 0) := ((hXG58).k hk43 (by decide))
            refine s_alv (327682) (by simp) (fun (al62 : AL G58 327682) => ?_)
            have hv63 : gS G58 327682 3 = ((262208 : Nat) : Int) := by have h9 : (gS G58 327682 3) = 262208 := hCG58.1.v (j := 3) (by decide : cde 327682 = 502) al62 (by rw [hk61]; exact Nat.le_of_ble_eq_true rfl); omega
            refine s_getf (ci := 3) (k := 3) (C := RX2) (T := TX2) (N := 8) (n := 327682) (L := 0) (t := 2) dX2_seal_70 rfl wi_70 m_580 (Nat.le_of_ble_eq_true rfl) rfl rfl hk61 hv63 ?_
            refine s_iload dX2_seal_73 rfl ?_
            refine s_aload_n dX2_seal_75 rfl (Int.natCast_nonneg _) ?_
            refine s_aload_n dX2_seal_76 rfl (Int.natCast_nonneg _) ?_
            refine s_iload dX2_seal_77 rfl ?_
            refine s_callV (as := [(2, ((o : Nat) : Int)), (0, n10)]) (rest := [(0, n10), (2, ((262208 : Nat) : Int))]) (n := 327682) (ci := 3) gX2_stampOf dX2_seal_79 m_1325 m_937 m_1665 m_716 m_285 ⟨by decide, by decide, show (parseMethodDescriptor yX2_stampOf.desc).map (fun d => d.parameters.length) = some 2 from by decide +kernel⟩ (Nat.le_of_ble_eq_true rfl) (by rw [hcf]; exact Nat.le_of_ble_eq_true rfl) hk61 rfl rfl (Nat.le_of_ble_eq_true rfl) ⟨o, n, n10, Hs, v, a, b, rfl, hCG58, hab, (by assumption), (by exact hnG58), (by omega), (by exact hTHG58), (by assumption), (by have := hkdG58; omega), (by exact fun z => hwnG58 ((hTXG58.sl hn).mp z)), (by intro z; rw [(hTXG58.1.2 n hn).2.2.2.2.2 0 (npt_0 (by omega)), (hTXG58.1.2 n hn).2.2.2.2.2 1 (npt_1 (by omega))]; exact hw2G58 (fun y => z ((hTXG58.sl hn).mpr y))), fun rr65 G64 hCG64 hXG64 hfG64 hpG64 => ?_⟩
            have hFG64 : WX (fun x => x = 327683 ∨ x = 327687 ∨ x = 327688 ∨ x = 327691 ∨ (262144 ≤ x ∧ x < 262272) ∨ (f + 1 ≤ x ∧ x ≤ f + 22)) G G64 := WX.trans hFG58 (KX.trans (KX.trans (KX.trans hXG2 hXG7) hXG10) hXG58) (WX.mono hfG64 rg25)
            have hS_G64 : ThC G64 Hs ∧ TxC G58 G64 := ⟨hpG64.2.1, hpG64.2.2.1⟩
            have hTHG64 : ThC G64 Hs := hS_G64.1
            have hnG64 : (n : Int) < nN G64 := by rw [hS_G64.2.1.1]; exact hnG58
            have hTXG64 : TxC G G64 := hTXG58.trans hS_G64.2
            have hwnG64 : HID (slC G n → WhC G64 v n) := fun z => hS_G64.2.wh hTHG58.2.2.2.1 hnG58 (hwnG58 z) (by rw [hfG64 (65536 + 64 * n) (KX.al (KX.trans (KX.trans (KX.trans hXG2 hXG7) hXG10) hXG58) (by rw [← ho9]; exact kne hko (by decide))) (by show ¬ _; omega)])
            have hw2G64 : HID (¬ slC G n → WhC G64 v (ptC G n 0) ∧ WhC G64 v (ptC G n 1)) := fun z => ⟨hS_G64.2.wh hTHG58.2.2.2.1 (by rw [hTXG58.1.1]; omega) (hw2G58 z).1 (by rw [hfG64 (65536 + 64 * ptC G n 0) (KX.al (KX.trans (KX.trans (KX.trans hXG2 hXG7) hXG10) hXG58) (by rw [← ho0]; exact kne hk0 (by decide))) rg26]), hS_G64.2.wh hTHG58.2.2.2.1 (by rw [hTXG58.1.1]; omega) (hw2G58 z).2 (by rw [hfG64 (65536 + 64 * ptC G n 1) (KX.al (KX.trans (KX.trans (KX.trans hXG2 hXG7) hXG10) hXG58) (by rw [← ho1]; exact kne hk1 (by decide))) rg27])⟩
            have hkdG64 : gS G64 o 1 = 1 := (congrFun (hfG64 o (KX.al (KX.trans (KX.trans (KX.trans hXG2 hXG7) hXG10) hXG58) (kne hko (by decide))) rg28) 1).trans hkdG58
            have hnkG64 : nkC G64 n = 1 := (hS_G64.2.1.2 n hnG58).1.trans hnkG58
            have hFBG64 : FPa (PnC G64 v n) G64 B := ((hFBG58).ns hXG64 hfG64 ⟨KX.al (KX.trans (KX.trans (KX.trans hXG2 hXG7) hXG10) hXG58) (kne kB3 (by decide)), KX.al (KX.trans (KX.trans (KX.trans hXG2 hXG7) hXG10) hXG58) (kne kB4 (by decide))⟩ rg29).mono (fun x hx => hS_G64.2.pn hTHG58.2.2.2.1 hnG58 hx)
            have hFfG64 : FPa (PnC G64 v n) G64 f := ((hFfG58).ns hXG64 hfG64 ⟨KX.al (KX.trans (KX.trans (KX.trans hXG2 hXG7) hXG10) hXG58) (kne kf3 (by decide)), KX.al (KX.trans (KX.trans (KX.trans hXG2 hXG7) hXG10) hXG58) (kne kf4 (by decide))⟩ rg30).mono (fun x hx => hS_G64.2.pn hTHG58.2.2.2.1 hnG58 hx)
            have hFJG64 : ∀ k : Nat, k < 6 → FIP (PnC G64 v n) G64 262208 k := fun k hk => by have h9 := FIP.ns (hFJG58 k hk) hXG64 hfG64 hk (KX.al (KX.trans (KX.trans (KX.trans hXG2 hXG7) hXG10) hXG58) (kne k262213 (by decide))) rg31 rg32; exact fun z => (h9 z).mono (fun x hx => hS_G64.2.pn hTHG58.2.2.2.1 hnG58 hx)
            show WP kX2_seal X 82 [some (2, ((327682 : Nat) : Int)), some (2, ((o : Nat) : Int)), some (2, ((A : Nat) : Int)), some (2, ((B : Nat) : Int)), some (2, ((f : Nat) : Int)), some (0, n10), none] [(0, rr65), (0, n10), (2, ((262208 : Nat) : Int))] G64
            have hskpG64 : stC G64 v n (rr65 - 8) := stC.sealS hnkG64 hpG64.2.2.2
            have hk68 : gK G64 (262208) = (10, 0) := ((hXG64).k ((hXG58).k ((hXG10).k ((hXG7).k hk9 (by decide)) (by decide)) (by decide)) (by decide))
            refine s_callV (as := [(0, n10), (0, rr65)]) (rest := []) (n := 262208) (ci := 2) gX1_fillPart dX2_seal_82 m_1326 m_913 m_1489 m_712 m_255 ⟨by decide, by decide, show (parseMethodDescriptor yX1_fillPart.desc).map (fun d => d.parameters.length) = some 2 from by decide +kernel⟩ (Nat.le_of_ble_eq_true rfl) (by rw [hcf]; exact Nat.le_of_ble_eq_true rfl) hk68 rfl rfl (Nat.le_of_ble_eq_true rfl) ⟨262208, n10, rr65, a, b, rfl, hCG64, hab, (by first | assumption | omega), (by first | assumption | omega), fun G66 hCG66 hXG66 hfG66 hpG66 => ?_⟩
            have hFG66 : WX (fun x => x = 327683 ∨ x = 327687 ∨ x = 327688 ∨ x = 327691 ∨ (262144 ≤ x ∧ x < 262272) ∨ (f + 1 ≤ x ∧ x ≤ f + 22)) G G66 := WX.trans hFG64 (KX.trans (KX.trans (KX.trans (KX.trans hXG2 hXG7) hXG10) hXG58) hXG64) (WX.mono hfG66 (fun x hx => by omega))
            have hS_G66 : ThC G66 Hs ∧ TxC G64 G66 := hTHG64.wx hCG64 hXG66 hfG66 (hfn.kx (KX.trans (KX.trans (KX.trans (KX.trans hXG2 hXG7) hXG10) hXG58) hXG64)) (by refine ⟨?_, ?_, ?_, ?_, ?_, ?_⟩ <;> (show ¬ _; omega)) (fun n9 h9 => by show ¬ _; omega)
            have hTHG66 : ThC G66 Hs := hS_G66.1
            have hnG66 : (n : Int) < nN G66 := by rw [hS_G66.2.1.1]; exact hnG64
            have hTXG66 : TxC G G66 := hTXG64.trans hS_G66.2
            have hwnG66 : HID (slC G n → WhC G66 v n) := fun z => hS_G66.2.wh hTHG64.2.2.2.1 hnG64 (hwnG64 z) (by rw [hfG66 (65536 + 64 * n) (KX.al (KX.trans (KX.trans (KX.trans (KX.trans hXG2 hXG7) hXG10) hXG58) hXG64) (by rw [← ho9]; exact kne hko (by decide))) (by show ¬ _; omega)])
            have hw2G66 : HID (¬ slC G n → WhC G66 v (ptC G n 0) ∧ WhC G66 v (ptC G n 1)) := fun z => ⟨hS_G66.2.wh hTHG64.2.2.2.1 (by rw [hTXG64.1.1]; omega) (hw2G64 z).1 (by rw [hfG66 (65536 + 64 * ptC G n 0) (KX.al (KX.trans (KX.trans (KX.trans (KX.trans hXG2 hXG7) hXG10) hXG58) hXG64) (by rw [← ho0]; exact kne hk0 (by decide))) (by show ¬ _; omega)]), hS_G66.2.wh hTHG64.2.2.2.1 (by rw [hTXG64.1.1]; omega) (hw2G64 z).2 (by rw [hfG66 (65536 + 64 * ptC G n 1) (KX.al (KX.trans (KX.trans (KX.trans (KX.trans hXG2 hXG7) hXG10) hXG58) hXG64) (by rw [← ho1]; exact kne hk1 (by decide))) (by show ¬ _; omega)])⟩
            have hkdG66 : gS G66 o 1 = 1 := (congrFun (hfG66 o (KX.al (KX.trans (KX.trans (KX.trans (KX.trans hXG2 hXG7) hXG10) hXG58) hXG64) (kne hko (by decide))) (by show ¬ _; omega)) 1).trans hkdG64
            have hnkG66 : nkC G66 n = 1 := (hS_G66.2.1.2 n hnG64).1.trans hnkG64
            have hFBG66 : FPa (PnC G66 v n) G66 B := ((hFBG64).ns hXG66 hfG66 ⟨KX.al (KX.trans (KX.trans (KX.trans (KX.trans hXG2 hXG7) hXG10) hXG58) hXG64) (kne kB3 (by decide)), KX.al (KX.trans (KX.trans (KX.trans (KX.trans hXG2 hXG7) hXG10) hXG58) hXG64) (kne kB4 (by decide))⟩ ⟨by show ¬ _; omega, by show ¬ _; omega, fun p hp => by show ¬ _; omega⟩).mono (fun x hx => hS_G66.2.pn hTHG64.2.2.2.1 hnG64 hx)
            have hFfG66 : FPa (PnC G66 v n) G66 f := ((hFfG64).ns hXG66 hfG66 ⟨KX.al (KX.trans (KX.trans (KX.trans (KX.trans hXG2 hXG7) hXG10) hXG58) hXG64) (kne kf3 (by decide)), KX.al (KX.trans (KX.trans (KX.trans (KX.trans hXG2 hXG7) hXG10) hXG58) hXG64) (kne kf4 (by decide))⟩ ⟨by show ¬ _; omega, by show ¬ _; omega, fun p hp => by show ¬ _; omega⟩).mono (fun x hx => hS_G66.2.pn hTHG64.2.2.2.1 hnG64 hx)
            have hFJG66 : ∀ k : Nat, k < 6 → FIP (PnC G66 v n) G66 262208 k := fun k hk => by by_cases e : k = (n10 : Int).toNat; (focus (subst e; exact fun _ => (hpG66.1 (PnC G64 v n) (fun _ => hskpG64)).mono (fun x hx => hS_G66.2.pn hTHG64.2.2.2.1 hnG64 hx))); exact fun z => (FIP.sm (P := PnC G64 v n) (hFJG64 k hk) hXG66 hfG66 (by show ¬ _; omega) (hpG66.2.2 k e) z).mono (fun x hx => hS_G66.2.pn hTHG64.2.2.2.1 hnG64 hx)
            show WP kX2_seal X 85 [some (2, ((327682 : Nat) : Int)), some (2, ((o : Nat) : Int)), some (2, ((A : Nat) : Int)), some (2, ((B : Nat) : Int)), some (2, ((f : Nat) : Int)), some (0, n10), none] [] G66
            refine s_iinc dX2_seal_85 (v := n10) rfl (by omega) (by decide) (lv' := [some (2, ((327682 : Nat) : Int)), some (2, ((o : Nat) : Int)), some (2, ((A : Nat) : Int)), some (2, ((B : Nat) : Int)), some (2, ((f : Nat) : Int)), some (0, n10 + 1), none]) rfl ?_
            refine s_goto (tgt := 17) dX2_seal_88 (by decide) ?_
            exact ih10 (n10 + 1) G66 hCG66 (KX.trans (KX.trans (KX.trans hXG10 hXG58) hXG64) hXG66) hFG66 (⟨(by omega), (by intro k hk hz; by_cases e : k = (n10 : Int).toNat; (focus (subst e; exact hpG66.2.1)); rw [hpG66.2.2 k e, hfG64 262213 (KX.al (KX.trans (KX.trans (KX.trans hXG2 hXG7) hXG10) hXG58) (kne k262213 (by decide))) (by show ¬ _; omega), hfG58 262213 (KX.al (KX.trans (KX.trans hXG2 hXG7) hXG10) (kne k262213 (by decide))) (by show ¬ _; omega)]; exact iz10 k (by omega) hz), (by exact hTHG66), (by exact hnG66), (by exact hTXG66), (by exact hwnG66), (by exact hw2G66), (by exact hkdG66), (by exact hnkG66), (by exact hFBG66), (by exact hFfG66), (by exact hFJG66)⟩) (by omega)
  exact L10 _ 0 G7 hCG7 KX.rf hFG7 (⟨(by omega), (by intro k hk; omega), (by exact hTHG7), (by exact hnG7), (by exact hTXG7), (by exact hwnG7), (by exact hw2G7), (by exact hkdG7), (by exact hnkG7), (by exact hFBG7), (by exact hFfG7), (by exact hFJG7)⟩) (Nat.lt_succ_self _)
