abbrev kX2_findMistake : KD := (RX2, cX2_findMistake, 4, (some .int), [])
def TX2_findMistake : TR := fun as G Qr => ∃ (o n : Nat) (Hs : List (Int → Int)) (v : Int → Int) (a b : Nat), as = [(2, ((327682 : Nat) : Int)), (2, ((o : Nat) : Int))] ∧ CI a b G ∧ (a ≤ 2840000 ∧ b ≤ 590000) ∧ (o = 65536 + 64 * n) ∧ ((n : Int) < nN G) ∧ (ThC G Hs) ∧ (v ∈ Hs) ∧ (v = curC G) ∧ (WhC G v n) ∧ (∀ k, k < npt (nkC G n) → WhC G v (ptC G n k) ∧ FPa (PnC G v (ptC G n k)) G (65536 + 64 * ptC G n k + 1)) ∧ (∀ k : Nat, k < 10 → gS G (o + 1 + 2) k = 0) ∧ (∀ p : Nat, p < 16 → gS G (o + 1 + 4) p = 0) ∧ ∀ (r : Int) (G' : LG), CI a b G' → KX G G' → WX (fun x => x = 327683 ∨ x = 327687 ∨ x = 327688 ∨ x = 327684 ∨ (327689 ≤ x ∧ x ≤ 327692) ∨ (262144 ≤ x ∧ x < 262272) ∨ (68097 ≤ x ∧ x ≤ 68119) ∨ (o + 2 ≤ x ∧ x ≤ o + 23)) G G' → (ThC G' Hs ∧ TxC G G' ∧ FPa (PnC G' v n) G' (o + 1)) → Qr (.inl (some (0, r))) G'
set_option maxHeartbeats 4000000 in
set_option maxRecDepth 100000 in
theorem gX2_findMistake : Good kX2_findMistake yX2_findMistake 59 TX2_findMistake := by
  refine good_of (by decide) rfl rfl (fun as G Qr h => ?_) (fun X as G Qr hcf hR hT oa => ?_)
  · obtain ⟨o, n, Hs, v, a, b, rfl, -⟩ := h; exact Nat.le_of_ble_eq_true rfl
  obtain ⟨o, n, Hs, v, a, b, rfl, hC, hab, ho9, hn, hTH, hv, hvc, hwn, hpr, hz, hz4, hQ⟩ := hT
  show WP kX2_findMistake X 0 [some (2, ((327682 : Nat) : Int)), some (2, ((o : Nat) : Int)), none, none] [] G
  refine s_alvl 327682 (k := 0) rfl (fun (alZ : AL G 327682) => ?_)
  refine s_lk (fun hlk => ?_)
  have hfn := hlk.fna hC alZ
  obtain ⟨k327682, k327681, k327683, k262144, k262208, k327684, k68097, k327691, k327692, k262145, k262146, k262148, k262149, k262209, k262210, k262212, k262213, k327710, k327685, k327688⟩ := id hfn
  obtain ⟨hn40, hko, pa, hpa, hpm, hpc, hkp, hpt, hu6, hr4⟩ := hC.nd ho9 hn
  have ho : isNd o := by omega
  have hND := hTH.2.2.2.1
  have hsl : slC G n ↔ (gS G o 1 = 3 ∨ ¬ gS G o 5 = 0) := by unfold slC nkC ngC; rw [ho9]
  have hnk : nkC G n = gS G o 1 := by unfold nkC; rw [ho9]
  have hnn : nnC G n = gS G o 3 := by unfold nnC; rw [ho9]
  have hnt : ntC G n = gS G o 4 := by unfold ntC; rw [ho9]
  have hng : ngC G n = gS G o 5 := by unfold ngC; rw [ho9]
  have hn0 : ¬ gS G o 1 = 6 → 0 < npt (gS G o 1) := npt_0
  have hn1 : gS G o 1 ≤ 3 → 1 < npt (gS G o 1) := npt_1
  have hn2 : gS G o 1 = 3 → 2 < npt (gS G o 1) := npt_2
  obtain ⟨o0, ho0⟩ : ∃ o0 : Nat, o0 = 65536 + 64 * ptC G n 0 := ⟨_, rfl⟩
  have hq0 : ¬ gS G o 1 = 6 → gS G pa 0 = ((o0 : Nat) : Int) ∧ isNd o0 ∧ ptC G n 0 < n := fun z => by obtain ⟨z1, z2⟩ := hpt 0 (npt_0 (by omega)); exact ⟨by rw [ho0]; exact z1, by omega, z2⟩
  obtain ⟨o1, ho1⟩ : ∃ o1 : Nat, o1 = 65536 + 64 * ptC G n 1 := ⟨_, rfl⟩
  have hq1 : gS G o 1 ≤ 3 → gS G pa 1 = ((o1 : Nat) : Int) ∧ isNd o1 ∧ ptC G n 1 < n := fun z => by obtain ⟨z1, z2⟩ := hpt 1 (npt_1 (by omega)); exact ⟨by rw [ho1]; exact z1, by omega, z2⟩
  obtain ⟨o2, ho2⟩ : ∃ o2 : Nat, o2 = 65536 + 64 * ptC G n 2 := ⟨_, rfl⟩
  have hq2 : gS G o 1 = 3 → gS G pa 2 = ((o2 : Nat) : Int) ∧ isNd o2 ∧ ptC G n 2 < n := fun z => by obtain ⟨z1, z2⟩ := hpt 2 (npt_2 (by omega)); exact ⟨by rw [ho2]; exact z1, by omega, z2⟩
  have hti3 : 0 ≤ gS G o 3 ∧ gS G o 3 ≤ 9 := hC.1.v (c := 100) (j := 3) (by rw [cde_n (by omega) (by omega)]; omega) (kne hko (by decide)) (by rw [hko]; exact Nat.le_of_ble_eq_true rfl)
  have hti4 : -1 ≤ gS G o 4 ∧ gS G o 4 ≤ 9 := hC.1.v (c := 100) (j := 4) (by rw [cde_n (by omega) (by omega)]; omega) (kne hko (by decide)) (by rw [hko]; exact Nat.le_of_ble_eq_true rfl)
  have hti1 : 0 ≤ gS G o 1 ∧ gS G o 1 ≤ 6 := hC.1.v (c := 100) (j := 1) (by rw [cde_n (by omega) (by omega)]; omega) (kne hko (by decide)) (by rw [hko]; exact Nat.le_of_ble_eq_true rfl)
  have hf6 : isFc (o + 1) := by omega
  have hvf : gS G o 7 = ((o + 1 : Nat) : Int) := by have h9 : gS G o 7 = ((o % 1048576 + 1 : Nat) : Int) := hC.1.v (c := 100) (j := 7) (by rw [cde_n (by omega) (by omega)]; omega) (kne hko (by decide)) (by rw [hko]; exact Nat.le_of_ble_eq_true rfl); omega
  have alf : (gK G (o + 1)).1 ≠ 0 := hlk.at (kne hko (by decide)) (by rw [hko]; exact Nat.le_of_ble_eq_true rfl) (by rw [hko]; rfl) hvf
  have hff := hlk.fc hC hf6 alf
  obtain ⟨kf0, kf1, kf2, kf3, kf4, kf5, kf6⟩ := hff.1
  have hnle := npt_le (gS G o 1)
  replace hsl : HID _ := hsl
  replace hu6 : HID _ := hu6
  replace hr4 : HID _ := hr4
  replace hn0 : HID _ := hn0
  replace hn1 : HID _ := hn1
  replace hn2 : HID _ := hn2
  replace hq0 : HID _ := hq0
  replace hq1 : HID _ := hq1
  replace hq2 : HID _ := hq2
  have rg0 : RM (fun x => (262144 ≤ x ∧ x < 262272) ∨ x = 327691 ∨ x = 327692 ∨ ((o + 1) + 1 ≤ x ∧ x ≤ (o + 1) + 22)) (fun x => x = 327683 ∨ x = 327687 ∨ x = 327688 ∨ x = 327684 ∨ (327689 ≤ x ∧ x ≤ 327692) ∨ (262144 ≤ x ∧ x < 262272) ∨ (68097 ≤ x ∧ x ≤ 68119) ∨ (o + 2 ≤ x ∧ x ≤ o + 23)) := fun x hx => by (try dsimp only at hx ⊢); omega
  have rg1 : RNt (fun x => (262144 ≤ x ∧ x < 262272) ∨ x = 327691 ∨ x = 327692 ∨ ((o + 1) + 1 ≤ x ∧ x ≤ (o + 1) + 22)) := ⟨by refine ⟨?_, ?_, ?_, ?_, ?_, ?_⟩ <;> (show ¬ _; omega), fun n9 h9 => by show ¬ _; omega⟩
  have rg2 : RM (fun x => x = 327683 ∨ x = 327687 ∨ x = 327688 ∨ x = 327691 ∨ (262144 ≤ x ∧ x < 262272) ∨ ((o + 1) + 1 ≤ x ∧ x ≤ (o + 1) + 22)) (fun x => x = 327683 ∨ x = 327687 ∨ x = 327688 ∨ x = 327684 ∨ (327689 ≤ x ∧ x ≤ 327692) ∨ (262144 ≤ x ∧ x < 262272) ∨ (68097 ≤ x ∧ x ≤ 68119) ∨ (o + 2 ≤ x ∧ x ≤ o + 23)) := fun x hx => by (try dsimp only at hx ⊢); omega
  have rg3 : RM (fun x => x = 327683 ∨ x = 327687 ∨ x = 327688 ∨ (68097 ≤ x ∧ x ≤ 68119)) (fun x => x = 327683 ∨ x = 327687 ∨ x = 327688 ∨ x = 327684 ∨ (327689 ≤ x ∧ x ≤ 327692) ∨ (262144 ≤ x ∧ x < 262272) ∨ (68097 ≤ x ∧ x ≤ 68119) ∨ (o + 2 ≤ x ∧ x ≤ o + 23)) := fun x hx => by (try dsimp only at hx ⊢); omega
  have rg4 : RM (fun x => x = (o + 1) + 1 ∨ x = (o + 1) + 4) (fun x => x = 327683 ∨ x = 327687 ∨ x = 327688 ∨ x = 327684 ∨ (327689 ≤ x ∧ x ≤ 327692) ∨ (262144 ≤ x ∧ x < 262272) ∨ (68097 ≤ x ∧ x ≤ 68119) ∨ (o + 2 ≤ x ∧ x ≤ o + 23)) := fun x hx => by (try dsimp only at hx ⊢); omega
  have rg5 : RNt (fun x => x = (o + 1) + 1 ∨ x = (o + 1) + 4) := ⟨by refine ⟨?_, ?_, ?_, ?_, ?_, ?_⟩ <;> (show ¬ _; omega), fun n9 h9 => by show ¬ _; omega⟩
  have rg6 : RM (fun x => x = 327683 ∨ x = 327687 ∨ x = 327688 ∨ x = 327691 ∨ x = 327692 ∨ (o + 2 ≤ x ∧ x ≤ o + 23)) (fun x => x = 327683 ∨ x = 327687 ∨ x = 327688 ∨ x = 327684 ∨ (327689 ≤ x ∧ x ≤ 327692) ∨ (262144 ≤ x ∧ x < 262272) ∨ (68097 ≤ x ∧ x ≤ 68119) ∨ (o + 2 ≤ x ∧ x ≤ o + 23)) := fun x hx => by (try dsimp only at hx ⊢); omega
  have rg7 : RM (fun x => (o + 1) + 1 ≤ x ∧ x ≤ (o + 1) + 22) (fun x => x = 327683 ∨ x = 327687 ∨ x = 327688 ∨ x = 327684 ∨ (327689 ≤ x ∧ x ≤ 327692) ∨ (262144 ≤ x ∧ x < 262272) ∨ (68097 ≤ x ∧ x ≤ 68119) ∨ (o + 2 ≤ x ∧ x ≤ o + 23)) := fun x hx => by (try dsimp only at hx ⊢); omega
  have rg8 : RNt (fun x => (o + 1) + 1 ≤ x ∧ x ≤ (o + 1) + 22) := ⟨by refine ⟨?_, ?_, ?_, ?_, ?_, ?_⟩ <;> (show ¬ _; omega), fun n9 h9 => by show ¬ _; omega⟩
  have rg9 : RM (fun x => (262144 ≤ x ∧ x < 262208) ∨ x = 327684 ∨ x = 327689 ∨ x = 327690 ∨ ((o + 1) + 1 ≤ x ∧ x ≤ (o + 1) + 22)) (fun x => x = 327683 ∨ x = 327687 ∨ x = 327688 ∨ x = 327684 ∨ (327689 ≤ x ∧ x ≤ 327692) ∨ (262144 ≤ x ∧ x < 262272) ∨ (68097 ≤ x ∧ x ≤ 68119) ∨ (o + 2 ≤ x ∧ x ≤ o + 23)) := fun x hx => by (try dsimp only at hx ⊢); omega
  have rg10 : RNt (fun x => (262144 ≤ x ∧ x < 262208) ∨ x = 327684 ∨ x = 327689 ∨ x = 327690 ∨ ((o + 1) + 1 ≤ x ∧ x ≤ (o + 1) + 22)) := ⟨by refine ⟨?_, ?_, ?_, ?_, ?_, ?_⟩ <;> (show ¬ _; omega), fun n9 h9 => by show ¬ _; omega⟩
  have hTX : TxC G G := TxC.rf
  have hFf : FPa (PnC G v n) G (o + 1) := hff.empty hz4
  refine s_iconst dX2_findMistake_0 (by decide) ?_
  refine s_istore_n dX2_findMistake_1 (by decide) (lv' := [some (2, ((327682 : Nat) : Int)), some (2, ((o : Nat) : Int)), some (0, 0), none]) rfl ?_
  have L1 : ∀ (n1 : Nat) (i1 : Int), ((0 ≤ i1 ∧ i1 ≤ 3)) → (((npt (gS G o 1) : Nat) : Int) - i1).toNat < n1 → WP kX2_findMistake X 2 [some (2, ((327682 : Nat) : Int)), some (2, ((o : Nat) : Int)), some (0, i1), none] [] G := by
    intro n1
    induction n1 with
    | zero => intro i1 hi1 hm1; exact absurd hm1 (Nat.not_lt_zero _)
    | succ n1 ih1 =>
      intro i1 hi1 hm1
      have ii1 := hi1
      refine s_iload_n dX2_findMistake_2 rfl ?_
      refine s_aload_n dX2_findMistake_3 rfl (Int.natCast_nonneg _) ?_
      refine s_getf (ci := 5) (k := 2) (C := RX4) (T := TX4) (N := 14) (n := o) (L := 0) (t := 2) dX2_findMistake_4 rfl wi_72 m_567 (Nat.le_of_ble_eq_true rfl) rfl rfl hko hpa ?_
      refine s_alen dX2_findMistake_7 hkp (by decide) (by omega) ?_
      refine s_icmp_ge (tgt := 38) dX2_findMistake_8 (by decide) (fun c3 => ?_) (fun c3 => ?_)
      · -- 8 to 38
        refine s_aload_n dX2_findMistake_38 rfl (Int.natCast_nonneg _) ?_
        refine s_getf (ci := 5) (k := 2) (C := RX4) (T := TX4) (N := 14) (n := o) (L := 0) (t := 2) dX2_findMistake_39 rfl wi_72 m_567 (Nat.le_of_ble_eq_true rfl) rfl rfl hko hpa ?_
        refine s_astore_n (Int.natCast_nonneg _) dX2_findMistake_42 (by decide) (lv' := [some (2, ((327682 : Nat) : Int)), some (2, ((o : Nat) : Int)), some (2, ((pa : Nat) : Int)), none]) rfl ?_
        refine s_aload_n dX2_findMistake_43 rfl (Int.natCast_nonneg _) ?_
        have hv5 : 0 ≤ (gS G o 1) ∧ (gS G o 1) ≤ 6 := hC.1.v (j := 1) (by rw [cde_n (by omega) (by omega)]; omega : cde o = 100) (kne hko (by decide)) (by rw [hko]; exact Nat.le_of_ble_eq_true rfl)
        refine s_getf (ci := 5) (k := 1) (C := RX4) (T := TX4) (N := 14) (n := o) (L := 0) (t := 0) dX2_findMistake_44 rfl wi_72 m_569 (Nat.le_of_ble_eq_true rfl) rfl rfl hko rfl ?_
        by_cases c6_0 : (gS G o 1) = 0
        · -- case 0
          refine s_tableIn (tgt := 108) (off := 61) dX2_findMistake_47 (by omega) (by omega) (by rw [c6_0]; rfl) (by decide) ?_
          obtain ⟨hq0a, hq0b, hq0c⟩ := hq0 (by omega)
          have hb0 : 0 < npt (gS G o 1) := hn0 (by omega)
          have hk0 := (hC.nd (n := ptC G n 0) ho0 (by omega)).2.1
          have hpr0 := hpr 0 (by rw [hnk]; exact npt_0 (by omega))
          rw [← ho0] at hpr0
          obtain ⟨hq1a, hq1b, hq1c⟩ := hq1 (by omega)
          have hb1 : 1 < npt (gS G o 1) := hn1 (by omega)
          have hk1 := (hC.nd (n := ptC G n 1) ho1 (by omega)).2.1
          have hpr1 := hpr 1 (by rw [hnk]; exact npt_1 (by omega))
          rw [← ho1] at hpr1
          have hf90 : FPa (PnC G v n) G (o0 + 1) := hpr0.2.mono (fun x hx h8 => stC.link0 (by omega) (hx h8))
          have hf91 : FPa (PnC G v n) G (o1 + 1) := hpr1.2.mono (fun x hx h8 => stC.link1 (by omega) (hx h8))
          refine s_aload_n dX2_findMistake_108 rfl (Int.natCast_nonneg _) ?_
          refine s_aload_n dX2_findMistake_109 rfl (Int.natCast_nonneg _) ?_
          refine s_iconst dX2_findMistake_110 (by decide) ?_
          refine s_aald6 dX2_findMistake_111 hkp (by omega) (by omega) hq0a ?_
          have hv9 : gS G o0 7 = ((o0 + 1 : Nat) : Int) := by have h9 : (gS G o0 7) = (((o0 % 1048576) + 1 : Nat) : Int) := hC.1.v (j := 7) (by rw [cde_n (by omega) (by omega)]; omega : cde o0 = 100) (kne hk0 (by decide)) (by rw [hk0]; exact Nat.le_of_ble_eq_true rfl); omega
          refine s_getf (ci := 5) (k := 7) (C := RX4) (T := TX4) (N := 14) (n := o0) (L := 0) (t := 2) dX2_findMistake_112 rfl wi_72 m_592 (Nat.le_of_ble_eq_true rfl) rfl rfl hk0 hv9 ?_
          refine s_aload_n dX2_findMistake_115 rfl (Int.natCast_nonneg _) ?_
          refine s_iconst dX2_findMistake_116 (by decide) ?_
          refine s_aald6 dX2_findMistake_117 hkp (by omega) (by omega) hq1a ?_
          have hv12 : gS G o1 7 = ((o1 + 1 : Nat) : Int) := by have h9 : (gS G o1 7) = (((o1 % 1048576) + 1 : Nat) : Int) := hC.1.v (j := 7) (by rw [cde_n (by omega) (by omega)]; omega : cde o1 = 100) (kne hk1 (by decide)) (by rw [hk1]; exact Nat.le_of_ble_eq_true rfl); omega
          refine s_getf (ci := 5) (k := 7) (C := RX4) (T := TX4) (N := 14) (n := o1) (L := 0) (t := 2) dX2_findMistake_118 rfl wi_72 m_592 (Nat.le_of_ble_eq_true rfl) rfl rfl hk1 hv12 ?_
          refine s_iconst dX2_findMistake_121 (by decide) ?_
          refine s_aload_n dX2_findMistake_122 rfl (Int.natCast_nonneg _) ?_
          have hv13 : gS G o 7 = ((o + 1 : Nat) : Int) := by have h9 : (gS G o 7) = (((o % 1048576) + 1 : Nat) : Int) := hC.1.v (j := 7) (by rw [cde_n (by omega) (by omega)]; omega : cde o = 100) (kne hko (by decide)) (by rw [hko]; exact Nat.le_of_ble_eq_true rfl); omega
          refine s_getf (ci := 5) (k := 7) (C := RX4) (T := TX4) (N := 14) (n := o) (L := 0) (t := 2) dX2_findMistake_123 rfl wi_72 m_592 (Nat.le_of_ble_eq_true rfl) rfl rfl hko hv13 ?_
          refine s_callV (as := [(2, ((o0 + 1 : Nat) : Int)), (2, ((o1 + 1 : Nat) : Int)), (0, (-1)), (2, ((o + 1 : Nat) : Int))]) (rest := []) (n := 327682) (ci := 3) gX2_link dX2_findMistake_126 m_1302 m_928 m_1656 m_716 m_275 ⟨by decide, by decide, show (parseMethodDescriptor yX2_link.desc).map (fun d => d.parameters.length) = some 4 from by decide +kernel⟩ (Nat.le_of_ble_eq_true rfl) (by rw [hcf]; exact Nat.le_of_ble_eq_true rfl) k327682 rfl rfl (Nat.le_of_ble_eq_true rfl) ⟨(PnC G v n), o0 + 1, o1 + 1, (-1), o + 1, a, b, rfl, hC, hab, (by omega), (by omega), (by omega), (by omega), (by exact hf90), (by exact hf91), (by exact hFf), fun rr15 G14 hCG14 hXG14 hfG14 hpG14 => ?_⟩
          have hFG14 : WX (fun x => x = 327683 ∨ x = 327687 ∨ x = 327688 ∨ x = 327684 ∨ (327689 ≤ x ∧ x ≤ 327692) ∨ (262144 ≤ x ∧ x < 262272) ∨ (68097 ≤ x ∧ x ≤ 68119) ∨ (o + 2 ≤ x ∧ x ≤ o + 23)) G G14 := WX.trans WX.rf KX.rf (WX.mono hfG14 rg0)
          have hS_G14 : ThC G14 Hs ∧ TxC G G14 := hTH.wx hC hXG14 hfG14 (hfn.kx KX.rf) rg1.1 rg1.2
          have hTHG14 : ThC G14 Hs := hS_G14.1
          have hnG14 : (n : Int) < nN G14 := by rw [hS_G14.2.1.1]; exact hn
          have hTXG14 : TxC G G14 := hTX.trans hS_G14.2
          have hFfG14 : FPa (PnC G14 v n) G14 (o + 1) := (hpG14).mono (fun x hx => hS_G14.2.pn hTH.2.2.2.1 hn hx)
          show WP kX2_findMistake X 129 [some (2, ((327682 : Nat) : Int)), some (2, ((o : Nat) : Int)), some (2, ((pa : Nat) : Int)), none] [(0, rr15)] G14
          exact s_iret hR dX2_findMistake_129 rfl (hQ rr15 G14 hCG14 hXG14 hFG14 ⟨hTHG14, hTXG14, hFfG14⟩)
        by_cases c6_1 : (gS G o 1) = 1
        · -- case 1
          refine s_tableIn (tgt := 130) (off := 83) dX2_findMistake_47 (by omega) (by omega) (by rw [c6_1]; rfl) (by decide) ?_
          obtain ⟨hq0a, hq0b, hq0c⟩ := hq0 (by omega)
          have hb0 : 0 < npt (gS G o 1) := hn0 (by omega)
          have hk0 := (hC.nd (n := ptC G n 0) ho0 (by omega)).2.1
          have hpr0 := hpr 0 (by rw [hnk]; exact npt_0 (by omega))
          rw [← ho0] at hpr0
          obtain ⟨hq1a, hq1b, hq1c⟩ := hq1 (by omega)
          have hb1 : 1 < npt (gS G o 1) := hn1 (by omega)
          have hk1 := (hC.nd (n := ptC G n 1) ho1 (by omega)).2.1
          have hpr1 := hpr 1 (by rw [hnk]; exact npt_1 (by omega))
          rw [← ho1] at hpr1
          have hf91 : FPa (PnC G v n) G (o1 + 1) := hpr1.2.mono (fun x hx h8 => stC.seal1 (by omega) (hx h8))
          refine s_aload_n dX2_findMistake_130 rfl (Int.natCast_nonneg _) ?_
          refine s_aload_n dX2_findMistake_131 rfl (Int.natCast_nonneg _) ?_
          refine s_aload_n dX2_findMistake_132 rfl (Int.natCast_nonneg _) ?_
          refine s_iconst dX2_findMistake_133 (by decide) ?_
          refine s_aald6 dX2_findMistake_134 hkp (by omega) (by omega) hq0a ?_
          have hv18 : gS G o0 7 = ((o0 + 1 : Nat) : Int) := by have h9 : (gS G o0 7) = (((o0 % 1048576) + 1 : Nat) : Int) := hC.1.v (j := 7) (by rw [cde_n (by omega) (by omega)]; omega : cde o0 = 100) (kne hk0 (by decide)) (by rw [hk0]; exact Nat.le_of_ble_eq_true rfl); omega
          refine s_getf (ci := 5) (k := 7) (C := RX4) (T := TX4) (N := 14) (n := o0) (L := 0) (t := 2) dX2_findMistake_135 rfl wi_72 m_592 (Nat.le_of_ble_eq_true rfl) rfl rfl hk0 hv18 ?_
          refine s_aload_n dX2_findMistake_138 rfl (Int.natCast_nonneg _) ?_
          refine s_iconst dX2_findMistake_139 (by decide) ?_
          refine s_aald6 dX2_findMistake_140 hkp (by omega) (by omega) hq1a ?_
          have hv21 : gS G o1 7 = ((o1 + 1 : Nat) : Int) := by have h9 : (gS G o1 7) = (((o1 % 1048576) + 1 : Nat) : Int) := hC.1.v (j := 7) (by rw [cde_n (by omega) (by omega)]; omega : cde o1 = 100) (kne hk1 (by decide)) (by rw [hk1]; exact Nat.le_of_ble_eq_true rfl); omega
          refine s_getf (ci := 5) (k := 7) (C := RX4) (T := TX4) (N := 14) (n := o1) (L := 0) (t := 2) dX2_findMistake_141 rfl wi_72 m_592 (Nat.le_of_ble_eq_true rfl) rfl rfl hk1 hv21 ?_
          refine s_aload_n dX2_findMistake_144 rfl (Int.natCast_nonneg _) ?_
          have hv22 : gS G o 7 = ((o + 1 : Nat) : Int) := by have h9 : (gS G o 7) = (((o % 1048576) + 1 : Nat) : Int) := hC.1.v (j := 7) (by rw [cde_n (by omega) (by omega)]; omega : cde o = 100) (kne hko (by decide)) (by rw [hko]; exact Nat.le_of_ble_eq_true rfl); omega
          refine s_getf (ci := 5) (k := 7) (C := RX4) (T := TX4) (N := 14) (n := o) (L := 0) (t := 2) dX2_findMistake_145 rfl wi_72 m_592 (Nat.le_of_ble_eq_true rfl) rfl rfl hko hv22 ?_
          refine s_callV (as := [(2, ((o : Nat) : Int)), (2, ((o0 + 1 : Nat) : Int)), (2, ((o1 + 1 : Nat) : Int)), (2, ((o + 1 : Nat) : Int))]) (rest := []) (n := 327682) (ci := 3) gX2_seal dX2_findMistake_148 m_1303 m_934 m_1662 m_716 m_282 ⟨by decide, by decide, show (parseMethodDescriptor yX2_seal.desc).map (fun d => d.parameters.length) = some 4 from by decide +kernel⟩ (Nat.le_of_ble_eq_true rfl) (by rw [hcf]; exact Nat.le_of_ble_eq_true rfl) k327682 rfl rfl (Nat.le_of_ble_eq_true rfl) ⟨o, n, o0 + 1, o1 + 1, o + 1, Hs, v, a, b, rfl, hC, hab, (by assumption), (by assumption), (by assumption), (by assumption), (by omega), (by exact fun _ => hwn), (by exact fun _ => ⟨hpr0.1, hpr1.1⟩), (by omega), (by omega), (by omega), (by omega), (by exact hf91), (by exact hFf), fun rr24 G23 hCG23 hXG23 hfG23 hpG23 => ?_⟩
          have hFG23 : WX (fun x => x = 327683 ∨ x = 327687 ∨ x = 327688 ∨ x = 327684 ∨ (327689 ≤ x ∧ x ≤ 327692) ∨ (262144 ≤ x ∧ x < 262272) ∨ (68097 ≤ x ∧ x ≤ 68119) ∨ (o + 2 ≤ x ∧ x ≤ o + 23)) G G23 := WX.trans WX.rf KX.rf (WX.mono hfG23 rg2)
          have hS_G23 : ThC G23 Hs ∧ TxC G G23 := ⟨hpG23.1, hpG23.2.1⟩
          have hTHG23 : ThC G23 Hs := hS_G23.1
          have hnG23 : (n : Int) < nN G23 := by rw [hS_G23.2.1.1]; exact hn
          have hTXG23 : TxC G G23 := hTX.trans hS_G23.2
          have hFfG23 : FPa (PnC G23 v n) G23 (o + 1) := hpG23.2.2
          show WP kX2_findMistake X 151 [some (2, ((327682 : Nat) : Int)), some (2, ((o : Nat) : Int)), some (2, ((pa : Nat) : Int)), none] [(0, rr24)] G23
          exact s_iret hR dX2_findMistake_151 rfl (hQ rr24 G23 hCG23 hXG23 hFG23 ⟨hTHG23, hTXG23, hFfG23⟩)
        by_cases c6_2 : (gS G o 1) = 2
        · -- case 2
          refine s_tableIn (tgt := 152) (off := 105) dX2_findMistake_47 (by omega) (by omega) (by rw [c6_2]; rfl) (by decide) ?_
          obtain ⟨hq0a, hq0b, hq0c⟩ := hq0 (by omega)
          have hb0 : 0 < npt (gS G o 1) := hn0 (by omega)
          have hk0 := (hC.nd (n := ptC G n 0) ho0 (by omega)).2.1
          have hpr0 := hpr 0 (by rw [hnk]; exact npt_0 (by omega))
          rw [← ho0] at hpr0
          obtain ⟨hq1a, hq1b, hq1c⟩ := hq1 (by omega)
          have hb1 : 1 < npt (gS G o 1) := hn1 (by omega)
          have hk1 := (hC.nd (n := ptC G n 1) ho1 (by omega)).2.1
          have hpr1 := hpr 1 (by rw [hnk]; exact npt_1 (by omega))
          rw [← ho1] at hpr1
          have hf91 : FPa (PnC G v n) G (o1 + 1) := hpr1.2.mono (fun x hx h8 => stC.app1 (by omega) (hx h8))
          refine s_aload_n dX2_findMistake_152 rfl (Int.natCast_nonneg _) ?_
          refine s_aload_n dX2_findMistake_153 rfl (Int.natCast_nonneg _) ?_
          refine s_iconst dX2_findMistake_154 (by decide) ?_
          refine s_aald6 dX2_findMistake_155 hkp (by omega) (by omega) hq0a ?_
          have hv27 : gS G o0 7 = ((o0 + 1 : Nat) : Int) := by have h9 : (gS G o0 7) = (((o0 % 1048576) + 1 : Nat) : Int) := hC.1.v (j := 7) (by rw [cde_n (by omega) (by omega)]; omega : cde o0 = 100) (kne hk0 (by decide)) (by rw [hk0]; exact Nat.le_of_ble_eq_true rfl); omega
          refine s_getf (ci := 5) (k := 7) (C := RX4) (T := TX4) (N := 14) (n := o0) (L := 0) (t := 2) dX2_findMistake_156 rfl wi_72 m_592 (Nat.le_of_ble_eq_true rfl) rfl rfl hk0 hv27 ?_
          refine s_aload_n dX2_findMistake_159 rfl (Int.natCast_nonneg _) ?_
          have hv28 : 0 ≤ (gS G o 5) ∧ (gS G o 5) ≤ 1 := hC.1.v (j := 5) (by rw [cde_n (by omega) (by omega)]; omega : cde o = 100) (kne hko (by decide)) (by rw [hko]; exact Nat.le_of_ble_eq_true rfl)
          refine s_getf (ci := 5) (k := 5) (C := RX4) (T := TX4) (N := 14) (n := o) (L := 0) (t := 0) dX2_findMistake_160 rfl wi_72 m_572 (Nat.le_of_ble_eq_true rfl) rfl rfl hko rfl ?_
          refine s_if_eq (tgt := 173) dX2_findMistake_163 (by decide) (fun c29 => ?_) (fun c29 => ?_)
          · -- 163 to 173
            refine s_aload_n dX2_findMistake_173 rfl (Int.natCast_nonneg _) ?_
            refine s_iconst dX2_findMistake_174 (by decide) ?_
            refine s_aald6 dX2_findMistake_175 hkp (by omega) (by omega) hq1a ?_
            refine s_getf (ci := 5) (k := 10) (C := RX4) (T := TX4) (N := 14) (n := o1) (L := 0) (t := 0) dX2_findMistake_176 rfl wi_72 m_591 (Nat.le_of_ble_eq_true rfl) rfl rfl hk1 rfl ?_
            refine s_callV (as := [(2, ((o0 + 1 : Nat) : Int)), (0, gS G o1 10)]) (rest := []) (n := 327682) (ci := 3) gX2_restampFunctor dX2_findMistake_179 m_1304 m_933 m_1661 m_716 m_281 ⟨by decide, by decide, show (parseMethodDescriptor yX2_restampFunctor.desc).map (fun d => d.parameters.length) = some 2 from by decide +kernel⟩ (Nat.le_of_ble_eq_true rfl) (by rw [hcf]; exact Nat.le_of_ble_eq_true rfl) k327682 rfl rfl (Nat.le_of_ble_eq_true rfl) ⟨o0 + 1, n, gS G o1 10, Hs, v, a, b, rfl, hC, hab, (by omega), (by omega), (by assumption), (by assumption), (by assumption), (by omega), (by exact Or.inr ⟨by rw [hng]; omega, (show idC G v (ptC G n 1) (gS G o1 10) by have h9 := hpr1.1; unfold WhC at h9; rw [← ho1] at h9; exact h9)⟩), (by exact hpr0.2), fun G33 hCG33 hXG33 hfG33 hpG33 => ?_⟩
            have hFG33 : WX (fun x => x = 327683 ∨ x = 327687 ∨ x = 327688 ∨ x = 327684 ∨ (327689 ≤ x ∧ x ≤ 327692) ∨ (262144 ≤ x ∧ x < 262272) ∨ (68097 ≤ x ∧ x ≤ 68119) ∨ (o + 2 ≤ x ∧ x ≤ o + 23)) G G33 := WX.trans WX.rf KX.rf (WX.mono hfG33 rg3)
            have hS_G33 : ThC G33 Hs ∧ TxC G G33 := ⟨hpG33.1, hpG33.2.1⟩
            have hTHG33 : ThC G33 Hs := hS_G33.1
            have hnG33 : (n : Int) < nN G33 := by rw [hS_G33.2.1.1]; exact hn
            have hTXG33 : TxC G G33 := hTX.trans hS_G33.2
            have hFfG33 : FPa (PnC G33 v n) G33 (o + 1) := ((hFf).wx hXG33 hfG33 ⟨KX.al KX.rf (kne kf3 (by decide)), KX.al KX.rf (kne kf4 (by decide))⟩ (by show ¬ _; omega) (by show ¬ _; omega) (fun p hp => by show ¬ _; omega)).mono (fun x hx => hS_G33.2.pn hTH.2.2.2.1 hn hx)
            show WP kX2_findMistake X 182 [some (2, ((327682 : Nat) : Int)), some (2, ((o : Nat) : Int)), some (2, ((pa : Nat) : Int)), none] [] G33
            have hq1aG33 : gS G33 pa 1 = ((o1 : Nat) : Int) := by rw [hFG33 pa (kne hkp (by decide)) (by show ¬ _; omega)]; exact hq1a
            have hcf1 := (hlk.fc hC (o := o1 + 1) (by omega) (hlk.at (kne hk1 (by decide)) (j := 7) (by rw [hk1]; exact Nat.le_of_ble_eq_true rfl) (by rw [hk1]; rfl) (by have h9 : gS G o1 7 = ((o1 % 1048576 + 1 : Nat) : Int) := hC.1.v (c := 100) (j := 7) (by rw [cde_n (by omega) (by omega)]; omega) (kne hk1 (by decide)) (by rw [hk1]; exact Nat.le_of_ble_eq_true rfl); omega))).1
            have hf9bG33 : FPa (PnC G33 v n) G33 (o1 + 1) := (hf91.wx hXG33 hfG33 ⟨kne hcf1.2.2.2.1 (by decide), kne hcf1.2.2.2.2.1 (by decide)⟩ (by show ¬ _; omega) (by show ¬ _; omega) (fun p hp => by show ¬ _; omega)).mono (fun x hx => hS_G33.2.pn hND hn hx)
            have hf9fG33 : FPa (PnC G33 v n) G33 68097 := hpG33.2.2.mono (fun x hx h8 => by obtain ⟨s9, z1, z2⟩ := hx h8; exact stC.appA (by rw [(hTXG33.1.2 n hn).1]; omega) z1 z2)
            refine s_aload_n dX2_findMistake_182 rfl (Int.natCast_nonneg _) ?_
            refine s_aload_n dX2_findMistake_183 rfl (Int.natCast_nonneg _) ?_
            have hk35 : gK G33 (327682) = (11, 0) := ((hXG33).k k327682 (by decide))
            refine s_alv (327682) (by simp) (fun (al36 : AL G33 327682) => ?_)
            have hv37 : gS G33 327682 5 = ((68097 : Nat) : Int) := by have h9 : (gS G33 327682 5) = 68097 := hCG33.1.v (j := 5) (by decide : cde 327682 = 502) al36 (by rw [hk35]; exact Nat.le_of_ble_eq_true rfl); omega
            refine s_getf (ci := 3) (k := 5) (C := RX2) (T := TX2) (N := 8) (n := 327682) (L := 0) (t := 2) dX2_findMistake_184 rfl wi_70 m_581 (Nat.le_of_ble_eq_true rfl) rfl rfl hk35 hv37 ?_
            refine s_aload_n dX2_findMistake_187 rfl (Int.natCast_nonneg _) ?_
            refine s_iconst dX2_findMistake_188 (by decide) ?_
            have hk38 : gK G33 (pa) = (6, npt (gS G o 1)) := ((hXG33).k hkp (by decide))
            refine s_alv (pa) (by simp) (fun (al39 : AL G33 pa) => ?_)
            refine s_aald6 dX2_findMistake_189 hk38 (by omega) (by omega) hq1aG33 ?_
            have hk42 : gK G33 (o1) = (13, 0) := ((hXG33).k hk1 (by decide))
            refine s_alv (o1) (by simp) (fun (al43 : AL G33 o1) => ?_)
            have hv44 : gS G33 o1 7 = ((o1 + 1 : Nat) : Int) := by have h9 : (gS G33 o1 7) = (((o1 % 1048576) + 1 : Nat) : Int) := hCG33.1.v (j := 7) (by rw [cde_n (by omega) (by omega)]; omega : cde o1 = 100) al43 (by rw [hk42]; exact Nat.le_of_ble_eq_true rfl); omega
            refine s_getf (ci := 5) (k := 7) (C := RX4) (T := TX4) (N := 14) (n := o1) (L := 0) (t := 2) dX2_findMistake_190 rfl wi_72 m_592 (Nat.le_of_ble_eq_true rfl) rfl rfl hk42 hv44 ?_
            refine s_aload_n dX2_findMistake_193 rfl (Int.natCast_nonneg _) ?_
            have hv45 : gS G33 327682 5 = ((68097 : Nat) : Int) := by have h9 : (gS G33 327682 5) = 68097 := hCG33.1.v (j := 5) (by decide : cde 327682 = 502) al36 (by rw [hk35]; exact Nat.le_of_ble_eq_true rfl); omega
            refine s_getf (ci := 3) (k := 5) (C := RX2) (T := TX2) (N := 8) (n := 327682) (L := 0) (t := 2) dX2_findMistake_194 rfl wi_70 m_581 (Nat.le_of_ble_eq_true rfl) rfl rfl hk35 hv45 ?_
            have hk48 : gK G33 (68097) = (9, 0) := ((hXG33).k k68097 (by decide))
            refine s_callV (as := []) (rest := [(2, ((o1 + 1 : Nat) : Int)), (2, ((68097 : Nat) : Int)), (2, ((327682 : Nat) : Int))]) (n := 68097) (ci := 1) gX0_valueNames dX2_findMistake_197 m_1305 m_753 m_1486 m_711 m_80 ⟨by decide, by decide, show (parseMethodDescriptor yX0_valueNames.desc).map (fun d => d.parameters.length) = some 0 from by decide +kernel⟩ (Nat.le_of_ble_eq_true rfl) (by rw [hcf]; exact Nat.le_of_ble_eq_true rfl) hk48 rfl rfl (Nat.le_of_ble_eq_true rfl) ⟨68097, a, b, rfl, hCG33, hab, (by first | assumption | omega), fun rr46 hp47 => ?_⟩
            show WP kX2_findMistake X 200 [some (2, ((327682 : Nat) : Int)), some (2, ((o : Nat) : Int)), some (2, ((pa : Nat) : Int)), none] [(0, rr46), (2, ((o1 + 1 : Nat) : Int)), (2, ((68097 : Nat) : Int)), (2, ((327682 : Nat) : Int))] G33
            refine s_aload_n dX2_findMistake_200 rfl (Int.natCast_nonneg _) ?_
            have hk49 : gK G33 (o) = (13, 0) := ((hXG33).k hko (by decide))
            refine s_alv (o) (by simp) (fun (al50 : AL G33 o) => ?_)
            have hv51 : gS G33 o 7 = ((o + 1 : Nat) : Int) := by have h9 : (gS G33 o 7) = (((o % 1048576) + 1 : Nat) : Int) := hCG33.1.v (j := 7) (by rw [cde_n (by omega) (by omega)]; omega : cde o = 100) al50 (by rw [hk49]; exact Nat.le_of_ble_eq_true rfl); omega
            refine s_getf (ci := 5) (k := 7) (C := RX4) (T := TX4) (N := 14) (n := o) (L := 0) (t := 2) dX2_findMistake_201 rfl wi_72 m_592 (Nat.le_of_ble_eq_true rfl) rfl rfl hk49 hv51 ?_
            refine s_callV (as := [(2, ((68097 : Nat) : Int)), (2, ((o1 + 1 : Nat) : Int)), (0, rr46), (2, ((o + 1 : Nat) : Int))]) (rest := []) (n := 327682) (ci := 3) gX2_link dX2_findMistake_204 m_1302 m_928 m_1656 m_716 m_275 ⟨by decide, by decide, show (parseMethodDescriptor yX2_link.desc).map (fun d => d.parameters.length) = some 4 from by decide +kernel⟩ (Nat.le_of_ble_eq_true rfl) (by rw [hcf]; exact Nat.le_of_ble_eq_true rfl) hk35 rfl rfl (Nat.le_of_ble_eq_true rfl) ⟨(PnC G33 v n), 68097, o1 + 1, rr46, o + 1, a, b, rfl, hCG33, hab, (by omega), (by omega), (by omega), (by omega), (by exact hf9fG33), (by exact hf9bG33), (by exact hFfG33), fun rr53 G52 hCG52 hXG52 hfG52 hpG52 => ?_⟩
            have hFG52 : WX (fun x => x = 327683 ∨ x = 327687 ∨ x = 327688 ∨ x = 327684 ∨ (327689 ≤ x ∧ x ≤ 327692) ∨ (262144 ≤ x ∧ x < 262272) ∨ (68097 ≤ x ∧ x ≤ 68119) ∨ (o + 2 ≤ x ∧ x ≤ o + 23)) G G52 := WX.trans hFG33 hXG33 (WX.mono hfG52 rg0)
            have hS_G52 : ThC G52 Hs ∧ TxC G33 G52 := hTHG33.wx hCG33 hXG52 hfG52 (hfn.kx hXG33) rg1.1 rg1.2
            have hTHG52 : ThC G52 Hs := hS_G52.1
            have hnG52 : (n : Int) < nN G52 := by rw [hS_G52.2.1.1]; exact hnG33
            have hTXG52 : TxC G G52 := hTXG33.trans hS_G52.2
            have hFfG52 : FPa (PnC G52 v n) G52 (o + 1) := (hpG52).mono (fun x hx => hS_G52.2.pn hTHG33.2.2.2.1 hnG33 hx)
            show WP kX2_findMistake X 207 [some (2, ((327682 : Nat) : Int)), some (2, ((o : Nat) : Int)), some (2, ((pa : Nat) : Int)), none] [(0, rr53)] G52
            refine s_istore_n dX2_findMistake_207 (by decide) (lv' := [some (2, ((327682 : Nat) : Int)), some (2, ((o : Nat) : Int)), some (2, ((pa : Nat) : Int)), some (0, rr53)]) rfl ?_
            refine s_iload_n dX2_findMistake_208 rfl ?_
            refine s_if_eq (tgt := 216) dX2_findMistake_209 (by decide) (fun c54 => ?_) (fun c54 => ?_)
            · -- 209 to 216
              have hq1aG52 : gS G52 pa 1 = ((o1 : Nat) : Int) := by rw [hFG52 pa (kne hkp (by decide)) (by show ¬ _; omega)]; exact hq1a
              refine s_aload_n dX2_findMistake_216 rfl (Int.natCast_nonneg _) ?_
              refine s_aload_n dX2_findMistake_217 rfl (Int.natCast_nonneg _) ?_
              refine s_iconst dX2_findMistake_218 (by decide) ?_
              have hk55 : gK G52 (pa) = (6, npt (gS G o 1)) := ((hXG52).k hk38 (by decide))
              refine s_alv (pa) (by simp) (fun (al56 : AL G52 pa) => ?_)
              refine s_aald6 dX2_findMistake_219 hk55 (by omega) (by omega) hq1aG52 ?_
              have hk59 : gK G52 (o1) = (13, 0) := ((hXG52).k hk42 (by decide))
              refine s_alv (o1) (by simp) (fun (al60 : AL G52 o1) => ?_)
              have hv61 : gS G52 o1 7 = ((o1 + 1 : Nat) : Int) := by have h9 : (gS G52 o1 7) = (((o1 % 1048576) + 1 : Nat) : Int) := hCG52.1.v (j := 7) (by rw [cde_n (by omega) (by omega)]; omega : cde o1 = 100) al60 (by rw [hk59]; exact Nat.le_of_ble_eq_true rfl); omega
              refine s_getf (ci := 5) (k := 7) (C := RX4) (T := TX4) (N := 14) (n := o1) (L := 0) (t := 2) dX2_findMistake_220 rfl wi_72 m_592 (Nat.le_of_ble_eq_true rfl) rfl rfl hk59 hv61 ?_
              refine s_aload_n dX2_findMistake_223 rfl (Int.natCast_nonneg _) ?_
              have hk62 : gK G52 (o) = (13, 0) := ((hXG52).k hk49 (by decide))
              refine s_alv (o) (by simp) (fun (al63 : AL G52 o) => ?_)
              have hv64 : gS G52 o 7 = ((o + 1 : Nat) : Int) := by have h9 : (gS G52 o 7) = (((o % 1048576) + 1 : Nat) : Int) := hCG52.1.v (j := 7) (by rw [cde_n (by omega) (by omega)]; omega : cde o = 100) al63 (by rw [hk62]; exact Nat.le_of_ble_eq_true rfl); omega
              refine s_getf (ci := 5) (k := 7) (C := RX4) (T := TX4) (N := 14) (n := o) (L := 0) (t := 2) dX2_findMistake_224 rfl wi_72 m_592 (Nat.le_of_ble_eq_true rfl) rfl rfl hk62 hv64 ?_
              have hk67 : gK G52 (327682) = (11, 0) := ((hXG52).k hk35 (by decide))
              refine s_callV (as := [(2, ((o1 + 1 : Nat) : Int)), (2, ((o + 1 : Nat) : Int))]) (rest := []) (n := 327682) (ci := 3) gX2_applied dX2_findMistake_227 m_1306 m_920 m_1649 m_716 m_262 ⟨by decide, by decide, show (parseMethodDescriptor yX2_applied.desc).map (fun d => d.parameters.length) = some 2 from by decide +kernel⟩ (Nat.le_of_ble_eq_true rfl) (by rw [hcf]; exact Nat.le_of_ble_eq_true rfl) hk67 rfl rfl (Nat.le_of_ble_eq_true rfl) ⟨(PnC G52 v n), o1 + 1, o + 1, a, b, rfl, hCG52, hab, (by omega), (by omega), (by omega), (by omega), (by exact hFfG52), fun rr66 G65 hCG65 hXG65 hfG65 hpG65 => ?_⟩
              have hFG65 : WX (fun x => x = 327683 ∨ x = 327687 ∨ x = 327688 ∨ x = 327684 ∨ (327689 ≤ x ∧ x ≤ 327692) ∨ (262144 ≤ x ∧ x < 262272) ∨ (68097 ≤ x ∧ x ≤ 68119) ∨ (o + 2 ≤ x ∧ x ≤ o + 23)) G G65 := WX.trans hFG52 (KX.trans hXG33 hXG52) (WX.mono hfG65 rg4)
              have hS_G65 : ThC G65 Hs ∧ TxC G52 G65 := hTHG52.wx hCG52 hXG65 hfG65 (hfn.kx (KX.trans hXG33 hXG52)) rg5.1 rg5.2
              have hTHG65 : ThC G65 Hs := hS_G65.1
              have hnG65 : (n : Int) < nN G65 := by rw [hS_G65.2.1.1]; exact hnG52
              have hTXG65 : TxC G G65 := hTXG52.trans hS_G65.2
              have hFfG65 : FPa (PnC G65 v n) G65 (o + 1) := (hpG65).mono (fun x hx => hS_G65.2.pn hTHG52.2.2.2.1 hnG52 hx)
              show WP kX2_findMistake X 230 [some (2, ((327682 : Nat) : Int)), some (2, ((o : Nat) : Int)), some (2, ((pa : Nat) : Int)), some (0, rr53)] [(0, rr66)] G65
              exact s_iret hR dX2_findMistake_230 rfl (hQ rr66 G65 hCG65 (KX.trans (KX.trans hXG33 hXG52) hXG65) hFG65 ⟨hTHG65, hTXG65, hFfG65⟩)
            · -- 209 to 212
              refine s_iload_n dX2_findMistake_212 rfl ?_
              refine s_goto (tgt := 230) dX2_findMistake_213 (by decide) ?_
              exact s_iret hR dX2_findMistake_230 rfl (hQ rr53 G52 hCG52 (KX.trans hXG33 hXG52) hFG52 ⟨hTHG52, hTXG52, hFfG52⟩)
          · -- 163 to 166
            refine s_aload_n dX2_findMistake_166 rfl (Int.natCast_nonneg _) ?_
            refine s_getf (ci := 5) (k := 10) (C := RX4) (T := TX4) (N := 14) (n := o) (L := 0) (t := 0) dX2_findMistake_167 rfl wi_72 m_591 (Nat.le_of_ble_eq_true rfl) rfl rfl hko rfl ?_
            refine s_goto (tgt := 179) dX2_findMistake_170 (by decide) ?_
            refine s_callV (as := [(2, ((o0 + 1 : Nat) : Int)), (0, gS G o 10)]) (rest := []) (n := 327682) (ci := 3) gX2_restampFunctor dX2_findMistake_179 m_1304 m_933 m_1661 m_716 m_281 ⟨by decide, by decide, show (parseMethodDescriptor yX2_restampFunctor.desc).map (fun d => d.parameters.length) = some 2 from by decide +kernel⟩ (Nat.le_of_ble_eq_true rfl) (by rw [hcf]; exact Nat.le_of_ble_eq_true rfl) k327682 rfl rfl (Nat.le_of_ble_eq_true rfl) ⟨o0 + 1, n, gS G o 10, Hs, v, a, b, rfl, hC, hab, (by omega), (by omega), (by assumption), (by assumption), (by assumption), (by omega), (by exact Or.inl ⟨by rw [hng]; omega, (show idC G v n (gS G o 10) by have h9 := hwn; unfold WhC at h9; rw [← ho9] at h9; exact h9)⟩), (by exact hpr0.2), fun G69 hCG69 hXG69 hfG69 hpG69 => ?_⟩
            have hFG69 : WX (fun x => x = 327683 ∨ x = 327687 ∨ x = 327688 ∨ x = 327684 ∨ (327689 ≤ x ∧ x ≤ 327692) ∨ (262144 ≤ x ∧ x < 262272) ∨ (68097 ≤ x ∧ x ≤ 68119) ∨ (o + 2 ≤ x ∧ x ≤ o + 23)) G G69 := WX.trans WX.rf KX.rf (WX.mono hfG69 rg3)
            have hS_G69 : ThC G69 Hs ∧ TxC G G69 := ⟨hpG69.1, hpG69.2.1⟩
            have hTHG69 : ThC G69 Hs := hS_G69.1
            have hnG69 : (n : Int) < nN G69 := by rw [hS_G69.2.1.1]; exact hn
            have hTXG69 : TxC G G69 := hTX.trans hS_G69.2
            have hFfG69 : FPa (PnC G69 v n) G69 (o + 1) := ((hFf).wx hXG69 hfG69 ⟨KX.al KX.rf (kne kf3 (by decide)), KX.al KX.rf (kne kf4 (by decide))⟩ (by show ¬ _; omega) (by show ¬ _; omega) (fun p hp => by show ¬ _; omega)).mono (fun x hx => hS_G69.2.pn hTH.2.2.2.1 hn hx)
            show WP kX2_findMistake X 182 [some (2, ((327682 : Nat) : Int)), some (2, ((o : Nat) : Int)), some (2, ((pa : Nat) : Int)), none] [] G69
            have hq1aG69 : gS G69 pa 1 = ((o1 : Nat) : Int) := by rw [hFG69 pa (kne hkp (by decide)) (by show ¬ _; omega)]; exact hq1a
            have hcf1 := (hlk.fc hC (o := o1 + 1) (by omega) (hlk.at (kne hk1 (by decide)) (j := 7) (by rw [hk1]; exact Nat.le_of_ble_eq_true rfl) (by rw [hk1]; rfl) (by have h9 : gS G o1 7 = ((o1 % 1048576 + 1 : Nat) : Int) := hC.1.v (c := 100) (j := 7) (by rw [cde_n (by omega) (by omega)]; omega) (kne hk1 (by decide)) (by rw [hk1]; exact Nat.le_of_ble_eq_true rfl); omega))).1
            have hf9bG69 : FPa (PnC G69 v n) G69 (o1 + 1) := (hf91.wx hXG69 hfG69 ⟨kne hcf1.2.2.2.1 (by decide), kne hcf1.2.2.2.2.1 (by decide)⟩ (by show ¬ _; omega) (by show ¬ _; omega) (fun p hp => by show ¬ _; omega)).mono (fun x hx => hS_G69.2.pn hND hn hx)
            have hf9fG69 : FPa (PnC G69 v n) G69 68097 := hpG69.2.2.mono (fun x hx h8 => by obtain ⟨s9, z1, z2⟩ := hx h8; exact stC.appA (by rw [(hTXG69.1.2 n hn).1]; omega) z1 z2)
            refine s_aload_n dX2_findMistake_182 rfl (Int.natCast_nonneg _) ?_
            refine s_aload_n dX2_findMistake_183 rfl (Int.natCast_nonneg _) ?_
            have hk71 : gK G69 (327682) = (11, 0) := ((hXG69).k k327682 (by decide))
            refine s_alv (327682) (by simp) (fun (al72 : AL G69 327682) => ?_)
            have hv73 : gS G69 327682 5 = ((68097 : Nat) : Int) := by have h9 : (gS G69 327682 5) = 68097 := hCG69.1.v (j := 5) (by decide : cde 327682 = 502) al72 (by rw [hk71]; exact Nat.le_of_ble_eq_true rfl); omega
            refine s_getf (ci := 3) (k := 5) (C := RX2) (T := TX2) (N := 8) (n := 327682) (L := 0) (t := 2) dX2_findMistake_184 rfl wi_70 m_581 (Nat.le_of_ble_eq_true rfl) rfl rfl hk71 hv73 ?_
            refine s_aload_n dX2_findMistake_187 rfl (Int.natCast_nonneg _) ?_
            refine s_iconst dX2_findMistake_188 (by decide) ?_
            have hk74 : gK G69 (pa) = (6, npt (gS G o 1)) := ((hXG69).k hkp (by decide))
            refine s_alv (pa) (by simp) (fun (al75 : AL G69 pa) => ?_)
            refine s_aald6 dX2_findMistake_189 hk74 (by omega) (by omega) hq1aG69 ?_
            have hk78 : gK G69 (o1) = (13, 0) := ((hXG69).k hk1 (by decide))
            refine s_alv (o1) (by simp) (fun (al79 : AL G69 o1) => ?_)
            have hv80 : gS G69 o1 7 = ((o1 + 1 : Nat) : Int) := by have h9 : (gS G69 o1 7) = (((o1 % 1048576) + 1 : Nat) : Int) := hCG69.1.v (j := 7) (by rw [cde_n (by omega) (by omega)]; omega : cde o1 = 100) al79 (by rw [hk78]; exact Nat.le_of_ble_eq_true rfl); omega
            refine s_getf (ci := 5) (k := 7) (C := RX4) (T := TX4) (N := 14) (n := o1) (L := 0) (t := 2) dX2_findMistake_190 rfl wi_72 m_592 (Nat.le_of_ble_eq_true rfl) rfl rfl hk78 hv80 ?_
            refine s_aload_n dX2_findMistake_193 rfl (Int.natCast_nonneg _) ?_
            have hv81 : gS G69 327682 5 = ((68097 : Nat) : Int) := by have h9 : (gS G69 327682 5) = 68097 := hCG69.1.v (j := 5) (by decide : cde 327682 = 502) al72 (by rw [hk71]; exact Nat.le_of_ble_eq_true rfl); omega
            refine s_getf (ci := 3) (k := 5) (C := RX2) (T := TX2) (N := 8) (n := 327682) (L := 0) (t := 2) dX2_findMistake_194 rfl wi_70 m_581 (Nat.le_of_ble_eq_true rfl) rfl rfl hk71 hv81 ?_
            have hk84 : gK G69 (68097) = (9, 0) := ((hXG69).k k68097 (by decide))
            refine s_callV (as := []) (rest := [(2, ((o1 + 1 : Nat) : Int)), (2, ((68097 : Nat) : Int)), (2, ((327682 : Nat) : Int))]) (n := 68097) (ci := 1) gX0_valueNames dX2_findMistake_197 m_1305 m_753 m_1486 m_711 m_80 ⟨by decide, by decide, show (parseMethodDescriptor yX0_valueNames.desc).map (fun d => d.parameters.length) = some 0 from by decide +kernel⟩ (Nat.le_of_ble_eq_true rfl) (by rw [hcf]; exact Nat.le_of_ble_eq_true rfl) hk84 rfl rfl (Nat.le_of_ble_eq_true rfl) ⟨68097, a, b, rfl, hCG69, hab, (by first | assumption | omega), fun rr82 hp83 => ?_⟩
            show WP kX2_findMistake X 200 [some (2, ((327682 : Nat) : Int)), some (2, ((o : Nat) : Int)), some (2, ((pa : Nat) : Int)), none] [(0, rr82), (2, ((o1 + 1 : Nat) : Int)), (2, ((68097 : Nat) : Int)), (2, ((327682 : Nat) : Int))] G69
            refine s_aload_n dX2_findMistake_200 rfl (Int.natCast_nonneg _) ?_
            have hk85 : gK G69 (o) = (13, 0) := ((hXG69).k hko (by decide))
            refine s_alv (o) (by simp) (fun (al86 : AL G69 o) => ?_)
            have hv87 : gS G69 o 7 = ((o + 1 : Nat) : Int) := by have h9 : (gS G69 o 7) = (((o % 1048576) + 1 : Nat) : Int) := hCG69.1.v (j := 7) (by rw [cde_n (by omega) (by omega)]; omega : cde o = 100) al86 (by rw [hk85]; exact Nat.le_of_ble_eq_true rfl); omega
            refine s_getf (ci := 5) (k := 7) (C := RX4) (T := TX4) (N := 14) (n := o) (L := 0) (t := 2) dX2_findMistake_201 rfl wi_72 m_592 (Nat.le_of_ble_eq_true rfl) rfl rfl hk85 hv87 ?_
            refine s_callV (as := [(2, ((68097 : Nat) : Int)), (2, ((o1 + 1 : Nat) : Int)), (0, rr82), (2, ((o + 1 : Nat) : Int))]) (rest := []) (n := 327682) (ci := 3) gX2_link dX2_findMistake_204 m_1302 m_928 m_1656 m_716 m_275 ⟨by decide, by decide, show (parseMethodDescriptor yX2_link.desc).map (fun d => d.parameters.length) = some 4 from by decide +kernel⟩ (Nat.le_of_ble_eq_true rfl) (by rw [hcf]; exact Nat.le_of_ble_eq_true rfl) hk71 rfl rfl (Nat.le_of_ble_eq_true rfl) ⟨(PnC G69 v n), 68097, o1 + 1, rr82, o + 1, a, b, rfl, hCG69, hab, (by omega), (by omega), (by omega), (by omega), (by exact hf9fG69), (by exact hf9bG69), (by exact hFfG69), fun rr89 G88 hCG88 hXG88 hfG88 hpG88 => ?_⟩
            have hFG88 : WX (fun x => x = 327683 ∨ x = 327687 ∨ x = 327688 ∨ x = 327684 ∨ (327689 ≤ x ∧ x ≤ 327692) ∨ (262144 ≤ x ∧ x < 262272) ∨ (68097 ≤ x ∧ x ≤ 68119) ∨ (o + 2 ≤ x ∧ x ≤ o + 23)) G G88 := WX.trans hFG69 hXG69 (WX.mono hfG88 rg0)
            have hS_G88 : ThC G88 Hs ∧ TxC G69 G88 := hTHG69.wx hCG69 hXG88 hfG88 (hfn.kx hXG69) rg1.1 rg1.2
            have hTHG88 : ThC G88 Hs := hS_G88.1
            have hnG88 : (n : Int) < nN G88 := by rw [hS_G88.2.1.1]; exact hnG69
            have hTXG88 : TxC G G88 := hTXG69.trans hS_G88.2
            have hFfG88 : FPa (PnC G88 v n) G88 (o + 1) := (hpG88).mono (fun x hx => hS_G88.2.pn hTHG69.2.2.2.1 hnG69 hx)
            show WP kX2_findMistake X 207 [some (2, ((327682 : Nat) : Int)), some (2, ((o : Nat) : Int)), some (2, ((pa : Nat) : Int)), none] [(0, rr89)] G88
            refine s_istore_n dX2_findMistake_207 (by decide) (lv' := [some (2, ((327682 : Nat) : Int)), some (2, ((o : Nat) : Int)), some (2, ((pa : Nat) : Int)), some (0, rr89)]) rfl ?_
            refine s_iload_n dX2_findMistake_208 rfl ?_
            refine s_if_eq (tgt := 216) dX2_findMistake_209 (by decide) (fun c90 => ?_) (fun c90 => ?_)
            · -- 209 to 216
              have hq1aG88 : gS G88 pa 1 = ((o1 : Nat) : Int) := by rw [hFG88 pa (kne hkp (by decide)) (by show ¬ _; omega)]; exact hq1a
              refine s_aload_n dX2_findMistake_216 rfl (Int.natCast_nonneg _) ?_
              refine s_aload_n dX2_findMistake_217 rfl (Int.natCast_nonneg _) ?_
              refine s_iconst dX2_findMistake_218 (by decide) ?_
              have hk91 : gK G88 (pa) = (6, npt (gS G o 1)) := ((hXG88).k hk74 (by decide))
              refine s_alv (pa) (by simp) (fun (al92 : AL G88 pa) => ?_)
              refine s_aald6 dX2_findMistake_219 hk91 (by omega) (by omega) hq1aG88 ?_
              have hk95 : gK G88 (o1) = (13, 0) := ((hXG88).k hk78 (by decide))
              refine s_alv (o1) (by simp) (fun (al96 : AL G88 o1) => ?_)
              have hv97 : gS G88 o1 7 = ((o1 + 1 : Nat) : Int) := by have h9 : (gS G88 o1 7) = (((o1 % 1048576) + 1 : Nat) : Int) := hCG88.1.v (j := 7) (by rw [cde_n (by omega) (by omega)]; omega : cde o1 = 100) al96 (by rw [hk95]; exact Nat.le_of_ble_eq_true rfl); omega
              refine s_getf (ci := 5) (k := 7) (C := RX4) (T := TX4) (N := 14) (n := o1) (L := 0) (t := 2) dX2_findMistake_220 rfl wi_72 m_592 (Nat.le_of_ble_eq_true rfl) rfl rfl hk95 hv97 ?_
              refine s_aload_n dX2_findMistake_223 rfl (Int.natCast_nonneg _) ?_
              have hk98 : gK G88 (o) = (13, 0) := ((hXG88).k hk85 (by decide))
              refine s_alv (o) (by simp) (fun (al99 : AL G88 o) => ?_)
              have hv100 : gS G88 o 7 = ((o + 1 : Nat) : Int) := by have h9 : (gS G88 o 7) = (((o % 1048576) + 1 : Nat) : Int) := hCG88.1.v (j := 7) (by rw [cde_n (by omega) (by omega)]; omega : cde o = 100) al99 (by rw [hk98]; exact Nat.le_of_ble_eq_true rfl); omega
              refine s_getf (ci := 5) (k := 7) (C := RX4) (T := TX4) (N := 14) (n := o) (L := 0) (t := 2) dX2_findMistake_224 rfl wi_72 m_592 (Nat.le_of_ble_eq_true rfl) rfl rfl hk98 hv100 ?_
              have hk103 : gK G88 (327682) = (11, 0) := ((hXG88).k hk71 (by decide))
              refine s_callV (as := [(2, ((o1 + 1 : Nat) : Int)), (2, ((o + 1 : Nat) : Int))]) (rest := []) (n := 327682) (ci := 3) gX2_applied dX2_findMistake_227 m_1306 m_920 m_1649 m_716 m_262 ⟨by decide, by decide, show (parseMethodDescriptor yX2_applied.desc).map (fun d => d.parameters.length) = some 2 from by decide +kernel⟩ (Nat.le_of_ble_eq_true rfl) (by rw [hcf]; exact Nat.le_of_ble_eq_true rfl) hk103 rfl rfl (Nat.le_of_ble_eq_true rfl) ⟨(PnC G88 v n), o1 + 1, o + 1, a, b, rfl, hCG88, hab, (by omega), (by omega), (by omega), (by omega), (by exact hFfG88), fun rr102 G101 hCG101 hXG101 hfG101 hpG101 => ?_⟩
              have hFG101 : WX (fun x => x = 327683 ∨ x = 327687 ∨ x = 327688 ∨ x = 327684 ∨ (327689 ≤ x ∧ x ≤ 327692) ∨ (262144 ≤ x ∧ x < 262272) ∨ (68097 ≤ x ∧ x ≤ 68119) ∨ (o + 2 ≤ x ∧ x ≤ o + 23)) G G101 := WX.trans hFG88 (KX.trans hXG69 hXG88) (WX.mono hfG101 rg4)
              have hS_G101 : ThC G101 Hs ∧ TxC G88 G101 := hTHG88.wx hCG88 hXG101 hfG101 (hfn.kx (KX.trans hXG69 hXG88)) rg5.1 rg5.2
              have hTHG101 : ThC G101 Hs := hS_G101.1
              have hnG101 : (n : Int) < nN G101 := by rw [hS_G101.2.1.1]; exact hnG88
              have hTXG101 : TxC G G101 := hTXG88.trans hS_G101.2
              have hFfG101 : FPa (PnC G101 v n) G101 (o + 1) := (hpG101).mono (fun x hx => hS_G101.2.pn hTHG88.2.2.2.1 hnG88 hx)
              show WP kX2_findMistake X 230 [some (2, ((327682 : Nat) : Int)), some (2, ((o : Nat) : Int)), some (2, ((pa : Nat) : Int)), some (0, rr89)] [(0, rr102)] G101
              exact s_iret hR dX2_findMistake_230 rfl (hQ rr102 G101 hCG101 (KX.trans (KX.trans hXG69 hXG88) hXG101) hFG101 ⟨hTHG101, hTXG101, hFfG101⟩)
            · -- 209 to 212
              refine s_iload_n dX2_findMistake_212 rfl ?_
              refine s_goto (tgt := 230) dX2_findMistake_213 (by decide) ?_
              exact s_iret hR dX2_findMistake_230 rfl (hQ rr89 G88 hCG88 (KX.trans hXG69 hXG88) hFG88 ⟨hTHG88, hTXG88, hFfG88⟩)
        by_cases c6_3 : (gS G o 1) = 3
        · -- case 3
          refine s_tableIn (tgt := 231) (off := 184) dX2_findMistake_47 (by omega) (by omega) (by rw [c6_3]; rfl) (by decide) ?_
          obtain ⟨hq0a, hq0b, hq0c⟩ := hq0 (by omega)
          have hb0 : 0 < npt (gS G o 1) := hn0 (by omega)
          have hk0 := (hC.nd (n := ptC G n 0) ho0 (by omega)).2.1
          have hpr0 := hpr 0 (by rw [hnk]; exact npt_0 (by omega))
          rw [← ho0] at hpr0
          obtain ⟨hq1a, hq1b, hq1c⟩ := hq1 (by omega)
          have hb1 : 1 < npt (gS G o 1) := hn1 (by omega)
          have hk1 := (hC.nd (n := ptC G n 1) ho1 (by omega)).2.1
          have hpr1 := hpr 1 (by rw [hnk]; exact npt_1 (by omega))
          rw [← ho1] at hpr1
          obtain ⟨hq2a, hq2b, hq2c⟩ := hq2 (by omega)
          have hb2 : 2 < npt (gS G o 1) := hn2 (by omega)
          have hk2 := (hC.nd (n := ptC G n 2) ho2 (by omega)).2.1
          have hpr2 := hpr 2 (by rw [hnk]; exact npt_2 (by omega))
          rw [← ho2] at hpr2
          have hf90 : FPa (PnC G v n) G (o0 + 1) := hpr0.2.mono (fun x hx h8 => stC.ch0 (by omega) (hx h8))
          refine s_aload_n dX2_findMistake_231 rfl (Int.natCast_nonneg _) ?_
          refine s_aload_n dX2_findMistake_232 rfl (Int.natCast_nonneg _) ?_
          refine s_aload_n dX2_findMistake_233 rfl (Int.natCast_nonneg _) ?_
          refine s_iconst dX2_findMistake_234 (by decide) ?_
          refine s_aald6 dX2_findMistake_235 hkp (by omega) (by omega) hq0a ?_
          have hv106 : gS G o0 7 = ((o0 + 1 : Nat) : Int) := by have h9 : (gS G o0 7) = (((o0 % 1048576) + 1 : Nat) : Int) := hC.1.v (j := 7) (by rw [cde_n (by omega) (by omega)]; omega : cde o0 = 100) (kne hk0 (by decide)) (by rw [hk0]; exact Nat.le_of_ble_eq_true rfl); omega
          refine s_getf (ci := 5) (k := 7) (C := RX4) (T := TX4) (N := 14) (n := o0) (L := 0) (t := 2) dX2_findMistake_236 rfl wi_72 m_592 (Nat.le_of_ble_eq_true rfl) rfl rfl hk0 hv106 ?_
          refine s_aload_n dX2_findMistake_239 rfl (Int.natCast_nonneg _) ?_
          refine s_iconst dX2_findMistake_240 (by decide) ?_
          refine s_aald6 dX2_findMistake_241 hkp (by omega) (by omega) hq1a ?_
          have hv109 : gS G o1 7 = ((o1 + 1 : Nat) : Int) := by have h9 : (gS G o1 7) = (((o1 % 1048576) + 1 : Nat) : Int) := hC.1.v (j := 7) (by rw [cde_n (by omega) (by omega)]; omega : cde o1 = 100) (kne hk1 (by decide)) (by rw [hk1]; exact Nat.le_of_ble_eq_true rfl); omega
          refine s_getf (ci := 5) (k := 7) (C := RX4) (T := TX4) (N := 14) (n := o1) (L := 0) (t := 2) dX2_findMistake_242 rfl wi_72 m_592 (Nat.le_of_ble_eq_true rfl) rfl rfl hk1 hv109 ?_
          refine s_aload_n dX2_findMistake_245 rfl (Int.natCast_nonneg _) ?_
          refine s_iconst dX2_findMistake_246 (by decide) ?_
          refine s_aald6 dX2_findMistake_247 hkp (by omega) (by omega) hq2a ?_
          have hv112 : gS G o2 7 = ((o2 + 1 : Nat) : Int) := by have h9 : (gS G o2 7) = (((o2 % 1048576) + 1 : Nat) : Int) := hC.1.v (j := 7) (by rw [cde_n (by omega) (by omega)]; omega : cde o2 = 100) (kne hk2 (by decide)) (by rw [hk2]; exact Nat.le_of_ble_eq_true rfl); omega
          refine s_getf (ci := 5) (k := 7) (C := RX4) (T := TX4) (N := 14) (n := o2) (L := 0) (t := 2) dX2_findMistake_248 rfl wi_72 m_592 (Nat.le_of_ble_eq_true rfl) rfl rfl hk2 hv112 ?_
          refine s_callV (as := [(2, ((o : Nat) : Int)), (2, ((o0 + 1 : Nat) : Int)), (2, ((o1 + 1 : Nat) : Int)), (2, ((o2 + 1 : Nat) : Int))]) (rest := []) (n := 327682) (ci := 3) gX2_choice dX2_findMistake_251 m_1307 m_921 m_1650 m_716 m_266 ⟨by decide, by decide, show (parseMethodDescriptor yX2_choice.desc).map (fun d => d.parameters.length) = some 4 from by decide +kernel⟩ (Nat.le_of_ble_eq_true rfl) (by rw [hcf]; exact Nat.le_of_ble_eq_true rfl) k327682 rfl rfl (Nat.le_of_ble_eq_true rfl) ⟨o, n, o0 + 1, o1 + 1, o2 + 1, Hs, v, a, b, rfl, hC, hab, (by assumption), (by assumption), (by assumption), (by assumption), (by omega), (by assumption), (by omega), (by omega), (by omega), (by omega), (by exact hf90), (by exact hFf), fun rr114 G113 hCG113 hXG113 hfG113 hpG113 => ?_⟩
          have hFG113 : WX (fun x => x = 327683 ∨ x = 327687 ∨ x = 327688 ∨ x = 327684 ∨ (327689 ≤ x ∧ x ≤ 327692) ∨ (262144 ≤ x ∧ x < 262272) ∨ (68097 ≤ x ∧ x ≤ 68119) ∨ (o + 2 ≤ x ∧ x ≤ o + 23)) G G113 := WX.trans WX.rf KX.rf (WX.mono hfG113 rg6)
          have hS_G113 : ThC G113 Hs ∧ TxC G G113 := ⟨hpG113.1, hpG113.2.1⟩
          have hTHG113 : ThC G113 Hs := hS_G113.1
          have hnG113 : (n : Int) < nN G113 := by rw [hS_G113.2.1.1]; exact hn
          have hTXG113 : TxC G G113 := hTX.trans hS_G113.2
          have hFfG113 : FPa (PnC G113 v n) G113 (o + 1) := hpG113.2.2
          show WP kX2_findMistake X 254 [some (2, ((327682 : Nat) : Int)), some (2, ((o : Nat) : Int)), some (2, ((pa : Nat) : Int)), none] [(0, rr114)] G113
          exact s_iret hR dX2_findMistake_254 rfl (hQ rr114 G113 hCG113 hXG113 hFG113 ⟨hTHG113, hTXG113, hFfG113⟩)
        by_cases c6_4 : (gS G o 1) = 4
        · -- case 4
          refine s_tableIn (tgt := 255) (off := 208) dX2_findMistake_47 (by omega) (by omega) (by rw [c6_4]; rfl) (by decide) ?_
          obtain ⟨hq0a, hq0b, hq0c⟩ := hq0 (by omega)
          have hb0 : 0 < npt (gS G o 1) := hn0 (by omega)
          have hk0 := (hC.nd (n := ptC G n 0) ho0 (by omega)).2.1
          have hpr0 := hpr 0 (by rw [hnk]; exact npt_0 (by omega))
          rw [← ho0] at hpr0
          have hf90 : FPa (PnC G v n) G (o0 + 1) := hpr0.2.mono (fun x hx h8 => stC.re0 (by omega) (hx h8))
          refine s_aload_n dX2_findMistake_255 rfl (Int.natCast_nonneg _) ?_
          refine s_aload_n dX2_findMistake_256 rfl (Int.natCast_nonneg _) ?_
          refine s_iconst dX2_findMistake_257 (by decide) ?_
          refine s_aald6 dX2_findMistake_258 hkp (by omega) (by omega) hq0a ?_
          have hv117 : gS G o0 7 = ((o0 + 1 : Nat) : Int) := by have h9 : (gS G o0 7) = (((o0 % 1048576) + 1 : Nat) : Int) := hC.1.v (j := 7) (by rw [cde_n (by omega) (by omega)]; omega : cde o0 = 100) (kne hk0 (by decide)) (by rw [hk0]; exact Nat.le_of_ble_eq_true rfl); omega
          refine s_getf (ci := 5) (k := 7) (C := RX4) (T := TX4) (N := 14) (n := o0) (L := 0) (t := 2) dX2_findMistake_259 rfl wi_72 m_592 (Nat.le_of_ble_eq_true rfl) rfl rfl hk0 hv117 ?_
          refine s_aload_n dX2_findMistake_262 rfl (Int.natCast_nonneg _) ?_
          have hv118 : gS G o 7 = ((o + 1 : Nat) : Int) := by have h9 : (gS G o 7) = (((o % 1048576) + 1 : Nat) : Int) := hC.1.v (j := 7) (by rw [cde_n (by omega) (by omega)]; omega : cde o = 100) (kne hko (by decide)) (by rw [hko]; exact Nat.le_of_ble_eq_true rfl); omega
          refine s_getf (ci := 5) (k := 7) (C := RX4) (T := TX4) (N := 14) (n := o) (L := 0) (t := 2) dX2_findMistake_263 rfl wi_72 m_592 (Nat.le_of_ble_eq_true rfl) rfl rfl hko hv118 ?_
          refine s_callS2 (as := [(2, ((o : Nat) : Int)), (2, ((o0 + 1 : Nat) : Int)), (2, ((o + 1 : Nat) : Int))]) (rest := []) gX2_renamed dX2_findMistake_266 m_1308 m_1797 m_716 m_280 ⟨by decide, by decide, show (parseMethodDescriptor yX2_renamed.desc).map (fun d => d.parameters.length) = some 3 from by decide +kernel⟩ (Nat.le_of_ble_eq_true rfl) (by rw [hcf]; exact Nat.le_of_ble_eq_true rfl) rfl (Nat.le_of_ble_eq_true rfl) ⟨(PnC G v n), o, o0 + 1, o + 1, a, b, rfl, hC, hab, (by omega), (by exact hr4), (by omega), (by omega), (by omega), (by exact hf90), (by exact hFf), fun rr120 G119 hCG119 hXG119 hfG119 hpG119 => ?_⟩
          have hFG119 : WX (fun x => x = 327683 ∨ x = 327687 ∨ x = 327688 ∨ x = 327684 ∨ (327689 ≤ x ∧ x ≤ 327692) ∨ (262144 ≤ x ∧ x < 262272) ∨ (68097 ≤ x ∧ x ≤ 68119) ∨ (o + 2 ≤ x ∧ x ≤ o + 23)) G G119 := WX.trans WX.rf KX.rf (WX.mono hfG119 rg7)
          have hS_G119 : ThC G119 Hs ∧ TxC G G119 := hTH.wx hC hXG119 hfG119 (hfn.kx KX.rf) rg8.1 rg8.2
          have hTHG119 : ThC G119 Hs := hS_G119.1
          have hnG119 : (n : Int) < nN G119 := by rw [hS_G119.2.1.1]; exact hn
          have hTXG119 : TxC G G119 := hTX.trans hS_G119.2
          have hFfG119 : FPa (PnC G119 v n) G119 (o + 1) := (hpG119).mono (fun x hx => hS_G119.2.pn hTH.2.2.2.1 hn hx)
          show WP kX2_findMistake X 269 [some (2, ((327682 : Nat) : Int)), some (2, ((o : Nat) : Int)), some (2, ((pa : Nat) : Int)), none] [(0, rr120)] G119
          exact s_iret hR dX2_findMistake_269 rfl (hQ rr120 G119 hCG119 hXG119 hFG119 ⟨hTHG119, hTXG119, hFfG119⟩)
        by_cases c6_5 : (gS G o 1) = 5
        · -- case 5
          refine s_tableIn (tgt := 255) (off := 208) dX2_findMistake_47 (by omega) (by omega) (by rw [c6_5]; rfl) (by decide) ?_
          obtain ⟨hq0a, hq0b, hq0c⟩ := hq0 (by omega)
          have hb0 : 0 < npt (gS G o 1) := hn0 (by omega)
          have hk0 := (hC.nd (n := ptC G n 0) ho0 (by omega)).2.1
          have hpr0 := hpr 0 (by rw [hnk]; exact npt_0 (by omega))
          rw [← ho0] at hpr0
          have hf90 : FPa (PnC G v n) G (o0 + 1) := hpr0.2.mono (fun x hx h8 => stC.re0 (by omega) (hx h8))
          refine s_aload_n dX2_findMistake_255 rfl (Int.natCast_nonneg _) ?_
          refine s_aload_n dX2_findMistake_256 rfl (Int.natCast_nonneg _) ?_
          refine s_iconst dX2_findMistake_257 (by decide) ?_
          refine s_aald6 dX2_findMistake_258 hkp (by omega) (by omega) hq0a ?_
          have hv123 : gS G o0 7 = ((o0 + 1 : Nat) : Int) := by have h9 : (gS G o0 7) = (((o0 % 1048576) + 1 : Nat) : Int) := hC.1.v (j := 7) (by rw [cde_n (by omega) (by omega)]; omega : cde o0 = 100) (kne hk0 (by decide)) (by rw [hk0]; exact Nat.le_of_ble_eq_true rfl); omega
          refine s_getf (ci := 5) (k := 7) (C := RX4) (T := TX4) (N := 14) (n := o0) (L := 0) (t := 2) dX2_findMistake_259 rfl wi_72 m_592 (Nat.le_of_ble_eq_true rfl) rfl rfl hk0 hv123 ?_
          refine s_aload_n dX2_findMistake_262 rfl (Int.natCast_nonneg _) ?_
          have hv124 : gS G o 7 = ((o + 1 : Nat) : Int) := by have h9 : (gS G o 7) = (((o % 1048576) + 1 : Nat) : Int) := hC.1.v (j := 7) (by rw [cde_n (by omega) (by omega)]; omega : cde o = 100) (kne hko (by decide)) (by rw [hko]; exact Nat.le_of_ble_eq_true rfl); omega
          refine s_getf (ci := 5) (k := 7) (C := RX4) (T := TX4) (N := 14) (n := o) (L := 0) (t := 2) dX2_findMistake_263 rfl wi_72 m_592 (Nat.le_of_ble_eq_true rfl) rfl rfl hko hv124 ?_
          refine s_callS2 (as := [(2, ((o : Nat) : Int)), (2, ((o0 + 1 : Nat) : Int)), (2, ((o + 1 : Nat) : Int))]) (rest := []) gX2_renamed dX2_findMistake_266 m_1308 m_1797 m_716 m_280 ⟨by decide, by decide, show (parseMethodDescriptor yX2_renamed.desc).map (fun d => d.parameters.length) = some 3 from by decide +kernel⟩ (Nat.le_of_ble_eq_true rfl) (by rw [hcf]; exact Nat.le_of_ble_eq_true rfl) rfl (Nat.le_of_ble_eq_true rfl) ⟨(PnC G v n), o, o0 + 1, o + 1, a, b, rfl, hC, hab, (by omega), (by exact hr4), (by omega), (by omega), (by omega), (by exact hf90), (by exact hFf), fun rr126 G125 hCG125 hXG125 hfG125 hpG125 => ?_⟩
          have hFG125 : WX (fun x => x = 327683 ∨ x = 327687 ∨ x = 327688 ∨ x = 327684 ∨ (327689 ≤ x ∧ x ≤ 327692) ∨ (262144 ≤ x ∧ x < 262272) ∨ (68097 ≤ x ∧ x ≤ 68119) ∨ (o + 2 ≤ x ∧ x ≤ o + 23)) G G125 := WX.trans WX.rf KX.rf (WX.mono hfG125 rg7)
          have hS_G125 : ThC G125 Hs ∧ TxC G G125 := hTH.wx hC hXG125 hfG125 (hfn.kx KX.rf) rg8.1 rg8.2
          have hTHG125 : ThC G125 Hs := hS_G125.1
          have hnG125 : (n : Int) < nN G125 := by rw [hS_G125.2.1.1]; exact hn
          have hTXG125 : TxC G G125 := hTX.trans hS_G125.2
          have hFfG125 : FPa (PnC G125 v n) G125 (o + 1) := (hpG125).mono (fun x hx => hS_G125.2.pn hTH.2.2.2.1 hn hx)
          show WP kX2_findMistake X 269 [some (2, ((327682 : Nat) : Int)), some (2, ((o : Nat) : Int)), some (2, ((pa : Nat) : Int)), none] [(0, rr126)] G125
          exact s_iret hR dX2_findMistake_269 rfl (hQ rr126 G125 hCG125 hXG125 hFG125 ⟨hTHG125, hTXG125, hFfG125⟩)
        by_cases c6_6 : (gS G o 1) = 6
        · -- case 6
          refine s_tableIn (tgt := 88) (off := 41) dX2_findMistake_47 (by omega) (by omega) (by rw [c6_6]; rfl) (by decide) ?_
          refine s_aload_n dX2_findMistake_88 rfl (Int.natCast_nonneg _) ?_
          have hv127 : gS G 327682 4 = ((327684 : Nat) : Int) := by have h9 : (gS G 327682 4) = 327684 := hC.1.v (j := 4) (by decide : cde 327682 = 502) (kne k327682 (by decide)) (by rw [k327682]; exact Nat.le_of_ble_eq_true rfl); omega
          refine s_getf (ci := 3) (k := 4) (C := RX2) (T := TX2) (N := 8) (n := 327682) (L := 0) (t := 2) dX2_findMistake_89 rfl wi_70 m_585 (Nat.le_of_ble_eq_true rfl) rfl rfl k327682 hv127 ?_
          refine s_aload_n dX2_findMistake_92 rfl (Int.natCast_nonneg _) ?_
          have hv128 : gS G 327682 0 = ((327681 : Nat) : Int) := by have h9 : (gS G 327682 0) = 327681 := hC.1.v (j := 0) (by decide : cde 327682 = 502) (kne k327682 (by decide)) (by rw [k327682]; exact Nat.le_of_ble_eq_true rfl); omega
          refine s_getf (ci := 3) (k := 0) (C := RX2) (T := TX2) (N := 8) (n := 327682) (L := 0) (t := 2) dX2_findMistake_93 rfl wi_70 m_584 (Nat.le_of_ble_eq_true rfl) rfl rfl k327682 hv128 ?_
          refine s_aload_n dX2_findMistake_96 rfl (Int.natCast_nonneg _) ?_
          refine s_callV (as := [(2, ((o : Nat) : Int))]) (rest := [(2, ((327684 : Nat) : Int))]) (n := 327681) (ci := 6) gX5_versionOf dX2_findMistake_97 m_1300 m_984 m_1709 m_719 m_332 ⟨by decide, by decide, show (parseMethodDescriptor yX5_versionOf.desc).map (fun d => d.parameters.length) = some 1 from by decide +kernel⟩ (Nat.le_of_ble_eq_true rfl) (by rw [hcf]; exact Nat.le_of_ble_eq_true rfl) k327681 rfl rfl (Nat.le_of_ble_eq_true rfl) ⟨o, a, b, rfl, hC, hab, (by omega), (by first | omega | (have := hu6 (by omega); omega)), (by have := hu6 (by omega); omega), (by have := hu6 (by omega); omega), (by have := hu6 (by omega); omega), (by have := hu6 (by omega); omega), fun rr129 hp130 => ?_⟩
          show WP kX2_findMistake X 100 [some (2, ((327682 : Nat) : Int)), some (2, ((o : Nat) : Int)), some (2, ((pa : Nat) : Int)), none] [(2, ((rr129 : Nat) : Int)), (2, ((327684 : Nat) : Int))] G
          refine s_aload_n dX2_findMistake_100 rfl (Int.natCast_nonneg _) ?_
          have hv131 : gS G o 7 = ((o + 1 : Nat) : Int) := by have h9 : (gS G o 7) = (((o % 1048576) + 1 : Nat) : Int) := hC.1.v (j := 7) (by rw [cde_n (by omega) (by omega)]; omega : cde o = 100) (kne hko (by decide)) (by rw [hko]; exact Nat.le_of_ble_eq_true rfl); omega
          refine s_getf (ci := 5) (k := 7) (C := RX4) (T := TX4) (N := 14) (n := o) (L := 0) (t := 2) dX2_findMistake_101 rfl wi_72 m_592 (Nat.le_of_ble_eq_true rfl) rfl rfl hko hv131 ?_
          refine s_callV (as := [(2, ((rr129 : Nat) : Int)), (2, ((o + 1 : Nat) : Int))]) (rest := []) (n := 327684) (ci := 9) gX8_findFace dX2_findMistake_104 m_1301 m_1005 m_1728 m_722 m_353 ⟨by decide, by decide, show (parseMethodDescriptor yX8_findFace.desc).map (fun d => d.parameters.length) = some 2 from by decide +kernel⟩ (Nat.le_of_ble_eq_true rfl) (by rw [hcf]; exact Nat.le_of_ble_eq_true rfl) k327684 rfl rfl (Nat.le_of_ble_eq_true rfl) ⟨rr129, o + 1, a, b, rfl, hC, hab, (by omega), (by omega), (by assumption), fun rr133 G132 hCG132 hXG132 hfG132 hpG132 => ?_⟩
          have hFG132 : WX (fun x => x = 327683 ∨ x = 327687 ∨ x = 327688 ∨ x = 327684 ∨ (327689 ≤ x ∧ x ≤ 327692) ∨ (262144 ≤ x ∧ x < 262272) ∨ (68097 ≤ x ∧ x ≤ 68119) ∨ (o + 2 ≤ x ∧ x ≤ o + 23)) G G132 := WX.trans WX.rf KX.rf (WX.mono hfG132 rg9)
          have hS_G132 : ThC G132 Hs ∧ TxC G G132 := hTH.wx hC hXG132 hfG132 (hfn.kx KX.rf) rg10.1 rg10.2
          have hTHG132 : ThC G132 Hs := hS_G132.1
          have hnG132 : (n : Int) < nN G132 := by rw [hS_G132.2.1.1]; exact hn
          have hTXG132 : TxC G G132 := hTX.trans hS_G132.2
          have hFfG132 : FPa (PnC G132 v n) G132 (o + 1) := (hpG132 _ PnC.sm hFf).mono (fun x hx => hS_G132.2.pn hTH.2.2.2.1 hn hx)
          show WP kX2_findMistake X 107 [some (2, ((327682 : Nat) : Int)), some (2, ((o : Nat) : Int)), some (2, ((pa : Nat) : Int)), none] [(0, rr133)] G132
          exact s_iret hR dX2_findMistake_107 rfl (hQ rr133 G132 hCG132 hXG132 hFG132 ⟨hTHG132, hTXG132, hFfG132⟩)
        refine s_tableOut (tgt := 255) dX2_findMistake_47 (by omega) (by decide) ?_
        obtain ⟨hq0a, hq0b, hq0c⟩ := hq0 (by omega)
        have hb0 : 0 < npt (gS G o 1) := hn0 (by omega)
        have hk0 := (hC.nd (n := ptC G n 0) ho0 (by omega)).2.1
        have hpr0 := hpr 0 (by rw [hnk]; exact npt_0 (by omega))
        rw [← ho0] at hpr0
        have hf90 : FPa (PnC G v n) G (o0 + 1) := hpr0.2.mono (fun x hx h8 => stC.re0 (by omega) (hx h8))
        refine s_aload_n dX2_findMistake_255 rfl (Int.natCast_nonneg _) ?_
        refine s_aload_n dX2_findMistake_256 rfl (Int.natCast_nonneg _) ?_
        refine s_iconst dX2_findMistake_257 (by decide) ?_
        refine s_aald6 dX2_findMistake_258 hkp (by omega) (by omega) hq0a ?_
        have hv136 : gS G o0 7 = ((o0 + 1 : Nat) : Int) := by have h9 : (gS G o0 7) = (((o0 % 1048576) + 1 : Nat) : Int) := hC.1.v (j := 7) (by rw [cde_n (by omega) (by omega)]; omega : cde o0 = 100) (kne hk0 (by decide)) (by rw [hk0]; exact Nat.le_of_ble_eq_true rfl); omega
        refine s_getf (ci := 5) (k := 7) (C := RX4) (T := TX4) (N := 14) (n := o0) (L := 0) (t := 2) dX2_findMistake_259 rfl wi_72 m_592 (Nat.le_of_ble_eq_true rfl) rfl rfl hk0 hv136 ?_
        refine s_aload_n dX2_findMistake_262 rfl (Int.natCast_nonneg _) ?_
        have hv137 : gS G o 7 = ((o + 1 : Nat) : Int) := by have h9 : (gS G o 7) = (((o % 1048576) + 1 : Nat) : Int) := hC.1.v (j := 7) (by rw [cde_n (by omega) (by omega)]; omega : cde o = 100) (kne hko (by decide)) (by rw [hko]; exact Nat.le_of_ble_eq_true rfl); omega
        refine s_getf (ci := 5) (k := 7) (C := RX4) (T := TX4) (N := 14) (n := o) (L := 0) (t := 2) dX2_findMistake_263 rfl wi_72 m_592 (Nat.le_of_ble_eq_true rfl) rfl rfl hko hv137 ?_
        refine s_callS2 (as := [(2, ((o : Nat) : Int)), (2, ((o0 + 1 : Nat) : Int)), (2, ((o + 1 : Nat) : Int))]) (rest := []) gX2_renamed dX2_findMistake_266 m_1308 m_1797 m_716 m_280 ⟨by decide, by decide, show (parseMethodDescriptor yX2_renamed.desc).map (fun d => d.parameters.length) = some 3 from by decide +kernel⟩ (Nat.le_of_ble_eq_true rfl) (by rw [hcf]; exact Nat.le_of_ble_eq_true rfl) rfl (Nat.le_of_ble_eq_true rfl) ⟨(PnC G v n), o, o0 + 1, o + 1, a, b, rfl, hC, hab, (by omega), (by exact hr4), (by omega), (by omega), (by omega), (by exact hf90), (by exact hFf), fun rr139 G138 hCG138 hXG138 hfG138 hpG138 => ?_⟩
        have hFG138 : WX (fun x => x = 327683 ∨ x = 327687 ∨ x = 327688 ∨ x = 327684 ∨ (327689 ≤ x ∧ x ≤ 327692) ∨ (262144 ≤ x ∧ x < 262272) ∨ (68097 ≤ x ∧ x ≤ 68119) ∨ (o + 2 ≤ x ∧ x ≤ o + 23)) G G138 := WX.trans WX.rf KX.rf (WX.mono hfG138 rg7)
        have hS_G138 : ThC G138 Hs ∧ TxC G G138 := hTH.wx hC hXG138 hfG138 (hfn.kx KX.rf) rg8.1 rg8.2
        have hTHG138 : ThC G138 Hs := hS_G138.1
        have hnG138 : (n : Int) < nN G138 := by rw [hS_G138.2.1.1]; exact hn
        have hTXG138 : TxC G G138 := hTX.trans hS_G138.2
        have hFfG138 : FPa (PnC G138 v n) G138 (o + 1) := (hpG138).mono (fun x hx => hS_G138.2.pn hTH.2.2.2.1 hn hx)
        show WP kX2_findMistake X 269 [some (2, ((327682 : Nat) : Int)), some (2, ((o : Nat) : Int)), some (2, ((pa : Nat) : Int)), none] [(0, rr139)] G138
        exact s_iret hR dX2_findMistake_269 rfl (hQ rr139 G138 hCG138 hXG138 hFG138 ⟨hTHG138, hTXG138, hFfG138⟩)
      · -- 8 to 11
        refine s_aload_n dX2_findMistake_11 rfl (Int.natCast_nonneg _) ?_
        refine s_getf (ci := 5) (k := 2) (C := RX4) (T := TX4) (N := 14) (n := o) (L := 0) (t := 2) dX2_findMistake_12 rfl wi_72 m_567 (Nat.le_of_ble_eq_true rfl) rfl rfl hko hpa ?_
        refine s_iload_n dX2_findMistake_15 rfl ?_
        have hv142b : (gS G pa (i1 : Int).toNat) = -1 ∨ (65536 ≤ (gS G pa (i1 : Int).toNat) ∧ (gS G pa (i1 : Int).toNat) ≤ 68032 ∧ (gS G pa (i1 : Int).toNat) % 64 = 0) := hC.1.v (j := (i1 : Int).toNat) (by unfold cde; rw [if_pos (by omega), if_pos (by omega)] : cde pa = 63) (kne hkp (by decide)) (by rw [hkp]; show (i1 : Int).toNat < npt (gS G o 1); omega)
        have hpz := hpt (i1 : Int).toNat (by omega)
        obtain ⟨q141, hv142⟩ : ∃ q : Nat, gS G pa (i1 : Int).toNat = (q : Int) := ⟨(gS G pa (i1 : Int).toNat).toNat, by omega⟩
        rw [hv142] at hv142b
        refine s_aald6 dX2_findMistake_16 hkp (by omega) (by omega) hv142 ?_
        refine s_alv (q141) (by simp) (fun (al143 : AL G q141) => ?_)
        have hk144 : gK G (q141) = (13, 0) := hC.1.k (by rw [cde_n (by omega) (by omega)]; omega : cde q141 = 100) al143
        have hv145 : gS G q141 7 = ((q141 + 1 : Nat) : Int) := by have h9 : (gS G q141 7) = (((q141 % 1048576) + 1 : Nat) : Int) := hC.1.v (j := 7) (by rw [cde_n (by omega) (by omega)]; omega : cde q141 = 100) al143 (by rw [hk144]; exact Nat.le_of_ble_eq_true rfl); omega
        refine s_getf (ci := 5) (k := 7) (C := RX4) (T := TX4) (N := 14) (n := q141) (L := 0) (t := 2) dX2_findMistake_17 rfl wi_72 m_592 (Nat.le_of_ble_eq_true rfl) rfl rfl hk144 hv145 ?_
        refine s_alv (q141 + 1) (by simp) (fun (al146 : AL G (q141 + 1)) => ?_)
        have hk147 : gK G (q141 + 1) = (9, 0) := hC.1.k (by rw [cde_n (by omega) (by omega)]; omega : cde (q141 + 1) = 101) al146
        refine s_getf (ci := 1) (k := 0) (C := RX0) (T := TX0) (N := 7) (n := q141 + 1) (L := 0) (t := 0) dX2_findMistake_20 rfl wi_65 m_566 (Nat.le_of_ble_eq_true rfl) rfl rfl hk147 rfl ?_
        refine s_if_eq (tgt := 32) dX2_findMistake_23 (by decide) (fun c149 => ?_) (fun c149 => ?_)
        · -- 23 to 32
          refine s_iinc dX2_findMistake_32 (v := i1) rfl (by omega) (by decide) (lv' := [some (2, ((327682 : Nat) : Int)), some (2, ((o : Nat) : Int)), some (0, i1 + 1), none]) rfl ?_
          refine s_goto (tgt := 2) dX2_findMistake_35 (by decide) ?_
          exact ih1 (i1 + 1) ((by omega)) (by omega)
        · -- 23 to 26
          refine s_sipush dX2_findMistake_26 rfl (by decide) ?_
          refine s_iload_n dX2_findMistake_29 rfl ?_
          refine s_iadd dX2_findMistake_30 (by omega) ?_
          exact s_iret hR dX2_findMistake_31 rfl (hQ (1000 + i1) G hC KX.rf WX.rf ⟨hTH, hTX, hFf⟩)
  exact L1 _ 0 ((by omega)) (Nat.lt_succ_self _)
