abbrev kX2_choiceTypes : KD := (RX2, cX2_choiceTypes, 6, (some .int), [])
def TX2_choiceTypes : TR := fun as G Qr => ∃ (o n A B : Nat) (Hs : List (Int → Int)) (v : Int → Int) (a b : Nat), as = [(2, ((327682 : Nat) : Int)), (2, ((o : Nat) : Int)), (2, ((A : Nat) : Int)), (2, ((B : Nat) : Int))] ∧ CI a b G ∧ (a ≤ 2840000 ∧ b ≤ 590000) ∧ (o = 65536 + 64 * n) ∧ ((n : Int) < nN G) ∧ (ThC G Hs) ∧ (v ∈ Hs) ∧ (gS G o 1 = 3) ∧ (WhC G v n) ∧ (isFc A) ∧ (isFc B) ∧ (A ≠ o + 1 ∧ B ≠ o + 1) ∧ (FPa (PnC G v n) G A) ∧ (FPa (PnC G v n) G (o + 1)) ∧ ∀ (r : Int) (G' : LG), CI a b G' → KX G G' → WX (fun x => x = 327683 ∨ x = 327687 ∨ x = 327688 ∨ (o + 2 ≤ x ∧ x ≤ o + 23)) G G' → (ThC G' Hs ∧ TxC G G' ∧ FPa (PnC G' v n) G' (o + 1) ∧ ∀ k : Nat, k < 6 → ¬ i_and (i_shr r k) 1 = 0 → 1 ≤ gS G' (o + 1 + 4) k) → Qr (.inl (some (0, r))) G'
set_option maxHeartbeats 4000000 in
set_option maxRecDepth 100000 in
theorem gX2_choiceTypes : Good kX2_choiceTypes yX2_choiceTypes 4 TX2_choiceTypes := by
  refine good_of (by decide) rfl rfl (fun as G Qr h => ?_) (fun X as G Qr hcf hR hT oa => ?_)
  · obtain ⟨o, n, A, B, Hs, v, a, b, rfl, -⟩ := h; exact Nat.le_of_ble_eq_true rfl
  obtain ⟨o, n, A, B, Hs, v, a, b, rfl, hC, hab, ho9, hn, hTH, hv, hkd, hwn, hA, hB, hne, hFA, hFf, hQ⟩ := hT
  show WP kX2_choiceTypes X 0 [some (2, ((327682 : Nat) : Int)), some (2, ((o : Nat) : Int)), some (2, ((A : Nat) : Int)), some (2, ((B : Nat) : Int)), none, none] [] G
  refine s_alvl 327682 (k := 0) rfl (fun (alZ : AL G 327682) => ?_)
  refine s_alvl A (k := 2) rfl (fun (alA : AL G A) => ?_)
  refine s_alvl B (k := 3) rfl (fun (alB : AL G B) => ?_)
  refine s_lk (fun hlk => ?_)
  have hfn := hlk.fna hC alZ
  obtain ⟨k327682, k327681, k327683, k262144, k262208, k327684, k68097, k327691, k327692, k262145, k262146, k262148, k262149, k262209, k262210, k262212, k262213, k327710, k327685, k327688⟩ := id hfn
  have hfA := hlk.fc hC hA alA
  obtain ⟨kA0, kA1, kA2, kA3, kA4, kA5, kA6⟩ := hfA.1
  have hfB := hlk.fc hC hB alB
  obtain ⟨kB0, kB1, kB2, kB3, kB4, kB5, kB6⟩ := hfB.1
  obtain ⟨hn40, hko, pa, hpa, hpm, hpc, hkp, hpt, hu6, hr4⟩ := hC.nd ho9 hn
  have ho : isNd o := by omega
  have hND := hTH.2.2.2.1
  have hsl : slC G n ↔ (gS G o 1 = 3 ∨ ¬ gS G o 5 = 0) := by unfold slC nkC ngC; rw [ho9]
  have hnk : nkC G n = gS G o 1 := by unfold nkC; rw [ho9]
  have hnn : nnC G n = gS G o 3 := by unfold nnC; rw [ho9]
  have hnt : ntC G n = gS G o 4 := by unfold ntC; rw [ho9]
  have hng : ngC G n = gS G o 5 := by unfold ngC; rw [ho9]
  have hnk0 : nkC G n = gS G o 1 := hnk
  clear hnk
  have hf6 : isFc (o + 1) := by omega
  have hvf : gS G o 7 = ((o + 1 : Nat) : Int) := by have h9 : gS G o 7 = ((o % 1048576 + 1 : Nat) : Int) := hC.1.v (c := 100) (j := 7) (by rw [cde_n (by omega) (by omega)]; omega) (kne hko (by decide)) (by rw [hko]; exact Nat.le_of_ble_eq_true rfl); omega
  have alf : (gK G (o + 1)).1 ≠ 0 := hlk.at (kne hko (by decide)) (by rw [hko]; exact Nat.le_of_ble_eq_true rfl) (by rw [hko]; rfl) hvf
  have hff := hlk.fc hC hf6 alf
  obtain ⟨kf0, kf1, kf2, kf3, kf4, kf5, kf6⟩ := hff.1
  have rg0 : RM (fun x => x = 327683 ∨ x = 327687 ∨ x = 327688) (fun x => x = 327683 ∨ x = 327687 ∨ x = 327688 ∨ (o + 2 ≤ x ∧ x ≤ o + 23)) := fun x hx => by (try dsimp only at hx ⊢); omega
  have rg1 : RNx (fun x => x = 327683 ∨ x = 327687 ∨ x = 327688) (o % 1048576) := by show ¬ _; omega
  have rg2 : RNf (fun x => x = 327683 ∨ x = 327687 ∨ x = 327688) A := ⟨by show ¬ _; omega, by show ¬ _; omega, fun p hp => by show ¬ _; omega⟩
  have rg3 : RNf (fun x => x = 327683 ∨ x = 327687 ∨ x = 327688) ((o + 1)) := ⟨by show ¬ _; omega, by show ¬ _; omega, fun p hp => by show ¬ _; omega⟩
  have hTX : TxC G G := TxC.rf
  have hnk : nkC G n = 3 := by rw [hnk0]; exact hkd
  refine s_iconst dX2_choiceTypes_0 (by decide) ?_
  refine s_istore dX2_choiceTypes_1 (by decide) (lv' := [some (2, ((327682 : Nat) : Int)), some (2, ((o : Nat) : Int)), some (2, ((A : Nat) : Int)), some (2, ((B : Nat) : Int)), some (0, 0), none]) rfl ?_
  refine s_iconst dX2_choiceTypes_3 (by decide) ?_
  refine s_istore dX2_choiceTypes_4 (by decide) (lv' := [some (2, ((327682 : Nat) : Int)), some (2, ((o : Nat) : Int)), some (2, ((A : Nat) : Int)), some (2, ((B : Nat) : Int)), some (0, 0), some (0, 0)]) rfl ?_
  have L1 : ∀ (fu1 : Nat) (h1 : Int) (n1 : Int) (G1 : LG), CI a b G1 → KX G G1 → WX (fun x => x = 327683 ∨ x = 327687 ∨ x = 327688 ∨ (o + 2 ≤ x ∧ x ≤ o + 23)) G G1 → ((0 ≤ n1 ∧ n1 ≤ 6) ∧ (∀ k : Nat, k < 6 → ¬ i_and (i_shr h1 k) 1 = 0 → 1 ≤ gS G1 (o + 1 + 4) k) ∧ (∀ k : Nat, k < 6 → n1 ≤ (k : Int) → ¬ ¬ i_and (i_shr h1 k) 1 = 0) ∧ (ThC G1 Hs) ∧ ((n : Int) < nN G1) ∧ (TxC G G1) ∧ (WhC G1 v n) ∧ (gS G1 o 1 = 3) ∧ (nkC G1 n = 3) ∧ (FPa (PnC G1 v n) G1 A) ∧ (FPa (PnC G1 v n) G1 (o + 1))) → (6 - n1).toNat < fu1 → WP kX2_choiceTypes X 6 [some (2, ((327682 : Nat) : Int)), some (2, ((o : Nat) : Int)), some (2, ((A : Nat) : Int)), some (2, ((B : Nat) : Int)), some (0, h1), some (0, n1)] [] G1 := by
    intro fu1
    induction fu1 with
    | zero => intro h1 n1 G1 hCG1 hXG1 hFG1 hi1 hm1; exact absurd hm1 (Nat.not_lt_zero _)
    | succ fu1 ih1 =>
      intro h1 n1 G1 hCG1 hXG1 hFG1 hi1 hm1
      obtain ⟨in_1, iy1, ib1, hTHG1, hnG1, hTXG1, hwnG1, hkdG1, hnkG1, hFAG1, hFfG1⟩ := hi1
      refine s_iload dX2_choiceTypes_6 rfl ?_
      refine s_bipush dX2_choiceTypes_8 rfl (by decide) ?_
      refine s_icmp_ge (tgt := 113) dX2_choiceTypes_10 (by decide) (fun c2 => ?_) (fun c2 => ?_)
      · -- 10 to 113
        refine s_iload dX2_choiceTypes_113 rfl ?_
        exact s_iret hR dX2_choiceTypes_115 rfl (hQ h1 G1 hCG1 hXG1 hFG1 ⟨hTHG1, hTXG1, hFfG1, iy1⟩)
      · -- 10 to 13
        refine s_aload_n dX2_choiceTypes_13 rfl (Int.natCast_nonneg _) ?_
        refine s_iload dX2_choiceTypes_14 rfl ?_
        have hk5 : gK G1 (A) = (9, 0) := ((hXG1).k kA0 (by decide))
        refine s_callV (as := [(0, n1)]) (rest := []) (n := A) (ci := 1) gX0_hasType dX2_choiceTypes_16 m_1317 m_738 m_1472 m_711 m_65 ⟨by decide, by decide, show (parseMethodDescriptor yX0_hasType.desc).map (fun d => d.parameters.length) = some 1 from by decide +kernel⟩ (Nat.le_of_ble_eq_true rfl) (by rw [hcf]; exact Nat.le_of_ble_eq_true rfl) hk5 rfl rfl (Nat.le_of_ble_eq_true rfl) ⟨A, n1, a, b, rfl, hCG1, hab, (by first | assumption | omega), (by first | assumption | omega), fun rr3 hp4 => ?_⟩
        show WP kX2_choiceTypes X 19 [some (2, ((327682 : Nat) : Int)), some (2, ((o : Nat) : Int)), some (2, ((A : Nat) : Int)), some (2, ((B : Nat) : Int)), some (0, h1), some (0, n1)] [(0, rr3)] G1
        refine s_if_eq (tgt := 107) dX2_choiceTypes_19 (by decide) (fun c6 => ?_) (fun c6 => ?_)
        · -- 19 to 107
          refine s_iinc dX2_choiceTypes_107 (v := n1) rfl (by omega) (by decide) (lv' := [some (2, ((327682 : Nat) : Int)), some (2, ((o : Nat) : Int)), some (2, ((A : Nat) : Int)), some (2, ((B : Nat) : Int)), some (0, h1), some (0, n1 + 1)]) rfl ?_
          refine s_goto (tgt := 6) dX2_choiceTypes_110 (by decide) ?_
          exact ih1 h1 (n1 + 1) G1 hCG1 hXG1 hFG1 (⟨(by omega), (by exact iy1), (by intro k hk hk2; exact ib1 k hk (by omega)), (by exact hTHG1), (by exact hnG1), (by exact hTXG1), (by exact hwnG1), (by exact hkdG1), (by exact hnkG1), (by exact hFAG1), (by exact hFfG1)⟩) (by omega)
        · -- 19 to 22
          refine s_aload_n dX2_choiceTypes_22 rfl (Int.natCast_nonneg _) ?_
          refine s_alv (A) (by simp) (fun (al7 : AL G1 A) => ?_)
          have hv8 : gS G1 A 3 = ((A + 3 : Nat) : Int) := by have h9 : (gS G1 A 3) = (((A % 1048576) + 3 : Nat) : Int) := hCG1.1.v (j := 3) (by rw [cde_n (by omega) (by omega)]; omega : cde A = 101) al7 (by rw [hk5]; exact Nat.le_of_ble_eq_true rfl); omega
          refine s_getf (ci := 1) (k := 3) (C := RX0) (T := TX0) (N := 7) (n := A) (L := 0) (t := 2) dX2_choiceTypes_23 rfl wi_65 m_574 (Nat.le_of_ble_eq_true rfl) rfl rfl hk5 hv8 ?_
          refine s_iload dX2_choiceTypes_26 rfl ?_
          have hk9 : gK G1 (A + 3) = (4, 16) := ((hXG1).k kA3 (by decide))
          refine s_alv (A + 3) (by simp) (fun (al10 : AL G1 (A + 3)) => ?_)
          have hv12b : 0 ≤ (gS G1 (A + 3) (n1 : Int).toNat) ∧ (gS G1 (A + 3) (n1 : Int).toNat) % 1048576 = ((((A + 3) % 1048576) + 4 + ((n1 : Int).toNat) : Nat) : Int) := hCG1.1.v (j := (n1 : Int).toNat) (by rw [cde_n (by omega) (by omega)]; omega : cde (A + 3) = 104) al10 (by rw [hk9]; show (n1 : Int).toNat < 16; omega)
          obtain ⟨q11, hv12⟩ : ∃ q : Nat, gS G1 (A + 3) (n1 : Int).toNat = (q : Int) := ⟨(gS G1 (A + 3) (n1 : Int).toNat).toNat, by omega⟩
          rw [hv12] at hv12b
          refine s_aald4 dX2_choiceTypes_28 hk9 (by omega) (by omega) hv12 ?_
          refine s_aload_n dX2_choiceTypes_29 rfl (Int.natCast_nonneg _) ?_
          have hv13 : gS G1 A 4 = ((A + 4 : Nat) : Int) := by have h9 : (gS G1 A 4) = (((A % 1048576) + 4 : Nat) : Int) := hCG1.1.v (j := 4) (by rw [cde_n (by omega) (by omega)]; omega : cde A = 101) al7 (by rw [hk5]; exact Nat.le_of_ble_eq_true rfl); omega
          refine s_getf (ci := 1) (k := 4) (C := RX0) (T := TX0) (N := 7) (n := A) (L := 0) (t := 2) dX2_choiceTypes_30 rfl wi_65 m_575 (Nat.le_of_ble_eq_true rfl) rfl rfl hk5 hv13 ?_
          refine s_iload dX2_choiceTypes_33 rfl ?_
          have hk14 : gK G1 (A + 4) = (1, 16) := ((hXG1).k kA4 (by decide))
          refine s_alv (A + 4) (by simp) (fun (al15 : AL G1 (A + 4)) => ?_)
          have hv16 : 0 ≤ (gS G1 (A + 4) (n1 : Int).toNat) ∧ (gS G1 (A + 4) (n1 : Int).toNat) ≤ 200 := hCG1.1.v (j := (n1 : Int).toNat) (by rw [cde_n (by omega) (by omega)]; omega : cde (A + 4) = 105) al15 (by rw [hk14]; show (n1 : Int).toNat < 16; omega)
          refine s_iald dX2_choiceTypes_35 hk14 (by omega) (by omega) rfl ?_
          refine s_aload_n dX2_choiceTypes_36 rfl (Int.natCast_nonneg _) ?_
          have hk17 : gK G1 (B) = (9, 0) := ((hXG1).k kB0 (by decide))
          refine s_alv (B) (by simp) (fun (al18 : AL G1 B) => ?_)
          have hv19 : gS G1 B 3 = ((B + 3 : Nat) : Int) := by have h9 : (gS G1 B 3) = (((B % 1048576) + 3 : Nat) : Int) := hCG1.1.v (j := 3) (by rw [cde_n (by omega) (by omega)]; omega : cde B = 101) al18 (by rw [hk17]; exact Nat.le_of_ble_eq_true rfl); omega
          refine s_getf (ci := 1) (k := 3) (C := RX0) (T := TX0) (N := 7) (n := B) (L := 0) (t := 2) dX2_choiceTypes_37 rfl wi_65 m_574 (Nat.le_of_ble_eq_true rfl) rfl rfl hk17 hv19 ?_
          refine s_iload dX2_choiceTypes_40 rfl ?_
          have hk20 : gK G1 (B + 3) = (4, 16) := ((hXG1).k kB3 (by decide))
          refine s_alv (B + 3) (by simp) (fun (al21 : AL G1 (B + 3)) => ?_)
          have hv23b : 0 ≤ (gS G1 (B + 3) (n1 : Int).toNat) ∧ (gS G1 (B + 3) (n1 : Int).toNat) % 1048576 = ((((B + 3) % 1048576) + 4 + ((n1 : Int).toNat) : Nat) : Int) := hCG1.1.v (j := (n1 : Int).toNat) (by rw [cde_n (by omega) (by omega)]; omega : cde (B + 3) = 104) al21 (by rw [hk20]; show (n1 : Int).toNat < 16; omega)
          obtain ⟨q22, hv23⟩ : ∃ q : Nat, gS G1 (B + 3) (n1 : Int).toNat = (q : Int) := ⟨(gS G1 (B + 3) (n1 : Int).toNat).toNat, by omega⟩
          rw [hv23] at hv23b
          refine s_aald4 dX2_choiceTypes_42 hk20 (by omega) (by omega) hv23 ?_
          refine s_aload_n dX2_choiceTypes_43 rfl (Int.natCast_nonneg _) ?_
          have hv24 : gS G1 B 4 = ((B + 4 : Nat) : Int) := by have h9 : (gS G1 B 4) = (((B % 1048576) + 4 : Nat) : Int) := hCG1.1.v (j := 4) (by rw [cde_n (by omega) (by omega)]; omega : cde B = 101) al18 (by rw [hk17]; exact Nat.le_of_ble_eq_true rfl); omega
          refine s_getf (ci := 1) (k := 4) (C := RX0) (T := TX0) (N := 7) (n := B) (L := 0) (t := 2) dX2_choiceTypes_44 rfl wi_65 m_575 (Nat.le_of_ble_eq_true rfl) rfl rfl hk17 hv24 ?_
          refine s_iload dX2_choiceTypes_47 rfl ?_
          have hk25 : gK G1 (B + 4) = (1, 16) := ((hXG1).k kB4 (by decide))
          refine s_alv (B + 4) (by simp) (fun (al26 : AL G1 (B + 4)) => ?_)
          have hv27 : 0 ≤ (gS G1 (B + 4) (n1 : Int).toNat) ∧ (gS G1 (B + 4) (n1 : Int).toNat) ≤ 200 := hCG1.1.v (j := (n1 : Int).toNat) (by rw [cde_n (by omega) (by omega)]; omega : cde (B + 4) = 105) al26 (by rw [hk25]; show (n1 : Int).toNat < 16; omega)
          refine s_iald dX2_choiceTypes_49 hk25 (by omega) (by omega) rfl ?_
          refine s_alv (q11) (by simp) (fun (al28 : AL G1 q11) => ?_)
          obtain ⟨L30, hk29, hL30a, hL30b⟩ := hCG1.1.kr (show 108 ≤ cde q11 ∧ cde q11 < 124 from by rw [cde_n (by omega) (by omega)]; omega) al28
          refine s_alv (q22) (by simp) (fun (al31 : AL G1 q22) => ?_)
          obtain ⟨L33, hk32, hL33a, hL33b⟩ := hCG1.1.kr (show 108 ≤ cde q22 ∧ cde q22 < 124 from by rw [cde_n (by omega) (by omega)]; omega) al31
          refine s_callSN (own := RX2) rfl (by decide +kernel) (as := [(2, ((q11 : Nat) : Int)), (0, gS G1 (A + 4) ((n1 : Int).toNat)), (2, ((q22 : Nat) : Int)), (0, gS G1 (B + 4) ((n1 : Int).toNat))]) (rest := []) gX11_isSameRow dX2_choiceTypes_50 m_1778 m_714 m_98 ⟨by decide, by decide, show (parseMethodDescriptor yX11_isSameRow.desc).map (fun d => d.parameters.length) = some 4 from by decide +kernel⟩ (Nat.le_of_ble_eq_true rfl) (by rw [hcf]; exact Nat.le_of_ble_eq_true rfl) rfl (Nat.le_of_ble_eq_true rfl) ⟨q11, L30, gS G1 (A + 4) ((n1 : Int).toNat), q22, L33, gS G1 (B + 4) ((n1 : Int).toNat), rfl, hk29, (by first | assumption | omega), hk32, (by first | assumption | omega), fun rr34 hp35 => ?_⟩
          show WP kX2_choiceTypes X 53 [some (2, ((327682 : Nat) : Int)), some (2, ((o : Nat) : Int)), some (2, ((A : Nat) : Int)), some (2, ((B : Nat) : Int)), some (0, h1), some (0, n1)] [(0, rr34)] G1
          refine s_if_eq (tgt := 82) dX2_choiceTypes_53 (by decide) (fun c36 => ?_) (fun c36 => ?_)
          · -- 53 to 82
            refine s_aload_n dX2_choiceTypes_82 rfl (Int.natCast_nonneg _) ?_
            have hk37 : gK G1 (o) = (13, 0) := ((hXG1).k hko (by decide))
            refine s_alv (o) (by simp) (fun (al38 : AL G1 o) => ?_)
            have hv39 : gS G1 o 7 = ((o + 1 : Nat) : Int) := by have h9 : (gS G1 o 7) = (((o % 1048576) + 1 : Nat) : Int) := hCG1.1.v (j := 7) (by rw [cde_n (by omega) (by omega)]; omega : cde o = 100) al38 (by rw [hk37]; exact Nat.le_of_ble_eq_true rfl); omega
            refine s_getf (ci := 5) (k := 7) (C := RX4) (T := TX4) (N := 14) (n := o) (L := 0) (t := 2) dX2_choiceTypes_83 rfl wi_72 m_592 (Nat.le_of_ble_eq_true rfl) rfl rfl hk37 hv39 ?_
            refine s_iload dX2_choiceTypes_86 rfl ?_
            refine s_aload_n dX2_choiceTypes_88 rfl (Int.natCast_nonneg _) ?_
            refine s_aload_n dX2_choiceTypes_89 rfl (Int.natCast_nonneg _) ?_
            refine s_iload dX2_choiceTypes_90 rfl ?_
            have hk42 : gK G1 (327682) = (11, 0) := ((hXG1).k k327682 (by decide))
            refine s_callV (as := [(2, ((o : Nat) : Int)), (0, n1)]) (rest := [(0, n1), (2, ((o + 1 : Nat) : Int))]) (n := 327682) (ci := 3) gX2_stampOf dX2_choiceTypes_92 m_1325 m_937 m_1665 m_716 m_285 ⟨by decide, by decide, show (parseMethodDescriptor yX2_stampOf.desc).map (fun d => d.parameters.length) = some 2 from by decide +kernel⟩ (Nat.le_of_ble_eq_true rfl) (by rw [hcf]; exact Nat.le_of_ble_eq_true rfl) hk42 rfl rfl (Nat.le_of_ble_eq_true rfl) ⟨o, n, n1, Hs, v, a, b, rfl, hCG1, hab, (by assumption), (by exact hnG1), (by omega), (by exact hTHG1), (by assumption), (by have := hkdG1; omega), (by exact fun _ => hwnG1), (by exact fun z => (z (Or.inl hnkG1)).elim), fun rr41 G40 hCG40 hXG40 hfG40 hpG40 => ?_⟩
            have hFG40 : WX (fun x => x = 327683 ∨ x = 327687 ∨ x = 327688 ∨ (o + 2 ≤ x ∧ x ≤ o + 23)) G G40 := WX.trans hFG1 hXG1 (WX.mono hfG40 rg0)
            have hS_G40 : ThC G40 Hs ∧ TxC G1 G40 := ⟨hpG40.2.1, hpG40.2.2.1⟩
            have hTHG40 : ThC G40 Hs := hS_G40.1
            have hnG40 : (n : Int) < nN G40 := by rw [hS_G40.2.1.1]; exact hnG1
            have hTXG40 : TxC G G40 := hTXG1.trans hS_G40.2
            have hwnG40 : WhC G40 v n := hS_G40.2.wh hTHG1.2.2.2.1 hnG1 hwnG1 (by rw [hfG40 (65536 + 64 * n) (KX.al hXG1 (by rw [← ho9]; exact kne hko (by decide))) (by show ¬ _; omega)])
            have hkdG40 : gS G40 o 1 = 3 := (congrFun (hfG40 o (KX.al hXG1 (kne hko (by decide))) rg1) 1).trans hkdG1
            have hnkG40 : nkC G40 n = 3 := (hS_G40.2.1.2 n hnG1).1.trans hnkG1
            have hFAG40 : FPa (PnC G40 v n) G40 A := ((hFAG1).ns hXG40 hfG40 ⟨KX.al hXG1 (kne kA3 (by decide)), KX.al hXG1 (kne kA4 (by decide))⟩ rg2).mono (fun x hx => hS_G40.2.pn hTHG1.2.2.2.1 hnG1 hx)
            have hFfG40 : FPa (PnC G40 v n) G40 (o + 1) := ((hFfG1).ns hXG40 hfG40 ⟨KX.al hXG1 (kne kf3 (by decide)), KX.al hXG1 (kne kf4 (by decide))⟩ rg3).mono (fun x hx => hS_G40.2.pn hTHG1.2.2.2.1 hnG1 hx)
            show WP kX2_choiceTypes X 95 [some (2, ((327682 : Nat) : Int)), some (2, ((o : Nat) : Int)), some (2, ((A : Nat) : Int)), some (2, ((B : Nat) : Int)), some (0, h1), some (0, n1)] [(0, rr41), (0, n1), (2, ((o + 1 : Nat) : Int))] G40
            have hr8 := hpG40.1
            have hk45 : gK G40 (o + 1) = (9, 0) := ((hXG40).k ((hXG1).k kf0 (by decide)) (by decide))
            refine s_callV (as := [(0, n1), (0, rr41)]) (rest := []) (n := o + 1) (ci := 1) gX0_putStamp dX2_choiceTypes_95 m_1329 m_747 m_1480 m_711 m_74 ⟨by decide, by decide, show (parseMethodDescriptor yX0_putStamp.desc).map (fun d => d.parameters.length) = some 2 from by decide +kernel⟩ (Nat.le_of_ble_eq_true rfl) (by rw [hcf]; exact Nat.le_of_ble_eq_true rfl) hk45 rfl rfl (Nat.le_of_ble_eq_true rfl) ⟨o + 1, n1, rr41, a, b, rfl, hCG40, hab, (by first | assumption | omega), (by first | assumption | omega), fun G43 hCG43 hXG43 hfG43 hpG43 => ?_⟩
            have hFG43 : WX (fun x => x = 327683 ∨ x = 327687 ∨ x = 327688 ∨ (o + 2 ≤ x ∧ x ≤ o + 23)) G G43 := WX.trans hFG40 (KX.trans hXG1 hXG40) (WX.mono hfG43 (fun x hx => by omega))
            have hS_G43 : ThC G43 Hs ∧ TxC G40 G43 := hTHG40.wx hCG40 hXG43 hfG43 (hfn.kx (KX.trans hXG1 hXG40)) (by refine ⟨?_, ?_, ?_, ?_, ?_, ?_⟩ <;> (show ¬ _; omega)) (fun n9 h9 => by show ¬ _; omega)
            have hTHG43 : ThC G43 Hs := hS_G43.1
            have hnG43 : (n : Int) < nN G43 := by rw [hS_G43.2.1.1]; exact hnG40
            have hTXG43 : TxC G G43 := hTXG40.trans hS_G43.2
            have hwnG43 : WhC G43 v n := hS_G43.2.wh hTHG40.2.2.2.1 hnG40 hwnG40 (by rw [hfG43 (65536 + 64 * n) (KX.al (KX.trans hXG1 hXG40) (by rw [← ho9]; exact kne hko (by decide))) (by show ¬ _; omega)])
            have hkdG43 : gS G43 o 1 = 3 := (congrFun (hfG43 o (KX.al (KX.trans hXG1 hXG40) (kne hko (by decide))) (by show ¬ _; omega)) 1).trans hkdG40
            have hnkG43 : nkC G43 n = 3 := (hS_G43.2.1.2 n hnG40).1.trans hnkG40
            have hFAG43 : FPa (PnC G43 v n) G43 A := ((hFAG40).ns hXG43 hfG43 ⟨KX.al (KX.trans hXG1 hXG40) (kne kA3 (by decide)), KX.al (KX.trans hXG1 hXG40) (kne kA4 (by decide))⟩ ⟨by show ¬ _; omega, by show ¬ _; omega, fun p hp => by show ¬ _; omega⟩).mono (fun x hx => hS_G43.2.pn hTHG40.2.2.2.1 hnG40 hx)
            have hFfG43 : FPa (PnC G43 v n) G43 (o + 1) := FPa.mono (P := PnC G40 v n) (fun p2 hp2 => by obtain ⟨⟨q9, L9, b1, b2, b3, b4, b5⟩, b6, b7⟩ := hpG43; by_cases e : p2 = (n1 : Int).toNat; (focus (subst e; exact ⟨q9, L9, b1, b2, b3, by omega, fun j hj => by rw [show j = 0 by omega, b5]; exact fun _ => stC.chS hnkG40 (hpG40.2.2.2)⟩)); exact (hFfG40 p2 hp2).wx hXG43 hfG43 (by show ¬ _; omega) (b7 p2 e).1 (b7 p2 e).2) (fun x hx => hS_G43.2.pn hTHG40.2.2.2.1 hnG40 hx)
            show WP kX2_choiceTypes X 98 [some (2, ((327682 : Nat) : Int)), some (2, ((o : Nat) : Int)), some (2, ((A : Nat) : Int)), some (2, ((B : Nat) : Int)), some (0, h1), some (0, n1)] [] G43
            refine s_iload dX2_choiceTypes_98 rfl ?_
            refine s_iconst dX2_choiceTypes_100 (by decide) ?_
            refine s_iload dX2_choiceTypes_101 rfl ?_
            refine s_ishl dX2_choiceTypes_103 ?_
            refine s_ior dX2_choiceTypes_104 ?_
            refine s_istore dX2_choiceTypes_105 (by decide) (lv' := [some (2, ((327682 : Nat) : Int)), some (2, ((o : Nat) : Int)), some (2, ((A : Nat) : Int)), some (2, ((B : Nat) : Int)), some (0, i_or h1 (i_shl 1 n1)), some (0, n1)]) rfl ?_
            refine s_iinc dX2_choiceTypes_107 (v := n1) rfl (by omega) (by decide) (lv' := [some (2, ((327682 : Nat) : Int)), some (2, ((o : Nat) : Int)), some (2, ((A : Nat) : Int)), some (2, ((B : Nat) : Int)), some (0, i_or h1 (i_shl 1 n1)), some (0, n1 + 1)]) rfl ?_
            refine s_goto (tgt := 6) dX2_choiceTypes_110 (by decide) ?_
            exact ih1 (i_or h1 (i_shl 1 n1)) (n1 + 1) G43 hCG43 (KX.trans (KX.trans hXG1 hXG40) hXG43) hFG43 (⟨(by omega), (by intro k hk hb; by_cases e : k = (n1 : Int).toNat; (focus (subst e; rw [hpG43.2.1]; decide)); rw [(hpG43.2.2 k e).2, hfG40 (o + 1 + 4) (KX.al hXG1 (kne kf4 (by decide))) (by show ¬ _; omega)]; exact iy1 k hk ((bit_or (by omega) (by omega) hb).resolve_left (fun z => e (by omega)))), (by intro k hk hk2 hb; rcases bit_or (by omega) (by omega) hb with z | z; (focus (omega)); exact ib1 k hk (by omega) z), (by exact hTHG43), (by exact hnG43), (by exact hTXG43), (by exact hwnG43), (by exact hkdG43), (by exact hnkG43), (by exact hFAG43), (by exact hFfG43)⟩) (by omega)
          · -- 53 to 56
            refine s_aload_n dX2_choiceTypes_56 rfl (Int.natCast_nonneg _) ?_
            have hk46 : gK G1 (o) = (13, 0) := ((hXG1).k hko (by decide))
            refine s_alv (o) (by simp) (fun (al47 : AL G1 o) => ?_)
            have hv48 : gS G1 o 7 = ((o + 1 : Nat) : Int) := by have h9 : (gS G1 o 7) = (((o % 1048576) + 1 : Nat) : Int) := hCG1.1.v (j := 7) (by rw [cde_n (by omega) (by omega)]; omega : cde o = 100) al47 (by rw [hk46]; exact Nat.le_of_ble_eq_true rfl); omega
            refine s_getf (ci := 5) (k := 7) (C := RX4) (T := TX4) (N := 14) (n := o) (L := 0) (t := 2) dX2_choiceTypes_57 rfl wi_72 m_592 (Nat.le_of_ble_eq_true rfl) rfl rfl hk46 hv48 ?_
            refine s_iload dX2_choiceTypes_60 rfl ?_
            refine s_aload_n dX2_choiceTypes_62 rfl (Int.natCast_nonneg _) ?_
            have hv49 : gS G1 A 3 = ((A + 3 : Nat) : Int) := by have h9 : (gS G1 A 3) = (((A % 1048576) + 3 : Nat) : Int) := hCG1.1.v (j := 3) (by rw [cde_n (by omega) (by omega)]; omega : cde A = 101) al7 (by rw [hk5]; exact Nat.le_of_ble_eq_true rfl); omega
            refine s_getf (ci := 1) (k := 3) (C := RX0) (T := TX0) (N := 7) (n := A) (L := 0) (t := 2) dX2_choiceTypes_63 rfl wi_65 m_574 (Nat.le_of_ble_eq_true rfl) rfl rfl hk5 hv49 ?_
            refine s_iload dX2_choiceTypes_66 rfl ?_
            refine s_aald4 dX2_choiceTypes_68 hk9 (by omega) (by omega) hv12 ?_
            refine s_aload_n dX2_choiceTypes_69 rfl (Int.natCast_nonneg _) ?_
            have hv52 : gS G1 A 4 = ((A + 4 : Nat) : Int) := by have h9 : (gS G1 A 4) = (((A % 1048576) + 4 : Nat) : Int) := hCG1.1.v (j := 4) (by rw [cde_n (by omega) (by omega)]; omega : cde A = 101) al7 (by rw [hk5]; exact Nat.le_of_ble_eq_true rfl); omega
            refine s_getf (ci := 1) (k := 4) (C := RX0) (T := TX0) (N := 7) (n := A) (L := 0) (t := 2) dX2_choiceTypes_70 rfl wi_65 m_575 (Nat.le_of_ble_eq_true rfl) rfl rfl hk5 hv52 ?_
            refine s_iload dX2_choiceTypes_73 rfl ?_
            have hv53 : 0 ≤ (gS G1 (A + 4) (n1 : Int).toNat) ∧ (gS G1 (A + 4) (n1 : Int).toNat) ≤ 200 := hCG1.1.v (j := (n1 : Int).toNat) (by rw [cde_n (by omega) (by omega)]; omega : cde (A + 4) = 105) al15 (by rw [hk14]; show (n1 : Int).toNat < 16; omega)
            refine s_iald dX2_choiceTypes_75 hk14 (by omega) (by omega) rfl ?_
            have hk56 : gK G1 (o + 1) = (9, 0) := ((hXG1).k kf0 (by decide))
            refine s_callV (as := [(0, n1), (2, ((q11 : Nat) : Int)), (0, gS G1 (A + 4) ((n1 : Int).toNat))]) (rest := []) (n := o + 1) (ci := 1) gX0_putType dX2_choiceTypes_76 m_1316 m_748 m_1481 m_711 m_75 ⟨by decide, by decide, show (parseMethodDescriptor yX0_putType.desc).map (fun d => d.parameters.length) = some 3 from by decide +kernel⟩ (Nat.le_of_ble_eq_true rfl) (by rw [hcf]; exact Nat.le_of_ble_eq_true rfl) hk56 rfl rfl (Nat.le_of_ble_eq_true rfl) ⟨o + 1, n1, q11, L30, gS G1 (A + 4) ((n1 : Int).toNat), a, b, rfl, hCG1, hab, (by first | assumption | omega), (by first | assumption | omega), hk29, (by first | assumption | omega), (by first | assumption | omega), (by first | assumption | omega), fun G54 hCG54 hXG54 hfG54 hpG54 => ?_⟩
            have hFG54 : WX (fun x => x = 327683 ∨ x = 327687 ∨ x = 327688 ∨ (o + 2 ≤ x ∧ x ≤ o + 23)) G G54 := WX.trans hFG1 hXG1 (WX.mono hfG54 (fun x hx => by omega))
            have hS_G54 : ThC G54 Hs ∧ TxC G1 G54 := hTHG1.wx hCG1 hXG54 hfG54 (hfn.kx hXG1) (by refine ⟨?_, ?_, ?_, ?_, ?_, ?_⟩ <;> (show ¬ _; omega)) (fun n9 h9 => by show ¬ _; omega)
            have hTHG54 : ThC G54 Hs := hS_G54.1
            have hnG54 : (n : Int) < nN G54 := by rw [hS_G54.2.1.1]; exact hnG1
            have hTXG54 : TxC G G54 := hTXG1.trans hS_G54.2
            have hwnG54 : WhC G54 v n := hS_G54.2.wh hTHG1.2.2.2.1 hnG1 hwnG1 (by rw [hfG54 (65536 + 64 * n) (KX.al hXG1 (by rw [← ho9]; exact kne hko (by decide))) (by show ¬ _; omega)])
            have hkdG54 : gS G54 o 1 = 3 := (congrFun (hfG54 o (KX.al hXG1 (kne hko (by decide))) (by show ¬ _; omega)) 1).trans hkdG1
            have hnkG54 : nkC G54 n = 3 := (hS_G54.2.1.2 n hnG1).1.trans hnkG1
            have hFAG54 : FPa (PnC G54 v n) G54 A := ((hFAG1).ns hXG54 hfG54 ⟨KX.al hXG1 (kne kA3 (by decide)), KX.al hXG1 (kne kA4 (by decide))⟩ ⟨by show ¬ _; omega, by show ¬ _; omega, fun p hp => by show ¬ _; omega⟩).mono (fun x hx => hS_G54.2.pn hTHG1.2.2.2.1 hnG1 hx)
            have hFfG54 : FPa (PnC G54 v n) G54 (o + 1) := ((FPa.put hpG54 hFfG1 (fun _ _ => (hFAG1 (n1 : Int).toNat (by omega)).rps hv12 rfl) hXG54 hfG54 (fun p hp hn => by show ¬ _; omega))).mono (fun x hx => hS_G54.2.pn hTHG1.2.2.2.1 hnG1 hx)
            show WP kX2_choiceTypes X 79 [some (2, ((327682 : Nat) : Int)), some (2, ((o : Nat) : Int)), some (2, ((A : Nat) : Int)), some (2, ((B : Nat) : Int)), some (0, h1), some (0, n1)] [] G54
            refine s_goto (tgt := 107) dX2_choiceTypes_79 (by decide) ?_
            refine s_iinc dX2_choiceTypes_107 (v := n1) rfl (by omega) (by decide) (lv' := [some (2, ((327682 : Nat) : Int)), some (2, ((o : Nat) : Int)), some (2, ((A : Nat) : Int)), some (2, ((B : Nat) : Int)), some (0, h1), some (0, n1 + 1)]) rfl ?_
            refine s_goto (tgt := 6) dX2_choiceTypes_110 (by decide) ?_
            exact ih1 h1 (n1 + 1) G54 hCG54 (KX.trans hXG1 hXG54) hFG54 (⟨(by omega), (by intro k hk hb; by_cases e : k = (n1 : Int).toNat; (focus (exfalso; subst e; exact ib1 _ (by omega) (by omega) hb)); rw [(hpG54.2.2 k e).2]; exact iy1 k hk hb), (by intro k hk hk2; exact ib1 k hk (by omega)), (by exact hTHG54), (by exact hnG54), (by exact hTXG54), (by exact hwnG54), (by exact hkdG54), (by exact hnkG54), (by exact hFAG54), (by exact hFfG54)⟩) (by omega)
  exact L1 _ 0 0 G hC KX.rf WX.rf (⟨(by omega), (by intro k hk hb; exact absurd (bit_0 ⟨by omega, by omega⟩) hb), (by intro k hk _ hb; exact hb (bit_0 ⟨by omega, by omega⟩)), (by exact hTH), (by exact hn), (by exact hTX), (by exact hwn), (by exact hkd), (by exact hnk), (by exact hFA), (by exact hFf)⟩) (Nat.lt_succ_self _)
