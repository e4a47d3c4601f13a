abbrev kX2_linkOne : KD := (RX2, cX2_linkOne, 5, (some .int), [])
def TX2_linkOne : TR := fun as G Qr => ∃ (P : Int → Prop) (k : Int) (A f : Nat) (a b : Nat), as = [(2, ((327682 : Nat) : Int)), (0, k), (2, ((A : Nat) : Int)), (2, ((f : Nat) : Int))] ∧ CI a b G ∧ (a ≤ 2840000 ∧ b ≤ 590000) ∧ (0 ≤ k ∧ k < 10) ∧ (isFc A) ∧ (isFc f) ∧ (A ≠ f) ∧ (∀ k : Nat, k < 6 → FIP P G 262144 k) ∧ (FPa P G A) ∧ (FPa P G f) ∧ ∀ (r : Int) (G' : LG), CI a b G' → KX G G' → WX (fun x => x = 327691 ∨ (f + 1 ≤ x ∧ x ≤ f + 22)) G G' → (FPa P G' f) → Qr (.inl (some (0, r))) G'
set_option maxHeartbeats 4000000 in
set_option maxRecDepth 100000 in
theorem gX2_linkOne : Good kX2_linkOne yX2_linkOne 3 TX2_linkOne := by
  refine good_of (by decide) rfl rfl (fun as G Qr h => ?_) (fun X as G Qr hcf hR hT oa => ?_)
  · obtain ⟨P, k, A, f, a, b, rfl, -⟩ := h; exact Nat.le_of_ble_eq_true rfl
  obtain ⟨P, k, A, f, a, b, rfl, hC, hab, hk, hA, hf, hne, hFI, hFA, hFf, hQ⟩ := hT
  show WP kX2_linkOne X 0 [some (2, ((327682 : Nat) : Int)), some (0, k), some (2, ((A : Nat) : Int)), some (2, ((f : Nat) : Int)), none] [] G
  have hr_k : inR k := okv_R (oa _ (by simp))
  have rg0 : RM (fun x => x = 327691) (fun x => x = 327691 ∨ (f + 1 ≤ x ∧ x ≤ f + 22)) := fun x hx => by (try dsimp only at hx ⊢); omega
  have rg1 : RNk (fun x => x = 327691) (262144 + 16) 6 := fun k hk => by show ¬ _; omega
  have rg2 : RNx (fun x => x = 327691) ((262144 + 5) % 1048576) := by show ¬ _; omega
  have rg3 : RNf (fun x => x = 327691) A := ⟨by show ¬ _; omega, by show ¬ _; omega, fun p hp => by show ¬ _; omega⟩
  have rg4 : RNf (fun x => x = 327691) f := ⟨by show ¬ _; omega, by show ¬ _; omega, fun p hp => by show ¬ _; omega⟩
  have rg5 : RM (fun x => x = f + 5 ∨ x = f + 6) (fun x => x = 327691 ∨ (f + 1 ≤ x ∧ x ≤ f + 22)) := fun x hx => by (try dsimp only at hx ⊢); omega
  have rg6 : RNk (fun x => x = f + 5 ∨ x = f + 6) (262144 + 16) 6 := fun k hk => by show ¬ _; omega
  have rg7 : RNx (fun x => x = f + 5 ∨ x = f + 6) ((262144 + 5) % 1048576) := by show ¬ _; omega
  have rg8 : RNf (fun x => x = f + 5 ∨ x = f + 6) A := ⟨by show ¬ _; omega, by show ¬ _; omega, fun p hp => by show ¬ _; omega⟩
  have rg9 : RNf (fun x => x = f + 5 ∨ x = f + 6) f := ⟨by show ¬ _; omega, by show ¬ _; omega, fun p hp => by show ¬ _; omega⟩
  refine s_alvl 327682 (k := 0) rfl (fun alZ => ?_)
  refine s_alvl A (k := 2) rfl (fun alA => ?_)
  refine s_alvl f (k := 3) rfl (fun alf => ?_)
  refine s_lk (fun hlk => ?_)
  have hfn := hlk.fna hC alZ
  obtain ⟨k327682, k327681, k327683, k262144, k262208, k327684, k68097, k327691, k327692, k262145, k262146, k262148, k262149, k262209, k262210, k262212, k262213, k327710, k327685, k327688⟩ := id hfn
  have hfA := hlk.fc hC hA alA
  obtain ⟨kA0, kA1, kA2, kA3, kA4, kA5, kA6⟩ := hfA.1
  have hff := hlk.fc hC hf alf
  obtain ⟨kf0, kf1, kf2, kf3, kf4, kf5, kf6⟩ := hff.1
  refine s_aload_n dX2_linkOne_0 rfl (Int.natCast_nonneg _) ?_
  have hv1 : gS G 327682 2 = ((262144 : Nat) : Int) := by have h9 : (gS G 327682 2) = 262144 := hC.1.v (j := 2) (by decide : cde 327682 = 502) (kne k327682 (by decide)) (by rw [k327682]; exact Nat.le_of_ble_eq_true rfl); omega
  refine s_getf (ci := 3) (k := 2) (C := RX2) (T := TX2) (N := 8) (n := 327682) (L := 0) (t := 2) dX2_linkOne_1 rfl wi_70 m_577 (Nat.le_of_ble_eq_true rfl) rfl rfl k327682 hv1 ?_
  refine s_aload_n dX2_linkOne_4 rfl (Int.natCast_nonneg _) ?_
  have hv2 : gS G A 3 = ((A + 3 : Nat) : Int) := by have h9 : (gS G A 3) = (((A % 1048576) + 3 : Nat) : Int) := hC.1.v (j := 3) (by rw [cde_n (by omega) (by omega)]; omega : cde A = 101) (kne kA0 (by decide)) (by rw [kA0]; exact Nat.le_of_ble_eq_true rfl); omega
  refine s_getf (ci := 1) (k := 3) (C := RX0) (T := TX0) (N := 7) (n := A) (L := 0) (t := 2) dX2_linkOne_5 rfl wi_65 m_574 (Nat.le_of_ble_eq_true rfl) rfl rfl kA0 hv2 ?_
  refine s_bipush dX2_linkOne_8 rfl (by decide) ?_
  refine s_iload_n dX2_linkOne_10 rfl ?_
  refine s_iadd dX2_linkOne_11 (by omega) ?_
  have hv4b : 0 ≤ (gS G (A + 3) (6 + k : Int).toNat) ∧ (gS G (A + 3) (6 + k : Int).toNat) % 1048576 = ((((A + 3) % 1048576) + 4 + ((6 + k : Int).toNat) : Nat) : Int) := hC.1.v (j := (6 + k : Int).toNat) (by rw [cde_n (by omega) (by omega)]; omega : cde (A + 3) = 104) (kne kA3 (by decide)) (by rw [kA3]; show (6 + k : Int).toNat < 16; omega)
  obtain ⟨q3, hv4⟩ : ∃ q : Nat, gS G (A + 3) (6 + k : Int).toNat = (q : Int) := ⟨(gS G (A + 3) (6 + k : Int).toNat).toNat, by omega⟩
  rw [hv4] at hv4b
  refine s_aald4 dX2_linkOne_12 kA3 (by omega) (by omega) hv4 ?_
  refine s_aload_n dX2_linkOne_13 rfl (Int.natCast_nonneg _) ?_
  have hv5 : gS G A 4 = ((A + 4 : Nat) : Int) := by have h9 : (gS G A 4) = (((A % 1048576) + 4 : Nat) : Int) := hC.1.v (j := 4) (by rw [cde_n (by omega) (by omega)]; omega : cde A = 101) (kne kA0 (by decide)) (by rw [kA0]; exact Nat.le_of_ble_eq_true rfl); omega
  refine s_getf (ci := 1) (k := 4) (C := RX0) (T := TX0) (N := 7) (n := A) (L := 0) (t := 2) dX2_linkOne_14 rfl wi_65 m_575 (Nat.le_of_ble_eq_true rfl) rfl rfl kA0 hv5 ?_
  refine s_bipush dX2_linkOne_17 rfl (by decide) ?_
  refine s_iload_n dX2_linkOne_19 rfl ?_
  refine s_iadd dX2_linkOne_20 (by omega) ?_
  have hv6 : 0 ≤ (gS G (A + 4) (6 + k : Int).toNat) ∧ (gS G (A + 4) (6 + k : Int).toNat) ≤ 200 := hC.1.v (j := (6 + k : Int).toNat) (by rw [cde_n (by omega) (by omega)]; omega : cde (A + 4) = 105) (kne kA4 (by decide)) (by rw [kA4]; show (6 + k : Int).toNat < 16; omega)
  refine s_iald dX2_linkOne_21 kA4 (by omega) (by omega) rfl ?_
  refine s_aload_n dX2_linkOne_22 rfl (Int.natCast_nonneg _) ?_
  have hv7 : gS G 327682 6 = ((327691 : Nat) : Int) := by have h9 : (gS G 327682 6) = 327691 := hC.1.v (j := 6) (by decide : cde 327682 = 502) (kne k327682 (by decide)) (by rw [k327682]; exact Nat.le_of_ble_eq_true rfl); omega
  refine s_getf (ci := 3) (k := 6) (C := RX2) (T := TX2) (N := 8) (n := 327682) (L := 0) (t := 2) dX2_linkOne_23 rfl wi_70 m_582 (Nat.le_of_ble_eq_true rfl) rfl rfl k327682 hv7 ?_
  refine s_alv (q3) (by simp) (fun al8 => ?_)
  obtain ⟨L10, hk9, hL10a, hL10b⟩ := hC.1.kr (show 108 ≤ cde q3 ∧ cde q3 < 124 from by rw [cde_n (by omega) (by omega)]; omega) al8
  refine s_callV (as := [(2, ((q3 : Nat) : Int)), (0, gS G (A + 4) ((6 + k : Int).toNat)), (2, ((327691 : Nat) : Int))]) (rest := []) (n := 262144) (ci := 2) gX1_put dX2_linkOne_26 m_1319 m_918 m_1493 m_712 m_260 ⟨by decide, by decide, show (parseMethodDescriptor yX1_put.desc).map (fun d => d.parameters.length) = some 3 from by decide +kernel⟩ (Nat.le_of_ble_eq_true rfl) (by rw [hcf]; exact Nat.le_of_ble_eq_true rfl) k262144 rfl rfl (Nat.le_of_ble_eq_true rfl) ⟨262144, q3, L10, gS G (A + 4) ((6 + k : Int).toNat), 327691, a, b, rfl, hC, hab, (by first | assumption | omega), hk9, (by omega), k327691, (by exact FRW.s), (by omega), (by omega), (by omega), fun rr12 G11 hCG11 hXG11 hfG11 hpG11 => ?_⟩
  have hFG11 : WX (fun x => x = 327691 ∨ (f + 1 ≤ x ∧ x ≤ f + 22)) G G11 := WX.trans WX.rf KX.rf (WX.mono hfG11 rg0)
  have hFIG11 : ∀ k : Nat, k < 6 → FIP P G11 262144 k := fun k hk => FIP.ns (hFI k hk) hXG11 hfG11 hk (KX.al KX.rf (kne k262149 (by decide))) rg1 rg2
  have hFAG11 : FPa P G11 A := (hFA).ns hXG11 hfG11 ⟨KX.al KX.rf (kne kA3 (by decide)), KX.al KX.rf (kne kA4 (by decide))⟩ rg3
  have hFfG11 : FPa P G11 f := (hFf).ns hXG11 hfG11 ⟨KX.al KX.rf (kne kf3 (by decide)), KX.al KX.rf (kne kf4 (by decide))⟩ rg4
  show WP kX2_linkOne X 29 [some (2, ((327682 : Nat) : Int)), some (0, k), some (2, ((A : Nat) : Int)), some (2, ((f : Nat) : Int)), none] [(0, rr12)] G11
  refine s_istore dX2_linkOne_29 (by decide) (lv' := [some (2, ((327682 : Nat) : Int)), some (0, k), some (2, ((A : Nat) : Int)), some (2, ((f : Nat) : Int)), some (0, rr12)]) rfl ?_
  refine s_iload dX2_linkOne_31 rfl ?_
  refine s_sipush dX2_linkOne_33 rfl (by decide) ?_
  refine s_icmp_le (tgt := 46) dX2_linkOne_36 (by decide) (fun c13 => ?_) (fun c13 => ?_)
  · -- 36 to 46
    refine s_aload_n dX2_linkOne_46 rfl (Int.natCast_nonneg _) ?_
    refine s_iload_n dX2_linkOne_47 rfl ?_
    refine s_aload_n dX2_linkOne_48 rfl (Int.natCast_nonneg _) ?_
    have hk14 : gK G11 (A) = (9, 0) := ((hXG11).k kA0 (by decide))
    refine s_alv (A) (by simp) (fun al15 => ?_)
    have hv16 : gS G11 A 2 = ((A + 2 : Nat) : Int) := by have h9 : (gS G11 A 2) = (((A % 1048576) + 2 : Nat) : Int) := hCG11.1.v (j := 2) (by rw [cde_n (by omega) (by omega)]; omega : cde A = 101) al15 (by rw [hk14]; exact Nat.le_of_ble_eq_true rfl); omega
    refine s_getf (ci := 1) (k := 2) (C := RX0) (T := TX0) (N := 7) (n := A) (L := 0) (t := 2) dX2_linkOne_49 rfl wi_65 m_576 (Nat.le_of_ble_eq_true rfl) rfl rfl hk14 hv16 ?_
    refine s_iload_n dX2_linkOne_52 rfl ?_
    have hk17 : gK G11 (A + 2) = (1, 10) := ((hXG11).k kA2 (by decide))
    refine s_iald dX2_linkOne_53 hk17 (by omega) (by omega) rfl ?_
    refine s_aload_n dX2_linkOne_54 rfl (Int.natCast_nonneg _) ?_
    have hk18 : gK G11 (327682) = (11, 0) := ((hXG11).k k327682 (by decide))
    refine s_alv (327682) (by simp) (fun al19 => ?_)
    have hv20 : gS G11 327682 6 = ((327691 : Nat) : Int) := by have h9 : (gS G11 327682 6) = 327691 := hCG11.1.v (j := 6) (by decide : cde 327682 = 502) al19 (by rw [hk18]; exact Nat.le_of_ble_eq_true rfl); omega
    refine s_getf (ci := 3) (k := 6) (C := RX2) (T := TX2) (N := 8) (n := 327682) (L := 0) (t := 2) dX2_linkOne_55 rfl wi_70 m_582 (Nat.le_of_ble_eq_true rfl) rfl rfl hk18 hv20 ?_
    refine s_iload dX2_linkOne_58 rfl ?_
    have hk21 : gK G11 (327691) = (1, 200) := ((hXG11).k k327691 (by decide))
    have hk24 : gK G11 (f) = (9, 0) := ((hXG11).k kf0 (by decide))
    refine s_callV (as := [(0, k), (0, gS G11 (A + 2) ((k : Int).toNat)), (2, ((327691 : Nat) : Int)), (0, rr12)]) (rest := []) (n := f) (ci := 1) gX0_putValue dX2_linkOne_60 m_1320 m_750 m_1483 m_711 m_77 ⟨by decide, by decide, show (parseMethodDescriptor yX0_putValue.desc).map (fun d => d.parameters.length) = some 4 from by decide +kernel⟩ (Nat.le_of_ble_eq_true rfl) (by rw [hcf]; exact Nat.le_of_ble_eq_true rfl) hk24 rfl rfl (Nat.le_of_ble_eq_true rfl) ⟨f, k, gS G11 (A + 2) ((k : Int).toNat), 327691, 200, rr12, a, b, rfl, hCG11, hab, (by first | assumption | omega), (by first | assumption | omega), hk21, (by first | assumption | omega), (by first | assumption | omega), (by first | assumption | omega), fun G22 hCG22 hXG22 hfG22 hpG22 => ?_⟩
    have hFG22 : WX (fun x => x = 327691 ∨ (f + 1 ≤ x ∧ x ≤ f + 22)) G G22 := WX.trans hFG11 hXG11 (WX.mono hfG22 (fun x hx => by omega))
    have hFIG22 : ∀ k : Nat, k < 6 → FIP P G22 262144 k := fun k hk => FIP.ns (hFIG11 k hk) hXG22 hfG22 hk (KX.al hXG11 (kne k262149 (by decide))) (fun k hk => by show ¬ _; omega) (by show ¬ _; omega)
    have hFAG22 : FPa P G22 A := (hFAG11).ns hXG22 hfG22 ⟨KX.al hXG11 (kne kA3 (by decide)), KX.al hXG11 (kne kA4 (by decide))⟩ ⟨by show ¬ _; omega, by show ¬ _; omega, fun p hp => by show ¬ _; omega⟩
    have hFfG22 : FPa P G22 f := FPa.put hpG22.1 hFfG11 (fun _ _ => hpG11.2 P ((hFA (6 + k : Int).toNat (by omega)).rps hv4 rfl) hFI (by omega)) hXG22 hfG22 (fun p hp hn => by show ¬ _; omega)
    show WP kX2_linkOne X 63 [some (2, ((327682 : Nat) : Int)), some (0, k), some (2, ((A : Nat) : Int)), some (2, ((f : Nat) : Int)), some (0, rr12)] [] G22
    refine s_aload_n dX2_linkOne_63 rfl (Int.natCast_nonneg _) ?_
    refine s_iload_n dX2_linkOne_64 rfl ?_
    refine s_aload_n dX2_linkOne_65 rfl (Int.natCast_nonneg _) ?_
    refine s_iload_n dX2_linkOne_66 rfl ?_
    have hk27 : gK G22 (f) = (9, 0) := ((hXG22).k hk24 (by decide))
    refine s_callV (as := [(0, k), (2, ((A : Nat) : Int)), (0, k)]) (rest := []) (n := f) (ci := 1) gX0_putNumberOf dX2_linkOne_67 m_1321 m_745 m_1478 m_711 m_72 ⟨by decide, by decide, show (parseMethodDescriptor yX0_putNumberOf.desc).map (fun d => d.parameters.length) = some 3 from by decide +kernel⟩ (Nat.le_of_ble_eq_true rfl) (by rw [hcf]; exact Nat.le_of_ble_eq_true rfl) hk27 rfl rfl (Nat.le_of_ble_eq_true rfl) ⟨f, k, A, k, a, b, rfl, hCG22, hab, (by first | assumption | omega), (by first | assumption | omega), (by first | assumption | omega), (by first | assumption | omega), fun G25 hCG25 hXG25 hfG25 hpG25 => ?_⟩
    have hFG25 : WX (fun x => x = 327691 ∨ (f + 1 ≤ x ∧ x ≤ f + 22)) G G25 := WX.trans hFG22 (KX.trans hXG11 hXG22) (WX.mono hfG25 rg5)
    have hFIG25 : ∀ k : Nat, k < 6 → FIP P G25 262144 k := fun k hk => FIP.ns (hFIG22 k hk) hXG25 hfG25 hk (KX.al (KX.trans hXG11 hXG22) (kne k262149 (by decide))) rg6 rg7
    have hFAG25 : FPa P G25 A := (hFAG22).ns hXG25 hfG25 ⟨KX.al (KX.trans hXG11 hXG22) (kne kA3 (by decide)), KX.al (KX.trans hXG11 hXG22) (kne kA4 (by decide))⟩ rg8
    have hFfG25 : FPa P G25 f := (hFfG22).ns hXG25 hfG25 ⟨KX.al (KX.trans hXG11 hXG22) (kne kf3 (by decide)), KX.al (KX.trans hXG11 hXG22) (kne kf4 (by decide))⟩ rg9
    show WP kX2_linkOne X 70 [some (2, ((327682 : Nat) : Int)), some (0, k), some (2, ((A : Nat) : Int)), some (2, ((f : Nat) : Int)), some (0, rr12)] [] G25
    refine s_iconst dX2_linkOne_70 (by decide) ?_
    exact s_iret hR dX2_linkOne_71 rfl (hQ 0 G25 hCG25 (KX.trans (KX.trans hXG11 hXG22) hXG25) hFG25 hFfG25)
  · -- 36 to 39
    refine s_bipush dX2_linkOne_39 rfl (by decide) ?_
    refine s_iload_n dX2_linkOne_41 rfl ?_
    refine s_callSN (own := RX2) rfl (by decide +kernel) (as := [(0, 7), (0, k)]) (rest := []) gX11_valueMistake dX2_linkOne_42 m_1784 m_714 m_129 ⟨by decide, by decide, show (parseMethodDescriptor yX11_valueMistake.desc).map (fun d => d.parameters.length) = some 2 from by decide +kernel⟩ (Nat.le_of_ble_eq_true rfl) (by rw [hcf]; exact Nat.le_of_ble_eq_true rfl) rfl (Nat.le_of_ble_eq_true rfl) ⟨7, k, rfl, (by first | assumption | omega), (by first | assumption | omega), fun rr28 hp29 => ?_⟩
    show WP kX2_linkOne X 45 [some (2, ((327682 : Nat) : Int)), some (0, k), some (2, ((A : Nat) : Int)), some (2, ((f : Nat) : Int)), some (0, rr12)] [(0, rr28)] G11
    exact s_iret hR dX2_linkOne_45 rfl (hQ rr28 G11 hCG11 hXG11 hFG11 hFfG11)
