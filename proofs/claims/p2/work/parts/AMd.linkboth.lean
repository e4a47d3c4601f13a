abbrev kX2_linkBoth : KD := (RX2, cX2_linkBoth, 9, (some .int), [])
def TX2_linkBoth : TR := fun as G Qr => ∃ (P : Int → Prop) (k : Int) (A B f : Nat) (a b : Nat), as = [(2, ((327682 : Nat) : Int)), (0, k), (2, ((A : Nat) : Int)), (2, ((B : Nat) : Int)), (2, ((f : Nat) : Int))] ∧ CI a b G ∧ (a ≤ 2840000 ∧ b ≤ 590000) ∧ (0 ≤ k ∧ k < 10) ∧ (isFc A) ∧ (isFc B) ∧ (isFc f) ∧ (A ≠ f ∧ B ≠ f) ∧ (∀ k : Nat, k < 6 → FIP P G 262144 k) ∧ (FPa P G A) ∧ (FPa P G B) ∧ (FPa P G f) ∧ ∀ (r : Int) (G' : LG), CI a b G' → KX G G' → WX (fun x => x = 327691 ∨ x = 327692 ∨ (f + 1 ≤ x ∧ x ≤ f + 22)) G G' → (FPa P G' f) → Qr (.inl (some (0, r))) G'
set_option maxHeartbeats 4000000 in
set_option maxRecDepth 100000 in
theorem gX2_linkBoth : Good kX2_linkBoth yX2_linkBoth 3 TX2_linkBoth := by
  refine good_of (by decide) rfl rfl (fun as G Qr h => ?_) (fun X as G Qr hcf hR hT oa => ?_)
  · obtain ⟨P, k, A, B, f, a, b, rfl, -⟩ := h; exact Nat.le_of_ble_eq_true rfl
  obtain ⟨P, k, A, B, f, a, b, rfl, hC, hab, hk, hA, hB, hf, hne, hFI, hFA, hFB, hFf, hQ⟩ := hT
  show WP kX2_linkBoth X 0 [some (2, ((327682 : Nat) : Int)), some (0, k), some (2, ((A : Nat) : Int)), some (2, ((B : Nat) : Int)), some (2, ((f : Nat) : Int)), none, none, none, none] [] G
  have hr_k : inR k := okv_R (oa _ (by simp))
  have rg0 : RM (fun x => x = 327691) (fun x => x = 327691 ∨ x = 327692 ∨ (f + 1 ≤ x ∧ x ≤ f + 22)) := fun x hx => by (try dsimp only at hx ⊢); omega
  have rg1 : RNk (fun x => x = 327691) (262144 + 16) 6 := fun k hk => by show ¬ _; omega
  have rg2 : RNx (fun x => x = 327691) ((262144 + 5) % 1048576) := by show ¬ _; omega
  have rg3 : RNf (fun x => x = 327691) A := ⟨by show ¬ _; omega, by show ¬ _; omega, fun p hp => by show ¬ _; omega⟩
  have rg4 : RNf (fun x => x = 327691) B := ⟨by show ¬ _; omega, by show ¬ _; omega, fun p hp => by show ¬ _; omega⟩
  have rg5 : RNf (fun x => x = 327691) f := ⟨by show ¬ _; omega, by show ¬ _; omega, fun p hp => by show ¬ _; omega⟩
  have rg6 : RM (fun x => x = 327692) (fun x => x = 327691 ∨ x = 327692 ∨ (f + 1 ≤ x ∧ x ≤ f + 22)) := fun x hx => by (try dsimp only at hx ⊢); omega
  have rg7 : RNk (fun x => x = 327692) (262144 + 16) 6 := fun k hk => by show ¬ _; omega
  have rg8 : RNx (fun x => x = 327692) ((262144 + 5) % 1048576) := by show ¬ _; omega
  have rg9 : RNf (fun x => x = 327692) A := ⟨by show ¬ _; omega, by show ¬ _; omega, fun p hp => by show ¬ _; omega⟩
  have rg10 : RNf (fun x => x = 327692) B := ⟨by show ¬ _; omega, by show ¬ _; omega, fun p hp => by show ¬ _; omega⟩
  have rg11 : RNf (fun x => x = 327692) f := ⟨by show ¬ _; omega, by show ¬ _; omega, fun p hp => by show ¬ _; omega⟩
  have rg12 : RM (fun x => x = f + 5 ∨ x = f + 6) (fun x => x = 327691 ∨ x = 327692 ∨ (f + 1 ≤ x ∧ x ≤ f + 22)) := fun x hx => by (try dsimp only at hx ⊢); omega
  have rg13 : RNk (fun x => x = f + 5 ∨ x = f + 6) (262144 + 16) 6 := fun k hk => by show ¬ _; omega
  have rg14 : RNx (fun x => x = f + 5 ∨ x = f + 6) ((262144 + 5) % 1048576) := by show ¬ _; omega
  have rg15 : RNf (fun x => x = f + 5 ∨ x = f + 6) A := ⟨by show ¬ _; omega, by show ¬ _; omega, fun p hp => by show ¬ _; omega⟩
  have rg16 : RNf (fun x => x = f + 5 ∨ x = f + 6) B := ⟨by show ¬ _; omega, by show ¬ _; omega, fun p hp => by show ¬ _; omega⟩
  have rg17 : RNf (fun x => x = f + 5 ∨ x = f + 6) f := ⟨by show ¬ _; omega, by show ¬ _; omega, fun p hp => by show ¬ _; omega⟩
  refine s_alvl 327682 (k := 0) rfl (fun alZ => ?_)
  refine s_alvl A (k := 2) rfl (fun alA => ?_)
  refine s_alvl B (k := 3) rfl (fun alB => ?_)
  refine s_alvl f (k := 4) rfl (fun alf => ?_)
  refine s_lk (fun hlk => ?_)
  have hfn := hlk.fna hC alZ
  obtain ⟨k327682, k327681, k327683, k262144, k262208, k327684, k68097, k327691, k327692, k262145, k262146, k262148, k262149, k262209, k262210, k262212, k262213, k327710, k327685, k327688⟩ := id hfn
  have hfA := hlk.fc hC hA alA
  obtain ⟨kA0, kA1, kA2, kA3, kA4, kA5, kA6⟩ := hfA.1
  have hfB := hlk.fc hC hB alB
  obtain ⟨kB0, kB1, kB2, kB3, kB4, kB5, kB6⟩ := hfB.1
  have hff := hlk.fc hC hf alf
  obtain ⟨kf0, kf1, kf2, kf3, kf4, kf5, kf6⟩ := hff.1
  refine s_aload_n dX2_linkBoth_0 rfl (Int.natCast_nonneg _) ?_
  have hv1 : gS G 327682 2 = ((262144 : Nat) : Int) := by have h9 : (gS G 327682 2) = 262144 := hC.1.v (j := 2) (by decide : cde 327682 = 502) (kne k327682 (by decide)) (by rw [k327682]; exact Nat.le_of_ble_eq_true rfl); omega
  refine s_getf (ci := 3) (k := 2) (C := RX2) (T := TX2) (N := 8) (n := 327682) (L := 0) (t := 2) dX2_linkBoth_1 rfl wi_70 m_577 (Nat.le_of_ble_eq_true rfl) rfl rfl k327682 hv1 ?_
  refine s_aload_n dX2_linkBoth_4 rfl (Int.natCast_nonneg _) ?_
  have hv2 : gS G A 3 = ((A + 3 : Nat) : Int) := by have h9 : (gS G A 3) = (((A % 1048576) + 3 : Nat) : Int) := hC.1.v (j := 3) (by rw [cde_n (by omega) (by omega)]; omega : cde A = 101) (kne kA0 (by decide)) (by rw [kA0]; exact Nat.le_of_ble_eq_true rfl); omega
  refine s_getf (ci := 1) (k := 3) (C := RX0) (T := TX0) (N := 7) (n := A) (L := 0) (t := 2) dX2_linkBoth_5 rfl wi_65 m_574 (Nat.le_of_ble_eq_true rfl) rfl rfl kA0 hv2 ?_
  refine s_bipush dX2_linkBoth_8 rfl (by decide) ?_
  refine s_iload_n dX2_linkBoth_10 rfl ?_
  refine s_iadd dX2_linkBoth_11 (by omega) ?_
  have hv4b : 0 ≤ (gS G (A + 3) (6 + k : Int).toNat) ∧ (gS G (A + 3) (6 + k : Int).toNat) % 1048576 = ((((A + 3) % 1048576) + 4 + ((6 + k : Int).toNat) : Nat) : Int) := hC.1.v (j := (6 + k : Int).toNat) (by rw [cde_n (by omega) (by omega)]; omega : cde (A + 3) = 104) (kne kA3 (by decide)) (by rw [kA3]; show (6 + k : Int).toNat < 16; omega)
  obtain ⟨q3, hv4⟩ : ∃ q : Nat, gS G (A + 3) (6 + k : Int).toNat = (q : Int) := ⟨(gS G (A + 3) (6 + k : Int).toNat).toNat, by omega⟩
  rw [hv4] at hv4b
  refine s_aald4 dX2_linkBoth_12 kA3 (by omega) (by omega) hv4 ?_
  refine s_aload_n dX2_linkBoth_13 rfl (Int.natCast_nonneg _) ?_
  have hv5 : gS G A 4 = ((A + 4 : Nat) : Int) := by have h9 : (gS G A 4) = (((A % 1048576) + 4 : Nat) : Int) := hC.1.v (j := 4) (by rw [cde_n (by omega) (by omega)]; omega : cde A = 101) (kne kA0 (by decide)) (by rw [kA0]; exact Nat.le_of_ble_eq_true rfl); omega
  refine s_getf (ci := 1) (k := 4) (C := RX0) (T := TX0) (N := 7) (n := A) (L := 0) (t := 2) dX2_linkBoth_14 rfl wi_65 m_575 (Nat.le_of_ble_eq_true rfl) rfl rfl kA0 hv5 ?_
  refine s_bipush dX2_linkBoth_17 rfl (by decide) ?_
  refine s_iload_n dX2_linkBoth_19 rfl ?_
  refine s_iadd dX2_linkBoth_20 (by omega) ?_
  have hv6 : 0 ≤ (gS G (A + 4) (6 + k : Int).toNat) ∧ (gS G (A + 4) (6 + k : Int).toNat) ≤ 200 := hC.1.v (j := (6 + k : Int).toNat) (by rw [cde_n (by omega) (by omega)]; omega : cde (A + 4) = 105) (kne kA4 (by decide)) (by rw [kA4]; show (6 + k : Int).toNat < 16; omega)
  refine s_iald dX2_linkBoth_21 kA4 (by omega) (by omega) rfl ?_
  refine s_aload_n dX2_linkBoth_22 rfl (Int.natCast_nonneg _) ?_
  have hv7 : gS G 327682 6 = ((327691 : Nat) : Int) := by have h9 : (gS G 327682 6) = 327691 := hC.1.v (j := 6) (by decide : cde 327682 = 502) (kne k327682 (by decide)) (by rw [k327682]; exact Nat.le_of_ble_eq_true rfl); omega
  refine s_getf (ci := 3) (k := 6) (C := RX2) (T := TX2) (N := 8) (n := 327682) (L := 0) (t := 2) dX2_linkBoth_23 rfl wi_70 m_582 (Nat.le_of_ble_eq_true rfl) rfl rfl k327682 hv7 ?_
  refine s_alv (q3) (by simp) (fun al8 => ?_)
  obtain ⟨L10, hk9, hL10a, hL10b⟩ := hC.1.kr (show 108 ≤ cde q3 ∧ cde q3 < 124 from by rw [cde_n (by omega) (by omega)]; omega) al8
  refine s_callV (as := [(2, ((q3 : Nat) : Int)), (0, gS G (A + 4) ((6 + k : Int).toNat)), (2, ((327691 : Nat) : Int))]) (rest := []) (n := 262144) (ci := 2) gX1_put dX2_linkBoth_26 m_1319 m_918 m_1493 m_712 m_260 ⟨by decide, by decide, show (parseMethodDescriptor yX1_put.desc).map (fun d => d.parameters.length) = some 3 from by decide +kernel⟩ (Nat.le_of_ble_eq_true rfl) (by rw [hcf]; exact Nat.le_of_ble_eq_true rfl) k262144 rfl rfl (Nat.le_of_ble_eq_true rfl) ⟨262144, q3, L10, gS G (A + 4) ((6 + k : Int).toNat), 327691, a, b, rfl, hC, hab, (by first | assumption | omega), hk9, (by omega), k327691, (by exact FRW.s), (by omega), (by omega), (by omega), fun rr12 G11 hCG11 hXG11 hfG11 hpG11 => ?_⟩
  have hFG11 : WX (fun x => x = 327691 ∨ x = 327692 ∨ (f + 1 ≤ x ∧ x ≤ f + 22)) G G11 := WX.trans WX.rf KX.rf (WX.mono hfG11 rg0)
  have hFIG11 : ∀ k : Nat, k < 6 → FIP P G11 262144 k := fun k hk => FIP.ns (hFI k hk) hXG11 hfG11 hk (KX.al KX.rf (kne k262149 (by decide))) rg1 rg2
  have hFAG11 : FPa P G11 A := (hFA).ns hXG11 hfG11 ⟨KX.al KX.rf (kne kA3 (by decide)), KX.al KX.rf (kne kA4 (by decide))⟩ rg3
  have hFBG11 : FPa P G11 B := (hFB).ns hXG11 hfG11 ⟨KX.al KX.rf (kne kB3 (by decide)), KX.al KX.rf (kne kB4 (by decide))⟩ rg4
  have hFfG11 : FPa P G11 f := (hFf).ns hXG11 hfG11 ⟨KX.al KX.rf (kne kf3 (by decide)), KX.al KX.rf (kne kf4 (by decide))⟩ rg5
  show WP kX2_linkBoth X 29 [some (2, ((327682 : Nat) : Int)), some (0, k), some (2, ((A : Nat) : Int)), some (2, ((B : Nat) : Int)), some (2, ((f : Nat) : Int)), none, none, none, none] [(0, rr12)] G11
  refine s_istore dX2_linkBoth_29 (by decide) (lv' := [some (2, ((327682 : Nat) : Int)), some (0, k), some (2, ((A : Nat) : Int)), some (2, ((B : Nat) : Int)), some (2, ((f : Nat) : Int)), some (0, rr12), none, none, none]) rfl ?_
  refine s_aload_n dX2_linkBoth_31 rfl (Int.natCast_nonneg _) ?_
  have hk13 : gK G11 (327682) = (11, 0) := ((hXG11).k k327682 (by decide))
  refine s_alv (327682) (by simp) (fun al14 => ?_)
  have hv15 : gS G11 327682 2 = ((262144 : Nat) : Int) := by have h9 : (gS G11 327682 2) = 262144 := hCG11.1.v (j := 2) (by decide : cde 327682 = 502) al14 (by rw [hk13]; exact Nat.le_of_ble_eq_true rfl); omega
  refine s_getf (ci := 3) (k := 2) (C := RX2) (T := TX2) (N := 8) (n := 327682) (L := 0) (t := 2) dX2_linkBoth_32 rfl wi_70 m_577 (Nat.le_of_ble_eq_true rfl) rfl rfl hk13 hv15 ?_
  refine s_aload_n dX2_linkBoth_35 rfl (Int.natCast_nonneg _) ?_
  have hk16 : gK G11 (B) = (9, 0) := ((hXG11).k kB0 (by decide))
  refine s_alv (B) (by simp) (fun al17 => ?_)
  have hv18 : gS G11 B 3 = ((B + 3 : Nat) : Int) := by have h9 : (gS G11 B 3) = (((B % 1048576) + 3 : Nat) : Int) := hCG11.1.v (j := 3) (by rw [cde_n (by omega) (by omega)]; omega : cde B = 101) al17 (by rw [hk16]; exact Nat.le_of_ble_eq_true rfl); omega
  refine s_getf (ci := 1) (k := 3) (C := RX0) (T := TX0) (N := 7) (n := B) (L := 0) (t := 2) dX2_linkBoth_36 rfl wi_65 m_574 (Nat.le_of_ble_eq_true rfl) rfl rfl hk16 hv18 ?_
  refine s_bipush dX2_linkBoth_39 rfl (by decide) ?_
  refine s_iload_n dX2_linkBoth_41 rfl ?_
  refine s_iadd dX2_linkBoth_42 (by omega) ?_
  have hk19 : gK G11 (B + 3) = (4, 16) := ((hXG11).k kB3 (by decide))
  refine s_alv (B + 3) (by simp) (fun al20 => ?_)
  have hv22b : 0 ≤ (gS G11 (B + 3) (6 + k : Int).toNat) ∧ (gS G11 (B + 3) (6 + k : Int).toNat) % 1048576 = ((((B + 3) % 1048576) + 4 + ((6 + k : Int).toNat) : Nat) : Int) := hCG11.1.v (j := (6 + k : Int).toNat) (by rw [cde_n (by omega) (by omega)]; omega : cde (B + 3) = 104) al20 (by rw [hk19]; show (6 + k : Int).toNat < 16; omega)
  obtain ⟨q21, hv22⟩ : ∃ q : Nat, gS G11 (B + 3) (6 + k : Int).toNat = (q : Int) := ⟨(gS G11 (B + 3) (6 + k : Int).toNat).toNat, by omega⟩
  rw [hv22] at hv22b
  refine s_aald4 dX2_linkBoth_43 hk19 (by omega) (by omega) hv22 ?_
  refine s_aload_n dX2_linkBoth_44 rfl (Int.natCast_nonneg _) ?_
  have hv23 : gS G11 B 4 = ((B + 4 : Nat) : Int) := by have h9 : (gS G11 B 4) = (((B % 1048576) + 4 : Nat) : Int) := hCG11.1.v (j := 4) (by rw [cde_n (by omega) (by omega)]; omega : cde B = 101) al17 (by rw [hk16]; exact Nat.le_of_ble_eq_true rfl); omega
  refine s_getf (ci := 1) (k := 4) (C := RX0) (T := TX0) (N := 7) (n := B) (L := 0) (t := 2) dX2_linkBoth_45 rfl wi_65 m_575 (Nat.le_of_ble_eq_true rfl) rfl rfl hk16 hv23 ?_
  refine s_bipush dX2_linkBoth_48 rfl (by decide) ?_
  refine s_iload_n dX2_linkBoth_50 rfl ?_
  refine s_iadd dX2_linkBoth_51 (by omega) ?_
  have hk24 : gK G11 (B + 4) = (1, 16) := ((hXG11).k kB4 (by decide))
  refine s_alv (B + 4) (by simp) (fun al25 => ?_)
  have hv26 : 0 ≤ (gS G11 (B + 4) (6 + k : Int).toNat) ∧ (gS G11 (B + 4) (6 + k : Int).toNat) ≤ 200 := hCG11.1.v (j := (6 + k : Int).toNat) (by rw [cde_n (by omega) (by omega)]; omega : cde (B + 4) = 105) al25 (by rw [hk24]; show (6 + k : Int).toNat < 16; omega)
  refine s_iald dX2_linkBoth_52 hk24 (by omega) (by omega) rfl ?_
  refine s_aload_n dX2_linkBoth_53 rfl (Int.natCast_nonneg _) ?_
  have hv27 : gS G11 327682 7 = ((327692 : Nat) : Int) := by have h9 : (gS G11 327682 7) = 327692 := hCG11.1.v (j := 7) (by decide : cde 327682 = 502) al14 (by rw [hk13]; exact Nat.le_of_ble_eq_true rfl); omega
  refine s_getf (ci := 3) (k := 7) (C := RX2) (T := TX2) (N := 8) (n := 327682) (L := 0) (t := 2) dX2_linkBoth_54 rfl wi_70 m_583 (Nat.le_of_ble_eq_true rfl) rfl rfl hk13 hv27 ?_
  refine s_alv (q21) (by simp) (fun al28 => ?_)
  obtain ⟨L30, hk29, hL30a, hL30b⟩ := hCG11.1.kr (show 108 ≤ cde q21 ∧ cde q21 < 124 from by rw [cde_n (by omega) (by omega)]; omega) al28
  have hk31 : gK G11 (327692) = (1, 200) := ((hXG11).k k327692 (by decide))
  have hk34 : gK G11 (262144) = (10, 0) := ((hXG11).k k262144 (by decide))
  refine s_callV (as := [(2, ((q21 : Nat) : Int)), (0, gS G11 (B + 4) ((6 + k : Int).toNat)), (2, ((327692 : Nat) : Int))]) (rest := []) (n := 262144) (ci := 2) gX1_put dX2_linkBoth_57 m_1319 m_918 m_1493 m_712 m_260 ⟨by decide, by decide, show (parseMethodDescriptor yX1_put.desc).map (fun d => d.parameters.length) = some 3 from by decide +kernel⟩ (Nat.le_of_ble_eq_true rfl) (by rw [hcf]; exact Nat.le_of_ble_eq_true rfl) hk34 rfl rfl (Nat.le_of_ble_eq_true rfl) ⟨262144, q21, L30, gS G11 (B + 4) ((6 + k : Int).toNat), 327692, a, b, rfl, hCG11, hab, (by first | assumption | omega), hk29, (by omega), hk31, (by exact FRW.o), (by omega), (by omega), (by omega), fun rr33 G32 hCG32 hXG32 hfG32 hpG32 => ?_⟩
  have hFG32 : WX (fun x => x = 327691 ∨ x = 327692 ∨ (f + 1 ≤ x ∧ x ≤ f + 22)) G G32 := WX.trans hFG11 hXG11 (WX.mono hfG32 rg6)
  have hFIG32 : ∀ k : Nat, k < 6 → FIP P G32 262144 k := fun k hk => FIP.ns (hFIG11 k hk) hXG32 hfG32 hk (KX.al hXG11 (kne k262149 (by decide))) rg7 rg8
  have hFAG32 : FPa P G32 A := (hFAG11).ns hXG32 hfG32 ⟨KX.al hXG11 (kne kA3 (by decide)), KX.al hXG11 (kne kA4 (by decide))⟩ rg9
  have hFBG32 : FPa P G32 B := (hFBG11).ns hXG32 hfG32 ⟨KX.al hXG11 (kne kB3 (by decide)), KX.al hXG11 (kne kB4 (by decide))⟩ rg10
  have hFfG32 : FPa P G32 f := (hFfG11).ns hXG32 hfG32 ⟨KX.al hXG11 (kne kf3 (by decide)), KX.al hXG11 (kne kf4 (by decide))⟩ rg11
  show WP kX2_linkBoth X 60 [some (2, ((327682 : Nat) : Int)), some (0, k), some (2, ((A : Nat) : Int)), some (2, ((B : Nat) : Int)), some (2, ((f : Nat) : Int)), some (0, rr12), none, none, none] [(0, rr33)] G32
  refine s_istore dX2_linkBoth_60 (by decide) (lv' := [some (2, ((327682 : Nat) : Int)), some (0, k), some (2, ((A : Nat) : Int)), some (2, ((B : Nat) : Int)), some (2, ((f : Nat) : Int)), some (0, rr12), some (0, rr33), none, none]) rfl ?_
  have K35 : (True) → WP kX2_linkBoth X 85 [some (2, ((327682 : Nat) : Int)), some (0, k), some (2, ((A : Nat) : Int)), some (2, ((B : Nat) : Int)), some (2, ((f : Nat) : Int)), some (0, rr12), some (0, rr33), none, none] [] G32 := by
    intro hi35
    have K36 : (True) → WP kX2_linkBoth X 107 [some (2, ((327682 : Nat) : Int)), some (0, k), some (2, ((A : Nat) : Int)), some (2, ((B : Nat) : Int)), some (2, ((f : Nat) : Int)), some (0, rr12), some (0, rr33), none, none] [] G32 := by
      intro hi36
      refine s_aload_n dX2_linkBoth_107 rfl (Int.natCast_nonneg _) ?_
      have hk37 : gK G32 (327682) = (11, 0) := ((hXG32).k hk13 (by decide))
      refine s_alv (327682) (by simp) (fun al38 => ?_)
      have hv39 : gS G32 327682 6 = ((327691 : Nat) : Int) := by have h9 : (gS G32 327682 6) = 327691 := hCG32.1.v (j := 6) (by decide : cde 327682 = 502) al38 (by rw [hk37]; exact Nat.le_of_ble_eq_true rfl); omega
      refine s_getf (ci := 3) (k := 6) (C := RX2) (T := TX2) (N := 8) (n := 327682) (L := 0) (t := 2) dX2_linkBoth_108 rfl wi_70 m_582 (Nat.le_of_ble_eq_true rfl) rfl rfl hk37 hv39 ?_
      refine s_iload dX2_linkBoth_111 rfl ?_
      refine s_aload_n dX2_linkBoth_113 rfl (Int.natCast_nonneg _) ?_
      have hv40 : gS G32 327682 7 = ((327692 : Nat) : Int) := by have h9 : (gS G32 327682 7) = 327692 := hCG32.1.v (j := 7) (by decide : cde 327682 = 502) al38 (by rw [hk37]; exact Nat.le_of_ble_eq_true rfl); omega
      refine s_getf (ci := 3) (k := 7) (C := RX2) (T := TX2) (N := 8) (n := 327682) (L := 0) (t := 2) dX2_linkBoth_114 rfl wi_70 m_583 (Nat.le_of_ble_eq_true rfl) rfl rfl hk37 hv40 ?_
      refine s_iload dX2_linkBoth_117 rfl ?_
      have hk41 : gK G32 (327691) = (1, 200) := ((hXG32).k ((hXG11).k k327691 (by decide)) (by decide))
      have hk42 : gK G32 (327692) = (1, 200) := ((hXG32).k hk31 (by decide))
      refine s_callSN (own := RX2) rfl (by decide +kernel) (as := [(2, ((327691 : Nat) : Int)), (0, rr12), (2, ((327692 : Nat) : Int)), (0, rr33)]) (rest := []) gX11_isSameRow dX2_linkBoth_119 m_1778 m_714 m_98 ⟨by decide, by decide, show (parseMethodDescriptor yX11_isSameRow.desc).map (fun d => d.parameters.length) = some 4 from by decide +kernel⟩ (Nat.le_of_ble_eq_true rfl) (by rw [hcf]; exact Nat.le_of_ble_eq_true rfl) rfl (Nat.le_of_ble_eq_true rfl) ⟨327691, 200, rr12, 327692, 200, rr33, rfl, hk41, (by first | assumption | omega), hk42, (by first | assumption | omega), fun rr43 hp44 => ?_⟩
      show WP kX2_linkBoth X 122 [some (2, ((327682 : Nat) : Int)), some (0, k), some (2, ((A : Nat) : Int)), some (2, ((B : Nat) : Int)), some (2, ((f : Nat) : Int)), some (0, rr12), some (0, rr33), none, none] [(0, rr43)] G32
      refine s_if_ne (tgt := 131) dX2_linkBoth_122 (by decide) (fun c45 => ?_) (fun c45 => ?_)
      · -- 122 to 131
        have K46 : (True) → WP kX2_linkBoth X 178 [some (2, ((327682 : Nat) : Int)), some (0, k), some (2, ((A : Nat) : Int)), some (2, ((B : Nat) : Int)), some (2, ((f : Nat) : Int)), some (0, rr12), some (0, rr33), none, none] [] G32 := by
          intro hi46
          refine s_aload_n dX2_linkBoth_178 rfl (Int.natCast_nonneg _) ?_
          refine s_iload_n dX2_linkBoth_179 rfl ?_
          have hk49 : gK G32 (A) = (9, 0) := ((hXG32).k ((hXG11).k kA0 (by decide)) (by decide))
          refine s_callV (as := [(0, k)]) (rest := []) (n := A) (ci := 1) gX0_isValueHole dX2_linkBoth_180 m_1322 m_743 m_1476 m_711 m_70 ⟨by decide, by decide, show (parseMethodDescriptor yX0_isValueHole.desc).map (fun d => d.parameters.length) = some 1 from by decide +kernel⟩ (Nat.le_of_ble_eq_true rfl) (by rw [hcf]; exact Nat.le_of_ble_eq_true rfl) hk49 rfl rfl (Nat.le_of_ble_eq_true rfl) ⟨A, k, a, b, rfl, hCG32, hab, (by first | assumption | omega), (by first | assumption | omega), fun rr47 hp48 => ?_⟩
          show WP kX2_linkBoth X 183 [some (2, ((327682 : Nat) : Int)), some (0, k), some (2, ((A : Nat) : Int)), some (2, ((B : Nat) : Int)), some (2, ((f : Nat) : Int)), some (0, rr12), some (0, rr33), none, none] [(0, rr47)] G32
          refine s_if_eq (tgt := 190) dX2_linkBoth_183 (by decide) (fun c50 => ?_) (fun c50 => ?_)
          · -- 183 to 190
            refine s_aload_n dX2_linkBoth_190 rfl (Int.natCast_nonneg _) ?_
            refine s_astore (Int.natCast_nonneg _) dX2_linkBoth_191 (by decide) (lv' := [some (2, ((327682 : Nat) : Int)), some (0, k), some (2, ((A : Nat) : Int)), some (2, ((B : Nat) : Int)), some (2, ((f : Nat) : Int)), some (0, rr12), some (0, rr33), some (2, ((A : Nat) : Int)), none]) rfl ?_
            refine s_aload_n dX2_linkBoth_193 rfl (Int.natCast_nonneg _) ?_
            refine s_iload_n dX2_linkBoth_194 rfl ?_
            refine s_callV (as := [(0, k)]) (rest := []) (n := A) (ci := 1) gX0_isValueHole dX2_linkBoth_195 m_1322 m_743 m_1476 m_711 m_70 ⟨by decide, by decide, show (parseMethodDescriptor yX0_isValueHole.desc).map (fun d => d.parameters.length) = some 1 from by decide +kernel⟩ (Nat.le_of_ble_eq_true rfl) (by rw [hcf]; exact Nat.le_of_ble_eq_true rfl) hk49 rfl rfl (Nat.le_of_ble_eq_true rfl) ⟨A, k, a, b, rfl, hCG32, hab, (by first | assumption | omega), (by first | assumption | omega), fun rr51 hp52 => ?_⟩
            show WP kX2_linkBoth X 198 [some (2, ((327682 : Nat) : Int)), some (0, k), some (2, ((A : Nat) : Int)), some (2, ((B : Nat) : Int)), some (2, ((f : Nat) : Int)), some (0, rr12), some (0, rr33), some (2, ((A : Nat) : Int)), none] [(0, rr51)] G32
            refine s_if_eq (tgt := 205) dX2_linkBoth_198 (by decide) (fun c53 => ?_) (fun c53 => ?_)
            · -- 198 to 205
              refine s_aload_n dX2_linkBoth_205 rfl (Int.natCast_nonneg _) ?_
              refine s_astore (Int.natCast_nonneg _) dX2_linkBoth_206 (by decide) (lv' := [some (2, ((327682 : Nat) : Int)), some (0, k), some (2, ((A : Nat) : Int)), some (2, ((B : Nat) : Int)), some (2, ((f : Nat) : Int)), some (0, rr12), some (0, rr33), some (2, ((A : Nat) : Int)), some (2, ((B : Nat) : Int))]) rfl ?_
              refine s_aload dX2_linkBoth_208 rfl (Int.natCast_nonneg _) ?_
              refine s_iload_n dX2_linkBoth_210 rfl ?_
              refine s_callV (as := [(0, k)]) (rest := []) (n := A) (ci := 1) gX0_isGhost dX2_linkBoth_211 m_1323 m_741 m_1474 m_711 m_68 ⟨by decide, by decide, show (parseMethodDescriptor yX0_isGhost.desc).map (fun d => d.parameters.length) = some 1 from by decide +kernel⟩ (Nat.le_of_ble_eq_true rfl) (by rw [hcf]; exact Nat.le_of_ble_eq_true rfl) hk49 rfl rfl (Nat.le_of_ble_eq_true rfl) ⟨A, k, a, b, rfl, hCG32, hab, (by first | assumption | omega), (by first | assumption | omega), fun rr54 hp55 => ?_⟩
              show WP kX2_linkBoth X 214 [some (2, ((327682 : Nat) : Int)), some (0, k), some (2, ((A : Nat) : Int)), some (2, ((B : Nat) : Int)), some (2, ((f : Nat) : Int)), some (0, rr12), some (0, rr33), some (2, ((A : Nat) : Int)), some (2, ((B : Nat) : Int))] [(0, rr54)] G32
              refine s_if_eq (tgt := 233) dX2_linkBoth_214 (by decide) (fun c56 => ?_) (fun c56 => ?_)
              · -- 214 to 233
                refine s_aload dX2_linkBoth_233 rfl (Int.natCast_nonneg _) ?_
                refine s_iload_n dX2_linkBoth_235 rfl ?_
                refine s_aload dX2_linkBoth_236 rfl (Int.natCast_nonneg _) ?_
                refine s_alv (A) (by simp) (fun al57 => ?_)
                have hv58 : gS G32 A 2 = ((A + 2 : Nat) : Int) := by have h9 : (gS G32 A 2) = (((A % 1048576) + 2 : Nat) : Int) := hCG32.1.v (j := 2) (by rw [cde_n (by omega) (by omega)]; omega : cde A = 101) al57 (by rw [hk49]; exact Nat.le_of_ble_eq_true rfl); omega
                refine s_getf (ci := 1) (k := 2) (C := RX0) (T := TX0) (N := 7) (n := A) (L := 0) (t := 2) dX2_linkBoth_238 rfl wi_65 m_576 (Nat.le_of_ble_eq_true rfl) rfl rfl hk49 hv58 ?_
                refine s_iload_n dX2_linkBoth_241 rfl ?_
                have hk59 : gK G32 (A + 2) = (1, 10) := ((hXG32).k ((hXG11).k kA2 (by decide)) (by decide))
                refine s_iald dX2_linkBoth_242 hk59 (by omega) (by omega) rfl ?_
                refine s_aload_n dX2_linkBoth_243 rfl (Int.natCast_nonneg _) ?_
                have hv60 : gS G32 327682 6 = ((327691 : Nat) : Int) := by have h9 : (gS G32 327682 6) = 327691 := hCG32.1.v (j := 6) (by decide : cde 327682 = 502) al38 (by rw [hk37]; exact Nat.le_of_ble_eq_true rfl); omega
                refine s_getf (ci := 3) (k := 6) (C := RX2) (T := TX2) (N := 8) (n := 327682) (L := 0) (t := 2) dX2_linkBoth_244 rfl wi_70 m_582 (Nat.le_of_ble_eq_true rfl) rfl rfl hk37 hv60 ?_
                refine s_iload dX2_linkBoth_247 rfl ?_
                have hk63 : gK G32 (f) = (9, 0) := ((hXG32).k ((hXG11).k kf0 (by decide)) (by decide))
                refine s_callV (as := [(0, k), (0, gS G32 (A + 2) ((k : Int).toNat)), (2, ((327691 : Nat) : Int)), (0, rr12)]) (rest := []) (n := f) (ci := 1) gX0_putValue dX2_linkBoth_249 m_1320 m_750 m_1483 m_711 m_77 ⟨by decide, by decide, show (parseMethodDescriptor yX0_putValue.desc).map (fun d => d.parameters.length) = some 4 from by decide +kernel⟩ (Nat.le_of_ble_eq_true rfl) (by rw [hcf]; exact Nat.le_of_ble_eq_true rfl) hk63 rfl rfl (Nat.le_of_ble_eq_true rfl) ⟨f, k, gS G32 (A + 2) ((k : Int).toNat), 327691, 200, rr12, a, b, rfl, hCG32, hab, (by first | assumption | omega), (by first | assumption | omega), hk41, (by first | assumption | omega), (by first | assumption | omega), (by first | assumption | omega), fun G61 hCG61 hXG61 hfG61 hpG61 => ?_⟩
                have hFG61 : WX (fun x => x = 327691 ∨ x = 327692 ∨ (f + 1 ≤ x ∧ x ≤ f + 22)) G G61 := WX.trans hFG32 (KX.trans hXG11 hXG32) (WX.mono hfG61 (fun x hx => by omega))
                have hFIG61 : ∀ k : Nat, k < 6 → FIP P G61 262144 k := fun k hk => FIP.ns (hFIG32 k hk) hXG61 hfG61 hk (KX.al (KX.trans hXG11 hXG32) (kne k262149 (by decide))) (fun k hk => by show ¬ _; omega) (by show ¬ _; omega)
                have hFAG61 : FPa P G61 A := (hFAG32).ns hXG61 hfG61 ⟨KX.al (KX.trans hXG11 hXG32) (kne kA3 (by decide)), KX.al (KX.trans hXG11 hXG32) (kne kA4 (by decide))⟩ ⟨by show ¬ _; omega, by show ¬ _; omega, fun p hp => by show ¬ _; omega⟩
                have hFBG61 : FPa P G61 B := (hFBG32).ns hXG61 hfG61 ⟨KX.al (KX.trans hXG11 hXG32) (kne kB3 (by decide)), KX.al (KX.trans hXG11 hXG32) (kne kB4 (by decide))⟩ ⟨by show ¬ _; omega, by show ¬ _; omega, fun p hp => by show ¬ _; omega⟩
                have hFfG61 : FPa P G61 f := FPa.put hpG61.1 hFfG32 (fun _ _ => (hpG11.2 P ((hFA (6 + k : Int).toNat (by omega)).rps hv4 rfl) hFI (by omega)).wx hXG32 hfG32 (by show ¬ _; omega)) hXG61 hfG61 (fun p hp hn => by show ¬ _; omega)
                show WP kX2_linkBoth X 252 [some (2, ((327682 : Nat) : Int)), some (0, k), some (2, ((A : Nat) : Int)), some (2, ((B : Nat) : Int)), some (2, ((f : Nat) : Int)), some (0, rr12), some (0, rr33), some (2, ((A : Nat) : Int)), some (2, ((B : Nat) : Int))] [] G61
                refine s_aload dX2_linkBoth_252 rfl (Int.natCast_nonneg _) ?_
                refine s_iload_n dX2_linkBoth_254 rfl ?_
                refine s_aload dX2_linkBoth_255 rfl (Int.natCast_nonneg _) ?_
                refine s_iload_n dX2_linkBoth_257 rfl ?_
                have hk66 : gK G61 (f) = (9, 0) := ((hXG61).k hk63 (by decide))
                refine s_callV (as := [(0, k), (2, ((A : Nat) : Int)), (0, k)]) (rest := []) (n := f) (ci := 1) gX0_putNumberOf dX2_linkBoth_258 m_1321 m_745 m_1478 m_711 m_72 ⟨by decide, by decide, show (parseMethodDescriptor yX0_putNumberOf.desc).map (fun d => d.parameters.length) = some 3 from by decide +kernel⟩ (Nat.le_of_ble_eq_true rfl) (by rw [hcf]; exact Nat.le_of_ble_eq_true rfl) hk66 rfl rfl (Nat.le_of_ble_eq_true rfl) ⟨f, k, A, k, a, b, rfl, hCG61, hab, (by first | assumption | omega), (by first | assumption | omega), (by first | assumption | omega), (by first | assumption | omega), fun G64 hCG64 hXG64 hfG64 hpG64 => ?_⟩
                have hFG64 : WX (fun x => x = 327691 ∨ x = 327692 ∨ (f + 1 ≤ x ∧ x ≤ f + 22)) G G64 := WX.trans hFG61 (KX.trans (KX.trans hXG11 hXG32) hXG61) (WX.mono hfG64 rg12)
                have hFIG64 : ∀ k : Nat, k < 6 → FIP P G64 262144 k := fun k hk => FIP.ns (hFIG61 k hk) hXG64 hfG64 hk (KX.al (KX.trans (KX.trans hXG11 hXG32) hXG61) (kne k262149 (by decide))) rg13 rg14
                have hFAG64 : FPa P G64 A := (hFAG61).ns hXG64 hfG64 ⟨KX.al (KX.trans (KX.trans hXG11 hXG32) hXG61) (kne kA3 (by decide)), KX.al (KX.trans (KX.trans hXG11 hXG32) hXG61) (kne kA4 (by decide))⟩ rg15
                have hFBG64 : FPa P G64 B := (hFBG61).ns hXG64 hfG64 ⟨KX.al (KX.trans (KX.trans hXG11 hXG32) hXG61) (kne kB3 (by decide)), KX.al (KX.trans (KX.trans hXG11 hXG32) hXG61) (kne kB4 (by decide))⟩ rg16
                have hFfG64 : FPa P G64 f := (hFfG61).ns hXG64 hfG64 ⟨KX.al (KX.trans (KX.trans hXG11 hXG32) hXG61) (kne kf3 (by decide)), KX.al (KX.trans (KX.trans hXG11 hXG32) hXG61) (kne kf4 (by decide))⟩ rg17
                show WP kX2_linkBoth X 261 [some (2, ((327682 : Nat) : Int)), some (0, k), some (2, ((A : Nat) : Int)), some (2, ((B : Nat) : Int)), some (2, ((f : Nat) : Int)), some (0, rr12), some (0, rr33), some (2, ((A : Nat) : Int)), some (2, ((B : Nat) : Int))] [] G64
                refine s_iconst dX2_linkBoth_261 (by decide) ?_
                exact s_iret hR dX2_linkBoth_262 rfl (hQ 0 G64 hCG64 (KX.trans (KX.trans (KX.trans hXG11 hXG32) hXG61) hXG64) hFG64 hFfG64)
              · -- 214 to 217
                refine s_aload dX2_linkBoth_217 rfl (Int.natCast_nonneg _) ?_
                refine s_iload_n dX2_linkBoth_219 rfl ?_
                have hk69 : gK G32 (B) = (9, 0) := ((hXG32).k hk16 (by decide))
                refine s_callV (as := [(0, k)]) (rest := []) (n := B) (ci := 1) gX0_isGhost dX2_linkBoth_220 m_1323 m_741 m_1474 m_711 m_68 ⟨by decide, by decide, show (parseMethodDescriptor yX0_isGhost.desc).map (fun d => d.parameters.length) = some 1 from by decide +kernel⟩ (Nat.le_of_ble_eq_true rfl) (by rw [hcf]; exact Nat.le_of_ble_eq_true rfl) hk69 rfl rfl (Nat.le_of_ble_eq_true rfl) ⟨B, k, a, b, rfl, hCG32, hab, (by first | assumption | omega), (by first | assumption | omega), fun rr67 hp68 => ?_⟩
                show WP kX2_linkBoth X 223 [some (2, ((327682 : Nat) : Int)), some (0, k), some (2, ((A : Nat) : Int)), some (2, ((B : Nat) : Int)), some (2, ((f : Nat) : Int)), some (0, rr12), some (0, rr33), some (2, ((A : Nat) : Int)), some (2, ((B : Nat) : Int))] [(0, rr67)] G32
                refine s_if_ne (tgt := 233) dX2_linkBoth_223 (by decide) (fun c70 => ?_) (fun c70 => ?_)
                · -- 223 to 233
                  refine s_aload dX2_linkBoth_233 rfl (Int.natCast_nonneg _) ?_
                  refine s_iload_n dX2_linkBoth_235 rfl ?_
                  refine s_aload dX2_linkBoth_236 rfl (Int.natCast_nonneg _) ?_
                  refine s_alv (A) (by simp) (fun al71 => ?_)
                  have hv72 : gS G32 A 2 = ((A + 2 : Nat) : Int) := by have h9 : (gS G32 A 2) = (((A % 1048576) + 2 : Nat) : Int) := hCG32.1.v (j := 2) (by rw [cde_n (by omega) (by omega)]; omega : cde A = 101) al71 (by rw [hk49]; exact Nat.le_of_ble_eq_true rfl); omega
                  refine s_getf (ci := 1) (k := 2) (C := RX0) (T := TX0) (N := 7) (n := A) (L := 0) (t := 2) dX2_linkBoth_238 rfl wi_65 m_576 (Nat.le_of_ble_eq_true rfl) rfl rfl hk49 hv72 ?_
                  refine s_iload_n dX2_linkBoth_241 rfl ?_
                  have hk73 : gK G32 (A + 2) = (1, 10) := ((hXG32).k ((hXG11).k kA2 (by decide)) (by decide))
                  refine s_iald dX2_linkBoth_242 hk73 (by omega) (by omega) rfl ?_
                  refine s_aload_n dX2_linkBoth_243 rfl (Int.natCast_nonneg _) ?_
                  have hv74 : gS G32 327682 6 = ((327691 : Nat) : Int) := by have h9 : (gS G32 327682 6) = 327691 := hCG32.1.v (j := 6) (by decide : cde 327682 = 502) al38 (by rw [hk37]; exact Nat.le_of_ble_eq_true rfl); omega
                  refine s_getf (ci := 3) (k := 6) (C := RX2) (T := TX2) (N := 8) (n := 327682) (L := 0) (t := 2) dX2_linkBoth_244 rfl wi_70 m_582 (Nat.le_of_ble_eq_true rfl) rfl rfl hk37 hv74 ?_
                  refine s_iload dX2_linkBoth_247 rfl ?_
                  have hk77 : gK G32 (f) = (9, 0) := ((hXG32).k ((hXG11).k kf0 (by decide)) (by decide))
                  refine s_callV (as := [(0, k), (0, gS G32 (A + 2) ((k : Int).toNat)), (2, ((327691 : Nat) : Int)), (0, rr12)]) (rest := []) (n := f) (ci := 1) gX0_putValue dX2_linkBoth_249 m_1320 m_750 m_1483 m_711 m_77 ⟨by decide, by decide, show (parseMethodDescriptor yX0_putValue.desc).map (fun d => d.parameters.length) = some 4 from by decide +kernel⟩ (Nat.le_of_ble_eq_true rfl) (by rw [hcf]; exact Nat.le_of_ble_eq_true rfl) hk77 rfl rfl (Nat.le_of_ble_eq_true rfl) ⟨f, k, gS G32 (A + 2) ((k : Int).toNat), 327691, 200, rr12, a, b, rfl, hCG32, hab, (by first | assumption | omega), (by first | assumption | omega), hk41, (by first | assumption | omega), (by first | assumption | omega), (by first | assumption | omega), fun G75 hCG75 hXG75 hfG75 hpG75 => ?_⟩
                  have hFG75 : WX (fun x => x = 327691 ∨ x = 327692 ∨ (f + 1 ≤ x ∧ x ≤ f + 22)) G G75 := WX.trans hFG32 (KX.trans hXG11 hXG32) (WX.mono hfG75 (fun x hx => by omega))
                  have hFIG75 : ∀ k : Nat, k < 6 → FIP P G75 262144 k := fun k hk => FIP.ns (hFIG32 k hk) hXG75 hfG75 hk (KX.al (KX.trans hXG11 hXG32) (kne k262149 (by decide))) (fun k hk => by show ¬ _; omega) (by show ¬ _; omega)
                  have hFAG75 : FPa P G75 A := (hFAG32).ns hXG75 hfG75 ⟨KX.al (KX.trans hXG11 hXG32) (kne kA3 (by decide)), KX.al (KX.trans hXG11 hXG32) (kne kA4 (by decide))⟩ ⟨by show ¬ _; omega, by show ¬ _; omega, fun p hp => by show ¬ _; omega⟩
                  have hFBG75 : FPa P G75 B := (hFBG32).ns hXG75 hfG75 ⟨KX.al (KX.trans hXG11 hXG32) (kne kB3 (by decide)), KX.al (KX.trans hXG11 hXG32) (kne kB4 (by decide))⟩ ⟨by show ¬ _; omega, by show ¬ _; omega, fun p hp => by show ¬ _; omega⟩
                  have hFfG75 : FPa P G75 f := FPa.put hpG75.1 hFfG32 (fun _ _ => (hpG11.2 P ((hFA (6 + k : Int).toNat (by omega)).rps hv4 rfl) hFI (by omega)).wx hXG32 hfG32 (by show ¬ _; omega)) hXG75 hfG75 (fun p hp hn => by show ¬ _; omega)
                  show WP kX2_linkBoth X 252 [some (2, ((327682 : Nat) : Int)), some (0, k), some (2, ((A : Nat) : Int)), some (2, ((B : Nat) : Int)), some (2, ((f : Nat) : Int)), some (0, rr12), some (0, rr33), some (2, ((A : Nat) : Int)), some (2, ((B : Nat) : Int))] [] G75
                  refine s_aload dX2_linkBoth_252 rfl (Int.natCast_nonneg _) ?_
                  refine s_iload_n dX2_linkBoth_254 rfl ?_
                  refine s_aload dX2_linkBoth_255 rfl (Int.natCast_nonneg _) ?_
                  refine s_iload_n dX2_linkBoth_257 rfl ?_
                  have hk80 : gK G75 (f) = (9, 0) := ((hXG75).k hk77 (by decide))
                  refine s_callV (as := [(0, k), (2, ((A : Nat) : Int)), (0, k)]) (rest := []) (n := f) (ci := 1) gX0_putNumberOf dX2_linkBoth_258 m_1321 m_745 m_1478 m_711 m_72 ⟨by decide, by decide, show (parseMethodDescriptor yX0_putNumberOf.desc).map (fun d => d.parameters.length) = some 3 from by decide +kernel⟩ (Nat.le_of_ble_eq_true rfl) (by rw [hcf]; exact Nat.le_of_ble_eq_true rfl) hk80 rfl rfl (Nat.le_of_ble_eq_true rfl) ⟨f, k, A, k, a, b, rfl, hCG75, hab, (by first | assumption | omega), (by first | assumption | omega), (by first | assumption | omega), (by first | assumption | omega), fun G78 hCG78 hXG78 hfG78 hpG78 => ?_⟩
                  have hFG78 : WX (fun x => x = 327691 ∨ x = 327692 ∨ (f + 1 ≤ x ∧ x ≤ f + 22)) G G78 := WX.trans hFG75 (KX.trans (KX.trans hXG11 hXG32) hXG75) (WX.mono hfG78 rg12)
                  have hFIG78 : ∀ k : Nat, k < 6 → FIP P G78 262144 k := fun k hk => FIP.ns (hFIG75 k hk) hXG78 hfG78 hk (KX.al (KX.trans (KX.trans hXG11 hXG32) hXG75) (kne k262149 (by decide))) rg13 rg14
                  have hFAG78 : FPa P G78 A := (hFAG75).ns hXG78 hfG78 ⟨KX.al (KX.trans (KX.trans hXG11 hXG32) hXG75) (kne kA3 (by decide)), KX.al (KX.trans (KX.trans hXG11 hXG32) hXG75) (kne kA4 (by decide))⟩ rg15
                  have hFBG78 : FPa P G78 B := (hFBG75).ns hXG78 hfG78 ⟨KX.al (KX.trans (KX.trans hXG11 hXG32) hXG75) (kne kB3 (by decide)), KX.al (KX.trans (KX.trans hXG11 hXG32) hXG75) (kne kB4 (by decide))⟩ rg16
                  have hFfG78 : FPa P G78 f := (hFfG75).ns hXG78 hfG78 ⟨KX.al (KX.trans (KX.trans hXG11 hXG32) hXG75) (kne kf3 (by decide)), KX.al (KX.trans (KX.trans hXG11 hXG32) hXG75) (kne kf4 (by decide))⟩ rg17
                  show WP kX2_linkBoth X 261 [some (2, ((327682 : Nat) : Int)), some (0, k), some (2, ((A : Nat) : Int)), some (2, ((B : Nat) : Int)), some (2, ((f : Nat) : Int)), some (0, rr12), some (0, rr33), some (2, ((A : Nat) : Int)), some (2, ((B : Nat) : Int))] [] G78
                  refine s_iconst dX2_linkBoth_261 (by decide) ?_
                  exact s_iret hR dX2_linkBoth_262 rfl (hQ 0 G78 hCG78 (KX.trans (KX.trans (KX.trans hXG11 hXG32) hXG75) hXG78) hFG78 hFfG78)
                · -- 223 to 226
                  refine s_bipush dX2_linkBoth_226 rfl (by decide) ?_
                  refine s_iload_n dX2_linkBoth_228 rfl ?_
                  refine s_callSN (own := RX2) rfl (by decide +kernel) (as := [(0, 6), (0, k)]) (rest := []) gX11_valueMistake dX2_linkBoth_229 m_1784 m_714 m_129 ⟨by decide, by decide, show (parseMethodDescriptor yX11_valueMistake.desc).map (fun d => d.parameters.length) = some 2 from by decide +kernel⟩ (Nat.le_of_ble_eq_true rfl) (by rw [hcf]; exact Nat.le_of_ble_eq_true rfl) rfl (Nat.le_of_ble_eq_true rfl) ⟨6, k, rfl, (by first | assumption | omega), (by first | assumption | omega), fun rr81 hp82 => ?_⟩
                  show WP kX2_linkBoth X 232 [some (2, ((327682 : Nat) : Int)), some (0, k), some (2, ((A : Nat) : Int)), some (2, ((B : Nat) : Int)), some (2, ((f : Nat) : Int)), some (0, rr12), some (0, rr33), some (2, ((A : Nat) : Int)), some (2, ((B : Nat) : Int))] [(0, rr81)] G32
                  exact s_iret hR dX2_linkBoth_232 rfl (hQ rr81 G32 hCG32 (KX.trans hXG11 hXG32) hFG32 hFfG32)
            · -- 198 to 201
              refine s_aload_n dX2_linkBoth_201 rfl (Int.natCast_nonneg _) ?_
              refine s_goto (tgt := 206) dX2_linkBoth_202 (by decide) ?_
              refine s_astore (Int.natCast_nonneg _) dX2_linkBoth_206 (by decide) (lv' := [some (2, ((327682 : Nat) : Int)), some (0, k), some (2, ((A : Nat) : Int)), some (2, ((B : Nat) : Int)), some (2, ((f : Nat) : Int)), some (0, rr12), some (0, rr33), some (2, ((A : Nat) : Int)), some (2, ((A : Nat) : Int))]) rfl ?_
              refine s_aload dX2_linkBoth_208 rfl (Int.natCast_nonneg _) ?_
              refine s_iload_n dX2_linkBoth_210 rfl ?_
              refine s_callV (as := [(0, k)]) (rest := []) (n := A) (ci := 1) gX0_isGhost dX2_linkBoth_211 m_1323 m_741 m_1474 m_711 m_68 ⟨by decide, by decide, show (parseMethodDescriptor yX0_isGhost.desc).map (fun d => d.parameters.length) = some 1 from by decide +kernel⟩ (Nat.le_of_ble_eq_true rfl) (by rw [hcf]; exact Nat.le_of_ble_eq_true rfl) hk49 rfl rfl (Nat.le_of_ble_eq_true rfl) ⟨A, k, a, b, rfl, hCG32, hab, (by first | assumption | omega), (by first | assumption | omega), fun rr83 hp84 => ?_⟩
              show WP kX2_linkBoth X 214 [some (2, ((327682 : Nat) : Int)), some (0, k), some (2, ((A : Nat) : Int)), some (2, ((B : Nat) : Int)), some (2, ((f : Nat) : Int)), some (0, rr12), some (0, rr33), some (2, ((A : Nat) : Int)), some (2, ((A : Nat) : Int))] [(0, rr83)] G32
              refine s_if_eq (tgt := 233) dX2_linkBoth_214 (by decide) (fun c85 => ?_) (fun c85 => ?_)
              · -- 214 to 233
                refine s_aload dX2_linkBoth_233 rfl (Int.natCast_nonneg _) ?_
                refine s_iload_n dX2_linkBoth_235 rfl ?_
                refine s_aload dX2_linkBoth_236 rfl (Int.natCast_nonneg _) ?_
                refine s_alv (A) (by simp) (fun al86 => ?_)
                have hv87 : gS G32 A 2 = ((A + 2 : Nat) : Int) := by have h9 : (gS G32 A 2) = (((A % 1048576) + 2 : Nat) : Int) := hCG32.1.v (j := 2) (by rw [cde_n (by omega) (by omega)]; omega : cde A = 101) al86 (by rw [hk49]; exact Nat.le_of_ble_eq_true rfl); omega
                refine s_getf (ci := 1) (k := 2) (C := RX0) (T := TX0) (N := 7) (n := A) (L := 0) (t := 2) dX2_linkBoth_238 rfl wi_65 m_576 (Nat.le_of_ble_eq_true rfl) rfl rfl hk49 hv87 ?_
                refine s_iload_n dX2_linkBoth_241 rfl ?_
                have hk88 : gK G32 (A + 2) = (1, 10) := ((hXG32).k ((hXG11).k kA2 (by decide)) (by decide))
                refine s_iald dX2_linkBoth_242 hk88 (by omega) (by omega) rfl ?_
                refine s_aload_n dX2_linkBoth_243 rfl (Int.natCast_nonneg _) ?_
                have hv89 : gS G32 327682 6 = ((327691 : Nat) : Int) := by have h9 : (gS G32 327682 6) = 327691 := hCG32.1.v (j := 6) (by decide : cde 327682 = 502) al38 (by rw [hk37]; exact Nat.le_of_ble_eq_true rfl); omega
                refine s_getf (ci := 3) (k := 6) (C := RX2) (T := TX2) (N := 8) (n := 327682) (L := 0) (t := 2) dX2_linkBoth_244 rfl wi_70 m_582 (Nat.le_of_ble_eq_true rfl) rfl rfl hk37 hv89 ?_
                refine s_iload dX2_linkBoth_247 rfl ?_
                have hk92 : gK G32 (f) = (9, 0) := ((hXG32).k ((hXG11).k kf0 (by decide)) (by decide))
                refine s_callV (as := [(0, k), (0, gS G32 (A + 2) ((k : Int).toNat)), (2, ((327691 : Nat) : Int)), (0, rr12)]) (rest := []) (n := f) (ci := 1) gX0_putValue dX2_linkBoth_249 m_1320 m_750 m_1483 m_711 m_77 ⟨by decide, by decide, show (parseMethodDescriptor yX0_putValue.desc).map (fun d => d.parameters.length) = some 4 from by decide +kernel⟩ (Nat.le_of_ble_eq_true rfl) (by rw [hcf]; exact Nat.le_of_ble_eq_true rfl) hk92 rfl rfl (Nat.le_of_ble_eq_true rfl) ⟨f, k, gS G32 (A + 2) ((k : Int).toNat), 327691, 200, rr12, a, b, rfl, hCG32, hab, (by first | assumption | omega), (by first | assumption | omega), hk41, (by first | assumption | omega), (by first | assumption | omega), (by first | assumption | omega), fun G90 hCG90 hXG90 hfG90 hpG90 => ?_⟩
                have hFG90 : WX (fun x => x = 327691 ∨ x = 327692 ∨ (f + 1 ≤ x ∧ x ≤ f + 22)) G G90 := WX.trans hFG32 (KX.trans hXG11 hXG32) (WX.mono hfG90 (fun x hx => by omega))
                have hFIG90 : ∀ k : Nat, k < 6 → FIP P G90 262144 k := fun k hk => FIP.ns (hFIG32 k hk) hXG90 hfG90 hk (KX.al (KX.trans hXG11 hXG32) (kne k262149 (by decide))) (fun k hk => by show ¬ _; omega) (by show ¬ _; omega)
                have hFAG90 : FPa P G90 A := (hFAG32).ns hXG90 hfG90 ⟨KX.al (KX.trans hXG11 hXG32) (kne kA3 (by decide)), KX.al (KX.trans hXG11 hXG32) (kne kA4 (by decide))⟩ ⟨by show ¬ _; omega, by show ¬ _; omega, fun p hp => by show ¬ _; omega⟩
                have hFBG90 : FPa P G90 B := (hFBG32).ns hXG90 hfG90 ⟨KX.al (KX.trans hXG11 hXG32) (kne kB3 (by decide)), KX.al (KX.trans hXG11 hXG32) (kne kB4 (by decide))⟩ ⟨by show ¬ _; omega, by show ¬ _; omega, fun p hp => by show ¬ _; omega⟩
                have hFfG90 : FPa P G90 f := FPa.put hpG90.1 hFfG32 (fun _ _ => (hpG11.2 P ((hFA (6 + k : Int).toNat (by omega)).rps hv4 rfl) hFI (by omega)).wx hXG32 hfG32 (by show ¬ _; omega)) hXG90 hfG90 (fun p hp hn => by show ¬ _; omega)
                show WP kX2_linkBoth X 252 [some (2, ((327682 : Nat) : Int)), some (0, k), some (2, ((A : Nat) : Int)), some (2, ((B : Nat) : Int)), some (2, ((f : Nat) : Int)), some (0, rr12), some (0, rr33), some (2, ((A : Nat) : Int)), some (2, ((A : Nat) : Int))] [] G90
                refine s_aload dX2_linkBoth_252 rfl (Int.natCast_nonneg _) ?_
                refine s_iload_n dX2_linkBoth_254 rfl ?_
                refine s_aload dX2_linkBoth_255 rfl (Int.natCast_nonneg _) ?_
                refine s_iload_n dX2_linkBoth_257 rfl ?_
                have hk95 : gK G90 (f) = (9, 0) := ((hXG90).k hk92 (by decide))
                refine s_callV (as := [(0, k), (2, ((A : Nat) : Int)), (0, k)]) (rest := []) (n := f) (ci := 1) gX0_putNumberOf dX2_linkBoth_258 m_1321 m_745 m_1478 m_711 m_72 ⟨by decide, by decide, show (parseMethodDescriptor yX0_putNumberOf.desc).map (fun d => d.parameters.length) = some 3 from by decide +kernel⟩ (Nat.le_of_ble_eq_true rfl) (by rw [hcf]; exact Nat.le_of_ble_eq_true rfl) hk95 rfl rfl (Nat.le_of_ble_eq_true rfl) ⟨f, k, A, k, a, b, rfl, hCG90, hab, (by first | assumption | omega), (by first | assumption | omega), (by first | assumption | omega), (by first | assumption | omega), fun G93 hCG93 hXG93 hfG93 hpG93 => ?_⟩
                have hFG93 : WX (fun x => x = 327691 ∨ x = 327692 ∨ (f + 1 ≤ x ∧ x ≤ f + 22)) G G93 := WX.trans hFG90 (KX.trans (KX.trans hXG11 hXG32) hXG90) (WX.mono hfG93 rg12)
                have hFIG93 : ∀ k : Nat, k < 6 → FIP P G93 262144 k := fun k hk => FIP.ns (hFIG90 k hk) hXG93 hfG93 hk (KX.al (KX.trans (KX.trans hXG11 hXG32) hXG90) (kne k262149 (by decide))) rg13 rg14
                have hFAG93 : FPa P G93 A := (hFAG90).ns hXG93 hfG93 ⟨KX.al (KX.trans (KX.trans hXG11 hXG32) hXG90) (kne kA3 (by decide)), KX.al (KX.trans (KX.trans hXG11 hXG32) hXG90) (kne kA4 (by decide))⟩ rg15
                have hFBG93 : FPa P G93 B := (hFBG90).ns hXG93 hfG93 ⟨KX.al (KX.trans (KX.trans hXG11 hXG32) hXG90) (kne kB3 (by decide)), KX.al (KX.trans (KX.trans hXG11 hXG32) hXG90) (kne kB4 (by decide))⟩ rg16
                have hFfG93 : FPa P G93 f := (hFfG90).ns hXG93 hfG93 ⟨KX.al (KX.trans (KX.trans hXG11 hXG32) hXG90) (kne kf3 (by decide)), KX.al (KX.trans (KX.trans hXG11 hXG32) hXG90) (kne kf4 (by decide))⟩ rg17
                show WP kX2_linkBoth X 261 [some (2, ((327682 : Nat) : Int)), some (0, k), some (2, ((A : Nat) : Int)), some (2, ((B : Nat) : Int)), some (2, ((f : Nat) : Int)), some (0, rr12), some (0, rr33), some (2, ((A : Nat) : Int)), some (2, ((A : Nat) : Int))] [] G93
                refine s_iconst dX2_linkBoth_261 (by decide) ?_
                exact s_iret hR dX2_linkBoth_262 rfl (hQ 0 G93 hCG93 (KX.trans (KX.trans (KX.trans hXG11 hXG32) hXG90) hXG93) hFG93 hFfG93)
              · -- 214 to 217
                refine s_aload dX2_linkBoth_217 rfl (Int.natCast_nonneg _) ?_
                refine s_iload_n dX2_linkBoth_219 rfl ?_
                refine s_callV (as := [(0, k)]) (rest := []) (n := A) (ci := 1) gX0_isGhost dX2_linkBoth_220 m_1323 m_741 m_1474 m_711 m_68 ⟨by decide, by decide, show (parseMethodDescriptor yX0_isGhost.desc).map (fun d => d.parameters.length) = some 1 from by decide +kernel⟩ (Nat.le_of_ble_eq_true rfl) (by rw [hcf]; exact Nat.le_of_ble_eq_true rfl) hk49 rfl rfl (Nat.le_of_ble_eq_true rfl) ⟨A, k, a, b, rfl, hCG32, hab, (by first | assumption | omega), (by first | assumption | omega), fun rr96 hp97 => ?_⟩
                show WP kX2_linkBoth X 223 [some (2, ((327682 : Nat) : Int)), some (0, k), some (2, ((A : Nat) : Int)), some (2, ((B : Nat) : Int)), some (2, ((f : Nat) : Int)), some (0, rr12), some (0, rr33), some (2, ((A : Nat) : Int)), some (2, ((A : Nat) : Int))] [(0, rr96)] G32
                refine s_if_ne (tgt := 233) dX2_linkBoth_223 (by decide) (fun c98 => ?_) (fun c98 => ?_)
                · -- 223 to 233
                  refine s_aload dX2_linkBoth_233 rfl (Int.natCast_nonneg _) ?_
                  refine s_iload_n dX2_linkBoth_235 rfl ?_
                  refine s_aload dX2_linkBoth_236 rfl (Int.natCast_nonneg _) ?_
                  refine s_alv (A) (by simp) (fun al99 => ?_)
                  have hv100 : gS G32 A 2 = ((A + 2 : Nat) : Int) := by have h9 : (gS G32 A 2) = (((A % 1048576) + 2 : Nat) : Int) := hCG32.1.v (j := 2) (by rw [cde_n (by omega) (by omega)]; omega : cde A = 101) al99 (by rw [hk49]; exact Nat.le_of_ble_eq_true rfl); omega
                  refine s_getf (ci := 1) (k := 2) (C := RX0) (T := TX0) (N := 7) (n := A) (L := 0) (t := 2) dX2_linkBoth_238 rfl wi_65 m_576 (Nat.le_of_ble_eq_true rfl) rfl rfl hk49 hv100 ?_
                  refine s_iload_n dX2_linkBoth_241 rfl ?_
                  have hk101 : gK G32 (A + 2) = (1, 10) := ((hXG32).k ((hXG11).k kA2 (by decide)) (by decide))
                  refine s_iald dX2_linkBoth_242 hk101 (by omega) (by omega) rfl ?_
                  refine s_aload_n dX2_linkBoth_243 rfl (Int.natCast_nonneg _) ?_
                  have hv102 : gS G32 327682 6 = ((327691 : Nat) : Int) := by have h9 : (gS G32 327682 6) = 327691 := hCG32.1.v (j := 6) (by decide : cde 327682 = 502) al38 (by rw [hk37]; exact Nat.le_of_ble_eq_true rfl); omega
                  refine s_getf (ci := 3) (k := 6) (C := RX2) (T := TX2) (N := 8) (n := 327682) (L := 0) (t := 2) dX2_linkBoth_244 rfl wi_70 m_582 (Nat.le_of_ble_eq_true rfl) rfl rfl hk37 hv102 ?_
                  refine s_iload dX2_linkBoth_247 rfl ?_
                  have hk105 : gK G32 (f) = (9, 0) := ((hXG32).k ((hXG11).k kf0 (by decide)) (by decide))
                  refine s_callV (as := [(0, k), (0, gS G32 (A + 2) ((k : Int).toNat)), (2, ((327691 : Nat) : Int)), (0, rr12)]) (rest := []) (n := f) (ci := 1) gX0_putValue dX2_linkBoth_249 m_1320 m_750 m_1483 m_711 m_77 ⟨by decide, by decide, show (parseMethodDescriptor yX0_putValue.desc).map (fun d => d.parameters.length) = some 4 from by decide +kernel⟩ (Nat.le_of_ble_eq_true rfl) (by rw [hcf]; exact Nat.le_of_ble_eq_true rfl) hk105 rfl rfl (Nat.le_of_ble_eq_true rfl) ⟨f, k, gS G32 (A + 2) ((k : Int).toNat), 327691, 200, rr12, a, b, rfl, hCG32, hab, (by first | assumption | omega), (by first | assumption | omega), hk41, (by first | assumption | omega), (by first | assumption | omega), (by first | assumption | omega), fun G103 hCG103 hXG103 hfG103 hpG103 => ?_⟩
                  have hFG103 : WX (fun x => x = 327691 ∨ x = 327692 ∨ (f + 1 ≤ x ∧ x ≤ f + 22)) G G103 := WX.trans hFG32 (KX.trans hXG11 hXG32) (WX.mono hfG103 (fun x hx => by omega))
                  have hFIG103 : ∀ k : Nat, k < 6 → FIP P G103 262144 k := fun k hk => FIP.ns (hFIG32 k hk) hXG103 hfG103 hk (KX.al (KX.trans hXG11 hXG32) (kne k262149 (by decide))) (fun k hk => by show ¬ _; omega) (by show ¬ _; omega)
                  have hFAG103 : FPa P G103 A := (hFAG32).ns hXG103 hfG103 ⟨KX.al (KX.trans hXG11 hXG32) (kne kA3 (by decide)), KX.al (KX.trans hXG11 hXG32) (kne kA4 (by decide))⟩ ⟨by show ¬ _; omega, by show ¬ _; omega, fun p hp => by show ¬ _; omega⟩
                  have hFBG103 : FPa P G103 B := (hFBG32).ns hXG103 hfG103 ⟨KX.al (KX.trans hXG11 hXG32) (kne kB3 (by decide)), KX.al (KX.trans hXG11 hXG32) (kne kB4 (by decide))⟩ ⟨by show ¬ _; omega, by show ¬ _; omega, fun p hp => by show ¬ _; omega⟩
                  have hFfG103 : FPa P G103 f := FPa.put hpG103.1 hFfG32 (fun _ _ => (hpG11.2 P ((hFA (6 + k : Int).toNat (by omega)).rps hv4 rfl) hFI (by omega)).wx hXG32 hfG32 (by show ¬ _; omega)) hXG103 hfG103 (fun p hp hn => by show ¬ _; omega)
                  show WP kX2_linkBoth X 252 [some (2, ((327682 : Nat) : Int)), some (0, k), some (2, ((A : Nat) : Int)), some (2, ((B : Nat) : Int)), some (2, ((f : Nat) : Int)), some (0, rr12), some (0, rr33), some (2, ((A : Nat) : Int)), some (2, ((A : Nat) : Int))] [] G103
                  refine s_aload dX2_linkBoth_252 rfl (Int.natCast_nonneg _) ?_
                  refine s_iload_n dX2_linkBoth_254 rfl ?_
                  refine s_aload dX2_linkBoth_255 rfl (Int.natCast_nonneg _) ?_
                  refine s_iload_n dX2_linkBoth_257 rfl ?_
                  have hk108 : gK G103 (f) = (9, 0) := ((hXG103).k hk105 (by decide))
                  refine s_callV (as := [(0, k), (2, ((A : Nat) : Int)), (0, k)]) (rest := []) (n := f) (ci := 1) gX0_putNumberOf dX2_linkBoth_258 m_1321 m_745 m_1478 m_711 m_72 ⟨by decide, by decide, show (parseMethodDescriptor yX0_putNumberOf.desc).map (fun d => d.parameters.length) = some 3 from by decide +kernel⟩ (Nat.le_of_ble_eq_true rfl) (by rw [hcf]; exact Nat.le_of_ble_eq_true rfl) hk108 rfl rfl (Nat.le_of_ble_eq_true rfl) ⟨f, k, A, k, a, b, rfl, hCG103, hab, (by first | assumption | omega), (by first | assumption | omega), (by first | assumption | omega), (by first | assumption | omega), fun G106 hCG106 hXG106 hfG106 hpG106 => ?_⟩
                  have hFG106 : WX (fun x => x = 327691 ∨ x = 327692 ∨ (f + 1 ≤ x ∧ x ≤ f + 22)) G G106 := WX.trans hFG103 (KX.trans (KX.trans hXG11 hXG32) hXG103) (WX.mono hfG106 rg12)
                  have hFIG106 : ∀ k : Nat, k < 6 → FIP P G106 262144 k := fun k hk => FIP.ns (hFIG103 k hk) hXG106 hfG106 hk (KX.al (KX.trans (KX.trans hXG11 hXG32) hXG103) (kne k262149 (by decide))) rg13 rg14
                  have hFAG106 : FPa P G106 A := (hFAG103).ns hXG106 hfG106 ⟨KX.al (KX.trans (KX.trans hXG11 hXG32) hXG103) (kne kA3 (by decide)), KX.al (KX.trans (KX.trans hXG11 hXG32) hXG103) (kne kA4 (by decide))⟩ rg15
                  have hFBG106 : FPa P G106 B := (hFBG103).ns hXG106 hfG106 ⟨KX.al (KX.trans (KX.trans hXG11 hXG32) hXG103) (kne kB3 (by decide)), KX.al (KX.trans (KX.trans hXG11 hXG32) hXG103) (kne kB4 (by decide))⟩ rg16
                  have hFfG106 : FPa P G106 f := (hFfG103).ns hXG106 hfG106 ⟨KX.al (KX.trans (KX.trans hXG11 hXG32) hXG103) (kne kf3 (by decide)), KX.al (KX.trans (KX.trans hXG11 hXG32) hXG103) (kne kf4 (by decide))⟩ rg17
                  show WP kX2_linkBoth X 261 [some (2, ((327682 : Nat) : Int)), some (0, k), some (2, ((A : Nat) : Int)), some (2, ((B : Nat) : Int)), some (2, ((f : Nat) : Int)), some (0, rr12), some (0, rr33), some (2, ((A : Nat) : Int)), some (2, ((A : Nat) : Int))] [] G106
                  refine s_iconst dX2_linkBoth_261 (by decide) ?_
                  exact s_iret hR dX2_linkBoth_262 rfl (hQ 0 G106 hCG106 (KX.trans (KX.trans (KX.trans hXG11 hXG32) hXG103) hXG106) hFG106 hFfG106)
                · -- 223 to 226
                  refine s_bipush dX2_linkBoth_226 rfl (by decide) ?_
                  refine s_iload_n dX2_linkBoth_228 rfl ?_
                  refine s_callSN (own := RX2) rfl (by decide +kernel) (as := [(0, 6), (0, k)]) (rest := []) gX11_valueMistake dX2_linkBoth_229 m_1784 m_714 m_129 ⟨by decide, by decide, show (parseMethodDescriptor yX11_valueMistake.desc).map (fun d => d.parameters.length) = some 2 from by decide +kernel⟩ (Nat.le_of_ble_eq_true rfl) (by rw [hcf]; exact Nat.le_of_ble_eq_true rfl) rfl (Nat.le_of_ble_eq_true rfl) ⟨6, k, rfl, (by first | assumption | omega), (by first | assumption | omega), fun rr109 hp110 => ?_⟩
                  show WP kX2_linkBoth X 232 [some (2, ((327682 : Nat) : Int)), some (0, k), some (2, ((A : Nat) : Int)), some (2, ((B : Nat) : Int)), some (2, ((f : Nat) : Int)), some (0, rr12), some (0, rr33), some (2, ((A : Nat) : Int)), some (2, ((A : Nat) : Int))] [(0, rr109)] G32
                  exact s_iret hR dX2_linkBoth_232 rfl (hQ rr109 G32 hCG32 (KX.trans hXG11 hXG32) hFG32 hFfG32)
          · -- 183 to 186
            refine s_aload_n dX2_linkBoth_186 rfl (Int.natCast_nonneg _) ?_
            refine s_goto (tgt := 191) dX2_linkBoth_187 (by decide) ?_
            refine s_astore (Int.natCast_nonneg _) dX2_linkBoth_191 (by decide) (lv' := [some (2, ((327682 : Nat) : Int)), some (0, k), some (2, ((A : Nat) : Int)), some (2, ((B : Nat) : Int)), some (2, ((f : Nat) : Int)), some (0, rr12), some (0, rr33), some (2, ((B : Nat) : Int)), none]) rfl ?_
            refine s_aload_n dX2_linkBoth_193 rfl (Int.natCast_nonneg _) ?_
            refine s_iload_n dX2_linkBoth_194 rfl ?_
            refine s_callV (as := [(0, k)]) (rest := []) (n := A) (ci := 1) gX0_isValueHole dX2_linkBoth_195 m_1322 m_743 m_1476 m_711 m_70 ⟨by decide, by decide, show (parseMethodDescriptor yX0_isValueHole.desc).map (fun d => d.parameters.length) = some 1 from by decide +kernel⟩ (Nat.le_of_ble_eq_true rfl) (by rw [hcf]; exact Nat.le_of_ble_eq_true rfl) hk49 rfl rfl (Nat.le_of_ble_eq_true rfl) ⟨A, k, a, b, rfl, hCG32, hab, (by first | assumption | omega), (by first | assumption | omega), fun rr111 hp112 => ?_⟩
            show WP kX2_linkBoth X 198 [some (2, ((327682 : Nat) : Int)), some (0, k), some (2, ((A : Nat) : Int)), some (2, ((B : Nat) : Int)), some (2, ((f : Nat) : Int)), some (0, rr12), some (0, rr33), some (2, ((B : Nat) : Int)), none] [(0, rr111)] G32
            refine s_if_eq (tgt := 205) dX2_linkBoth_198 (by decide) (fun c113 => ?_) (fun c113 => ?_)
            · -- 198 to 205
              refine s_aload_n dX2_linkBoth_205 rfl (Int.natCast_nonneg _) ?_
              refine s_astore (Int.natCast_nonneg _) dX2_linkBoth_206 (by decide) (lv' := [some (2, ((327682 : Nat) : Int)), some (0, k), some (2, ((A : Nat) : Int)), some (2, ((B : Nat) : Int)), some (2, ((f : Nat) : Int)), some (0, rr12), some (0, rr33), some (2, ((B : Nat) : Int)), some (2, ((B : Nat) : Int))]) rfl ?_
              refine s_aload dX2_linkBoth_208 rfl (Int.natCast_nonneg _) ?_
              refine s_iload_n dX2_linkBoth_210 rfl ?_
              have hk116 : gK G32 (B) = (9, 0) := ((hXG32).k hk16 (by decide))
              refine s_callV (as := [(0, k)]) (rest := []) (n := B) (ci := 1) gX0_isGhost dX2_linkBoth_211 m_1323 m_741 m_1474 m_711 m_68 ⟨by decide, by decide, show (parseMethodDescriptor yX0_isGhost.desc).map (fun d => d.parameters.length) = some 1 from by decide +kernel⟩ (Nat.le_of_ble_eq_true rfl) (by rw [hcf]; exact Nat.le_of_ble_eq_true rfl) hk116 rfl rfl (Nat.le_of_ble_eq_true rfl) ⟨B, k, a, b, rfl, hCG32, hab, (by first | assumption | omega), (by first | assumption | omega), fun rr114 hp115 => ?_⟩
              show WP kX2_linkBoth X 214 [some (2, ((327682 : Nat) : Int)), some (0, k), some (2, ((A : Nat) : Int)), some (2, ((B : Nat) : Int)), some (2, ((f : Nat) : Int)), some (0, rr12), some (0, rr33), some (2, ((B : Nat) : Int)), some (2, ((B : Nat) : Int))] [(0, rr114)] G32
              refine s_if_eq (tgt := 233) dX2_linkBoth_214 (by decide) (fun c117 => ?_) (fun c117 => ?_)
              · -- 214 to 233
                refine s_aload dX2_linkBoth_233 rfl (Int.natCast_nonneg _) ?_
                refine s_iload_n dX2_linkBoth_235 rfl ?_
                refine s_aload dX2_linkBoth_236 rfl (Int.natCast_nonneg _) ?_
                refine s_alv (B) (by simp) (fun al118 => ?_)
                have hv119 : gS G32 B 2 = ((B + 2 : Nat) : Int) := by have h9 : (gS G32 B 2) = (((B % 1048576) + 2 : Nat) : Int) := hCG32.1.v (j := 2) (by rw [cde_n (by omega) (by omega)]; omega : cde B = 101) al118 (by rw [hk116]; exact Nat.le_of_ble_eq_true rfl); omega
                refine s_getf (ci := 1) (k := 2) (C := RX0) (T := TX0) (N := 7) (n := B) (L := 0) (t := 2) dX2_linkBoth_238 rfl wi_65 m_576 (Nat.le_of_ble_eq_true rfl) rfl rfl hk116 hv119 ?_
                refine s_iload_n dX2_linkBoth_241 rfl ?_
                have hk120 : gK G32 (B + 2) = (1, 10) := ((hXG32).k ((hXG11).k kB2 (by decide)) (by decide))
                refine s_iald dX2_linkBoth_242 hk120 (by omega) (by omega) rfl ?_
                refine s_aload_n dX2_linkBoth_243 rfl (Int.natCast_nonneg _) ?_
                have hv121 : gS G32 327682 6 = ((327691 : Nat) : Int) := by have h9 : (gS G32 327682 6) = 327691 := hCG32.1.v (j := 6) (by decide : cde 327682 = 502) al38 (by rw [hk37]; exact Nat.le_of_ble_eq_true rfl); omega
                refine s_getf (ci := 3) (k := 6) (C := RX2) (T := TX2) (N := 8) (n := 327682) (L := 0) (t := 2) dX2_linkBoth_244 rfl wi_70 m_582 (Nat.le_of_ble_eq_true rfl) rfl rfl hk37 hv121 ?_
                refine s_iload dX2_linkBoth_247 rfl ?_
                have hk124 : gK G32 (f) = (9, 0) := ((hXG32).k ((hXG11).k kf0 (by decide)) (by decide))
                refine s_callV (as := [(0, k), (0, gS G32 (B + 2) ((k : Int).toNat)), (2, ((327691 : Nat) : Int)), (0, rr12)]) (rest := []) (n := f) (ci := 1) gX0_putValue dX2_linkBoth_249 m_1320 m_750 m_1483 m_711 m_77 ⟨by decide, by decide, show (parseMethodDescriptor yX0_putValue.desc).map (fun d => d.parameters.length) = some 4 from by decide +kernel⟩ (Nat.le_of_ble_eq_true rfl) (by rw [hcf]; exact Nat.le_of_ble_eq_true rfl) hk124 rfl rfl (Nat.le_of_ble_eq_true rfl) ⟨f, k, gS G32 (B + 2) ((k : Int).toNat), 327691, 200, rr12, a, b, rfl, hCG32, hab, (by first | assumption | omega), (by first | assumption | omega), hk41, (by first | assumption | omega), (by first | assumption | omega), (by first | assumption | omega), fun G122 hCG122 hXG122 hfG122 hpG122 => ?_⟩
                have hFG122 : WX (fun x => x = 327691 ∨ x = 327692 ∨ (f + 1 ≤ x ∧ x ≤ f + 22)) G G122 := WX.trans hFG32 (KX.trans hXG11 hXG32) (WX.mono hfG122 (fun x hx => by omega))
                have hFIG122 : ∀ k : Nat, k < 6 → FIP P G122 262144 k := fun k hk => FIP.ns (hFIG32 k hk) hXG122 hfG122 hk (KX.al (KX.trans hXG11 hXG32) (kne k262149 (by decide))) (fun k hk => by show ¬ _; omega) (by show ¬ _; omega)
                have hFAG122 : FPa P G122 A := (hFAG32).ns hXG122 hfG122 ⟨KX.al (KX.trans hXG11 hXG32) (kne kA3 (by decide)), KX.al (KX.trans hXG11 hXG32) (kne kA4 (by decide))⟩ ⟨by show ¬ _; omega, by show ¬ _; omega, fun p hp => by show ¬ _; omega⟩
                have hFBG122 : FPa P G122 B := (hFBG32).ns hXG122 hfG122 ⟨KX.al (KX.trans hXG11 hXG32) (kne kB3 (by decide)), KX.al (KX.trans hXG11 hXG32) (kne kB4 (by decide))⟩ ⟨by show ¬ _; omega, by show ¬ _; omega, fun p hp => by show ¬ _; omega⟩
                have hFfG122 : FPa P G122 f := FPa.put hpG122.1 hFfG32 (fun _ _ => (hpG11.2 P ((hFA (6 + k : Int).toNat (by omega)).rps hv4 rfl) hFI (by omega)).wx hXG32 hfG32 (by show ¬ _; omega)) hXG122 hfG122 (fun p hp hn => by show ¬ _; omega)
                show WP kX2_linkBoth X 252 [some (2, ((327682 : Nat) : Int)), some (0, k), some (2, ((A : Nat) : Int)), some (2, ((B : Nat) : Int)), some (2, ((f : Nat) : Int)), some (0, rr12), some (0, rr33), some (2, ((B : Nat) : Int)), some (2, ((B : Nat) : Int))] [] G122
                refine s_aload dX2_linkBoth_252 rfl (Int.natCast_nonneg _) ?_
                refine s_iload_n dX2_linkBoth_254 rfl ?_
                refine s_aload dX2_linkBoth_255 rfl (Int.natCast_nonneg _) ?_
                refine s_iload_n dX2_linkBoth_257 rfl ?_
                have hk127 : gK G122 (f) = (9, 0) := ((hXG122).k hk124 (by decide))
                refine s_callV (as := [(0, k), (2, ((B : Nat) : Int)), (0, k)]) (rest := []) (n := f) (ci := 1) gX0_putNumberOf dX2_linkBoth_258 m_1321 m_745 m_1478 m_711 m_72 ⟨by decide, by decide, show (parseMethodDescriptor yX0_putNumberOf.desc).map (fun d => d.parameters.length) = some 3 from by decide +kernel⟩ (Nat.le_of_ble_eq_true rfl) (by rw [hcf]; exact Nat.le_of_ble_eq_true rfl) hk127 rfl rfl (Nat.le_of_ble_eq_true rfl) ⟨f, k, B, k, a, b, rfl, hCG122, hab, (by first | assumption | omega), (by first | assumption | omega), (by first | assumption | omega), (by first | assumption | omega), fun G125 hCG125 hXG125 hfG125 hpG125 => ?_⟩
                have hFG125 : WX (fun x => x = 327691 ∨ x = 327692 ∨ (f + 1 ≤ x ∧ x ≤ f + 22)) G G125 := WX.trans hFG122 (KX.trans (KX.trans hXG11 hXG32) hXG122) (WX.mono hfG125 rg12)
                have hFIG125 : ∀ k : Nat, k < 6 → FIP P G125 262144 k := fun k hk => FIP.ns (hFIG122 k hk) hXG125 hfG125 hk (KX.al (KX.trans (KX.trans hXG11 hXG32) hXG122) (kne k262149 (by decide))) rg13 rg14
                have hFAG125 : FPa P G125 A := (hFAG122).ns hXG125 hfG125 ⟨KX.al (KX.trans (KX.trans hXG11 hXG32) hXG122) (kne kA3 (by decide)), KX.al (KX.trans (KX.trans hXG11 hXG32) hXG122) (kne kA4 (by decide))⟩ rg15
                have hFBG125 : FPa P G125 B := (hFBG122).ns hXG125 hfG125 ⟨KX.al (KX.trans (KX.trans hXG11 hXG32) hXG122) (kne kB3 (by decide)), KX.al (KX.trans (KX.trans hXG11 hXG32) hXG122) (kne kB4 (by decide))⟩ rg16
                have hFfG125 : FPa P G125 f := (hFfG122).ns hXG125 hfG125 ⟨KX.al (KX.trans (KX.trans hXG11 hXG32) hXG122) (kne kf3 (by decide)), KX.al (KX.trans (KX.trans hXG11 hXG32) hXG122) (kne kf4 (by decide))⟩ rg17
                show WP kX2_linkBoth X 261 [some (2, ((327682 : Nat) : Int)), some (0, k), some (2, ((A : Nat) : Int)), some (2, ((B : Nat) : Int)), some (2, ((f : Nat) : Int)), some (0, rr12), some (0, rr33), some (2, ((B : Nat) : Int)), some (2, ((B : Nat) : Int))] [] G125
                refine s_iconst dX2_linkBoth_261 (by decide) ?_
                exact s_iret hR dX2_linkBoth_262 rfl (hQ 0 G125 hCG125 (KX.trans (KX.trans (KX.trans hXG11 hXG32) hXG122) hXG125) hFG125 hFfG125)
              · -- 214 to 217
                refine s_aload dX2_linkBoth_217 rfl (Int.natCast_nonneg _) ?_
                refine s_iload_n dX2_linkBoth_219 rfl ?_
                refine s_callV (as := [(0, k)]) (rest := []) (n := B) (ci := 1) gX0_isGhost dX2_linkBoth_220 m_1323 m_741 m_1474 m_711 m_68 ⟨by decide, by decide, show (parseMethodDescriptor yX0_isGhost.desc).map (fun d => d.parameters.length) = some 1 from by decide +kernel⟩ (Nat.le_of_ble_eq_true rfl) (by rw [hcf]; exact Nat.le_of_ble_eq_true rfl) hk116 rfl rfl (Nat.le_of_ble_eq_true rfl) ⟨B, k, a, b, rfl, hCG32, hab, (by first | assumption | omega), (by first | assumption | omega), fun rr128 hp129 => ?_⟩
                show WP kX2_linkBoth X 223 [some (2, ((327682 : Nat) : Int)), some (0, k), some (2, ((A : Nat) : Int)), some (2, ((B : Nat) : Int)), some (2, ((f : Nat) : Int)), some (0, rr12), some (0, rr33), some (2, ((B : Nat) : Int)), some (2, ((B : Nat) : Int))] [(0, rr128)] G32
                refine s_if_ne (tgt := 233) dX2_linkBoth_223 (by decide) (fun c130 => ?_) (fun c130 => ?_)
                · -- 223 to 233
                  refine s_aload dX2_linkBoth_233 rfl (Int.natCast_nonneg _) ?_
                  refine s_iload_n dX2_linkBoth_235 rfl ?_
                  refine s_aload dX2_linkBoth_236 rfl (Int.natCast_nonneg _) ?_
                  refine s_alv (B) (by simp) (fun al131 => ?_)
                  have hv132 : gS G32 B 2 = ((B + 2 : Nat) : Int) := by have h9 : (gS G32 B 2) = (((B % 1048576) + 2 : Nat) : Int) := hCG32.1.v (j := 2) (by rw [cde_n (by omega) (by omega)]; omega : cde B = 101) al131 (by rw [hk116]; exact Nat.le_of_ble_eq_true rfl); omega
                  refine s_getf (ci := 1) (k := 2) (C := RX0) (T := TX0) (N := 7) (n := B) (L := 0) (t := 2) dX2_linkBoth_238 rfl wi_65 m_576 (Nat.le_of_ble_eq_true rfl) rfl rfl hk116 hv132 ?_
                  refine s_iload_n dX2_linkBoth_241 rfl ?_
                  have hk133 : gK G32 (B + 2) = (1, 10) := ((hXG32).k ((hXG11).k kB2 (by decide)) (by decide))
                  refine s_iald dX2_linkBoth_242 hk133 (by omega) (by omega) rfl ?_
                  refine s_aload_n dX2_linkBoth_243 rfl (Int.natCast_nonneg _) ?_
                  have hv134 : gS G32 327682 6 = ((327691 : Nat) : Int) := by have h9 : (gS G32 327682 6) = 327691 := hCG32.1.v (j := 6) (by decide : cde 327682 = 502) al38 (by rw [hk37]; exact Nat.le_of_ble_eq_true rfl); omega
                  refine s_getf (ci := 3) (k := 6) (C := RX2) (T := TX2) (N := 8) (n := 327682) (L := 0) (t := 2) dX2_linkBoth_244 rfl wi_70 m_582 (Nat.le_of_ble_eq_true rfl) rfl rfl hk37 hv134 ?_
                  refine s_iload dX2_linkBoth_247 rfl ?_
                  have hk137 : gK G32 (f) = (9, 0) := ((hXG32).k ((hXG11).k kf0 (by decide)) (by decide))
                  refine s_callV (as := [(0, k), (0, gS G32 (B + 2) ((k : Int).toNat)), (2, ((327691 : Nat) : Int)), (0, rr12)]) (rest := []) (n := f) (ci := 1) gX0_putValue dX2_linkBoth_249 m_1320 m_750 m_1483 m_711 m_77 ⟨by decide, by decide, show (parseMethodDescriptor yX0_putValue.desc).map (fun d => d.parameters.length) = some 4 from by decide +kernel⟩ (Nat.le_of_ble_eq_true rfl) (by rw [hcf]; exact Nat.le_of_ble_eq_true rfl) hk137 rfl rfl (Nat.le_of_ble_eq_true rfl) ⟨f, k, gS G32 (B + 2) ((k : Int).toNat), 327691, 200, rr12, a, b, rfl, hCG32, hab, (by first | assumption | omega), (by first | assumption | omega), hk41, (by first | assumption | omega), (by first | assumption | omega), (by first | assumption | omega), fun G135 hCG135 hXG135 hfG135 hpG135 => ?_⟩
                  have hFG135 : WX (fun x => x = 327691 ∨ x = 327692 ∨ (f + 1 ≤ x ∧ x ≤ f + 22)) G G135 := WX.trans hFG32 (KX.trans hXG11 hXG32) (WX.mono hfG135 (fun x hx => by omega))
                  have hFIG135 : ∀ k : Nat, k < 6 → FIP P G135 262144 k := fun k hk => FIP.ns (hFIG32 k hk) hXG135 hfG135 hk (KX.al (KX.trans hXG11 hXG32) (kne k262149 (by decide))) (fun k hk => by show ¬ _; omega) (by show ¬ _; omega)
                  have hFAG135 : FPa P G135 A := (hFAG32).ns hXG135 hfG135 ⟨KX.al (KX.trans hXG11 hXG32) (kne kA3 (by decide)), KX.al (KX.trans hXG11 hXG32) (kne kA4 (by decide))⟩ ⟨by show ¬ _; omega, by show ¬ _; omega, fun p hp => by show ¬ _; omega⟩
                  have hFBG135 : FPa P G135 B := (hFBG32).ns hXG135 hfG135 ⟨KX.al (KX.trans hXG11 hXG32) (kne kB3 (by decide)), KX.al (KX.trans hXG11 hXG32) (kne kB4 (by decide))⟩ ⟨by show ¬ _; omega, by show ¬ _; omega, fun p hp => by show ¬ _; omega⟩
                  have hFfG135 : FPa P G135 f := FPa.put hpG135.1 hFfG32 (fun _ _ => (hpG11.2 P ((hFA (6 + k : Int).toNat (by omega)).rps hv4 rfl) hFI (by omega)).wx hXG32 hfG32 (by show ¬ _; omega)) hXG135 hfG135 (fun p hp hn => by show ¬ _; omega)
                  show WP kX2_linkBoth X 252 [some (2, ((327682 : Nat) : Int)), some (0, k), some (2, ((A : Nat) : Int)), some (2, ((B : Nat) : Int)), some (2, ((f : Nat) : Int)), some (0, rr12), some (0, rr33), some (2, ((B : Nat) : Int)), some (2, ((B : Nat) : Int))] [] G135
                  refine s_aload dX2_linkBoth_252 rfl (Int.natCast_nonneg _) ?_
                  refine s_iload_n dX2_linkBoth_254 rfl ?_
                  refine s_aload dX2_linkBoth_255 rfl (Int.natCast_nonneg _) ?_
                  refine s_iload_n dX2_linkBoth_257 rfl ?_
                  have hk140 : gK G135 (f) = (9, 0) := ((hXG135).k hk137 (by decide))
                  refine s_callV (as := [(0, k), (2, ((B : Nat) : Int)), (0, k)]) (rest := []) (n := f) (ci := 1) gX0_putNumberOf dX2_linkBoth_258 m_1321 m_745 m_1478 m_711 m_72 ⟨by decide, by decide, show (parseMethodDescriptor yX0_putNumberOf.desc).map (fun d => d.parameters.length) = some 3 from by decide +kernel⟩ (Nat.le_of_ble_eq_true rfl) (by rw [hcf]; exact Nat.le_of_ble_eq_true rfl) hk140 rfl rfl (Nat.le_of_ble_eq_true rfl) ⟨f, k, B, k, a, b, rfl, hCG135, hab, (by first | assumption | omega), (by first | assumption | omega), (by first | assumption | omega), (by first | assumption | omega), fun G138 hCG138 hXG138 hfG138 hpG138 => ?_⟩
                  have hFG138 : WX (fun x => x = 327691 ∨ x = 327692 ∨ (f + 1 ≤ x ∧ x ≤ f + 22)) G G138 := WX.trans hFG135 (KX.trans (KX.trans hXG11 hXG32) hXG135) (WX.mono hfG138 rg12)
                  have hFIG138 : ∀ k : Nat, k < 6 → FIP P G138 262144 k := fun k hk => FIP.ns (hFIG135 k hk) hXG138 hfG138 hk (KX.al (KX.trans (KX.trans hXG11 hXG32) hXG135) (kne k262149 (by decide))) rg13 rg14
                  have hFAG138 : FPa P G138 A := (hFAG135).ns hXG138 hfG138 ⟨KX.al (KX.trans (KX.trans hXG11 hXG32) hXG135) (kne kA3 (by decide)), KX.al (KX.trans (KX.trans hXG11 hXG32) hXG135) (kne kA4 (by decide))⟩ rg15
                  have hFBG138 : FPa P G138 B := (hFBG135).ns hXG138 hfG138 ⟨KX.al (KX.trans (KX.trans hXG11 hXG32) hXG135) (kne kB3 (by decide)), KX.al (KX.trans (KX.trans hXG11 hXG32) hXG135) (kne kB4 (by decide))⟩ rg16
                  have hFfG138 : FPa P G138 f := (hFfG135).ns hXG138 hfG138 ⟨KX.al (KX.trans (KX.trans hXG11 hXG32) hXG135) (kne kf3 (by decide)), KX.al (KX.trans (KX.trans hXG11 hXG32) hXG135) (kne kf4 (by decide))⟩ rg17
                  show WP kX2_linkBoth X 261 [some (2, ((327682 : Nat) : Int)), some (0, k), some (2, ((A : Nat) : Int)), some (2, ((B : Nat) : Int)), some (2, ((f : Nat) : Int)), some (0, rr12), some (0, rr33), some (2, ((B : Nat) : Int)), some (2, ((B : Nat) : Int))] [] G138
                  refine s_iconst dX2_linkBoth_261 (by decide) ?_
                  exact s_iret hR dX2_linkBoth_262 rfl (hQ 0 G138 hCG138 (KX.trans (KX.trans (KX.trans hXG11 hXG32) hXG135) hXG138) hFG138 hFfG138)
                · -- 223 to 226
                  refine s_bipush dX2_linkBoth_226 rfl (by decide) ?_
                  refine s_iload_n dX2_linkBoth_228 rfl ?_
                  refine s_callSN (own := RX2) rfl (by decide +kernel) (as := [(0, 6), (0, k)]) (rest := []) gX11_valueMistake dX2_linkBoth_229 m_1784 m_714 m_129 ⟨by decide, by decide, show (parseMethodDescriptor yX11_valueMistake.desc).map (fun d => d.parameters.length) = some 2 from by decide +kernel⟩ (Nat.le_of_ble_eq_true rfl) (by rw [hcf]; exact Nat.le_of_ble_eq_true rfl) rfl (Nat.le_of_ble_eq_true rfl) ⟨6, k, rfl, (by first | assumption | omega), (by first | assumption | omega), fun rr141 hp142 => ?_⟩
                  show WP kX2_linkBoth X 232 [some (2, ((327682 : Nat) : Int)), some (0, k), some (2, ((A : Nat) : Int)), some (2, ((B : Nat) : Int)), some (2, ((f : Nat) : Int)), some (0, rr12), some (0, rr33), some (2, ((B : Nat) : Int)), some (2, ((B : Nat) : Int))] [(0, rr141)] G32
                  exact s_iret hR dX2_linkBoth_232 rfl (hQ rr141 G32 hCG32 (KX.trans hXG11 hXG32) hFG32 hFfG32)
            · -- 198 to 201
              refine s_aload_n dX2_linkBoth_201 rfl (Int.natCast_nonneg _) ?_
              refine s_goto (tgt := 206) dX2_linkBoth_202 (by decide) ?_
              refine s_astore (Int.natCast_nonneg _) dX2_linkBoth_206 (by decide) (lv' := [some (2, ((327682 : Nat) : Int)), some (0, k), some (2, ((A : Nat) : Int)), some (2, ((B : Nat) : Int)), some (2, ((f : Nat) : Int)), some (0, rr12), some (0, rr33), some (2, ((B : Nat) : Int)), some (2, ((A : Nat) : Int))]) rfl ?_
              refine s_aload dX2_linkBoth_208 rfl (Int.natCast_nonneg _) ?_
              refine s_iload_n dX2_linkBoth_210 rfl ?_
              have hk145 : gK G32 (B) = (9, 0) := ((hXG32).k hk16 (by decide))
              refine s_callV (as := [(0, k)]) (rest := []) (n := B) (ci := 1) gX0_isGhost dX2_linkBoth_211 m_1323 m_741 m_1474 m_711 m_68 ⟨by decide, by decide, show (parseMethodDescriptor yX0_isGhost.desc).map (fun d => d.parameters.length) = some 1 from by decide +kernel⟩ (Nat.le_of_ble_eq_true rfl) (by rw [hcf]; exact Nat.le_of_ble_eq_true rfl) hk145 rfl rfl (Nat.le_of_ble_eq_true rfl) ⟨B, k, a, b, rfl, hCG32, hab, (by first | assumption | omega), (by first | assumption | omega), fun rr143 hp144 => ?_⟩
              show WP kX2_linkBoth X 214 [some (2, ((327682 : Nat) : Int)), some (0, k), some (2, ((A : Nat) : Int)), some (2, ((B : Nat) : Int)), some (2, ((f : Nat) : Int)), some (0, rr12), some (0, rr33), some (2, ((B : Nat) : Int)), some (2, ((A : Nat) : Int))] [(0, rr143)] G32
              refine s_if_eq (tgt := 233) dX2_linkBoth_214 (by decide) (fun c146 => ?_) (fun c146 => ?_)
              · -- 214 to 233
                refine s_aload dX2_linkBoth_233 rfl (Int.natCast_nonneg _) ?_
                refine s_iload_n dX2_linkBoth_235 rfl ?_
                refine s_aload dX2_linkBoth_236 rfl (Int.natCast_nonneg _) ?_
                refine s_alv (B) (by simp) (fun al147 => ?_)
                have hv148 : gS G32 B 2 = ((B + 2 : Nat) : Int) := by have h9 : (gS G32 B 2) = (((B % 1048576) + 2 : Nat) : Int) := hCG32.1.v (j := 2) (by rw [cde_n (by omega) (by omega)]; omega : cde B = 101) al147 (by rw [hk145]; exact Nat.le_of_ble_eq_true rfl); omega
                refine s_getf (ci := 1) (k := 2) (C := RX0) (T := TX0) (N := 7) (n := B) (L := 0) (t := 2) dX2_linkBoth_238 rfl wi_65 m_576 (Nat.le_of_ble_eq_true rfl) rfl rfl hk145 hv148 ?_
                refine s_iload_n dX2_linkBoth_241 rfl ?_
                have hk149 : gK G32 (B + 2) = (1, 10) := ((hXG32).k ((hXG11).k kB2 (by decide)) (by decide))
                refine s_iald dX2_linkBoth_242 hk149 (by omega) (by omega) rfl ?_
                refine s_aload_n dX2_linkBoth_243 rfl (Int.natCast_nonneg _) ?_
                have hv150 : gS G32 327682 6 = ((327691 : Nat) : Int) := by have h9 : (gS G32 327682 6) = 327691 := hCG32.1.v (j := 6) (by decide : cde 327682 = 502) al38 (by rw [hk37]; exact Nat.le_of_ble_eq_true rfl); omega
                refine s_getf (ci := 3) (k := 6) (C := RX2) (T := TX2) (N := 8) (n := 327682) (L := 0) (t := 2) dX2_linkBoth_244 rfl wi_70 m_582 (Nat.le_of_ble_eq_true rfl) rfl rfl hk37 hv150 ?_
                refine s_iload dX2_linkBoth_247 rfl ?_
                have hk153 : gK G32 (f) = (9, 0) := ((hXG32).k ((hXG11).k kf0 (by decide)) (by decide))
                refine s_callV (as := [(0, k), (0, gS G32 (B + 2) ((k : Int).toNat)), (2, ((327691 : Nat) : Int)), (0, rr12)]) (rest := []) (n := f) (ci := 1) gX0_putValue dX2_linkBoth_249 m_1320 m_750 m_1483 m_711 m_77 ⟨by decide, by decide, show (parseMethodDescriptor yX0_putValue.desc).map (fun d => d.parameters.length) = some 4 from by decide +kernel⟩ (Nat.le_of_ble_eq_true rfl) (by rw [hcf]; exact Nat.le_of_ble_eq_true rfl) hk153 rfl rfl (Nat.le_of_ble_eq_true rfl) ⟨f, k, gS G32 (B + 2) ((k : Int).toNat), 327691, 200, rr12, a, b, rfl, hCG32, hab, (by first | assumption | omega), (by first | assumption | omega), hk41, (by first | assumption | omega), (by first | assumption | omega), (by first | assumption | omega), fun G151 hCG151 hXG151 hfG151 hpG151 => ?_⟩
                have hFG151 : WX (fun x => x = 327691 ∨ x = 327692 ∨ (f + 1 ≤ x ∧ x ≤ f + 22)) G G151 := WX.trans hFG32 (KX.trans hXG11 hXG32) (WX.mono hfG151 (fun x hx => by omega))
                have hFIG151 : ∀ k : Nat, k < 6 → FIP P G151 262144 k := fun k hk => FIP.ns (hFIG32 k hk) hXG151 hfG151 hk (KX.al (KX.trans hXG11 hXG32) (kne k262149 (by decide))) (fun k hk => by show ¬ _; omega) (by show ¬ _; omega)
                have hFAG151 : FPa P G151 A := (hFAG32).ns hXG151 hfG151 ⟨KX.al (KX.trans hXG11 hXG32) (kne kA3 (by decide)), KX.al (KX.trans hXG11 hXG32) (kne kA4 (by decide))⟩ ⟨by show ¬ _; omega, by show ¬ _; omega, fun p hp => by show ¬ _; omega⟩
                have hFBG151 : FPa P G151 B := (hFBG32).ns hXG151 hfG151 ⟨KX.al (KX.trans hXG11 hXG32) (kne kB3 (by decide)), KX.al (KX.trans hXG11 hXG32) (kne kB4 (by decide))⟩ ⟨by show ¬ _; omega, by show ¬ _; omega, fun p hp => by show ¬ _; omega⟩
                have hFfG151 : FPa P G151 f := FPa.put hpG151.1 hFfG32 (fun _ _ => (hpG11.2 P ((hFA (6 + k : Int).toNat (by omega)).rps hv4 rfl) hFI (by omega)).wx hXG32 hfG32 (by show ¬ _; omega)) hXG151 hfG151 (fun p hp hn => by show ¬ _; omega)
                show WP kX2_linkBoth X 252 [some (2, ((327682 : Nat) : Int)), some (0, k), some (2, ((A : Nat) : Int)), some (2, ((B : Nat) : Int)), some (2, ((f : Nat) : Int)), some (0, rr12), some (0, rr33), some (2, ((B : Nat) : Int)), some (2, ((A : Nat) : Int))] [] G151
                refine s_aload dX2_linkBoth_252 rfl (Int.natCast_nonneg _) ?_
                refine s_iload_n dX2_linkBoth_254 rfl ?_
                refine s_aload dX2_linkBoth_255 rfl (Int.natCast_nonneg _) ?_
                refine s_iload_n dX2_linkBoth_257 rfl ?_
                have hk156 : gK G151 (f) = (9, 0) := ((hXG151).k hk153 (by decide))
                refine s_callV (as := [(0, k), (2, ((B : Nat) : Int)), (0, k)]) (rest := []) (n := f) (ci := 1) gX0_putNumberOf dX2_linkBoth_258 m_1321 m_745 m_1478 m_711 m_72 ⟨by decide, by decide, show (parseMethodDescriptor yX0_putNumberOf.desc).map (fun d => d.parameters.length) = some 3 from by decide +kernel⟩ (Nat.le_of_ble_eq_true rfl) (by rw [hcf]; exact Nat.le_of_ble_eq_true rfl) hk156 rfl rfl (Nat.le_of_ble_eq_true rfl) ⟨f, k, B, k, a, b, rfl, hCG151, hab, (by first | assumption | omega), (by first | assumption | omega), (by first | assumption | omega), (by first | assumption | omega), fun G154 hCG154 hXG154 hfG154 hpG154 => ?_⟩
                have hFG154 : WX (fun x => x = 327691 ∨ x = 327692 ∨ (f + 1 ≤ x ∧ x ≤ f + 22)) G G154 := WX.trans hFG151 (KX.trans (KX.trans hXG11 hXG32) hXG151) (WX.mono hfG154 rg12)
                have hFIG154 : ∀ k : Nat, k < 6 → FIP P G154 262144 k := fun k hk => FIP.ns (hFIG151 k hk) hXG154 hfG154 hk (KX.al (KX.trans (KX.trans hXG11 hXG32) hXG151) (kne k262149 (by decide))) rg13 rg14
                have hFAG154 : FPa P G154 A := (hFAG151).ns hXG154 hfG154 ⟨KX.al (KX.trans (KX.trans hXG11 hXG32) hXG151) (kne kA3 (by decide)), KX.al (KX.trans (KX.trans hXG11 hXG32) hXG151) (kne kA4 (by decide))⟩ rg15
                have hFBG154 : FPa P G154 B := (hFBG151).ns hXG154 hfG154 ⟨KX.al (KX.trans (KX.trans hXG11 hXG32) hXG151) (kne kB3 (by decide)), KX.al (KX.trans (KX.trans hXG11 hXG32) hXG151) (kne kB4 (by decide))⟩ rg16
                have hFfG154 : FPa P G154 f := (hFfG151).ns hXG154 hfG154 ⟨KX.al (KX.trans (KX.trans hXG11 hXG32) hXG151) (kne kf3 (by decide)), KX.al (KX.trans (KX.trans hXG11 hXG32) hXG151) (kne kf4 (by decide))⟩ rg17
                show WP kX2_linkBoth X 261 [some (2, ((327682 : Nat) : Int)), some (0, k), some (2, ((A : Nat) : Int)), some (2, ((B : Nat) : Int)), some (2, ((f : Nat) : Int)), some (0, rr12), some (0, rr33), some (2, ((B : Nat) : Int)), some (2, ((A : Nat) : Int))] [] G154
                refine s_iconst dX2_linkBoth_261 (by decide) ?_
                exact s_iret hR dX2_linkBoth_262 rfl (hQ 0 G154 hCG154 (KX.trans (KX.trans (KX.trans hXG11 hXG32) hXG151) hXG154) hFG154 hFfG154)
              · -- 214 to 217
                refine s_aload dX2_linkBoth_217 rfl (Int.natCast_nonneg _) ?_
                refine s_iload_n dX2_linkBoth_219 rfl ?_
                refine s_callV (as := [(0, k)]) (rest := []) (n := A) (ci := 1) gX0_isGhost dX2_linkBoth_220 m_1323 m_741 m_1474 m_711 m_68 ⟨by decide, by decide, show (parseMethodDescriptor yX0_isGhost.desc).map (fun d => d.parameters.length) = some 1 from by decide +kernel⟩ (Nat.le_of_ble_eq_true rfl) (by rw [hcf]; exact Nat.le_of_ble_eq_true rfl) hk49 rfl rfl (Nat.le_of_ble_eq_true rfl) ⟨A, k, a, b, rfl, hCG32, hab, (by first | assumption | omega), (by first | assumption | omega), fun rr157 hp158 => ?_⟩
                show WP kX2_linkBoth X 223 [some (2, ((327682 : Nat) : Int)), some (0, k), some (2, ((A : Nat) : Int)), some (2, ((B : Nat) : Int)), some (2, ((f : Nat) : Int)), some (0, rr12), some (0, rr33), some (2, ((B : Nat) : Int)), some (2, ((A : Nat) : Int))] [(0, rr157)] G32
                refine s_if_ne (tgt := 233) dX2_linkBoth_223 (by decide) (fun c159 => ?_) (fun c159 => ?_)
                · -- 223 to 233
                  refine s_aload dX2_linkBoth_233 rfl (Int.natCast_nonneg _) ?_
                  refine s_iload_n dX2_linkBoth_235 rfl ?_
                  refine s_aload dX2_linkBoth_236 rfl (Int.natCast_nonneg _) ?_
                  refine s_alv (B) (by simp) (fun al160 => ?_)
                  have hv161 : gS G32 B 2 = ((B + 2 : Nat) : Int) := by have h9 : (gS G32 B 2) = (((B % 1048576) + 2 : Nat) : Int) := hCG32.1.v (j := 2) (by rw [cde_n (by omega) (by omega)]; omega : cde B = 101) al160 (by rw [hk145]; exact Nat.le_of_ble_eq_true rfl); omega
                  refine s_getf (ci := 1) (k := 2) (C := RX0) (T := TX0) (N := 7) (n := B) (L := 0) (t := 2) dX2_linkBoth_238 rfl wi_65 m_576 (Nat.le_of_ble_eq_true rfl) rfl rfl hk145 hv161 ?_
                  refine s_iload_n dX2_linkBoth_241 rfl ?_
                  have hk162 : gK G32 (B + 2) = (1, 10) := ((hXG32).k ((hXG11).k kB2 (by decide)) (by decide))
                  refine s_iald dX2_linkBoth_242 hk162 (by omega) (by omega) rfl ?_
                  refine s_aload_n dX2_linkBoth_243 rfl (Int.natCast_nonneg _) ?_
                  have hv163 : gS G32 327682 6 = ((327691 : Nat) : Int) := by have h9 : (gS G32 327682 6) = 327691 := hCG32.1.v (j := 6) (by decide : cde 327682 = 502) al38 (by rw [hk37]; exact Nat.le_of_ble_eq_true rfl); omega
                  refine s_getf (ci := 3) (k := 6) (C := RX2) (T := TX2) (N := 8) (n := 327682) (L := 0) (t := 2) dX2_linkBoth_244 rfl wi_70 m_582 (Nat.le_of_ble_eq_true rfl) rfl rfl hk37 hv163 ?_
                  refine s_iload dX2_linkBoth_247 rfl ?_
                  have hk166 : gK G32 (f) = (9, 0) := ((hXG32).k ((hXG11).k kf0 (by decide)) (by decide))
                  refine s_callV (as := [(0, k), (0, gS G32 (B + 2) ((k : Int).toNat)), (2, ((327691 : Nat) : Int)), (0, rr12)]) (rest := []) (n := f) (ci := 1) gX0_putValue dX2_linkBoth_249 m_1320 m_750 m_1483 m_711 m_77 ⟨by decide, by decide, show (parseMethodDescriptor yX0_putValue.desc).map (fun d => d.parameters.length) = some 4 from by decide +kernel⟩ (Nat.le_of_ble_eq_true rfl) (by rw [hcf]; exact Nat.le_of_ble_eq_true rfl) hk166 rfl rfl (Nat.le_of_ble_eq_true rfl) ⟨f, k, gS G32 (B + 2) ((k : Int).toNat), 327691, 200, rr12, a, b, rfl, hCG32, hab, (by first | assumption | omega), (by first | assumption | omega), hk41, (by first | assumption | omega), (by first | assumption | omega), (by first | assumption | omega), fun G164 hCG164 hXG164 hfG164 hpG164 => ?_⟩
                  have hFG164 : WX (fun x => x = 327691 ∨ x = 327692 ∨ (f + 1 ≤ x ∧ x ≤ f + 22)) G G164 := WX.trans hFG32 (KX.trans hXG11 hXG32) (WX.mono hfG164 (fun x hx => by omega))
                  have hFIG164 : ∀ k : Nat, k < 6 → FIP P G164 262144 k := fun k hk => FIP.ns (hFIG32 k hk) hXG164 hfG164 hk (KX.al (KX.trans hXG11 hXG32) (kne k262149 (by decide))) (fun k hk => by show ¬ _; omega) (by show ¬ _; omega)
                  have hFAG164 : FPa P G164 A := (hFAG32).ns hXG164 hfG164 ⟨KX.al (KX.trans hXG11 hXG32) (kne kA3 (by decide)), KX.al (KX.trans hXG11 hXG32) (kne kA4 (by decide))⟩ ⟨by show ¬ _; omega, by show ¬ _; omega, fun p hp => by show ¬ _; omega⟩
                  have hFBG164 : FPa P G164 B := (hFBG32).ns hXG164 hfG164 ⟨KX.al (KX.trans hXG11 hXG32) (kne kB3 (by decide)), KX.al (KX.trans hXG11 hXG32) (kne kB4 (by decide))⟩ ⟨by show ¬ _; omega, by show ¬ _; omega, fun p hp => by show ¬ _; omega⟩
                  have hFfG164 : FPa P G164 f := FPa.put hpG164.1 hFfG32 (fun _ _ => (hpG11.2 P ((hFA (6 + k : Int).toNat (by omega)).rps hv4 rfl) hFI (by omega)).wx hXG32 hfG32 (by show ¬ _; omega)) hXG164 hfG164 (fun p hp hn => by show ¬ _; omega)
                  show WP kX2_linkBoth X 252 [some (2, ((327682 : Nat) : Int)), some (0, k), some (2, ((A : Nat) : Int)), some (2, ((B : Nat) : Int)), some (2, ((f : Nat) : Int)), some (0, rr12), some (0, rr33), some (2, ((B : Nat) : Int)), some (2, ((A : Nat) : Int))] [] G164
                  refine s_aload dX2_linkBoth_252 rfl (Int.natCast_nonneg _) ?_
                  refine s_iload_n dX2_linkBoth_254 rfl ?_
                  refine s_aload dX2_linkBoth_255 rfl (Int.natCast_nonneg _) ?_
                  refine s_iload_n dX2_linkBoth_257 rfl ?_
                  have hk169 : gK G164 (f) = (9, 0) := ((hXG164).k hk166 (by decide))
                  refine s_callV (as := [(0, k), (2, ((B : Nat) : Int)), (0, k)]) (rest := []) (n := f) (ci := 1) gX0_putNumberOf dX2_linkBoth_258 m_1321 m_745 m_1478 m_711 m_72 ⟨by decide, by decide, show (parseMethodDescriptor yX0_putNumberOf.desc).map (fun d => d.parameters.length) = some 3 from by decide +kernel⟩ (Nat.le_of_ble_eq_true rfl) (by rw [hcf]; exact Nat.le_of_ble_eq_true rfl) hk169 rfl rfl (Nat.le_of_ble_eq_true rfl) ⟨f, k, B, k, a, b, rfl, hCG164, hab, (by first | assumption | omega), (by first | assumption | omega), (by first | assumption | omega), (by first | assumption | omega), fun G167 hCG167 hXG167 hfG167 hpG167 => ?_⟩
                  have hFG167 : WX (fun x => x = 327691 ∨ x = 327692 ∨ (f + 1 ≤ x ∧ x ≤ f + 22)) G G167 := WX.trans hFG164 (KX.trans (KX.trans hXG11 hXG32) hXG164) (WX.mono hfG167 rg12)
                  have hFIG167 : ∀ k : Nat, k < 6 → FIP P G167 262144 k := fun k hk => FIP.ns (hFIG164 k hk) hXG167 hfG167 hk (KX.al (KX.trans (KX.trans hXG11 hXG32) hXG164) (kne k262149 (by decide))) rg13 rg14
                  have hFAG167 : FPa P G167 A := (hFAG164).ns hXG167 hfG167 ⟨KX.al (KX.trans (KX.trans hXG11 hXG32) hXG164) (kne kA3 (by decide)), KX.al (KX.trans (KX.trans hXG11 hXG32) hXG164) (kne kA4 (by decide))⟩ rg15
                  have hFBG167 : FPa P G167 B := (hFBG164).ns hXG167 hfG167 ⟨KX.al (KX.trans (KX.trans hXG11 hXG32) hXG164) (kne kB3 (by decide)), KX.al (KX.trans (KX.trans hXG11 hXG32) hXG164) (kne kB4 (by decide))⟩ rg16
                  have hFfG167 : FPa P G167 f := (hFfG164).ns hXG167 hfG167 ⟨KX.al (KX.trans (KX.trans hXG11 hXG32) hXG164) (kne kf3 (by decide)), KX.al (KX.trans (KX.trans hXG11 hXG32) hXG164) (kne kf4 (by decide))⟩ rg17
                  show WP kX2_linkBoth X 261 [some (2, ((327682 : Nat) : Int)), some (0, k), some (2, ((A : Nat) : Int)), some (2, ((B : Nat) : Int)), some (2, ((f : Nat) : Int)), some (0, rr12), some (0, rr33), some (2, ((B : Nat) : Int)), some (2, ((A : Nat) : Int))] [] G167
                  refine s_iconst dX2_linkBoth_261 (by decide) ?_
                  exact s_iret hR dX2_linkBoth_262 rfl (hQ 0 G167 hCG167 (KX.trans (KX.trans (KX.trans hXG11 hXG32) hXG164) hXG167) hFG167 hFfG167)
                · -- 223 to 226
                  refine s_bipush dX2_linkBoth_226 rfl (by decide) ?_
                  refine s_iload_n dX2_linkBoth_228 rfl ?_
                  refine s_callSN (own := RX2) rfl (by decide +kernel) (as := [(0, 6), (0, k)]) (rest := []) gX11_valueMistake dX2_linkBoth_229 m_1784 m_714 m_129 ⟨by decide, by decide, show (parseMethodDescriptor yX11_valueMistake.desc).map (fun d => d.parameters.length) = some 2 from by decide +kernel⟩ (Nat.le_of_ble_eq_true rfl) (by rw [hcf]; exact Nat.le_of_ble_eq_true rfl) rfl (Nat.le_of_ble_eq_true rfl) ⟨6, k, rfl, (by first | assumption | omega), (by first | assumption | omega), fun rr170 hp171 => ?_⟩
                  show WP kX2_linkBoth X 232 [some (2, ((327682 : Nat) : Int)), some (0, k), some (2, ((A : Nat) : Int)), some (2, ((B : Nat) : Int)), some (2, ((f : Nat) : Int)), some (0, rr12), some (0, rr33), some (2, ((B : Nat) : Int)), some (2, ((A : Nat) : Int))] [(0, rr170)] G32
                  exact s_iret hR dX2_linkBoth_232 rfl (hQ rr170 G32 hCG32 (KX.trans hXG11 hXG32) hFG32 hFfG32)
        refine s_aload_n dX2_linkBoth_131 rfl (Int.natCast_nonneg _) ?_
        refine s_iload_n dX2_linkBoth_132 rfl ?_
        have hk174 : gK G32 (A) = (9, 0) := ((hXG32).k ((hXG11).k kA0 (by decide)) (by decide))
        refine s_callV (as := [(0, k)]) (rest := []) (n := A) (ci := 1) gX0_isValueHole dX2_linkBoth_133 m_1322 m_743 m_1476 m_711 m_70 ⟨by decide, by decide, show (parseMethodDescriptor yX0_isValueHole.desc).map (fun d => d.parameters.length) = some 1 from by decide +kernel⟩ (Nat.le_of_ble_eq_true rfl) (by rw [hcf]; exact Nat.le_of_ble_eq_true rfl) hk174 rfl rfl (Nat.le_of_ble_eq_true rfl) ⟨A, k, a, b, rfl, hCG32, hab, (by first | assumption | omega), (by first | assumption | omega), fun rr172 hp173 => ?_⟩
        show WP kX2_linkBoth X 136 [some (2, ((327682 : Nat) : Int)), some (0, k), some (2, ((A : Nat) : Int)), some (2, ((B : Nat) : Int)), some (2, ((f : Nat) : Int)), some (0, rr12), some (0, rr33), none, none] [(0, rr172)] G32
        refine s_if_eq (tgt := 178) dX2_linkBoth_136 (by decide) (fun c175 => ?_) (fun c175 => ?_)
        · -- 136 to 178
          exact K46  (trivial)
        · -- 136 to 139
          refine s_aload_n dX2_linkBoth_139 rfl (Int.natCast_nonneg _) ?_
          refine s_iload_n dX2_linkBoth_140 rfl ?_
          have hk178 : gK G32 (B) = (9, 0) := ((hXG32).k hk16 (by decide))
          refine s_callV (as := [(0, k)]) (rest := []) (n := B) (ci := 1) gX0_isValueHole dX2_linkBoth_141 m_1322 m_743 m_1476 m_711 m_70 ⟨by decide, by decide, show (parseMethodDescriptor yX0_isValueHole.desc).map (fun d => d.parameters.length) = some 1 from by decide +kernel⟩ (Nat.le_of_ble_eq_true rfl) (by rw [hcf]; exact Nat.le_of_ble_eq_true rfl) hk178 rfl rfl (Nat.le_of_ble_eq_true rfl) ⟨B, k, a, b, rfl, hCG32, hab, (by first | assumption | omega), (by first | assumption | omega), fun rr176 hp177 => ?_⟩
          show WP kX2_linkBoth X 144 [some (2, ((327682 : Nat) : Int)), some (0, k), some (2, ((A : Nat) : Int)), some (2, ((B : Nat) : Int)), some (2, ((f : Nat) : Int)), some (0, rr12), some (0, rr33), none, none] [(0, rr176)] G32
          refine s_if_eq (tgt := 178) dX2_linkBoth_144 (by decide) (fun c179 => ?_) (fun c179 => ?_)
          · -- 144 to 178
            exact K46  (trivial)
          · -- 144 to 147
            refine s_aload dX2_linkBoth_147 rfl (Int.natCast_nonneg _) ?_
            refine s_iload_n dX2_linkBoth_149 rfl ?_
            refine s_iconst dX2_linkBoth_150 (by decide) ?_
            refine s_aload_n dX2_linkBoth_151 rfl (Int.natCast_nonneg _) ?_
            refine s_alv (A) (by simp) (fun al180 => ?_)
            have hv181 : gS G32 A 2 = ((A + 2 : Nat) : Int) := by have h9 : (gS G32 A 2) = (((A % 1048576) + 2 : Nat) : Int) := hCG32.1.v (j := 2) (by rw [cde_n (by omega) (by omega)]; omega : cde A = 101) al180 (by rw [hk174]; exact Nat.le_of_ble_eq_true rfl); omega
            refine s_getf (ci := 1) (k := 2) (C := RX0) (T := TX0) (N := 7) (n := A) (L := 0) (t := 2) dX2_linkBoth_152 rfl wi_65 m_576 (Nat.le_of_ble_eq_true rfl) rfl rfl hk174 hv181 ?_
            refine s_iload_n dX2_linkBoth_155 rfl ?_
            have hk182 : gK G32 (A + 2) = (1, 10) := ((hXG32).k ((hXG11).k kA2 (by decide)) (by decide))
            refine s_iald dX2_linkBoth_156 hk182 (by omega) (by omega) rfl ?_
            refine s_aload_n dX2_linkBoth_157 rfl (Int.natCast_nonneg _) ?_
            refine s_alv (B) (by simp) (fun al183 => ?_)
            have hv184 : gS G32 B 2 = ((B + 2 : Nat) : Int) := by have h9 : (gS G32 B 2) = (((B % 1048576) + 2 : Nat) : Int) := hCG32.1.v (j := 2) (by rw [cde_n (by omega) (by omega)]; omega : cde B = 101) al183 (by rw [hk178]; exact Nat.le_of_ble_eq_true rfl); omega
            refine s_getf (ci := 1) (k := 2) (C := RX0) (T := TX0) (N := 7) (n := B) (L := 0) (t := 2) dX2_linkBoth_158 rfl wi_65 m_576 (Nat.le_of_ble_eq_true rfl) rfl rfl hk178 hv184 ?_
            refine s_iload_n dX2_linkBoth_161 rfl ?_
            have hk185 : gK G32 (B + 2) = (1, 10) := ((hXG32).k ((hXG11).k kB2 (by decide)) (by decide))
            refine s_iald dX2_linkBoth_162 hk185 (by omega) (by omega) rfl ?_
            refine s_iand dX2_linkBoth_163 ?_
            refine s_iconst dX2_linkBoth_164 (by decide) ?_
            refine s_iand dX2_linkBoth_165 ?_
            refine s_ior dX2_linkBoth_166 ?_
            refine s_aload_n dX2_linkBoth_167 rfl (Int.natCast_nonneg _) ?_
            have hv186 : gS G32 327682 6 = ((327691 : Nat) : Int) := by have h9 : (gS G32 327682 6) = 327691 := hCG32.1.v (j := 6) (by decide : cde 327682 = 502) al38 (by rw [hk37]; exact Nat.le_of_ble_eq_true rfl); omega
            refine s_getf (ci := 3) (k := 6) (C := RX2) (T := TX2) (N := 8) (n := 327682) (L := 0) (t := 2) dX2_linkBoth_168 rfl wi_70 m_582 (Nat.le_of_ble_eq_true rfl) rfl rfl hk37 hv186 ?_
            refine s_iload dX2_linkBoth_171 rfl ?_
            have hk189 : gK G32 (f) = (9, 0) := ((hXG32).k ((hXG11).k kf0 (by decide)) (by decide))
            refine s_callV (as := [(0, k), (0, i_or 1 (i_and (i_and (gS G32 (A + 2) ((k : Int).toNat)) (gS G32 (B + 2) ((k : Int).toNat))) 4)), (2, ((327691 : Nat) : Int)), (0, rr12)]) (rest := []) (n := f) (ci := 1) gX0_putValue dX2_linkBoth_173 m_1320 m_750 m_1483 m_711 m_77 ⟨by decide, by decide, show (parseMethodDescriptor yX0_putValue.desc).map (fun d => d.parameters.length) = some 4 from by decide +kernel⟩ (Nat.le_of_ble_eq_true rfl) (by rw [hcf]; exact Nat.le_of_ble_eq_true rfl) hk189 rfl rfl (Nat.le_of_ble_eq_true rfl) ⟨f, k, i_or 1 (i_and (i_and (gS G32 (A + 2) ((k : Int).toNat)) (gS G32 (B + 2) ((k : Int).toNat))) 4), 327691, 200, rr12, a, b, rfl, hCG32, hab, (by first | assumption | omega), (by first | assumption | omega), hk41, (by first | assumption | omega), (by first | assumption | omega), (by first | assumption | omega), fun G187 hCG187 hXG187 hfG187 hpG187 => ?_⟩
            have hFG187 : WX (fun x => x = 327691 ∨ x = 327692 ∨ (f + 1 ≤ x ∧ x ≤ f + 22)) G G187 := WX.trans hFG32 (KX.trans hXG11 hXG32) (WX.mono hfG187 (fun x hx => by omega))
            have hFIG187 : ∀ k : Nat, k < 6 → FIP P G187 262144 k := fun k hk => FIP.ns (hFIG32 k hk) hXG187 hfG187 hk (KX.al (KX.trans hXG11 hXG32) (kne k262149 (by decide))) (fun k hk => by show ¬ _; omega) (by show ¬ _; omega)
            have hFAG187 : FPa P G187 A := (hFAG32).ns hXG187 hfG187 ⟨KX.al (KX.trans hXG11 hXG32) (kne kA3 (by decide)), KX.al (KX.trans hXG11 hXG32) (kne kA4 (by decide))⟩ ⟨by show ¬ _; omega, by show ¬ _; omega, fun p hp => by show ¬ _; omega⟩
            have hFBG187 : FPa P G187 B := (hFBG32).ns hXG187 hfG187 ⟨KX.al (KX.trans hXG11 hXG32) (kne kB3 (by decide)), KX.al (KX.trans hXG11 hXG32) (kne kB4 (by decide))⟩ ⟨by show ¬ _; omega, by show ¬ _; omega, fun p hp => by show ¬ _; omega⟩
            have hFfG187 : FPa P G187 f := FPa.put hpG187.1 hFfG32 (fun _ _ => (hpG11.2 P ((hFA (6 + k : Int).toNat (by omega)).rps hv4 rfl) hFI (by omega)).wx hXG32 hfG32 (by show ¬ _; omega)) hXG187 hfG187 (fun p hp hn => by show ¬ _; omega)
            show WP kX2_linkBoth X 176 [some (2, ((327682 : Nat) : Int)), some (0, k), some (2, ((A : Nat) : Int)), some (2, ((B : Nat) : Int)), some (2, ((f : Nat) : Int)), some (0, rr12), some (0, rr33), none, none] [] G187
            refine s_iconst dX2_linkBoth_176 (by decide) ?_
            exact s_iret hR dX2_linkBoth_177 rfl (hQ 0 G187 hCG187 (KX.trans (KX.trans hXG11 hXG32) hXG187) hFG187 hFfG187)
      · -- 122 to 125
        refine s_iconst dX2_linkBoth_125 (by decide) ?_
        refine s_iload_n dX2_linkBoth_126 rfl ?_
        refine s_callSN (own := RX2) rfl (by decide +kernel) (as := [(0, 2), (0, k)]) (rest := []) gX11_valueMistake dX2_linkBoth_127 m_1784 m_714 m_129 ⟨by decide, by decide, show (parseMethodDescriptor yX11_valueMistake.desc).map (fun d => d.parameters.length) = some 2 from by decide +kernel⟩ (Nat.le_of_ble_eq_true rfl) (by rw [hcf]; exact Nat.le_of_ble_eq_true rfl) rfl (Nat.le_of_ble_eq_true rfl) ⟨2, k, rfl, (by first | assumption | omega), (by first | assumption | omega), fun rr190 hp191 => ?_⟩
        show WP kX2_linkBoth X 130 [some (2, ((327682 : Nat) : Int)), some (0, k), some (2, ((A : Nat) : Int)), some (2, ((B : Nat) : Int)), some (2, ((f : Nat) : Int)), some (0, rr12), some (0, rr33), none, none] [(0, rr190)] G32
        exact s_iret hR dX2_linkBoth_130 rfl (hQ rr190 G32 hCG32 (KX.trans hXG11 hXG32) hFG32 hFfG32)
    refine s_aload_n dX2_linkBoth_85 rfl (Int.natCast_nonneg _) ?_
    refine s_iload_n dX2_linkBoth_86 rfl ?_
    have hk194 : gK G32 (A) = (9, 0) := ((hXG32).k ((hXG11).k kA0 (by decide)) (by decide))
    refine s_callV (as := [(0, k)]) (rest := []) (n := A) (ci := 1) gX0_isValueHole dX2_linkBoth_87 m_1322 m_743 m_1476 m_711 m_70 ⟨by decide, by decide, show (parseMethodDescriptor yX0_isValueHole.desc).map (fun d => d.parameters.length) = some 1 from by decide +kernel⟩ (Nat.le_of_ble_eq_true rfl) (by rw [hcf]; exact Nat.le_of_ble_eq_true rfl) hk194 rfl rfl (Nat.le_of_ble_eq_true rfl) ⟨A, k, a, b, rfl, hCG32, hab, (by first | assumption | omega), (by first | assumption | omega), fun rr192 hp193 => ?_⟩
    show WP kX2_linkBoth X 90 [some (2, ((327682 : Nat) : Int)), some (0, k), some (2, ((A : Nat) : Int)), some (2, ((B : Nat) : Int)), some (2, ((f : Nat) : Int)), some (0, rr12), some (0, rr33), none, none] [(0, rr192)] G32
    refine s_if_ne (tgt := 107) dX2_linkBoth_90 (by decide) (fun c195 => ?_) (fun c195 => ?_)
    · -- 90 to 107
      exact K36  (trivial)
    · -- 90 to 93
      refine s_aload_n dX2_linkBoth_93 rfl (Int.natCast_nonneg _) ?_
      refine s_iload_n dX2_linkBoth_94 rfl ?_
      have hk198 : gK G32 (B) = (9, 0) := ((hXG32).k hk16 (by decide))
      refine s_callV (as := [(0, k)]) (rest := []) (n := B) (ci := 1) gX0_isValueHole dX2_linkBoth_95 m_1322 m_743 m_1476 m_711 m_70 ⟨by decide, by decide, show (parseMethodDescriptor yX0_isValueHole.desc).map (fun d => d.parameters.length) = some 1 from by decide +kernel⟩ (Nat.le_of_ble_eq_true rfl) (by rw [hcf]; exact Nat.le_of_ble_eq_true rfl) hk198 rfl rfl (Nat.le_of_ble_eq_true rfl) ⟨B, k, a, b, rfl, hCG32, hab, (by first | assumption | omega), (by first | assumption | omega), fun rr196 hp197 => ?_⟩
      show WP kX2_linkBoth X 98 [some (2, ((327682 : Nat) : Int)), some (0, k), some (2, ((A : Nat) : Int)), some (2, ((B : Nat) : Int)), some (2, ((f : Nat) : Int)), some (0, rr12), some (0, rr33), none, none] [(0, rr196)] G32
      refine s_if_ne (tgt := 107) dX2_linkBoth_98 (by decide) (fun c199 => ?_) (fun c199 => ?_)
      · -- 98 to 107
        exact K36  (trivial)
      · -- 98 to 101
        refine s_iconst dX2_linkBoth_101 (by decide) ?_
        refine s_iload_n dX2_linkBoth_102 rfl ?_
        refine s_callSN (own := RX2) rfl (by decide +kernel) (as := [(0, 4), (0, k)]) (rest := []) gX11_valueMistake dX2_linkBoth_103 m_1784 m_714 m_129 ⟨by decide, by decide, show (parseMethodDescriptor yX11_valueMistake.desc).map (fun d => d.parameters.length) = some 2 from by decide +kernel⟩ (Nat.le_of_ble_eq_true rfl) (by rw [hcf]; exact Nat.le_of_ble_eq_true rfl) rfl (Nat.le_of_ble_eq_true rfl) ⟨4, k, rfl, (by first | assumption | omega), (by first | assumption | omega), fun rr200 hp201 => ?_⟩
        show WP kX2_linkBoth X 106 [some (2, ((327682 : Nat) : Int)), some (0, k), some (2, ((A : Nat) : Int)), some (2, ((B : Nat) : Int)), some (2, ((f : Nat) : Int)), some (0, rr12), some (0, rr33), none, none] [(0, rr200)] G32
        exact s_iret hR dX2_linkBoth_106 rfl (hQ rr200 G32 hCG32 (KX.trans hXG11 hXG32) hFG32 hFfG32)
  refine s_iload dX2_linkBoth_62 rfl ?_
  refine s_sipush dX2_linkBoth_64 rfl (by decide) ?_
  refine s_icmp_gt (tgt := 78) dX2_linkBoth_67 (by decide) (fun c202 => ?_) (fun c202 => ?_)
  · -- 67 to 78
    refine s_bipush dX2_linkBoth_78 rfl (by decide) ?_
    refine s_iload_n dX2_linkBoth_80 rfl ?_
    refine s_callSN (own := RX2) rfl (by decide +kernel) (as := [(0, 7), (0, k)]) (rest := []) gX11_valueMistake dX2_linkBoth_81 m_1784 m_714 m_129 ⟨by decide, by decide, show (parseMethodDescriptor yX11_valueMistake.desc).map (fun d => d.parameters.length) = some 2 from by decide +kernel⟩ (Nat.le_of_ble_eq_true rfl) (by rw [hcf]; exact Nat.le_of_ble_eq_true rfl) rfl (Nat.le_of_ble_eq_true rfl) ⟨7, k, rfl, (by first | assumption | omega), (by first | assumption | omega), fun rr203 hp204 => ?_⟩
    show WP kX2_linkBoth X 84 [some (2, ((327682 : Nat) : Int)), some (0, k), some (2, ((A : Nat) : Int)), some (2, ((B : Nat) : Int)), some (2, ((f : Nat) : Int)), some (0, rr12), some (0, rr33), none, none] [(0, rr203)] G32
    exact s_iret hR dX2_linkBoth_84 rfl (hQ rr203 G32 hCG32 (KX.trans hXG11 hXG32) hFG32 hFfG32)
  · -- 67 to 70
    refine s_iload dX2_linkBoth_70 rfl ?_
    refine s_sipush dX2_linkBoth_72 rfl (by decide) ?_
    refine s_icmp_le (tgt := 85) dX2_linkBoth_75 (by decide) (fun c205 => ?_) (fun c205 => ?_)
    · -- 75 to 85
      exact K35  (trivial)
    · -- 75 to 78
      refine s_bipush dX2_linkBoth_78 rfl (by decide) ?_
      refine s_iload_n dX2_linkBoth_80 rfl ?_
      refine s_callSN (own := RX2) rfl (by decide +kernel) (as := [(0, 7), (0, k)]) (rest := []) gX11_valueMistake dX2_linkBoth_81 m_1784 m_714 m_129 ⟨by decide, by decide, show (parseMethodDescriptor yX11_valueMistake.desc).map (fun d => d.parameters.length) = some 2 from by decide +kernel⟩ (Nat.le_of_ble_eq_true rfl) (by rw [hcf]; exact Nat.le_of_ble_eq_true rfl) rfl (Nat.le_of_ble_eq_true rfl) ⟨7, k, rfl, (by first | assumption | omega), (by first | assumption | omega), fun rr206 hp207 => ?_⟩
      show WP kX2_linkBoth X 84 [some (2, ((327682 : Nat) : Int)), some (0, k), some (2, ((A : Nat) : Int)), some (2, ((B : Nat) : Int)), some (2, ((f : Nat) : Int)), some (0, rr12), some (0, rr33), none, none] [(0, rr206)] G32
      exact s_iret hR dX2_linkBoth_84 rfl (hQ rr206 G32 hCG32 (KX.trans hXG11 hXG32) hFG32 hFfG32)
