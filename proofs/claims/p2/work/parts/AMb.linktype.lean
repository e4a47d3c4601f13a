abbrev kX2_linkType : KD := (RX2, cX2_linkType, 6, (some .int), [])
def TX2_linkType : TR := fun as G Qr => ∃ (P : Int → Prop) (k : Int) (A B f : Nat) (a b : Nat), as = [(2, ((327682 : Nat) : Int)), (0, k), (2, ((A : Nat) : Int)), (2, ((B : Nat) : Int)), (2, ((f : Nat) : Int))] ∧ CI a b G ∧ (a ≤ 2840000 ∧ b ≤ 590000) ∧ (0 ≤ k ∧ k < 6) ∧ (isFc A) ∧ (isFc B) ∧ (isFc f) ∧ (A ≠ f ∧ B ≠ f) ∧ (∀ k : Nat, k < 6 → FIP P G 262144 k) ∧ (FPa P G f) ∧ (∀ k : Nat, k < 6 → gS G 262149 k ≤ 200) ∧ ∀ (r : Int) (G' : LG), CI a b G' → KX G G' → WX (fun x => x = 327691 ∨ (f + 1 ≤ x ∧ x ≤ f + 22)) G G' → (FPa P G' f) → Qr (.inl (some (0, r))) G'
set_option maxHeartbeats 4000000 in
set_option maxRecDepth 100000 in
theorem gX2_linkType : Good kX2_linkType yX2_linkType 3 TX2_linkType := by
  refine good_of (by decide) rfl rfl (fun as G Qr h => ?_) (fun X as G Qr hcf hR hT oa => ?_)
  · obtain ⟨P, k, A, B, f, a, b, rfl, -⟩ := h; exact Nat.le_of_ble_eq_true rfl
  obtain ⟨P, k, A, B, f, a, b, rfl, hC, hab, hk, hA, hB, hf, hne, hFI, hFf, hSZ, hQ⟩ := hT
  show WP kX2_linkType X 0 [some (2, ((327682 : Nat) : Int)), some (0, k), some (2, ((A : Nat) : Int)), some (2, ((B : Nat) : Int)), some (2, ((f : Nat) : Int)), none] [] G
  have hr_k : inR k := okv_R (oa _ (by simp))
  have rg0 : RM (fun x => x = 327691) (fun x => x = 327691 ∨ (f + 1 ≤ x ∧ x ≤ f + 22)) := fun x hx => by (try dsimp only at hx ⊢); omega
  have rg1 : RNk (fun x => x = 327691) (262144 + 16) 6 := fun k hk => by show ¬ _; omega
  have rg2 : RNx (fun x => x = 327691) ((262144 + 5) % 1048576) := by show ¬ _; omega
  have rg3 : RNf (fun x => x = 327691) f := ⟨by show ¬ _; omega, by show ¬ _; omega, fun p hp => by show ¬ _; omega⟩
  have rg4 : RM (fun x => x = f + 1) (fun x => x = 327691 ∨ (f + 1 ≤ x ∧ x ≤ f + 22)) := fun x hx => by (try dsimp only at hx ⊢); omega
  have rg5 : RNk (fun x => x = f + 1) (262144 + 16) 6 := fun k hk => by show ¬ _; omega
  have rg6 : RNx (fun x => x = f + 1) ((262144 + 5) % 1048576) := by show ¬ _; omega
  have rg7 : RNf (fun x => x = f + 1) f := ⟨by show ¬ _; omega, by show ¬ _; omega, fun p hp => by show ¬ _; omega⟩
  refine s_alvl 327682 (k := 0) rfl (fun alZ => ?_)
  refine s_alvl A (k := 2) rfl (fun alA => ?_)
  refine s_alvl B (k := 3) rfl (fun alB => ?_)
  refine s_alvl f (k := 4) rfl (fun alf => ?_)
  refine s_lk (fun hlk => ?_)
  have hfn := hlk.fna hC alZ
  obtain ⟨k327682, k327681, k327683, k262144, k262208, k327684, k68097, k327691, k327692, k262145, k262146, k262148, k262149, k262209, k262210, k262212, k262213, k327710, k327685, k327688⟩ := id hfn
  have hfA := hlk.fc hC hA alA
  obtain ⟨kA0, kA1, kA2, kA3, kA4, kA5, kA6⟩ := hfA.1
  have hfB := hlk.fc hC hB alB
  obtain ⟨kB0, kB1, kB2, kB3, kB4, kB5, kB6⟩ := hfB.1
  have hff := hlk.fc hC hf alf
  obtain ⟨kf0, kf1, kf2, kf3, kf4, kf5, kf6⟩ := hff.1
  refine s_aload_n dX2_linkType_0 rfl (Int.natCast_nonneg _) ?_
  have hv1 : gS G 327682 2 = ((262144 : Nat) : Int) := by have h9 : (gS G 327682 2) = 262144 := hC.1.v (j := 2) (by decide : cde 327682 = 502) (kne k327682 (by decide)) (by rw [k327682]; exact Nat.le_of_ble_eq_true rfl); omega
  refine s_getf (ci := 3) (k := 2) (C := RX2) (T := TX2) (N := 8) (n := 327682) (L := 0) (t := 2) dX2_linkType_1 rfl wi_70 m_577 (Nat.le_of_ble_eq_true rfl) rfl rfl k327682 hv1 ?_
  have hv2 : gS G 262144 4 = ((262149 : Nat) : Int) := by have h9 : (gS G 262144 4) = (((262144 % 1048576) + 5 : Nat) : Int) := hC.1.v (j := 4) (by decide : cde 262144 = 400) (kne k262144 (by decide)) (by rw [k262144]; exact Nat.le_of_ble_eq_true rfl); omega
  refine s_getf (ci := 2) (k := 4) (C := RX1) (T := TX1) (N := 5) (n := 262144) (L := 0) (t := 2) dX2_linkType_4 rfl wi_66 m_578 (Nat.le_of_ble_eq_true rfl) rfl rfl k262144 hv2 ?_
  refine s_iload_n dX2_linkType_7 rfl ?_
  have hv3 : 0 ≤ (gS G 262149 (k : Int).toNat) ∧ (gS G 262149 (k : Int).toNat) ≤ 201 := hC.1.v (j := (k : Int).toNat) (by decide : cde 262149 = 405) (kne k262149 (by decide)) (by rw [k262149]; show (k : Int).toNat < 6; omega)
  refine s_iald dX2_linkType_8 k262149 (by omega) (by omega) rfl ?_
  have K4 : ∀ (G4 : LG), CI a b G4 → KX G G4 → WX (fun x => x = 327691 ∨ (f + 1 ≤ x ∧ x ≤ f + 22)) G G4 → ((∀ k : Nat, k < 6 → FIP P G4 262144 k) ∧ (FPa P G4 f) ∧ (∀ k : Nat, k < 6 → gS G4 262149 k ≤ 200)) → WP kX2_linkType X 61 [some (2, ((327682 : Nat) : Int)), some (0, k), some (2, ((A : Nat) : Int)), some (2, ((B : Nat) : Int)), some (2, ((f : Nat) : Int)), none] [] G4 := by
    intro G4 hCG4 hXG4 hFG4 hi4
    obtain ⟨hFIG4, hFfG4, hSZG4⟩ := hi4
    refine s_aload_n dX2_linkType_61 rfl (Int.natCast_nonneg _) ?_
    have hk5 : gK G4 (A) = (9, 0) := ((hXG4).k kA0 (by decide))
    refine s_alv (A) (by simp) (fun al6 => ?_)
    have hv7 : gS G4 A 1 = ((A + 1 : Nat) : Int) := by have h9 : (gS G4 A 1) = (((A % 1048576) + 1 : Nat) : Int) := hCG4.1.v (j := 1) (by rw [cde_n (by omega) (by omega)]; omega : cde A = 101) al6 (by rw [hk5]; exact Nat.le_of_ble_eq_true rfl); omega
    refine s_getf (ci := 1) (k := 1) (C := RX0) (T := TX0) (N := 7) (n := A) (L := 0) (t := 2) dX2_linkType_62 rfl wi_65 m_573 (Nat.le_of_ble_eq_true rfl) rfl rfl hk5 hv7 ?_
    refine s_iload_n dX2_linkType_65 rfl ?_
    have hk8 : gK G4 (A + 1) = (1, 6) := ((hXG4).k kA1 (by decide))
    refine s_iald dX2_linkType_66 hk8 (by omega) (by omega) rfl ?_
    refine s_iconst dX2_linkType_67 (by decide) ?_
    refine s_icmp_ne (tgt := 81) dX2_linkType_68 (by decide) (fun c9 => ?_) (fun c9 => ?_)
    · -- 68 to 81
      refine s_iconst dX2_linkType_81 (by decide) ?_
      exact s_iret hR dX2_linkType_82 rfl (hQ 0 G4 hCG4 hXG4 hFG4 hFfG4)
    · -- 68 to 71
      refine s_aload_n dX2_linkType_71 rfl (Int.natCast_nonneg _) ?_
      have hk10 : gK G4 (B) = (9, 0) := ((hXG4).k kB0 (by decide))
      refine s_alv (B) (by simp) (fun al11 => ?_)
      have hv12 : gS G4 B 1 = ((B + 1 : Nat) : Int) := by have h9 : (gS G4 B 1) = (((B % 1048576) + 1 : Nat) : Int) := hCG4.1.v (j := 1) (by rw [cde_n (by omega) (by omega)]; omega : cde B = 101) al11 (by rw [hk10]; exact Nat.le_of_ble_eq_true rfl); omega
      refine s_getf (ci := 1) (k := 1) (C := RX0) (T := TX0) (N := 7) (n := B) (L := 0) (t := 2) dX2_linkType_72 rfl wi_65 m_573 (Nat.le_of_ble_eq_true rfl) rfl rfl hk10 hv12 ?_
      refine s_iload_n dX2_linkType_75 rfl ?_
      have hk13 : gK G4 (B + 1) = (1, 6) := ((hXG4).k kB1 (by decide))
      refine s_iald dX2_linkType_76 hk13 (by omega) (by omega) rfl ?_
      refine s_iconst dX2_linkType_77 (by decide) ?_
      refine s_icmp_eq (tgt := 83) dX2_linkType_78 (by decide) (fun c14 => ?_) (fun c14 => ?_)
      · -- 78 to 83
        refine s_aload_n dX2_linkType_83 rfl (Int.natCast_nonneg _) ?_
        have hk15 : gK G4 (327682) = (11, 0) := ((hXG4).k k327682 (by decide))
        refine s_alv (327682) (by simp) (fun al16 => ?_)
        have hv17 : gS G4 327682 2 = ((262144 : Nat) : Int) := by have h9 : (gS G4 327682 2) = 262144 := hCG4.1.v (j := 2) (by decide : cde 327682 = 502) al16 (by rw [hk15]; exact Nat.le_of_ble_eq_true rfl); omega
        refine s_getf (ci := 3) (k := 2) (C := RX2) (T := TX2) (N := 8) (n := 327682) (L := 0) (t := 2) dX2_linkType_84 rfl wi_70 m_577 (Nat.le_of_ble_eq_true rfl) rfl rfl hk15 hv17 ?_
        refine s_aload_n dX2_linkType_87 rfl (Int.natCast_nonneg _) ?_
        have hv18 : gS G4 B 3 = ((B + 3 : Nat) : Int) := by have h9 : (gS G4 B 3) = (((B % 1048576) + 3 : Nat) : Int) := hCG4.1.v (j := 3) (by rw [cde_n (by omega) (by omega)]; omega : cde B = 101) al11 (by rw [hk10]; exact Nat.le_of_ble_eq_true rfl); omega
        refine s_getf (ci := 1) (k := 3) (C := RX0) (T := TX0) (N := 7) (n := B) (L := 0) (t := 2) dX2_linkType_88 rfl wi_65 m_574 (Nat.le_of_ble_eq_true rfl) rfl rfl hk10 hv18 ?_
        refine s_iload_n dX2_linkType_91 rfl ?_
        have hk19 : gK G4 (B + 3) = (4, 16) := ((hXG4).k kB3 (by decide))
        refine s_alv (B + 3) (by simp) (fun al20 => ?_)
        have hv22b : 0 ≤ (gS G4 (B + 3) (k : Int).toNat) ∧ (gS G4 (B + 3) (k : Int).toNat) % 1048576 = ((((B + 3) % 1048576) + 4 + ((k : Int).toNat) : Nat) : Int) := hCG4.1.v (j := (k : Int).toNat) (by rw [cde_n (by omega) (by omega)]; omega : cde (B + 3) = 104) al20 (by rw [hk19]; show (k : Int).toNat < 16; omega)
        obtain ⟨q21, hv22⟩ : ∃ q : Nat, gS G4 (B + 3) (k : Int).toNat = (q : Int) := ⟨(gS G4 (B + 3) (k : Int).toNat).toNat, by omega⟩
        rw [hv22] at hv22b
        refine s_aald4 dX2_linkType_92 hk19 (by omega) (by omega) hv22 ?_
        refine s_aload_n dX2_linkType_93 rfl (Int.natCast_nonneg _) ?_
        have hv23 : gS G4 B 4 = ((B + 4 : Nat) : Int) := by have h9 : (gS G4 B 4) = (((B % 1048576) + 4 : Nat) : Int) := hCG4.1.v (j := 4) (by rw [cde_n (by omega) (by omega)]; omega : cde B = 101) al11 (by rw [hk10]; exact Nat.le_of_ble_eq_true rfl); omega
        refine s_getf (ci := 1) (k := 4) (C := RX0) (T := TX0) (N := 7) (n := B) (L := 0) (t := 2) dX2_linkType_94 rfl wi_65 m_575 (Nat.le_of_ble_eq_true rfl) rfl rfl hk10 hv23 ?_
        refine s_iload_n dX2_linkType_97 rfl ?_
        have hk24 : gK G4 (B + 4) = (1, 16) := ((hXG4).k kB4 (by decide))
        refine s_alv (B + 4) (by simp) (fun al25 => ?_)
        have hv26 : 0 ≤ (gS G4 (B + 4) (k : Int).toNat) ∧ (gS G4 (B + 4) (k : Int).toNat) ≤ 200 := hCG4.1.v (j := (k : Int).toNat) (by rw [cde_n (by omega) (by omega)]; omega : cde (B + 4) = 105) al25 (by rw [hk24]; show (k : Int).toNat < 16; omega)
        refine s_iald dX2_linkType_98 hk24 (by omega) (by omega) rfl ?_
        refine s_aload_n dX2_linkType_99 rfl (Int.natCast_nonneg _) ?_
        have hv27 : gS G4 327682 6 = ((327691 : Nat) : Int) := by have h9 : (gS G4 327682 6) = 327691 := hCG4.1.v (j := 6) (by decide : cde 327682 = 502) al16 (by rw [hk15]; exact Nat.le_of_ble_eq_true rfl); omega
        refine s_getf (ci := 3) (k := 6) (C := RX2) (T := TX2) (N := 8) (n := 327682) (L := 0) (t := 2) dX2_linkType_100 rfl wi_70 m_582 (Nat.le_of_ble_eq_true rfl) rfl rfl hk15 hv27 ?_
        refine s_alv (q21) (by simp) (fun al28 => ?_)
        obtain ⟨L30, hk29, hL30a, hL30b⟩ := hCG4.1.kr (show 108 ≤ cde q21 ∧ cde q21 < 124 from by rw [cde_n (by omega) (by omega)]; omega) al28
        have hk31 : gK G4 (327691) = (1, 200) := ((hXG4).k k327691 (by decide))
        have hk34 : gK G4 (262144) = (10, 0) := ((hXG4).k k262144 (by decide))
        refine s_callV (as := [(2, ((q21 : Nat) : Int)), (0, gS G4 (B + 4) ((k : Int).toNat)), (2, ((327691 : Nat) : Int))]) (rest := []) (n := 262144) (ci := 2) gX1_put dX2_linkType_103 m_1319 m_918 m_1493 m_712 m_260 ⟨by decide, by decide, show (parseMethodDescriptor yX1_put.desc).map (fun d => d.parameters.length) = some 3 from by decide +kernel⟩ (Nat.le_of_ble_eq_true rfl) (by rw [hcf]; exact Nat.le_of_ble_eq_true rfl) hk34 rfl rfl (Nat.le_of_ble_eq_true rfl) ⟨262144, q21, L30, gS G4 (B + 4) ((k : Int).toNat), 327691, a, b, rfl, hCG4, hab, (by first | assumption | omega), hk29, (by omega), hk31, (by exact FRW.s), (by omega), (by omega), (by omega), fun rr33 G32 hCG32 hXG32 hfG32 hpG32 => ?_⟩
        have hFG32 : WX (fun x => x = 327691 ∨ (f + 1 ≤ x ∧ x ≤ f + 22)) G G32 := WX.trans hFG4 hXG4 (WX.mono hfG32 rg0)
        have hFIG32 : ∀ k : Nat, k < 6 → FIP P G32 262144 k := fun k hk => FIP.ns (hFIG4 k hk) hXG32 hfG32 hk (KX.al hXG4 (kne k262149 (by decide))) rg1 rg2
        have hFfG32 : FPa P G32 f := (hFfG4).ns hXG32 hfG32 ⟨KX.al hXG4 (kne kf3 (by decide)), KX.al hXG4 (kne kf4 (by decide))⟩ rg3
        have hSZG32 : ∀ k : Nat, k < 6 → gS G32 262149 k ≤ 200 := fun k hk => by rw [hfG32 262149 (KX.al hXG4 (kne k262149 (by decide))) (by show ¬ _; omega)]; exact hSZG4 k hk
        show WP kX2_linkType X 106 [some (2, ((327682 : Nat) : Int)), some (0, k), some (2, ((A : Nat) : Int)), some (2, ((B : Nat) : Int)), some (2, ((f : Nat) : Int)), none] [(0, rr33)] G32
        refine s_istore dX2_linkType_106 (by decide) (lv' := [some (2, ((327682 : Nat) : Int)), some (0, k), some (2, ((A : Nat) : Int)), some (2, ((B : Nat) : Int)), some (2, ((f : Nat) : Int)), some (0, rr33)]) rfl ?_
        refine s_aload_n dX2_linkType_108 rfl (Int.natCast_nonneg _) ?_
        have hk35 : gK G32 (327682) = (11, 0) := ((hXG32).k hk15 (by decide))
        refine s_alv (327682) (by simp) (fun al36 => ?_)
        have hv37 : gS G32 327682 6 = ((327691 : Nat) : Int) := by have h9 : (gS G32 327682 6) = 327691 := hCG32.1.v (j := 6) (by decide : cde 327682 = 502) al36 (by rw [hk35]; exact Nat.le_of_ble_eq_true rfl); omega
        refine s_getf (ci := 3) (k := 6) (C := RX2) (T := TX2) (N := 8) (n := 327682) (L := 0) (t := 2) dX2_linkType_109 rfl wi_70 m_582 (Nat.le_of_ble_eq_true rfl) rfl rfl hk35 hv37 ?_
        refine s_iload dX2_linkType_112 rfl ?_
        refine s_aload_n dX2_linkType_114 rfl (Int.natCast_nonneg _) ?_
        have hv38 : gS G32 327682 2 = ((262144 : Nat) : Int) := by have h9 : (gS G32 327682 2) = 262144 := hCG32.1.v (j := 2) (by decide : cde 327682 = 502) al36 (by rw [hk35]; exact Nat.le_of_ble_eq_true rfl); omega
        refine s_getf (ci := 3) (k := 2) (C := RX2) (T := TX2) (N := 8) (n := 327682) (L := 0) (t := 2) dX2_linkType_115 rfl wi_70 m_577 (Nat.le_of_ble_eq_true rfl) rfl rfl hk35 hv38 ?_
        have hk39 : gK G32 (262144) = (10, 0) := ((hXG32).k hk34 (by decide))
        refine s_alv (262144) (by simp) (fun al40 => ?_)
        have hv41 : gS G32 262144 3 = ((262148 : Nat) : Int) := by have h9 : (gS G32 262144 3) = (((262144 % 1048576) + 4 : Nat) : Int) := hCG32.1.v (j := 3) (by decide : cde 262144 = 400) al40 (by rw [hk39]; exact Nat.le_of_ble_eq_true rfl); omega
        refine s_getf (ci := 2) (k := 3) (C := RX1) (T := TX1) (N := 5) (n := 262144) (L := 0) (t := 2) dX2_linkType_118 rfl wi_66 m_579 (Nat.le_of_ble_eq_true rfl) rfl rfl hk39 hv41 ?_
        refine s_iload_n dX2_linkType_121 rfl ?_
        have hk42 : gK G32 (262148) = (4, 6) := ((hXG32).k ((hXG4).k k262148 (by decide)) (by decide))
        refine s_alv (262148) (by simp) (fun al43 => ?_)
        have hv45b : (gS G32 262148 (k : Int).toNat) = (((262148 % 1048576) + 12 + ((k : Int).toNat) : Nat) : Int) := hCG32.1.v (j := (k : Int).toNat) (by decide : cde 262148 = 404) al43 (by rw [hk42]; show (k : Int).toNat < 6; omega)
        obtain ⟨q44, hv45⟩ : ∃ q : Nat, gS G32 262148 (k : Int).toNat = (q : Int) := ⟨(gS G32 262148 (k : Int).toNat).toNat, by omega⟩
        rw [hv45] at hv45b
        refine s_aald4 dX2_linkType_122 hk42 (by omega) (by omega) hv45 ?_
        refine s_aload_n dX2_linkType_123 rfl (Int.natCast_nonneg _) ?_
        have hv46 : gS G32 327682 2 = ((262144 : Nat) : Int) := by have h9 : (gS G32 327682 2) = 262144 := hCG32.1.v (j := 2) (by decide : cde 327682 = 502) al36 (by rw [hk35]; exact Nat.le_of_ble_eq_true rfl); omega
        refine s_getf (ci := 3) (k := 2) (C := RX2) (T := TX2) (N := 8) (n := 327682) (L := 0) (t := 2) dX2_linkType_124 rfl wi_70 m_577 (Nat.le_of_ble_eq_true rfl) rfl rfl hk35 hv46 ?_
        have hv47 : gS G32 262144 4 = ((262149 : Nat) : Int) := by have h9 : (gS G32 262144 4) = (((262144 % 1048576) + 5 : Nat) : Int) := hCG32.1.v (j := 4) (by decide : cde 262144 = 400) al40 (by rw [hk39]; exact Nat.le_of_ble_eq_true rfl); omega
        refine s_getf (ci := 2) (k := 4) (C := RX1) (T := TX1) (N := 5) (n := 262144) (L := 0) (t := 2) dX2_linkType_127 rfl wi_66 m_578 (Nat.le_of_ble_eq_true rfl) rfl rfl hk39 hv47 ?_
        refine s_iload_n dX2_linkType_130 rfl ?_
        have hk48 : gK G32 (262149) = (1, 6) := ((hXG32).k ((hXG4).k k262149 (by decide)) (by decide))
        refine s_alv (262149) (by simp) (fun al49 => ?_)
        have hv50 : 0 ≤ (gS G32 262149 (k : Int).toNat) ∧ (gS G32 262149 (k : Int).toNat) ≤ 201 := hCG32.1.v (j := (k : Int).toNat) (by decide : cde 262149 = 405) al49 (by rw [hk48]; show (k : Int).toNat < 6; omega)
        refine s_iald dX2_linkType_131 hk48 (by omega) (by omega) rfl ?_
        have hk51 : gK G32 (327691) = (1, 200) := ((hXG32).k hk31 (by decide))
        refine s_alv (q44) (by simp) (fun al52 => ?_)
        have hk53 := hCG32.1.kf (show (408 ≤ cde q44 ∧ cde q44 < 414) ∨ (416 ≤ cde q44 ∧ cde q44 < 422) from by rw [cde_f (by omega) (by omega)]; omega) al52
        refine s_callSN (own := RX2) rfl (by decide +kernel) (as := [(2, ((327691 : Nat) : Int)), (0, rr33), (2, ((q44 : Nat) : Int)), (0, gS G32 262149 ((k : Int).toNat))]) (rest := []) gX11_isSameRow dX2_linkType_132 m_1778 m_714 m_98 ⟨by decide, by decide, show (parseMethodDescriptor yX11_isSameRow.desc).map (fun d => d.parameters.length) = some 4 from by decide +kernel⟩ (Nat.le_of_ble_eq_true rfl) (by rw [hcf]; exact Nat.le_of_ble_eq_true rfl) rfl (Nat.le_of_ble_eq_true rfl) ⟨327691, 200, rr33, q44, 200, gS G32 262149 ((k : Int).toNat), rfl, hk51, (by first | assumption | omega), hk53, (by first | assumption | omega), fun rr54 hp55 => ?_⟩
        show WP kX2_linkType X 135 [some (2, ((327682 : Nat) : Int)), some (0, k), some (2, ((A : Nat) : Int)), some (2, ((B : Nat) : Int)), some (2, ((f : Nat) : Int)), some (0, rr33)] [(0, rr54)] G32
        refine s_if_eq (tgt := 142) dX2_linkType_135 (by decide) (fun c56 => ?_) (fun c56 => ?_)
        · -- 135 to 142
          refine s_iconst dX2_linkType_142 (by decide) ?_
          refine s_iload_n dX2_linkType_143 rfl ?_
          refine s_callSN (own := RX2) rfl (by decide +kernel) (as := [(0, 4), (0, k)]) (rest := []) gX11_typeMistake dX2_linkType_144 m_1783 m_714 m_125 ⟨by decide, by decide, show (parseMethodDescriptor yX11_typeMistake.desc).map (fun d => d.parameters.length) = some 2 from by decide +kernel⟩ (Nat.le_of_ble_eq_true rfl) (by rw [hcf]; exact Nat.le_of_ble_eq_true rfl) rfl (Nat.le_of_ble_eq_true rfl) ⟨4, k, rfl, (by first | assumption | omega), (by first | assumption | omega), fun rr57 hp58 => ?_⟩
          show WP kX2_linkType X 147 [some (2, ((327682 : Nat) : Int)), some (0, k), some (2, ((A : Nat) : Int)), some (2, ((B : Nat) : Int)), some (2, ((f : Nat) : Int)), some (0, rr33)] [(0, rr57)] G32
          exact s_iret hR dX2_linkType_147 rfl (hQ rr57 G32 hCG32 (KX.trans hXG4 hXG32) hFG32 hFfG32)
        · -- 135 to 138
          refine s_iconst dX2_linkType_138 (by decide) ?_
          refine s_goto (tgt := 147) dX2_linkType_139 (by decide) ?_
          exact s_iret hR dX2_linkType_147 rfl (hQ 0 G32 hCG32 (KX.trans hXG4 hXG32) hFG32 hFfG32)
      · -- 78 to 81
        refine s_iconst dX2_linkType_81 (by decide) ?_
        exact s_iret hR dX2_linkType_82 rfl (hQ 0 G4 hCG4 hXG4 hFG4 hFfG4)
  refine s_if_le (tgt := 39) dX2_linkType_9 (by decide) (fun c59 => ?_) (fun c59 => ?_)
  · -- 9 to 39
    refine s_aload_n dX2_linkType_39 rfl (Int.natCast_nonneg _) ?_
    refine s_iload_n dX2_linkType_40 rfl ?_
    refine s_callV (as := [(0, k)]) (rest := []) (n := A) (ci := 1) gX0_hasType dX2_linkType_41 m_1317 m_738 m_1472 m_711 m_65 ⟨by decide, by decide, show (parseMethodDescriptor yX0_hasType.desc).map (fun d => d.parameters.length) = some 1 from by decide +kernel⟩ (Nat.le_of_ble_eq_true rfl) (by rw [hcf]; exact Nat.le_of_ble_eq_true rfl) kA0 rfl rfl (Nat.le_of_ble_eq_true rfl) ⟨A, k, a, b, rfl, hC, hab, (by first | assumption | omega), (by first | assumption | omega), fun rr60 hp61 => ?_⟩
    show WP kX2_linkType X 44 [some (2, ((327682 : Nat) : Int)), some (0, k), some (2, ((A : Nat) : Int)), some (2, ((B : Nat) : Int)), some (2, ((f : Nat) : Int)), none] [(0, rr60)] G
    refine s_if_ne (tgt := 55) dX2_linkType_44 (by decide) (fun c62 => ?_) (fun c62 => ?_)
    · -- 44 to 55
      refine s_aload dX2_linkType_55 rfl (Int.natCast_nonneg _) ?_
      refine s_iload_n dX2_linkType_57 rfl ?_
      refine s_callV (as := [(0, k)]) (rest := []) (n := f) (ci := 1) gX0_putTypeHole dX2_linkType_58 m_1318 m_749 m_1482 m_711 m_76 ⟨by decide, by decide, show (parseMethodDescriptor yX0_putTypeHole.desc).map (fun d => d.parameters.length) = some 1 from by decide +kernel⟩ (Nat.le_of_ble_eq_true rfl) (by rw [hcf]; exact Nat.le_of_ble_eq_true rfl) kf0 rfl rfl (Nat.le_of_ble_eq_true rfl) ⟨f, k, a, b, rfl, hC, hab, (by first | assumption | omega), (by first | assumption | omega), fun G63 hCG63 hXG63 hfG63 hpG63 => ?_⟩
      have hFG63 : WX (fun x => x = 327691 ∨ (f + 1 ≤ x ∧ x ≤ f + 22)) G G63 := WX.trans WX.rf KX.rf (WX.mono hfG63 rg4)
      have hFIG63 : ∀ k : Nat, k < 6 → FIP P G63 262144 k := fun k hk => FIP.ns (hFI k hk) hXG63 hfG63 hk (KX.al KX.rf (kne k262149 (by decide))) rg5 rg6
      have hFfG63 : FPa P G63 f := (hFf).ns hXG63 hfG63 ⟨KX.al KX.rf (kne kf3 (by decide)), KX.al KX.rf (kne kf4 (by decide))⟩ rg7
      have hSZG63 : ∀ k : Nat, k < 6 → gS G63 262149 k ≤ 200 := fun k hk => by rw [hfG63 262149 (KX.al KX.rf (kne k262149 (by decide))) (by show ¬ _; omega)]; exact hSZ k hk
      show WP kX2_linkType X 61 [some (2, ((327682 : Nat) : Int)), some (0, k), some (2, ((A : Nat) : Int)), some (2, ((B : Nat) : Int)), some (2, ((f : Nat) : Int)), none] [] G63
      exact K4 G63 hCG63 hXG63 hFG63 (⟨(by exact hFIG63), (by exact hFfG63), (by exact hSZG63)⟩)
    · -- 44 to 47
      refine s_aload_n dX2_linkType_47 rfl (Int.natCast_nonneg _) ?_
      refine s_iload_n dX2_linkType_48 rfl ?_
      refine s_callV (as := [(0, k)]) (rest := []) (n := B) (ci := 1) gX0_hasType dX2_linkType_49 m_1317 m_738 m_1472 m_711 m_65 ⟨by decide, by decide, show (parseMethodDescriptor yX0_hasType.desc).map (fun d => d.parameters.length) = some 1 from by decide +kernel⟩ (Nat.le_of_ble_eq_true rfl) (by rw [hcf]; exact Nat.le_of_ble_eq_true rfl) kB0 rfl rfl (Nat.le_of_ble_eq_true rfl) ⟨B, k, a, b, rfl, hC, hab, (by first | assumption | omega), (by first | assumption | omega), fun rr65 hp66 => ?_⟩
      show WP kX2_linkType X 52 [some (2, ((327682 : Nat) : Int)), some (0, k), some (2, ((A : Nat) : Int)), some (2, ((B : Nat) : Int)), some (2, ((f : Nat) : Int)), none] [(0, rr65)] G
      refine s_if_eq (tgt := 61) dX2_linkType_52 (by decide) (fun c67 => ?_) (fun c67 => ?_)
      · -- 52 to 61
        exact K4 G hC KX.rf WX.rf (⟨(by exact hFI), (by exact hFf), (by exact hSZ)⟩)
      · -- 52 to 55
        refine s_aload dX2_linkType_55 rfl (Int.natCast_nonneg _) ?_
        refine s_iload_n dX2_linkType_57 rfl ?_
        refine s_callV (as := [(0, k)]) (rest := []) (n := f) (ci := 1) gX0_putTypeHole dX2_linkType_58 m_1318 m_749 m_1482 m_711 m_76 ⟨by decide, by decide, show (parseMethodDescriptor yX0_putTypeHole.desc).map (fun d => d.parameters.length) = some 1 from by decide +kernel⟩ (Nat.le_of_ble_eq_true rfl) (by rw [hcf]; exact Nat.le_of_ble_eq_true rfl) kf0 rfl rfl (Nat.le_of_ble_eq_true rfl) ⟨f, k, a, b, rfl, hC, hab, (by first | assumption | omega), (by first | assumption | omega), fun G68 hCG68 hXG68 hfG68 hpG68 => ?_⟩
        have hFG68 : WX (fun x => x = 327691 ∨ (f + 1 ≤ x ∧ x ≤ f + 22)) G G68 := WX.trans WX.rf KX.rf (WX.mono hfG68 rg4)
        have hFIG68 : ∀ k : Nat, k < 6 → FIP P G68 262144 k := fun k hk => FIP.ns (hFI k hk) hXG68 hfG68 hk (KX.al KX.rf (kne k262149 (by decide))) rg5 rg6
        have hFfG68 : FPa P G68 f := (hFf).ns hXG68 hfG68 ⟨KX.al KX.rf (kne kf3 (by decide)), KX.al KX.rf (kne kf4 (by decide))⟩ rg7
        have hSZG68 : ∀ k : Nat, k < 6 → gS G68 262149 k ≤ 200 := fun k hk => by rw [hfG68 262149 (KX.al KX.rf (kne k262149 (by decide))) (by show ¬ _; omega)]; exact hSZ k hk
        show WP kX2_linkType X 61 [some (2, ((327682 : Nat) : Int)), some (0, k), some (2, ((A : Nat) : Int)), some (2, ((B : Nat) : Int)), some (2, ((f : Nat) : Int)), none] [] G68
        exact K4 G68 hCG68 hXG68 hFG68 (⟨(by exact hFIG68), (by exact hFfG68), (by exact hSZG68)⟩)
  · -- 9 to 12
    have hs9 := hSZ k.toNat (by omega)
    refine s_aload dX2_linkType_12 rfl (Int.natCast_nonneg _) ?_
    refine s_iload_n dX2_linkType_14 rfl ?_
    refine s_aload_n dX2_linkType_15 rfl (Int.natCast_nonneg _) ?_
    have hv70 : gS G 327682 2 = ((262144 : Nat) : Int) := by have h9 : (gS G 327682 2) = 262144 := hC.1.v (j := 2) (by decide : cde 327682 = 502) (kne k327682 (by decide)) (by rw [k327682]; exact Nat.le_of_ble_eq_true rfl); omega
    refine s_getf (ci := 3) (k := 2) (C := RX2) (T := TX2) (N := 8) (n := 327682) (L := 0) (t := 2) dX2_linkType_16 rfl wi_70 m_577 (Nat.le_of_ble_eq_true rfl) rfl rfl k327682 hv70 ?_
    have hv71 : gS G 262144 3 = ((262148 : Nat) : Int) := by have h9 : (gS G 262144 3) = (((262144 % 1048576) + 4 : Nat) : Int) := hC.1.v (j := 3) (by decide : cde 262144 = 400) (kne k262144 (by decide)) (by rw [k262144]; exact Nat.le_of_ble_eq_true rfl); omega
    refine s_getf (ci := 2) (k := 3) (C := RX1) (T := TX1) (N := 5) (n := 262144) (L := 0) (t := 2) dX2_linkType_19 rfl wi_66 m_579 (Nat.le_of_ble_eq_true rfl) rfl rfl k262144 hv71 ?_
    refine s_iload_n dX2_linkType_22 rfl ?_
    have hv73b : (gS G 262148 (k : Int).toNat) = (((262148 % 1048576) + 12 + ((k : Int).toNat) : Nat) : Int) := hC.1.v (j := (k : Int).toNat) (by decide : cde 262148 = 404) (kne k262148 (by decide)) (by rw [k262148]; show (k : Int).toNat < 6; omega)
    obtain ⟨q72, hv73⟩ : ∃ q : Nat, gS G 262148 (k : Int).toNat = (q : Int) := ⟨(gS G 262148 (k : Int).toNat).toNat, by omega⟩
    rw [hv73] at hv73b
    refine s_aald4 dX2_linkType_23 k262148 (by omega) (by omega) hv73 ?_
    refine s_aload_n dX2_linkType_24 rfl (Int.natCast_nonneg _) ?_
    have hv74 : gS G 327682 2 = ((262144 : Nat) : Int) := by have h9 : (gS G 327682 2) = 262144 := hC.1.v (j := 2) (by decide : cde 327682 = 502) (kne k327682 (by decide)) (by rw [k327682]; exact Nat.le_of_ble_eq_true rfl); omega
    refine s_getf (ci := 3) (k := 2) (C := RX2) (T := TX2) (N := 8) (n := 327682) (L := 0) (t := 2) dX2_linkType_25 rfl wi_70 m_577 (Nat.le_of_ble_eq_true rfl) rfl rfl k327682 hv74 ?_
    have hv75 : gS G 262144 4 = ((262149 : Nat) : Int) := by have h9 : (gS G 262144 4) = (((262144 % 1048576) + 5 : Nat) : Int) := hC.1.v (j := 4) (by decide : cde 262144 = 400) (kne k262144 (by decide)) (by rw [k262144]; exact Nat.le_of_ble_eq_true rfl); omega
    refine s_getf (ci := 2) (k := 4) (C := RX1) (T := TX1) (N := 5) (n := 262144) (L := 0) (t := 2) dX2_linkType_28 rfl wi_66 m_578 (Nat.le_of_ble_eq_true rfl) rfl rfl k262144 hv75 ?_
    refine s_iload_n dX2_linkType_31 rfl ?_
    have hv76 : 0 ≤ (gS G 262149 (k : Int).toNat) ∧ (gS G 262149 (k : Int).toNat) ≤ 201 := hC.1.v (j := (k : Int).toNat) (by decide : cde 262149 = 405) (kne k262149 (by decide)) (by rw [k262149]; show (k : Int).toNat < 6; omega)
    refine s_iald dX2_linkType_32 k262149 (by omega) (by omega) rfl ?_
    refine s_alv (q72) (by simp) (fun al77 => ?_)
    have hk78 := hC.1.kf (show (408 ≤ cde q72 ∧ cde q72 < 414) ∨ (416 ≤ cde q72 ∧ cde q72 < 422) from by rw [cde_f (by omega) (by omega)]; omega) al77
    refine s_callV (as := [(0, k), (2, ((q72 : Nat) : Int)), (0, gS G 262149 ((k : Int).toNat))]) (rest := []) (n := f) (ci := 1) gX0_putType dX2_linkType_33 m_1316 m_748 m_1481 m_711 m_75 ⟨by decide, by decide, show (parseMethodDescriptor yX0_putType.desc).map (fun d => d.parameters.length) = some 3 from by decide +kernel⟩ (Nat.le_of_ble_eq_true rfl) (by rw [hcf]; exact Nat.le_of_ble_eq_true rfl) kf0 rfl rfl (Nat.le_of_ble_eq_true rfl) ⟨f, k, q72, 200, gS G 262149 ((k : Int).toNat), a, b, rfl, hC, hab, (by first | assumption | omega), (by first | assumption | omega), hk78, (by first | assumption | omega), (by first | assumption | omega), (by first | assumption | omega), fun G79 hCG79 hXG79 hfG79 hpG79 => ?_⟩
    have hFG79 : WX (fun x => x = 327691 ∨ (f + 1 ≤ x ∧ x ≤ f + 22)) G G79 := WX.trans WX.rf KX.rf (WX.mono hfG79 (fun x hx => by omega))
    have hFIG79 : ∀ k : Nat, k < 6 → FIP P G79 262144 k := fun k hk => FIP.ns (hFI k hk) hXG79 hfG79 hk (KX.al KX.rf (kne k262149 (by decide))) (fun k hk => by show ¬ _; omega) (by show ¬ _; omega)
    have hFfG79 : FPa P G79 f := FPa.put hpG79 hFf (fun _ z => RPs.at (hFI (k : Int).toNat (by omega) (by omega)) (by omega)) hXG79 hfG79 (fun p hp hn => by show ¬ _; omega)
    have hSZG79 : ∀ k : Nat, k < 6 → gS G79 262149 k ≤ 200 := fun k hk => by rw [hfG79 262149 (KX.al KX.rf (kne k262149 (by decide))) (by show ¬ _; omega)]; exact hSZ k hk
    show WP kX2_linkType X 36 [some (2, ((327682 : Nat) : Int)), some (0, k), some (2, ((A : Nat) : Int)), some (2, ((B : Nat) : Int)), some (2, ((f : Nat) : Int)), none] [] G79
    refine s_goto (tgt := 61) dX2_linkType_36 (by decide) ?_
    exact K4 G79 hCG79 hXG79 hFG79 (⟨(by exact hFIG79), (by exact hFfG79), (by exact hSZG79)⟩)
