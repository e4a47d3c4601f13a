abbrev kX2_sealType : KD := (RX2, cX2_sealType, 6, (some .int), [])
def TX2_sealType : TR := fun as G Qr => ∃ (P : Int → Prop) (k : Int) (A B f : Nat) (a b : Nat), as = [(2, ((327682 : Nat) : Int)), (0, k), (2, ((A : Nat) : Int)), (2, ((B : Nat) : Int)), (2, ((f : Nat) : Int))] ∧ CI a b G ∧ (a ≤ 2840000 ∧ b ≤ 590000) ∧ (0 ≤ k ∧ k < 6) ∧ (isFc A) ∧ (isFc B) ∧ (isFc f) ∧ (A ≠ f ∧ B ≠ f) ∧ (∀ k : Nat, k < 6 → FIP P G 262208 k) ∧ (FPa P G B) ∧ (FPa P G f) ∧ ((gS G (B + 1) k.toNat = 1 ∧ gS G (A + 1) k.toNat = 2) → P (gS G (262208 + 16 + k.toNat) 0)) ∧ ∀ (r : Int) (G' : LG), CI a b G' → KX G G' → WX (fun x => x = 327691 ∨ (f + 1 ≤ x ∧ x ≤ f + 22)) G G' → (FPa P G' f) → Qr (.inl (some (0, r))) G'
set_option maxHeartbeats 4000000 in
set_option maxRecDepth 100000 in
theorem gX2_sealType : Good kX2_sealType yX2_sealType 3 TX2_sealType := by
  refine good_of (by decide) rfl rfl (fun as G Qr h => ?_) (fun X as G Qr hcf hR hT oa => ?_)
  · obtain ⟨P, k, A, B, f, a, b, rfl, -⟩ := h; exact Nat.le_of_ble_eq_true rfl
  obtain ⟨P, k, A, B, f, a, b, rfl, hC, hab, hk, hA, hB, hf, hne, hFJ, hFB, hFf, hS0, hQ⟩ := hT
  show WP kX2_sealType X 0 [some (2, ((327682 : Nat) : Int)), some (0, k), some (2, ((A : Nat) : Int)), some (2, ((B : Nat) : Int)), some (2, ((f : Nat) : Int)), none] [] G
  have hr_k : inR k := okv_R (oa _ (by simp))
  have rg0 : RM (fun x => x = 327691) (fun x => x = 327691 ∨ (f + 1 ≤ x ∧ x ≤ f + 22)) := fun x hx => by (try dsimp only at hx ⊢); omega
  have rg1 : RNk (fun x => x = 327691) (262208 + 16) 6 := fun k hk => by show ¬ _; omega
  have rg2 : RNx (fun x => x = 327691) ((262208 + 5) % 1048576) := by show ¬ _; omega
  have rg3 : RNf (fun x => x = 327691) B := ⟨by show ¬ _; omega, by show ¬ _; omega, fun p hp => by show ¬ _; omega⟩
  have rg4 : RNf (fun x => x = 327691) f := ⟨by show ¬ _; omega, by show ¬ _; omega, fun p hp => by show ¬ _; omega⟩
  have rg5 : RM (fun x => x = f + 1) (fun x => x = 327691 ∨ (f + 1 ≤ x ∧ x ≤ f + 22)) := fun x hx => by (try dsimp only at hx ⊢); omega
  have rg6 : RNk (fun x => x = f + 1) (262208 + 16) 6 := fun k hk => by show ¬ _; omega
  have rg7 : RNx (fun x => x = f + 1) ((262208 + 5) % 1048576) := by show ¬ _; omega
  have rg8 : RNf (fun x => x = f + 1) B := ⟨by show ¬ _; omega, by show ¬ _; omega, fun p hp => by show ¬ _; omega⟩
  have rg9 : RNf (fun x => x = f + 1) f := ⟨by show ¬ _; omega, by show ¬ _; omega, fun p hp => by show ¬ _; omega⟩
  have hS9 := fun (_ : Unit) => hS0
  clear hS0
  refine s_alvl 327682 (k := 0) rfl (fun alZ => ?_)
  refine s_alvl A (k := 2) rfl (fun alA => ?_)
  refine s_alvl B (k := 3) rfl (fun alB => ?_)
  refine s_alvl f (k := 4) rfl (fun alf => ?_)
  refine s_lk (fun hlk => ?_)
  have hfn := hlk.fna hC alZ
  obtain ⟨k327682, k327681, k327683, k262144, k262208, k327684, k68097, k327691, k327692, k262145, k262146, k262148, k262149, k262209, k262210, k262212, k262213, k327710, k327685, k327688⟩ := id hfn
  have hfA := hlk.fc hC hA alA
  obtain ⟨kA0, kA1, kA2, kA3, kA4, kA5, kA6⟩ := hfA.1
  have hfB := hlk.fc hC hB alB
  obtain ⟨kB0, kB1, kB2, kB3, kB4, kB5, kB6⟩ := hfB.1
  have hff := hlk.fc hC hf alf
  obtain ⟨kf0, kf1, kf2, kf3, kf4, kf5, kf6⟩ := hff.1
  refine s_aload_n dX2_sealType_0 rfl (Int.natCast_nonneg _) ?_
  refine s_iload_n dX2_sealType_1 rfl ?_
  refine s_callV (as := [(0, k)]) (rest := []) (n := A) (ci := 1) gX0_hasType dX2_sealType_2 m_1317 m_738 m_1472 m_711 m_65 ⟨by decide, by decide, show (parseMethodDescriptor yX0_hasType.desc).map (fun d => d.parameters.length) = some 1 from by decide +kernel⟩ (Nat.le_of_ble_eq_true rfl) (by rw [hcf]; exact Nat.le_of_ble_eq_true rfl) kA0 rfl rfl (Nat.le_of_ble_eq_true rfl) ⟨A, k, a, b, rfl, hC, hab, (by first | assumption | omega), (by first | assumption | omega), fun rr1 hp2 => ?_⟩
  show WP kX2_sealType X 5 [some (2, ((327682 : Nat) : Int)), some (0, k), some (2, ((A : Nat) : Int)), some (2, ((B : Nat) : Int)), some (2, ((f : Nat) : Int)), none] [(0, rr1)] G
  refine s_if_ne (tgt := 14) dX2_sealType_5 (by decide) (fun c3 => ?_) (fun c3 => ?_)
  · -- 5 to 14
    refine s_aload_n dX2_sealType_14 rfl (Int.natCast_nonneg _) ?_
    have hv4 : gS G B 1 = ((B + 1 : Nat) : Int) := by have h9 : (gS G B 1) = (((B % 1048576) + 1 : Nat) : Int) := hC.1.v (j := 1) (by rw [cde_n (by omega) (by omega)]; omega : cde B = 101) (kne kB0 (by decide)) (by rw [kB0]; exact Nat.le_of_ble_eq_true rfl); omega
    refine s_getf (ci := 1) (k := 1) (C := RX0) (T := TX0) (N := 7) (n := B) (L := 0) (t := 2) dX2_sealType_15 rfl wi_65 m_573 (Nat.le_of_ble_eq_true rfl) rfl rfl kB0 hv4 ?_
    refine s_iload_n dX2_sealType_18 rfl ?_
    refine s_iald dX2_sealType_19 kB1 (by omega) (by omega) rfl ?_
    refine s_iconst dX2_sealType_20 (by decide) ?_
    refine s_icmp_ne (tgt := 62) dX2_sealType_21 (by decide) (fun c5 => ?_) (fun c5 => ?_)
    · -- 21 to 62
      refine s_aload_n dX2_sealType_62 rfl (Int.natCast_nonneg _) ?_
      have hv6 : gS G A 1 = ((A + 1 : Nat) : Int) := by have h9 : (gS G A 1) = (((A % 1048576) + 1 : Nat) : Int) := hC.1.v (j := 1) (by rw [cde_n (by omega) (by omega)]; omega : cde A = 101) (kne kA0 (by decide)) (by rw [kA0]; exact Nat.le_of_ble_eq_true rfl); omega
      refine s_getf (ci := 1) (k := 1) (C := RX0) (T := TX0) (N := 7) (n := A) (L := 0) (t := 2) dX2_sealType_63 rfl wi_65 m_573 (Nat.le_of_ble_eq_true rfl) rfl rfl kA0 hv6 ?_
      refine s_iload_n dX2_sealType_66 rfl ?_
      refine s_iald dX2_sealType_67 kA1 (by omega) (by omega) rfl ?_
      refine s_iconst dX2_sealType_68 (by decide) ?_
      refine s_icmp_ne (tgt := 78) dX2_sealType_69 (by decide) (fun c7 => ?_) (fun c7 => ?_)
      · -- 69 to 78
        refine s_aload_n dX2_sealType_78 rfl (Int.natCast_nonneg _) ?_
        have hv8 : gS G 327682 2 = ((262144 : Nat) : Int) := by have h9 : (gS G 327682 2) = 262144 := hC.1.v (j := 2) (by decide : cde 327682 = 502) (kne k327682 (by decide)) (by rw [k327682]; exact Nat.le_of_ble_eq_true rfl); omega
        refine s_getf (ci := 3) (k := 2) (C := RX2) (T := TX2) (N := 8) (n := 327682) (L := 0) (t := 2) dX2_sealType_79 rfl wi_70 m_577 (Nat.le_of_ble_eq_true rfl) rfl rfl k327682 hv8 ?_
        refine s_aload_n dX2_sealType_82 rfl (Int.natCast_nonneg _) ?_
        have hv9 : gS G B 3 = ((B + 3 : Nat) : Int) := by have h9 : (gS G B 3) = (((B % 1048576) + 3 : Nat) : Int) := hC.1.v (j := 3) (by rw [cde_n (by omega) (by omega)]; omega : cde B = 101) (kne kB0 (by decide)) (by rw [kB0]; exact Nat.le_of_ble_eq_true rfl); omega
        refine s_getf (ci := 1) (k := 3) (C := RX0) (T := TX0) (N := 7) (n := B) (L := 0) (t := 2) dX2_sealType_83 rfl wi_65 m_574 (Nat.le_of_ble_eq_true rfl) rfl rfl kB0 hv9 ?_
        refine s_iload_n dX2_sealType_86 rfl ?_
        have hv11b : 0 ≤ (gS G (B + 3) (k : Int).toNat) ∧ (gS G (B + 3) (k : Int).toNat) % 1048576 = ((((B + 3) % 1048576) + 4 + ((k : Int).toNat) : Nat) : Int) := hC.1.v (j := (k : Int).toNat) (by rw [cde_n (by omega) (by omega)]; omega : cde (B + 3) = 104) (kne kB3 (by decide)) (by rw [kB3]; show (k : Int).toNat < 16; omega)
        obtain ⟨q10, hv11⟩ : ∃ q : Nat, gS G (B + 3) (k : Int).toNat = (q : Int) := ⟨(gS G (B + 3) (k : Int).toNat).toNat, by omega⟩
        rw [hv11] at hv11b
        refine s_aald4 dX2_sealType_87 kB3 (by omega) (by omega) hv11 ?_
        refine s_aload_n dX2_sealType_88 rfl (Int.natCast_nonneg _) ?_
        have hv12 : gS G B 4 = ((B + 4 : Nat) : Int) := by have h9 : (gS G B 4) = (((B % 1048576) + 4 : Nat) : Int) := hC.1.v (j := 4) (by rw [cde_n (by omega) (by omega)]; omega : cde B = 101) (kne kB0 (by decide)) (by rw [kB0]; exact Nat.le_of_ble_eq_true rfl); omega
        refine s_getf (ci := 1) (k := 4) (C := RX0) (T := TX0) (N := 7) (n := B) (L := 0) (t := 2) dX2_sealType_89 rfl wi_65 m_575 (Nat.le_of_ble_eq_true rfl) rfl rfl kB0 hv12 ?_
        refine s_iload_n dX2_sealType_92 rfl ?_
        have hv13 : 0 ≤ (gS G (B + 4) (k : Int).toNat) ∧ (gS G (B + 4) (k : Int).toNat) ≤ 200 := hC.1.v (j := (k : Int).toNat) (by rw [cde_n (by omega) (by omega)]; omega : cde (B + 4) = 105) (kne kB4 (by decide)) (by rw [kB4]; show (k : Int).toNat < 16; omega)
        refine s_iald dX2_sealType_93 kB4 (by omega) (by omega) rfl ?_
        refine s_aload_n dX2_sealType_94 rfl (Int.natCast_nonneg _) ?_
        have hv14 : gS G 327682 6 = ((327691 : Nat) : Int) := by have h9 : (gS G 327682 6) = 327691 := hC.1.v (j := 6) (by decide : cde 327682 = 502) (kne k327682 (by decide)) (by rw [k327682]; exact Nat.le_of_ble_eq_true rfl); omega
        refine s_getf (ci := 3) (k := 6) (C := RX2) (T := TX2) (N := 8) (n := 327682) (L := 0) (t := 2) dX2_sealType_95 rfl wi_70 m_582 (Nat.le_of_ble_eq_true rfl) rfl rfl k327682 hv14 ?_
        refine s_alv (q10) (by simp) (fun al15 => ?_)
        obtain ⟨L17, hk16, hL17a, hL17b⟩ := hC.1.kr (show 108 ≤ cde q10 ∧ cde q10 < 124 from by rw [cde_n (by omega) (by omega)]; omega) al15
        refine s_callV (as := [(2, ((q10 : Nat) : Int)), (0, gS G (B + 4) ((k : Int).toNat)), (2, ((327691 : Nat) : Int))]) (rest := []) (n := 262144) (ci := 2) gX1_put dX2_sealType_98 m_1319 m_918 m_1493 m_712 m_260 ⟨by decide, by decide, show (parseMethodDescriptor yX1_put.desc).map (fun d => d.parameters.length) = some 3 from by decide +kernel⟩ (Nat.le_of_ble_eq_true rfl) (by rw [hcf]; exact Nat.le_of_ble_eq_true rfl) k262144 rfl rfl (Nat.le_of_ble_eq_true rfl) ⟨262144, q10, L17, gS G (B + 4) ((k : Int).toNat), 327691, a, b, rfl, hC, hab, (by first | assumption | omega), hk16, (by omega), k327691, (by exact FRW.s), (by omega), (by intro k9 hk9 hq9; omega), (by omega), fun rr19 G18 hCG18 hXG18 hfG18 hpG18 => ?_⟩
        have hFG18 : WX (fun x => x = 327691 ∨ (f + 1 ≤ x ∧ x ≤ f + 22)) G G18 := WX.trans WX.rf KX.rf (WX.mono hfG18 rg0)
        have hFJG18 : ∀ k : Nat, k < 6 → FIP P G18 262208 k := fun k hk => FIP.ns (hFJ k hk) hXG18 hfG18 hk (KX.al KX.rf (kne k262213 (by decide))) rg1 rg2
        have hFBG18 : FPa P G18 B := (hFB).ns hXG18 hfG18 ⟨KX.al KX.rf (kne kB3 (by decide)), KX.al KX.rf (kne kB4 (by decide))⟩ rg3
        have hFfG18 : FPa P G18 f := (hFf).ns hXG18 hfG18 ⟨KX.al KX.rf (kne kf3 (by decide)), KX.al KX.rf (kne kf4 (by decide))⟩ rg4
        show WP kX2_sealType X 101 [some (2, ((327682 : Nat) : Int)), some (0, k), some (2, ((A : Nat) : Int)), some (2, ((B : Nat) : Int)), some (2, ((f : Nat) : Int)), none] [(0, rr19)] G18
        refine s_istore dX2_sealType_101 (by decide) (lv' := [some (2, ((327682 : Nat) : Int)), some (0, k), some (2, ((A : Nat) : Int)), some (2, ((B : Nat) : Int)), some (2, ((f : Nat) : Int)), some (0, rr19)]) rfl ?_
        refine s_iload dX2_sealType_103 rfl ?_
        refine s_sipush dX2_sealType_105 rfl (by decide) ?_
        refine s_icmp_le (tgt := 118) dX2_sealType_108 (by decide) (fun c20 => ?_) (fun c20 => ?_)
        · -- 108 to 118
          refine s_aload_n dX2_sealType_118 rfl (Int.natCast_nonneg _) ?_
          have hk21 : gK G18 (327682) = (11, 0) := ((hXG18).k k327682 (by decide))
          refine s_alv (327682) (by simp) (fun al22 => ?_)
          have hv23 : gS G18 327682 6 = ((327691 : Nat) : Int) := by have h9 : (gS G18 327682 6) = 327691 := hCG18.1.v (j := 6) (by decide : cde 327682 = 502) al22 (by rw [hk21]; exact Nat.le_of_ble_eq_true rfl); omega
          refine s_getf (ci := 3) (k := 6) (C := RX2) (T := TX2) (N := 8) (n := 327682) (L := 0) (t := 2) dX2_sealType_119 rfl wi_70 m_582 (Nat.le_of_ble_eq_true rfl) rfl rfl hk21 hv23 ?_
          refine s_iload dX2_sealType_122 rfl ?_
          refine s_aload_n dX2_sealType_124 rfl (Int.natCast_nonneg _) ?_
          have hk24 : gK G18 (A) = (9, 0) := ((hXG18).k kA0 (by decide))
          refine s_alv (A) (by simp) (fun al25 => ?_)
          have hv26 : gS G18 A 3 = ((A + 3 : Nat) : Int) := by have h9 : (gS G18 A 3) = (((A % 1048576) + 3 : Nat) : Int) := hCG18.1.v (j := 3) (by rw [cde_n (by omega) (by omega)]; omega : cde A = 101) al25 (by rw [hk24]; exact Nat.le_of_ble_eq_true rfl); omega
          refine s_getf (ci := 1) (k := 3) (C := RX0) (T := TX0) (N := 7) (n := A) (L := 0) (t := 2) dX2_sealType_125 rfl wi_65 m_574 (Nat.le_of_ble_eq_true rfl) rfl rfl hk24 hv26 ?_
          refine s_iload_n dX2_sealType_128 rfl ?_
          have hk27 : gK G18 (A + 3) = (4, 16) := ((hXG18).k kA3 (by decide))
          refine s_alv (A + 3) (by simp) (fun al28 => ?_)
          have hv30b : 0 ≤ (gS G18 (A + 3) (k : Int).toNat) ∧ (gS G18 (A + 3) (k : Int).toNat) % 1048576 = ((((A + 3) % 1048576) + 4 + ((k : Int).toNat) : Nat) : Int) := hCG18.1.v (j := (k : Int).toNat) (by rw [cde_n (by omega) (by omega)]; omega : cde (A + 3) = 104) al28 (by rw [hk27]; show (k : Int).toNat < 16; omega)
          obtain ⟨q29, hv30⟩ : ∃ q : Nat, gS G18 (A + 3) (k : Int).toNat = (q : Int) := ⟨(gS G18 (A + 3) (k : Int).toNat).toNat, by omega⟩
          rw [hv30] at hv30b
          refine s_aald4 dX2_sealType_129 hk27 (by omega) (by omega) hv30 ?_
          refine s_aload_n dX2_sealType_130 rfl (Int.natCast_nonneg _) ?_
          have hv31 : gS G18 A 4 = ((A + 4 : Nat) : Int) := by have h9 : (gS G18 A 4) = (((A % 1048576) + 4 : Nat) : Int) := hCG18.1.v (j := 4) (by rw [cde_n (by omega) (by omega)]; omega : cde A = 101) al25 (by rw [hk24]; exact Nat.le_of_ble_eq_true rfl); omega
          refine s_getf (ci := 1) (k := 4) (C := RX0) (T := TX0) (N := 7) (n := A) (L := 0) (t := 2) dX2_sealType_131 rfl wi_65 m_575 (Nat.le_of_ble_eq_true rfl) rfl rfl hk24 hv31 ?_
          refine s_iload_n dX2_sealType_134 rfl ?_
          have hk32 : gK G18 (A + 4) = (1, 16) := ((hXG18).k kA4 (by decide))
          refine s_alv (A + 4) (by simp) (fun al33 => ?_)
          have hv34 : 0 ≤ (gS G18 (A + 4) (k : Int).toNat) ∧ (gS G18 (A + 4) (k : Int).toNat) ≤ 200 := hCG18.1.v (j := (k : Int).toNat) (by rw [cde_n (by omega) (by omega)]; omega : cde (A + 4) = 105) al33 (by rw [hk32]; show (k : Int).toNat < 16; omega)
          refine s_iald dX2_sealType_135 hk32 (by omega) (by omega) rfl ?_
          have hk35 : gK G18 (327691) = (1, 200) := ((hXG18).k k327691 (by decide))
          refine s_alv (q29) (by simp) (fun al36 => ?_)
          obtain ⟨L38, hk37, hL38a, hL38b⟩ := hCG18.1.kr (show 108 ≤ cde q29 ∧ cde q29 < 124 from by rw [cde_n (by omega) (by omega)]; omega) al36
          refine s_callSN (own := RX2) rfl (by decide +kernel) (as := [(2, ((327691 : Nat) : Int)), (0, rr19), (2, ((q29 : Nat) : Int)), (0, gS G18 (A + 4) ((k : Int).toNat))]) (rest := []) gX11_isSameRow dX2_sealType_136 m_1778 m_714 m_98 ⟨by decide, by decide, show (parseMethodDescriptor yX11_isSameRow.desc).map (fun d => d.parameters.length) = some 4 from by decide +kernel⟩ (Nat.le_of_ble_eq_true rfl) (by rw [hcf]; exact Nat.le_of_ble_eq_true rfl) rfl (Nat.le_of_ble_eq_true rfl) ⟨327691, 200, rr19, q29, L38, gS G18 (A + 4) ((k : Int).toNat), rfl, hk35, (by first | assumption | omega), hk37, (by first | assumption | omega), fun rr39 hp40 => ?_⟩
          show WP kX2_sealType X 139 [some (2, ((327682 : Nat) : Int)), some (0, k), some (2, ((A : Nat) : Int)), some (2, ((B : Nat) : Int)), some (2, ((f : Nat) : Int)), some (0, rr19)] [(0, rr39)] G18
          refine s_if_ne (tgt := 148) dX2_sealType_139 (by decide) (fun c41 => ?_) (fun c41 => ?_)
          · -- 139 to 148
            refine s_aload_n dX2_sealType_148 rfl (Int.natCast_nonneg _) ?_
            have hv42 : gS G18 327682 3 = ((262208 : Nat) : Int) := by have h9 : (gS G18 327682 3) = 262208 := hCG18.1.v (j := 3) (by decide : cde 327682 = 502) al22 (by rw [hk21]; exact Nat.le_of_ble_eq_true rfl); omega
            refine s_getf (ci := 3) (k := 3) (C := RX2) (T := TX2) (N := 8) (n := 327682) (L := 0) (t := 2) dX2_sealType_149 rfl wi_70 m_580 (Nat.le_of_ble_eq_true rfl) rfl rfl hk21 hv42 ?_
            refine s_aload_n dX2_sealType_152 rfl (Int.natCast_nonneg _) ?_
            have hk43 : gK G18 (B) = (9, 0) := ((hXG18).k kB0 (by decide))
            refine s_alv (B) (by simp) (fun al44 => ?_)
            have hv45 : gS G18 B 3 = ((B + 3 : Nat) : Int) := by have h9 : (gS G18 B 3) = (((B % 1048576) + 3 : Nat) : Int) := hCG18.1.v (j := 3) (by rw [cde_n (by omega) (by omega)]; omega : cde B = 101) al44 (by rw [hk43]; exact Nat.le_of_ble_eq_true rfl); omega
            refine s_getf (ci := 1) (k := 3) (C := RX0) (T := TX0) (N := 7) (n := B) (L := 0) (t := 2) dX2_sealType_153 rfl wi_65 m_574 (Nat.le_of_ble_eq_true rfl) rfl rfl hk43 hv45 ?_
            refine s_iload_n dX2_sealType_156 rfl ?_
            have hk46 : gK G18 (B + 3) = (4, 16) := ((hXG18).k kB3 (by decide))
            refine s_alv (B + 3) (by simp) (fun al47 => ?_)
            have hv49b : 0 ≤ (gS G18 (B + 3) (k : Int).toNat) ∧ (gS G18 (B + 3) (k : Int).toNat) % 1048576 = ((((B + 3) % 1048576) + 4 + ((k : Int).toNat) : Nat) : Int) := hCG18.1.v (j := (k : Int).toNat) (by rw [cde_n (by omega) (by omega)]; omega : cde (B + 3) = 104) al47 (by rw [hk46]; show (k : Int).toNat < 16; omega)
            obtain ⟨q48, hv49⟩ : ∃ q : Nat, gS G18 (B + 3) (k : Int).toNat = (q : Int) := ⟨(gS G18 (B + 3) (k : Int).toNat).toNat, by omega⟩
            rw [hv49] at hv49b
            refine s_aald4 dX2_sealType_157 hk46 (by omega) (by omega) hv49 ?_
            refine s_aload_n dX2_sealType_158 rfl (Int.natCast_nonneg _) ?_
            have hv50 : gS G18 B 4 = ((B + 4 : Nat) : Int) := by have h9 : (gS G18 B 4) = (((B % 1048576) + 4 : Nat) : Int) := hCG18.1.v (j := 4) (by rw [cde_n (by omega) (by omega)]; omega : cde B = 101) al44 (by rw [hk43]; exact Nat.le_of_ble_eq_true rfl); omega
            refine s_getf (ci := 1) (k := 4) (C := RX0) (T := TX0) (N := 7) (n := B) (L := 0) (t := 2) dX2_sealType_159 rfl wi_65 m_575 (Nat.le_of_ble_eq_true rfl) rfl rfl hk43 hv50 ?_
            refine s_iload_n dX2_sealType_162 rfl ?_
            have hk51 : gK G18 (B + 4) = (1, 16) := ((hXG18).k kB4 (by decide))
            refine s_alv (B + 4) (by simp) (fun al52 => ?_)
            have hv53 : 0 ≤ (gS G18 (B + 4) (k : Int).toNat) ∧ (gS G18 (B + 4) (k : Int).toNat) ≤ 200 := hCG18.1.v (j := (k : Int).toNat) (by rw [cde_n (by omega) (by omega)]; omega : cde (B + 4) = 105) al52 (by rw [hk51]; show (k : Int).toNat < 16; omega)
            refine s_iald dX2_sealType_163 hk51 (by omega) (by omega) rfl ?_
            refine s_aload_n dX2_sealType_164 rfl (Int.natCast_nonneg _) ?_
            have hv54 : gS G18 327682 6 = ((327691 : Nat) : Int) := by have h9 : (gS G18 327682 6) = 327691 := hCG18.1.v (j := 6) (by decide : cde 327682 = 502) al22 (by rw [hk21]; exact Nat.le_of_ble_eq_true rfl); omega
            refine s_getf (ci := 3) (k := 6) (C := RX2) (T := TX2) (N := 8) (n := 327682) (L := 0) (t := 2) dX2_sealType_165 rfl wi_70 m_582 (Nat.le_of_ble_eq_true rfl) rfl rfl hk21 hv54 ?_
            refine s_alv (q48) (by simp) (fun al55 => ?_)
            obtain ⟨L57, hk56, hL57a, hL57b⟩ := hCG18.1.kr (show 108 ≤ cde q48 ∧ cde q48 < 124 from by rw [cde_n (by omega) (by omega)]; omega) al55
            have hk60 : gK G18 (262208) = (10, 0) := ((hXG18).k k262208 (by decide))
            refine s_callV (as := [(2, ((q48 : Nat) : Int)), (0, gS G18 (B + 4) ((k : Int).toNat)), (2, ((327691 : Nat) : Int))]) (rest := []) (n := 262208) (ci := 2) gX1_put dX2_sealType_168 m_1319 m_918 m_1493 m_712 m_260 ⟨by decide, by decide, show (parseMethodDescriptor yX1_put.desc).map (fun d => d.parameters.length) = some 3 from by decide +kernel⟩ (Nat.le_of_ble_eq_true rfl) (by rw [hcf]; exact Nat.le_of_ble_eq_true rfl) hk60 rfl rfl (Nat.le_of_ble_eq_true rfl) ⟨262208, q48, L57, gS G18 (B + 4) ((k : Int).toNat), 327691, a, b, rfl, hCG18, hab, (by first | assumption | omega), hk56, (by omega), hk35, (by exact FRW.s), (by omega), (by intro k9 hk9 hq9; omega), (by omega), fun rr59 G58 hCG58 hXG58 hfG58 hpG58 => ?_⟩
            have hFG58 : WX (fun x => x = 327691 ∨ (f + 1 ≤ x ∧ x ≤ f + 22)) G G58 := WX.trans hFG18 hXG18 (WX.mono hfG58 rg0)
            have hFJG58 : ∀ k : Nat, k < 6 → FIP P G58 262208 k := fun k hk => FIP.ns (hFJG18 k hk) hXG58 hfG58 hk (KX.al hXG18 (kne k262213 (by decide))) rg1 rg2
            have hFBG58 : FPa P G58 B := (hFBG18).ns hXG58 hfG58 ⟨KX.al hXG18 (kne kB3 (by decide)), KX.al hXG18 (kne kB4 (by decide))⟩ rg3
            have hFfG58 : FPa P G58 f := (hFfG18).ns hXG58 hfG58 ⟨KX.al hXG18 (kne kf3 (by decide)), KX.al hXG18 (kne kf4 (by decide))⟩ rg4
            show WP kX2_sealType X 171 [some (2, ((327682 : Nat) : Int)), some (0, k), some (2, ((A : Nat) : Int)), some (2, ((B : Nat) : Int)), some (2, ((f : Nat) : Int)), some (0, rr19)] [(0, rr59)] G58
            refine s_istore dX2_sealType_171 (by decide) (lv' := [some (2, ((327682 : Nat) : Int)), some (0, k), some (2, ((A : Nat) : Int)), some (2, ((B : Nat) : Int)), some (2, ((f : Nat) : Int)), some (0, rr59)]) rfl ?_
            refine s_aload dX2_sealType_173 rfl (Int.natCast_nonneg _) ?_
            refine s_iload_n dX2_sealType_175 rfl ?_
            refine s_aload_n dX2_sealType_176 rfl (Int.natCast_nonneg _) ?_
            have hk61 : gK G58 (327682) = (11, 0) := ((hXG58).k hk21 (by decide))
            refine s_alv (327682) (by simp) (fun al62 => ?_)
            have hv63 : gS G58 327682 6 = ((327691 : Nat) : Int) := by have h9 : (gS G58 327682 6) = 327691 := hCG58.1.v (j := 6) (by decide : cde 327682 = 502) al62 (by rw [hk61]; exact Nat.le_of_ble_eq_true rfl); omega
            refine s_getf (ci := 3) (k := 6) (C := RX2) (T := TX2) (N := 8) (n := 327682) (L := 0) (t := 2) dX2_sealType_177 rfl wi_70 m_582 (Nat.le_of_ble_eq_true rfl) rfl rfl hk61 hv63 ?_
            refine s_iload dX2_sealType_180 rfl ?_
            have hk64 : gK G58 (327691) = (1, 200) := ((hXG58).k hk35 (by decide))
            have hk67 : gK G58 (f) = (9, 0) := ((hXG58).k ((hXG18).k kf0 (by decide)) (by decide))
            refine s_callV (as := [(0, k), (2, ((327691 : Nat) : Int)), (0, rr59)]) (rest := []) (n := f) (ci := 1) gX0_putType dX2_sealType_182 m_1316 m_748 m_1481 m_711 m_75 ⟨by decide, by decide, show (parseMethodDescriptor yX0_putType.desc).map (fun d => d.parameters.length) = some 3 from by decide +kernel⟩ (Nat.le_of_ble_eq_true rfl) (by rw [hcf]; exact Nat.le_of_ble_eq_true rfl) hk67 rfl rfl (Nat.le_of_ble_eq_true rfl) ⟨f, k, 327691, 200, rr59, a, b, rfl, hCG58, hab, (by first | assumption | omega), (by first | assumption | omega), hk64, (by first | assumption | omega), (by first | assumption | omega), (by first | assumption | omega), fun G65 hCG65 hXG65 hfG65 hpG65 => ?_⟩
            have hFG65 : WX (fun x => x = 327691 ∨ (f + 1 ≤ x ∧ x ≤ f + 22)) G G65 := WX.trans hFG58 (KX.trans hXG18 hXG58) (WX.mono hfG65 (fun x hx => by omega))
            have hFJG65 : ∀ k : Nat, k < 6 → FIP P G65 262208 k := fun k hk => FIP.ns (hFJG58 k hk) hXG65 hfG65 hk (KX.al (KX.trans hXG18 hXG58) (kne k262213 (by decide))) (fun k hk => by show ¬ _; omega) (by show ¬ _; omega)
            have hFBG65 : FPa P G65 B := (hFBG58).ns hXG65 hfG65 ⟨KX.al (KX.trans hXG18 hXG58) (kne kB3 (by decide)), KX.al (KX.trans hXG18 hXG58) (kne kB4 (by decide))⟩ ⟨by show ¬ _; omega, by show ¬ _; omega, fun p hp => by show ¬ _; omega⟩
            have hFfG65 : FPa P G65 f := FPa.put hpG65 hFfG58 (fun _ _ => hpG58.2 P ((hFBG18 (k : Int).toNat (by omega)).rps hv49 rfl) hFJG18 (by omega)) hXG65 hfG65 (fun p hp hn => by show ¬ _; omega)
            show WP kX2_sealType X 185 [some (2, ((327682 : Nat) : Int)), some (0, k), some (2, ((A : Nat) : Int)), some (2, ((B : Nat) : Int)), some (2, ((f : Nat) : Int)), some (0, rr59)] [] G65
            refine s_iconst dX2_sealType_185 (by decide) ?_
            exact s_iret hR dX2_sealType_186 rfl (hQ 0 G65 hCG65 (KX.trans (KX.trans hXG18 hXG58) hXG65) hFG65 hFfG65)
          · -- 139 to 142
            refine s_iconst dX2_sealType_142 (by decide) ?_
            refine s_iload_n dX2_sealType_143 rfl ?_
            refine s_callSN (own := RX2) rfl (by decide +kernel) (as := [(0, 2), (0, k)]) (rest := []) gX11_typeMistake dX2_sealType_144 m_1783 m_714 m_125 ⟨by decide, by decide, show (parseMethodDescriptor yX11_typeMistake.desc).map (fun d => d.parameters.length) = some 2 from by decide +kernel⟩ (Nat.le_of_ble_eq_true rfl) (by rw [hcf]; exact Nat.le_of_ble_eq_true rfl) rfl (Nat.le_of_ble_eq_true rfl) ⟨2, k, rfl, (by first | assumption | omega), (by first | assumption | omega), fun rr68 hp69 => ?_⟩
            show WP kX2_sealType X 147 [some (2, ((327682 : Nat) : Int)), some (0, k), some (2, ((A : Nat) : Int)), some (2, ((B : Nat) : Int)), some (2, ((f : Nat) : Int)), some (0, rr19)] [(0, rr68)] G18
            exact s_iret hR dX2_sealType_147 rfl (hQ rr68 G18 hCG18 hXG18 hFG18 hFfG18)
        · -- 108 to 111
          refine s_bipush dX2_sealType_111 rfl (by decide) ?_
          refine s_iload_n dX2_sealType_113 rfl ?_
          refine s_callSN (own := RX2) rfl (by decide +kernel) (as := [(0, 7), (0, k)]) (rest := []) gX11_typeMistake dX2_sealType_114 m_1783 m_714 m_125 ⟨by decide, by decide, show (parseMethodDescriptor yX11_typeMistake.desc).map (fun d => d.parameters.length) = some 2 from by decide +kernel⟩ (Nat.le_of_ble_eq_true rfl) (by rw [hcf]; exact Nat.le_of_ble_eq_true rfl) rfl (Nat.le_of_ble_eq_true rfl) ⟨7, k, rfl, (by first | assumption | omega), (by first | assumption | omega), fun rr70 hp71 => ?_⟩
          show WP kX2_sealType X 117 [some (2, ((327682 : Nat) : Int)), some (0, k), some (2, ((A : Nat) : Int)), some (2, ((B : Nat) : Int)), some (2, ((f : Nat) : Int)), some (0, rr19)] [(0, rr70)] G18
          exact s_iret hR dX2_sealType_117 rfl (hQ rr70 G18 hCG18 hXG18 hFG18 hFfG18)
      · -- 69 to 72
        refine s_iconst dX2_sealType_72 (by decide) ?_
        refine s_iload_n dX2_sealType_73 rfl ?_
        refine s_callSN (own := RX2) rfl (by decide +kernel) (as := [(0, 2), (0, k)]) (rest := []) gX11_typeMistake dX2_sealType_74 m_1783 m_714 m_125 ⟨by decide, by decide, show (parseMethodDescriptor yX11_typeMistake.desc).map (fun d => d.parameters.length) = some 2 from by decide +kernel⟩ (Nat.le_of_ble_eq_true rfl) (by rw [hcf]; exact Nat.le_of_ble_eq_true rfl) rfl (Nat.le_of_ble_eq_true rfl) ⟨2, k, rfl, (by first | assumption | omega), (by first | assumption | omega), fun rr72 hp73 => ?_⟩
        show WP kX2_sealType X 77 [some (2, ((327682 : Nat) : Int)), some (0, k), some (2, ((A : Nat) : Int)), some (2, ((B : Nat) : Int)), some (2, ((f : Nat) : Int)), none] [(0, rr72)] G
        exact s_iret hR dX2_sealType_77 rfl (hQ rr72 G hC KX.rf WX.rf hFf)
    · -- 21 to 24
      refine s_aload_n dX2_sealType_24 rfl (Int.natCast_nonneg _) ?_
      have hv74 : gS G A 1 = ((A + 1 : Nat) : Int) := by have h9 : (gS G A 1) = (((A % 1048576) + 1 : Nat) : Int) := hC.1.v (j := 1) (by rw [cde_n (by omega) (by omega)]; omega : cde A = 101) (kne kA0 (by decide)) (by rw [kA0]; exact Nat.le_of_ble_eq_true rfl); omega
      refine s_getf (ci := 1) (k := 1) (C := RX0) (T := TX0) (N := 7) (n := A) (L := 0) (t := 2) dX2_sealType_25 rfl wi_65 m_573 (Nat.le_of_ble_eq_true rfl) rfl rfl kA0 hv74 ?_
      refine s_iload_n dX2_sealType_28 rfl ?_
      refine s_iald dX2_sealType_29 kA1 (by omega) (by omega) rfl ?_
      refine s_iconst dX2_sealType_30 (by decide) ?_
      refine s_icmp_ne (tgt := 54) dX2_sealType_31 (by decide) (fun c75 => ?_) (fun c75 => ?_)
      · -- 31 to 54
        refine s_aload dX2_sealType_54 rfl (Int.natCast_nonneg _) ?_
        refine s_iload_n dX2_sealType_56 rfl ?_
        refine s_callV (as := [(0, k)]) (rest := []) (n := f) (ci := 1) gX0_putTypeHole dX2_sealType_57 m_1318 m_749 m_1482 m_711 m_76 ⟨by decide, by decide, show (parseMethodDescriptor yX0_putTypeHole.desc).map (fun d => d.parameters.length) = some 1 from by decide +kernel⟩ (Nat.le_of_ble_eq_true rfl) (by rw [hcf]; exact Nat.le_of_ble_eq_true rfl) kf0 rfl rfl (Nat.le_of_ble_eq_true rfl) ⟨f, k, a, b, rfl, hC, hab, (by first | assumption | omega), (by first | assumption | omega), fun G76 hCG76 hXG76 hfG76 hpG76 => ?_⟩
        have hFG76 : WX (fun x => x = 327691 ∨ (f + 1 ≤ x ∧ x ≤ f + 22)) G G76 := WX.trans WX.rf KX.rf (WX.mono hfG76 rg5)
        have hFJG76 : ∀ k : Nat, k < 6 → FIP P G76 262208 k := fun k hk => FIP.ns (hFJ k hk) hXG76 hfG76 hk (KX.al KX.rf (kne k262213 (by decide))) rg6 rg7
        have hFBG76 : FPa P G76 B := (hFB).ns hXG76 hfG76 ⟨KX.al KX.rf (kne kB3 (by decide)), KX.al KX.rf (kne kB4 (by decide))⟩ rg8
        have hFfG76 : FPa P G76 f := (hFf).ns hXG76 hfG76 ⟨KX.al KX.rf (kne kf3 (by decide)), KX.al KX.rf (kne kf4 (by decide))⟩ rg9
        show WP kX2_sealType X 60 [some (2, ((327682 : Nat) : Int)), some (0, k), some (2, ((A : Nat) : Int)), some (2, ((B : Nat) : Int)), some (2, ((f : Nat) : Int)), none] [] G76
        refine s_iconst dX2_sealType_60 (by decide) ?_
        exact s_iret hR dX2_sealType_61 rfl (hQ 0 G76 hCG76 hXG76 hFG76 hFfG76)
      · -- 31 to 34
        refine s_aload dX2_sealType_34 rfl (Int.natCast_nonneg _) ?_
        refine s_iload_n dX2_sealType_36 rfl ?_
        refine s_aload_n dX2_sealType_37 rfl (Int.natCast_nonneg _) ?_
        have hv78 : gS G 327682 3 = ((262208 : Nat) : Int) := by have h9 : (gS G 327682 3) = 262208 := hC.1.v (j := 3) (by decide : cde 327682 = 502) (kne k327682 (by decide)) (by rw [k327682]; exact Nat.le_of_ble_eq_true rfl); omega
        refine s_getf (ci := 3) (k := 3) (C := RX2) (T := TX2) (N := 8) (n := 327682) (L := 0) (t := 2) dX2_sealType_38 rfl wi_70 m_580 (Nat.le_of_ble_eq_true rfl) rfl rfl k327682 hv78 ?_
        have hv79 : gS G 262208 3 = ((262212 : Nat) : Int) := by have h9 : (gS G 262208 3) = (((262208 % 1048576) + 4 : Nat) : Int) := hC.1.v (j := 3) (by decide : cde 262208 = 400) (kne k262208 (by decide)) (by rw [k262208]; exact Nat.le_of_ble_eq_true rfl); omega
        refine s_getf (ci := 2) (k := 3) (C := RX1) (T := TX1) (N := 5) (n := 262208) (L := 0) (t := 2) dX2_sealType_41 rfl wi_66 m_579 (Nat.le_of_ble_eq_true rfl) rfl rfl k262208 hv79 ?_
        refine s_iload_n dX2_sealType_44 rfl ?_
        have hv81b : (gS G 262212 (k : Int).toNat) = (((262212 % 1048576) + 12 + ((k : Int).toNat) : Nat) : Int) := hC.1.v (j := (k : Int).toNat) (by decide : cde 262212 = 404) (kne k262212 (by decide)) (by rw [k262212]; show (k : Int).toNat < 6; omega)
        obtain ⟨q80, hv81⟩ : ∃ q : Nat, gS G 262212 (k : Int).toNat = (q : Int) := ⟨(gS G 262212 (k : Int).toNat).toNat, by omega⟩
        rw [hv81] at hv81b
        refine s_aald4 dX2_sealType_45 k262212 (by omega) (by omega) hv81 ?_
        refine s_iconst dX2_sealType_46 (by decide) ?_
        refine s_alv (q80) (by simp) (fun al82 => ?_)
        have hk83 := hC.1.kf (show (408 ≤ cde q80 ∧ cde q80 < 414) ∨ (416 ≤ cde q80 ∧ cde q80 < 422) from by rw [cde_f (by omega) (by omega)]; omega) al82
        refine s_iald dX2_sealType_47 hk83 (by omega) (by omega) rfl ?_
        have hst : P (gS G q80 ((0 : Int).toNat)) := by rw [show q80 = 262208 + 16 + k.toNat by omega]; exact hS9 () (by omega)
        refine s_callV (as := [(0, k), (0, gS G q80 ((0 : Int).toNat))]) (rest := []) (n := f) (ci := 1) gX0_putStamp dX2_sealType_48 m_1329 m_747 m_1480 m_711 m_74 ⟨by decide, by decide, show (parseMethodDescriptor yX0_putStamp.desc).map (fun d => d.parameters.length) = some 2 from by decide +kernel⟩ (Nat.le_of_ble_eq_true rfl) (by rw [hcf]; exact Nat.le_of_ble_eq_true rfl) kf0 rfl rfl (Nat.le_of_ble_eq_true rfl) ⟨f, k, gS G q80 ((0 : Int).toNat), a, b, rfl, hC, hab, (by first | assumption | omega), (by first | assumption | omega), fun G84 hCG84 hXG84 hfG84 hpG84 => ?_⟩
        have hFG84 : WX (fun x => x = 327691 ∨ (f + 1 ≤ x ∧ x ≤ f + 22)) G G84 := WX.trans WX.rf KX.rf (WX.mono hfG84 (fun x hx => by omega))
        have hFJG84 : ∀ k : Nat, k < 6 → FIP P G84 262208 k := fun k hk => FIP.ns (hFJ k hk) hXG84 hfG84 hk (KX.al KX.rf (kne k262213 (by decide))) (fun k hk => by show ¬ _; omega) (by show ¬ _; omega)
        have hFBG84 : FPa P G84 B := (hFB).ns hXG84 hfG84 ⟨KX.al KX.rf (kne kB3 (by decide)), KX.al KX.rf (kne kB4 (by decide))⟩ ⟨by show ¬ _; omega, by show ¬ _; omega, fun p hp => by show ¬ _; omega⟩
        have hFfG84 : FPa P G84 f := fun p2 hp2 => by obtain ⟨⟨q9, L9, b1, b2, b3, b4, b5⟩, b6, b7⟩ := hpG84; by_cases e : p2 = (k : Int).toNat; (focus (subst e; exact ⟨q9, L9, b1, b2, b3, by omega, fun j hj => by rw [show j = 0 by omega, b5]; exact hst⟩)); exact (hFf p2 hp2).wx hXG84 hfG84 (by show ¬ _; omega) (b7 p2 e).1 (b7 p2 e).2
        show WP kX2_sealType X 51 [some (2, ((327682 : Nat) : Int)), some (0, k), some (2, ((A : Nat) : Int)), some (2, ((B : Nat) : Int)), some (2, ((f : Nat) : Int)), none] [] G84
        refine s_goto (tgt := 60) dX2_sealType_51 (by decide) ?_
        refine s_iconst dX2_sealType_60 (by decide) ?_
        exact s_iret hR dX2_sealType_61 rfl (hQ 0 G84 hCG84 hXG84 hFG84 hFfG84)
  · -- 5 to 8
    refine s_iconst dX2_sealType_8 (by decide) ?_
    refine s_iload_n dX2_sealType_9 rfl ?_
    refine s_callSN (own := RX2) rfl (by decide +kernel) (as := [(0, 5), (0, k)]) (rest := []) gX11_typeMistake dX2_sealType_10 m_1783 m_714 m_125 ⟨by decide, by decide, show (parseMethodDescriptor yX11_typeMistake.desc).map (fun d => d.parameters.length) = some 2 from by decide +kernel⟩ (Nat.le_of_ble_eq_true rfl) (by rw [hcf]; exact Nat.le_of_ble_eq_true rfl) rfl (Nat.le_of_ble_eq_true rfl) ⟨5, k, rfl, (by first | assumption | omega), (by first | assumption | omega), fun rr86 hp87 => ?_⟩
    show WP kX2_sealType X 13 [some (2, ((327682 : Nat) : Int)), some (0, k), some (2, ((A : Nat) : Int)), some (2, ((B : Nat) : Int)), some (2, ((f : Nat) : Int)), none] [(0, rr86)] G
    exact s_iret hR dX2_sealType_13 rfl (hQ rr86 G hC KX.rf WX.rf hFf)

abbrev kX2_sealValue : KD := (RX2, cX2_sealValue, 7, (some .int), [])
def TX2_sealValue : TR := fun as G Qr => ∃ (P : Int → Prop) (k : Int) (A B f : Nat) (a b : Nat), as = [(2, ((327682 : Nat) : Int)), (0, k), (2, ((A : Nat) : Int)), (2, ((B : Nat) : Int)), (2, ((f : Nat) : Int))] ∧ CI a b G ∧ (a ≤ 2840000 ∧ b ≤ 590000) ∧ (0 ≤ k ∧ k < 10) ∧ (isFc A) ∧ (isFc B) ∧ (isFc f) ∧ (A ≠ f ∧ B ≠ f) ∧ (∀ k : Nat, k < 6 → FIP P G 262208 k) ∧ (FPa P G B) ∧ (FPa P G f) ∧ ∀ (r : Int) (G' : LG), CI a b G' → KX G G' → WX (fun x => x = 327691 ∨ (f + 1 ≤ x ∧ x ≤ f + 22)) G G' → (FPa P G' f) → Qr (.inl (some (0, r))) G'
set_option maxHeartbeats 4000000 in
set_option maxRecDepth 100000 in
theorem gX2_sealValue : Good kX2_sealValue yX2_sealValue 3 TX2_sealValue := by
  refine good_of (by decide) rfl rfl (fun as G Qr h => ?_) (fun X as G Qr hcf hR hT oa => ?_)
  · obtain ⟨P, k, A, B, f, a, b, rfl, -⟩ := h; exact Nat.le_of_ble_eq_true rfl
  obtain ⟨P, k, A, B, f, a, b, rfl, hC, hab, hk, hA, hB, hf, hne, hFJ, hFB, hFf, hQ⟩ := hT
  show WP kX2_sealValue X 0 [some (2, ((327682 : Nat) : Int)), some (0, k), some (2, ((A : Nat) : Int)), some (2, ((B : Nat) : Int)), some (2, ((f : Nat) : Int)), none, none] [] G
  have hr_k : inR k := okv_R (oa _ (by simp))
  have rg0 : RM (fun x => x = 327691) (fun x => x = 327691 ∨ (f + 1 ≤ x ∧ x ≤ f + 22)) := fun x hx => by (try dsimp only at hx ⊢); omega
  have rg1 : RNk (fun x => x = 327691) (262208 + 16) 6 := fun k hk => by show ¬ _; omega
  have rg2 : RNx (fun x => x = 327691) ((262208 + 5) % 1048576) := by show ¬ _; omega
  have rg3 : RNf (fun x => x = 327691) B := ⟨by show ¬ _; omega, by show ¬ _; omega, fun p hp => by show ¬ _; omega⟩
  have rg4 : RNf (fun x => x = 327691) f := ⟨by show ¬ _; omega, by show ¬ _; omega, fun p hp => by show ¬ _; omega⟩
  refine s_alvl 327682 (k := 0) rfl (fun alZ => ?_)
  refine s_alvl A (k := 2) rfl (fun alA => ?_)
  refine s_alvl B (k := 3) rfl (fun alB => ?_)
  refine s_alvl f (k := 4) rfl (fun alf => ?_)
  refine s_lk (fun hlk => ?_)
  have hfn := hlk.fna hC alZ
  obtain ⟨k327682, k327681, k327683, k262144, k262208, k327684, k68097, k327691, k327692, k262145, k262146, k262148, k262149, k262209, k262210, k262212, k262213, k327710, k327685, k327688⟩ := id hfn
  have hfA := hlk.fc hC hA alA
  obtain ⟨kA0, kA1, kA2, kA3, kA4, kA5, kA6⟩ := hfA.1
  have hfB := hlk.fc hC hB alB
  obtain ⟨kB0, kB1, kB2, kB3, kB4, kB5, kB6⟩ := hfB.1
  have hff := hlk.fc hC hf alf
  obtain ⟨kf0, kf1, kf2, kf3, kf4, kf5, kf6⟩ := hff.1
  refine s_aload_n dX2_sealValue_0 rfl (Int.natCast_nonneg _) ?_
  refine s_iload_n dX2_sealValue_1 rfl ?_
  refine s_callV (as := [(0, k)]) (rest := []) (n := A) (ci := 1) gX0_hasValue dX2_sealValue_2 m_1313 m_739 m_1473 m_711 m_66 ⟨by decide, by decide, show (parseMethodDescriptor yX0_hasValue.desc).map (fun d => d.parameters.length) = some 1 from by decide +kernel⟩ (Nat.le_of_ble_eq_true rfl) (by rw [hcf]; exact Nat.le_of_ble_eq_true rfl) kA0 rfl rfl (Nat.le_of_ble_eq_true rfl) ⟨A, k, a, b, rfl, hC, hab, (by first | assumption | omega), (by first | assumption | omega), fun rr1 hp2 => ?_⟩
  show WP kX2_sealValue X 5 [some (2, ((327682 : Nat) : Int)), some (0, k), some (2, ((A : Nat) : Int)), some (2, ((B : Nat) : Int)), some (2, ((f : Nat) : Int)), none, none] [(0, rr1)] G
  refine s_if_ne (tgt := 14) dX2_sealValue_5 (by decide) (fun c3 => ?_) (fun c3 => ?_)
  · -- 5 to 14
    refine s_aload_n dX2_sealValue_14 rfl (Int.natCast_nonneg _) ?_
    have hv4 : gS G 327682 2 = ((262144 : Nat) : Int) := by have h9 : (gS G 327682 2) = 262144 := hC.1.v (j := 2) (by decide : cde 327682 = 502) (kne k327682 (by decide)) (by rw [k327682]; exact Nat.le_of_ble_eq_true rfl); omega
    refine s_getf (ci := 3) (k := 2) (C := RX2) (T := TX2) (N := 8) (n := 327682) (L := 0) (t := 2) dX2_sealValue_15 rfl wi_70 m_577 (Nat.le_of_ble_eq_true rfl) rfl rfl k327682 hv4 ?_
    refine s_aload_n dX2_sealValue_18 rfl (Int.natCast_nonneg _) ?_
    have hv5 : gS G B 3 = ((B + 3 : Nat) : Int) := by have h9 : (gS G B 3) = (((B % 1048576) + 3 : Nat) : Int) := hC.1.v (j := 3) (by rw [cde_n (by omega) (by omega)]; omega : cde B = 101) (kne kB0 (by decide)) (by rw [kB0]; exact Nat.le_of_ble_eq_true rfl); omega
    refine s_getf (ci := 1) (k := 3) (C := RX0) (T := TX0) (N := 7) (n := B) (L := 0) (t := 2) dX2_sealValue_19 rfl wi_65 m_574 (Nat.le_of_ble_eq_true rfl) rfl rfl kB0 hv5 ?_
    refine s_bipush dX2_sealValue_22 rfl (by decide) ?_
    refine s_iload_n dX2_sealValue_24 rfl ?_
    refine s_iadd dX2_sealValue_25 (by omega) ?_
    have hv7b : 0 ≤ (gS G (B + 3) (6 + k : Int).toNat) ∧ (gS G (B + 3) (6 + k : Int).toNat) % 1048576 = ((((B + 3) % 1048576) + 4 + ((6 + k : Int).toNat) : Nat) : Int) := hC.1.v (j := (6 + k : Int).toNat) (by rw [cde_n (by omega) (by omega)]; omega : cde (B + 3) = 104) (kne kB3 (by decide)) (by rw [kB3]; show (6 + k : Int).toNat < 16; omega)
    obtain ⟨q6, hv7⟩ : ∃ q : Nat, gS G (B + 3) (6 + k : Int).toNat = (q : Int) := ⟨(gS G (B + 3) (6 + k : Int).toNat).toNat, by omega⟩
    rw [hv7] at hv7b
    refine s_aald4 dX2_sealValue_26 kB3 (by omega) (by omega) hv7 ?_
    refine s_aload_n dX2_sealValue_27 rfl (Int.natCast_nonneg _) ?_
    have hv8 : gS G B 4 = ((B + 4 : Nat) : Int) := by have h9 : (gS G B 4) = (((B % 1048576) + 4 : Nat) : Int) := hC.1.v (j := 4) (by rw [cde_n (by omega) (by omega)]; omega : cde B = 101) (kne kB0 (by decide)) (by rw [kB0]; exact Nat.le_of_ble_eq_true rfl); omega
    refine s_getf (ci := 1) (k := 4) (C := RX0) (T := TX0) (N := 7) (n := B) (L := 0) (t := 2) dX2_sealValue_28 rfl wi_65 m_575 (Nat.le_of_ble_eq_true rfl) rfl rfl kB0 hv8 ?_
    refine s_bipush dX2_sealValue_31 rfl (by decide) ?_
    refine s_iload_n dX2_sealValue_33 rfl ?_
    refine s_iadd dX2_sealValue_34 (by omega) ?_
    have hv9 : 0 ≤ (gS G (B + 4) (6 + k : Int).toNat) ∧ (gS G (B + 4) (6 + k : Int).toNat) ≤ 200 := hC.1.v (j := (6 + k : Int).toNat) (by rw [cde_n (by omega) (by omega)]; omega : cde (B + 4) = 105) (kne kB4 (by decide)) (by rw [kB4]; show (6 + k : Int).toNat < 16; omega)
    refine s_iald dX2_sealValue_35 kB4 (by omega) (by omega) rfl ?_
    refine s_aload_n dX2_sealValue_36 rfl (Int.natCast_nonneg _) ?_
    have hv10 : gS G 327682 6 = ((327691 : Nat) : Int) := by have h9 : (gS G 327682 6) = 327691 := hC.1.v (j := 6) (by decide : cde 327682 = 502) (kne k327682 (by decide)) (by rw [k327682]; exact Nat.le_of_ble_eq_true rfl); omega
    refine s_getf (ci := 3) (k := 6) (C := RX2) (T := TX2) (N := 8) (n := 327682) (L := 0) (t := 2) dX2_sealValue_37 rfl wi_70 m_582 (Nat.le_of_ble_eq_true rfl) rfl rfl k327682 hv10 ?_
    refine s_alv (q6) (by simp) (fun al11 => ?_)
    obtain ⟨L13, hk12, hL13a, hL13b⟩ := hC.1.kr (show 108 ≤ cde q6 ∧ cde q6 < 124 from by rw [cde_n (by omega) (by omega)]; omega) al11
    refine s_callV (as := [(2, ((q6 : Nat) : Int)), (0, gS G (B + 4) ((6 + k : Int).toNat)), (2, ((327691 : Nat) : Int))]) (rest := []) (n := 262144) (ci := 2) gX1_put dX2_sealValue_40 m_1319 m_918 m_1493 m_712 m_260 ⟨by decide, by decide, show (parseMethodDescriptor yX1_put.desc).map (fun d => d.parameters.length) = some 3 from by decide +kernel⟩ (Nat.le_of_ble_eq_true rfl) (by rw [hcf]; exact Nat.le_of_ble_eq_true rfl) k262144 rfl rfl (Nat.le_of_ble_eq_true rfl) ⟨262144, q6, L13, gS G (B + 4) ((6 + k : Int).toNat), 327691, a, b, rfl, hC, hab, (by first | assumption | omega), hk12, (by omega), k327691, (by exact FRW.s), (by omega), (by intro k9 hk9 hq9; omega), (by omega), fun rr15 G14 hCG14 hXG14 hfG14 hpG14 => ?_⟩
    have hFG14 : WX (fun x => x = 327691 ∨ (f + 1 ≤ x ∧ x ≤ f + 22)) G G14 := WX.trans WX.rf KX.rf (WX.mono hfG14 rg0)
    have hFJG14 : ∀ k : Nat, k < 6 → FIP P G14 262208 k := fun k hk => FIP.ns (hFJ k hk) hXG14 hfG14 hk (KX.al KX.rf (kne k262213 (by decide))) rg1 rg2
    have hFBG14 : FPa P G14 B := (hFB).ns hXG14 hfG14 ⟨KX.al KX.rf (kne kB3 (by decide)), KX.al KX.rf (kne kB4 (by decide))⟩ rg3
    have hFfG14 : FPa P G14 f := (hFf).ns hXG14 hfG14 ⟨KX.al KX.rf (kne kf3 (by decide)), KX.al KX.rf (kne kf4 (by decide))⟩ rg4
    show WP kX2_sealValue X 43 [some (2, ((327682 : Nat) : Int)), some (0, k), some (2, ((A : Nat) : Int)), some (2, ((B : Nat) : Int)), some (2, ((f : Nat) : Int)), none, none] [(0, rr15)] G14
    refine s_istore dX2_sealValue_43 (by decide) (lv' := [some (2, ((327682 : Nat) : Int)), some (0, k), some (2, ((A : Nat) : Int)), some (2, ((B : Nat) : Int)), some (2, ((f : Nat) : Int)), some (0, rr15), none]) rfl ?_
    refine s_iload dX2_sealValue_45 rfl ?_
    refine s_sipush dX2_sealValue_47 rfl (by decide) ?_
    refine s_icmp_le (tgt := 60) dX2_sealValue_50 (by decide) (fun c16 => ?_) (fun c16 => ?_)
    · -- 50 to 60
      refine s_aload_n dX2_sealValue_60 rfl (Int.natCast_nonneg _) ?_
      have hk17 : gK G14 (327682) = (11, 0) := ((hXG14).k k327682 (by decide))
      refine s_alv (327682) (by simp) (fun al18 => ?_)
      have hv19 : gS G14 327682 6 = ((327691 : Nat) : Int) := by have h9 : (gS G14 327682 6) = 327691 := hCG14.1.v (j := 6) (by decide : cde 327682 = 502) al18 (by rw [hk17]; exact Nat.le_of_ble_eq_true rfl); omega
      refine s_getf (ci := 3) (k := 6) (C := RX2) (T := TX2) (N := 8) (n := 327682) (L := 0) (t := 2) dX2_sealValue_61 rfl wi_70 m_582 (Nat.le_of_ble_eq_true rfl) rfl rfl hk17 hv19 ?_
      refine s_iload dX2_sealValue_64 rfl ?_
      refine s_aload_n dX2_sealValue_66 rfl (Int.natCast_nonneg _) ?_
      have hk20 : gK G14 (A) = (9, 0) := ((hXG14).k kA0 (by decide))
      refine s_alv (A) (by simp) (fun al21 => ?_)
      have hv22 : gS G14 A 3 = ((A + 3 : Nat) : Int) := by have h9 : (gS G14 A 3) = (((A % 1048576) + 3 : Nat) : Int) := hCG14.1.v (j := 3) (by rw [cde_n (by omega) (by omega)]; omega : cde A = 101) al21 (by rw [hk20]; exact Nat.le_of_ble_eq_true rfl); omega
      refine s_getf (ci := 1) (k := 3) (C := RX0) (T := TX0) (N := 7) (n := A) (L := 0) (t := 2) dX2_sealValue_67 rfl wi_65 m_574 (Nat.le_of_ble_eq_true rfl) rfl rfl hk20 hv22 ?_
      refine s_bipush dX2_sealValue_70 rfl (by decide) ?_
      refine s_iload_n dX2_sealValue_72 rfl ?_
      refine s_iadd dX2_sealValue_73 (by omega) ?_
      have hk23 : gK G14 (A + 3) = (4, 16) := ((hXG14).k kA3 (by decide))
      refine s_alv (A + 3) (by simp) (fun al24 => ?_)
      have hv26b : 0 ≤ (gS G14 (A + 3) (6 + k : Int).toNat) ∧ (gS G14 (A + 3) (6 + k : Int).toNat) % 1048576 = ((((A + 3) % 1048576) + 4 + ((6 + k : Int).toNat) : Nat) : Int) := hCG14.1.v (j := (6 + k : Int).toNat) (by rw [cde_n (by omega) (by omega)]; omega : cde (A + 3) = 104) al24 (by rw [hk23]; show (6 + k : Int).toNat < 16; omega)
      obtain ⟨q25, hv26⟩ : ∃ q : Nat, gS G14 (A + 3) (6 + k : Int).toNat = (q : Int) := ⟨(gS G14 (A + 3) (6 + k : Int).toNat).toNat, by omega⟩
      rw [hv26] at hv26b
      refine s_aald4 dX2_sealValue_74 hk23 (by omega) (by omega) hv26 ?_
      refine s_aload_n dX2_sealValue_75 rfl (Int.natCast_nonneg _) ?_
      have hv27 : gS G14 A 4 = ((A + 4 : Nat) : Int) := by have h9 : (gS G14 A 4) = (((A % 1048576) + 4 : Nat) : Int) := hCG14.1.v (j := 4) (by rw [cde_n (by omega) (by omega)]; omega : cde A = 101) al21 (by rw [hk20]; exact Nat.le_of_ble_eq_true rfl); omega
      refine s_getf (ci := 1) (k := 4) (C := RX0) (T := TX0) (N := 7) (n := A) (L := 0) (t := 2) dX2_sealValue_76 rfl wi_65 m_575 (Nat.le_of_ble_eq_true rfl) rfl rfl hk20 hv27 ?_
      refine s_bipush dX2_sealValue_79 rfl (by decide) ?_
      refine s_iload_n dX2_sealValue_81 rfl ?_
      refine s_iadd dX2_sealValue_82 (by omega) ?_
      have hk28 : gK G14 (A + 4) = (1, 16) := ((hXG14).k kA4 (by decide))
      refine s_alv (A + 4) (by simp) (fun al29 => ?_)
      have hv30 : 0 ≤ (gS G14 (A + 4) (6 + k : Int).toNat) ∧ (gS G14 (A + 4) (6 + k : Int).toNat) ≤ 200 := hCG14.1.v (j := (6 + k : Int).toNat) (by rw [cde_n (by omega) (by omega)]; omega : cde (A + 4) = 105) al29 (by rw [hk28]; show (6 + k : Int).toNat < 16; omega)
      refine s_iald dX2_sealValue_83 hk28 (by omega) (by omega) rfl ?_
      have hk31 : gK G14 (327691) = (1, 200) := ((hXG14).k k327691 (by decide))
      refine s_alv (q25) (by simp) (fun al32 => ?_)
      obtain ⟨L34, hk33, hL34a, hL34b⟩ := hCG14.1.kr (show 108 ≤ cde q25 ∧ cde q25 < 124 from by rw [cde_n (by omega) (by omega)]; omega) al32
      refine s_callSN (own := RX2) rfl (by decide +kernel) (as := [(2, ((327691 : Nat) : Int)), (0, rr15), (2, ((q25 : Nat) : Int)), (0, gS G14 (A + 4) ((6 + k : Int).toNat))]) (rest := []) gX11_isSameRow dX2_sealValue_84 m_1778 m_714 m_98 ⟨by decide, by decide, show (parseMethodDescriptor yX11_isSameRow.desc).map (fun d => d.parameters.length) = some 4 from by decide +kernel⟩ (Nat.le_of_ble_eq_true rfl) (by rw [hcf]; exact Nat.le_of_ble_eq_true rfl) rfl (Nat.le_of_ble_eq_true rfl) ⟨327691, 200, rr15, q25, L34, gS G14 (A + 4) ((6 + k : Int).toNat), rfl, hk31, (by first | assumption | omega), hk33, (by first | assumption | omega), fun rr35 hp36 => ?_⟩
      show WP kX2_sealValue X 87 [some (2, ((327682 : Nat) : Int)), some (0, k), some (2, ((A : Nat) : Int)), some (2, ((B : Nat) : Int)), some (2, ((f : Nat) : Int)), some (0, rr15), none] [(0, rr35)] G14
      refine s_if_ne (tgt := 96) dX2_sealValue_87 (by decide) (fun c37 => ?_) (fun c37 => ?_)
      · -- 87 to 96
        refine s_aload_n dX2_sealValue_96 rfl (Int.natCast_nonneg _) ?_
        refine s_iload_n dX2_sealValue_97 rfl ?_
        refine s_callV (as := [(0, k)]) (rest := []) (n := A) (ci := 1) gX0_isGhost dX2_sealValue_98 m_1323 m_741 m_1474 m_711 m_68 ⟨by decide, by decide, show (parseMethodDescriptor yX0_isGhost.desc).map (fun d => d.parameters.length) = some 1 from by decide +kernel⟩ (Nat.le_of_ble_eq_true rfl) (by rw [hcf]; exact Nat.le_of_ble_eq_true rfl) hk20 rfl rfl (Nat.le_of_ble_eq_true rfl) ⟨A, k, a, b, rfl, hCG14, hab, (by first | assumption | omega), (by first | assumption | omega), fun rr38 hp39 => ?_⟩
        show WP kX2_sealValue X 101 [some (2, ((327682 : Nat) : Int)), some (0, k), some (2, ((A : Nat) : Int)), some (2, ((B : Nat) : Int)), some (2, ((f : Nat) : Int)), some (0, rr15), none] [(0, rr38)] G14
        refine s_if_eq (tgt := 119) dX2_sealValue_101 (by decide) (fun c40 => ?_) (fun c40 => ?_)
        · -- 101 to 119
          refine s_aload_n dX2_sealValue_119 rfl (Int.natCast_nonneg _) ?_
          have hv41 : gS G14 327682 3 = ((262208 : Nat) : Int) := by have h9 : (gS G14 327682 3) = 262208 := hCG14.1.v (j := 3) (by decide : cde 327682 = 502) al18 (by rw [hk17]; exact Nat.le_of_ble_eq_true rfl); omega
          refine s_getf (ci := 3) (k := 3) (C := RX2) (T := TX2) (N := 8) (n := 327682) (L := 0) (t := 2) dX2_sealValue_120 rfl wi_70 m_580 (Nat.le_of_ble_eq_true rfl) rfl rfl hk17 hv41 ?_
          refine s_aload_n dX2_sealValue_123 rfl (Int.natCast_nonneg _) ?_
          have hk42 : gK G14 (B) = (9, 0) := ((hXG14).k kB0 (by decide))
          refine s_alv (B) (by simp) (fun al43 => ?_)
          have hv44 : gS G14 B 3 = ((B + 3 : Nat) : Int) := by have h9 : (gS G14 B 3) = (((B % 1048576) + 3 : Nat) : Int) := hCG14.1.v (j := 3) (by rw [cde_n (by omega) (by omega)]; omega : cde B = 101) al43 (by rw [hk42]; exact Nat.le_of_ble_eq_true rfl); omega
          refine s_getf (ci := 1) (k := 3) (C := RX0) (T := TX0) (N := 7) (n := B) (L := 0) (t := 2) dX2_sealValue_124 rfl wi_65 m_574 (Nat.le_of_ble_eq_true rfl) rfl rfl hk42 hv44 ?_
          refine s_bipush dX2_sealValue_127 rfl (by decide) ?_
          refine s_iload_n dX2_sealValue_129 rfl ?_
          refine s_iadd dX2_sealValue_130 (by omega) ?_
          have hk45 : gK G14 (B + 3) = (4, 16) := ((hXG14).k kB3 (by decide))
          refine s_alv (B + 3) (by simp) (fun al46 => ?_)
          have hv48b : 0 ≤ (gS G14 (B + 3) (6 + k : Int).toNat) ∧ (gS G14 (B + 3) (6 + k : Int).toNat) % 1048576 = ((((B + 3) % 1048576) + 4 + ((6 + k : Int).toNat) : Nat) : Int) := hCG14.1.v (j := (6 + k : Int).toNat) (by rw [cde_n (by omega) (by omega)]; omega : cde (B + 3) = 104) al46 (by rw [hk45]; show (6 + k : Int).toNat < 16; omega)
          obtain ⟨q47, hv48⟩ : ∃ q : Nat, gS G14 (B + 3) (6 + k : Int).toNat = (q : Int) := ⟨(gS G14 (B + 3) (6 + k : Int).toNat).toNat, by omega⟩
          rw [hv48] at hv48b
          refine s_aald4 dX2_sealValue_131 hk45 (by omega) (by omega) hv48 ?_
          refine s_aload_n dX2_sealValue_132 rfl (Int.natCast_nonneg _) ?_
          have hv49 : gS G14 B 4 = ((B + 4 : Nat) : Int) := by have h9 : (gS G14 B 4) = (((B % 1048576) + 4 : Nat) : Int) := hCG14.1.v (j := 4) (by rw [cde_n (by omega) (by omega)]; omega : cde B = 101) al43 (by rw [hk42]; exact Nat.le_of_ble_eq_true rfl); omega
          refine s_getf (ci := 1) (k := 4) (C := RX0) (T := TX0) (N := 7) (n := B) (L := 0) (t := 2) dX2_sealValue_133 rfl wi_65 m_575 (Nat.le_of_ble_eq_true rfl) rfl rfl hk42 hv49 ?_
          refine s_bipush dX2_sealValue_136 rfl (by decide) ?_
          refine s_iload_n dX2_sealValue_138 rfl ?_
          refine s_iadd dX2_sealValue_139 (by omega) ?_
          have hk50 : gK G14 (B + 4) = (1, 16) := ((hXG14).k kB4 (by decide))
          refine s_alv (B + 4) (by simp) (fun al51 => ?_)
          have hv52 : 0 ≤ (gS G14 (B + 4) (6 + k : Int).toNat) ∧ (gS G14 (B + 4) (6 + k : Int).toNat) ≤ 200 := hCG14.1.v (j := (6 + k : Int).toNat) (by rw [cde_n (by omega) (by omega)]; omega : cde (B + 4) = 105) al51 (by rw [hk50]; show (6 + k : Int).toNat < 16; omega)
          refine s_iald dX2_sealValue_140 hk50 (by omega) (by omega) rfl ?_
          refine s_aload_n dX2_sealValue_141 rfl (Int.natCast_nonneg _) ?_
          have hv53 : gS G14 327682 6 = ((327691 : Nat) : Int) := by have h9 : (gS G14 327682 6) = 327691 := hCG14.1.v (j := 6) (by decide : cde 327682 = 502) al18 (by rw [hk17]; exact Nat.le_of_ble_eq_true rfl); omega
          refine s_getf (ci := 3) (k := 6) (C := RX2) (T := TX2) (N := 8) (n := 327682) (L := 0) (t := 2) dX2_sealValue_142 rfl wi_70 m_582 (Nat.le_of_ble_eq_true rfl) rfl rfl hk17 hv53 ?_
          refine s_alv (q47) (by simp) (fun al54 => ?_)
          obtain ⟨L56, hk55, hL56a, hL56b⟩ := hCG14.1.kr (show 108 ≤ cde q47 ∧ cde q47 < 124 from by rw [cde_n (by omega) (by omega)]; omega) al54
          have hk59 : gK G14 (262208) = (10, 0) := ((hXG14).k k262208 (by decide))
          refine s_callV (as := [(2, ((q47 : Nat) : Int)), (0, gS G14 (B + 4) ((6 + k : Int).toNat)), (2, ((327691 : Nat) : Int))]) (rest := []) (n := 262208) (ci := 2) gX1_put dX2_sealValue_145 m_1319 m_918 m_1493 m_712 m_260 ⟨by decide, by decide, show (parseMethodDescriptor yX1_put.desc).map (fun d => d.parameters.length) = some 3 from by decide +kernel⟩ (Nat.le_of_ble_eq_true rfl) (by rw [hcf]; exact Nat.le_of_ble_eq_true rfl) hk59 rfl rfl (Nat.le_of_ble_eq_true rfl) ⟨262208, q47, L56, gS G14 (B + 4) ((6 + k : Int).toNat), 327691, a, b, rfl, hCG14, hab, (by first | assumption | omega), hk55, (by omega), hk31, (by exact FRW.s), (by omega), (by intro k9 hk9 hq9; omega), (by omega), fun rr58 G57 hCG57 hXG57 hfG57 hpG57 => ?_⟩
          have hFG57 : WX (fun x => x = 327691 ∨ (f + 1 ≤ x ∧ x ≤ f + 22)) G G57 := WX.trans hFG14 hXG14 (WX.mono hfG57 rg0)
          have hFJG57 : ∀ k : Nat, k < 6 → FIP P G57 262208 k := fun k hk => FIP.ns (hFJG14 k hk) hXG57 hfG57 hk (KX.al hXG14 (kne k262213 (by decide))) rg1 rg2
          have hFBG57 : FPa P G57 B := (hFBG14).ns hXG57 hfG57 ⟨KX.al hXG14 (kne kB3 (by decide)), KX.al hXG14 (kne kB4 (by decide))⟩ rg3
          have hFfG57 : FPa P G57 f := (hFfG14).ns hXG57 hfG57 ⟨KX.al hXG14 (kne kf3 (by decide)), KX.al hXG14 (kne kf4 (by decide))⟩ rg4
          show WP kX2_sealValue X 148 [some (2, ((327682 : Nat) : Int)), some (0, k), some (2, ((A : Nat) : Int)), some (2, ((B : Nat) : Int)), some (2, ((f : Nat) : Int)), some (0, rr15), none] [(0, rr58)] G57
          refine s_istore dX2_sealValue_148 (by decide) (lv' := [some (2, ((327682 : Nat) : Int)), some (0, k), some (2, ((A : Nat) : Int)), some (2, ((B : Nat) : Int)), some (2, ((f : Nat) : Int)), some (0, rr58), none]) rfl ?_
          refine s_aload_n dX2_sealValue_150 rfl (Int.natCast_nonneg _) ?_
          refine s_iload_n dX2_sealValue_151 rfl ?_
          have hk62 : gK G57 (A) = (9, 0) := ((hXG57).k hk20 (by decide))
          refine s_callV (as := [(0, k)]) (rest := []) (n := A) (ci := 1) gX0_isValueHole dX2_sealValue_152 m_1322 m_743 m_1476 m_711 m_70 ⟨by decide, by decide, show (parseMethodDescriptor yX0_isValueHole.desc).map (fun d => d.parameters.length) = some 1 from by decide +kernel⟩ (Nat.le_of_ble_eq_true rfl) (by rw [hcf]; exact Nat.le_of_ble_eq_true rfl) hk62 rfl rfl (Nat.le_of_ble_eq_true rfl) ⟨A, k, a, b, rfl, hCG57, hab, (by first | assumption | omega), (by first | assumption | omega), fun rr60 hp61 => ?_⟩
          show WP kX2_sealValue X 155 [some (2, ((327682 : Nat) : Int)), some (0, k), some (2, ((A : Nat) : Int)), some (2, ((B : Nat) : Int)), some (2, ((f : Nat) : Int)), some (0, rr58), none] [(0, rr60)] G57
          have J64 : ∀ z63 : Int, ((rr60 = 0) ∧ z63 = 2) ∨ ((¬ rr60 = 0) ∧ z63 = 1) → WP kX2_sealValue X 163 [some (2, ((327682 : Nat) : Int)), some (0, k), some (2, ((A : Nat) : Int)), some (2, ((B : Nat) : Int)), some (2, ((f : Nat) : Int)), some (0, rr58), none] [(0, z63)] G57 := by
            intro z63 hz63
            refine s_aload_n dX2_sealValue_163 rfl (Int.natCast_nonneg _) ?_
            have hk65 : gK G57 (B) = (9, 0) := ((hXG57).k hk42 (by decide))
            refine s_alv (B) (by simp) (fun al66 => ?_)
            have hv67 : gS G57 B 2 = ((B + 2 : Nat) : Int) := by have h9 : (gS G57 B 2) = (((B % 1048576) + 2 : Nat) : Int) := hCG57.1.v (j := 2) (by rw [cde_n (by omega) (by omega)]; omega : cde B = 101) al66 (by rw [hk65]; exact Nat.le_of_ble_eq_true rfl); omega
            refine s_getf (ci := 1) (k := 2) (C := RX0) (T := TX0) (N := 7) (n := B) (L := 0) (t := 2) dX2_sealValue_164 rfl wi_65 m_576 (Nat.le_of_ble_eq_true rfl) rfl rfl hk65 hv67 ?_
            refine s_iload_n dX2_sealValue_167 rfl ?_
            have hk68 : gK G57 (B + 2) = (1, 10) := ((hXG57).k ((hXG14).k kB2 (by decide)) (by decide))
            refine s_iald dX2_sealValue_168 hk68 (by omega) (by omega) rfl ?_
            refine s_iconst dX2_sealValue_169 (by decide) ?_
            refine s_iand dX2_sealValue_170 ?_
            refine s_ior dX2_sealValue_171 ?_
            refine s_istore dX2_sealValue_172 (by decide) (lv' := [some (2, ((327682 : Nat) : Int)), some (0, k), some (2, ((A : Nat) : Int)), some (2, ((B : Nat) : Int)), some (2, ((f : Nat) : Int)), some (0, rr58), some (0, i_or z63 (i_and (gS G57 (B + 2) ((k : Int).toNat)) 4))]) rfl ?_
            refine s_aload dX2_sealValue_174 rfl (Int.natCast_nonneg _) ?_
            refine s_iload_n dX2_sealValue_176 rfl ?_
            refine s_iload dX2_sealValue_177 rfl ?_
            refine s_aload_n dX2_sealValue_179 rfl (Int.natCast_nonneg _) ?_
            have hk69 : gK G57 (327682) = (11, 0) := ((hXG57).k hk17 (by decide))
            refine s_alv (327682) (by simp) (fun al70 => ?_)
            have hv71 : gS G57 327682 6 = ((327691 : Nat) : Int) := by have h9 : (gS G57 327682 6) = 327691 := hCG57.1.v (j := 6) (by decide : cde 327682 = 502) al70 (by rw [hk69]; exact Nat.le_of_ble_eq_true rfl); omega
            refine s_getf (ci := 3) (k := 6) (C := RX2) (T := TX2) (N := 8) (n := 327682) (L := 0) (t := 2) dX2_sealValue_180 rfl wi_70 m_582 (Nat.le_of_ble_eq_true rfl) rfl rfl hk69 hv71 ?_
            refine s_iload dX2_sealValue_183 rfl ?_
            have hk72 : gK G57 (327691) = (1, 200) := ((hXG57).k hk31 (by decide))
            have hk75 : gK G57 (f) = (9, 0) := ((hXG57).k ((hXG14).k kf0 (by decide)) (by decide))
            refine s_callV (as := [(0, k), (0, i_or z63 (i_and (gS G57 (B + 2) ((k : Int).toNat)) 4)), (2, ((327691 : Nat) : Int)), (0, rr58)]) (rest := []) (n := f) (ci := 1) gX0_putValue dX2_sealValue_185 m_1320 m_750 m_1483 m_711 m_77 ⟨by decide, by decide, show (parseMethodDescriptor yX0_putValue.desc).map (fun d => d.parameters.length) = some 4 from by decide +kernel⟩ (Nat.le_of_ble_eq_true rfl) (by rw [hcf]; exact Nat.le_of_ble_eq_true rfl) hk75 rfl rfl (Nat.le_of_ble_eq_true rfl) ⟨f, k, i_or z63 (i_and (gS G57 (B + 2) ((k : Int).toNat)) 4), 327691, 200, rr58, a, b, rfl, hCG57, hab, (by first | assumption | omega), (by first | assumption | omega), hk72, (by first | assumption | omega), (by first | assumption | omega), (by first | assumption | omega), fun G73 hCG73 hXG73 hfG73 hpG73 => ?_⟩
            have hFG73 : WX (fun x => x = 327691 ∨ (f + 1 ≤ x ∧ x ≤ f + 22)) G G73 := WX.trans hFG57 (KX.trans hXG14 hXG57) (WX.mono hfG73 (fun x hx => by omega))
            have hFJG73 : ∀ k : Nat, k < 6 → FIP P G73 262208 k := fun k hk => FIP.ns (hFJG57 k hk) hXG73 hfG73 hk (KX.al (KX.trans hXG14 hXG57) (kne k262213 (by decide))) (fun k hk => by show ¬ _; omega) (by show ¬ _; omega)
            have hFBG73 : FPa P G73 B := (hFBG57).ns hXG73 hfG73 ⟨KX.al (KX.trans hXG14 hXG57) (kne kB3 (by decide)), KX.al (KX.trans hXG14 hXG57) (kne kB4 (by decide))⟩ ⟨by show ¬ _; omega, by show ¬ _; omega, fun p hp => by show ¬ _; omega⟩
            have hFfG73 : FPa P G73 f := FPa.put hpG73.1 hFfG57 (fun _ _ => hpG57.2 P ((hFBG14 (6 + k : Int).toNat (by omega)).rps hv48 rfl) hFJG14 (by omega)) hXG73 hfG73 (fun p hp hn => by show ¬ _; omega)
            show WP kX2_sealValue X 188 [some (2, ((327682 : Nat) : Int)), some (0, k), some (2, ((A : Nat) : Int)), some (2, ((B : Nat) : Int)), some (2, ((f : Nat) : Int)), some (0, rr58), some (0, i_or z63 (i_and (gS G57 (B + 2) ((k : Int).toNat)) 4))] [] G73
            refine s_iconst dX2_sealValue_188 (by decide) ?_
            exact s_iret hR dX2_sealValue_189 rfl (hQ 0 G73 hCG73 (KX.trans (KX.trans hXG14 hXG57) hXG73) hFG73 hFfG73)
          refine s_if_eq (tgt := 162) dX2_sealValue_155 (by decide) (fun c76 => ?_) (fun c76 => ?_)
          · -- 155 to 162
            refine s_iconst dX2_sealValue_162 (by decide) ?_
            exact J64 2 (Or.inl ⟨c76, rfl⟩)
          · -- 155 to 158
            refine s_iconst dX2_sealValue_158 (by decide) ?_
            refine s_goto (tgt := 163) dX2_sealValue_159 (by decide) ?_
            exact J64 1 (Or.inr (⟨c76, rfl⟩))
        · -- 101 to 104
          refine s_aload_n dX2_sealValue_104 rfl (Int.natCast_nonneg _) ?_
          refine s_iload_n dX2_sealValue_105 rfl ?_
          have hk79 : gK G14 (B) = (9, 0) := ((hXG14).k kB0 (by decide))
          refine s_callV (as := [(0, k)]) (rest := []) (n := B) (ci := 1) gX0_isGhost dX2_sealValue_106 m_1323 m_741 m_1474 m_711 m_68 ⟨by decide, by decide, show (parseMethodDescriptor yX0_isGhost.desc).map (fun d => d.parameters.length) = some 1 from by decide +kernel⟩ (Nat.le_of_ble_eq_true rfl) (by rw [hcf]; exact Nat.le_of_ble_eq_true rfl) hk79 rfl rfl (Nat.le_of_ble_eq_true rfl) ⟨B, k, a, b, rfl, hCG14, hab, (by first | assumption | omega), (by first | assumption | omega), fun rr77 hp78 => ?_⟩
          show WP kX2_sealValue X 109 [some (2, ((327682 : Nat) : Int)), some (0, k), some (2, ((A : Nat) : Int)), some (2, ((B : Nat) : Int)), some (2, ((f : Nat) : Int)), some (0, rr15), none] [(0, rr77)] G14
          refine s_if_ne (tgt := 119) dX2_sealValue_109 (by decide) (fun c80 => ?_) (fun c80 => ?_)
          · -- 109 to 119
            refine s_aload_n dX2_sealValue_119 rfl (Int.natCast_nonneg _) ?_
            have hv81 : gS G14 327682 3 = ((262208 : Nat) : Int) := by have h9 : (gS G14 327682 3) = 262208 := hCG14.1.v (j := 3) (by decide : cde 327682 = 502) al18 (by rw [hk17]; exact Nat.le_of_ble_eq_true rfl); omega
            refine s_getf (ci := 3) (k := 3) (C := RX2) (T := TX2) (N := 8) (n := 327682) (L := 0) (t := 2) dX2_sealValue_120 rfl wi_70 m_580 (Nat.le_of_ble_eq_true rfl) rfl rfl hk17 hv81 ?_
            refine s_aload_n dX2_sealValue_123 rfl (Int.natCast_nonneg _) ?_
            refine s_alv (B) (by simp) (fun al82 => ?_)
            have hv83 : gS G14 B 3 = ((B + 3 : Nat) : Int) := by have h9 : (gS G14 B 3) = (((B % 1048576) + 3 : Nat) : Int) := hCG14.1.v (j := 3) (by rw [cde_n (by omega) (by omega)]; omega : cde B = 101) al82 (by rw [hk79]; exact Nat.le_of_ble_eq_true rfl); omega
            refine s_getf (ci := 1) (k := 3) (C := RX0) (T := TX0) (N := 7) (n := B) (L := 0) (t := 2) dX2_sealValue_124 rfl wi_65 m_574 (Nat.le_of_ble_eq_true rfl) rfl rfl hk79 hv83 ?_
            refine s_bipush dX2_sealValue_127 rfl (by decide) ?_
            refine s_iload_n dX2_sealValue_129 rfl ?_
            refine s_iadd dX2_sealValue_130 (by omega) ?_
            have hk84 : gK G14 (B + 3) = (4, 16) := ((hXG14).k kB3 (by decide))
            refine s_alv (B + 3) (by simp) (fun al85 => ?_)
            have hv87b : 0 ≤ (gS G14 (B + 3) (6 + k : Int).toNat) ∧ (gS G14 (B + 3) (6 + k : Int).toNat) % 1048576 = ((((B + 3) % 1048576) + 4 + ((6 + k : Int).toNat) : Nat) : Int) := hCG14.1.v (j := (6 + k : Int).toNat) (by rw [cde_n (by omega) (by omega)]; omega : cde (B + 3) = 104) al85 (by rw [hk84]; show (6 + k : Int).toNat < 16; omega)
            obtain ⟨q86, hv87⟩ : ∃ q : Nat, gS G14 (B + 3) (6 + k : Int).toNat = (q : Int) := ⟨(gS G14 (B + 3) (6 + k : Int).toNat).toNat, by omega⟩
            rw [hv87] at hv87b
            refine s_aald4 dX2_sealValue_131 hk84 (by omega) (by omega) hv87 ?_
            refine s_aload_n dX2_sealValue_132 rfl (Int.natCast_nonneg _) ?_
            have hv88 : gS G14 B 4 = ((B + 4 : Nat) : Int) := by have h9 : (gS G14 B 4) = (((B % 1048576) + 4 : Nat) : Int) := hCG14.1.v (j := 4) (by rw [cde_n (by omega) (by omega)]; omega : cde B = 101) al82 (by rw [hk79]; exact Nat.le_of_ble_eq_true rfl); omega
            refine s_getf (ci := 1) (k := 4) (C := RX0) (T := TX0) (N := 7) (n := B) (L := 0) (t := 2) dX2_sealValue_133 rfl wi_65 m_575 (Nat.le_of_ble_eq_true rfl) rfl rfl hk79 hv88 ?_
            refine s_bipush dX2_sealValue_136 rfl (by decide) ?_
            refine s_iload_n dX2_sealValue_138 rfl ?_
            refine s_iadd dX2_sealValue_139 (by omega) ?_
            have hk89 : gK G14 (B + 4) = (1, 16) := ((hXG14).k kB4 (by decide))
            refine s_alv (B + 4) (by simp) (fun al90 => ?_)
            have hv91 : 0 ≤ (gS G14 (B + 4) (6 + k : Int).toNat) ∧ (gS G14 (B + 4) (6 + k : Int).toNat) ≤ 200 := hCG14.1.v (j := (6 + k : Int).toNat) (by rw [cde_n (by omega) (by omega)]; omega : cde (B + 4) = 105) al90 (by rw [hk89]; show (6 + k : Int).toNat < 16; omega)
            refine s_iald dX2_sealValue_140 hk89 (by omega) (by omega) rfl ?_
            refine s_aload_n dX2_sealValue_141 rfl (Int.natCast_nonneg _) ?_
            have hv92 : gS G14 327682 6 = ((327691 : Nat) : Int) := by have h9 : (gS G14 327682 6) = 327691 := hCG14.1.v (j := 6) (by decide : cde 327682 = 502) al18 (by rw [hk17]; exact Nat.le_of_ble_eq_true rfl); omega
            refine s_getf (ci := 3) (k := 6) (C := RX2) (T := TX2) (N := 8) (n := 327682) (L := 0) (t := 2) dX2_sealValue_142 rfl wi_70 m_582 (Nat.le_of_ble_eq_true rfl) rfl rfl hk17 hv92 ?_
            refine s_alv (q86) (by simp) (fun al93 => ?_)
            obtain ⟨L95, hk94, hL95a, hL95b⟩ := hCG14.1.kr (show 108 ≤ cde q86 ∧ cde q86 < 124 from by rw [cde_n (by omega) (by omega)]; omega) al93
            have hk98 : gK G14 (262208) = (10, 0) := ((hXG14).k k262208 (by decide))
            refine s_callV (as := [(2, ((q86 : Nat) : Int)), (0, gS G14 (B + 4) ((6 + k : Int).toNat)), (2, ((327691 : Nat) : Int))]) (rest := []) (n := 262208) (ci := 2) gX1_put dX2_sealValue_145 m_1319 m_918 m_1493 m_712 m_260 ⟨by decide, by decide, show (parseMethodDescriptor yX1_put.desc).map (fun d => d.parameters.length) = some 3 from by decide +kernel⟩ (Nat.le_of_ble_eq_true rfl) (by rw [hcf]; exact Nat.le_of_ble_eq_true rfl) hk98 rfl rfl (Nat.le_of_ble_eq_true rfl) ⟨262208, q86, L95, gS G14 (B + 4) ((6 + k : Int).toNat), 327691, a, b, rfl, hCG14, hab, (by first | assumption | omega), hk94, (by omega), hk31, (by exact FRW.s), (by omega), (by intro k9 hk9 hq9; omega), (by omega), fun rr97 G96 hCG96 hXG96 hfG96 hpG96 => ?_⟩
            have hFG96 : WX (fun x => x = 327691 ∨ (f + 1 ≤ x ∧ x ≤ f + 22)) G G96 := WX.trans hFG14 hXG14 (WX.mono hfG96 rg0)
            have hFJG96 : ∀ k : Nat, k < 6 → FIP P G96 262208 k := fun k hk => FIP.ns (hFJG14 k hk) hXG96 hfG96 hk (KX.al hXG14 (kne k262213 (by decide))) rg1 rg2
            have hFBG96 : FPa P G96 B := (hFBG14).ns hXG96 hfG96 ⟨KX.al hXG14 (kne kB3 (by decide)), KX.al hXG14 (kne kB4 (by decide))⟩ rg3
            have hFfG96 : FPa P G96 f := (hFfG14).ns hXG96 hfG96 ⟨KX.al hXG14 (kne kf3 (by decide)), KX.al hXG14 (kne kf4 (by decide))⟩ rg4
            show WP kX2_sealValue X 148 [some (2, ((327682 : Nat) : Int)), some (0, k), some (2, ((A : Nat) : Int)), some (2, ((B : Nat) : Int)), some (2, ((f : Nat) : Int)), some (0, rr15), none] [(0, rr97)] G96
            refine s_istore dX2_sealValue_148 (by decide) (lv' := [some (2, ((327682 : Nat) : Int)), some (0, k), some (2, ((A : Nat) : Int)), some (2, ((B : Nat) : Int)), some (2, ((f : Nat) : Int)), some (0, rr97), none]) rfl ?_
            refine s_aload_n dX2_sealValue_150 rfl (Int.natCast_nonneg _) ?_
            refine s_iload_n dX2_sealValue_151 rfl ?_
            have hk101 : gK G96 (A) = (9, 0) := ((hXG96).k hk20 (by decide))
            refine s_callV (as := [(0, k)]) (rest := []) (n := A) (ci := 1) gX0_isValueHole dX2_sealValue_152 m_1322 m_743 m_1476 m_711 m_70 ⟨by decide, by decide, show (parseMethodDescriptor yX0_isValueHole.desc).map (fun d => d.parameters.length) = some 1 from by decide +kernel⟩ (Nat.le_of_ble_eq_true rfl) (by rw [hcf]; exact Nat.le_of_ble_eq_true rfl) hk101 rfl rfl (Nat.le_of_ble_eq_true rfl) ⟨A, k, a, b, rfl, hCG96, hab, (by first | assumption | omega), (by first | assumption | omega), fun rr99 hp100 => ?_⟩
            show WP kX2_sealValue X 155 [some (2, ((327682 : Nat) : Int)), some (0, k), some (2, ((A : Nat) : Int)), some (2, ((B : Nat) : Int)), some (2, ((f : Nat) : Int)), some (0, rr97), none] [(0, rr99)] G96
            have J103 : ∀ z102 : Int, ((rr99 = 0) ∧ z102 = 2) ∨ ((¬ rr99 = 0) ∧ z102 = 1) → WP kX2_sealValue X 163 [some (2, ((327682 : Nat) : Int)), some (0, k), some (2, ((A : Nat) : Int)), some (2, ((B : Nat) : Int)), some (2, ((f : Nat) : Int)), some (0, rr97), none] [(0, z102)] G96 := by
              intro z102 hz102
              refine s_aload_n dX2_sealValue_163 rfl (Int.natCast_nonneg _) ?_
              have hk104 : gK G96 (B) = (9, 0) := ((hXG96).k hk79 (by decide))
              refine s_alv (B) (by simp) (fun al105 => ?_)
              have hv106 : gS G96 B 2 = ((B + 2 : Nat) : Int) := by have h9 : (gS G96 B 2) = (((B % 1048576) + 2 : Nat) : Int) := hCG96.1.v (j := 2) (by rw [cde_n (by omega) (by omega)]; omega : cde B = 101) al105 (by rw [hk104]; exact Nat.le_of_ble_eq_true rfl); omega
              refine s_getf (ci := 1) (k := 2) (C := RX0) (T := TX0) (N := 7) (n := B) (L := 0) (t := 2) dX2_sealValue_164 rfl wi_65 m_576 (Nat.le_of_ble_eq_true rfl) rfl rfl hk104 hv106 ?_
              refine s_iload_n dX2_sealValue_167 rfl ?_
              have hk107 : gK G96 (B + 2) = (1, 10) := ((hXG96).k ((hXG14).k kB2 (by decide)) (by decide))
              refine s_iald dX2_sealValue_168 hk107 (by omega) (by omega) rfl ?_
              refine s_iconst dX2_sealValue_169 (by decide) ?_
              refine s_iand dX2_sealValue_170 ?_
              refine s_ior dX2_sealValue_171 ?_
              refine s_istore dX2_sealValue_172 (by decide) (lv' := [some (2, ((327682 : Nat) : Int)), some (0, k), some (2, ((A : Nat) : Int)), some (2, ((B : Nat) : Int)), some (2, ((f : Nat) : Int)), some (0, rr97), some (0, i_or z102 (i_and (gS G96 (B + 2) ((k : Int).toNat)) 4))]) rfl ?_
              refine s_aload dX2_sealValue_174 rfl (Int.natCast_nonneg _) ?_
              refine s_iload_n dX2_sealValue_176 rfl ?_
              refine s_iload dX2_sealValue_177 rfl ?_
              refine s_aload_n dX2_sealValue_179 rfl (Int.natCast_nonneg _) ?_
              have hk108 : gK G96 (327682) = (11, 0) := ((hXG96).k hk17 (by decide))
              refine s_alv (327682) (by simp) (fun al109 => ?_)
              have hv110 : gS G96 327682 6 = ((327691 : Nat) : Int) := by have h9 : (gS G96 327682 6) = 327691 := hCG96.1.v (j := 6) (by decide : cde 327682 = 502) al109 (by rw [hk108]; exact Nat.le_of_ble_eq_true rfl); omega
              refine s_getf (ci := 3) (k := 6) (C := RX2) (T := TX2) (N := 8) (n := 327682) (L := 0) (t := 2) dX2_sealValue_180 rfl wi_70 m_582 (Nat.le_of_ble_eq_true rfl) rfl rfl hk108 hv110 ?_
              refine s_iload dX2_sealValue_183 rfl ?_
              have hk111 : gK G96 (327691) = (1, 200) := ((hXG96).k hk31 (by decide))
              have hk114 : gK G96 (f) = (9, 0) := ((hXG96).k ((hXG14).k kf0 (by decide)) (by decide))
              refine s_callV (as := [(0, k), (0, i_or z102 (i_and (gS G96 (B + 2) ((k : Int).toNat)) 4)), (2, ((327691 : Nat) : Int)), (0, rr97)]) (rest := []) (n := f) (ci := 1) gX0_putValue dX2_sealValue_185 m_1320 m_750 m_1483 m_711 m_77 ⟨by decide, by decide, show (parseMethodDescriptor yX0_putValue.desc).map (fun d => d.parameters.length) = some 4 from by decide +kernel⟩ (Nat.le_of_ble_eq_true rfl) (by rw [hcf]; exact Nat.le_of_ble_eq_true rfl) hk114 rfl rfl (Nat.le_of_ble_eq_true rfl) ⟨f, k, i_or z102 (i_and (gS G96 (B + 2) ((k : Int).toNat)) 4), 327691, 200, rr97, a, b, rfl, hCG96, hab, (by first | assumption | omega), (by first | assumption | omega), hk111, (by first | assumption | omega), (by first | assumption | omega), (by first | assumption | omega), fun G112 hCG112 hXG112 hfG112 hpG112 => ?_⟩
              have hFG112 : WX (fun x => x = 327691 ∨ (f + 1 ≤ x ∧ x ≤ f + 22)) G G112 := WX.trans hFG96 (KX.trans hXG14 hXG96) (WX.mono hfG112 (fun x hx => by omega))
              have hFJG112 : ∀ k : Nat, k < 6 → FIP P G112 262208 k := fun k hk => FIP.ns (hFJG96 k hk) hXG112 hfG112 hk (KX.al (KX.trans hXG14 hXG96) (kne k262213 (by decide))) (fun k hk => by show ¬ _; omega) (by show ¬ _; omega)
              have hFBG112 : FPa P G112 B := (hFBG96).ns hXG112 hfG112 ⟨KX.al (KX.trans hXG14 hXG96) (kne kB3 (by decide)), KX.al (KX.trans hXG14 hXG96) (kne kB4 (by decide))⟩ ⟨by show ¬ _; omega, by show ¬ _; omega, fun p hp => by show ¬ _; omega⟩
              have hFfG112 : FPa P G112 f := FPa.put hpG112.1 hFfG96 (fun _ _ => hpG96.2 P ((hFBG14 (6 + k : Int).toNat (by omega)).rps hv87 rfl) hFJG14 (by omega)) hXG112 hfG112 (fun p hp hn => by show ¬ _; omega)
              show WP kX2_sealValue X 188 [some (2, ((327682 : Nat) : Int)), some (0, k), some (2, ((A : Nat) : Int)), some (2, ((B : Nat) : Int)), some (2, ((f : Nat) : Int)), some (0, rr97), some (0, i_or z102 (i_and (gS G96 (B + 2) ((k : Int).toNat)) 4))] [] G112
              refine s_iconst dX2_sealValue_188 (by decide) ?_
              exact s_iret hR dX2_sealValue_189 rfl (hQ 0 G112 hCG112 (KX.trans (KX.trans hXG14 hXG96) hXG112) hFG112 hFfG112)
            refine s_if_eq (tgt := 162) dX2_sealValue_155 (by decide) (fun c115 => ?_) (fun c115 => ?_)
            · -- 155 to 162
              refine s_iconst dX2_sealValue_162 (by decide) ?_
              exact J103 2 (Or.inl ⟨c115, rfl⟩)
            · -- 155 to 158
              refine s_iconst dX2_sealValue_158 (by decide) ?_
              refine s_goto (tgt := 163) dX2_sealValue_159 (by decide) ?_
              exact J103 1 (Or.inr (⟨c115, rfl⟩))
          · -- 109 to 112
            refine s_bipush dX2_sealValue_112 rfl (by decide) ?_
            refine s_iload_n dX2_sealValue_114 rfl ?_
            refine s_callSN (own := RX2) rfl (by decide +kernel) (as := [(0, 6), (0, k)]) (rest := []) gX11_valueMistake dX2_sealValue_115 m_1784 m_714 m_129 ⟨by decide, by decide, show (parseMethodDescriptor yX11_valueMistake.desc).map (fun d => d.parameters.length) = some 2 from by decide +kernel⟩ (Nat.le_of_ble_eq_true rfl) (by rw [hcf]; exact Nat.le_of_ble_eq_true rfl) rfl (Nat.le_of_ble_eq_true rfl) ⟨6, k, rfl, (by first | assumption | omega), (by first | assumption | omega), fun rr116 hp117 => ?_⟩
            show WP kX2_sealValue X 118 [some (2, ((327682 : Nat) : Int)), some (0, k), some (2, ((A : Nat) : Int)), some (2, ((B : Nat) : Int)), some (2, ((f : Nat) : Int)), some (0, rr15), none] [(0, rr116)] G14
            exact s_iret hR dX2_sealValue_118 rfl (hQ rr116 G14 hCG14 hXG14 hFG14 hFfG14)
      · -- 87 to 90
        refine s_iconst dX2_sealValue_90 (by decide) ?_
        refine s_iload_n dX2_sealValue_91 rfl ?_
        refine s_callSN (own := RX2) rfl (by decide +kernel) (as := [(0, 2), (0, k)]) (rest := []) gX11_valueMistake dX2_sealValue_92 m_1784 m_714 m_129 ⟨by decide, by decide, show (parseMethodDescriptor yX11_valueMistake.desc).map (fun d => d.parameters.length) = some 2 from by decide +kernel⟩ (Nat.le_of_ble_eq_true rfl) (by rw [hcf]; exact Nat.le_of_ble_eq_true rfl) rfl (Nat.le_of_ble_eq_true rfl) ⟨2, k, rfl, (by first | assumption | omega), (by first | assumption | omega), fun rr118 hp119 => ?_⟩
        show WP kX2_sealValue X 95 [some (2, ((327682 : Nat) : Int)), some (0, k), some (2, ((A : Nat) : Int)), some (2, ((B : Nat) : Int)), some (2, ((f : Nat) : Int)), some (0, rr15), none] [(0, rr118)] G14
        exact s_iret hR dX2_sealValue_95 rfl (hQ rr118 G14 hCG14 hXG14 hFG14 hFfG14)
    · -- 50 to 53
      refine s_bipush dX2_sealValue_53 rfl (by decide) ?_
      refine s_iload_n dX2_sealValue_55 rfl ?_
      refine s_callSN (own := RX2) rfl (by decide +kernel) (as := [(0, 7), (0, k)]) (rest := []) gX11_valueMistake dX2_sealValue_56 m_1784 m_714 m_129 ⟨by decide, by decide, show (parseMethodDescriptor yX11_valueMistake.desc).map (fun d => d.parameters.length) = some 2 from by decide +kernel⟩ (Nat.le_of_ble_eq_true rfl) (by rw [hcf]; exact Nat.le_of_ble_eq_true rfl) rfl (Nat.le_of_ble_eq_true rfl) ⟨7, k, rfl, (by first | assumption | omega), (by first | assumption | omega), fun rr120 hp121 => ?_⟩
      show WP kX2_sealValue X 59 [some (2, ((327682 : Nat) : Int)), some (0, k), some (2, ((A : Nat) : Int)), some (2, ((B : Nat) : Int)), some (2, ((f : Nat) : Int)), some (0, rr15), none] [(0, rr120)] G14
      exact s_iret hR dX2_sealValue_59 rfl (hQ rr120 G14 hCG14 hXG14 hFG14 hFfG14)
  · -- 5 to 8
    refine s_iconst dX2_sealValue_8 (by decide) ?_
    refine s_iload_n dX2_sealValue_9 rfl ?_
    refine s_callSN (own := RX2) rfl (by decide +kernel) (as := [(0, 5), (0, k)]) (rest := []) gX11_valueMistake dX2_sealValue_10 m_1784 m_714 m_129 ⟨by decide, by decide, show (parseMethodDescriptor yX11_valueMistake.desc).map (fun d => d.parameters.length) = some 2 from by decide +kernel⟩ (Nat.le_of_ble_eq_true rfl) (by rw [hcf]; exact Nat.le_of_ble_eq_true rfl) rfl (Nat.le_of_ble_eq_true rfl) ⟨5, k, rfl, (by first | assumption | omega), (by first | assumption | omega), fun rr122 hp123 => ?_⟩
    show WP kX2_sealValue X 13 [some (2, ((327682 : Nat) : Int)), some (0, k), some (2, ((A : Nat) : Int)), some (2, ((B : Nat) : Int)), some (2, ((f : Nat) : Int)), none, none] [(0, rr122)] G
    exact s_iret hR dX2_sealValue_13 rfl (hQ rr122 G hC KX.rf WX.rf hFf)
