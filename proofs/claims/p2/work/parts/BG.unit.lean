abbrev kX3_unitInstance : KD := (RX3, cX3_unitInstance, 7, (some .int), [])
def TX3_unitInstance : TR := fun as G Qr => ∃ (o v : Nat) (a b : Nat), as = [(2, ((o : Nat) : Int)), (2, ((v : Nat) : Int))] ∧ CI a b G ∧ (a ≤ 2840000 ∧ b ≤ 590000) ∧ (isMc o) ∧ (isVr v) ∧ (gS G o 9 < 24) ∧ ∀ (r : Int) (G' : LG), CI a b G' → KX G G' → WX (fun x => x = o ∨ (o + 1 ≤ x ∧ x ≤ o + 4) ∨ x = o + 7) G G' → (r = gS G o 9 ∧ gS G' o 9 = gS G o 9 + 1 ∧ MI G' o (gS G o 9) ∧ LO G G' o (10 * gS G o 9)) → Qr (.inl (some (0, r))) G'
set_option maxHeartbeats 4000000 in
set_option maxRecDepth 100000 in
theorem gX3_unitInstance : Good kX3_unitInstance yX3_unitInstance 2 TX3_unitInstance := by
  refine good_of (by decide) rfl rfl (fun as G Qr h => ?_) (fun X as G Qr hcf hR hT oa => ?_)
  · obtain ⟨o, v, a, b, rfl, -⟩ := h; exact Nat.le_of_ble_eq_true rfl
  obtain ⟨o, v, a, b, rfl, hC, hab, ho, hv, hi, hQ⟩ := hT
  show WP kX3_unitInstance X 0 [some (2, ((o : Nat) : Int)), some (2, ((v : Nat) : Int)), none, none, none, none, none] [] G
  refine s_alvl o (k := 0) rfl (fun alo => ?_)
  refine s_lk (fun hlk => ?_)
  have hmn := hlk.mna hC ho alo
  obtain ⟨kM, kM1, kM2, kM3, kM4, kM5, kM6, kM7, kM8, kM13, kM15, kM20, kMp, kMp5, kMp6, kMp7, kMp8, kMp9, kMp10, kMp13, kMp14, kMp16⟩ := id hmn
  have hin : 0 ≤ gS G o 9 ∧ gS G o 9 ≤ 24 := hC.1.v (c := 300) (j := 9) (by rcases ho with rfl | rfl <;> decide) alo (by rw [kM]; exact Nat.le_of_ble_eq_true rfl)
  obtain ⟨jv, hjv, hvj⟩ : ∃ j, j < 40 ∧ v = 131072 + 64 * j := ⟨(v - 131072) / 64, by omega, by omega⟩
  have rg0 : RNx (fun x => x = (o + 1) % 1048576) (o % 1048576) := by show ¬ _; omega
  have rg1 : RNx (fun x => x = (o + 2) % 1048576) (o % 1048576) := by show ¬ _; omega
  have rg2 : RNx (fun x => x = (o + 3) % 1048576) (o % 1048576) := by show ¬ _; omega
  have rg3 : RNx (fun x => x = (o + 7) % 1048576) (o % 1048576) := by show ¬ _; omega
  have rg4 : RNx (fun x => x = (o + 4) % 1048576) (o % 1048576) := by show ¬ _; omega
  have hI : gS G o 9 = gS G o 9 := rfl
  refine s_aload_n dX3_unitInstance_0 rfl (Int.natCast_nonneg _) ?_
  have hv1 : 0 ≤ (gS G o 9) ∧ (gS G o 9) ≤ 24 := hC.1.v (j := 9) (by rw [cde_m (by omega) (by omega)]; omega : cde o = 300) (kne kM (by decide)) (by rw [kM]; exact Nat.le_of_ble_eq_true rfl)
  refine s_getf (ci := 4) (k := 9) (C := RX3) (T := TX3) (N := 18) (n := o) (L := 0) (t := 0) dX3_unitInstance_1 rfl wi_71 m_622 (Nat.le_of_ble_eq_true rfl) rfl rfl kM rfl ?_
  refine s_bipush dX3_unitInstance_4 rfl (by decide) ?_
  refine s_imul dX3_unitInstance_6 (by omega) ?_
  refine s_istore_n dX3_unitInstance_7 (by decide) (lv' := [some (2, ((o : Nat) : Int)), some (2, ((v : Nat) : Int)), some (0, (gS G o 9) * 10), none, none, none, none]) rfl ?_
  refine s_iconst dX3_unitInstance_8 (by decide) ?_
  refine s_istore_n dX3_unitInstance_9 (by decide) (lv' := [some (2, ((o : Nat) : Int)), some (2, ((v : Nat) : Int)), some (0, (gS G o 9) * 10), some (0, 0), none, none, none]) rfl ?_
  have L2 : ∀ (n2 : Nat) (k2 : Int) (G2 : LG), CI a b G2 → KX G G2 → WX (fun x => x = o ∨ (o + 1 ≤ x ∧ x ≤ o + 4) ∨ x = o + 7) G G2 → ((0 ≤ k2 ∧ k2 ≤ 10) ∧ (∀ s : Int, 10 * gS G o 9 ≤ s → s < 10 * gS G o 9 + k2 → gS G2 (o + 1) s.toNat < gS G 327681 12 ∧ gS G2 (o + 3) s.toNat = -1 ∧ (gS G2 (o + 4) s.toNat = -1 ∨ gS G2 (o + 4) s.toNat = s)) ∧ (LO G G2 o (10 * gS G o 9)) ∧ (gS G2 o 9 = gS G o 9)) → (10 - k2).toNat < n2 → WP kX3_unitInstance X 10 [some (2, ((o : Nat) : Int)), some (2, ((v : Nat) : Int)), some (0, (gS G o 9) * 10), some (0, k2), none, none, none] [] G2 := by
    intro n2
    induction n2 with
    | zero => intro k2 G2 hCG2 hXG2 hFG2 hi2 hm2; exact absurd hm2 (Nat.not_lt_zero _)
    | succ n2 ih2 =>
      intro k2 G2 hCG2 hXG2 hFG2 hi2 hm2
      obtain ⟨ik2, iM2, iL2, hIG2⟩ := hi2
      refine s_iload_n dX3_unitInstance_10 rfl ?_
      refine s_bipush dX3_unitInstance_11 rfl (by decide) ?_
      refine s_icmp_ge (tgt := 155) dX3_unitInstance_13 (by decide) (fun c3 => ?_) (fun c3 => ?_)
      · -- 13 to 155
        refine s_aload_n dX3_unitInstance_155 rfl (Int.natCast_nonneg _) ?_
        refine s_dup dX3_unitInstance_156 (show (2 : Nat) ≠ 1 by decide) ?_
        have hk4 : gK G2 (o) = (12, 0) := ((hXG2).k kM (by decide))
        refine s_alv (o) (by simp) (fun (al6 : AL G2 o) => ?_)
        have hv5 : 0 ≤ (gS G2 o 9) ∧ (gS G2 o 9) ≤ 24 := hCG2.1.v (j := 9) (by rw [cde_m (by omega) (by omega)]; omega : cde o = 300) al6 (by rw [hk4]; exact Nat.le_of_ble_eq_true rfl)
        refine s_getf (ci := 4) (k := 9) (C := RX3) (T := TX3) (N := 18) (n := o) (L := 0) (t := 0) dX3_unitInstance_157 rfl wi_71 m_622 (Nat.le_of_ble_eq_true rfl) rfl rfl hk4 rfl ?_
        refine s_iconst dX3_unitInstance_160 (by decide) ?_
        refine s_iadd dX3_unitInstance_161 (by omega) ?_
        refine s_putf (ci := 4) (k := 9) (C := RX3) (T := TX3) (N := 18) (n := o) (L := 0) dX3_unitInstance_162 rfl wi_71 m_622 (Nat.le_of_ble_eq_true rfl) rfl rfl tyX3_ok nmX3 rfl (Or.inl rfl) hk4 ?_
        generalize eG7r : gset G2 o 9 ((gS G2 o 9) + 1) = G7
        have eG7 := eG7r.symm
        have hCG7 : CI a b G7 := by rw [eG7]; exact hCG2.set (by rw [(by rw [cde_m (by omega) (by omega)]; omega : cde o = 300)]; rfl) (by rw [(by rw [cde_m (by omega) (by omega)]; omega : cde o = 300)]; exact (show 0 ≤ ((gS G2 o 9) + 1) ∧ ((gS G2 o 9) + 1) ≤ 24 from by omega))
        have hXG7 : KX G2 G7 := KX.set KX.rf eG7
        have hFG7 : WX (fun x => x = o ∨ (o + 1 ≤ x ∧ x ≤ o + 4) ∨ x = o + 7) G G7 := WX.set hFG2 eG7 (by show _; omega)
        have hfG7 : WX (fun x => x = o % 1048576) G2 G7 := WX.set WX.rf eG7 rfl
        have hIG7 : gS G7 o 9 = gS G o 9 := (show gS G7 o 9 = gS G2 o 9 from by rw [eG7, gset_ne _ _ (fun z => absurd z.2 (by decide))]).trans hIG2
        show WP kX3_unitInstance X 165 [some (2, ((o : Nat) : Int)), some (2, ((v : Nat) : Int)), some (0, (gS G o 9) * 10), some (0, k2), none, none, none] [] G7
        have h9g : gS G7 o 9 = gS G o 9 + 1 := (gsaE eG7).trans (by omega)
        refine s_aload_n dX3_unitInstance_165 rfl (Int.natCast_nonneg _) ?_
        have hk8 : gK G7 (o) = (12, 0) := ((hXG7).k hk4 (by decide))
        refine s_alv (o) (by simp) (fun (al10 : AL G7 o) => ?_)
        have hv9 : 0 ≤ (gS G7 o 9) ∧ (gS G7 o 9) ≤ 24 := hCG7.1.v (j := 9) (by rw [cde_m (by omega) (by omega)]; omega : cde o = 300) al10 (by rw [hk8]; exact Nat.le_of_ble_eq_true rfl)
        refine s_getf (ci := 4) (k := 9) (C := RX3) (T := TX3) (N := 18) (n := o) (L := 0) (t := 0) dX3_unitInstance_166 rfl wi_71 m_622 (Nat.le_of_ble_eq_true rfl) rfl rfl hk8 (gsaE eG7) ?_
        refine s_iconst dX3_unitInstance_169 (by decide) ?_
        refine s_isub dX3_unitInstance_170 (by omega) ?_
        exact s_iret hR dX3_unitInstance_171 rfl (hQ (((gS G2 o 9) + 1) - 1) G7 hCG7 (KX.trans hXG2 hXG7) hFG7 ⟨by omega, h9g, fun s h0 h1 => by rw [h9g] at h1 ⊢; rw [gset_o eG7 (x := o + 1) (by omega), gset_o eG7 (x := o + 3) (by omega), gset_o eG7 (x := o + 4) (by omega), show gS G7 327681 12 = gS G 327681 12 from congrFun (hFG7 327681 (kne kMp (by decide)) (by show ¬ _; omega)) 12]; obtain ⟨z1, z2, z3⟩ := iM2 s h0 (by omega); exact ⟨z1, Or.inl z2, by omega⟩, fun s h0 h1 => by rw [gset_o eG7 (x := o + 1) (by omega), gset_o eG7 (x := o + 3) (by omega), gset_o eG7 (x := o + 4) (by omega)]; exact iL2 s h0 h1⟩)
      · -- 13 to 16
        have K11 : ∀ (c11 : Int), ((c11 = 0 ∨ (c11 = 1 ∧ ¬ gS G2 (v + 2) (k2 : Int).toNat = -2))) → WP kX3_unitInstance X 39 [some (2, ((o : Nat) : Int)), some (2, ((v : Nat) : Int)), some (0, (gS G o 9) * 10), some (0, k2), some (0, c11), none, none] [] G2 := by
          intro c11 hi11
          have ic11 := hi11
          have K12 : ∀ (h12 : Int), (True) → WP kX3_unitInstance X 62 [some (2, ((o : Nat) : Int)), some (2, ((v : Nat) : Int)), some (0, (gS G o 9) * 10), some (0, k2), some (0, c11), some (0, h12), none] [] G2 := by
            intro h12 hi12
            refine s_iload_n dX3_unitInstance_62 rfl ?_
            refine s_iload_n dX3_unitInstance_63 rfl ?_
            refine s_iadd dX3_unitInstance_64 (by omega) ?_
            refine s_istore dX3_unitInstance_65 (by decide) (lv' := [some (2, ((o : Nat) : Int)), some (2, ((v : Nat) : Int)), some (0, (gS G o 9) * 10), some (0, k2), some (0, c11), some (0, h12), some (0, ((gS G o 9) * 10) + k2)]) rfl ?_
            have h8 : ∀ k : Nat, k < 10 → gS G2 (v + 2) k ≠ -2 → gS G2 (v + 3) k < gS G2 327681 12 := fun k hk hb => by have h9 := (hCG2.2.2.2.2.2.2.2.1.1 jv k hjv hk (by rw [← hvj]; exact hb)).1; rw [← hvj] at h9; exact h9
            have h8k := h8 (k2 : Int).toNat (by omega)
            have hpq : gS G2 327681 12 = gS G 327681 12 := congrFun (hFG2 327681 (kne kMp (by decide)) (by show ¬ _; omega)) 12
            refine s_aload_n dX3_unitInstance_67 rfl (Int.natCast_nonneg _) ?_
            have hk13 : gK G2 (o) = (12, 0) := ((hXG2).k kM (by decide))
            refine s_alv (o) (by simp) (fun (al14 : AL G2 o) => ?_)
            have hv15 : gS G2 o 1 = ((o + 1 : Nat) : Int) := by have h9 : (gS G2 o 1) = (((o % 1048576) + 1 : Nat) : Int) := hCG2.1.v (j := 1) (by rw [cde_m (by omega) (by omega)]; omega : cde o = 300) al14 (by rw [hk13]; exact Nat.le_of_ble_eq_true rfl); omega
            refine s_getf (ci := 4) (k := 1) (C := RX3) (T := TX3) (N := 18) (n := o) (L := 0) (t := 2) dX3_unitInstance_68 rfl wi_71 m_593 (Nat.le_of_ble_eq_true rfl) rfl rfl hk13 hv15 ?_
            refine s_iload dX3_unitInstance_71 rfl ?_
            refine s_iload dX3_unitInstance_73 rfl ?_
            have J23 : ∀ z22 : Int, ((c11 = 0) ∧ (h12 = 0) ∧ z22 = (-2)) ∨ ((c11 = 0) ∧ (¬ h12 = 0) ∧ z22 = (-1)) ∨ ((¬ c11 = 0) ∧ z22 = gS G2 (v + 3) ((k2 : Int).toNat)) → WP kX3_unitInstance X 98 [some (2, ((o : Nat) : Int)), some (2, ((v : Nat) : Int)), some (0, (gS G o 9) * 10), some (0, k2), some (0, c11), some (0, h12), some (0, ((gS G o 9) * 10) + k2)] [(0, z22), (0, ((gS G o 9) * 10) + k2), (2, ((o + 1 : Nat) : Int))] G2 := by
              intro z22 hz22
              have hk24 : gK G2 (o + 1) = (1, 240) := ((hXG2).k kM1 (by decide))
              refine s_iast dX3_unitInstance_98 hk24 (by omega) (by omega) ?_
              generalize eG25r : gset G2 (o + 1) ((((gS G o 9) * 10) + k2 : Int).toNat) z22 = G25
              have eG25 := eG25r.symm
              have hCG25 : CI a b G25 := by rw [eG25]; exact hCG2.set (by rw [(by rw [cde_m (by omega) (by omega)]; omega : cde (o + 1) = 301)]; rfl) (by rw [(by rw [cde_m (by omega) (by omega)]; omega : cde (o + 1) = 301)]; exact (show -2 ≤ z22 ∧ z22 ≤ 119 from by omega))
              have hXG25 : KX G2 G25 := KX.set KX.rf eG25
              have hFG25 : WX (fun x => x = o ∨ (o + 1 ≤ x ∧ x ≤ o + 4) ∨ x = o + 7) G G25 := WX.set hFG2 eG25 (by show _; omega)
              have hfG25 : WX (fun x => x = (o + 1) % 1048576) G2 G25 := WX.set WX.rf eG25 rfl
              have hIG25 : gS G25 o 9 = gS G o 9 := (congrFun (hfG25 (o) (KX.al hXG2 (kne kM (by decide))) rg0) 9).trans hIG2
              show WP kX3_unitInstance X 99 [some (2, ((o : Nat) : Int)), some (2, ((v : Nat) : Int)), some (0, (gS G o 9) * 10), some (0, k2), some (0, c11), some (0, h12), some (0, ((gS G o 9) * 10) + k2)] [] G25
              refine s_aload_n dX3_unitInstance_99 rfl (Int.natCast_nonneg _) ?_
              have hk26 : gK G25 (o) = (12, 0) := ((hXG25).k hk13 (by decide))
              refine s_alv (o) (by simp) (fun (al27 : AL G25 o) => ?_)
              have hv28 : gS G25 o 2 = ((o + 2 : Nat) : Int) := by have h9 : (gS G25 o 2) = (((o % 1048576) + 2 : Nat) : Int) := hCG25.1.v (j := 2) (by rw [cde_m (by omega) (by omega)]; omega : cde o = 300) al27 (by rw [hk26]; exact Nat.le_of_ble_eq_true rfl); omega
              refine s_getf (ci := 4) (k := 2) (C := RX3) (T := TX3) (N := 18) (n := o) (L := 0) (t := 2) dX3_unitInstance_100 rfl wi_71 m_598 (Nat.le_of_ble_eq_true rfl) rfl rfl hk26 hv28 ?_
              refine s_iload dX3_unitInstance_103 rfl ?_
              refine s_aload_n dX3_unitInstance_105 rfl (Int.natCast_nonneg _) ?_
              refine s_alv (v) (by simp) (fun (al29 : AL G25 v) => ?_)
              have hk30 : gK G25 (v) = (19, 0) := hCG25.1.k (by rw [cde_v (by omega) (by omega)]; omega : cde v = 200) al29
              have hv31 : gS G25 v 3 = ((v + 4 : Nat) : Int) := by have h9 : (gS G25 v 3) = (((v % 1048576) + 4 : Nat) : Int) := hCG25.1.v (j := 3) (by rw [cde_v (by omega) (by omega)]; omega : cde v = 200) al29 (by rw [hk30]; exact Nat.le_of_ble_eq_true rfl); omega
              refine s_getf (ci := 11) (k := 3) (C := RX10) (T := TX10) (N := 4) (n := v) (L := 0) (t := 2) dX3_unitInstance_106 rfl wi_67 m_595 (Nat.le_of_ble_eq_true rfl) rfl rfl hk30 hv31 ?_
              refine s_iload_n dX3_unitInstance_109 rfl ?_
              refine s_alv (v + 4) (by simp) (fun (al32 : AL G25 (v + 4)) => ?_)
              have hk33 : gK G25 (v + 4) = (1, 10) := hCG25.1.k (by rw [cde_v (by omega) (by omega)]; omega : cde (v + 4) = 204) al32
              have hv34 : 0 ≤ (gS G25 (v + 4) (k2 : Int).toNat) ∧ (gS G25 (v + 4) (k2 : Int).toNat) ≤ 7 := hCG25.1.v (j := (k2 : Int).toNat) (by rw [cde_v (by omega) (by omega)]; omega : cde (v + 4) = 204) al32 (by rw [hk33]; show (k2 : Int).toNat < 10; omega)
              refine s_iald dX3_unitInstance_110 hk33 (by omega) (by omega) rfl ?_
              have hk35 : gK G25 (o + 2) = (1, 240) := ((hXG25).k ((hXG2).k kM2 (by decide)) (by decide))
              refine s_iast dX3_unitInstance_111 hk35 (by omega) (by omega) ?_
              generalize eG36r : gset G25 (o + 2) ((((gS G o 9) * 10) + k2 : Int).toNat) (gS G25 (v + 4) ((k2 : Int).toNat)) = G36
              have eG36 := eG36r.symm
              have hCG36 : CI a b G36 := by rw [eG36]; exact hCG25.set (by rw [(by rw [cde_m (by omega) (by omega)]; omega : cde (o + 2) = 302)]; rfl) (by rw [(by rw [cde_m (by omega) (by omega)]; omega : cde (o + 2) = 302)]; exact trivial)
              have hXG36 : KX G25 G36 := KX.set KX.rf eG36
              have hFG36 : WX (fun x => x = o ∨ (o + 1 ≤ x ∧ x ≤ o + 4) ∨ x = o + 7) G G36 := WX.set hFG25 eG36 (by show _; omega)
              have hfG36 : WX (fun x => x = (o + 2) % 1048576) G25 G36 := WX.set WX.rf eG36 rfl
              have hIG36 : gS G36 o 9 = gS G o 9 := (congrFun (hfG36 (o) (KX.al (KX.trans hXG2 hXG25) (kne kM (by decide))) rg1) 9).trans hIG25
              show WP kX3_unitInstance X 112 [some (2, ((o : Nat) : Int)), some (2, ((v : Nat) : Int)), some (0, (gS G o 9) * 10), some (0, k2), some (0, c11), some (0, h12), some (0, ((gS G o 9) * 10) + k2)] [] G36
              refine s_aload_n dX3_unitInstance_112 rfl (Int.natCast_nonneg _) ?_
              have hk37 : gK G36 (o) = (12, 0) := ((hXG36).k hk26 (by decide))
              refine s_alv (o) (by simp) (fun (al38 : AL G36 o) => ?_)
              have hv39 : gS G36 o 3 = ((o + 3 : Nat) : Int) := by have h9 : (gS G36 o 3) = (((o % 1048576) + 3 : Nat) : Int) := hCG36.1.v (j := 3) (by rw [cde_m (by omega) (by omega)]; omega : cde o = 300) al38 (by rw [hk37]; exact Nat.le_of_ble_eq_true rfl); omega
              refine s_getf (ci := 4) (k := 3) (C := RX3) (T := TX3) (N := 18) (n := o) (L := 0) (t := 2) dX3_unitInstance_113 rfl wi_71 m_602 (Nat.le_of_ble_eq_true rfl) rfl rfl hk37 hv39 ?_
              refine s_iload dX3_unitInstance_116 rfl ?_
              refine s_iconst dX3_unitInstance_118 (by decide) ?_
              have hk40 : gK G36 (o + 3) = (1, 240) := ((hXG36).k ((hXG25).k ((hXG2).k kM3 (by decide)) (by decide)) (by decide))
              refine s_iast dX3_unitInstance_119 hk40 (by omega) (by omega) ?_
              generalize eG41r : gset G36 (o + 3) ((((gS G o 9) * 10) + k2 : Int).toNat) ((-1)) = G41
              have eG41 := eG41r.symm
              have hCG41 : CI a b G41 := by rw [eG41]; exact hCG36.set (by rw [(by rw [cde_m (by omega) (by omega)]; omega : cde (o + 3) = 303)]; rfl) (by rw [(by rw [cde_m (by omega) (by omega)]; omega : cde (o + 3) = 303)]; exact (show -1 ≤ ((-1)) ∧ ((-1)) ≤ 239 from by omega))
              have hXG41 : KX G36 G41 := KX.set KX.rf eG41
              have hFG41 : WX (fun x => x = o ∨ (o + 1 ≤ x ∧ x ≤ o + 4) ∨ x = o + 7) G G41 := WX.set hFG36 eG41 (by show _; omega)
              have hfG41 : WX (fun x => x = (o + 3) % 1048576) G36 G41 := WX.set WX.rf eG41 rfl
              have hIG41 : gS G41 o 9 = gS G o 9 := (congrFun (hfG41 (o) (KX.al (KX.trans (KX.trans hXG2 hXG25) hXG36) (kne kM (by decide))) rg2) 9).trans hIG36
              show WP kX3_unitInstance X 120 [some (2, ((o : Nat) : Int)), some (2, ((v : Nat) : Int)), some (0, (gS G o 9) * 10), some (0, k2), some (0, c11), some (0, h12), some (0, ((gS G o 9) * 10) + k2)] [] G41
              refine s_aload_n dX3_unitInstance_120 rfl (Int.natCast_nonneg _) ?_
              have hk42 : gK G41 (o) = (12, 0) := ((hXG41).k hk37 (by decide))
              refine s_alv (o) (by simp) (fun (al43 : AL G41 o) => ?_)
              have hv44 : gS G41 o 7 = ((o + 7 : Nat) : Int) := by have h9 : (gS G41 o 7) = (((o % 1048576) + 7 : Nat) : Int) := hCG41.1.v (j := 7) (by rw [cde_m (by omega) (by omega)]; omega : cde o = 300) al43 (by rw [hk42]; exact Nat.le_of_ble_eq_true rfl); omega
              refine s_getf (ci := 4) (k := 7) (C := RX3) (T := TX3) (N := 18) (n := o) (L := 0) (t := 2) dX3_unitInstance_121 rfl wi_71 m_616 (Nat.le_of_ble_eq_true rfl) rfl rfl hk42 hv44 ?_
              refine s_iload dX3_unitInstance_124 rfl ?_
              refine s_iconst dX3_unitInstance_126 (by decide) ?_
              have hk45 : gK G41 (o + 7) = (1, 240) := ((hXG41).k ((hXG36).k ((hXG25).k ((hXG2).k kM7 (by decide)) (by decide)) (by decide)) (by decide))
              refine s_iast dX3_unitInstance_127 hk45 (by omega) (by omega) ?_
              generalize eG46r : gset G41 (o + 7) ((((gS G o 9) * 10) + k2 : Int).toNat) ((-1)) = G46
              have eG46 := eG46r.symm
              have hCG46 : CI a b G46 := by rw [eG46]; exact hCG41.state (o := o + 20) (by omega) (Or.inl (by omega)) (by unfold lenV; omega)
              have hXG46 : KX G41 G46 := KX.set KX.rf eG46
              have hFG46 : WX (fun x => x = o ∨ (o + 1 ≤ x ∧ x ≤ o + 4) ∨ x = o + 7) G G46 := WX.set hFG41 eG46 (by show _; omega)
              have hfG46 : WX (fun x => x = (o + 7) % 1048576) G41 G46 := WX.set WX.rf eG46 rfl
              have hIG46 : gS G46 o 9 = gS G o 9 := (congrFun (hfG46 (o) (KX.al (KX.trans (KX.trans (KX.trans hXG2 hXG25) hXG36) hXG41) (kne kM (by decide))) rg3) 9).trans hIG41
              show WP kX3_unitInstance X 128 [some (2, ((o : Nat) : Int)), some (2, ((v : Nat) : Int)), some (0, (gS G o 9) * 10), some (0, k2), some (0, c11), some (0, h12), some (0, ((gS G o 9) * 10) + k2)] [] G46
              refine s_aload_n dX3_unitInstance_128 rfl (Int.natCast_nonneg _) ?_
              have hk47 : gK G46 (o) = (12, 0) := ((hXG46).k hk42 (by decide))
              refine s_alv (o) (by simp) (fun (al48 : AL G46 o) => ?_)
              have hv49 : gS G46 o 4 = ((o + 4 : Nat) : Int) := by have h9 : (gS G46 o 4) = (((o % 1048576) + 4 : Nat) : Int) := hCG46.1.v (j := 4) (by rw [cde_m (by omega) (by omega)]; omega : cde o = 300) al48 (by rw [hk47]; exact Nat.le_of_ble_eq_true rfl); omega
              refine s_getf (ci := 4) (k := 4) (C := RX3) (T := TX3) (N := 18) (n := o) (L := 0) (t := 2) dX3_unitInstance_129 rfl wi_71 m_608 (Nat.le_of_ble_eq_true rfl) rfl rfl hk47 hv49 ?_
              refine s_iload dX3_unitInstance_132 rfl ?_
              refine s_aload_n dX3_unitInstance_134 rfl (Int.natCast_nonneg _) ?_
              refine s_iload_n dX3_unitInstance_135 rfl ?_
              have hk52 : gK G46 (v) = (19, 0) := ((hXG46).k ((hXG41).k ((hXG36).k hk30 (by decide)) (by decide)) (by decide))
              refine s_callV (as := [(0, k2)]) (rest := [(0, ((gS G o 9) * 10) + k2), (2, ((o + 4 : Nat) : Int))]) (n := v) (ci := 11) gX10_hasValue dX3_unitInstance_136 m_1354 m_756 m_1497 m_713 m_83 ⟨by decide, by decide, show (parseMethodDescriptor yX10_hasValue.desc).map (fun d => d.parameters.length) = some 1 from by decide +kernel⟩ (Nat.le_of_ble_eq_true rfl) (by rw [hcf]; exact Nat.le_of_ble_eq_true rfl) hk52 rfl rfl (Nat.le_of_ble_eq_true rfl) ⟨v, k2, a, b, rfl, hCG46, hab, (by first | assumption | omega), (by first | assumption | omega), fun rr50 hp51 => ?_⟩
              show WP kX3_unitInstance X 139 [some (2, ((o : Nat) : Int)), some (2, ((v : Nat) : Int)), some (0, (gS G o 9) * 10), some (0, k2), some (0, c11), some (0, h12), some (0, ((gS G o 9) * 10) + k2)] [(0, rr50), (0, ((gS G o 9) * 10) + k2), (2, ((o + 4 : Nat) : Int))] G46
              have J54 : ∀ z53 : Int, ((rr50 = 0) ∧ z53 = (-1)) ∨ ((¬ rr50 = 0) ∧ z53 = ((gS G o 9) * 10) + k2) → WP kX3_unitInstance X 148 [some (2, ((o : Nat) : Int)), some (2, ((v : Nat) : Int)), some (0, (gS G o 9) * 10), some (0, k2), some (0, c11), some (0, h12), some (0, ((gS G o 9) * 10) + k2)] [(0, z53), (0, ((gS G o 9) * 10) + k2), (2, ((o + 4 : Nat) : Int))] G46 := by
                intro z53 hz53
                have hk55 : gK G46 (o + 4) = (1, 240) := ((hXG46).k ((hXG41).k ((hXG36).k ((hXG25).k ((hXG2).k kM4 (by decide)) (by decide)) (by decide)) (by decide)) (by decide))
                refine s_iast dX3_unitInstance_148 hk55 (by omega) (by omega) ?_
                generalize eG56r : gset G46 (o + 4) ((((gS G o 9) * 10) + k2 : Int).toNat) z53 = G56
                have eG56 := eG56r.symm
                have hCG56 : CI a b G56 := by rw [eG56]; exact hCG46.set (by rw [(by rw [cde_m (by omega) (by omega)]; omega : cde (o + 4) = 304)]; rfl) (by rw [(by rw [cde_m (by omega) (by omega)]; omega : cde (o + 4) = 304)]; exact (show -1 ≤ z53 ∧ z53 ≤ 239 from by omega))
                have hXG56 : KX G46 G56 := KX.set KX.rf eG56
                have hFG56 : WX (fun x => x = o ∨ (o + 1 ≤ x ∧ x ≤ o + 4) ∨ x = o + 7) G G56 := WX.set hFG46 eG56 (by show _; omega)
                have hfG56 : WX (fun x => x = (o + 4) % 1048576) G46 G56 := WX.set WX.rf eG56 rfl
                have hIG56 : gS G56 o 9 = gS G o 9 := (congrFun (hfG56 (o) (KX.al (KX.trans (KX.trans (KX.trans (KX.trans hXG2 hXG25) hXG36) hXG41) hXG46) (kne kM (by decide))) rg4) 9).trans hIG46
                show WP kX3_unitInstance X 149 [some (2, ((o : Nat) : Int)), some (2, ((v : Nat) : Int)), some (0, (gS G o 9) * 10), some (0, k2), some (0, c11), some (0, h12), some (0, ((gS G o 9) * 10) + k2)] [] G56
                have xa1 : gS G56 (o + 1) = gS G25 (o + 1) := ((gset_o eG56 (x := o + 1) (by omega)).trans ((gset_o eG46 (x := o + 1) (by omega)).trans ((gset_o eG41 (x := o + 1) (by omega)).trans (gset_o eG36 (x := o + 1) (by omega)))))
                have xb1 : gS G2 (o + 1) = gS G2 (o + 1) := rfl
                have y1 : gS G56 (o + 1) (((gS G o 9) * 10) + k2 : Int).toNat = z22 := (congrFun xa1 _).trans (gsaE eG25)
                have u1 : ∀ j, j ≠ (((gS G o 9) * 10) + k2 : Int).toNat → gS G56 (o + 1) j = gS G2 (o + 1) j := fun j hj => by rw [xa1, eG25, gset_ne _ _ (fun q => hj q.2), xb1]
                have xa3 : gS G56 (o + 3) = gS G41 (o + 3) := ((gset_o eG56 (x := o + 3) (by omega)).trans (gset_o eG46 (x := o + 3) (by omega)))
                have xb3 : gS G36 (o + 3) = gS G2 (o + 3) := ((gset_o eG36 (x := o + 3) (by omega)).trans (gset_o eG25 (x := o + 3) (by omega)))
                have y3 : gS G56 (o + 3) (((gS G o 9) * 10) + k2 : Int).toNat = (-1) := (congrFun xa3 _).trans (gsaE eG41)
                have u3 : ∀ j, j ≠ (((gS G o 9) * 10) + k2 : Int).toNat → gS G56 (o + 3) j = gS G2 (o + 3) j := fun j hj => by rw [xa3, eG41, gset_ne _ _ (fun q => hj q.2), xb3]
                have xa4 : gS G56 (o + 4) = gS G56 (o + 4) := rfl
                have xb4 : gS G46 (o + 4) = gS G2 (o + 4) := ((gset_o eG46 (x := o + 4) (by omega)).trans ((gset_o eG41 (x := o + 4) (by omega)).trans ((gset_o eG36 (x := o + 4) (by omega)).trans (gset_o eG25 (x := o + 4) (by omega)))))
                have y4 : gS G56 (o + 4) (((gS G o 9) * 10) + k2 : Int).toNat = z53 := (congrFun xa4 _).trans (gsaE eG56)
                have u4 : ∀ j, j ≠ (((gS G o 9) * 10) + k2 : Int).toNat → gS G56 (o + 4) j = gS G2 (o + 4) j := fun j hj => by rw [xa4, eG56, gset_ne _ _ (fun q => hj q.2), xb4]
                refine s_iinc dX3_unitInstance_149 (v := k2) rfl (by omega) (by decide) (lv' := [some (2, ((o : Nat) : Int)), some (2, ((v : Nat) : Int)), some (0, (gS G o 9) * 10), some (0, k2 + 1), some (0, c11), some (0, h12), some (0, ((gS G o 9) * 10) + k2)]) rfl ?_
                refine s_goto (tgt := 10) dX3_unitInstance_152 (by decide) ?_
                refine s_mask [true, true, true, true, false, false, false] (lv' := [some (2, ((o : Nat) : Int)), some (2, ((v : Nat) : Int)), some (0, (gS G o 9) * 10), some (0, k2 + 1), none, none, none]) rfl ?_
                exact ih2 (k2 + 1) G56 hCG56 (KX.trans (KX.trans (KX.trans (KX.trans (KX.trans hXG2 hXG25) hXG36) hXG41) hXG46) hXG56) hFG56 (⟨(by omega), (by intro s h0 h1; by_cases w : s = ((gS G o 9) * 10) + k2; (focus (subst w; rw [y1, y3, y4]; exact ⟨by omega, rfl, by omega⟩)); (focus (rw [u1 _ (by omega), u3 _ (by omega), u4 _ (by omega)]; exact iM2 s h0 (by omega)))), (by intro s h0 h1; obtain ⟨l1, l2, l3⟩ := iL2 s h0 h1; exact ⟨(u1 _ (by omega)).trans l1, (u3 _ (by omega)).trans l2, (u4 _ (by omega)).trans l3⟩), (by exact hIG56)⟩) (by omega)
              refine s_if_eq (tgt := 147) dX3_unitInstance_139 (by decide) (fun c57 => ?_) (fun c57 => ?_)
              · -- 139 to 147
                refine s_iconst dX3_unitInstance_147 (by decide) ?_
                exact J54 ((-1)) (Or.inl ⟨c57, rfl⟩)
              · -- 139 to 142
                refine s_iload dX3_unitInstance_142 rfl ?_
                refine s_goto (tgt := 148) dX3_unitInstance_144 (by decide) ?_
                exact J54 _ (Or.inr (⟨c57, rfl⟩))
            refine s_if_eq (tgt := 87) dX3_unitInstance_75 (by decide) (fun c58 => ?_) (fun c58 => ?_)
            · -- 75 to 87
              refine s_iload dX3_unitInstance_87 rfl ?_
              refine s_if_eq (tgt := 96) dX3_unitInstance_89 (by decide) (fun c59 => ?_) (fun c59 => ?_)
              · -- 89 to 96
                refine s_bipush dX3_unitInstance_96 rfl (by decide) ?_
                exact J23 ((-2)) (Or.inl ⟨c58, c59, rfl⟩)
              · -- 89 to 92
                refine s_iconst dX3_unitInstance_92 (by decide) ?_
                refine s_goto (tgt := 98) dX3_unitInstance_93 (by decide) ?_
                exact J23 ((-1)) (Or.inr (Or.inl ⟨c58, c59, rfl⟩))
            · -- 75 to 78
              refine s_aload_n dX3_unitInstance_78 rfl (Int.natCast_nonneg _) ?_
              refine s_alv (v) (by simp) (fun (al60 : AL G2 v) => ?_)
              have hk61 : gK G2 (v) = (19, 0) := hCG2.1.k (by rw [cde_v (by omega) (by omega)]; omega : cde v = 200) al60
              have hv62 : gS G2 v 2 = ((v + 3 : Nat) : Int) := by have h9 : (gS G2 v 2) = (((v % 1048576) + 3 : Nat) : Int) := hCG2.1.v (j := 2) (by rw [cde_v (by omega) (by omega)]; omega : cde v = 200) al60 (by rw [hk61]; exact Nat.le_of_ble_eq_true rfl); omega
              refine s_getf (ci := 11) (k := 2) (C := RX10) (T := TX10) (N := 4) (n := v) (L := 0) (t := 2) dX3_unitInstance_79 rfl wi_67 m_594 (Nat.le_of_ble_eq_true rfl) rfl rfl hk61 hv62 ?_
              refine s_iload_n dX3_unitInstance_82 rfl ?_
              refine s_alv (v + 3) (by simp) (fun (al63 : AL G2 (v + 3)) => ?_)
              have hk64 : gK G2 (v + 3) = (1, 10) := hCG2.1.k (by rw [cde_v (by omega) (by omega)]; omega : cde (v + 3) = 203) al63
              have hv65 : -1 ≤ (gS G2 (v + 3) (k2 : Int).toNat) ∧ (gS G2 (v + 3) (k2 : Int).toNat) ≤ 119 := hCG2.1.v (j := (k2 : Int).toNat) (by rw [cde_v (by omega) (by omega)]; omega : cde (v + 3) = 203) al63 (by rw [hk64]; show (k2 : Int).toNat < 10; omega)
              refine s_iald dX3_unitInstance_83 hk64 (by omega) (by omega) rfl ?_
              refine s_goto (tgt := 98) dX3_unitInstance_84 (by decide) ?_
              exact J23 _ (Or.inr (Or.inr (⟨c58, rfl⟩)))
          refine s_aload_n dX3_unitInstance_39 rfl (Int.natCast_nonneg _) ?_
          refine s_iload_n dX3_unitInstance_40 rfl ?_
          refine s_alv (v) (by simp) (fun (al68 : AL G2 v) => ?_)
          have hk69 : gK G2 (v) = (19, 0) := hCG2.1.k (by rw [cde_v (by omega) (by omega)]; omega : cde v = 200) al68
          refine s_callV (as := [(0, k2)]) (rest := []) (n := v) (ci := 11) gX10_hasValue dX3_unitInstance_41 m_1354 m_756 m_1497 m_713 m_83 ⟨by decide, by decide, show (parseMethodDescriptor yX10_hasValue.desc).map (fun d => d.parameters.length) = some 1 from by decide +kernel⟩ (Nat.le_of_ble_eq_true rfl) (by rw [hcf]; exact Nat.le_of_ble_eq_true rfl) hk69 rfl rfl (Nat.le_of_ble_eq_true rfl) ⟨v, k2, a, b, rfl, hCG2, hab, (by first | assumption | omega), (by first | assumption | omega), fun rr66 hp67 => ?_⟩
          show WP kX3_unitInstance X 44 [some (2, ((o : Nat) : Int)), some (2, ((v : Nat) : Int)), some (0, (gS G o 9) * 10), some (0, k2), some (0, c11), none, none] [(0, rr66)] G2
          refine s_if_eq (tgt := 59) dX3_unitInstance_44 (by decide) (fun c70 => ?_) (fun c70 => ?_)
          · -- 44 to 59
            refine s_iconst dX3_unitInstance_59 (by decide) ?_
            refine s_istore dX3_unitInstance_60 (by decide) (lv' := [some (2, ((o : Nat) : Int)), some (2, ((v : Nat) : Int)), some (0, (gS G o 9) * 10), some (0, k2), some (0, c11), some (0, 0), none]) rfl ?_
            exact K12 0 (trivial)
          · -- 44 to 47
            refine s_aload_n dX3_unitInstance_47 rfl (Int.natCast_nonneg _) ?_
            refine s_iload_n dX3_unitInstance_48 rfl ?_
            refine s_callV (as := [(0, k2)]) (rest := []) (n := v) (ci := 11) gX10_isDefinition dX3_unitInstance_49 m_1352 m_758 m_1498 m_713 m_85 ⟨by decide, by decide, show (parseMethodDescriptor yX10_isDefinition.desc).map (fun d => d.parameters.length) = some 1 from by decide +kernel⟩ (Nat.le_of_ble_eq_true rfl) (by rw [hcf]; exact Nat.le_of_ble_eq_true rfl) hk69 rfl rfl (Nat.le_of_ble_eq_true rfl) ⟨v, k2, a, b, rfl, hCG2, hab, (by first | assumption | omega), (by first | assumption | omega), fun rr71 hp72 => ?_⟩
            show WP kX3_unitInstance X 52 [some (2, ((o : Nat) : Int)), some (2, ((v : Nat) : Int)), some (0, (gS G o 9) * 10), some (0, k2), some (0, c11), none, none] [(0, rr71)] G2
            have J74 : ∀ z73 : Int, ((¬ rr71 = 0) ∧ z73 = 0) ∨ ((rr71 = 0) ∧ z73 = 1) → WP kX3_unitInstance X 60 [some (2, ((o : Nat) : Int)), some (2, ((v : Nat) : Int)), some (0, (gS G o 9) * 10), some (0, k2), some (0, c11), none, none] [(0, z73)] G2 := by
              intro z73 hz73
              refine s_istore dX3_unitInstance_60 (by decide) (lv' := [some (2, ((o : Nat) : Int)), some (2, ((v : Nat) : Int)), some (0, (gS G o 9) * 10), some (0, k2), some (0, c11), some (0, z73), none]) rfl ?_
              exact K12 z73 (trivial)
            refine s_if_ne (tgt := 59) dX3_unitInstance_52 (by decide) (fun c75 => ?_) (fun c75 => ?_)
            · -- 52 to 59
              refine s_iconst dX3_unitInstance_59 (by decide) ?_
              exact J74 0 (Or.inl ⟨c75, rfl⟩)
            · -- 52 to 55
              refine s_iconst dX3_unitInstance_55 (by decide) ?_
              refine s_goto (tgt := 60) dX3_unitInstance_56 (by decide) ?_
              exact J74 1 (Or.inr (⟨c75, rfl⟩))
        refine s_aload_n dX3_unitInstance_16 rfl (Int.natCast_nonneg _) ?_
        refine s_iload_n dX3_unitInstance_17 rfl ?_
        refine s_alv (v) (by simp) (fun (al78 : AL G2 v) => ?_)
        have hk79 : gK G2 (v) = (19, 0) := hCG2.1.k (by rw [cde_v (by omega) (by omega)]; omega : cde v = 200) al78
        refine s_callV (as := [(0, k2)]) (rest := []) (n := v) (ci := 11) gX10_isDefinition dX3_unitInstance_18 m_1352 m_758 m_1498 m_713 m_85 ⟨by decide, by decide, show (parseMethodDescriptor yX10_isDefinition.desc).map (fun d => d.parameters.length) = some 1 from by decide +kernel⟩ (Nat.le_of_ble_eq_true rfl) (by rw [hcf]; exact Nat.le_of_ble_eq_true rfl) hk79 rfl rfl (Nat.le_of_ble_eq_true rfl) ⟨v, k2, a, b, rfl, hCG2, hab, (by first | assumption | omega), (by first | assumption | omega), fun rr76 hp77 => ?_⟩
        show WP kX3_unitInstance X 21 [some (2, ((o : Nat) : Int)), some (2, ((v : Nat) : Int)), some (0, (gS G o 9) * 10), some (0, k2), none, none, none] [(0, rr76)] G2
        refine s_if_eq (tgt := 36) dX3_unitInstance_21 (by decide) (fun c80 => ?_) (fun c80 => ?_)
        · -- 21 to 36
          refine s_iconst dX3_unitInstance_36 (by decide) ?_
          refine s_istore dX3_unitInstance_37 (by decide) (lv' := [some (2, ((o : Nat) : Int)), some (2, ((v : Nat) : Int)), some (0, (gS G o 9) * 10), some (0, k2), some (0, 0), none, none]) rfl ?_
          exact K11 0 ((by omega))
        · -- 21 to 24
          refine s_aload_n dX3_unitInstance_24 rfl (Int.natCast_nonneg _) ?_
          refine s_iload_n dX3_unitInstance_25 rfl ?_
          refine s_callV (as := [(0, k2)]) (rest := []) (n := v) (ci := 11) gX10_isGhost dX3_unitInstance_26 m_1353 m_759 m_1499 m_713 m_86 ⟨by decide, by decide, show (parseMethodDescriptor yX10_isGhost.desc).map (fun d => d.parameters.length) = some 1 from by decide +kernel⟩ (Nat.le_of_ble_eq_true rfl) (by rw [hcf]; exact Nat.le_of_ble_eq_true rfl) hk79 rfl rfl (Nat.le_of_ble_eq_true rfl) ⟨v, k2, a, b, rfl, hCG2, hab, (by first | assumption | omega), (by first | assumption | omega), fun rr81 hp82 => ?_⟩
          show WP kX3_unitInstance X 29 [some (2, ((o : Nat) : Int)), some (2, ((v : Nat) : Int)), some (0, (gS G o 9) * 10), some (0, k2), none, none, none] [(0, rr81)] G2
          have J84 : ∀ z83 : Int, ((¬ rr81 = 0) ∧ z83 = 0) ∨ ((rr81 = 0) ∧ z83 = 1) → WP kX3_unitInstance X 37 [some (2, ((o : Nat) : Int)), some (2, ((v : Nat) : Int)), some (0, (gS G o 9) * 10), some (0, k2), none, none, none] [(0, z83)] G2 := by
            intro z83 hz83
            refine s_istore dX3_unitInstance_37 (by decide) (lv' := [some (2, ((o : Nat) : Int)), some (2, ((v : Nat) : Int)), some (0, (gS G o 9) * 10), some (0, k2), some (0, z83), none, none]) rfl ?_
            exact K11 z83 ((by omega))
          refine s_if_ne (tgt := 36) dX3_unitInstance_29 (by decide) (fun c85 => ?_) (fun c85 => ?_)
          · -- 29 to 36
            refine s_iconst dX3_unitInstance_36 (by decide) ?_
            exact J84 0 (Or.inl ⟨c85, rfl⟩)
          · -- 29 to 32
            refine s_iconst dX3_unitInstance_32 (by decide) ?_
            refine s_goto (tgt := 37) dX3_unitInstance_33 (by decide) ?_
            exact J84 1 (Or.inr (⟨c85, rfl⟩))
  exact L2 _ 0 G hC KX.rf WX.rf (⟨(by omega), (by intro s h0 h1; omega), (by exact LO.rf), (by exact hI)⟩) (Nat.lt_succ_self _)
