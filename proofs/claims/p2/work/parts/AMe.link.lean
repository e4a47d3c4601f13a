abbrev kX2_link : KD := (RX2, cX2_link, 8, (some .int), [])
def TX2_link : TR := fun as G Qr => ∃ (P : Int → Prop) (A B : Nat) (s : Int) (f : Nat) (a b : Nat), as = [(2, ((327682 : Nat) : Int)), (2, ((A : Nat) : Int)), (2, ((B : Nat) : Int)), (0, s), (2, ((f : Nat) : Int))] ∧ CI a b G ∧ (a ≤ 2840000 ∧ b ≤ 590000) ∧ (isFc A) ∧ (isFc B) ∧ (isFc f) ∧ (A ≠ f ∧ B ≠ f) ∧ (FPa P G A) ∧ (FPa P G B) ∧ (FPa P G f) ∧ ∀ (r : Int) (G' : LG), CI a b G' → KX G G' → WX (fun x => (262144 ≤ x ∧ x < 262272) ∨ x = 327691 ∨ x = 327692 ∨ (f + 1 ≤ x ∧ x ≤ f + 22)) G G' → (FPa P G' f) → Qr (.inl (some (0, r))) G'
set_option maxHeartbeats 4000000 in
set_option maxRecDepth 100000 in
theorem gX2_link : Good kX2_link yX2_link 4 TX2_link := by
  refine good_of (by decide) rfl rfl (fun as G Qr h => ?_) (fun X as G Qr hcf hR hT oa => ?_)
  · obtain ⟨P, A, B, s, f, a, b, rfl, -⟩ := h; exact Nat.le_of_ble_eq_true rfl
  obtain ⟨P, A, B, s, f, a, b, rfl, hC, hab, hA, hB, hf, hne, hFA, hFB, hFf, hQ⟩ := hT
  show WP kX2_link X 0 [some (2, ((327682 : Nat) : Int)), some (2, ((A : Nat) : Int)), some (2, ((B : Nat) : Int)), some (0, s), some (2, ((f : Nat) : Int)), none, none, none] [] G
  have hr_s : inR s := okv_R (oa _ (by simp))
  refine s_alvl 327682 (k := 0) rfl (fun alZ => ?_)
  refine s_alvl A (k := 1) rfl (fun alA => ?_)
  refine s_alvl B (k := 2) rfl (fun alB => ?_)
  refine s_alvl f (k := 4) rfl (fun alf => ?_)
  refine s_lk (fun hlk => ?_)
  have hfn := hlk.fna hC alZ
  obtain ⟨k327682, k327681, k327683, k262144, k262208, k327684, k68097, k327691, k327692, k262145, k262146, k262148, k262149, k262209, k262210, k262212, k262213, k327710, k327685, k327688⟩ := id hfn
  have hfA := hlk.fc hC hA alA
  obtain ⟨kA0, kA1, kA2, kA3, kA4, kA5, kA6⟩ := hfA.1
  have hfB := hlk.fc hC hB alB
  obtain ⟨kB0, kB1, kB2, kB3, kB4, kB5, kB6⟩ := hfB.1
  have hff := hlk.fc hC hf alf
  obtain ⟨kf0, kf1, kf2, kf3, kf4, kf5, kf6⟩ := hff.1
  refine s_aload_n dX2_link_0 rfl (Int.natCast_nonneg _) ?_
  have hv1 : gS G 327682 2 = ((262144 : Nat) : Int) := by have h9 : (gS G 327682 2) = 262144 := hC.1.v (j := 2) (by decide : cde 327682 = 502) (kne k327682 (by decide)) (by rw [k327682]; exact Nat.le_of_ble_eq_true rfl); omega
  refine s_getf (ci := 3) (k := 2) (C := RX2) (T := TX2) (N := 8) (n := 327682) (L := 0) (t := 2) dX2_link_1 rfl wi_70 m_577 (Nat.le_of_ble_eq_true rfl) rfl rfl k327682 hv1 ?_
  refine s_callV (as := []) (rest := []) (n := 262144) (ci := 2) gX1_clear dX2_link_4 m_1309 m_911 m_1487 m_712 m_252 ⟨by decide, by decide, show (parseMethodDescriptor yX1_clear.desc).map (fun d => d.parameters.length) = some 0 from by decide +kernel⟩ (Nat.le_of_ble_eq_true rfl) (by rw [hcf]; exact Nat.le_of_ble_eq_true rfl) k262144 rfl rfl (Nat.le_of_ble_eq_true rfl) ⟨262144, a, b, rfl, hC, hab, (by first | assumption | omega), fun G2 hCG2 hXG2 hfG2 hpG2 => ?_⟩
  have hFG2 : WX (fun x => (262144 ≤ x ∧ x < 262272) ∨ x = 327691 ∨ x = 327692 ∨ (f + 1 ≤ x ∧ x ≤ f + 22)) G G2 := WX.trans WX.rf KX.rf (WX.mono hfG2 (fun x hx => by omega))
  have hTLG2 : ∀ k : Nat, k < 6 → TLP P G2 262144 k := fun k hk => TLP.zero (hpG2 k hk).1
  have hFIG2 : ∀ k : Nat, k < 6 → FIP P G2 262144 k := fun k hk => FIP.zero (hpG2 k hk).2
  have hFAG2 : FPa P G2 A := (hFA).wx hXG2 hfG2 ⟨KX.al KX.rf (kne kA3 (by decide)), KX.al KX.rf (kne kA4 (by decide))⟩ (by show ¬ _; omega) (by show ¬ _; omega) (fun p hp => by show ¬ _; omega)
  have hFBG2 : FPa P G2 B := (hFB).wx hXG2 hfG2 ⟨KX.al KX.rf (kne kB3 (by decide)), KX.al KX.rf (kne kB4 (by decide))⟩ (by show ¬ _; omega) (by show ¬ _; omega) (fun p hp => by show ¬ _; omega)
  have hFfG2 : FPa P G2 f := (hFf).wx hXG2 hfG2 ⟨KX.al KX.rf (kne kf3 (by decide)), KX.al KX.rf (kne kf4 (by decide))⟩ (by show ¬ _; omega) (by show ¬ _; omega) (fun p hp => by show ¬ _; omega)
  show WP kX2_link X 7 [some (2, ((327682 : Nat) : Int)), some (2, ((A : Nat) : Int)), some (2, ((B : Nat) : Int)), some (0, s), some (2, ((f : Nat) : Int)), none, none, none] [] G2
  refine s_iconst dX2_link_7 (by decide) ?_
  refine s_istore dX2_link_8 (by decide) (lv' := [some (2, ((327682 : Nat) : Int)), some (2, ((A : Nat) : Int)), some (2, ((B : Nat) : Int)), some (0, s), some (2, ((f : Nat) : Int)), some (0, 0), none, none]) rfl ?_
  have L4 : ∀ (fu4 : Nat) (n4 : Int) (G4 : LG), CI a b G4 → KX G2 G4 → WX (fun x => (262144 ≤ x ∧ x < 262272) ∨ x = 327691 ∨ x = 327692 ∨ (f + 1 ≤ x ∧ x ≤ f + 22)) G G4 → ((0 ≤ n4 ∧ n4 ≤ 6) ∧ (∀ k : Nat, k < 6 → TLP P G4 262144 k) ∧ (∀ k : Nat, k < 6 → FIP P G4 262144 k) ∧ (FPa P G4 A) ∧ (FPa P G4 B) ∧ (FPa P G4 f)) → (6 - n4).toNat < fu4 → WP kX2_link X 10 [some (2, ((327682 : Nat) : Int)), some (2, ((A : Nat) : Int)), some (2, ((B : Nat) : Int)), some (0, s), some (2, ((f : Nat) : Int)), some (0, n4), none, none] [] G4 := by
    intro fu4
    induction fu4 with
    | zero => intro n4 G4 hCG4 hXG4 hFG4 hi4 hm4; exact absurd hm4 (Nat.not_lt_zero _)
    | succ fu4 ih4 =>
      intro n4 G4 hCG4 hXG4 hFG4 hi4 hm4
      have hj4 := hi4
      obtain ⟨in_4, hTLG4, hFIG4, hFAG4, hFBG4, hFfG4⟩ := hi4
      refine s_iload dX2_link_10 rfl ?_
      refine s_bipush dX2_link_12 rfl (by decide) ?_
      refine s_icmp_ge (tgt := 78) dX2_link_14 (by decide) (fun c5 => ?_) (fun c5 => ?_)
      · -- 14 to 78
        refine s_aload_n dX2_link_78 rfl (Int.natCast_nonneg _) ?_
        have hk6 : gK G4 (327682) = (11, 0) := ((hXG4).k ((hXG2).k k327682 (by decide)) (by decide))
        refine s_alv (327682) (by simp) (fun al7 => ?_)
        have hv8 : gS G4 327682 2 = ((262144 : Nat) : Int) := by have h9 : (gS G4 327682 2) = 262144 := hCG4.1.v (j := 2) (by decide : cde 327682 = 502) al7 (by rw [hk6]; exact Nat.le_of_ble_eq_true rfl); omega
        refine s_getf (ci := 3) (k := 2) (C := RX2) (T := TX2) (N := 8) (n := 327682) (L := 0) (t := 2) dX2_link_79 rfl wi_70 m_577 (Nat.le_of_ble_eq_true rfl) rfl rfl hk6 hv8 ?_
        have hk11 : gK G4 (262144) = (10, 0) := ((hXG4).k ((hXG2).k k262144 (by decide)) (by decide))
        refine s_callV (as := []) (rest := []) (n := 262144) (ci := 2) gX1_makeFull dX2_link_82 m_1311 m_917 m_1492 m_712 m_259 ⟨by decide, by decide, show (parseMethodDescriptor yX1_makeFull.desc).map (fun d => d.parameters.length) = some 0 from by decide +kernel⟩ (Nat.le_of_ble_eq_true rfl) (by rw [hcf]; exact Nat.le_of_ble_eq_true rfl) hk11 rfl rfl (Nat.le_of_ble_eq_true rfl) ⟨262144, a, b, rfl, hCG4, hab, (by first | assumption | omega), fun rr10 G9 hCG9 hXG9 hfG9 hpG9 => ?_⟩
        have hFG9 : WX (fun x => (262144 ≤ x ∧ x < 262272) ∨ x = 327691 ∨ x = 327692 ∨ (f + 1 ≤ x ∧ x ≤ f + 22)) G G9 := WX.trans hFG4 (KX.trans hXG2 hXG4) (WX.mono hfG9 (fun x hx => by omega))
        have hFIG9 : ∀ k : Nat, k < 6 → FIP P G9 262144 k := hpG9.2 P hTLG4 hFIG4
        have hFAG9 : FPa P G9 A := (hFAG4).wx hXG9 hfG9 ⟨KX.al (KX.trans hXG2 hXG4) (kne kA3 (by decide)), KX.al (KX.trans hXG2 hXG4) (kne kA4 (by decide))⟩ (by show ¬ _; omega) (by show ¬ _; omega) (fun p hp => by show ¬ _; omega)
        have hFBG9 : FPa P G9 B := (hFBG4).wx hXG9 hfG9 ⟨KX.al (KX.trans hXG2 hXG4) (kne kB3 (by decide)), KX.al (KX.trans hXG2 hXG4) (kne kB4 (by decide))⟩ (by show ¬ _; omega) (by show ¬ _; omega) (fun p hp => by show ¬ _; omega)
        have hFfG9 : FPa P G9 f := (hFfG4).wx hXG9 hfG9 ⟨KX.al (KX.trans hXG2 hXG4) (kne kf3 (by decide)), KX.al (KX.trans hXG2 hXG4) (kne kf4 (by decide))⟩ (by show ¬ _; omega) (by show ¬ _; omega) (fun p hp => by show ¬ _; omega)
        show WP kX2_link X 85 [some (2, ((327682 : Nat) : Int)), some (2, ((A : Nat) : Int)), some (2, ((B : Nat) : Int)), some (0, s), some (2, ((f : Nat) : Int)), some (0, n4), none, none] [(0, rr10)] G9
        refine s_istore dX2_link_85 (by decide) (lv' := [some (2, ((327682 : Nat) : Int)), some (2, ((A : Nat) : Int)), some (2, ((B : Nat) : Int)), some (0, s), some (2, ((f : Nat) : Int)), some (0, rr10), none, none]) rfl ?_
        refine s_iconst dX2_link_87 (by decide) ?_
        refine s_istore dX2_link_88 (by decide) (lv' := [some (2, ((327682 : Nat) : Int)), some (2, ((A : Nat) : Int)), some (2, ((B : Nat) : Int)), some (0, s), some (2, ((f : Nat) : Int)), some (0, rr10), some (0, 0), none]) rfl ?_
        have L12 : ∀ (n12 : Nat) (m12 : Int) (e12 : Int) (G12 : LG), CI a b G12 → KX G9 G12 → WX (fun x => (262144 ≤ x ∧ x < 262272) ∨ x = 327691 ∨ x = 327692 ∨ (f + 1 ≤ x ∧ x ≤ f + 22)) G G12 → ((0 ≤ e12 ∧ e12 ≤ 6) ∧ (m12 = 0 → ∀ k : Nat, k < 6 → gS G12 262149 k ≤ 200) ∧ (∀ k : Nat, k < 6 → FIP P G12 262144 k) ∧ (FPa P G12 A) ∧ (FPa P G12 B) ∧ (FPa P G12 f)) → (6 - e12).toNat < n12 → WP kX2_link X 90 [some (2, ((327682 : Nat) : Int)), some (2, ((A : Nat) : Int)), some (2, ((B : Nat) : Int)), some (0, s), some (2, ((f : Nat) : Int)), some (0, m12), some (0, e12), none] [] G12 := by
          intro n12
          induction n12 with
          | zero => intro m12 e12 G12 hCG12 hXG12 hFG12 hi12 hm12; exact absurd hm12 (Nat.not_lt_zero _)
          | succ n12 ih12 =>
            intro m12 e12 G12 hCG12 hXG12 hFG12 hi12 hm12
            have hj12 := hi12
            obtain ⟨ie12, iz12, hFIG12, hFAG12, hFBG12, hFfG12⟩ := hi12
            refine s_iload dX2_link_90 rfl ?_
            refine s_bipush dX2_link_92 rfl (by decide) ?_
            refine s_icmp_ge (tgt := 120) dX2_link_94 (by decide) (fun c13 => ?_) (fun c13 => ?_)
            · -- 94 to 120
              refine s_iconst dX2_link_120 (by decide) ?_
              refine s_istore dX2_link_121 (by decide) (lv' := [some (2, ((327682 : Nat) : Int)), some (2, ((A : Nat) : Int)), some (2, ((B : Nat) : Int)), some (0, s), some (2, ((f : Nat) : Int)), some (0, m12), some (0, 0), none]) rfl ?_
              have L14 : ∀ (n14 : Nat) (m14 : Int) (e14 : Int) (G14 : LG), CI a b G14 → KX G12 G14 → WX (fun x => (262144 ≤ x ∧ x < 262272) ∨ x = 327691 ∨ x = 327692 ∨ (f + 1 ≤ x ∧ x ≤ f + 22)) G G14 → ((0 ≤ e14 ∧ e14 ≤ 10) ∧ (∀ k : Nat, k < 6 → FIP P G14 262144 k) ∧ (FPa P G14 A) ∧ (FPa P G14 B) ∧ (FPa P G14 f)) → (10 - e14).toNat < n14 → WP kX2_link X 123 [some (2, ((327682 : Nat) : Int)), some (2, ((A : Nat) : Int)), some (2, ((B : Nat) : Int)), some (0, s), some (2, ((f : Nat) : Int)), some (0, m14), some (0, e14), none] [] G14 := by
                intro n14
                induction n14 with
                | zero => intro m14 e14 G14 hCG14 hXG14 hFG14 hi14 hm14; exact absurd hm14 (Nat.not_lt_zero _)
                | succ n14 ih14 =>
                  intro m14 e14 G14 hCG14 hXG14 hFG14 hi14 hm14
                  have hj14 := hi14
                  obtain ⟨ie14, hFIG14, hFAG14, hFBG14, hFfG14⟩ := hi14
                  refine s_iload dX2_link_123 rfl ?_
                  refine s_bipush dX2_link_125 rfl (by decide) ?_
                  refine s_icmp_ge (tgt := 226) dX2_link_127 (by decide) (fun c15 => ?_) (fun c15 => ?_)
                  · -- 127 to 226
                    refine s_iload dX2_link_226 rfl ?_
                    exact s_iret hR dX2_link_228 rfl (hQ m14 G14 hCG14 (KX.trans (KX.trans (KX.trans (KX.trans hXG2 hXG4) hXG9) hXG12) hXG14) hFG14 hFfG14)
                  · -- 127 to 130
                    refine s_iload dX2_link_130 rfl ?_
                    refine s_if_ne (tgt := 226) dX2_link_132 (by decide) (fun c16 => ?_) (fun c16 => ?_)
                    · -- 132 to 226
                      refine s_iload dX2_link_226 rfl ?_
                      exact s_iret hR dX2_link_228 rfl (hQ m14 G14 hCG14 (KX.trans (KX.trans (KX.trans (KX.trans hXG2 hXG4) hXG9) hXG12) hXG14) hFG14 hFfG14)
                    · -- 132 to 135
                      refine s_iload_n dX2_link_135 rfl ?_
                      refine s_iload dX2_link_136 rfl ?_
                      refine s_callSN (own := RX2) rfl (by decide +kernel) (as := [(0, s), (0, e14)]) (rest := []) gX11_isIn dX2_link_138 m_1777 m_714 m_97 ⟨by decide, by decide, show (parseMethodDescriptor yX11_isIn.desc).map (fun d => d.parameters.length) = some 2 from by decide +kernel⟩ (Nat.le_of_ble_eq_true rfl) (by rw [hcf]; exact Nat.le_of_ble_eq_true rfl) rfl (Nat.le_of_ble_eq_true rfl) ⟨s, e14, rfl, fun rr17 hp18 => ?_⟩
                      show WP kX2_link X 141 [some (2, ((327682 : Nat) : Int)), some (2, ((A : Nat) : Int)), some (2, ((B : Nat) : Int)), some (0, s), some (2, ((f : Nat) : Int)), some (0, m14), some (0, e14), none] [(0, rr17)] G14
                      have J24 : ∀ z23 : Int, ((rr17 = 0) ∧ z23 = 0) ∨ ((¬ rr17 = 0) ∧ z23 = gS G14 (B + 2) ((e14 : Int).toNat)) → WP kX2_link X 155 [some (2, ((327682 : Nat) : Int)), some (2, ((A : Nat) : Int)), some (2, ((B : Nat) : Int)), some (0, s), some (2, ((f : Nat) : Int)), some (0, m14), some (0, e14), none] [(0, z23)] G14 := by
                        intro z23 hz23
                        refine s_istore dX2_link_155 (by decide) (lv' := [some (2, ((327682 : Nat) : Int)), some (2, ((A : Nat) : Int)), some (2, ((B : Nat) : Int)), some (0, s), some (2, ((f : Nat) : Int)), some (0, m14), some (0, e14), some (0, z23)]) rfl ?_
                        refine s_aload_n dX2_link_157 rfl (Int.natCast_nonneg _) ?_
                        refine s_iload dX2_link_158 rfl ?_
                        have hk27 : gK G14 (A) = (9, 0) := ((hXG14).k ((hXG12).k ((hXG9).k ((hXG4).k ((hXG2).k kA0 (by decide)) (by decide)) (by decide)) (by decide)) (by decide))
                        refine s_callV (as := [(0, e14)]) (rest := []) (n := A) (ci := 1) gX0_hasValue dX2_link_160 m_1313 m_739 m_1473 m_711 m_66 ⟨by decide, by decide, show (parseMethodDescriptor yX0_hasValue.desc).map (fun d => d.parameters.length) = some 1 from by decide +kernel⟩ (Nat.le_of_ble_eq_true rfl) (by rw [hcf]; exact Nat.le_of_ble_eq_true rfl) hk27 rfl rfl (Nat.le_of_ble_eq_true rfl) ⟨A, e14, a, b, rfl, hCG14, hab, (by first | assumption | omega), (by first | assumption | omega), fun rr25 hp26 => ?_⟩
                        show WP kX2_link X 163 [some (2, ((327682 : Nat) : Int)), some (2, ((A : Nat) : Int)), some (2, ((B : Nat) : Int)), some (0, s), some (2, ((f : Nat) : Int)), some (0, m14), some (0, e14), some (0, z23)] [(0, rr25)] G14
                        refine s_if_eq (tgt := 186) dX2_link_163 (by decide) (fun c28 => ?_) (fun c28 => ?_)
                        · -- 163 to 186
                          refine s_aload_n dX2_link_186 rfl (Int.natCast_nonneg _) ?_
                          refine s_iload dX2_link_187 rfl ?_
                          refine s_callV (as := [(0, e14)]) (rest := []) (n := A) (ci := 1) gX0_hasValue dX2_link_189 m_1313 m_739 m_1473 m_711 m_66 ⟨by decide, by decide, show (parseMethodDescriptor yX0_hasValue.desc).map (fun d => d.parameters.length) = some 1 from by decide +kernel⟩ (Nat.le_of_ble_eq_true rfl) (by rw [hcf]; exact Nat.le_of_ble_eq_true rfl) hk27 rfl rfl (Nat.le_of_ble_eq_true rfl) ⟨A, e14, a, b, rfl, hCG14, hab, (by first | assumption | omega), (by first | assumption | omega), fun rr29 hp30 => ?_⟩
                          show WP kX2_link X 192 [some (2, ((327682 : Nat) : Int)), some (2, ((A : Nat) : Int)), some (2, ((B : Nat) : Int)), some (0, s), some (2, ((f : Nat) : Int)), some (0, m14), some (0, e14), some (0, z23)] [(0, rr29)] G14
                          refine s_if_ne (tgt := 200) dX2_link_192 (by decide) (fun c31 => ?_) (fun c31 => ?_)
                          · -- 192 to 200
                            refine s_aload_n dX2_link_200 rfl (Int.natCast_nonneg _) ?_
                            refine s_iload dX2_link_201 rfl ?_
                            refine s_iload dX2_link_203 rfl ?_
                            refine s_if_ne (tgt := 212) dX2_link_205 (by decide) (fun c32 => ?_) (fun c32 => ?_)
                            · -- 205 to 212
                              refine s_aload_n dX2_link_212 rfl (Int.natCast_nonneg _) ?_
                              refine s_aload dX2_link_213 rfl (Int.natCast_nonneg _) ?_
                              have hk35 : gK G14 (327682) = (11, 0) := ((hXG14).k ((hXG12).k ((hXG9).k hk6 (by decide)) (by decide)) (by decide))
                              refine s_callV (as := [(0, e14), (2, ((B : Nat) : Int)), (2, ((f : Nat) : Int))]) (rest := []) (n := 327682) (ci := 3) gX2_linkOne dX2_link_215 m_1315 m_930 m_1658 m_716 m_277 ⟨by decide, by decide, show (parseMethodDescriptor yX2_linkOne.desc).map (fun d => d.parameters.length) = some 3 from by decide +kernel⟩ (Nat.le_of_ble_eq_true rfl) (by rw [hcf]; exact Nat.le_of_ble_eq_true rfl) hk35 rfl rfl (Nat.le_of_ble_eq_true rfl) ⟨P, e14, B, f, a, b, rfl, hCG14, hab, (by omega), (by assumption), (by assumption), (by omega), (by exact hFIG14), (by exact hFBG14), (by exact hFfG14), fun rr34 G33 hCG33 hXG33 hfG33 hpG33 => ?_⟩
                              have hFG33 : WX (fun x => (262144 ≤ x ∧ x < 262272) ∨ x = 327691 ∨ x = 327692 ∨ (f + 1 ≤ x ∧ x ≤ f + 22)) G G33 := WX.trans hFG14 (KX.trans (KX.trans (KX.trans (KX.trans hXG2 hXG4) hXG9) hXG12) hXG14) (WX.mono hfG33 (fun x hx => by omega))
                              have hFIG33 : ∀ k : Nat, k < 6 → FIP P G33 262144 k := fun k hk => FIP.sm (hFIG14 k hk) hXG33 hfG33 (by show ¬ _; omega) (congrFun (hfG33 262149 (KX.al (KX.trans (KX.trans (KX.trans (KX.trans hXG2 hXG4) hXG9) hXG12) hXG14) (kne k262149 (by decide))) (by show ¬ _; omega)) k)
                              have hFAG33 : FPa P G33 A := (hFAG14).wx hXG33 hfG33 ⟨KX.al (KX.trans (KX.trans (KX.trans (KX.trans hXG2 hXG4) hXG9) hXG12) hXG14) (kne kA3 (by decide)), KX.al (KX.trans (KX.trans (KX.trans (KX.trans hXG2 hXG4) hXG9) hXG12) hXG14) (kne kA4 (by decide))⟩ (by show ¬ _; omega) (by show ¬ _; omega) (fun p hp => by show ¬ _; omega)
                              have hFBG33 : FPa P G33 B := (hFBG14).wx hXG33 hfG33 ⟨KX.al (KX.trans (KX.trans (KX.trans (KX.trans hXG2 hXG4) hXG9) hXG12) hXG14) (kne kB3 (by decide)), KX.al (KX.trans (KX.trans (KX.trans (KX.trans hXG2 hXG4) hXG9) hXG12) hXG14) (kne kB4 (by decide))⟩ (by show ¬ _; omega) (by show ¬ _; omega) (fun p hp => by show ¬ _; omega)
                              have hFfG33 : FPa P G33 f := hpG33
                              show WP kX2_link X 218 [some (2, ((327682 : Nat) : Int)), some (2, ((A : Nat) : Int)), some (2, ((B : Nat) : Int)), some (0, s), some (2, ((f : Nat) : Int)), some (0, m14), some (0, e14), some (0, z23)] [(0, rr34)] G33
                              refine s_istore dX2_link_218 (by decide) (lv' := [some (2, ((327682 : Nat) : Int)), some (2, ((A : Nat) : Int)), some (2, ((B : Nat) : Int)), some (0, s), some (2, ((f : Nat) : Int)), some (0, rr34), some (0, e14), some (0, z23)]) rfl ?_
                              refine s_iinc dX2_link_220 (v := e14) rfl (by omega) (by decide) (lv' := [some (2, ((327682 : Nat) : Int)), some (2, ((A : Nat) : Int)), some (2, ((B : Nat) : Int)), some (0, s), some (2, ((f : Nat) : Int)), some (0, rr34), some (0, e14 + 1), some (0, z23)]) rfl ?_
                              refine s_goto (tgt := 123) dX2_link_223 (by decide) ?_
                              refine s_mask [true, true, true, true, true, true, true, false] (lv' := [some (2, ((327682 : Nat) : Int)), some (2, ((A : Nat) : Int)), some (2, ((B : Nat) : Int)), some (0, s), some (2, ((f : Nat) : Int)), some (0, rr34), some (0, e14 + 1), none]) rfl ?_
                              exact ih14 rr34 (e14 + 1) G33 hCG33 (KX.trans hXG14 hXG33) hFG33 (⟨(by omega), (by exact hFIG33), (by exact hFAG33), (by exact hFBG33), (by exact hFfG33)⟩) (by omega)
                            · -- 205 to 208
                              refine s_aload_n dX2_link_208 rfl (Int.natCast_nonneg _) ?_
                              refine s_goto (tgt := 213) dX2_link_209 (by decide) ?_
                              refine s_aload dX2_link_213 rfl (Int.natCast_nonneg _) ?_
                              have hk38 : gK G14 (327682) = (11, 0) := ((hXG14).k ((hXG12).k ((hXG9).k hk6 (by decide)) (by decide)) (by decide))
                              refine s_callV (as := [(0, e14), (2, ((A : Nat) : Int)), (2, ((f : Nat) : Int))]) (rest := []) (n := 327682) (ci := 3) gX2_linkOne dX2_link_215 m_1315 m_930 m_1658 m_716 m_277 ⟨by decide, by decide, show (parseMethodDescriptor yX2_linkOne.desc).map (fun d => d.parameters.length) = some 3 from by decide +kernel⟩ (Nat.le_of_ble_eq_true rfl) (by rw [hcf]; exact Nat.le_of_ble_eq_true rfl) hk38 rfl rfl (Nat.le_of_ble_eq_true rfl) ⟨P, e14, A, f, a, b, rfl, hCG14, hab, (by omega), (by assumption), (by assumption), (by omega), (by exact hFIG14), (by exact hFAG14), (by exact hFfG14), fun rr37 G36 hCG36 hXG36 hfG36 hpG36 => ?_⟩
                              have hFG36 : WX (fun x => (262144 ≤ x ∧ x < 262272) ∨ x = 327691 ∨ x = 327692 ∨ (f + 1 ≤ x ∧ x ≤ f + 22)) G G36 := WX.trans hFG14 (KX.trans (KX.trans (KX.trans (KX.trans hXG2 hXG4) hXG9) hXG12) hXG14) (WX.mono hfG36 (fun x hx => by omega))
                              have hFIG36 : ∀ k : Nat, k < 6 → FIP P G36 262144 k := fun k hk => FIP.sm (hFIG14 k hk) hXG36 hfG36 (by show ¬ _; omega) (congrFun (hfG36 262149 (KX.al (KX.trans (KX.trans (KX.trans (KX.trans hXG2 hXG4) hXG9) hXG12) hXG14) (kne k262149 (by decide))) (by show ¬ _; omega)) k)
                              have hFAG36 : FPa P G36 A := (hFAG14).wx hXG36 hfG36 ⟨KX.al (KX.trans (KX.trans (KX.trans (KX.trans hXG2 hXG4) hXG9) hXG12) hXG14) (kne kA3 (by decide)), KX.al (KX.trans (KX.trans (KX.trans (KX.trans hXG2 hXG4) hXG9) hXG12) hXG14) (kne kA4 (by decide))⟩ (by show ¬ _; omega) (by show ¬ _; omega) (fun p hp => by show ¬ _; omega)
                              have hFBG36 : FPa P G36 B := (hFBG14).wx hXG36 hfG36 ⟨KX.al (KX.trans (KX.trans (KX.trans (KX.trans hXG2 hXG4) hXG9) hXG12) hXG14) (kne kB3 (by decide)), KX.al (KX.trans (KX.trans (KX.trans (KX.trans hXG2 hXG4) hXG9) hXG12) hXG14) (kne kB4 (by decide))⟩ (by show ¬ _; omega) (by show ¬ _; omega) (fun p hp => by show ¬ _; omega)
                              have hFfG36 : FPa P G36 f := hpG36
                              show WP kX2_link X 218 [some (2, ((327682 : Nat) : Int)), some (2, ((A : Nat) : Int)), some (2, ((B : Nat) : Int)), some (0, s), some (2, ((f : Nat) : Int)), some (0, m14), some (0, e14), some (0, z23)] [(0, rr37)] G36
                              refine s_istore dX2_link_218 (by decide) (lv' := [some (2, ((327682 : Nat) : Int)), some (2, ((A : Nat) : Int)), some (2, ((B : Nat) : Int)), some (0, s), some (2, ((f : Nat) : Int)), some (0, rr37), some (0, e14), some (0, z23)]) rfl ?_
                              refine s_iinc dX2_link_220 (v := e14) rfl (by omega) (by decide) (lv' := [some (2, ((327682 : Nat) : Int)), some (2, ((A : Nat) : Int)), some (2, ((B : Nat) : Int)), some (0, s), some (2, ((f : Nat) : Int)), some (0, rr37), some (0, e14 + 1), some (0, z23)]) rfl ?_
                              refine s_goto (tgt := 123) dX2_link_223 (by decide) ?_
                              refine s_mask [true, true, true, true, true, true, true, false] (lv' := [some (2, ((327682 : Nat) : Int)), some (2, ((A : Nat) : Int)), some (2, ((B : Nat) : Int)), some (0, s), some (2, ((f : Nat) : Int)), some (0, rr37), some (0, e14 + 1), none]) rfl ?_
                              exact ih14 rr37 (e14 + 1) G36 hCG36 (KX.trans hXG14 hXG36) hFG36 (⟨(by omega), (by exact hFIG36), (by exact hFAG36), (by exact hFBG36), (by exact hFfG36)⟩) (by omega)
                          · -- 192 to 195
                            refine s_iload dX2_link_195 rfl ?_
                            refine s_if_eq (tgt := 220) dX2_link_197 (by decide) (fun c39 => ?_) (fun c39 => ?_)
                            · -- 197 to 220
                              refine s_iinc dX2_link_220 (v := e14) rfl (by omega) (by decide) (lv' := [some (2, ((327682 : Nat) : Int)), some (2, ((A : Nat) : Int)), some (2, ((B : Nat) : Int)), some (0, s), some (2, ((f : Nat) : Int)), some (0, m14), some (0, e14 + 1), some (0, z23)]) rfl ?_
                              refine s_goto (tgt := 123) dX2_link_223 (by decide) ?_
                              refine s_mask [true, true, true, true, true, true, true, false] (lv' := [some (2, ((327682 : Nat) : Int)), some (2, ((A : Nat) : Int)), some (2, ((B : Nat) : Int)), some (0, s), some (2, ((f : Nat) : Int)), some (0, m14), some (0, e14 + 1), none]) rfl ?_
                              exact ih14 m14 (e14 + 1) G14 hCG14 hXG14 hFG14 (⟨(by omega), (by exact hFIG14), (by exact hFAG14), (by exact hFBG14), (by exact hFfG14)⟩) (by omega)
                            · -- 197 to 200
                              refine s_aload_n dX2_link_200 rfl (Int.natCast_nonneg _) ?_
                              refine s_iload dX2_link_201 rfl ?_
                              refine s_iload dX2_link_203 rfl ?_
                              refine s_if_ne (tgt := 212) dX2_link_205 (by decide) (fun c40 => ?_) (fun c40 => ?_)
                              · -- 205 to 212
                                refine s_aload_n dX2_link_212 rfl (Int.natCast_nonneg _) ?_
                                refine s_aload dX2_link_213 rfl (Int.natCast_nonneg _) ?_
                                have hk43 : gK G14 (327682) = (11, 0) := ((hXG14).k ((hXG12).k ((hXG9).k hk6 (by decide)) (by decide)) (by decide))
                                refine s_callV (as := [(0, e14), (2, ((B : Nat) : Int)), (2, ((f : Nat) : Int))]) (rest := []) (n := 327682) (ci := 3) gX2_linkOne dX2_link_215 m_1315 m_930 m_1658 m_716 m_277 ⟨by decide, by decide, show (parseMethodDescriptor yX2_linkOne.desc).map (fun d => d.parameters.length) = some 3 from by decide +kernel⟩ (Nat.le_of_ble_eq_true rfl) (by rw [hcf]; exact Nat.le_of_ble_eq_true rfl) hk43 rfl rfl (Nat.le_of_ble_eq_true rfl) ⟨P, e14, B, f, a, b, rfl, hCG14, hab, (by omega), (by assumption), (by assumption), (by omega), (by exact hFIG14), (by exact hFBG14), (by exact hFfG14), fun rr42 G41 hCG41 hXG41 hfG41 hpG41 => ?_⟩
                                have hFG41 : WX (fun x => (262144 ≤ x ∧ x < 262272) ∨ x = 327691 ∨ x = 327692 ∨ (f + 1 ≤ x ∧ x ≤ f + 22)) G G41 := WX.trans hFG14 (KX.trans (KX.trans (KX.trans (KX.trans hXG2 hXG4) hXG9) hXG12) hXG14) (WX.mono hfG41 (fun x hx => by omega))
                                have hFIG41 : ∀ k : Nat, k < 6 → FIP P G41 262144 k := fun k hk => FIP.sm (hFIG14 k hk) hXG41 hfG41 (by show ¬ _; omega) (congrFun (hfG41 262149 (KX.al (KX.trans (KX.trans (KX.trans (KX.trans hXG2 hXG4) hXG9) hXG12) hXG14) (kne k262149 (by decide))) (by show ¬ _; omega)) k)
                                have hFAG41 : FPa P G41 A := (hFAG14).wx hXG41 hfG41 ⟨KX.al (KX.trans (KX.trans (KX.trans (KX.trans hXG2 hXG4) hXG9) hXG12) hXG14) (kne kA3 (by decide)), KX.al (KX.trans (KX.trans (KX.trans (KX.trans hXG2 hXG4) hXG9) hXG12) hXG14) (kne kA4 (by decide))⟩ (by show ¬ _; omega) (by show ¬ _; omega) (fun p hp => by show ¬ _; omega)
                                have hFBG41 : FPa P G41 B := (hFBG14).wx hXG41 hfG41 ⟨KX.al (KX.trans (KX.trans (KX.trans (KX.trans hXG2 hXG4) hXG9) hXG12) hXG14) (kne kB3 (by decide)), KX.al (KX.trans (KX.trans (KX.trans (KX.trans hXG2 hXG4) hXG9) hXG12) hXG14) (kne kB4 (by decide))⟩ (by show ¬ _; omega) (by show ¬ _; omega) (fun p hp => by show ¬ _; omega)
                                have hFfG41 : FPa P G41 f := hpG41
                                show WP kX2_link X 218 [some (2, ((327682 : Nat) : Int)), some (2, ((A : Nat) : Int)), some (2, ((B : Nat) : Int)), some (0, s), some (2, ((f : Nat) : Int)), some (0, m14), some (0, e14), some (0, z23)] [(0, rr42)] G41
                                refine s_istore dX2_link_218 (by decide) (lv' := [some (2, ((327682 : Nat) : Int)), some (2, ((A : Nat) : Int)), some (2, ((B : Nat) : Int)), some (0, s), some (2, ((f : Nat) : Int)), some (0, rr42), some (0, e14), some (0, z23)]) rfl ?_
                                refine s_iinc dX2_link_220 (v := e14) rfl (by omega) (by decide) (lv' := [some (2, ((327682 : Nat) : Int)), some (2, ((A : Nat) : Int)), some (2, ((B : Nat) : Int)), some (0, s), some (2, ((f : Nat) : Int)), some (0, rr42), some (0, e14 + 1), some (0, z23)]) rfl ?_
                                refine s_goto (tgt := 123) dX2_link_223 (by decide) ?_
                                refine s_mask [true, true, true, true, true, true, true, false] (lv' := [some (2, ((327682 : Nat) : Int)), some (2, ((A : Nat) : Int)), some (2, ((B : Nat) : Int)), some (0, s), some (2, ((f : Nat) : Int)), some (0, rr42), some (0, e14 + 1), none]) rfl ?_
                                exact ih14 rr42 (e14 + 1) G41 hCG41 (KX.trans hXG14 hXG41) hFG41 (⟨(by omega), (by exact hFIG41), (by exact hFAG41), (by exact hFBG41), (by exact hFfG41)⟩) (by omega)
                              · -- 205 to 208
                                refine s_aload_n dX2_link_208 rfl (Int.natCast_nonneg _) ?_
                                refine s_goto (tgt := 213) dX2_link_209 (by decide) ?_
                                refine s_aload dX2_link_213 rfl (Int.natCast_nonneg _) ?_
                                have hk46 : gK G14 (327682) = (11, 0) := ((hXG14).k ((hXG12).k ((hXG9).k hk6 (by decide)) (by decide)) (by decide))
                                refine s_callV (as := [(0, e14), (2, ((A : Nat) : Int)), (2, ((f : Nat) : Int))]) (rest := []) (n := 327682) (ci := 3) gX2_linkOne dX2_link_215 m_1315 m_930 m_1658 m_716 m_277 ⟨by decide, by decide, show (parseMethodDescriptor yX2_linkOne.desc).map (fun d => d.parameters.length) = some 3 from by decide +kernel⟩ (Nat.le_of_ble_eq_true rfl) (by rw [hcf]; exact Nat.le_of_ble_eq_true rfl) hk46 rfl rfl (Nat.le_of_ble_eq_true rfl) ⟨P, e14, A, f, a, b, rfl, hCG14, hab, (by omega), (by assumption), (by assumption), (by omega), (by exact hFIG14), (by exact hFAG14), (by exact hFfG14), fun rr45 G44 hCG44 hXG44 hfG44 hpG44 => ?_⟩
                                have hFG44 : WX (fun x => (262144 ≤ x ∧ x < 262272) ∨ x = 327691 ∨ x = 327692 ∨ (f + 1 ≤ x ∧ x ≤ f + 22)) G G44 := WX.trans hFG14 (KX.trans (KX.trans (KX.trans (KX.trans hXG2 hXG4) hXG9) hXG12) hXG14) (WX.mono hfG44 (fun x hx => by omega))
                                have hFIG44 : ∀ k : Nat, k < 6 → FIP P G44 262144 k := fun k hk => FIP.sm (hFIG14 k hk) hXG44 hfG44 (by show ¬ _; omega) (congrFun (hfG44 262149 (KX.al (KX.trans (KX.trans (KX.trans (KX.trans hXG2 hXG4) hXG9) hXG12) hXG14) (kne k262149 (by decide))) (by show ¬ _; omega)) k)
                                have hFAG44 : FPa P G44 A := (hFAG14).wx hXG44 hfG44 ⟨KX.al (KX.trans (KX.trans (KX.trans (KX.trans hXG2 hXG4) hXG9) hXG12) hXG14) (kne kA3 (by decide)), KX.al (KX.trans (KX.trans (KX.trans (KX.trans hXG2 hXG4) hXG9) hXG12) hXG14) (kne kA4 (by decide))⟩ (by show ¬ _; omega) (by show ¬ _; omega) (fun p hp => by show ¬ _; omega)
                                have hFBG44 : FPa P G44 B := (hFBG14).wx hXG44 hfG44 ⟨KX.al (KX.trans (KX.trans (KX.trans (KX.trans hXG2 hXG4) hXG9) hXG12) hXG14) (kne kB3 (by decide)), KX.al (KX.trans (KX.trans (KX.trans (KX.trans hXG2 hXG4) hXG9) hXG12) hXG14) (kne kB4 (by decide))⟩ (by show ¬ _; omega) (by show ¬ _; omega) (fun p hp => by show ¬ _; omega)
                                have hFfG44 : FPa P G44 f := hpG44
                                show WP kX2_link X 218 [some (2, ((327682 : Nat) : Int)), some (2, ((A : Nat) : Int)), some (2, ((B : Nat) : Int)), some (0, s), some (2, ((f : Nat) : Int)), some (0, m14), some (0, e14), some (0, z23)] [(0, rr45)] G44
                                refine s_istore dX2_link_218 (by decide) (lv' := [some (2, ((327682 : Nat) : Int)), some (2, ((A : Nat) : Int)), some (2, ((B : Nat) : Int)), some (0, s), some (2, ((f : Nat) : Int)), some (0, rr45), some (0, e14), some (0, z23)]) rfl ?_
                                refine s_iinc dX2_link_220 (v := e14) rfl (by omega) (by decide) (lv' := [some (2, ((327682 : Nat) : Int)), some (2, ((A : Nat) : Int)), some (2, ((B : Nat) : Int)), some (0, s), some (2, ((f : Nat) : Int)), some (0, rr45), some (0, e14 + 1), some (0, z23)]) rfl ?_
                                refine s_goto (tgt := 123) dX2_link_223 (by decide) ?_
                                refine s_mask [true, true, true, true, true, true, true, false] (lv' := [some (2, ((327682 : Nat) : Int)), some (2, ((A : Nat) : Int)), some (2, ((B : Nat) : Int)), some (0, s), some (2, ((f : Nat) : Int)), some (0, rr45), some (0, e14 + 1), none]) rfl ?_
                                exact ih14 rr45 (e14 + 1) G44 hCG44 (KX.trans hXG14 hXG44) hFG44 (⟨(by omega), (by exact hFIG44), (by exact hFAG44), (by exact hFBG44), (by exact hFfG44)⟩) (by omega)
                        · -- 163 to 166
                          refine s_iload dX2_link_166 rfl ?_
                          refine s_if_eq (tgt := 186) dX2_link_168 (by decide) (fun c47 => ?_) (fun c47 => ?_)
                          · -- 168 to 186
                            refine s_aload_n dX2_link_186 rfl (Int.natCast_nonneg _) ?_
                            refine s_iload dX2_link_187 rfl ?_
                            refine s_callV (as := [(0, e14)]) (rest := []) (n := A) (ci := 1) gX0_hasValue dX2_link_189 m_1313 m_739 m_1473 m_711 m_66 ⟨by decide, by decide, show (parseMethodDescriptor yX0_hasValue.desc).map (fun d => d.parameters.length) = some 1 from by decide +kernel⟩ (Nat.le_of_ble_eq_true rfl) (by rw [hcf]; exact Nat.le_of_ble_eq_true rfl) hk27 rfl rfl (Nat.le_of_ble_eq_true rfl) ⟨A, e14, a, b, rfl, hCG14, hab, (by first | assumption | omega), (by first | assumption | omega), fun rr48 hp49 => ?_⟩
                            show WP kX2_link X 192 [some (2, ((327682 : Nat) : Int)), some (2, ((A : Nat) : Int)), some (2, ((B : Nat) : Int)), some (0, s), some (2, ((f : Nat) : Int)), some (0, m14), some (0, e14), some (0, z23)] [(0, rr48)] G14
                            refine s_if_ne (tgt := 200) dX2_link_192 (by decide) (fun c50 => ?_) (fun c50 => ?_)
                            · -- 192 to 200
                              refine s_aload_n dX2_link_200 rfl (Int.natCast_nonneg _) ?_
                              refine s_iload dX2_link_201 rfl ?_
                              refine s_iload dX2_link_203 rfl ?_
                              refine s_if_ne (tgt := 212) dX2_link_205 (by decide) (fun c51 => ?_) (fun c51 => ?_)
                              · -- 205 to 212
                                refine s_aload_n dX2_link_212 rfl (Int.natCast_nonneg _) ?_
                                refine s_aload dX2_link_213 rfl (Int.natCast_nonneg _) ?_
                                have hk54 : gK G14 (327682) = (11, 0) := ((hXG14).k ((hXG12).k ((hXG9).k hk6 (by decide)) (by decide)) (by decide))
                                refine s_callV (as := [(0, e14), (2, ((B : Nat) : Int)), (2, ((f : Nat) : Int))]) (rest := []) (n := 327682) (ci := 3) gX2_linkOne dX2_link_215 m_1315 m_930 m_1658 m_716 m_277 ⟨by decide, by decide, show (parseMethodDescriptor yX2_linkOne.desc).map (fun d => d.parameters.length) = some 3 from by decide +kernel⟩ (Nat.le_of_ble_eq_true rfl) (by rw [hcf]; exact Nat.le_of_ble_eq_true rfl) hk54 rfl rfl (Nat.le_of_ble_eq_true rfl) ⟨P, e14, B, f, a, b, rfl, hCG14, hab, (by omega), (by assumption), (by assumption), (by omega), (by exact hFIG14), (by exact hFBG14), (by exact hFfG14), fun rr53 G52 hCG52 hXG52 hfG52 hpG52 => ?_⟩
                                have hFG52 : WX (fun x => (262144 ≤ x ∧ x < 262272) ∨ x = 327691 ∨ x = 327692 ∨ (f + 1 ≤ x ∧ x ≤ f + 22)) G G52 := WX.trans hFG14 (KX.trans (KX.trans (KX.trans (KX.trans hXG2 hXG4) hXG9) hXG12) hXG14) (WX.mono hfG52 (fun x hx => by omega))
                                have hFIG52 : ∀ k : Nat, k < 6 → FIP P G52 262144 k := fun k hk => FIP.sm (hFIG14 k hk) hXG52 hfG52 (by show ¬ _; omega) (congrFun (hfG52 262149 (KX.al (KX.trans (KX.trans (KX.trans (KX.trans hXG2 hXG4) hXG9) hXG12) hXG14) (kne k262149 (by decide))) (by show ¬ _; omega)) k)
                                have hFAG52 : FPa P G52 A := (hFAG14).wx hXG52 hfG52 ⟨KX.al (KX.trans (KX.trans (KX.trans (KX.trans hXG2 hXG4) hXG9) hXG12) hXG14) (kne kA3 (by decide)), KX.al (KX.trans (KX.trans (KX.trans (KX.trans hXG2 hXG4) hXG9) hXG12) hXG14) (kne kA4 (by decide))⟩ (by show ¬ _; omega) (by show ¬ _; omega) (fun p hp => by show ¬ _; omega)
                                have hFBG52 : FPa P G52 B := (hFBG14).wx hXG52 hfG52 ⟨KX.al (KX.trans (KX.trans (KX.trans (KX.trans hXG2 hXG4) hXG9) hXG12) hXG14) (kne kB3 (by decide)), KX.al (KX.trans (KX.trans (KX.trans (KX.trans hXG2 hXG4) hXG9) hXG12) hXG14) (kne kB4 (by decide))⟩ (by show ¬ _; omega) (by show ¬ _; omega) (fun p hp => by show ¬ _; omega)
                                have hFfG52 : FPa P G52 f := hpG52
                                show WP kX2_link X 218 [some (2, ((327682 : Nat) : Int)), some (2, ((A : Nat) : Int)), some (2, ((B : Nat) : Int)), some (0, s), some (2, ((f : Nat) : Int)), some (0, m14), some (0, e14), some (0, z23)] [(0, rr53)] G52
                                refine s_istore dX2_link_218 (by decide) (lv' := [some (2, ((327682 : Nat) : Int)), some (2, ((A : Nat) : Int)), some (2, ((B : Nat) : Int)), some (0, s), some (2, ((f : Nat) : Int)), some (0, rr53), some (0, e14), some (0, z23)]) rfl ?_
                                refine s_iinc dX2_link_220 (v := e14) rfl (by omega) (by decide) (lv' := [some (2, ((327682 : Nat) : Int)), some (2, ((A : Nat) : Int)), some (2, ((B : Nat) : Int)), some (0, s), some (2, ((f : Nat) : Int)), some (0, rr53), some (0, e14 + 1), some (0, z23)]) rfl ?_
                                refine s_goto (tgt := 123) dX2_link_223 (by decide) ?_
                                refine s_mask [true, true, true, true, true, true, true, false] (lv' := [some (2, ((327682 : Nat) : Int)), some (2, ((A : Nat) : Int)), some (2, ((B : Nat) : Int)), some (0, s), some (2, ((f : Nat) : Int)), some (0, rr53), some (0, e14 + 1), none]) rfl ?_
                                exact ih14 rr53 (e14 + 1) G52 hCG52 (KX.trans hXG14 hXG52) hFG52 (⟨(by omega), (by exact hFIG52), (by exact hFAG52), (by exact hFBG52), (by exact hFfG52)⟩) (by omega)
                              · -- 205 to 208
                                refine s_aload_n dX2_link_208 rfl (Int.natCast_nonneg _) ?_
                                refine s_goto (tgt := 213) dX2_link_209 (by decide) ?_
                                refine s_aload dX2_link_213 rfl (Int.natCast_nonneg _) ?_
                                have hk57 : gK G14 (327682) = (11, 0) := ((hXG14).k ((hXG12).k ((hXG9).k hk6 (by decide)) (by decide)) (by decide))
                                refine s_callV (as := [(0, e14), (2, ((A : Nat) : Int)), (2, ((f : Nat) : Int))]) (rest := []) (n := 327682) (ci := 3) gX2_linkOne dX2_link_215 m_1315 m_930 m_1658 m_716 m_277 ⟨by decide, by decide, show (parseMethodDescriptor yX2_linkOne.desc).map (fun d => d.parameters.length) = some 3 from by decide +kernel⟩ (Nat.le_of_ble_eq_true rfl) (by rw [hcf]; exact Nat.le_of_ble_eq_true rfl) hk57 rfl rfl (Nat.le_of_ble_eq_true rfl) ⟨P, e14, A, f, a, b, rfl, hCG14, hab, (by omega), (by assumption), (by assumption), (by omega), (by exact hFIG14), (by exact hFAG14), (by exact hFfG14), fun rr56 G55 hCG55 hXG55 hfG55 hpG55 => ?_⟩
                                have hFG55 : WX (fun x => (262144 ≤ x ∧ x < 262272) ∨ x = 327691 ∨ x = 327692 ∨ (f + 1 ≤ x ∧ x ≤ f + 22)) G G55 := WX.trans hFG14 (KX.trans (KX.trans (KX.trans (KX.trans hXG2 hXG4) hXG9) hXG12) hXG14) (WX.mono hfG55 (fun x hx => by omega))
                                have hFIG55 : ∀ k : Nat, k < 6 → FIP P G55 262144 k := fun k hk => FIP.sm (hFIG14 k hk) hXG55 hfG55 (by show ¬ _; omega) (congrFun (hfG55 262149 (KX.al (KX.trans (KX.trans (KX.trans (KX.trans hXG2 hXG4) hXG9) hXG12) hXG14) (kne k262149 (by decide))) (by show ¬ _; omega)) k)
                                have hFAG55 : FPa P G55 A := (hFAG14).wx hXG55 hfG55 ⟨KX.al (KX.trans (KX.trans (KX.trans (KX.trans hXG2 hXG4) hXG9) hXG12) hXG14) (kne kA3 (by decide)), KX.al (KX.trans (KX.trans (KX.trans (KX.trans hXG2 hXG4) hXG9) hXG12) hXG14) (kne kA4 (by decide))⟩ (by show ¬ _; omega) (by show ¬ _; omega) (fun p hp => by show ¬ _; omega)
                                have hFBG55 : FPa P G55 B := (hFBG14).wx hXG55 hfG55 ⟨KX.al (KX.trans (KX.trans (KX.trans (KX.trans hXG2 hXG4) hXG9) hXG12) hXG14) (kne kB3 (by decide)), KX.al (KX.trans (KX.trans (KX.trans (KX.trans hXG2 hXG4) hXG9) hXG12) hXG14) (kne kB4 (by decide))⟩ (by show ¬ _; omega) (by show ¬ _; omega) (fun p hp => by show ¬ _; omega)
                                have hFfG55 : FPa P G55 f := hpG55
                                show WP kX2_link X 218 [some (2, ((327682 : Nat) : Int)), some (2, ((A : Nat) : Int)), some (2, ((B : Nat) : Int)), some (0, s), some (2, ((f : Nat) : Int)), some (0, m14), some (0, e14), some (0, z23)] [(0, rr56)] G55
                                refine s_istore dX2_link_218 (by decide) (lv' := [some (2, ((327682 : Nat) : Int)), some (2, ((A : Nat) : Int)), some (2, ((B : Nat) : Int)), some (0, s), some (2, ((f : Nat) : Int)), some (0, rr56), some (0, e14), some (0, z23)]) rfl ?_
                                refine s_iinc dX2_link_220 (v := e14) rfl (by omega) (by decide) (lv' := [some (2, ((327682 : Nat) : Int)), some (2, ((A : Nat) : Int)), some (2, ((B : Nat) : Int)), some (0, s), some (2, ((f : Nat) : Int)), some (0, rr56), some (0, e14 + 1), some (0, z23)]) rfl ?_
                                refine s_goto (tgt := 123) dX2_link_223 (by decide) ?_
                                refine s_mask [true, true, true, true, true, true, true, false] (lv' := [some (2, ((327682 : Nat) : Int)), some (2, ((A : Nat) : Int)), some (2, ((B : Nat) : Int)), some (0, s), some (2, ((f : Nat) : Int)), some (0, rr56), some (0, e14 + 1), none]) rfl ?_
                                exact ih14 rr56 (e14 + 1) G55 hCG55 (KX.trans hXG14 hXG55) hFG55 (⟨(by omega), (by exact hFIG55), (by exact hFAG55), (by exact hFBG55), (by exact hFfG55)⟩) (by omega)
                            · -- 192 to 195
                              refine s_iload dX2_link_195 rfl ?_
                              refine s_if_eq (tgt := 220) dX2_link_197 (by decide) (fun c58 => ?_) (fun c58 => ?_)
                              · -- 197 to 220
                                refine s_iinc dX2_link_220 (v := e14) rfl (by omega) (by decide) (lv' := [some (2, ((327682 : Nat) : Int)), some (2, ((A : Nat) : Int)), some (2, ((B : Nat) : Int)), some (0, s), some (2, ((f : Nat) : Int)), some (0, m14), some (0, e14 + 1), some (0, z23)]) rfl ?_
                                refine s_goto (tgt := 123) dX2_link_223 (by decide) ?_
                                refine s_mask [true, true, true, true, true, true, true, false] (lv' := [some (2, ((327682 : Nat) : Int)), some (2, ((A : Nat) : Int)), some (2, ((B : Nat) : Int)), some (0, s), some (2, ((f : Nat) : Int)), some (0, m14), some (0, e14 + 1), none]) rfl ?_
                                exact ih14 m14 (e14 + 1) G14 hCG14 hXG14 hFG14 (⟨(by omega), (by exact hFIG14), (by exact hFAG14), (by exact hFBG14), (by exact hFfG14)⟩) (by omega)
                              · -- 197 to 200
                                refine s_aload_n dX2_link_200 rfl (Int.natCast_nonneg _) ?_
                                refine s_iload dX2_link_201 rfl ?_
                                refine s_iload dX2_link_203 rfl ?_
                                refine s_if_ne (tgt := 212) dX2_link_205 (by decide) (fun c59 => ?_) (fun c59 => ?_)
                                · -- 205 to 212
                                  refine s_aload_n dX2_link_212 rfl (Int.natCast_nonneg _) ?_
                                  refine s_aload dX2_link_213 rfl (Int.natCast_nonneg _) ?_
                                  have hk62 : gK G14 (327682) = (11, 0) := ((hXG14).k ((hXG12).k ((hXG9).k hk6 (by decide)) (by decide)) (by decide))
                                  refine s_callV (as := [(0, e14), (2, ((B : Nat) : Int)), (2, ((f : Nat) : Int))]) (rest := []) (n := 327682) (ci := 3) gX2_linkOne dX2_link_215 m_1315 m_930 m_1658 m_716 m_277 ⟨by decide, by decide, show (parseMethodDescriptor yX2_linkOne.desc).map (fun d => d.parameters.length) = some 3 from by decide +kernel⟩ (Nat.le_of_ble_eq_true rfl) (by rw [hcf]; exact Nat.le_of_ble_eq_true rfl) hk62 rfl rfl (Nat.le_of_ble_eq_true rfl) ⟨P, e14, B, f, a, b, rfl, hCG14, hab, (by omega), (by assumption), (by assumption), (by omega), (by exact hFIG14), (by exact hFBG14), (by exact hFfG14), fun rr61 G60 hCG60 hXG60 hfG60 hpG60 => ?_⟩
                                  have hFG60 : WX (fun x => (262144 ≤ x ∧ x < 262272) ∨ x = 327691 ∨ x = 327692 ∨ (f + 1 ≤ x ∧ x ≤ f + 22)) G G60 := WX.trans hFG14 (KX.trans (KX.trans (KX.trans (KX.trans hXG2 hXG4) hXG9) hXG12) hXG14) (WX.mono hfG60 (fun x hx => by omega))
                                  have hFIG60 : ∀ k : Nat, k < 6 → FIP P G60 262144 k := fun k hk => FIP.sm (hFIG14 k hk) hXG60 hfG60 (by show ¬ _; omega) (congrFun (hfG60 262149 (KX.al (KX.trans (KX.trans (KX.trans (KX.trans hXG2 hXG4) hXG9) hXG12) hXG14) (kne k262149 (by decide))) (by show ¬ _; omega)) k)
                                  have hFAG60 : FPa P G60 A := (hFAG14).wx hXG60 hfG60 ⟨KX.al (KX.trans (KX.trans (KX.trans (KX.trans hXG2 hXG4) hXG9) hXG12) hXG14) (kne kA3 (by decide)), KX.al (KX.trans (KX.trans (KX.trans (KX.trans hXG2 hXG4) hXG9) hXG12) hXG14) (kne kA4 (by decide))⟩ (by show ¬ _; omega) (by show ¬ _; omega) (fun p hp => by show ¬ _; omega)
                                  have hFBG60 : FPa P G60 B := (hFBG14).wx hXG60 hfG60 ⟨KX.al (KX.trans (KX.trans (KX.trans (KX.trans hXG2 hXG4) hXG9) hXG12) hXG14) (kne kB3 (by decide)), KX.al (KX.trans (KX.trans (KX.trans (KX.trans hXG2 hXG4) hXG9) hXG12) hXG14) (kne kB4 (by decide))⟩ (by show ¬ _; omega) (by show ¬ _; omega) (fun p hp => by show ¬ _; omega)
                                  have hFfG60 : FPa P G60 f := hpG60
                                  show WP kX2_link X 218 [some (2, ((327682 : Nat) : Int)), some (2, ((A : Nat) : Int)), some (2, ((B : Nat) : Int)), some (0, s), some (2, ((f : Nat) : Int)), some (0, m14), some (0, e14), some (0, z23)] [(0, rr61)] G60
                                  refine s_istore dX2_link_218 (by decide) (lv' := [some (2, ((327682 : Nat) : Int)), some (2, ((A : Nat) : Int)), some (2, ((B : Nat) : Int)), some (0, s), some (2, ((f : Nat) : Int)), some (0, rr61), some (0, e14), some (0, z23)]) rfl ?_
                                  refine s_iinc dX2_link_220 (v := e14) rfl (by omega) (by decide) (lv' := [some (2, ((327682 : Nat) : Int)), some (2, ((A : Nat) : Int)), some (2, ((B : Nat) : Int)), some (0, s), some (2, ((f : Nat) : Int)), some (0, rr61), some (0, e14 + 1), some (0, z23)]) rfl ?_
                                  refine s_goto (tgt := 123) dX2_link_223 (by decide) ?_
                                  refine s_mask [true, true, true, true, true, true, true, false] (lv' := [some (2, ((327682 : Nat) : Int)), some (2, ((A : Nat) : Int)), some (2, ((B : Nat) : Int)), some (0, s), some (2, ((f : Nat) : Int)), some (0, rr61), some (0, e14 + 1), none]) rfl ?_
                                  exact ih14 rr61 (e14 + 1) G60 hCG60 (KX.trans hXG14 hXG60) hFG60 (⟨(by omega), (by exact hFIG60), (by exact hFAG60), (by exact hFBG60), (by exact hFfG60)⟩) (by omega)
                                · -- 205 to 208
                                  refine s_aload_n dX2_link_208 rfl (Int.natCast_nonneg _) ?_
                                  refine s_goto (tgt := 213) dX2_link_209 (by decide) ?_
                                  refine s_aload dX2_link_213 rfl (Int.natCast_nonneg _) ?_
                                  have hk65 : gK G14 (327682) = (11, 0) := ((hXG14).k ((hXG12).k ((hXG9).k hk6 (by decide)) (by decide)) (by decide))
                                  refine s_callV (as := [(0, e14), (2, ((A : Nat) : Int)), (2, ((f : Nat) : Int))]) (rest := []) (n := 327682) (ci := 3) gX2_linkOne dX2_link_215 m_1315 m_930 m_1658 m_716 m_277 ⟨by decide, by decide, show (parseMethodDescriptor yX2_linkOne.desc).map (fun d => d.parameters.length) = some 3 from by decide +kernel⟩ (Nat.le_of_ble_eq_true rfl) (by rw [hcf]; exact Nat.le_of_ble_eq_true rfl) hk65 rfl rfl (Nat.le_of_ble_eq_true rfl) ⟨P, e14, A, f, a, b, rfl, hCG14, hab, (by omega), (by assumption), (by assumption), (by omega), (by exact hFIG14), (by exact hFAG14), (by exact hFfG14), fun rr64 G63 hCG63 hXG63 hfG63 hpG63 => ?_⟩
                                  have hFG63 : WX (fun x => (262144 ≤ x ∧ x < 262272) ∨ x = 327691 ∨ x = 327692 ∨ (f + 1 ≤ x ∧ x ≤ f + 22)) G G63 := WX.trans hFG14 (KX.trans (KX.trans (KX.trans (KX.trans hXG2 hXG4) hXG9) hXG12) hXG14) (WX.mono hfG63 (fun x hx => by omega))
                                  have hFIG63 : ∀ k : Nat, k < 6 → FIP P G63 262144 k := fun k hk => FIP.sm (hFIG14 k hk) hXG63 hfG63 (by show ¬ _; omega) (congrFun (hfG63 262149 (KX.al (KX.trans (KX.trans (KX.trans (KX.trans hXG2 hXG4) hXG9) hXG12) hXG14) (kne k262149 (by decide))) (by show ¬ _; omega)) k)
                                  have hFAG63 : FPa P G63 A := (hFAG14).wx hXG63 hfG63 ⟨KX.al (KX.trans (KX.trans (KX.trans (KX.trans hXG2 hXG4) hXG9) hXG12) hXG14) (kne kA3 (by decide)), KX.al (KX.trans (KX.trans (KX.trans (KX.trans hXG2 hXG4) hXG9) hXG12) hXG14) (kne kA4 (by decide))⟩ (by show ¬ _; omega) (by show ¬ _; omega) (fun p hp => by show ¬ _; omega)
                                  have hFBG63 : FPa P G63 B := (hFBG14).wx hXG63 hfG63 ⟨KX.al (KX.trans (KX.trans (KX.trans (KX.trans hXG2 hXG4) hXG9) hXG12) hXG14) (kne kB3 (by decide)), KX.al (KX.trans (KX.trans (KX.trans (KX.trans hXG2 hXG4) hXG9) hXG12) hXG14) (kne kB4 (by decide))⟩ (by show ¬ _; omega) (by show ¬ _; omega) (fun p hp => by show ¬ _; omega)
                                  have hFfG63 : FPa P G63 f := hpG63
                                  show WP kX2_link X 218 [some (2, ((327682 : Nat) : Int)), some (2, ((A : Nat) : Int)), some (2, ((B : Nat) : Int)), some (0, s), some (2, ((f : Nat) : Int)), some (0, m14), some (0, e14), some (0, z23)] [(0, rr64)] G63
                                  refine s_istore dX2_link_218 (by decide) (lv' := [some (2, ((327682 : Nat) : Int)), some (2, ((A : Nat) : Int)), some (2, ((B : Nat) : Int)), some (0, s), some (2, ((f : Nat) : Int)), some (0, rr64), some (0, e14), some (0, z23)]) rfl ?_
                                  refine s_iinc dX2_link_220 (v := e14) rfl (by omega) (by decide) (lv' := [some (2, ((327682 : Nat) : Int)), some (2, ((A : Nat) : Int)), some (2, ((B : Nat) : Int)), some (0, s), some (2, ((f : Nat) : Int)), some (0, rr64), some (0, e14 + 1), some (0, z23)]) rfl ?_
                                  refine s_goto (tgt := 123) dX2_link_223 (by decide) ?_
                                  refine s_mask [true, true, true, true, true, true, true, false] (lv' := [some (2, ((327682 : Nat) : Int)), some (2, ((A : Nat) : Int)), some (2, ((B : Nat) : Int)), some (0, s), some (2, ((f : Nat) : Int)), some (0, rr64), some (0, e14 + 1), none]) rfl ?_
                                  exact ih14 rr64 (e14 + 1) G63 hCG63 (KX.trans hXG14 hXG63) hFG63 (⟨(by omega), (by exact hFIG63), (by exact hFAG63), (by exact hFBG63), (by exact hFfG63)⟩) (by omega)
                          · -- 168 to 171
                            refine s_aload_n dX2_link_171 rfl (Int.natCast_nonneg _) ?_
                            refine s_iload dX2_link_172 rfl ?_
                            refine s_aload_n dX2_link_174 rfl (Int.natCast_nonneg _) ?_
                            refine s_aload_n dX2_link_175 rfl (Int.natCast_nonneg _) ?_
                            refine s_aload dX2_link_176 rfl (Int.natCast_nonneg _) ?_
                            have hk68 : gK G14 (327682) = (11, 0) := ((hXG14).k ((hXG12).k ((hXG9).k hk6 (by decide)) (by decide)) (by decide))
                            refine s_callV (as := [(0, e14), (2, ((A : Nat) : Int)), (2, ((B : Nat) : Int)), (2, ((f : Nat) : Int))]) (rest := []) (n := 327682) (ci := 3) gX2_linkBoth dX2_link_178 m_1314 m_929 m_1657 m_716 m_276 ⟨by decide, by decide, show (parseMethodDescriptor yX2_linkBoth.desc).map (fun d => d.parameters.length) = some 4 from by decide +kernel⟩ (Nat.le_of_ble_eq_true rfl) (by rw [hcf]; exact Nat.le_of_ble_eq_true rfl) hk68 rfl rfl (Nat.le_of_ble_eq_true rfl) ⟨P, e14, A, B, f, a, b, rfl, hCG14, hab, (by omega), (by assumption), (by assumption), (by assumption), (by omega), (by exact hFIG14), (by exact hFAG14), (by exact hFBG14), (by exact hFfG14), fun rr67 G66 hCG66 hXG66 hfG66 hpG66 => ?_⟩
                            have hFG66 : WX (fun x => (262144 ≤ x ∧ x < 262272) ∨ x = 327691 ∨ x = 327692 ∨ (f + 1 ≤ x ∧ x ≤ f + 22)) G G66 := WX.trans hFG14 (KX.trans (KX.trans (KX.trans (KX.trans hXG2 hXG4) hXG9) hXG12) hXG14) (WX.mono hfG66 (fun x hx => by omega))
                            have hFIG66 : ∀ k : Nat, k < 6 → FIP P G66 262144 k := fun k hk => FIP.sm (hFIG14 k hk) hXG66 hfG66 (by show ¬ _; omega) (congrFun (hfG66 262149 (KX.al (KX.trans (KX.trans (KX.trans (KX.trans hXG2 hXG4) hXG9) hXG12) hXG14) (kne k262149 (by decide))) (by show ¬ _; omega)) k)
                            have hFAG66 : FPa P G66 A := (hFAG14).wx hXG66 hfG66 ⟨KX.al (KX.trans (KX.trans (KX.trans (KX.trans hXG2 hXG4) hXG9) hXG12) hXG14) (kne kA3 (by decide)), KX.al (KX.trans (KX.trans (KX.trans (KX.trans hXG2 hXG4) hXG9) hXG12) hXG14) (kne kA4 (by decide))⟩ (by show ¬ _; omega) (by show ¬ _; omega) (fun p hp => by show ¬ _; omega)
                            have hFBG66 : FPa P G66 B := (hFBG14).wx hXG66 hfG66 ⟨KX.al (KX.trans (KX.trans (KX.trans (KX.trans hXG2 hXG4) hXG9) hXG12) hXG14) (kne kB3 (by decide)), KX.al (KX.trans (KX.trans (KX.trans (KX.trans hXG2 hXG4) hXG9) hXG12) hXG14) (kne kB4 (by decide))⟩ (by show ¬ _; omega) (by show ¬ _; omega) (fun p hp => by show ¬ _; omega)
                            have hFfG66 : FPa P G66 f := hpG66
                            show WP kX2_link X 181 [some (2, ((327682 : Nat) : Int)), some (2, ((A : Nat) : Int)), some (2, ((B : Nat) : Int)), some (0, s), some (2, ((f : Nat) : Int)), some (0, m14), some (0, e14), some (0, z23)] [(0, rr67)] G66
                            refine s_istore dX2_link_181 (by decide) (lv' := [some (2, ((327682 : Nat) : Int)), some (2, ((A : Nat) : Int)), some (2, ((B : Nat) : Int)), some (0, s), some (2, ((f : Nat) : Int)), some (0, rr67), some (0, e14), some (0, z23)]) rfl ?_
                            refine s_goto (tgt := 220) dX2_link_183 (by decide) ?_
                            refine s_iinc dX2_link_220 (v := e14) rfl (by omega) (by decide) (lv' := [some (2, ((327682 : Nat) : Int)), some (2, ((A : Nat) : Int)), some (2, ((B : Nat) : Int)), some (0, s), some (2, ((f : Nat) : Int)), some (0, rr67), some (0, e14 + 1), some (0, z23)]) rfl ?_
                            refine s_goto (tgt := 123) dX2_link_223 (by decide) ?_
                            refine s_mask [true, true, true, true, true, true, true, false] (lv' := [some (2, ((327682 : Nat) : Int)), some (2, ((A : Nat) : Int)), some (2, ((B : Nat) : Int)), some (0, s), some (2, ((f : Nat) : Int)), some (0, rr67), some (0, e14 + 1), none]) rfl ?_
                            exact ih14 rr67 (e14 + 1) G66 hCG66 (KX.trans hXG14 hXG66) hFG66 (⟨(by omega), (by exact hFIG66), (by exact hFAG66), (by exact hFBG66), (by exact hFfG66)⟩) (by omega)
                      refine s_if_eq (tgt := 154) dX2_link_141 (by decide) (fun c69 => ?_) (fun c69 => ?_)
                      · -- 141 to 154
                        refine s_iconst dX2_link_154 (by decide) ?_
                        exact J24 0 (Or.inl ⟨c69, rfl⟩)
                      · -- 141 to 144
                        refine s_aload_n dX2_link_144 rfl (Int.natCast_nonneg _) ?_
                        have hk70 : gK G14 (B) = (9, 0) := ((hXG14).k ((hXG12).k ((hXG9).k ((hXG4).k ((hXG2).k kB0 (by decide)) (by decide)) (by decide)) (by decide)) (by decide))
                        refine s_alv (B) (by simp) (fun al71 => ?_)
                        have hv72 : gS G14 B 2 = ((B + 2 : Nat) : Int) := by have h9 : (gS G14 B 2) = (((B % 1048576) + 2 : Nat) : Int) := hCG14.1.v (j := 2) (by rw [cde_n (by omega) (by omega)]; omega : cde B = 101) al71 (by rw [hk70]; exact Nat.le_of_ble_eq_true rfl); omega
                        refine s_getf (ci := 1) (k := 2) (C := RX0) (T := TX0) (N := 7) (n := B) (L := 0) (t := 2) dX2_link_145 rfl wi_65 m_576 (Nat.le_of_ble_eq_true rfl) rfl rfl hk70 hv72 ?_
                        refine s_iload dX2_link_148 rfl ?_
                        have hk73 : gK G14 (B + 2) = (1, 10) := ((hXG14).k ((hXG12).k ((hXG9).k ((hXG4).k ((hXG2).k kB2 (by decide)) (by decide)) (by decide)) (by decide)) (by decide))
                        refine s_iald dX2_link_150 hk73 (by omega) (by omega) rfl ?_
                        refine s_goto (tgt := 155) dX2_link_151 (by decide) ?_
                        exact J24 _ (Or.inr (⟨c69, rfl⟩))
              exact L14 _ m12 0 G12 hCG12 KX.rf hFG12 (⟨(by omega), (by exact hFIG12), (by exact hFAG12), (by exact hFBG12), (by exact hFfG12)⟩) (Nat.lt_succ_self _)
            · -- 94 to 97
              refine s_iload dX2_link_97 rfl ?_
              refine s_if_ne (tgt := 120) dX2_link_99 (by decide) (fun c74 => ?_) (fun c74 => ?_)
              · -- 99 to 120
                refine s_iconst dX2_link_120 (by decide) ?_
                refine s_istore dX2_link_121 (by decide) (lv' := [some (2, ((327682 : Nat) : Int)), some (2, ((A : Nat) : Int)), some (2, ((B : Nat) : Int)), some (0, s), some (2, ((f : Nat) : Int)), some (0, m12), some (0, 0), none]) rfl ?_
                have L75 : ∀ (n75 : Nat) (m75 : Int) (e75 : Int) (G75 : LG), CI a b G75 → KX G12 G75 → WX (fun x => (262144 ≤ x ∧ x < 262272) ∨ x = 327691 ∨ x = 327692 ∨ (f + 1 ≤ x ∧ x ≤ f + 22)) G G75 → ((0 ≤ e75 ∧ e75 ≤ 10) ∧ (∀ k : Nat, k < 6 → FIP P G75 262144 k) ∧ (FPa P G75 A) ∧ (FPa P G75 B) ∧ (FPa P G75 f)) → (10 - e75).toNat < n75 → WP kX2_link X 123 [some (2, ((327682 : Nat) : Int)), some (2, ((A : Nat) : Int)), some (2, ((B : Nat) : Int)), some (0, s), some (2, ((f : Nat) : Int)), some (0, m75), some (0, e75), none] [] G75 := by
                  intro n75
                  induction n75 with
                  | zero => intro m75 e75 G75 hCG75 hXG75 hFG75 hi75 hm75; exact absurd hm75 (Nat.not_lt_zero _)
                  | succ n75 ih75 =>
                    intro m75 e75 G75 hCG75 hXG75 hFG75 hi75 hm75
                    have hj75 := hi75
                    obtain ⟨ie75, hFIG75, hFAG75, hFBG75, hFfG75⟩ := hi75
                    refine s_iload dX2_link_123 rfl ?_
                    refine s_bipush dX2_link_125 rfl (by decide) ?_
                    refine s_icmp_ge (tgt := 226) dX2_link_127 (by decide) (fun c76 => ?_) (fun c76 => ?_)
                    · -- 127 to 226
                      refine s_iload dX2_link_226 rfl ?_
                      exact s_iret hR dX2_link_228 rfl (hQ m75 G75 hCG75 (KX.trans (KX.trans (KX.trans (KX.trans hXG2 hXG4) hXG9) hXG12) hXG75) hFG75 hFfG75)
                    · -- 127 to 130
                      refine s_iload dX2_link_130 rfl ?_
                      refine s_if_ne (tgt := 226) dX2_link_132 (by decide) (fun c77 => ?_) (fun c77 => ?_)
                      · -- 132 to 226
                        refine s_iload dX2_link_226 rfl ?_
                        exact s_iret hR dX2_link_228 rfl (hQ m75 G75 hCG75 (KX.trans (KX.trans (KX.trans (KX.trans hXG2 hXG4) hXG9) hXG12) hXG75) hFG75 hFfG75)
                      · -- 132 to 135
                        refine s_iload_n dX2_link_135 rfl ?_
                        refine s_iload dX2_link_136 rfl ?_
                        refine s_callSN (own := RX2) rfl (by decide +kernel) (as := [(0, s), (0, e75)]) (rest := []) gX11_isIn dX2_link_138 m_1777 m_714 m_97 ⟨by decide, by decide, show (parseMethodDescriptor yX11_isIn.desc).map (fun d => d.parameters.length) = some 2 from by decide +kernel⟩ (Nat.le_of_ble_eq_true rfl) (by rw [hcf]; exact Nat.le_of_ble_eq_true rfl) rfl (Nat.le_of_ble_eq_true rfl) ⟨s, e75, rfl, fun rr78 hp79 => ?_⟩
                        show WP kX2_link X 141 [some (2, ((327682 : Nat) : Int)), some (2, ((A : Nat) : Int)), some (2, ((B : Nat) : Int)), some (0, s), some (2, ((f : Nat) : Int)), some (0, m75), some (0, e75), none] [(0, rr78)] G75
                        have J85 : ∀ z84 : Int, ((rr78 = 0) ∧ z84 = 0) ∨ ((¬ rr78 = 0) ∧ z84 = gS G75 (B + 2) ((e75 : Int).toNat)) → WP kX2_link X 155 [some (2, ((327682 : Nat) : Int)), some (2, ((A : Nat) : Int)), some (2, ((B : Nat) : Int)), some (0, s), some (2, ((f : Nat) : Int)), some (0, m75), some (0, e75), none] [(0, z84)] G75 := by
                          intro z84 hz84
                          refine s_istore dX2_link_155 (by decide) (lv' := [some (2, ((327682 : Nat) : Int)), some (2, ((A : Nat) : Int)), some (2, ((B : Nat) : Int)), some (0, s), some (2, ((f : Nat) : Int)), some (0, m75), some (0, e75), some (0, z84)]) rfl ?_
                          refine s_aload_n dX2_link_157 rfl (Int.natCast_nonneg _) ?_
                          refine s_iload dX2_link_158 rfl ?_
                          have hk88 : gK G75 (A) = (9, 0) := ((hXG75).k ((hXG12).k ((hXG9).k ((hXG4).k ((hXG2).k kA0 (by decide)) (by decide)) (by decide)) (by decide)) (by decide))
                          refine s_callV (as := [(0, e75)]) (rest := []) (n := A) (ci := 1) gX0_hasValue dX2_link_160 m_1313 m_739 m_1473 m_711 m_66 ⟨by decide, by decide, show (parseMethodDescriptor yX0_hasValue.desc).map (fun d => d.parameters.length) = some 1 from by decide +kernel⟩ (Nat.le_of_ble_eq_true rfl) (by rw [hcf]; exact Nat.le_of_ble_eq_true rfl) hk88 rfl rfl (Nat.le_of_ble_eq_true rfl) ⟨A, e75, a, b, rfl, hCG75, hab, (by first | assumption | omega), (by first | assumption | omega), fun rr86 hp87 => ?_⟩
                          show WP kX2_link X 163 [some (2, ((327682 : Nat) : Int)), some (2, ((A : Nat) : Int)), some (2, ((B : Nat) : Int)), some (0, s), some (2, ((f : Nat) : Int)), some (0, m75), some (0, e75), some (0, z84)] [(0, rr86)] G75
                          refine s_if_eq (tgt := 186) dX2_link_163 (by decide) (fun c89 => ?_) (fun c89 => ?_)
                          · -- 163 to 186
                            refine s_aload_n dX2_link_186 rfl (Int.natCast_nonneg _) ?_
                            refine s_iload dX2_link_187 rfl ?_
                            refine s_callV (as := [(0, e75)]) (rest := []) (n := A) (ci := 1) gX0_hasValue dX2_link_189 m_1313 m_739 m_1473 m_711 m_66 ⟨by decide, by decide, show (parseMethodDescriptor yX0_hasValue.desc).map (fun d => d.parameters.length) = some 1 from by decide +kernel⟩ (Nat.le_of_ble_eq_true rfl) (by rw [hcf]; exact Nat.le_of_ble_eq_true rfl) hk88 rfl rfl (Nat.le_of_ble_eq_true rfl) ⟨A, e75, a, b, rfl, hCG75, hab, (by first | assumption | omega), (by first | assumption | omega), fun rr90 hp91 => ?_⟩
                            show WP kX2_link X 192 [some (2, ((327682 : Nat) : Int)), some (2, ((A : Nat) : Int)), some (2, ((B : Nat) : Int)), some (0, s), some (2, ((f : Nat) : Int)), some (0, m75), some (0, e75), some (0, z84)] [(0, rr90)] G75
                            refine s_if_ne (tgt := 200) dX2_link_192 (by decide) (fun c92 => ?_) (fun c92 => ?_)
                            · -- 192 to 200
                              refine s_aload_n dX2_link_200 rfl (Int.natCast_nonneg _) ?_
                              refine s_iload dX2_link_201 rfl ?_
                              refine s_iload dX2_link_203 rfl ?_
                              refine s_if_ne (tgt := 212) dX2_link_205 (by decide) (fun c93 => ?_) (fun c93 => ?_)
                              · -- 205 to 212
                                refine s_aload_n dX2_link_212 rfl (Int.natCast_nonneg _) ?_
                                refine s_aload dX2_link_213 rfl (Int.natCast_nonneg _) ?_
                                have hk96 : gK G75 (327682) = (11, 0) := ((hXG75).k ((hXG12).k ((hXG9).k hk6 (by decide)) (by decide)) (by decide))
                                refine s_callV (as := [(0, e75), (2, ((B : Nat) : Int)), (2, ((f : Nat) : Int))]) (rest := []) (n := 327682) (ci := 3) gX2_linkOne dX2_link_215 m_1315 m_930 m_1658 m_716 m_277 ⟨by decide, by decide, show (parseMethodDescriptor yX2_linkOne.desc).map (fun d => d.parameters.length) = some 3 from by decide +kernel⟩ (Nat.le_of_ble_eq_true rfl) (by rw [hcf]; exact Nat.le_of_ble_eq_true rfl) hk96 rfl rfl (Nat.le_of_ble_eq_true rfl) ⟨P, e75, B, f, a, b, rfl, hCG75, hab, (by omega), (by assumption), (by assumption), (by omega), (by exact hFIG75), (by exact hFBG75), (by exact hFfG75), fun rr95 G94 hCG94 hXG94 hfG94 hpG94 => ?_⟩
                                have hFG94 : WX (fun x => (262144 ≤ x ∧ x < 262272) ∨ x = 327691 ∨ x = 327692 ∨ (f + 1 ≤ x ∧ x ≤ f + 22)) G G94 := WX.trans hFG75 (KX.trans (KX.trans (KX.trans (KX.trans hXG2 hXG4) hXG9) hXG12) hXG75) (WX.mono hfG94 (fun x hx => by omega))
                                have hFIG94 : ∀ k : Nat, k < 6 → FIP P G94 262144 k := fun k hk => FIP.sm (hFIG75 k hk) hXG94 hfG94 (by show ¬ _; omega) (congrFun (hfG94 262149 (KX.al (KX.trans (KX.trans (KX.trans (KX.trans hXG2 hXG4) hXG9) hXG12) hXG75) (kne k262149 (by decide))) (by show ¬ _; omega)) k)
                                have hFAG94 : FPa P G94 A := (hFAG75).wx hXG94 hfG94 ⟨KX.al (KX.trans (KX.trans (KX.trans (KX.trans hXG2 hXG4) hXG9) hXG12) hXG75) (kne kA3 (by decide)), KX.al (KX.trans (KX.trans (KX.trans (KX.trans hXG2 hXG4) hXG9) hXG12) hXG75) (kne kA4 (by decide))⟩ (by show ¬ _; omega) (by show ¬ _; omega) (fun p hp => by show ¬ _; omega)
                                have hFBG94 : FPa P G94 B := (hFBG75).wx hXG94 hfG94 ⟨KX.al (KX.trans (KX.trans (KX.trans (KX.trans hXG2 hXG4) hXG9) hXG12) hXG75) (kne kB3 (by decide)), KX.al (KX.trans (KX.trans (KX.trans (KX.trans hXG2 hXG4) hXG9) hXG12) hXG75) (kne kB4 (by decide))⟩ (by show ¬ _; omega) (by show ¬ _; omega) (fun p hp => by show ¬ _; omega)
                                have hFfG94 : FPa P G94 f := hpG94
                                show WP kX2_link X 218 [some (2, ((327682 : Nat) : Int)), some (2, ((A : Nat) : Int)), some (2, ((B : Nat) : Int)), some (0, s), some (2, ((f : Nat) : Int)), some (0, m75), some (0, e75), some (0, z84)] [(0, rr95)] G94
                                refine s_istore dX2_link_218 (by decide) (lv' := [some (2, ((327682 : Nat) : Int)), some (2, ((A : Nat) : Int)), some (2, ((B : Nat) : Int)), some (0, s), some (2, ((f : Nat) : Int)), some (0, rr95), some (0, e75), some (0, z84)]) rfl ?_
                                refine s_iinc dX2_link_220 (v := e75) rfl (by omega) (by decide) (lv' := [some (2, ((327682 : Nat) : Int)), some (2, ((A : Nat) : Int)), some (2, ((B : Nat) : Int)), some (0, s), some (2, ((f : Nat) : Int)), some (0, rr95), some (0, e75 + 1), some (0, z84)]) rfl ?_
                                refine s_goto (tgt := 123) dX2_link_223 (by decide) ?_
                                refine s_mask [true, true, true, true, true, true, true, false] (lv' := [some (2, ((327682 : Nat) : Int)), some (2, ((A : Nat) : Int)), some (2, ((B : Nat) : Int)), some (0, s), some (2, ((f : Nat) : Int)), some (0, rr95), some (0, e75 + 1), none]) rfl ?_
                                exact ih75 rr95 (e75 + 1) G94 hCG94 (KX.trans hXG75 hXG94) hFG94 (⟨(by omega), (by exact hFIG94), (by exact hFAG94), (by exact hFBG94), (by exact hFfG94)⟩) (by omega)
                              · -- 205 to 208
                                refine s_aload_n dX2_link_208 rfl (Int.natCast_nonneg _) ?_
                                refine s_goto (tgt := 213) dX2_link_209 (by decide) ?_
                                refine s_aload dX2_link_213 rfl (Int.natCast_nonneg _) ?_
                                have hk99 : gK G75 (327682) = (11, 0) := ((hXG75).k ((hXG12).k ((hXG9).k hk6 (by decide)) (by decide)) (by decide))
                                refine s_callV (as := [(0, e75), (2, ((A : Nat) : Int)), (2, ((f : Nat) : Int))]) (rest := []) (n := 327682) (ci := 3) gX2_linkOne dX2_link_215 m_1315 m_930 m_1658 m_716 m_277 ⟨by decide, by decide, show (parseMethodDescriptor yX2_linkOne.desc).map (fun d => d.parameters.length) = some 3 from by decide +kernel⟩ (Nat.le_of_ble_eq_true rfl) (by rw [hcf]; exact Nat.le_of_ble_eq_true rfl) hk99 rfl rfl (Nat.le_of_ble_eq_true rfl) ⟨P, e75, A, f, a, b, rfl, hCG75, hab, (by omega), (by assumption), (by assumption), (by omega), (by exact hFIG75), (by exact hFAG75), (by exact hFfG75), fun rr98 G97 hCG97 hXG97 hfG97 hpG97 => ?_⟩
                                have hFG97 : WX (fun x => (262144 ≤ x ∧ x < 262272) ∨ x = 327691 ∨ x = 327692 ∨ (f + 1 ≤ x ∧ x ≤ f + 22)) G G97 := WX.trans hFG75 (KX.trans (KX.trans (KX.trans (KX.trans hXG2 hXG4) hXG9) hXG12) hXG75) (WX.mono hfG97 (fun x hx => by omega))
                                have hFIG97 : ∀ k : Nat, k < 6 → FIP P G97 262144 k := fun k hk => FIP.sm (hFIG75 k hk) hXG97 hfG97 (by show ¬ _; omega) (congrFun (hfG97 262149 (KX.al (KX.trans (KX.trans (KX.trans (KX.trans hXG2 hXG4) hXG9) hXG12) hXG75) (kne k262149 (by decide))) (by show ¬ _; omega)) k)
                                have hFAG97 : FPa P G97 A := (hFAG75).wx hXG97 hfG97 ⟨KX.al (KX.trans (KX.trans (KX.trans (KX.trans hXG2 hXG4) hXG9) hXG12) hXG75) (kne kA3 (by decide)), KX.al (KX.trans (KX.trans (KX.trans (KX.trans hXG2 hXG4) hXG9) hXG12) hXG75) (kne kA4 (by decide))⟩ (by show ¬ _; omega) (by show ¬ _; omega) (fun p hp => by show ¬ _; omega)
                                have hFBG97 : FPa P G97 B := (hFBG75).wx hXG97 hfG97 ⟨KX.al (KX.trans (KX.trans (KX.trans (KX.trans hXG2 hXG4) hXG9) hXG12) hXG75) (kne kB3 (by decide)), KX.al (KX.trans (KX.trans (KX.trans (KX.trans hXG2 hXG4) hXG9) hXG12) hXG75) (kne kB4 (by decide))⟩ (by show ¬ _; omega) (by show ¬ _; omega) (fun p hp => by show ¬ _; omega)
                                have hFfG97 : FPa P G97 f := hpG97
                                show WP kX2_link X 218 [some (2, ((327682 : Nat) : Int)), some (2, ((A : Nat) : Int)), some (2, ((B : Nat) : Int)), some (0, s), some (2, ((f : Nat) : Int)), some (0, m75), some (0, e75), some (0, z84)] [(0, rr98)] G97
                                refine s_istore dX2_link_218 (by decide) (lv' := [some (2, ((327682 : Nat) : Int)), some (2, ((A : Nat) : Int)), some (2, ((B : Nat) : Int)), some (0, s), some (2, ((f : Nat) : Int)), some (0, rr98), some (0, e75), some (0, z84)]) rfl ?_
                                refine s_iinc dX2_link_220 (v := e75) rfl (by omega) (by decide) (lv' := [some (2, ((327682 : Nat) : Int)), some (2, ((A : Nat) : Int)), some (2, ((B : Nat) : Int)), some (0, s), some (2, ((f : Nat) : Int)), some (0, rr98), some (0, e75 + 1), some (0, z84)]) rfl ?_
                                refine s_goto (tgt := 123) dX2_link_223 (by decide) ?_
                                refine s_mask [true, true, true, true, true, true, true, false] (lv' := [some (2, ((327682 : Nat) : Int)), some (2, ((A : Nat) : Int)), some (2, ((B : Nat) : Int)), some (0, s), some (2, ((f : Nat) : Int)), some (0, rr98), some (0, e75 + 1), none]) rfl ?_
                                exact ih75 rr98 (e75 + 1) G97 hCG97 (KX.trans hXG75 hXG97) hFG97 (⟨(by omega), (by exact hFIG97), (by exact hFAG97), (by exact hFBG97), (by exact hFfG97)⟩) (by omega)
                            · -- 192 to 195
                              refine s_iload dX2_link_195 rfl ?_
                              refine s_if_eq (tgt := 220) dX2_link_197 (by decide) (fun c100 => ?_) (fun c100 => ?_)
                              · -- 197 to 220
                                refine s_iinc dX2_link_220 (v := e75) rfl (by omega) (by decide) (lv' := [some (2, ((327682 : Nat) : Int)), some (2, ((A : Nat) : Int)), some (2, ((B : Nat) : Int)), some (0, s), some (2, ((f : Nat) : Int)), some (0, m75), some (0, e75 + 1), some (0, z84)]) rfl ?_
                                refine s_goto (tgt := 123) dX2_link_223 (by decide) ?_
                                refine s_mask [true, true, true, true, true, true, true, false] (lv' := [some (2, ((327682 : Nat) : Int)), some (2, ((A : Nat) : Int)), some (2, ((B : Nat) : Int)), some (0, s), some (2, ((f : Nat) : Int)), some (0, m75), some (0, e75 + 1), none]) rfl ?_
                                exact ih75 m75 (e75 + 1) G75 hCG75 hXG75 hFG75 (⟨(by omega), (by exact hFIG75), (by exact hFAG75), (by exact hFBG75), (by exact hFfG75)⟩) (by omega)
                              · -- 197 to 200
                                refine s_aload_n dX2_link_200 rfl (Int.natCast_nonneg _) ?_
                                refine s_iload dX2_link_201 rfl ?_
                                refine s_iload dX2_link_203 rfl ?_
                                refine s_if_ne (tgt := 212) dX2_link_205 (by decide) (fun c101 => ?_) (fun c101 => ?_)
                                · -- 205 to 212
                                  refine s_aload_n dX2_link_212 rfl (Int.natCast_nonneg _) ?_
                                  refine s_aload dX2_link_213 rfl (Int.natCast_nonneg _) ?_
                                  have hk104 : gK G75 (327682) = (11, 0) := ((hXG75).k ((hXG12).k ((hXG9).k hk6 (by decide)) (by decide)) (by decide))
                                  refine s_callV (as := [(0, e75), (2, ((B : Nat) : Int)), (2, ((f : Nat) : Int))]) (rest := []) (n := 327682) (ci := 3) gX2_linkOne dX2_link_215 m_1315 m_930 m_1658 m_716 m_277 ⟨by decide, by decide, show (parseMethodDescriptor yX2_linkOne.desc).map (fun d => d.parameters.length) = some 3 from by decide +kernel⟩ (Nat.le_of_ble_eq_true rfl) (by rw [hcf]; exact Nat.le_of_ble_eq_true rfl) hk104 rfl rfl (Nat.le_of_ble_eq_true rfl) ⟨P, e75, B, f, a, b, rfl, hCG75, hab, (by omega), (by assumption), (by assumption), (by omega), (by exact hFIG75), (by exact hFBG75), (by exact hFfG75), fun rr103 G102 hCG102 hXG102 hfG102 hpG102 => ?_⟩
                                  have hFG102 : WX (fun x => (262144 ≤ x ∧ x < 262272) ∨ x = 327691 ∨ x = 327692 ∨ (f + 1 ≤ x ∧ x ≤ f + 22)) G G102 := WX.trans hFG75 (KX.trans (KX.trans (KX.trans (KX.trans hXG2 hXG4) hXG9) hXG12) hXG75) (WX.mono hfG102 (fun x hx => by omega))
                                  have hFIG102 : ∀ k : Nat, k < 6 → FIP P G102 262144 k := fun k hk => FIP.sm (hFIG75 k hk) hXG102 hfG102 (by show ¬ _; omega) (congrFun (hfG102 262149 (KX.al (KX.trans (KX.trans (KX.trans (KX.trans hXG2 hXG4) hXG9) hXG12) hXG75) (kne k262149 (by decide))) (by show ¬ _; omega)) k)
                                  have hFAG102 : FPa P G102 A := (hFAG75).wx hXG102 hfG102 ⟨KX.al (KX.trans (KX.trans (KX.trans (KX.trans hXG2 hXG4) hXG9) hXG12) hXG75) (kne kA3 (by decide)), KX.al (KX.trans (KX.trans (KX.trans (KX.trans hXG2 hXG4) hXG9) hXG12) hXG75) (kne kA4 (by decide))⟩ (by show ¬ _; omega) (by show ¬ _; omega) (fun p hp => by show ¬ _; omega)
                                  have hFBG102 : FPa P G102 B := (hFBG75).wx hXG102 hfG102 ⟨KX.al (KX.trans (KX.trans (KX.trans (KX.trans hXG2 hXG4) hXG9) hXG12) hXG75) (kne kB3 (by decide)), KX.al (KX.trans (KX.trans (KX.trans (KX.trans hXG2 hXG4) hXG9) hXG12) hXG75) (kne kB4 (by decide))⟩ (by show ¬ _; omega) (by show ¬ _; omega) (fun p hp => by show ¬ _; omega)
                                  have hFfG102 : FPa P G102 f := hpG102
                                  show WP kX2_link X 218 [some (2, ((327682 : Nat) : Int)), some (2, ((A : Nat) : Int)), some (2, ((B : Nat) : Int)), some (0, s), some (2, ((f : Nat) : Int)), some (0, m75), some (0, e75), some (0, z84)] [(0, rr103)] G102
                                  refine s_istore dX2_link_218 (by decide) (lv' := [some (2, ((327682 : Nat) : Int)), some (2, ((A : Nat) : Int)), some (2, ((B : Nat) : Int)), some (0, s), some (2, ((f : Nat) : Int)), some (0, rr103), some (0, e75), some (0, z84)]) rfl ?_
                                  refine s_iinc dX2_link_220 (v := e75) rfl (by omega) (by decide) (lv' := [some (2, ((327682 : Nat) : Int)), some (2, ((A : Nat) : Int)), some (2, ((B : Nat) : Int)), some (0, s), some (2, ((f : Nat) : Int)), some (0, rr103), some (0, e75 + 1), some (0, z84)]) rfl ?_
                                  refine s_goto (tgt := 123) dX2_link_223 (by decide) ?_
                                  refine s_mask [true, true, true, true, true, true, true, false] (lv' := [some (2, ((327682 : Nat) : Int)), some (2, ((A : Nat) : Int)), some (2, ((B : Nat) : Int)), some (0, s), some (2, ((f : Nat) : Int)), some (0, rr103), some (0, e75 + 1), none]) rfl ?_
                                  exact ih75 rr103 (e75 + 1) G102 hCG102 (KX.trans hXG75 hXG102) hFG102 (⟨(by omega), (by exact hFIG102), (by exact hFAG102), (by exact hFBG102), (by exact hFfG102)⟩) (by omega)
                                · -- 205 to 208
                                  refine s_aload_n dX2_link_208 rfl (Int.natCast_nonneg _) ?_
                                  refine s_goto (tgt := 213) dX2_link_209 (by decide) ?_
                                  refine s_aload dX2_link_213 rfl (Int.natCast_nonneg _) ?_
                                  have hk107 : gK G75 (327682) = (11, 0) := ((hXG75).k ((hXG12).k ((hXG9).k hk6 (by decide)) (by decide)) (by decide))
                                  refine s_callV (as := [(0, e75), (2, ((A : Nat) : Int)), (2, ((f : Nat) : Int))]) (rest := []) (n := 327682) (ci := 3) gX2_linkOne dX2_link_215 m_1315 m_930 m_1658 m_716 m_277 ⟨by decide, by decide, show (parseMethodDescriptor yX2_linkOne.desc).map (fun d => d.parameters.length) = some 3 from by decide +kernel⟩ (Nat.le_of_ble_eq_true rfl) (by rw [hcf]; exact Nat.le_of_ble_eq_true rfl) hk107 rfl rfl (Nat.le_of_ble_eq_true rfl) ⟨P, e75, A, f, a, b, rfl, hCG75, hab, (by omega), (by assumption), (by assumption), (by omega), (by exact hFIG75), (by exact hFAG75), (by exact hFfG75), fun rr106 G105 hCG105 hXG105 hfG105 hpG105 => ?_⟩
                                  have hFG105 : WX (fun x => (262144 ≤ x ∧ x < 262272) ∨ x = 327691 ∨ x = 327692 ∨ (f + 1 ≤ x ∧ x ≤ f + 22)) G G105 := WX.trans hFG75 (KX.trans (KX.trans (KX.trans (KX.trans hXG2 hXG4) hXG9) hXG12) hXG75) (WX.mono hfG105 (fun x hx => by omega))
                                  have hFIG105 : ∀ k : Nat, k < 6 → FIP P G105 262144 k := fun k hk => FIP.sm (hFIG75 k hk) hXG105 hfG105 (by show ¬ _; omega) (congrFun (hfG105 262149 (KX.al (KX.trans (KX.trans (KX.trans (KX.trans hXG2 hXG4) hXG9) hXG12) hXG75) (kne k262149 (by decide))) (by show ¬ _; omega)) k)
                                  have hFAG105 : FPa P G105 A := (hFAG75).wx hXG105 hfG105 ⟨KX.al (KX.trans (KX.trans (KX.trans (KX.trans hXG2 hXG4) hXG9) hXG12) hXG75) (kne kA3 (by decide)), KX.al (KX.trans (KX.trans (KX.trans (KX.trans hXG2 hXG4) hXG9) hXG12) hXG75) (kne kA4 (by decide))⟩ (by show ¬ _; omega) (by show ¬ _; omega) (fun p hp => by show ¬ _; omega)
                                  have hFBG105 : FPa P G105 B := (hFBG75).wx hXG105 hfG105 ⟨KX.al (KX.trans (KX.trans (KX.trans (KX.trans hXG2 hXG4) hXG9) hXG12) hXG75) (kne kB3 (by decide)), KX.al (KX.trans (KX.trans (KX.trans (KX.trans hXG2 hXG4) hXG9) hXG12) hXG75) (kne kB4 (by decide))⟩ (by show ¬ _; omega) (by show ¬ _; omega) (fun p hp => by show ¬ _; omega)
                                  have hFfG105 : FPa P G105 f := hpG105
                                  show WP kX2_link X 218 [some (2, ((327682 : Nat) : Int)), some (2, ((A : Nat) : Int)), some (2, ((B : Nat) : Int)), some (0, s), some (2, ((f : Nat) : Int)), some (0, m75), some (0, e75), some (0, z84)] [(0, rr106)] G105
                                  refine s_istore dX2_link_218 (by decide) (lv' := [some (2, ((327682 : Nat) : Int)), some (2, ((A : Nat) : Int)), some (2, ((B : Nat) : Int)), some (0, s), some (2, ((f : Nat) : Int)), some (0, rr106), some (0, e75), some (0, z84)]) rfl ?_
                                  refine s_iinc dX2_link_220 (v := e75) rfl (by omega) (by decide) (lv' := [some (2, ((327682 : Nat) : Int)), some (2, ((A : Nat) : Int)), some (2, ((B : Nat) : Int)), some (0, s), some (2, ((f : Nat) : Int)), some (0, rr106), some (0, e75 + 1), some (0, z84)]) rfl ?_
                                  refine s_goto (tgt := 123) dX2_link_223 (by decide) ?_
                                  refine s_mask [true, true, true, true, true, true, true, false] (lv' := [some (2, ((327682 : Nat) : Int)), some (2, ((A : Nat) : Int)), some (2, ((B : Nat) : Int)), some (0, s), some (2, ((f : Nat) : Int)), some (0, rr106), some (0, e75 + 1), none]) rfl ?_
                                  exact ih75 rr106 (e75 + 1) G105 hCG105 (KX.trans hXG75 hXG105) hFG105 (⟨(by omega), (by exact hFIG105), (by exact hFAG105), (by exact hFBG105), (by exact hFfG105)⟩) (by omega)
                          · -- 163 to 166
                            refine s_iload dX2_link_166 rfl ?_
                            refine s_if_eq (tgt := 186) dX2_link_168 (by decide) (fun c108 => ?_) (fun c108 => ?_)
                            · -- 168 to 186
                              refine s_aload_n dX2_link_186 rfl (Int.natCast_nonneg _) ?_
                              refine s_iload dX2_link_187 rfl ?_
                              refine s_callV (as := [(0, e75)]) (rest := []) (n := A) (ci := 1) gX0_hasValue dX2_link_189 m_1313 m_739 m_1473 m_711 m_66 ⟨by decide, by decide, show (parseMethodDescriptor yX0_hasValue.desc).map (fun d => d.parameters.length) = some 1 from by decide +kernel⟩ (Nat.le_of_ble_eq_true rfl) (by rw [hcf]; exact Nat.le_of_ble_eq_true rfl) hk88 rfl rfl (Nat.le_of_ble_eq_true rfl) ⟨A, e75, a, b, rfl, hCG75, hab, (by first | assumption | omega), (by first | assumption | omega), fun rr109 hp110 => ?_⟩
                              show WP kX2_link X 192 [some (2, ((327682 : Nat) : Int)), some (2, ((A : Nat) : Int)), some (2, ((B : Nat) : Int)), some (0, s), some (2, ((f : Nat) : Int)), some (0, m75), some (0, e75), some (0, z84)] [(0, rr109)] G75
                              refine s_if_ne (tgt := 200) dX2_link_192 (by decide) (fun c111 => ?_) (fun c111 => ?_)
                              · -- 192 to 200
                                refine s_aload_n dX2_link_200 rfl (Int.natCast_nonneg _) ?_
                                refine s_iload dX2_link_201 rfl ?_
                                refine s_iload dX2_link_203 rfl ?_
                                refine s_if_ne (tgt := 212) dX2_link_205 (by decide) (fun c112 => ?_) (fun c112 => ?_)
                                · -- 205 to 212
                                  refine s_aload_n dX2_link_212 rfl (Int.natCast_nonneg _) ?_
                                  refine s_aload dX2_link_213 rfl (Int.natCast_nonneg _) ?_
                                  have hk115 : gK G75 (327682) = (11, 0) := ((hXG75).k ((hXG12).k ((hXG9).k hk6 (by decide)) (by decide)) (by decide))
                                  refine s_callV (as := [(0, e75), (2, ((B : Nat) : Int)), (2, ((f : Nat) : Int))]) (rest := []) (n := 327682) (ci := 3) gX2_linkOne dX2_link_215 m_1315 m_930 m_1658 m_716 m_277 ⟨by decide, by decide, show (parseMethodDescriptor yX2_linkOne.desc).map (fun d => d.parameters.length) = some 3 from by decide +kernel⟩ (Nat.le_of_ble_eq_true rfl) (by rw [hcf]; exact Nat.le_of_ble_eq_true rfl) hk115 rfl rfl (Nat.le_of_ble_eq_true rfl) ⟨P, e75, B, f, a, b, rfl, hCG75, hab, (by omega), (by assumption), (by assumption), (by omega), (by exact hFIG75), (by exact hFBG75), (by exact hFfG75), fun rr114 G113 hCG113 hXG113 hfG113 hpG113 => ?_⟩
                                  have hFG113 : WX (fun x => (262144 ≤ x ∧ x < 262272) ∨ x = 327691 ∨ x = 327692 ∨ (f + 1 ≤ x ∧ x ≤ f + 22)) G G113 := WX.trans hFG75 (KX.trans (KX.trans (KX.trans (KX.trans hXG2 hXG4) hXG9) hXG12) hXG75) (WX.mono hfG113 (fun x hx => by omega))
                                  have hFIG113 : ∀ k : Nat, k < 6 → FIP P G113 262144 k := fun k hk => FIP.sm (hFIG75 k hk) hXG113 hfG113 (by show ¬ _; omega) (congrFun (hfG113 262149 (KX.al (KX.trans (KX.trans (KX.trans (KX.trans hXG2 hXG4) hXG9) hXG12) hXG75) (kne k262149 (by decide))) (by show ¬ _; omega)) k)
                                  have hFAG113 : FPa P G113 A := (hFAG75).wx hXG113 hfG113 ⟨KX.al (KX.trans (KX.trans (KX.trans (KX.trans hXG2 hXG4) hXG9) hXG12) hXG75) (kne kA3 (by decide)), KX.al (KX.trans (KX.trans (KX.trans (KX.trans hXG2 hXG4) hXG9) hXG12) hXG75) (kne kA4 (by decide))⟩ (by show ¬ _; omega) (by show ¬ _; omega) (fun p hp => by show ¬ _; omega)
                                  have hFBG113 : FPa P G113 B := (hFBG75).wx hXG113 hfG113 ⟨KX.al (KX.trans (KX.trans (KX.trans (KX.trans hXG2 hXG4) hXG9) hXG12) hXG75) (kne kB3 (by decide)), KX.al (KX.trans (KX.trans (KX.trans (KX.trans hXG2 hXG4) hXG9) hXG12) hXG75) (kne kB4 (by decide))⟩ (by show ¬ _; omega) (by show ¬ _; omega) (fun p hp => by show ¬ _; omega)
                                  have hFfG113 : FPa P G113 f := hpG113
                                  show WP kX2_link X 218 [some (2, ((327682 : Nat) : Int)), some (2, ((A : Nat) : Int)), some (2, ((B : Nat) : Int)), some (0, s), some (2, ((f : Nat) : Int)), some (0, m75), some (0, e75), some (0, z84)] [(0, rr114)] G113
                                  refine s_istore dX2_link_218 (by decide) (lv' := [some (2, ((327682 : Nat) : Int)), some (2, ((A : Nat) : Int)), some (2, ((B : Nat) : Int)), some (0, s), some (2, ((f : Nat) : Int)), some (0, rr114), some (0, e75), some (0, z84)]) rfl ?_
                                  refine s_iinc dX2_link_220 (v := e75) rfl (by omega) (by decide) (lv' := [some (2, ((327682 : Nat) : Int)), some (2, ((A : Nat) : Int)), some (2, ((B : Nat) : Int)), some (0, s), some (2, ((f : Nat) : Int)), some (0, rr114), some (0, e75 + 1), some (0, z84)]) rfl ?_
                                  refine s_goto (tgt := 123) dX2_link_223 (by decide) ?_
                                  refine s_mask [true, true, true, true, true, true, true, false] (lv' := [some (2, ((327682 : Nat) : Int)), some (2, ((A : Nat) : Int)), some (2, ((B : Nat) : Int)), some (0, s), some (2, ((f : Nat) : Int)), some (0, rr114), some (0, e75 + 1), none]) rfl ?_
                                  exact ih75 rr114 (e75 + 1) G113 hCG113 (KX.trans hXG75 hXG113) hFG113 (⟨(by omega), (by exact hFIG113), (by exact hFAG113), (by exact hFBG113), (by exact hFfG113)⟩) (by omega)
                                · -- 205 to 208
                                  refine s_aload_n dX2_link_208 rfl (Int.natCast_nonneg _) ?_
                                  refine s_goto (tgt := 213) dX2_link_209 (by decide) ?_
                                  refine s_aload dX2_link_213 rfl (Int.natCast_nonneg _) ?_
                                  have hk118 : gK G75 (327682) = (11, 0) := ((hXG75).k ((hXG12).k ((hXG9).k hk6 (by decide)) (by decide)) (by decide))
                                  refine s_callV (as := [(0, e75), (2, ((A : Nat) : Int)), (2, ((f : Nat) : Int))]) (rest := []) (n := 327682) (ci := 3) gX2_linkOne dX2_link_215 m_1315 m_930 m_1658 m_716 m_277 ⟨by decide, by decide, show (parseMethodDescriptor yX2_linkOne.desc).map (fun d => d.parameters.length) = some 3 from by decide +kernel⟩ (Nat.le_of_ble_eq_true rfl) (by rw [hcf]; exact Nat.le_of_ble_eq_true rfl) hk118 rfl rfl (Nat.le_of_ble_eq_true rfl) ⟨P, e75, A, f, a, b, rfl, hCG75, hab, (by omega), (by assumption), (by assumption), (by omega), (by exact hFIG75), (by exact hFAG75), (by exact hFfG75), fun rr117 G116 hCG116 hXG116 hfG116 hpG116 => ?_⟩
                                  have hFG116 : WX (fun x => (262144 ≤ x ∧ x < 262272) ∨ x = 327691 ∨ x = 327692 ∨ (f + 1 ≤ x ∧ x ≤ f + 22)) G G116 := WX.trans hFG75 (KX.trans (KX.trans (KX.trans (KX.trans hXG2 hXG4) hXG9) hXG12) hXG75) (WX.mono hfG116 (fun x hx => by omega))
                                  have hFIG116 : ∀ k : Nat, k < 6 → FIP P G116 262144 k := fun k hk => FIP.sm (hFIG75 k hk) hXG116 hfG116 (by show ¬ _; omega) (congrFun (hfG116 262149 (KX.al (KX.trans (KX.trans (KX.trans (KX.trans hXG2 hXG4) hXG9) hXG12) hXG75) (kne k262149 (by decide))) (by show ¬ _; omega)) k)
                                  have hFAG116 : FPa P G116 A := (hFAG75).wx hXG116 hfG116 ⟨KX.al (KX.trans (KX.trans (KX.trans (KX.trans hXG2 hXG4) hXG9) hXG12) hXG75) (kne kA3 (by decide)), KX.al (KX.trans (KX.trans (KX.trans (KX.trans hXG2 hXG4) hXG9) hXG12) hXG75) (kne kA4 (by decide))⟩ (by show ¬ _; omega) (by show ¬ _; omega) (fun p hp => by show ¬ _; omega)
                                  have hFBG116 : FPa P G116 B := (hFBG75).wx hXG116 hfG116 ⟨KX.al (KX.trans (KX.trans (KX.trans (KX.trans hXG2 hXG4) hXG9) hXG12) hXG75) (kne kB3 (by decide)), KX.al (KX.trans (KX.trans (KX.trans (KX.trans hXG2 hXG4) hXG9) hXG12) hXG75) (kne kB4 (by decide))⟩ (by show ¬ _; omega) (by show ¬ _; omega) (fun p hp => by show ¬ _; omega)
                                  have hFfG116 : FPa P G116 f := hpG116
                                  show WP kX2_link X 218 [some (2, ((327682 : Nat) : Int)), some (2, ((A : Nat) : Int)), some (2, ((B : Nat) : Int)), some (0, s), some (2, ((f : Nat) : Int)), some (0, m75), some (0, e75), some (0, z84)] [(0, rr117)] G116
                                  refine s_istore dX2_link_218 (by decide) (lv' := [some (2, ((327682 : Nat) : Int)), some (2, ((A : Nat) : Int)), some (2, ((B : Nat) : Int)), some (0, s), some (2, ((f : Nat) : Int)), some (0, rr117), some (0, e75), some (0, z84)]) rfl ?_
                                  refine s_iinc dX2_link_220 (v := e75) rfl (by omega) (by decide) (lv' := [some (2, ((327682 : Nat) : Int)), some (2, ((A : Nat) : Int)), some (2, ((B : Nat) : Int)), some (0, s), some (2, ((f : Nat) : Int)), some (0, rr117), some (0, e75 + 1), some (0, z84)]) rfl ?_
                                  refine s_goto (tgt := 123) dX2_link_223 (by decide) ?_
                                  refine s_mask [true, true, true, true, true, true, true, false] (lv' := [some (2, ((327682 : Nat) : Int)), some (2, ((A : Nat) : Int)), some (2, ((B : Nat) : Int)), some (0, s), some (2, ((f : Nat) : Int)), some (0, rr117), some (0, e75 + 1), none]) rfl ?_
                                  exact ih75 rr117 (e75 + 1) G116 hCG116 (KX.trans hXG75 hXG116) hFG116 (⟨(by omega), (by exact hFIG116), (by exact hFAG116), (by exact hFBG116), (by exact hFfG116)⟩) (by omega)
                              · -- 192 to 195
                                refine s_iload dX2_link_195 rfl ?_
                                refine s_if_eq (tgt := 220) dX2_link_197 (by decide) (fun c119 => ?_) (fun c119 => ?_)
                                · -- 197 to 220
                                  refine s_iinc dX2_link_220 (v := e75) rfl (by omega) (by decide) (lv' := [some (2, ((327682 : Nat) : Int)), some (2, ((A : Nat) : Int)), some (2, ((B : Nat) : Int)), some (0, s), some (2, ((f : Nat) : Int)), some (0, m75), some (0, e75 + 1), some (0, z84)]) rfl ?_
                                  refine s_goto (tgt := 123) dX2_link_223 (by decide) ?_
                                  refine s_mask [true, true, true, true, true, true, true, false] (lv' := [some (2, ((327682 : Nat) : Int)), some (2, ((A : Nat) : Int)), some (2, ((B : Nat) : Int)), some (0, s), some (2, ((f : Nat) : Int)), some (0, m75), some (0, e75 + 1), none]) rfl ?_
                                  exact ih75 m75 (e75 + 1) G75 hCG75 hXG75 hFG75 (⟨(by omega), (by exact hFIG75), (by exact hFAG75), (by exact hFBG75), (by exact hFfG75)⟩) (by omega)
                                · -- 197 to 200
                                  refine s_aload_n dX2_link_200 rfl (Int.natCast_nonneg _) ?_
                                  refine s_iload dX2_link_201 rfl ?_
                                  refine s_iload dX2_link_203 rfl ?_
                                  refine s_if_ne (tgt := 212) dX2_link_205 (by decide) (fun c120 => ?_) (fun c120 => ?_)
                                  · -- 205 to 212
                                    refine s_aload_n dX2_link_212 rfl (Int.natCast_nonneg _) ?_
                                    refine s_aload dX2_link_213 rfl (Int.natCast_nonneg _) ?_
                                    have hk123 : gK G75 (327682) = (11, 0) := ((hXG75).k ((hXG12).k ((hXG9).k hk6 (by decide)) (by decide)) (by decide))
                                    refine s_callV (as := [(0, e75), (2, ((B : Nat) : Int)), (2, ((f : Nat) : Int))]) (rest := []) (n := 327682) (ci := 3) gX2_linkOne dX2_link_215 m_1315 m_930 m_1658 m_716 m_277 ⟨by decide, by decide, show (parseMethodDescriptor yX2_linkOne.desc).map (fun d => d.parameters.length) = some 3 from by decide +kernel⟩ (Nat.le_of_ble_eq_true rfl) (by rw [hcf]; exact Nat.le_of_ble_eq_true rfl) hk123 rfl rfl (Nat.le_of_ble_eq_true rfl) ⟨P, e75, B, f, a, b, rfl, hCG75, hab, (by omega), (by assumption), (by assumption), (by omega), (by exact hFIG75), (by exact hFBG75), (by exact hFfG75), fun rr122 G121 hCG121 hXG121 hfG121 hpG121 => ?_⟩
                                    have hFG121 : WX (fun x => (262144 ≤ x ∧ x < 262272) ∨ x = 327691 ∨ x = 327692 ∨ (f + 1 ≤ x ∧ x ≤ f + 22)) G G121 := WX.trans hFG75 (KX.trans (KX.trans (KX.trans (KX.trans hXG2 hXG4) hXG9) hXG12) hXG75) (WX.mono hfG121 (fun x hx => by omega))
                                    have hFIG121 : ∀ k : Nat, k < 6 → FIP P G121 262144 k := fun k hk => FIP.sm (hFIG75 k hk) hXG121 hfG121 (by show ¬ _; omega) (congrFun (hfG121 262149 (KX.al (KX.trans (KX.trans (KX.trans (KX.trans hXG2 hXG4) hXG9) hXG12) hXG75) (kne k262149 (by decide))) (by show ¬ _; omega)) k)
                                    have hFAG121 : FPa P G121 A := (hFAG75).wx hXG121 hfG121 ⟨KX.al (KX.trans (KX.trans (KX.trans (KX.trans hXG2 hXG4) hXG9) hXG12) hXG75) (kne kA3 (by decide)), KX.al (KX.trans (KX.trans (KX.trans (KX.trans hXG2 hXG4) hXG9) hXG12) hXG75) (kne kA4 (by decide))⟩ (by show ¬ _; omega) (by show ¬ _; omega) (fun p hp => by show ¬ _; omega)
                                    have hFBG121 : FPa P G121 B := (hFBG75).wx hXG121 hfG121 ⟨KX.al (KX.trans (KX.trans (KX.trans (KX.trans hXG2 hXG4) hXG9) hXG12) hXG75) (kne kB3 (by decide)), KX.al (KX.trans (KX.trans (KX.trans (KX.trans hXG2 hXG4) hXG9) hXG12) hXG75) (kne kB4 (by decide))⟩ (by show ¬ _; omega) (by show ¬ _; omega) (fun p hp => by show ¬ _; omega)
                                    have hFfG121 : FPa P G121 f := hpG121
                                    show WP kX2_link X 218 [some (2, ((327682 : Nat) : Int)), some (2, ((A : Nat) : Int)), some (2, ((B : Nat) : Int)), some (0, s), some (2, ((f : Nat) : Int)), some (0, m75), some (0, e75), some (0, z84)] [(0, rr122)] G121
                                    refine s_istore dX2_link_218 (by decide) (lv' := [some (2, ((327682 : Nat) : Int)), some (2, ((A : Nat) : Int)), some (2, ((B : Nat) : Int)), some (0, s), some (2, ((f : Nat) : Int)), some (0, rr122), some (0, e75), some (0, z84)]) rfl ?_
                                    refine s_iinc dX2_link_220 (v := e75) rfl (by omega) (by decide) (lv' := [some (2, ((327682 : Nat) : Int)), some (2, ((A : Nat) : Int)), some (2, ((B : Nat) : Int)), some (0, s), some (2, ((f : Nat) : Int)), some (0, rr122), some (0, e75 + 1), some (0, z84)]) rfl ?_
                                    refine s_goto (tgt := 123) dX2_link_223 (by decide) ?_
                                    refine s_mask [true, true, true, true, true, true, true, false] (lv' := [some (2, ((327682 : Nat) : Int)), some (2, ((A : Nat) : Int)), some (2, ((B : Nat) : Int)), some (0, s), some (2, ((f : Nat) : Int)), some (0, rr122), some (0, e75 + 1), none]) rfl ?_
                                    exact ih75 rr122 (e75 + 1) G121 hCG121 (KX.trans hXG75 hXG121) hFG121 (⟨(by omega), (by exact hFIG121), (by exact hFAG121), (by exact hFBG121), (by exact hFfG121)⟩) (by omega)
                                  · -- 205 to 208
                                    refine s_aload_n dX2_link_208 rfl (Int.natCast_nonneg _) ?_
                                    refine s_goto (tgt := 213) dX2_link_209 (by decide) ?_
                                    refine s_aload dX2_link_213 rfl (Int.natCast_nonneg _) ?_
                                    have hk126 : gK G75 (327682) = (11, 0) := ((hXG75).k ((hXG12).k ((hXG9).k hk6 (by decide)) (by decide)) (by decide))
                                    refine s_callV (as := [(0, e75), (2, ((A : Nat) : Int)), (2, ((f : Nat) : Int))]) (rest := []) (n := 327682) (ci := 3) gX2_linkOne dX2_link_215 m_1315 m_930 m_1658 m_716 m_277 ⟨by decide, by decide, show (parseMethodDescriptor yX2_linkOne.desc).map (fun d => d.parameters.length) = some 3 from by decide +kernel⟩ (Nat.le_of_ble_eq_true rfl) (by rw [hcf]; exact Nat.le_of_ble_eq_true rfl) hk126 rfl rfl (Nat.le_of_ble_eq_true rfl) ⟨P, e75, A, f, a, b, rfl, hCG75, hab, (by omega), (by assumption), (by assumption), (by omega), (by exact hFIG75), (by exact hFAG75), (by exact hFfG75), fun rr125 G124 hCG124 hXG124 hfG124 hpG124 => ?_⟩
                                    have hFG124 : WX (fun x => (262144 ≤ x ∧ x < 262272) ∨ x = 327691 ∨ x = 327692 ∨ (f + 1 ≤ x ∧ x ≤ f + 22)) G G124 := WX.trans hFG75 (KX.trans (KX.trans (KX.trans (KX.trans hXG2 hXG4) hXG9) hXG12) hXG75) (WX.mono hfG124 (fun x hx => by omega))
                                    have hFIG124 : ∀ k : Nat, k < 6 → FIP P G124 262144 k := fun k hk => FIP.sm (hFIG75 k hk) hXG124 hfG124 (by show ¬ _; omega) (congrFun (hfG124 262149 (KX.al (KX.trans (KX.trans (KX.trans (KX.trans hXG2 hXG4) hXG9) hXG12) hXG75) (kne k262149 (by decide))) (by show ¬ _; omega)) k)
                                    have hFAG124 : FPa P G124 A := (hFAG75).wx hXG124 hfG124 ⟨KX.al (KX.trans (KX.trans (KX.trans (KX.trans hXG2 hXG4) hXG9) hXG12) hXG75) (kne kA3 (by decide)), KX.al (KX.trans (KX.trans (KX.trans (KX.trans hXG2 hXG4) hXG9) hXG12) hXG75) (kne kA4 (by decide))⟩ (by show ¬ _; omega) (by show ¬ _; omega) (fun p hp => by show ¬ _; omega)
                                    have hFBG124 : FPa P G124 B := (hFBG75).wx hXG124 hfG124 ⟨KX.al (KX.trans (KX.trans (KX.trans (KX.trans hXG2 hXG4) hXG9) hXG12) hXG75) (kne kB3 (by decide)), KX.al (KX.trans (KX.trans (KX.trans (KX.trans hXG2 hXG4) hXG9) hXG12) hXG75) (kne kB4 (by decide))⟩ (by show ¬ _; omega) (by show ¬ _; omega) (fun p hp => by show ¬ _; omega)
                                    have hFfG124 : FPa P G124 f := hpG124
                                    show WP kX2_link X 218 [some (2, ((327682 : Nat) : Int)), some (2, ((A : Nat) : Int)), some (2, ((B : Nat) : Int)), some (0, s), some (2, ((f : Nat) : Int)), some (0, m75), some (0, e75), some (0, z84)] [(0, rr125)] G124
                                    refine s_istore dX2_link_218 (by decide) (lv' := [some (2, ((327682 : Nat) : Int)), some (2, ((A : Nat) : Int)), some (2, ((B : Nat) : Int)), some (0, s), some (2, ((f : Nat) : Int)), some (0, rr125), some (0, e75), some (0, z84)]) rfl ?_
                                    refine s_iinc dX2_link_220 (v := e75) rfl (by omega) (by decide) (lv' := [some (2, ((327682 : Nat) : Int)), some (2, ((A : Nat) : Int)), some (2, ((B : Nat) : Int)), some (0, s), some (2, ((f : Nat) : Int)), some (0, rr125), some (0, e75 + 1), some (0, z84)]) rfl ?_
                                    refine s_goto (tgt := 123) dX2_link_223 (by decide) ?_
                                    refine s_mask [true, true, true, true, true, true, true, false] (lv' := [some (2, ((327682 : Nat) : Int)), some (2, ((A : Nat) : Int)), some (2, ((B : Nat) : Int)), some (0, s), some (2, ((f : Nat) : Int)), some (0, rr125), some (0, e75 + 1), none]) rfl ?_
                                    exact ih75 rr125 (e75 + 1) G124 hCG124 (KX.trans hXG75 hXG124) hFG124 (⟨(by omega), (by exact hFIG124), (by exact hFAG124), (by exact hFBG124), (by exact hFfG124)⟩) (by omega)
                            · -- 168 to 171
                              refine s_aload_n dX2_link_171 rfl (Int.natCast_nonneg _) ?_
                              refine s_iload dX2_link_172 rfl ?_
                              refine s_aload_n dX2_link_174 rfl (Int.natCast_nonneg _) ?_
                              refine s_aload_n dX2_link_175 rfl (Int.natCast_nonneg _) ?_
                              refine s_aload dX2_link_176 rfl (Int.natCast_nonneg _) ?_
                              have hk129 : gK G75 (327682) = (11, 0) := ((hXG75).k ((hXG12).k ((hXG9).k hk6 (by decide)) (by decide)) (by decide))
                              refine s_callV (as := [(0, e75), (2, ((A : Nat) : Int)), (2, ((B : Nat) : Int)), (2, ((f : Nat) : Int))]) (rest := []) (n := 327682) (ci := 3) gX2_linkBoth dX2_link_178 m_1314 m_929 m_1657 m_716 m_276 ⟨by decide, by decide, show (parseMethodDescriptor yX2_linkBoth.desc).map (fun d => d.parameters.length) = some 4 from by decide +kernel⟩ (Nat.le_of_ble_eq_true rfl) (by rw [hcf]; exact Nat.le_of_ble_eq_true rfl) hk129 rfl rfl (Nat.le_of_ble_eq_true rfl) ⟨P, e75, A, B, f, a, b, rfl, hCG75, hab, (by omega), (by assumption), (by assumption), (by assumption), (by omega), (by exact hFIG75), (by exact hFAG75), (by exact hFBG75), (by exact hFfG75), fun rr128 G127 hCG127 hXG127 hfG127 hpG127 => ?_⟩
                              have hFG127 : WX (fun x => (262144 ≤ x ∧ x < 262272) ∨ x = 327691 ∨ x = 327692 ∨ (f + 1 ≤ x ∧ x ≤ f + 22)) G G127 := WX.trans hFG75 (KX.trans (KX.trans (KX.trans (KX.trans hXG2 hXG4) hXG9) hXG12) hXG75) (WX.mono hfG127 (fun x hx => by omega))
                              have hFIG127 : ∀ k : Nat, k < 6 → FIP P G127 262144 k := fun k hk => FIP.sm (hFIG75 k hk) hXG127 hfG127 (by show ¬ _; omega) (congrFun (hfG127 262149 (KX.al (KX.trans (KX.trans (KX.trans (KX.trans hXG2 hXG4) hXG9) hXG12) hXG75) (kne k262149 (by decide))) (by show ¬ _; omega)) k)
                              have hFAG127 : FPa P G127 A := (hFAG75).wx hXG127 hfG127 ⟨KX.al (KX.trans (KX.trans (KX.trans (KX.trans hXG2 hXG4) hXG9) hXG12) hXG75) (kne kA3 (by decide)), KX.al (KX.trans (KX.trans (KX.trans (KX.trans hXG2 hXG4) hXG9) hXG12) hXG75) (kne kA4 (by decide))⟩ (by show ¬ _; omega) (by show ¬ _; omega) (fun p hp => by show ¬ _; omega)
                              have hFBG127 : FPa P G127 B := (hFBG75).wx hXG127 hfG127 ⟨KX.al (KX.trans (KX.trans (KX.trans (KX.trans hXG2 hXG4) hXG9) hXG12) hXG75) (kne kB3 (by decide)), KX.al (KX.trans (KX.trans (KX.trans (KX.trans hXG2 hXG4) hXG9) hXG12) hXG75) (kne kB4 (by decide))⟩ (by show ¬ _; omega) (by show ¬ _; omega) (fun p hp => by show ¬ _; omega)
                              have hFfG127 : FPa P G127 f := hpG127
                              show WP kX2_link X 181 [some (2, ((327682 : Nat) : Int)), some (2, ((A : Nat) : Int)), some (2, ((B : Nat) : Int)), some (0, s), some (2, ((f : Nat) : Int)), some (0, m75), some (0, e75), some (0, z84)] [(0, rr128)] G127
                              refine s_istore dX2_link_181 (by decide) (lv' := [some (2, ((327682 : Nat) : Int)), some (2, ((A : Nat) : Int)), some (2, ((B : Nat) : Int)), some (0, s), some (2, ((f : Nat) : Int)), some (0, rr128), some (0, e75), some (0, z84)]) rfl ?_
                              refine s_goto (tgt := 220) dX2_link_183 (by decide) ?_
                              refine s_iinc dX2_link_220 (v := e75) rfl (by omega) (by decide) (lv' := [some (2, ((327682 : Nat) : Int)), some (2, ((A : Nat) : Int)), some (2, ((B : Nat) : Int)), some (0, s), some (2, ((f : Nat) : Int)), some (0, rr128), some (0, e75 + 1), some (0, z84)]) rfl ?_
                              refine s_goto (tgt := 123) dX2_link_223 (by decide) ?_
                              refine s_mask [true, true, true, true, true, true, true, false] (lv' := [some (2, ((327682 : Nat) : Int)), some (2, ((A : Nat) : Int)), some (2, ((B : Nat) : Int)), some (0, s), some (2, ((f : Nat) : Int)), some (0, rr128), some (0, e75 + 1), none]) rfl ?_
                              exact ih75 rr128 (e75 + 1) G127 hCG127 (KX.trans hXG75 hXG127) hFG127 (⟨(by omega), (by exact hFIG127), (by exact hFAG127), (by exact hFBG127), (by exact hFfG127)⟩) (by omega)
                        refine s_if_eq (tgt := 154) dX2_link_141 (by decide) (fun c130 => ?_) (fun c130 => ?_)
                        · -- 141 to 154
                          refine s_iconst dX2_link_154 (by decide) ?_
                          exact J85 0 (Or.inl ⟨c130, rfl⟩)
                        · -- 141 to 144
                          refine s_aload_n dX2_link_144 rfl (Int.natCast_nonneg _) ?_
                          have hk131 : gK G75 (B) = (9, 0) := ((hXG75).k ((hXG12).k ((hXG9).k ((hXG4).k ((hXG2).k kB0 (by decide)) (by decide)) (by decide)) (by decide)) (by decide))
                          refine s_alv (B) (by simp) (fun al132 => ?_)
                          have hv133 : gS G75 B 2 = ((B + 2 : Nat) : Int) := by have h9 : (gS G75 B 2) = (((B % 1048576) + 2 : Nat) : Int) := hCG75.1.v (j := 2) (by rw [cde_n (by omega) (by omega)]; omega : cde B = 101) al132 (by rw [hk131]; exact Nat.le_of_ble_eq_true rfl); omega
                          refine s_getf (ci := 1) (k := 2) (C := RX0) (T := TX0) (N := 7) (n := B) (L := 0) (t := 2) dX2_link_145 rfl wi_65 m_576 (Nat.le_of_ble_eq_true rfl) rfl rfl hk131 hv133 ?_
                          refine s_iload dX2_link_148 rfl ?_
                          have hk134 : gK G75 (B + 2) = (1, 10) := ((hXG75).k ((hXG12).k ((hXG9).k ((hXG4).k ((hXG2).k kB2 (by decide)) (by decide)) (by decide)) (by decide)) (by decide))
                          refine s_iald dX2_link_150 hk134 (by omega) (by omega) rfl ?_
                          refine s_goto (tgt := 155) dX2_link_151 (by decide) ?_
                          exact J85 _ (Or.inr (⟨c130, rfl⟩))
                exact L75 _ m12 0 G12 hCG12 KX.rf hFG12 (⟨(by omega), (by exact hFIG12), (by exact hFAG12), (by exact hFBG12), (by exact hFfG12)⟩) (Nat.lt_succ_self _)
              · -- 99 to 102
                refine s_aload_n dX2_link_102 rfl (Int.natCast_nonneg _) ?_
                refine s_iload dX2_link_103 rfl ?_
                refine s_aload_n dX2_link_105 rfl (Int.natCast_nonneg _) ?_
                refine s_aload_n dX2_link_106 rfl (Int.natCast_nonneg _) ?_
                refine s_aload dX2_link_107 rfl (Int.natCast_nonneg _) ?_
                have hk137 : gK G12 (327682) = (11, 0) := ((hXG12).k ((hXG9).k hk6 (by decide)) (by decide))
                refine s_callV (as := [(0, e12), (2, ((A : Nat) : Int)), (2, ((B : Nat) : Int)), (2, ((f : Nat) : Int))]) (rest := []) (n := 327682) (ci := 3) gX2_linkType dX2_link_109 m_1312 m_931 m_1659 m_716 m_278 ⟨by decide, by decide, show (parseMethodDescriptor yX2_linkType.desc).map (fun d => d.parameters.length) = some 4 from by decide +kernel⟩ (Nat.le_of_ble_eq_true rfl) (by rw [hcf]; exact Nat.le_of_ble_eq_true rfl) hk137 rfl rfl (Nat.le_of_ble_eq_true rfl) ⟨P, e12, A, B, f, a, b, rfl, hCG12, hab, (by omega), (by assumption), (by assumption), (by assumption), (by omega), (by exact hFIG12), (by exact hFfG12), (by exact iz12 (by omega)), fun rr136 G135 hCG135 hXG135 hfG135 hpG135 => ?_⟩
                have hFG135 : WX (fun x => (262144 ≤ x ∧ x < 262272) ∨ x = 327691 ∨ x = 327692 ∨ (f + 1 ≤ x ∧ x ≤ f + 22)) G G135 := WX.trans hFG12 (KX.trans (KX.trans (KX.trans hXG2 hXG4) hXG9) hXG12) (WX.mono hfG135 (fun x hx => by omega))
                have hFIG135 : ∀ k : Nat, k < 6 → FIP P G135 262144 k := fun k hk => FIP.sm (hFIG12 k hk) hXG135 hfG135 (by show ¬ _; omega) (congrFun (hfG135 262149 (KX.al (KX.trans (KX.trans (KX.trans hXG2 hXG4) hXG9) hXG12) (kne k262149 (by decide))) (by show ¬ _; omega)) k)
                have hFAG135 : FPa P G135 A := (hFAG12).wx hXG135 hfG135 ⟨KX.al (KX.trans (KX.trans (KX.trans hXG2 hXG4) hXG9) hXG12) (kne kA3 (by decide)), KX.al (KX.trans (KX.trans (KX.trans hXG2 hXG4) hXG9) hXG12) (kne kA4 (by decide))⟩ (by show ¬ _; omega) (by show ¬ _; omega) (fun p hp => by show ¬ _; omega)
                have hFBG135 : FPa P G135 B := (hFBG12).wx hXG135 hfG135 ⟨KX.al (KX.trans (KX.trans (KX.trans hXG2 hXG4) hXG9) hXG12) (kne kB3 (by decide)), KX.al (KX.trans (KX.trans (KX.trans hXG2 hXG4) hXG9) hXG12) (kne kB4 (by decide))⟩ (by show ¬ _; omega) (by show ¬ _; omega) (fun p hp => by show ¬ _; omega)
                have hFfG135 : FPa P G135 f := hpG135
                show WP kX2_link X 112 [some (2, ((327682 : Nat) : Int)), some (2, ((A : Nat) : Int)), some (2, ((B : Nat) : Int)), some (0, s), some (2, ((f : Nat) : Int)), some (0, m12), some (0, e12), none] [(0, rr136)] G135
                refine s_istore dX2_link_112 (by decide) (lv' := [some (2, ((327682 : Nat) : Int)), some (2, ((A : Nat) : Int)), some (2, ((B : Nat) : Int)), some (0, s), some (2, ((f : Nat) : Int)), some (0, rr136), some (0, e12), none]) rfl ?_
                refine s_iinc dX2_link_114 (v := e12) rfl (by omega) (by decide) (lv' := [some (2, ((327682 : Nat) : Int)), some (2, ((A : Nat) : Int)), some (2, ((B : Nat) : Int)), some (0, s), some (2, ((f : Nat) : Int)), some (0, rr136), some (0, e12 + 1), none]) rfl ?_
                refine s_goto (tgt := 90) dX2_link_117 (by decide) ?_
                exact ih12 rr136 (e12 + 1) G135 hCG135 (KX.trans hXG12 hXG135) hFG135 (⟨(by omega), (by intro _ k hk; rw [hfG135 262149 (KX.al (KX.trans (KX.trans (KX.trans hXG2 hXG4) hXG9) hXG12) (kne k262149 (by decide))) (by show ¬ _; omega)]; exact iz12 (by omega) k hk), (by exact hFIG135), (by exact hFAG135), (by exact hFBG135), (by exact hFfG135)⟩) (by omega)
        exact L12 _ rr10 0 G9 hCG9 KX.rf hFG9 (⟨(by omega), (by exact hpG9.1), (by exact hFIG9), (by exact hFAG9), (by exact hFBG9), (by exact hFfG9)⟩) (Nat.lt_succ_self _)
      · -- 14 to 17
        refine s_aload_n dX2_link_17 rfl (Int.natCast_nonneg _) ?_
        have hk138 : gK G4 (A) = (9, 0) := ((hXG4).k ((hXG2).k kA0 (by decide)) (by decide))
        refine s_alv (A) (by simp) (fun al139 => ?_)
        have hv140 : gS G4 A 1 = ((A + 1 : Nat) : Int) := by have h9 : (gS G4 A 1) = (((A % 1048576) + 1 : Nat) : Int) := hCG4.1.v (j := 1) (by rw [cde_n (by omega) (by omega)]; omega : cde A = 101) al139 (by rw [hk138]; exact Nat.le_of_ble_eq_true rfl); omega
        refine s_getf (ci := 1) (k := 1) (C := RX0) (T := TX0) (N := 7) (n := A) (L := 0) (t := 2) dX2_link_18 rfl wi_65 m_573 (Nat.le_of_ble_eq_true rfl) rfl rfl hk138 hv140 ?_
        refine s_iload dX2_link_21 rfl ?_
        have hk141 : gK G4 (A + 1) = (1, 6) := ((hXG4).k ((hXG2).k kA1 (by decide)) (by decide))
        refine s_iald dX2_link_23 hk141 (by omega) (by omega) rfl ?_
        refine s_iconst dX2_link_24 (by decide) ?_
        refine s_icmp_ne (tgt := 32) dX2_link_25 (by decide) (fun c142 => ?_) (fun c142 => ?_)
        · -- 25 to 32
          refine s_aload_n dX2_link_32 rfl (Int.natCast_nonneg _) ?_
          refine s_astore (Int.natCast_nonneg _) dX2_link_33 (by decide) (lv' := [some (2, ((327682 : Nat) : Int)), some (2, ((A : Nat) : Int)), some (2, ((B : Nat) : Int)), some (0, s), some (2, ((f : Nat) : Int)), some (0, n4), some (2, ((B : Nat) : Int)), none]) rfl ?_
          refine s_aload dX2_link_35 rfl (Int.natCast_nonneg _) ?_
          have hk143 : gK G4 (B) = (9, 0) := ((hXG4).k ((hXG2).k kB0 (by decide)) (by decide))
          refine s_alv (B) (by simp) (fun al144 => ?_)
          have hv145 : gS G4 B 1 = ((B + 1 : Nat) : Int) := by have h9 : (gS G4 B 1) = (((B % 1048576) + 1 : Nat) : Int) := hCG4.1.v (j := 1) (by rw [cde_n (by omega) (by omega)]; omega : cde B = 101) al144 (by rw [hk143]; exact Nat.le_of_ble_eq_true rfl); omega
          refine s_getf (ci := 1) (k := 1) (C := RX0) (T := TX0) (N := 7) (n := B) (L := 0) (t := 2) dX2_link_37 rfl wi_65 m_573 (Nat.le_of_ble_eq_true rfl) rfl rfl hk143 hv145 ?_
          refine s_iload dX2_link_40 rfl ?_
          have hk146 : gK G4 (B + 1) = (1, 6) := ((hXG4).k ((hXG2).k kB1 (by decide)) (by decide))
          refine s_iald dX2_link_42 hk146 (by omega) (by omega) rfl ?_
          refine s_iconst dX2_link_43 (by decide) ?_
          refine s_icmp_ne (tgt := 72) dX2_link_44 (by decide) (fun c147 => ?_) (fun c147 => ?_)
          · -- 44 to 72
            refine s_iinc dX2_link_72 (v := n4) rfl (by omega) (by decide) (lv' := [some (2, ((327682 : Nat) : Int)), some (2, ((A : Nat) : Int)), some (2, ((B : Nat) : Int)), some (0, s), some (2, ((f : Nat) : Int)), some (0, n4 + 1), some (2, ((B : Nat) : Int)), none]) rfl ?_
            refine s_goto (tgt := 10) dX2_link_75 (by decide) ?_
            refine s_mask [true, true, true, true, true, true, false, false] (lv' := [some (2, ((327682 : Nat) : Int)), some (2, ((A : Nat) : Int)), some (2, ((B : Nat) : Int)), some (0, s), some (2, ((f : Nat) : Int)), some (0, n4 + 1), none, none]) rfl ?_
            exact ih4 (n4 + 1) G4 hCG4 hXG4 hFG4 (⟨(by omega), (by exact hTLG4), (by exact hFIG4), (by exact hFAG4), (by exact hFBG4), (by exact hFfG4)⟩) (by omega)
          · -- 44 to 47
            refine s_aload_n dX2_link_47 rfl (Int.natCast_nonneg _) ?_
            have hk148 : gK G4 (327682) = (11, 0) := ((hXG4).k ((hXG2).k k327682 (by decide)) (by decide))
            refine s_alv (327682) (by simp) (fun al149 => ?_)
            have hv150 : gS G4 327682 2 = ((262144 : Nat) : Int) := by have h9 : (gS G4 327682 2) = 262144 := hCG4.1.v (j := 2) (by decide : cde 327682 = 502) al149 (by rw [hk148]; exact Nat.le_of_ble_eq_true rfl); omega
            refine s_getf (ci := 3) (k := 2) (C := RX2) (T := TX2) (N := 8) (n := 327682) (L := 0) (t := 2) dX2_link_48 rfl wi_70 m_577 (Nat.le_of_ble_eq_true rfl) rfl rfl hk148 hv150 ?_
            refine s_iload dX2_link_51 rfl ?_
            refine s_aload dX2_link_53 rfl (Int.natCast_nonneg _) ?_
            have hv151 : gS G4 B 3 = ((B + 3 : Nat) : Int) := by have h9 : (gS G4 B 3) = (((B % 1048576) + 3 : Nat) : Int) := hCG4.1.v (j := 3) (by rw [cde_n (by omega) (by omega)]; omega : cde B = 101) al144 (by rw [hk143]; exact Nat.le_of_ble_eq_true rfl); omega
            refine s_getf (ci := 1) (k := 3) (C := RX0) (T := TX0) (N := 7) (n := B) (L := 0) (t := 2) dX2_link_55 rfl wi_65 m_574 (Nat.le_of_ble_eq_true rfl) rfl rfl hk143 hv151 ?_
            refine s_iload dX2_link_58 rfl ?_
            have hk152 : gK G4 (B + 3) = (4, 16) := ((hXG4).k ((hXG2).k kB3 (by decide)) (by decide))
            refine s_alv (B + 3) (by simp) (fun al153 => ?_)
            have hv155b : 0 ≤ (gS G4 (B + 3) (n4 : Int).toNat) ∧ (gS G4 (B + 3) (n4 : Int).toNat) % 1048576 = ((((B + 3) % 1048576) + 4 + ((n4 : Int).toNat) : Nat) : Int) := hCG4.1.v (j := (n4 : Int).toNat) (by rw [cde_n (by omega) (by omega)]; omega : cde (B + 3) = 104) al153 (by rw [hk152]; show (n4 : Int).toNat < 16; omega)
            obtain ⟨q154, hv155⟩ : ∃ q : Nat, gS G4 (B + 3) (n4 : Int).toNat = (q : Int) := ⟨(gS G4 (B + 3) (n4 : Int).toNat).toNat, by omega⟩
            rw [hv155] at hv155b
            refine s_aald4 dX2_link_60 hk152 (by omega) (by omega) hv155 ?_
            refine s_aload dX2_link_61 rfl (Int.natCast_nonneg _) ?_
            have hv156 : gS G4 B 4 = ((B + 4 : Nat) : Int) := by have h9 : (gS G4 B 4) = (((B % 1048576) + 4 : Nat) : Int) := hCG4.1.v (j := 4) (by rw [cde_n (by omega) (by omega)]; omega : cde B = 101) al144 (by rw [hk143]; exact Nat.le_of_ble_eq_true rfl); omega
            refine s_getf (ci := 1) (k := 4) (C := RX0) (T := TX0) (N := 7) (n := B) (L := 0) (t := 2) dX2_link_63 rfl wi_65 m_575 (Nat.le_of_ble_eq_true rfl) rfl rfl hk143 hv156 ?_
            refine s_iload dX2_link_66 rfl ?_
            have hk157 : gK G4 (B + 4) = (1, 16) := ((hXG4).k ((hXG2).k kB4 (by decide)) (by decide))
            refine s_alv (B + 4) (by simp) (fun al158 => ?_)
            have hv159 : 0 ≤ (gS G4 (B + 4) (n4 : Int).toNat) ∧ (gS G4 (B + 4) (n4 : Int).toNat) ≤ 200 := hCG4.1.v (j := (n4 : Int).toNat) (by rw [cde_n (by omega) (by omega)]; omega : cde (B + 4) = 105) al158 (by rw [hk157]; show (n4 : Int).toNat < 16; omega)
            refine s_iald dX2_link_68 hk157 (by omega) (by omega) rfl ?_
            refine s_alv (q154) (by simp) (fun al160 => ?_)
            obtain ⟨L162, hk161, hL162a, hL162b⟩ := hCG4.1.kr (show 108 ≤ cde q154 ∧ cde q154 < 124 from by rw [cde_n (by omega) (by omega)]; omega) al160
            have hk165 : gK G4 (262144) = (10, 0) := ((hXG4).k ((hXG2).k k262144 (by decide)) (by decide))
            refine s_callV (as := [(0, n4), (2, ((q154 : Nat) : Int)), (0, gS G4 (B + 4) ((n4 : Int).toNat))]) (rest := []) (n := 262144) (ci := 2) gX1_tell dX2_link_69 m_1310 m_919 m_1494 m_712 m_261 ⟨by decide, by decide, show (parseMethodDescriptor yX1_tell.desc).map (fun d => d.parameters.length) = some 3 from by decide +kernel⟩ (Nat.le_of_ble_eq_true rfl) (by rw [hcf]; exact Nat.le_of_ble_eq_true rfl) hk165 rfl rfl (Nat.le_of_ble_eq_true rfl) ⟨262144, n4, q154, L162, gS G4 (B + 4) ((n4 : Int).toNat), a, b, rfl, hCG4, hab, (by first | assumption | omega), (by first | assumption | omega), hk161, (by first | assumption | omega), (by first | assumption | omega), fun G163 hCG163 hXG163 hfG163 hpG163 => ?_⟩
            have hFG163 : WX (fun x => (262144 ≤ x ∧ x < 262272) ∨ x = 327691 ∨ x = 327692 ∨ (f + 1 ≤ x ∧ x ≤ f + 22)) G G163 := WX.trans hFG4 (KX.trans hXG2 hXG4) (WX.mono hfG163 (fun x hx => by omega))
            have hTLG163 : ∀ k : Nat, k < 6 → TLP P G163 262144 k := fun k hk => by by_cases e : k = (n4 : Int).toNat; (focus (subst e; exact RPs.at (hpG163.1 P ((hFBG4 (n4 : Int).toNat (by omega)).rps hv155 rfl)) (by omega))); exact TLP.sm (hTLG4 k hk) hXG163 hfG163 (by show ¬ _; omega) (hpG163.2 k e)
            have hFIG163 : ∀ k : Nat, k < 6 → FIP P G163 262144 k := fun k hk => FIP.sm (hFIG4 k hk) hXG163 hfG163 (by show ¬ _; omega) (congrFun (hfG163 262149 (KX.al (KX.trans hXG2 hXG4) (kne k262149 (by decide))) (by show ¬ _; omega)) k)
            have hFAG163 : FPa P G163 A := (hFAG4).wx hXG163 hfG163 ⟨KX.al (KX.trans hXG2 hXG4) (kne kA3 (by decide)), KX.al (KX.trans hXG2 hXG4) (kne kA4 (by decide))⟩ (by show ¬ _; omega) (by show ¬ _; omega) (fun p hp => by show ¬ _; omega)
            have hFBG163 : FPa P G163 B := (hFBG4).wx hXG163 hfG163 ⟨KX.al (KX.trans hXG2 hXG4) (kne kB3 (by decide)), KX.al (KX.trans hXG2 hXG4) (kne kB4 (by decide))⟩ (by show ¬ _; omega) (by show ¬ _; omega) (fun p hp => by show ¬ _; omega)
            have hFfG163 : FPa P G163 f := (hFfG4).wx hXG163 hfG163 ⟨KX.al (KX.trans hXG2 hXG4) (kne kf3 (by decide)), KX.al (KX.trans hXG2 hXG4) (kne kf4 (by decide))⟩ (by show ¬ _; omega) (by show ¬ _; omega) (fun p hp => by show ¬ _; omega)
            show WP kX2_link X 72 [some (2, ((327682 : Nat) : Int)), some (2, ((A : Nat) : Int)), some (2, ((B : Nat) : Int)), some (0, s), some (2, ((f : Nat) : Int)), some (0, n4), some (2, ((B : Nat) : Int)), none] [] G163
            refine s_iinc dX2_link_72 (v := n4) rfl (by omega) (by decide) (lv' := [some (2, ((327682 : Nat) : Int)), some (2, ((A : Nat) : Int)), some (2, ((B : Nat) : Int)), some (0, s), some (2, ((f : Nat) : Int)), some (0, n4 + 1), some (2, ((B : Nat) : Int)), none]) rfl ?_
            refine s_goto (tgt := 10) dX2_link_75 (by decide) ?_
            refine s_mask [true, true, true, true, true, true, false, false] (lv' := [some (2, ((327682 : Nat) : Int)), some (2, ((A : Nat) : Int)), some (2, ((B : Nat) : Int)), some (0, s), some (2, ((f : Nat) : Int)), some (0, n4 + 1), none, none]) rfl ?_
            exact ih4 (n4 + 1) G163 hCG163 (KX.trans hXG4 hXG163) hFG163 (⟨(by omega), (by exact hTLG163), (by exact hFIG163), (by exact hFAG163), (by exact hFBG163), (by exact hFfG163)⟩) (by omega)
        · -- 25 to 28
          refine s_aload_n dX2_link_28 rfl (Int.natCast_nonneg _) ?_
          refine s_goto (tgt := 33) dX2_link_29 (by decide) ?_
          refine s_astore (Int.natCast_nonneg _) dX2_link_33 (by decide) (lv' := [some (2, ((327682 : Nat) : Int)), some (2, ((A : Nat) : Int)), some (2, ((B : Nat) : Int)), some (0, s), some (2, ((f : Nat) : Int)), some (0, n4), some (2, ((A : Nat) : Int)), none]) rfl ?_
          refine s_aload dX2_link_35 rfl (Int.natCast_nonneg _) ?_
          have hv166 : gS G4 A 1 = ((A + 1 : Nat) : Int) := by have h9 : (gS G4 A 1) = (((A % 1048576) + 1 : Nat) : Int) := hCG4.1.v (j := 1) (by rw [cde_n (by omega) (by omega)]; omega : cde A = 101) al139 (by rw [hk138]; exact Nat.le_of_ble_eq_true rfl); omega
          refine s_getf (ci := 1) (k := 1) (C := RX0) (T := TX0) (N := 7) (n := A) (L := 0) (t := 2) dX2_link_37 rfl wi_65 m_573 (Nat.le_of_ble_eq_true rfl) rfl rfl hk138 hv166 ?_
          refine s_iload dX2_link_40 rfl ?_
          refine s_iald dX2_link_42 hk141 (by omega) (by omega) rfl ?_
          refine s_iconst dX2_link_43 (by decide) ?_
          refine s_icmp_ne (tgt := 72) dX2_link_44 (by decide) (fun c167 => ?_) (fun c167 => ?_)
          · -- 44 to 72
            refine s_iinc dX2_link_72 (v := n4) rfl (by omega) (by decide) (lv' := [some (2, ((327682 : Nat) : Int)), some (2, ((A : Nat) : Int)), some (2, ((B : Nat) : Int)), some (0, s), some (2, ((f : Nat) : Int)), some (0, n4 + 1), some (2, ((A : Nat) : Int)), none]) rfl ?_
            refine s_goto (tgt := 10) dX2_link_75 (by decide) ?_
            refine s_mask [true, true, true, true, true, true, false, false] (lv' := [some (2, ((327682 : Nat) : Int)), some (2, ((A : Nat) : Int)), some (2, ((B : Nat) : Int)), some (0, s), some (2, ((f : Nat) : Int)), some (0, n4 + 1), none, none]) rfl ?_
            exact ih4 (n4 + 1) G4 hCG4 hXG4 hFG4 (⟨(by omega), (by exact hTLG4), (by exact hFIG4), (by exact hFAG4), (by exact hFBG4), (by exact hFfG4)⟩) (by omega)
          · -- 44 to 47
            refine s_aload_n dX2_link_47 rfl (Int.natCast_nonneg _) ?_
            have hk168 : gK G4 (327682) = (11, 0) := ((hXG4).k ((hXG2).k k327682 (by decide)) (by decide))
            refine s_alv (327682) (by simp) (fun al169 => ?_)
            have hv170 : gS G4 327682 2 = ((262144 : Nat) : Int) := by have h9 : (gS G4 327682 2) = 262144 := hCG4.1.v (j := 2) (by decide : cde 327682 = 502) al169 (by rw [hk168]; exact Nat.le_of_ble_eq_true rfl); omega
            refine s_getf (ci := 3) (k := 2) (C := RX2) (T := TX2) (N := 8) (n := 327682) (L := 0) (t := 2) dX2_link_48 rfl wi_70 m_577 (Nat.le_of_ble_eq_true rfl) rfl rfl hk168 hv170 ?_
            refine s_iload dX2_link_51 rfl ?_
            refine s_aload dX2_link_53 rfl (Int.natCast_nonneg _) ?_
            have hv171 : gS G4 A 3 = ((A + 3 : Nat) : Int) := by have h9 : (gS G4 A 3) = (((A % 1048576) + 3 : Nat) : Int) := hCG4.1.v (j := 3) (by rw [cde_n (by omega) (by omega)]; omega : cde A = 101) al139 (by rw [hk138]; exact Nat.le_of_ble_eq_true rfl); omega
            refine s_getf (ci := 1) (k := 3) (C := RX0) (T := TX0) (N := 7) (n := A) (L := 0) (t := 2) dX2_link_55 rfl wi_65 m_574 (Nat.le_of_ble_eq_true rfl) rfl rfl hk138 hv171 ?_
            refine s_iload dX2_link_58 rfl ?_
            have hk172 : gK G4 (A + 3) = (4, 16) := ((hXG4).k ((hXG2).k kA3 (by decide)) (by decide))
            refine s_alv (A + 3) (by simp) (fun al173 => ?_)
            have hv175b : 0 ≤ (gS G4 (A + 3) (n4 : Int).toNat) ∧ (gS G4 (A + 3) (n4 : Int).toNat) % 1048576 = ((((A + 3) % 1048576) + 4 + ((n4 : Int).toNat) : Nat) : Int) := hCG4.1.v (j := (n4 : Int).toNat) (by rw [cde_n (by omega) (by omega)]; omega : cde (A + 3) = 104) al173 (by rw [hk172]; show (n4 : Int).toNat < 16; omega)
            obtain ⟨q174, hv175⟩ : ∃ q : Nat, gS G4 (A + 3) (n4 : Int).toNat = (q : Int) := ⟨(gS G4 (A + 3) (n4 : Int).toNat).toNat, by omega⟩
            rw [hv175] at hv175b
            refine s_aald4 dX2_link_60 hk172 (by omega) (by omega) hv175 ?_
            refine s_aload dX2_link_61 rfl (Int.natCast_nonneg _) ?_
            have hv176 : gS G4 A 4 = ((A + 4 : Nat) : Int) := by have h9 : (gS G4 A 4) = (((A % 1048576) + 4 : Nat) : Int) := hCG4.1.v (j := 4) (by rw [cde_n (by omega) (by omega)]; omega : cde A = 101) al139 (by rw [hk138]; exact Nat.le_of_ble_eq_true rfl); omega
            refine s_getf (ci := 1) (k := 4) (C := RX0) (T := TX0) (N := 7) (n := A) (L := 0) (t := 2) dX2_link_63 rfl wi_65 m_575 (Nat.le_of_ble_eq_true rfl) rfl rfl hk138 hv176 ?_
            refine s_iload dX2_link_66 rfl ?_
            have hk177 : gK G4 (A + 4) = (1, 16) := ((hXG4).k ((hXG2).k kA4 (by decide)) (by decide))
            refine s_alv (A + 4) (by simp) (fun al178 => ?_)
            have hv179 : 0 ≤ (gS G4 (A + 4) (n4 : Int).toNat) ∧ (gS G4 (A + 4) (n4 : Int).toNat) ≤ 200 := hCG4.1.v (j := (n4 : Int).toNat) (by rw [cde_n (by omega) (by omega)]; omega : cde (A + 4) = 105) al178 (by rw [hk177]; show (n4 : Int).toNat < 16; omega)
            refine s_iald dX2_link_68 hk177 (by omega) (by omega) rfl ?_
            refine s_alv (q174) (by simp) (fun al180 => ?_)
            obtain ⟨L182, hk181, hL182a, hL182b⟩ := hCG4.1.kr (show 108 ≤ cde q174 ∧ cde q174 < 124 from by rw [cde_n (by omega) (by omega)]; omega) al180
            have hk185 : gK G4 (262144) = (10, 0) := ((hXG4).k ((hXG2).k k262144 (by decide)) (by decide))
            refine s_callV (as := [(0, n4), (2, ((q174 : Nat) : Int)), (0, gS G4 (A + 4) ((n4 : Int).toNat))]) (rest := []) (n := 262144) (ci := 2) gX1_tell dX2_link_69 m_1310 m_919 m_1494 m_712 m_261 ⟨by decide, by decide, show (parseMethodDescriptor yX1_tell.desc).map (fun d => d.parameters.length) = some 3 from by decide +kernel⟩ (Nat.le_of_ble_eq_true rfl) (by rw [hcf]; exact Nat.le_of_ble_eq_true rfl) hk185 rfl rfl (Nat.le_of_ble_eq_true rfl) ⟨262144, n4, q174, L182, gS G4 (A + 4) ((n4 : Int).toNat), a, b, rfl, hCG4, hab, (by first | assumption | omega), (by first | assumption | omega), hk181, (by first | assumption | omega), (by first | assumption | omega), fun G183 hCG183 hXG183 hfG183 hpG183 => ?_⟩
            have hFG183 : WX (fun x => (262144 ≤ x ∧ x < 262272) ∨ x = 327691 ∨ x = 327692 ∨ (f + 1 ≤ x ∧ x ≤ f + 22)) G G183 := WX.trans hFG4 (KX.trans hXG2 hXG4) (WX.mono hfG183 (fun x hx => by omega))
            have hTLG183 : ∀ k : Nat, k < 6 → TLP P G183 262144 k := fun k hk => by by_cases e : k = (n4 : Int).toNat; (focus (subst e; exact RPs.at (hpG183.1 P ((hFAG4 (n4 : Int).toNat (by omega)).rps hv175 rfl)) (by omega))); exact TLP.sm (hTLG4 k hk) hXG183 hfG183 (by show ¬ _; omega) (hpG183.2 k e)
            have hFIG183 : ∀ k : Nat, k < 6 → FIP P G183 262144 k := fun k hk => FIP.sm (hFIG4 k hk) hXG183 hfG183 (by show ¬ _; omega) (congrFun (hfG183 262149 (KX.al (KX.trans hXG2 hXG4) (kne k262149 (by decide))) (by show ¬ _; omega)) k)
            have hFAG183 : FPa P G183 A := (hFAG4).wx hXG183 hfG183 ⟨KX.al (KX.trans hXG2 hXG4) (kne kA3 (by decide)), KX.al (KX.trans hXG2 hXG4) (kne kA4 (by decide))⟩ (by show ¬ _; omega) (by show ¬ _; omega) (fun p hp => by show ¬ _; omega)
            have hFBG183 : FPa P G183 B := (hFBG4).wx hXG183 hfG183 ⟨KX.al (KX.trans hXG2 hXG4) (kne kB3 (by decide)), KX.al (KX.trans hXG2 hXG4) (kne kB4 (by decide))⟩ (by show ¬ _; omega) (by show ¬ _; omega) (fun p hp => by show ¬ _; omega)
            have hFfG183 : FPa P G183 f := (hFfG4).wx hXG183 hfG183 ⟨KX.al (KX.trans hXG2 hXG4) (kne kf3 (by decide)), KX.al (KX.trans hXG2 hXG4) (kne kf4 (by decide))⟩ (by show ¬ _; omega) (by show ¬ _; omega) (fun p hp => by show ¬ _; omega)
            show WP kX2_link X 72 [some (2, ((327682 : Nat) : Int)), some (2, ((A : Nat) : Int)), some (2, ((B : Nat) : Int)), some (0, s), some (2, ((f : Nat) : Int)), some (0, n4), some (2, ((A : Nat) : Int)), none] [] G183
            refine s_iinc dX2_link_72 (v := n4) rfl (by omega) (by decide) (lv' := [some (2, ((327682 : Nat) : Int)), some (2, ((A : Nat) : Int)), some (2, ((B : Nat) : Int)), some (0, s), some (2, ((f : Nat) : Int)), some (0, n4 + 1), some (2, ((A : Nat) : Int)), none]) rfl ?_
            refine s_goto (tgt := 10) dX2_link_75 (by decide) ?_
            refine s_mask [true, true, true, true, true, true, false, false] (lv' := [some (2, ((327682 : Nat) : Int)), some (2, ((A : Nat) : Int)), some (2, ((B : Nat) : Int)), some (0, s), some (2, ((f : Nat) : Int)), some (0, n4 + 1), none, none]) rfl ?_
            exact ih4 (n4 + 1) G183 hCG183 (KX.trans hXG4 hXG183) hFG183 (⟨(by omega), (by exact hTLG183), (by exact hFIG183), (by exact hFAG183), (by exact hFBG183), (by exact hFfG183)⟩) (by omega)
  exact L4 _ 0 G2 hCG2 KX.rf hFG2 (⟨(by omega), (by exact hTLG2), (by exact hFIG2), (by exact hFAG2), (by exact hFBG2), (by exact hFfG2)⟩) (Nat.lt_succ_self _)
