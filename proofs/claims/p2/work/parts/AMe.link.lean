abbrev kX2_link : KD := (RX2, cX2_link, 8, (some .int), [])
def TX2_link : TR := fun as G Qr => ∃ (P : Int → Prop) (A B : Nat) (s : Int) (f : Nat) (a b : Nat), as = [(2, ((327682 : Nat) : Int)), (2, ((A : Nat) : Int)), (2, ((B : Nat) : Int)), (0, s), (2, ((f : Nat) : Int))] ∧ CI a b G ∧ (a ≤ 2840000 ∧ b ≤ 590000) ∧ (isFc A) ∧ (isFc B) ∧ (isFc f) ∧ (A ≠ f ∧ B ≠ f) ∧ (FPa P G A) ∧ (FPa P G B) ∧ (FPa P G f) ∧ ∀ (r : Int) (G' : LG), CI a b G' → KX G G' → WX (fun x => (262144 ≤ x ∧ x < 262272) ∨ x = 327691 ∨ x = 327692 ∨ (f + 1 ≤ x ∧ x ≤ f + 22)) G G' → (FPa P G' f) → Qr (.inl (some (0, r))) G'
set_option maxHeartbeats 4000000 in
set_option maxRecDepth 100000 in
theorem gX2_link : Good kX2_link yX2_link 4 TX2_link := by
  refine good_of (by decide) rfl rfl (fun as G Qr h => ?_) (fun X as G Qr hcf hR hT oa => ?_)
  · obtain ⟨P, A, B, s, f, a, b, rfl, -⟩ := h; exact Nat.le_of_ble_eq_true rfl
  obtain ⟨P, A, B, s, f, a, b, rfl, hC, hab, hA, hB, hf, hne, hFA, hFB, hFf, hQ⟩ := hT
  show WP kX2_link X 0 [some (2, ((327682 : Nat) : Int)), some (2, ((A : Nat) : Int)), some (2, ((B : Nat) : Int)), some (0, s), some (2, ((f : Nat) : Int)), none, none, none] [] G
  have hr_s : inR s := okv_R (oa _ (by simp))
  have rg0 : RM (fun x => x = 262144 + 2 ∨ x = 262144 + 5) (fun x => (262144 ≤ x ∧ x < 262272) ∨ x = 327691 ∨ x = 327692 ∨ (f + 1 ≤ x ∧ x ≤ f + 22)) := fun x hx => by (try dsimp only at hx ⊢); omega
  have rg1 : RNf (fun x => x = 262144 + 2 ∨ x = 262144 + 5) A := ⟨by show ¬ _; omega, by show ¬ _; omega, fun p hp => by show ¬ _; omega⟩
  have rg2 : RNf (fun x => x = 262144 + 2 ∨ x = 262144 + 5) B := ⟨by show ¬ _; omega, by show ¬ _; omega, fun p hp => by show ¬ _; omega⟩
  have rg3 : RNf (fun x => x = 262144 + 2 ∨ x = 262144 + 5) f := ⟨by show ¬ _; omega, by show ¬ _; omega, fun p hp => by show ¬ _; omega⟩
  have rg4 : RM (fun x => x = 262144 + 3 ∨ x = 262144 + 5 ∨ (262144 + 16 ≤ x ∧ x < 262144 + 22)) (fun x => (262144 ≤ x ∧ x < 262272) ∨ x = 327691 ∨ x = 327692 ∨ (f + 1 ≤ x ∧ x ≤ f + 22)) := fun x hx => by (try dsimp only at hx ⊢); omega
  have rg5 : RNf (fun x => x = 262144 + 3 ∨ x = 262144 + 5 ∨ (262144 + 16 ≤ x ∧ x < 262144 + 22)) A := ⟨by show ¬ _; omega, by show ¬ _; omega, fun p hp => by show ¬ _; omega⟩
  have rg6 : RNf (fun x => x = 262144 + 3 ∨ x = 262144 + 5 ∨ (262144 + 16 ≤ x ∧ x < 262144 + 22)) B := ⟨by show ¬ _; omega, by show ¬ _; omega, fun p hp => by show ¬ _; omega⟩
  have rg7 : RNf (fun x => x = 262144 + 3 ∨ x = 262144 + 5 ∨ (262144 + 16 ≤ x ∧ x < 262144 + 22)) f := ⟨by show ¬ _; omega, by show ¬ _; omega, fun p hp => by show ¬ _; omega⟩
  have rg8 : RM (fun x => x = 327691 ∨ (f + 1 ≤ x ∧ x ≤ f + 22)) (fun x => (262144 ≤ x ∧ x < 262272) ∨ x = 327691 ∨ x = 327692 ∨ (f + 1 ≤ x ∧ x ≤ f + 22)) := fun x hx => by (try dsimp only at hx ⊢); omega
  have rg9 : RNk (fun x => x = 327691 ∨ (f + 1 ≤ x ∧ x ≤ f + 22)) (262144 + 16) 6 := fun k hk => by show ¬ _; omega
  have rg10 : RNx (fun x => x = 327691 ∨ (f + 1 ≤ x ∧ x ≤ f + 22)) ((262144 + 5) % 1048576) := by show ¬ _; omega
  have rg11 : RNf (fun x => x = 327691 ∨ (f + 1 ≤ x ∧ x ≤ f + 22)) A := ⟨by show ¬ _; omega, by show ¬ _; omega, fun p hp => by show ¬ _; omega⟩
  have rg12 : RNf (fun x => x = 327691 ∨ (f + 1 ≤ x ∧ x ≤ f + 22)) B := ⟨by show ¬ _; omega, by show ¬ _; omega, fun p hp => by show ¬ _; omega⟩
  have rg13 : RM (fun x => x = 327691 ∨ x = 327692 ∨ (f + 1 ≤ x ∧ x ≤ f + 22)) (fun x => (262144 ≤ x ∧ x < 262272) ∨ x = 327691 ∨ x = 327692 ∨ (f + 1 ≤ x ∧ x ≤ f + 22)) := fun x hx => by (try dsimp only at hx ⊢); omega
  have rg14 : RNk (fun x => x = 327691 ∨ x = 327692 ∨ (f + 1 ≤ x ∧ x ≤ f + 22)) (262144 + 16) 6 := fun k hk => by show ¬ _; omega
  have rg15 : RNx (fun x => x = 327691 ∨ x = 327692 ∨ (f + 1 ≤ x ∧ x ≤ f + 22)) ((262144 + 5) % 1048576) := by show ¬ _; omega
  have rg16 : RNf (fun x => x = 327691 ∨ x = 327692 ∨ (f + 1 ≤ x ∧ x ≤ f + 22)) A := ⟨by show ¬ _; omega, by show ¬ _; omega, fun p hp => by show ¬ _; omega⟩
  have rg17 : RNf (fun x => x = 327691 ∨ x = 327692 ∨ (f + 1 ≤ x ∧ x ≤ f + 22)) B := ⟨by show ¬ _; omega, by show ¬ _; omega, fun p hp => by show ¬ _; omega⟩
  refine s_alvl 327682 (k := 0) rfl (fun alZ => ?_)
  refine s_alvl A (k := 1) rfl (fun alA => ?_)
  refine s_alvl B (k := 2) rfl (fun alB => ?_)
  refine s_alvl f (k := 4) rfl (fun alf => ?_)
  refine s_lk (fun hlk => ?_)
  have hfn := hlk.fna hC alZ
  obtain ⟨k327682, k327681, k327683, k262144, k262208, k327684, k68097, k327691, k327692, k262145, k262146, k262148, k262149, k262209, k262210, k262212, k262213, k327710, k327685, k327688⟩ := id hfn
  have hfA := hlk.fc hC hA alA
  obtain ⟨kA0, kA1, kA2, kA3, kA4, kA5, kA6⟩ := hfA.1
  have hfB := hlk.fc hC hB alB
  obtain ⟨kB0, kB1, kB2, kB3, kB4, kB5, kB6⟩ := hfB.1
  have hff := hlk.fc hC hf alf
  obtain ⟨kf0, kf1, kf2, kf3, kf4, kf5, kf6⟩ := hff.1
  refine s_aload_n dX2_link_0 rfl (Int.natCast_nonneg _) ?_
  have hv1 : gS G 327682 2 = ((262144 : Nat) : Int) := by have h9 : (gS G 327682 2) = 262144 := hC.1.v (j := 2) (by decide : cde 327682 = 502) (kne k327682 (by decide)) (by rw [k327682]; exact Nat.le_of_ble_eq_true rfl); omega
  refine s_getf (ci := 3) (k := 2) (C := RX2) (T := TX2) (N := 8) (n := 327682) (L := 0) (t := 2) dX2_link_1 rfl wi_70 m_577 (Nat.le_of_ble_eq_true rfl) rfl rfl k327682 hv1 ?_
  refine s_callV (as := []) (rest := []) (n := 262144) (ci := 2) gX1_clear dX2_link_4 m_1309 m_911 m_1487 m_712 m_252 ⟨by decide, by decide, show (parseMethodDescriptor yX1_clear.desc).map (fun d => d.parameters.length) = some 0 from by decide +kernel⟩ (Nat.le_of_ble_eq_true rfl) (by rw [hcf]; exact Nat.le_of_ble_eq_true rfl) k262144 rfl rfl (Nat.le_of_ble_eq_true rfl) ⟨262144, a, b, rfl, hC, hab, (by first | assumption | omega), fun G2 hCG2 hXG2 hfG2 hpG2 => ?_⟩
  have hFG2 : WX (fun x => (262144 ≤ x ∧ x < 262272) ∨ x = 327691 ∨ x = 327692 ∨ (f + 1 ≤ x ∧ x ≤ f + 22)) G G2 := WX.trans WX.rf KX.rf (WX.mono hfG2 rg0)
  have hTLG2 : ∀ k : Nat, k < 6 → TLP P G2 262144 k := fun k hk => TLP.zero (hpG2 k hk).1
  have hFIG2 : ∀ k : Nat, k < 6 → FIP P G2 262144 k := fun k hk => FIP.zero (hpG2 k hk).2
  have hFAG2 : FPa P G2 A := (hFA).ns hXG2 hfG2 ⟨KX.al KX.rf (kne kA3 (by decide)), KX.al KX.rf (kne kA4 (by decide))⟩ rg1
  have hFBG2 : FPa P G2 B := (hFB).ns hXG2 hfG2 ⟨KX.al KX.rf (kne kB3 (by decide)), KX.al KX.rf (kne kB4 (by decide))⟩ rg2
  have hFfG2 : FPa P G2 f := (hFf).ns hXG2 hfG2 ⟨KX.al KX.rf (kne kf3 (by decide)), KX.al KX.rf (kne kf4 (by decide))⟩ rg3
  show WP kX2_link X 7 [some (2, ((327682 : Nat) : Int)), some (2, ((A : Nat) : Int)), some (2, ((B : Nat) : Int)), some (0, s), some (2, ((f : Nat) : Int)), none, none, none] [] G2
  refine s_iconst dX2_link_7 (by decide) ?_
  refine s_istore dX2_link_8 (by decide) (lv' := [some (2, ((327682 : Nat) : Int)), some (2, ((A : Nat) : Int)), some (2, ((B : Nat) : Int)), some (0, s), some (2, ((f : Nat) : Int)), some (0, 0), none, none]) rfl ?_
  have L4 : ∀ (fu4 : Nat) (n4 : Int) (G4 : LG), CI a b G4 → KX G2 G4 → WX (fun x => (262144 ≤ x ∧ x < 262272) ∨ x = 327691 ∨ x = 327692 ∨ (f + 1 ≤ x ∧ x ≤ f + 22)) G G4 → ((0 ≤ n4 ∧ n4 ≤ 6) ∧ (∀ k : Nat, k < 6 → TLP P G4 262144 k) ∧ (∀ k : Nat, k < 6 → FIP P G4 262144 k) ∧ (FPa P G4 A) ∧ (FPa P G4 B) ∧ (FPa P G4 f)) → (6 - n4).toNat < fu4 → WP kX2_link X 10 [some (2, ((327682 : Nat) : Int)), some (2, ((A : Nat) : Int)), some (2, ((B : Nat) : Int)), some (0, s), some (2, ((f : Nat) : Int)), some (0, n4), none, none] [] G4 := by
    intro fu4
    induction fu4 with
    | zero => intro n4 G4 hCG4 hXG4 hFG4 hi4 hm4; exact absurd hm4 (Nat.not_lt_zero _)
    | succ fu4 ih4 =>
      intro n4 G4 hCG4 hXG4 hFG4 hi4 hm4
      obtain ⟨in_4, hTLG4, hFIG4, hFAG4, hFBG4, hFfG4⟩ := hi4
      refine s_iload dX2_link_10 rfl ?_
      refine s_bipush dX2_link_12 rfl (by decide) ?_
      refine s_icmp_ge (tgt := 78) dX2_link_14 (by decide) (fun c5 => ?_) (fun c5 => ?_)
      · -- 14 to 78
        refine s_aload_n dX2_link_78 rfl (Int.natCast_nonneg _) ?_
        have hk6 : gK G4 (327682) = (11, 0) := ((hXG4).k ((hXG2).k k327682 (by decide)) (by decide))
        refine s_alv (327682) (by simp) (fun al7 => ?_)
        have hv8 : gS G4 327682 2 = ((262144 : Nat) : Int) := by have h9 : (gS G4 327682 2) = 262144 := hCG4.1.v (j := 2) (by decide : cde 327682 = 502) al7 (by rw [hk6]; exact Nat.le_of_ble_eq_true rfl); omega
        refine s_getf (ci := 3) (k := 2) (C := RX2) (T := TX2) (N := 8) (n := 327682) (L := 0) (t := 2) dX2_link_79 rfl wi_70 m_577 (Nat.le_of_ble_eq_true rfl) rfl rfl hk6 hv8 ?_
        have hk11 : gK G4 (262144) = (10, 0) := ((hXG4).k ((hXG2).k k262144 (by decide)) (by decide))
        refine s_callV (as := []) (rest := []) (n := 262144) (ci := 2) gX1_makeFull dX2_link_82 m_1311 m_917 m_1492 m_712 m_259 ⟨by decide, by decide, show (parseMethodDescriptor yX1_makeFull.desc).map (fun d => d.parameters.length) = some 0 from by decide +kernel⟩ (Nat.le_of_ble_eq_true rfl) (by rw [hcf]; exact Nat.le_of_ble_eq_true rfl) hk11 rfl rfl (Nat.le_of_ble_eq_true rfl) ⟨262144, a, b, rfl, hCG4, hab, (by first | assumption | omega), fun rr10 G9 hCG9 hXG9 hfG9 hpG9 => ?_⟩
        have hFG9 : WX (fun x => (262144 ≤ x ∧ x < 262272) ∨ x = 327691 ∨ x = 327692 ∨ (f + 1 ≤ x ∧ x ≤ f + 22)) G G9 := WX.trans hFG4 (KX.trans hXG2 hXG4) (WX.mono hfG9 rg4)
        have hFIG9 : ∀ k : Nat, k < 6 → FIP P G9 262144 k := hpG9.2 P hTLG4 hFIG4
        have hFAG9 : FPa P G9 A := (hFAG4).ns hXG9 hfG9 ⟨KX.al (KX.trans hXG2 hXG4) (kne kA3 (by decide)), KX.al (KX.trans hXG2 hXG4) (kne kA4 (by decide))⟩ rg5
        have hFBG9 : FPa P G9 B := (hFBG4).ns hXG9 hfG9 ⟨KX.al (KX.trans hXG2 hXG4) (kne kB3 (by decide)), KX.al (KX.trans hXG2 hXG4) (kne kB4 (by decide))⟩ rg6
        have hFfG9 : FPa P G9 f := (hFfG4).ns hXG9 hfG9 ⟨KX.al (KX.trans hXG2 hXG4) (kne kf3 (by decide)), KX.al (KX.trans hXG2 hXG4) (kne kf4 (by decide))⟩ rg7
        show WP kX2_link X 85 [some (2, ((327682 : Nat) : Int)), some (2, ((A : Nat) : Int)), some (2, ((B : Nat) : Int)), some (0, s), some (2, ((f : Nat) : Int)), some (0, n4), none, none] [(0, rr10)] G9
        refine s_istore dX2_link_85 (by decide) (lv' := [some (2, ((327682 : Nat) : Int)), some (2, ((A : Nat) : Int)), some (2, ((B : Nat) : Int)), some (0, s), some (2, ((f : Nat) : Int)), some (0, rr10), none, none]) rfl ?_
        refine s_iconst dX2_link_87 (by decide) ?_
        refine s_istore dX2_link_88 (by decide) (lv' := [some (2, ((327682 : Nat) : Int)), some (2, ((A : Nat) : Int)), some (2, ((B : Nat) : Int)), some (0, s), some (2, ((f : Nat) : Int)), some (0, rr10), some (0, 0), none]) rfl ?_
        have L12 : ∀ (n12 : Nat) (m12 : Int) (e12 : Int) (G12 : LG), CI a b G12 → KX G9 G12 → WX (fun x => (262144 ≤ x ∧ x < 262272) ∨ x = 327691 ∨ x = 327692 ∨ (f + 1 ≤ x ∧ x ≤ f + 22)) G G12 → ((0 ≤ e12 ∧ e12 ≤ 6) ∧ (∀ (_ : Unit), m12 = 0 → ∀ k : Nat, k < 6 → gS G12 262149 k ≤ 200) ∧ (∀ k : Nat, k < 6 → FIP P G12 262144 k) ∧ (FPa P G12 A) ∧ (FPa P G12 B) ∧ (FPa P G12 f)) → (6 - e12).toNat < n12 → WP kX2_link X 90 [some (2, ((327682 : Nat) : Int)), some (2, ((A : Nat) : Int)), some (2, ((B : Nat) : Int)), some (0, s), some (2, ((f : Nat) : Int)), some (0, m12), some (0, e12), none] [] G12 := by
          intro n12
          induction n12 with
          | zero => intro m12 e12 G12 hCG12 hXG12 hFG12 hi12 hm12; exact absurd hm12 (Nat.not_lt_zero _)
          | succ n12 ih12 =>
            intro m12 e12 G12 hCG12 hXG12 hFG12 hi12 hm12
            obtain ⟨ie12, iz12, hFIG12, hFAG12, hFBG12, hFfG12⟩ := hi12
            refine s_iload dX2_link_90 rfl ?_
            have K13 : (True) → WP kX2_link X 120 [some (2, ((327682 : Nat) : Int)), some (2, ((A : Nat) : Int)), some (2, ((B : Nat) : Int)), some (0, s), some (2, ((f : Nat) : Int)), some (0, m12), some (0, e12), none] [] G12 := by
              intro hi13
              refine s_iconst dX2_link_120 (by decide) ?_
              refine s_istore dX2_link_121 (by decide) (lv' := [some (2, ((327682 : Nat) : Int)), some (2, ((A : Nat) : Int)), some (2, ((B : Nat) : Int)), some (0, s), some (2, ((f : Nat) : Int)), some (0, m12), some (0, 0), none]) rfl ?_
              have L14 : ∀ (n14 : Nat) (m14 : Int) (e14 : Int) (G14 : LG), CI a b G14 → KX G12 G14 → WX (fun x => (262144 ≤ x ∧ x < 262272) ∨ x = 327691 ∨ x = 327692 ∨ (f + 1 ≤ x ∧ x ≤ f + 22)) G G14 → ((0 ≤ e14 ∧ e14 ≤ 10) ∧ (∀ k : Nat, k < 6 → FIP P G14 262144 k) ∧ (FPa P G14 A) ∧ (FPa P G14 B) ∧ (FPa P G14 f)) → (10 - e14).toNat < n14 → WP kX2_link X 123 [some (2, ((327682 : Nat) : Int)), some (2, ((A : Nat) : Int)), some (2, ((B : Nat) : Int)), some (0, s), some (2, ((f : Nat) : Int)), some (0, m14), some (0, e14), none] [] G14 := by
                intro n14
                induction n14 with
                | zero => intro m14 e14 G14 hCG14 hXG14 hFG14 hi14 hm14; exact absurd hm14 (Nat.not_lt_zero _)
                | succ n14 ih14 =>
                  intro m14 e14 G14 hCG14 hXG14 hFG14 hi14 hm14
                  obtain ⟨ie14, hFIG14, hFAG14, hFBG14, hFfG14⟩ := hi14
                  refine s_iload dX2_link_123 rfl ?_
                  refine s_bipush dX2_link_125 rfl (by decide) ?_
                  refine s_icmp_ge (tgt := 226) dX2_link_127 (by decide) (fun c15 => ?_) (fun c15 => ?_)
                  · -- 127 to 226
                    refine s_iload dX2_link_226 rfl ?_
                    exact s_iret hR dX2_link_228 rfl (hQ m14 G14 hCG14 (KX.trans (KX.trans (KX.trans (KX.trans hXG2 hXG4) hXG9) hXG12) hXG14) hFG14 hFfG14)
                  · -- 127 to 130
                    refine s_iload dX2_link_130 rfl ?_
                    refine s_if_ne (tgt := 226) dX2_link_132 (by decide) (fun c16 => ?_) (fun c16 => ?_)
                    · -- 132 to 226
                      refine s_iload dX2_link_226 rfl ?_
                      exact s_iret hR dX2_link_228 rfl (hQ m14 G14 hCG14 (KX.trans (KX.trans (KX.trans (KX.trans hXG2 hXG4) hXG9) hXG12) hXG14) hFG14 hFfG14)
                    · -- 132 to 135
                      refine s_iload_n dX2_link_135 rfl ?_
                      refine s_iload dX2_link_136 rfl ?_
                      refine s_callSN (own := RX2) rfl (by decide +kernel) (as := [(0, s), (0, e14)]) (rest := []) gX11_isIn dX2_link_138 m_1777 m_714 m_97 ⟨by decide, by decide, show (parseMethodDescriptor yX11_isIn.desc).map (fun d => d.parameters.length) = some 2 from by decide +kernel⟩ (Nat.le_of_ble_eq_true rfl) (by rw [hcf]; exact Nat.le_of_ble_eq_true rfl) rfl (Nat.le_of_ble_eq_true rfl) ⟨s, e14, rfl, fun rr17 hp18 => ?_⟩
                      show WP kX2_link X 141 [some (2, ((327682 : Nat) : Int)), some (2, ((A : Nat) : Int)), some (2, ((B : Nat) : Int)), some (0, s), some (2, ((f : Nat) : Int)), some (0, m14), some (0, e14), none] [(0, rr17)] G14
                      have J24 : ∀ z23 : Int, ((rr17 = 0) ∧ z23 = 0) ∨ ((¬ rr17 = 0) ∧ z23 = gS G14 (B + 2) ((e14 : Int).toNat)) → WP kX2_link X 155 [some (2, ((327682 : Nat) : Int)), some (2, ((A : Nat) : Int)), some (2, ((B : Nat) : Int)), some (0, s), some (2, ((f : Nat) : Int)), some (0, m14), some (0, e14), none] [(0, z23)] G14 := by
                        intro z23 hz23
                        refine s_istore dX2_link_155 (by decide) (lv' := [some (2, ((327682 : Nat) : Int)), some (2, ((A : Nat) : Int)), some (2, ((B : Nat) : Int)), some (0, s), some (2, ((f : Nat) : Int)), some (0, m14), some (0, e14), some (0, z23)]) rfl ?_
                        refine s_aload_n dX2_link_157 rfl (Int.natCast_nonneg _) ?_
                        refine s_iload dX2_link_158 rfl ?_
                        have hk27 : gK G14 (A) = (9, 0) := ((hXG14).k ((hXG12).k ((hXG9).k ((hXG4).k ((hXG2).k kA0 (by decide)) (by decide)) (by decide)) (by decide)) (by decide))
                        refine s_callV (as := [(0, e14)]) (rest := []) (n := A) (ci := 1) gX0_hasValue dX2_link_160 m_1313 m_739 m_1473 m_711 m_66 ⟨by decide, by decide, show (parseMethodDescriptor yX0_hasValue.desc).map (fun d => d.parameters.length) = some 1 from by decide +kernel⟩ (Nat.le_of_ble_eq_true rfl) (by rw [hcf]; exact Nat.le_of_ble_eq_true rfl) hk27 rfl rfl (Nat.le_of_ble_eq_true rfl) ⟨A, e14, a, b, rfl, hCG14, hab, (by first | assumption | omega), (by first | assumption | omega), fun rr25 hp26 => ?_⟩
                        show WP kX2_link X 163 [some (2, ((327682 : Nat) : Int)), some (2, ((A : Nat) : Int)), some (2, ((B : Nat) : Int)), some (0, s), some (2, ((f : Nat) : Int)), some (0, m14), some (0, e14), some (0, z23)] [(0, rr25)] G14
                        have K28 : (True) → WP kX2_link X 200 [some (2, ((327682 : Nat) : Int)), some (2, ((A : Nat) : Int)), some (2, ((B : Nat) : Int)), some (0, s), some (2, ((f : Nat) : Int)), some (0, m14), some (0, e14), some (0, z23)] [] G14 := by
                          intro hi28
                          refine s_aload_n dX2_link_200 rfl (Int.natCast_nonneg _) ?_
                          refine s_iload dX2_link_201 rfl ?_
                          refine s_iload dX2_link_203 rfl ?_
                          refine s_if_ne (tgt := 212) dX2_link_205 (by decide) (fun c29 => ?_) (fun c29 => ?_)
                          · -- 205 to 212
                            refine s_aload_n dX2_link_212 rfl (Int.natCast_nonneg _) ?_
                            refine s_aload dX2_link_213 rfl (Int.natCast_nonneg _) ?_
                            have hk32 : gK G14 (327682) = (11, 0) := ((hXG14).k ((hXG12).k ((hXG9).k hk6 (by decide)) (by decide)) (by decide))
                            refine s_callV (as := [(0, e14), (2, ((B : Nat) : Int)), (2, ((f : Nat) : Int))]) (rest := []) (n := 327682) (ci := 3) gX2_linkOne dX2_link_215 m_1315 m_930 m_1658 m_716 m_277 ⟨by decide, by decide, show (parseMethodDescriptor yX2_linkOne.desc).map (fun d => d.parameters.length) = some 3 from by decide +kernel⟩ (Nat.le_of_ble_eq_true rfl) (by rw [hcf]; exact Nat.le_of_ble_eq_true rfl) hk32 rfl rfl (Nat.le_of_ble_eq_true rfl) ⟨P, e14, B, f, a, b, rfl, hCG14, hab, (by omega), (by assumption), (by assumption), (by omega), (by exact hFIG14), (by exact hFBG14), (by exact hFfG14), fun rr31 G30 hCG30 hXG30 hfG30 hpG30 => ?_⟩
                            have hFG30 : WX (fun x => (262144 ≤ x ∧ x < 262272) ∨ x = 327691 ∨ x = 327692 ∨ (f + 1 ≤ x ∧ x ≤ f + 22)) G G30 := WX.trans hFG14 (KX.trans (KX.trans (KX.trans (KX.trans hXG2 hXG4) hXG9) hXG12) hXG14) (WX.mono hfG30 rg8)
                            have hFIG30 : ∀ k : Nat, k < 6 → FIP P G30 262144 k := fun k hk => FIP.ns (hFIG14 k hk) hXG30 hfG30 hk (KX.al (KX.trans (KX.trans (KX.trans (KX.trans hXG2 hXG4) hXG9) hXG12) hXG14) (kne k262149 (by decide))) rg9 rg10
                            have hFAG30 : FPa P G30 A := (hFAG14).ns hXG30 hfG30 ⟨KX.al (KX.trans (KX.trans (KX.trans (KX.trans hXG2 hXG4) hXG9) hXG12) hXG14) (kne kA3 (by decide)), KX.al (KX.trans (KX.trans (KX.trans (KX.trans hXG2 hXG4) hXG9) hXG12) hXG14) (kne kA4 (by decide))⟩ rg11
                            have hFBG30 : FPa P G30 B := (hFBG14).ns hXG30 hfG30 ⟨KX.al (KX.trans (KX.trans (KX.trans (KX.trans hXG2 hXG4) hXG9) hXG12) hXG14) (kne kB3 (by decide)), KX.al (KX.trans (KX.trans (KX.trans (KX.trans hXG2 hXG4) hXG9) hXG12) hXG14) (kne kB4 (by decide))⟩ rg12
                            have hFfG30 : FPa P G30 f := hpG30
                            show WP kX2_link X 218 [some (2, ((327682 : Nat) : Int)), some (2, ((A : Nat) : Int)), some (2, ((B : Nat) : Int)), some (0, s), some (2, ((f : Nat) : Int)), some (0, m14), some (0, e14), some (0, z23)] [(0, rr31)] G30
                            refine s_istore dX2_link_218 (by decide) (lv' := [some (2, ((327682 : Nat) : Int)), some (2, ((A : Nat) : Int)), some (2, ((B : Nat) : Int)), some (0, s), some (2, ((f : Nat) : Int)), some (0, rr31), some (0, e14), some (0, z23)]) rfl ?_
                            refine s_iinc dX2_link_220 (v := e14) rfl (by omega) (by decide) (lv' := [some (2, ((327682 : Nat) : Int)), some (2, ((A : Nat) : Int)), some (2, ((B : Nat) : Int)), some (0, s), some (2, ((f : Nat) : Int)), some (0, rr31), some (0, e14 + 1), some (0, z23)]) rfl ?_
                            refine s_goto (tgt := 123) dX2_link_223 (by decide) ?_
                            refine s_mask [true, true, true, true, true, true, true, false] (lv' := [some (2, ((327682 : Nat) : Int)), some (2, ((A : Nat) : Int)), some (2, ((B : Nat) : Int)), some (0, s), some (2, ((f : Nat) : Int)), some (0, rr31), some (0, e14 + 1), none]) rfl ?_
                            exact ih14 rr31 (e14 + 1) G30 hCG30 (KX.trans hXG14 hXG30) hFG30 (⟨(by omega), (by exact hFIG30), (by exact hFAG30), (by exact hFBG30), (by exact hFfG30)⟩) (by omega)
                          · -- 205 to 208
                            refine s_aload_n dX2_link_208 rfl (Int.natCast_nonneg _) ?_
                            refine s_goto (tgt := 213) dX2_link_209 (by decide) ?_
                            refine s_aload dX2_link_213 rfl (Int.natCast_nonneg _) ?_
                            have hk35 : gK G14 (327682) = (11, 0) := ((hXG14).k ((hXG12).k ((hXG9).k hk6 (by decide)) (by decide)) (by decide))
                            refine s_callV (as := [(0, e14), (2, ((A : Nat) : Int)), (2, ((f : Nat) : Int))]) (rest := []) (n := 327682) (ci := 3) gX2_linkOne dX2_link_215 m_1315 m_930 m_1658 m_716 m_277 ⟨by decide, by decide, show (parseMethodDescriptor yX2_linkOne.desc).map (fun d => d.parameters.length) = some 3 from by decide +kernel⟩ (Nat.le_of_ble_eq_true rfl) (by rw [hcf]; exact Nat.le_of_ble_eq_true rfl) hk35 rfl rfl (Nat.le_of_ble_eq_true rfl) ⟨P, e14, A, f, a, b, rfl, hCG14, hab, (by omega), (by assumption), (by assumption), (by omega), (by exact hFIG14), (by exact hFAG14), (by exact hFfG14), fun rr34 G33 hCG33 hXG33 hfG33 hpG33 => ?_⟩
                            have hFG33 : WX (fun x => (262144 ≤ x ∧ x < 262272) ∨ x = 327691 ∨ x = 327692 ∨ (f + 1 ≤ x ∧ x ≤ f + 22)) G G33 := WX.trans hFG14 (KX.trans (KX.trans (KX.trans (KX.trans hXG2 hXG4) hXG9) hXG12) hXG14) (WX.mono hfG33 rg8)
                            have hFIG33 : ∀ k : Nat, k < 6 → FIP P G33 262144 k := fun k hk => FIP.ns (hFIG14 k hk) hXG33 hfG33 hk (KX.al (KX.trans (KX.trans (KX.trans (KX.trans hXG2 hXG4) hXG9) hXG12) hXG14) (kne k262149 (by decide))) rg9 rg10
                            have hFAG33 : FPa P G33 A := (hFAG14).ns hXG33 hfG33 ⟨KX.al (KX.trans (KX.trans (KX.trans (KX.trans hXG2 hXG4) hXG9) hXG12) hXG14) (kne kA3 (by decide)), KX.al (KX.trans (KX.trans (KX.trans (KX.trans hXG2 hXG4) hXG9) hXG12) hXG14) (kne kA4 (by decide))⟩ rg11
                            have hFBG33 : FPa P G33 B := (hFBG14).ns hXG33 hfG33 ⟨KX.al (KX.trans (KX.trans (KX.trans (KX.trans hXG2 hXG4) hXG9) hXG12) hXG14) (kne kB3 (by decide)), KX.al (KX.trans (KX.trans (KX.trans (KX.trans hXG2 hXG4) hXG9) hXG12) hXG14) (kne kB4 (by decide))⟩ rg12
                            have hFfG33 : FPa P G33 f := hpG33
                            show WP kX2_link X 218 [some (2, ((327682 : Nat) : Int)), some (2, ((A : Nat) : Int)), some (2, ((B : Nat) : Int)), some (0, s), some (2, ((f : Nat) : Int)), some (0, m14), some (0, e14), some (0, z23)] [(0, rr34)] G33
                            refine s_istore dX2_link_218 (by decide) (lv' := [some (2, ((327682 : Nat) : Int)), some (2, ((A : Nat) : Int)), some (2, ((B : Nat) : Int)), some (0, s), some (2, ((f : Nat) : Int)), some (0, rr34), some (0, e14), some (0, z23)]) rfl ?_
                            refine s_iinc dX2_link_220 (v := e14) rfl (by omega) (by decide) (lv' := [some (2, ((327682 : Nat) : Int)), some (2, ((A : Nat) : Int)), some (2, ((B : Nat) : Int)), some (0, s), some (2, ((f : Nat) : Int)), some (0, rr34), some (0, e14 + 1), some (0, z23)]) rfl ?_
                            refine s_goto (tgt := 123) dX2_link_223 (by decide) ?_
                            refine s_mask [true, true, true, true, true, true, true, false] (lv' := [some (2, ((327682 : Nat) : Int)), some (2, ((A : Nat) : Int)), some (2, ((B : Nat) : Int)), some (0, s), some (2, ((f : Nat) : Int)), some (0, rr34), some (0, e14 + 1), none]) rfl ?_
                            exact ih14 rr34 (e14 + 1) G33 hCG33 (KX.trans hXG14 hXG33) hFG33 (⟨(by omega), (by exact hFIG33), (by exact hFAG33), (by exact hFBG33), (by exact hFfG33)⟩) (by omega)
                        refine s_if_eq (tgt := 186) dX2_link_163 (by decide) (fun c36 => ?_) (fun c36 => ?_)
                        · -- 163 to 186
                          refine s_aload_n dX2_link_186 rfl (Int.natCast_nonneg _) ?_
                          refine s_iload dX2_link_187 rfl ?_
                          refine s_callV (as := [(0, e14)]) (rest := []) (n := A) (ci := 1) gX0_hasValue dX2_link_189 m_1313 m_739 m_1473 m_711 m_66 ⟨by decide, by decide, show (parseMethodDescriptor yX0_hasValue.desc).map (fun d => d.parameters.length) = some 1 from by decide +kernel⟩ (Nat.le_of_ble_eq_true rfl) (by rw [hcf]; exact Nat.le_of_ble_eq_true rfl) hk27 rfl rfl (Nat.le_of_ble_eq_true rfl) ⟨A, e14, a, b, rfl, hCG14, hab, (by first | assumption | omega), (by first | assumption | omega), fun rr37 hp38 => ?_⟩
                          show WP kX2_link X 192 [some (2, ((327682 : Nat) : Int)), some (2, ((A : Nat) : Int)), some (2, ((B : Nat) : Int)), some (0, s), some (2, ((f : Nat) : Int)), some (0, m14), some (0, e14), some (0, z23)] [(0, rr37)] G14
                          refine s_if_ne (tgt := 200) dX2_link_192 (by decide) (fun c39 => ?_) (fun c39 => ?_)
                          · -- 192 to 200
                            exact K28  (trivial)
                          · -- 192 to 195
                            refine s_iload dX2_link_195 rfl ?_
                            refine s_if_eq (tgt := 220) dX2_link_197 (by decide) (fun c40 => ?_) (fun c40 => ?_)
                            · -- 197 to 220
                              refine s_iinc dX2_link_220 (v := e14) rfl (by omega) (by decide) (lv' := [some (2, ((327682 : Nat) : Int)), some (2, ((A : Nat) : Int)), some (2, ((B : Nat) : Int)), some (0, s), some (2, ((f : Nat) : Int)), some (0, m14), some (0, e14 + 1), some (0, z23)]) rfl ?_
                              refine s_goto (tgt := 123) dX2_link_223 (by decide) ?_
                              refine s_mask [true, true, true, true, true, true, true, false] (lv' := [some (2, ((327682 : Nat) : Int)), some (2, ((A : Nat) : Int)), some (2, ((B : Nat) : Int)), some (0, s), some (2, ((f : Nat) : Int)), some (0, m14), some (0, e14 + 1), none]) rfl ?_
                              exact ih14 m14 (e14 + 1) G14 hCG14 hXG14 hFG14 (⟨(by omega), (by exact hFIG14), (by exact hFAG14), (by exact hFBG14), (by exact hFfG14)⟩) (by omega)
                            · -- 197 to 200
                              exact K28  (trivial)
                        · -- 163 to 166
                          refine s_iload dX2_link_166 rfl ?_
                          refine s_if_eq (tgt := 186) dX2_link_168 (by decide) (fun c41 => ?_) (fun c41 => ?_)
                          · -- 168 to 186
                            refine s_aload_n dX2_link_186 rfl (Int.natCast_nonneg _) ?_
                            refine s_iload dX2_link_187 rfl ?_
                            refine s_callV (as := [(0, e14)]) (rest := []) (n := A) (ci := 1) gX0_hasValue dX2_link_189 m_1313 m_739 m_1473 m_711 m_66 ⟨by decide, by decide, show (parseMethodDescriptor yX0_hasValue.desc).map (fun d => d.parameters.length) = some 1 from by decide +kernel⟩ (Nat.le_of_ble_eq_true rfl) (by rw [hcf]; exact Nat.le_of_ble_eq_true rfl) hk27 rfl rfl (Nat.le_of_ble_eq_true rfl) ⟨A, e14, a, b, rfl, hCG14, hab, (by first | assumption | omega), (by first | assumption | omega), fun rr42 hp43 => ?_⟩
                            show WP kX2_link X 192 [some (2, ((327682 : Nat) : Int)), some (2, ((A : Nat) : Int)), some (2, ((B : Nat) : Int)), some (0, s), some (2, ((f : Nat) : Int)), some (0, m14), some (0, e14), some (0, z23)] [(0, rr42)] G14
                            refine s_if_ne (tgt := 200) dX2_link_192 (by decide) (fun c44 => ?_) (fun c44 => ?_)
                            · -- 192 to 200
                              exact K28  (trivial)
                            · -- 192 to 195
                              refine s_iload dX2_link_195 rfl ?_
                              refine s_if_eq (tgt := 220) dX2_link_197 (by decide) (fun c45 => ?_) (fun c45 => ?_)
                              · -- 197 to 220
                                refine s_iinc dX2_link_220 (v := e14) rfl (by omega) (by decide) (lv' := [some (2, ((327682 : Nat) : Int)), some (2, ((A : Nat) : Int)), some (2, ((B : Nat) : Int)), some (0, s), some (2, ((f : Nat) : Int)), some (0, m14), some (0, e14 + 1), some (0, z23)]) rfl ?_
                                refine s_goto (tgt := 123) dX2_link_223 (by decide) ?_
                                refine s_mask [true, true, true, true, true, true, true, false] (lv' := [some (2, ((327682 : Nat) : Int)), some (2, ((A : Nat) : Int)), some (2, ((B : Nat) : Int)), some (0, s), some (2, ((f : Nat) : Int)), some (0, m14), some (0, e14 + 1), none]) rfl ?_
                                exact ih14 m14 (e14 + 1) G14 hCG14 hXG14 hFG14 (⟨(by omega), (by exact hFIG14), (by exact hFAG14), (by exact hFBG14), (by exact hFfG14)⟩) (by omega)
                              · -- 197 to 200
                                exact K28  (trivial)
                          · -- 168 to 171
                            refine s_aload_n dX2_link_171 rfl (Int.natCast_nonneg _) ?_
                            refine s_iload dX2_link_172 rfl ?_
                            refine s_aload_n dX2_link_174 rfl (Int.natCast_nonneg _) ?_
                            refine s_aload_n dX2_link_175 rfl (Int.natCast_nonneg _) ?_
                            refine s_aload dX2_link_176 rfl (Int.natCast_nonneg _) ?_
                            have hk48 : gK G14 (327682) = (11, 0) := ((hXG14).k ((hXG12).k ((hXG9).k hk6 (by decide)) (by decide)) (by decide))
                            refine s_callV (as := [(0, e14), (2, ((A : Nat) : Int)), (2, ((B : Nat) : Int)), (2, ((f : Nat) : Int))]) (rest := []) (n := 327682) (ci := 3) gX2_linkBoth dX2_link_178 m_1314 m_929 m_1657 m_716 m_276 ⟨by decide, by decide, show (parseMethodDescriptor yX2_linkBoth.desc).map (fun d => d.parameters.length) = some 4 from by decide +kernel⟩ (Nat.le_of_ble_eq_true rfl) (by rw [hcf]; exact Nat.le_of_ble_eq_true rfl) hk48 rfl rfl (Nat.le_of_ble_eq_true rfl) ⟨P, e14, A, B, f, a, b, rfl, hCG14, hab, (by omega), (by assumption), (by assumption), (by assumption), (by omega), (by exact hFIG14), (by exact hFAG14), (by exact hFBG14), (by exact hFfG14), fun rr47 G46 hCG46 hXG46 hfG46 hpG46 => ?_⟩
                            have hFG46 : WX (fun x => (262144 ≤ x ∧ x < 262272) ∨ x = 327691 ∨ x = 327692 ∨ (f + 1 ≤ x ∧ x ≤ f + 22)) G G46 := WX.trans hFG14 (KX.trans (KX.trans (KX.trans (KX.trans hXG2 hXG4) hXG9) hXG12) hXG14) (WX.mono hfG46 rg13)
                            have hFIG46 : ∀ k : Nat, k < 6 → FIP P G46 262144 k := fun k hk => FIP.ns (hFIG14 k hk) hXG46 hfG46 hk (KX.al (KX.trans (KX.trans (KX.trans (KX.trans hXG2 hXG4) hXG9) hXG12) hXG14) (kne k262149 (by decide))) rg14 rg15
                            have hFAG46 : FPa P G46 A := (hFAG14).ns hXG46 hfG46 ⟨KX.al (KX.trans (KX.trans (KX.trans (KX.trans hXG2 hXG4) hXG9) hXG12) hXG14) (kne kA3 (by decide)), KX.al (KX.trans (KX.trans (KX.trans (KX.trans hXG2 hXG4) hXG9) hXG12) hXG14) (kne kA4 (by decide))⟩ rg16
                            have hFBG46 : FPa P G46 B := (hFBG14).ns hXG46 hfG46 ⟨KX.al (KX.trans (KX.trans (KX.trans (KX.trans hXG2 hXG4) hXG9) hXG12) hXG14) (kne kB3 (by decide)), KX.al (KX.trans (KX.trans (KX.trans (KX.trans hXG2 hXG4) hXG9) hXG12) hXG14) (kne kB4 (by decide))⟩ rg17
                            have hFfG46 : FPa P G46 f := hpG46
                            show WP kX2_link X 181 [some (2, ((327682 : Nat) : Int)), some (2, ((A : Nat) : Int)), some (2, ((B : Nat) : Int)), some (0, s), some (2, ((f : Nat) : Int)), some (0, m14), some (0, e14), some (0, z23)] [(0, rr47)] G46
                            refine s_istore dX2_link_181 (by decide) (lv' := [some (2, ((327682 : Nat) : Int)), some (2, ((A : Nat) : Int)), some (2, ((B : Nat) : Int)), some (0, s), some (2, ((f : Nat) : Int)), some (0, rr47), some (0, e14), some (0, z23)]) rfl ?_
                            refine s_goto (tgt := 220) dX2_link_183 (by decide) ?_
                            refine s_iinc dX2_link_220 (v := e14) rfl (by omega) (by decide) (lv' := [some (2, ((327682 : Nat) : Int)), some (2, ((A : Nat) : Int)), some (2, ((B : Nat) : Int)), some (0, s), some (2, ((f : Nat) : Int)), some (0, rr47), some (0, e14 + 1), some (0, z23)]) rfl ?_
                            refine s_goto (tgt := 123) dX2_link_223 (by decide) ?_
                            refine s_mask [true, true, true, true, true, true, true, false] (lv' := [some (2, ((327682 : Nat) : Int)), some (2, ((A : Nat) : Int)), some (2, ((B : Nat) : Int)), some (0, s), some (2, ((f : Nat) : Int)), some (0, rr47), some (0, e14 + 1), none]) rfl ?_
                            exact ih14 rr47 (e14 + 1) G46 hCG46 (KX.trans hXG14 hXG46) hFG46 (⟨(by omega), (by exact hFIG46), (by exact hFAG46), (by exact hFBG46), (by exact hFfG46)⟩) (by omega)
                      refine s_if_eq (tgt := 154) dX2_link_141 (by decide) (fun c49 => ?_) (fun c49 => ?_)
                      · -- 141 to 154
                        refine s_iconst dX2_link_154 (by decide) ?_
                        exact J24 0 (Or.inl ⟨c49, rfl⟩)
                      · -- 141 to 144
                        refine s_aload_n dX2_link_144 rfl (Int.natCast_nonneg _) ?_
                        have hk50 : gK G14 (B) = (9, 0) := ((hXG14).k ((hXG12).k ((hXG9).k ((hXG4).k ((hXG2).k kB0 (by decide)) (by decide)) (by decide)) (by decide)) (by decide))
                        refine s_alv (B) (by simp) (fun al51 => ?_)
                        have hv52 : gS G14 B 2 = ((B + 2 : Nat) : Int) := by have h9 : (gS G14 B 2) = (((B % 1048576) + 2 : Nat) : Int) := hCG14.1.v (j := 2) (by rw [cde_n (by omega) (by omega)]; omega : cde B = 101) al51 (by rw [hk50]; exact Nat.le_of_ble_eq_true rfl); omega
                        refine s_getf (ci := 1) (k := 2) (C := RX0) (T := TX0) (N := 7) (n := B) (L := 0) (t := 2) dX2_link_145 rfl wi_65 m_576 (Nat.le_of_ble_eq_true rfl) rfl rfl hk50 hv52 ?_
                        refine s_iload dX2_link_148 rfl ?_
                        have hk53 : gK G14 (B + 2) = (1, 10) := ((hXG14).k ((hXG12).k ((hXG9).k ((hXG4).k ((hXG2).k kB2 (by decide)) (by decide)) (by decide)) (by decide)) (by decide))
                        refine s_iald dX2_link_150 hk53 (by omega) (by omega) rfl ?_
                        refine s_goto (tgt := 155) dX2_link_151 (by decide) ?_
                        exact J24 _ (Or.inr (⟨c49, rfl⟩))
              exact L14 _ m12 0 G12 hCG12 KX.rf hFG12 (⟨(by omega), (by exact hFIG12), (by exact hFAG12), (by exact hFBG12), (by exact hFfG12)⟩) (Nat.lt_succ_self _)
            refine s_bipush dX2_link_92 rfl (by decide) ?_
            refine s_icmp_ge (tgt := 120) dX2_link_94 (by decide) (fun c54 => ?_) (fun c54 => ?_)
            · -- 94 to 120
              exact K13  (trivial)
            · -- 94 to 97
              refine s_iload dX2_link_97 rfl ?_
              refine s_if_ne (tgt := 120) dX2_link_99 (by decide) (fun c55 => ?_) (fun c55 => ?_)
              · -- 99 to 120
                exact K13  (trivial)
              · -- 99 to 102
                refine s_aload_n dX2_link_102 rfl (Int.natCast_nonneg _) ?_
                refine s_iload dX2_link_103 rfl ?_
                refine s_aload_n dX2_link_105 rfl (Int.natCast_nonneg _) ?_
                refine s_aload_n dX2_link_106 rfl (Int.natCast_nonneg _) ?_
                refine s_aload dX2_link_107 rfl (Int.natCast_nonneg _) ?_
                have hk58 : gK G12 (327682) = (11, 0) := ((hXG12).k ((hXG9).k hk6 (by decide)) (by decide))
                refine s_callV (as := [(0, e12), (2, ((A : Nat) : Int)), (2, ((B : Nat) : Int)), (2, ((f : Nat) : Int))]) (rest := []) (n := 327682) (ci := 3) gX2_linkType dX2_link_109 m_1312 m_931 m_1659 m_716 m_278 ⟨by decide, by decide, show (parseMethodDescriptor yX2_linkType.desc).map (fun d => d.parameters.length) = some 4 from by decide +kernel⟩ (Nat.le_of_ble_eq_true rfl) (by rw [hcf]; exact Nat.le_of_ble_eq_true rfl) hk58 rfl rfl (Nat.le_of_ble_eq_true rfl) ⟨P, e12, A, B, f, a, b, rfl, hCG12, hab, (by omega), (by assumption), (by assumption), (by assumption), (by omega), (by exact hFIG12), (by exact hFfG12), (by exact iz12 () (by omega)), fun rr57 G56 hCG56 hXG56 hfG56 hpG56 => ?_⟩
                have hFG56 : WX (fun x => (262144 ≤ x ∧ x < 262272) ∨ x = 327691 ∨ x = 327692 ∨ (f + 1 ≤ x ∧ x ≤ f + 22)) G G56 := WX.trans hFG12 (KX.trans (KX.trans (KX.trans hXG2 hXG4) hXG9) hXG12) (WX.mono hfG56 rg8)
                have hFIG56 : ∀ k : Nat, k < 6 → FIP P G56 262144 k := fun k hk => FIP.ns (hFIG12 k hk) hXG56 hfG56 hk (KX.al (KX.trans (KX.trans (KX.trans hXG2 hXG4) hXG9) hXG12) (kne k262149 (by decide))) rg9 rg10
                have hFAG56 : FPa P G56 A := (hFAG12).ns hXG56 hfG56 ⟨KX.al (KX.trans (KX.trans (KX.trans hXG2 hXG4) hXG9) hXG12) (kne kA3 (by decide)), KX.al (KX.trans (KX.trans (KX.trans hXG2 hXG4) hXG9) hXG12) (kne kA4 (by decide))⟩ rg11
                have hFBG56 : FPa P G56 B := (hFBG12).ns hXG56 hfG56 ⟨KX.al (KX.trans (KX.trans (KX.trans hXG2 hXG4) hXG9) hXG12) (kne kB3 (by decide)), KX.al (KX.trans (KX.trans (KX.trans hXG2 hXG4) hXG9) hXG12) (kne kB4 (by decide))⟩ rg12
                have hFfG56 : FPa P G56 f := hpG56
                show WP kX2_link X 112 [some (2, ((327682 : Nat) : Int)), some (2, ((A : Nat) : Int)), some (2, ((B : Nat) : Int)), some (0, s), some (2, ((f : Nat) : Int)), some (0, m12), some (0, e12), none] [(0, rr57)] G56
                refine s_istore dX2_link_112 (by decide) (lv' := [some (2, ((327682 : Nat) : Int)), some (2, ((A : Nat) : Int)), some (2, ((B : Nat) : Int)), some (0, s), some (2, ((f : Nat) : Int)), some (0, rr57), some (0, e12), none]) rfl ?_
                refine s_iinc dX2_link_114 (v := e12) rfl (by omega) (by decide) (lv' := [some (2, ((327682 : Nat) : Int)), some (2, ((A : Nat) : Int)), some (2, ((B : Nat) : Int)), some (0, s), some (2, ((f : Nat) : Int)), some (0, rr57), some (0, e12 + 1), none]) rfl ?_
                refine s_goto (tgt := 90) dX2_link_117 (by decide) ?_
                exact ih12 rr57 (e12 + 1) G56 hCG56 (KX.trans hXG12 hXG56) hFG56 (⟨(by omega), (by intro _ _ k hk; rw [hfG56 262149 (KX.al (KX.trans (KX.trans (KX.trans hXG2 hXG4) hXG9) hXG12) (kne k262149 (by decide))) (by show ¬ _; omega)]; exact iz12 () (by omega) k hk), (by exact hFIG56), (by exact hFAG56), (by exact hFBG56), (by exact hFfG56)⟩) (by omega)
        exact L12 _ rr10 0 G9 hCG9 KX.rf hFG9 (⟨(by omega), (by exact fun _ => hpG9.1), (by exact hFIG9), (by exact hFAG9), (by exact hFBG9), (by exact hFfG9)⟩) (Nat.lt_succ_self _)
      · -- 14 to 17
        refine s_aload_n dX2_link_17 rfl (Int.natCast_nonneg _) ?_
        have hk59 : gK G4 (A) = (9, 0) := ((hXG4).k ((hXG2).k kA0 (by decide)) (by decide))
        refine s_alv (A) (by simp) (fun al60 => ?_)
        have hv61 : gS G4 A 1 = ((A + 1 : Nat) : Int) := by have h9 : (gS G4 A 1) = (((A % 1048576) + 1 : Nat) : Int) := hCG4.1.v (j := 1) (by rw [cde_n (by omega) (by omega)]; omega : cde A = 101) al60 (by rw [hk59]; exact Nat.le_of_ble_eq_true rfl); omega
        refine s_getf (ci := 1) (k := 1) (C := RX0) (T := TX0) (N := 7) (n := A) (L := 0) (t := 2) dX2_link_18 rfl wi_65 m_573 (Nat.le_of_ble_eq_true rfl) rfl rfl hk59 hv61 ?_
        refine s_iload dX2_link_21 rfl ?_
        have hk62 : gK G4 (A + 1) = (1, 6) := ((hXG4).k ((hXG2).k kA1 (by decide)) (by decide))
        refine s_iald dX2_link_23 hk62 (by omega) (by omega) rfl ?_
        refine s_iconst dX2_link_24 (by decide) ?_
        refine s_icmp_ne (tgt := 32) dX2_link_25 (by decide) (fun c63 => ?_) (fun c63 => ?_)
        · -- 25 to 32
          refine s_aload_n dX2_link_32 rfl (Int.natCast_nonneg _) ?_
          refine s_astore (Int.natCast_nonneg _) dX2_link_33 (by decide) (lv' := [some (2, ((327682 : Nat) : Int)), some (2, ((A : Nat) : Int)), some (2, ((B : Nat) : Int)), some (0, s), some (2, ((f : Nat) : Int)), some (0, n4), some (2, ((B : Nat) : Int)), none]) rfl ?_
          refine s_aload dX2_link_35 rfl (Int.natCast_nonneg _) ?_
          have hk64 : gK G4 (B) = (9, 0) := ((hXG4).k ((hXG2).k kB0 (by decide)) (by decide))
          refine s_alv (B) (by simp) (fun al65 => ?_)
          have hv66 : gS G4 B 1 = ((B + 1 : Nat) : Int) := by have h9 : (gS G4 B 1) = (((B % 1048576) + 1 : Nat) : Int) := hCG4.1.v (j := 1) (by rw [cde_n (by omega) (by omega)]; omega : cde B = 101) al65 (by rw [hk64]; exact Nat.le_of_ble_eq_true rfl); omega
          refine s_getf (ci := 1) (k := 1) (C := RX0) (T := TX0) (N := 7) (n := B) (L := 0) (t := 2) dX2_link_37 rfl wi_65 m_573 (Nat.le_of_ble_eq_true rfl) rfl rfl hk64 hv66 ?_
          refine s_iload dX2_link_40 rfl ?_
          have hk67 : gK G4 (B + 1) = (1, 6) := ((hXG4).k ((hXG2).k kB1 (by decide)) (by decide))
          refine s_iald dX2_link_42 hk67 (by omega) (by omega) rfl ?_
          refine s_iconst dX2_link_43 (by decide) ?_
          refine s_icmp_ne (tgt := 72) dX2_link_44 (by decide) (fun c68 => ?_) (fun c68 => ?_)
          · -- 44 to 72
            refine s_iinc dX2_link_72 (v := n4) rfl (by omega) (by decide) (lv' := [some (2, ((327682 : Nat) : Int)), some (2, ((A : Nat) : Int)), some (2, ((B : Nat) : Int)), some (0, s), some (2, ((f : Nat) : Int)), some (0, n4 + 1), some (2, ((B : Nat) : Int)), none]) rfl ?_
            refine s_goto (tgt := 10) dX2_link_75 (by decide) ?_
            refine s_mask [true, true, true, true, true, true, false, false] (lv' := [some (2, ((327682 : Nat) : Int)), some (2, ((A : Nat) : Int)), some (2, ((B : Nat) : Int)), some (0, s), some (2, ((f : Nat) : Int)), some (0, n4 + 1), none, none]) rfl ?_
            exact ih4 (n4 + 1) G4 hCG4 hXG4 hFG4 (⟨(by omega), (by exact hTLG4), (by exact hFIG4), (by exact hFAG4), (by exact hFBG4), (by exact hFfG4)⟩) (by omega)
          · -- 44 to 47
            refine s_aload_n dX2_link_47 rfl (Int.natCast_nonneg _) ?_
            have hk69 : gK G4 (327682) = (11, 0) := ((hXG4).k ((hXG2).k k327682 (by decide)) (by decide))
            refine s_alv (327682) (by simp) (fun al70 => ?_)
            have hv71 : gS G4 327682 2 = ((262144 : Nat) : Int) := by have h9 : (gS G4 327682 2) = 262144 := hCG4.1.v (j := 2) (by decide : cde 327682 = 502) al70 (by rw [hk69]; exact Nat.le_of_ble_eq_true rfl); omega
            refine s_getf (ci := 3) (k := 2) (C := RX2) (T := TX2) (N := 8) (n := 327682) (L := 0) (t := 2) dX2_link_48 rfl wi_70 m_577 (Nat.le_of_ble_eq_true rfl) rfl rfl hk69 hv71 ?_
            refine s_iload dX2_link_51 rfl ?_
            refine s_aload dX2_link_53 rfl (Int.natCast_nonneg _) ?_
            have hv72 : gS G4 B 3 = ((B + 3 : Nat) : Int) := by have h9 : (gS G4 B 3) = (((B % 1048576) + 3 : Nat) : Int) := hCG4.1.v (j := 3) (by rw [cde_n (by omega) (by omega)]; omega : cde B = 101) al65 (by rw [hk64]; exact Nat.le_of_ble_eq_true rfl); omega
            refine s_getf (ci := 1) (k := 3) (C := RX0) (T := TX0) (N := 7) (n := B) (L := 0) (t := 2) dX2_link_55 rfl wi_65 m_574 (Nat.le_of_ble_eq_true rfl) rfl rfl hk64 hv72 ?_
            refine s_iload dX2_link_58 rfl ?_
            have hk73 : gK G4 (B + 3) = (4, 16) := ((hXG4).k ((hXG2).k kB3 (by decide)) (by decide))
            refine s_alv (B + 3) (by simp) (fun al74 => ?_)
            have hv76b : 0 ≤ (gS G4 (B + 3) (n4 : Int).toNat) ∧ (gS G4 (B + 3) (n4 : Int).toNat) % 1048576 = ((((B + 3) % 1048576) + 4 + ((n4 : Int).toNat) : Nat) : Int) := hCG4.1.v (j := (n4 : Int).toNat) (by rw [cde_n (by omega) (by omega)]; omega : cde (B + 3) = 104) al74 (by rw [hk73]; show (n4 : Int).toNat < 16; omega)
            obtain ⟨q75, hv76⟩ : ∃ q : Nat, gS G4 (B + 3) (n4 : Int).toNat = (q : Int) := ⟨(gS G4 (B + 3) (n4 : Int).toNat).toNat, by omega⟩
            rw [hv76] at hv76b
            refine s_aald4 dX2_link_60 hk73 (by omega) (by omega) hv76 ?_
            refine s_aload dX2_link_61 rfl (Int.natCast_nonneg _) ?_
            have hv77 : gS G4 B 4 = ((B + 4 : Nat) : Int) := by have h9 : (gS G4 B 4) = (((B % 1048576) + 4 : Nat) : Int) := hCG4.1.v (j := 4) (by rw [cde_n (by omega) (by omega)]; omega : cde B = 101) al65 (by rw [hk64]; exact Nat.le_of_ble_eq_true rfl); omega
            refine s_getf (ci := 1) (k := 4) (C := RX0) (T := TX0) (N := 7) (n := B) (L := 0) (t := 2) dX2_link_63 rfl wi_65 m_575 (Nat.le_of_ble_eq_true rfl) rfl rfl hk64 hv77 ?_
            refine s_iload dX2_link_66 rfl ?_
            have hk78 : gK G4 (B + 4) = (1, 16) := ((hXG4).k ((hXG2).k kB4 (by decide)) (by decide))
            refine s_alv (B + 4) (by simp) (fun al79 => ?_)
            have hv80 : 0 ≤ (gS G4 (B + 4) (n4 : Int).toNat) ∧ (gS G4 (B + 4) (n4 : Int).toNat) ≤ 200 := hCG4.1.v (j := (n4 : Int).toNat) (by rw [cde_n (by omega) (by omega)]; omega : cde (B + 4) = 105) al79 (by rw [hk78]; show (n4 : Int).toNat < 16; omega)
            refine s_iald dX2_link_68 hk78 (by omega) (by omega) rfl ?_
            refine s_alv (q75) (by simp) (fun al81 => ?_)
            obtain ⟨L83, hk82, hL83a, hL83b⟩ := hCG4.1.kr (show 108 ≤ cde q75 ∧ cde q75 < 124 from by rw [cde_n (by omega) (by omega)]; omega) al81
            have hk86 : gK G4 (262144) = (10, 0) := ((hXG4).k ((hXG2).k k262144 (by decide)) (by decide))
            refine s_callV (as := [(0, n4), (2, ((q75 : Nat) : Int)), (0, gS G4 (B + 4) ((n4 : Int).toNat))]) (rest := []) (n := 262144) (ci := 2) gX1_tell dX2_link_69 m_1310 m_919 m_1494 m_712 m_261 ⟨by decide, by decide, show (parseMethodDescriptor yX1_tell.desc).map (fun d => d.parameters.length) = some 3 from by decide +kernel⟩ (Nat.le_of_ble_eq_true rfl) (by rw [hcf]; exact Nat.le_of_ble_eq_true rfl) hk86 rfl rfl (Nat.le_of_ble_eq_true rfl) ⟨262144, n4, q75, L83, gS G4 (B + 4) ((n4 : Int).toNat), a, b, rfl, hCG4, hab, (by first | assumption | omega), (by first | assumption | omega), hk82, (by first | assumption | omega), (by first | assumption | omega), fun G84 hCG84 hXG84 hfG84 hpG84 => ?_⟩
            have hFG84 : WX (fun x => (262144 ≤ x ∧ x < 262272) ∨ x = 327691 ∨ x = 327692 ∨ (f + 1 ≤ x ∧ x ≤ f + 22)) G G84 := WX.trans hFG4 (KX.trans hXG2 hXG4) (WX.mono hfG84 (fun x hx => by omega))
            have hTLG84 : ∀ k : Nat, k < 6 → TLP P G84 262144 k := fun k hk => by by_cases e : k = (n4 : Int).toNat; (focus (subst e; exact RPs.at (hpG84.1 P ((hFBG4 (n4 : Int).toNat (by omega)).rps hv76 rfl)) (by omega))); exact TLP.sm (hTLG4 k hk) hXG84 hfG84 (by show ¬ _; omega) (hpG84.2 k e)
            have hFIG84 : ∀ k : Nat, k < 6 → FIP P G84 262144 k := fun k hk => FIP.ns (hFIG4 k hk) hXG84 hfG84 hk (KX.al (KX.trans hXG2 hXG4) (kne k262149 (by decide))) (fun k hk => by show ¬ _; omega) (by show ¬ _; omega)
            have hFAG84 : FPa P G84 A := (hFAG4).ns hXG84 hfG84 ⟨KX.al (KX.trans hXG2 hXG4) (kne kA3 (by decide)), KX.al (KX.trans hXG2 hXG4) (kne kA4 (by decide))⟩ ⟨by show ¬ _; omega, by show ¬ _; omega, fun p hp => by show ¬ _; omega⟩
            have hFBG84 : FPa P G84 B := (hFBG4).ns hXG84 hfG84 ⟨KX.al (KX.trans hXG2 hXG4) (kne kB3 (by decide)), KX.al (KX.trans hXG2 hXG4) (kne kB4 (by decide))⟩ ⟨by show ¬ _; omega, by show ¬ _; omega, fun p hp => by show ¬ _; omega⟩
            have hFfG84 : FPa P G84 f := (hFfG4).ns hXG84 hfG84 ⟨KX.al (KX.trans hXG2 hXG4) (kne kf3 (by decide)), KX.al (KX.trans hXG2 hXG4) (kne kf4 (by decide))⟩ ⟨by show ¬ _; omega, by show ¬ _; omega, fun p hp => by show ¬ _; omega⟩
            show WP kX2_link X 72 [some (2, ((327682 : Nat) : Int)), some (2, ((A : Nat) : Int)), some (2, ((B : Nat) : Int)), some (0, s), some (2, ((f : Nat) : Int)), some (0, n4), some (2, ((B : Nat) : Int)), none] [] G84
            refine s_iinc dX2_link_72 (v := n4) rfl (by omega) (by decide) (lv' := [some (2, ((327682 : Nat) : Int)), some (2, ((A : Nat) : Int)), some (2, ((B : Nat) : Int)), some (0, s), some (2, ((f : Nat) : Int)), some (0, n4 + 1), some (2, ((B : Nat) : Int)), none]) rfl ?_
            refine s_goto (tgt := 10) dX2_link_75 (by decide) ?_
            refine s_mask [true, true, true, true, true, true, false, false] (lv' := [some (2, ((327682 : Nat) : Int)), some (2, ((A : Nat) : Int)), some (2, ((B : Nat) : Int)), some (0, s), some (2, ((f : Nat) : Int)), some (0, n4 + 1), none, none]) rfl ?_
            exact ih4 (n4 + 1) G84 hCG84 (KX.trans hXG4 hXG84) hFG84 (⟨(by omega), (by exact hTLG84), (by exact hFIG84), (by exact hFAG84), (by exact hFBG84), (by exact hFfG84)⟩) (by omega)
        · -- 25 to 28
          refine s_aload_n dX2_link_28 rfl (Int.natCast_nonneg _) ?_
          refine s_goto (tgt := 33) dX2_link_29 (by decide) ?_
          refine s_astore (Int.natCast_nonneg _) dX2_link_33 (by decide) (lv' := [some (2, ((327682 : Nat) : Int)), some (2, ((A : Nat) : Int)), some (2, ((B : Nat) : Int)), some (0, s), some (2, ((f : Nat) : Int)), some (0, n4), some (2, ((A : Nat) : Int)), none]) rfl ?_
          refine s_aload dX2_link_35 rfl (Int.natCast_nonneg _) ?_
          have hv87 : gS G4 A 1 = ((A + 1 : Nat) : Int) := by have h9 : (gS G4 A 1) = (((A % 1048576) + 1 : Nat) : Int) := hCG4.1.v (j := 1) (by rw [cde_n (by omega) (by omega)]; omega : cde A = 101) al60 (by rw [hk59]; exact Nat.le_of_ble_eq_true rfl); omega
          refine s_getf (ci := 1) (k := 1) (C := RX0) (T := TX0) (N := 7) (n := A) (L := 0) (t := 2) dX2_link_37 rfl wi_65 m_573 (Nat.le_of_ble_eq_true rfl) rfl rfl hk59 hv87 ?_
          refine s_iload dX2_link_40 rfl ?_
          refine s_iald dX2_link_42 hk62 (by omega) (by omega) rfl ?_
          refine s_iconst dX2_link_43 (by decide) ?_
          refine s_icmp_ne (tgt := 72) dX2_link_44 (by decide) (fun c88 => ?_) (fun c88 => ?_)
          · -- 44 to 72
            refine s_iinc dX2_link_72 (v := n4) rfl (by omega) (by decide) (lv' := [some (2, ((327682 : Nat) : Int)), some (2, ((A : Nat) : Int)), some (2, ((B : Nat) : Int)), some (0, s), some (2, ((f : Nat) : Int)), some (0, n4 + 1), some (2, ((A : Nat) : Int)), none]) rfl ?_
            refine s_goto (tgt := 10) dX2_link_75 (by decide) ?_
            refine s_mask [true, true, true, true, true, true, false, false] (lv' := [some (2, ((327682 : Nat) : Int)), some (2, ((A : Nat) : Int)), some (2, ((B : Nat) : Int)), some (0, s), some (2, ((f : Nat) : Int)), some (0, n4 + 1), none, none]) rfl ?_
            exact ih4 (n4 + 1) G4 hCG4 hXG4 hFG4 (⟨(by omega), (by exact hTLG4), (by exact hFIG4), (by exact hFAG4), (by exact hFBG4), (by exact hFfG4)⟩) (by omega)
          · -- 44 to 47
            refine s_aload_n dX2_link_47 rfl (Int.natCast_nonneg _) ?_
            have hk89 : gK G4 (327682) = (11, 0) := ((hXG4).k ((hXG2).k k327682 (by decide)) (by decide))
            refine s_alv (327682) (by simp) (fun al90 => ?_)
            have hv91 : gS G4 327682 2 = ((262144 : Nat) : Int) := by have h9 : (gS G4 327682 2) = 262144 := hCG4.1.v (j := 2) (by decide : cde 327682 = 502) al90 (by rw [hk89]; exact Nat.le_of_ble_eq_true rfl); omega
            refine s_getf (ci := 3) (k := 2) (C := RX2) (T := TX2) (N := 8) (n := 327682) (L := 0) (t := 2) dX2_link_48 rfl wi_70 m_577 (Nat.le_of_ble_eq_true rfl) rfl rfl hk89 hv91 ?_
            refine s_iload dX2_link_51 rfl ?_
            refine s_aload dX2_link_53 rfl (Int.natCast_nonneg _) ?_
            have hv92 : gS G4 A 3 = ((A + 3 : Nat) : Int) := by have h9 : (gS G4 A 3) = (((A % 1048576) + 3 : Nat) : Int) := hCG4.1.v (j := 3) (by rw [cde_n (by omega) (by omega)]; omega : cde A = 101) al60 (by rw [hk59]; exact Nat.le_of_ble_eq_true rfl); omega
            refine s_getf (ci := 1) (k := 3) (C := RX0) (T := TX0) (N := 7) (n := A) (L := 0) (t := 2) dX2_link_55 rfl wi_65 m_574 (Nat.le_of_ble_eq_true rfl) rfl rfl hk59 hv92 ?_
            refine s_iload dX2_link_58 rfl ?_
            have hk93 : gK G4 (A + 3) = (4, 16) := ((hXG4).k ((hXG2).k kA3 (by decide)) (by decide))
            refine s_alv (A + 3) (by simp) (fun al94 => ?_)
            have hv96b : 0 ≤ (gS G4 (A + 3) (n4 : Int).toNat) ∧ (gS G4 (A + 3) (n4 : Int).toNat) % 1048576 = ((((A + 3) % 1048576) + 4 + ((n4 : Int).toNat) : Nat) : Int) := hCG4.1.v (j := (n4 : Int).toNat) (by rw [cde_n (by omega) (by omega)]; omega : cde (A + 3) = 104) al94 (by rw [hk93]; show (n4 : Int).toNat < 16; omega)
            obtain ⟨q95, hv96⟩ : ∃ q : Nat, gS G4 (A + 3) (n4 : Int).toNat = (q : Int) := ⟨(gS G4 (A + 3) (n4 : Int).toNat).toNat, by omega⟩
            rw [hv96] at hv96b
            refine s_aald4 dX2_link_60 hk93 (by omega) (by omega) hv96 ?_
            refine s_aload dX2_link_61 rfl (Int.natCast_nonneg _) ?_
            have hv97 : gS G4 A 4 = ((A + 4 : Nat) : Int) := by have h9 : (gS G4 A 4) = (((A % 1048576) + 4 : Nat) : Int) := hCG4.1.v (j := 4) (by rw [cde_n (by omega) (by omega)]; omega : cde A = 101) al60 (by rw [hk59]; exact Nat.le_of_ble_eq_true rfl); omega
            refine s_getf (ci := 1) (k := 4) (C := RX0) (T := TX0) (N := 7) (n := A) (L := 0) (t := 2) dX2_link_63 rfl wi_65 m_575 (Nat.le_of_ble_eq_true rfl) rfl rfl hk59 hv97 ?_
            refine s_iload dX2_link_66 rfl ?_
            have hk98 : gK G4 (A + 4) = (1, 16) := ((hXG4).k ((hXG2).k kA4 (by decide)) (by decide))
            refine s_alv (A + 4) (by simp) (fun al99 => ?_)
            have hv100 : 0 ≤ (gS G4 (A + 4) (n4 : Int).toNat) ∧ (gS G4 (A + 4) (n4 : Int).toNat) ≤ 200 := hCG4.1.v (j := (n4 : Int).toNat) (by rw [cde_n (by omega) (by omega)]; omega : cde (A + 4) = 105) al99 (by rw [hk98]; show (n4 : Int).toNat < 16; omega)
            refine s_iald dX2_link_68 hk98 (by omega) (by omega) rfl ?_
            refine s_alv (q95) (by simp) (fun al101 => ?_)
            obtain ⟨L103, hk102, hL103a, hL103b⟩ := hCG4.1.kr (show 108 ≤ cde q95 ∧ cde q95 < 124 from by rw [cde_n (by omega) (by omega)]; omega) al101
            have hk106 : gK G4 (262144) = (10, 0) := ((hXG4).k ((hXG2).k k262144 (by decide)) (by decide))
            refine s_callV (as := [(0, n4), (2, ((q95 : Nat) : Int)), (0, gS G4 (A + 4) ((n4 : Int).toNat))]) (rest := []) (n := 262144) (ci := 2) gX1_tell dX2_link_69 m_1310 m_919 m_1494 m_712 m_261 ⟨by decide, by decide, show (parseMethodDescriptor yX1_tell.desc).map (fun d => d.parameters.length) = some 3 from by decide +kernel⟩ (Nat.le_of_ble_eq_true rfl) (by rw [hcf]; exact Nat.le_of_ble_eq_true rfl) hk106 rfl rfl (Nat.le_of_ble_eq_true rfl) ⟨262144, n4, q95, L103, gS G4 (A + 4) ((n4 : Int).toNat), a, b, rfl, hCG4, hab, (by first | assumption | omega), (by first | assumption | omega), hk102, (by first | assumption | omega), (by first | assumption | omega), fun G104 hCG104 hXG104 hfG104 hpG104 => ?_⟩
            have hFG104 : WX (fun x => (262144 ≤ x ∧ x < 262272) ∨ x = 327691 ∨ x = 327692 ∨ (f + 1 ≤ x ∧ x ≤ f + 22)) G G104 := WX.trans hFG4 (KX.trans hXG2 hXG4) (WX.mono hfG104 (fun x hx => by omega))
            have hTLG104 : ∀ k : Nat, k < 6 → TLP P G104 262144 k := fun k hk => by by_cases e : k = (n4 : Int).toNat; (focus (subst e; exact RPs.at (hpG104.1 P ((hFAG4 (n4 : Int).toNat (by omega)).rps hv96 rfl)) (by omega))); exact TLP.sm (hTLG4 k hk) hXG104 hfG104 (by show ¬ _; omega) (hpG104.2 k e)
            have hFIG104 : ∀ k : Nat, k < 6 → FIP P G104 262144 k := fun k hk => FIP.ns (hFIG4 k hk) hXG104 hfG104 hk (KX.al (KX.trans hXG2 hXG4) (kne k262149 (by decide))) (fun k hk => by show ¬ _; omega) (by show ¬ _; omega)
            have hFAG104 : FPa P G104 A := (hFAG4).ns hXG104 hfG104 ⟨KX.al (KX.trans hXG2 hXG4) (kne kA3 (by decide)), KX.al (KX.trans hXG2 hXG4) (kne kA4 (by decide))⟩ ⟨by show ¬ _; omega, by show ¬ _; omega, fun p hp => by show ¬ _; omega⟩
            have hFBG104 : FPa P G104 B := (hFBG4).ns hXG104 hfG104 ⟨KX.al (KX.trans hXG2 hXG4) (kne kB3 (by decide)), KX.al (KX.trans hXG2 hXG4) (kne kB4 (by decide))⟩ ⟨by show ¬ _; omega, by show ¬ _; omega, fun p hp => by show ¬ _; omega⟩
            have hFfG104 : FPa P G104 f := (hFfG4).ns hXG104 hfG104 ⟨KX.al (KX.trans hXG2 hXG4) (kne kf3 (by decide)), KX.al (KX.trans hXG2 hXG4) (kne kf4 (by decide))⟩ ⟨by show ¬ _; omega, by show ¬ _; omega, fun p hp => by show ¬ _; omega⟩
            show WP kX2_link X 72 [some (2, ((327682 : Nat) : Int)), some (2, ((A : Nat) : Int)), some (2, ((B : Nat) : Int)), some (0, s), some (2, ((f : Nat) : Int)), some (0, n4), some (2, ((A : Nat) : Int)), none] [] G104
            refine s_iinc dX2_link_72 (v := n4) rfl (by omega) (by decide) (lv' := [some (2, ((327682 : Nat) : Int)), some (2, ((A : Nat) : Int)), some (2, ((B : Nat) : Int)), some (0, s), some (2, ((f : Nat) : Int)), some (0, n4 + 1), some (2, ((A : Nat) : Int)), none]) rfl ?_
            refine s_goto (tgt := 10) dX2_link_75 (by decide) ?_
            refine s_mask [true, true, true, true, true, true, false, false] (lv' := [some (2, ((327682 : Nat) : Int)), some (2, ((A : Nat) : Int)), some (2, ((B : Nat) : Int)), some (0, s), some (2, ((f : Nat) : Int)), some (0, n4 + 1), none, none]) rfl ?_
            exact ih4 (n4 + 1) G104 hCG104 (KX.trans hXG4 hXG104) hFG104 (⟨(by omega), (by exact hTLG104), (by exact hFIG104), (by exact hFAG104), (by exact hFBG104), (by exact hFfG104)⟩) (by omega)
  exact L4 _ 0 G2 hCG2 KX.rf hFG2 (⟨(by omega), (by exact hTLG2), (by exact hFIG2), (by exact hFAG2), (by exact hFBG2), (by exact hFfG2)⟩) (Nat.lt_succ_self _)
