abbrev kX3_reach : KD := (RX3, cX3_reach, 6, none, [])
def TX3_reach : TR := fun as G Qr => ∃ (o n : Nat) (f w : Int) (a b : Nat), as = [(2, ((o : Nat) : Int)), (2, ((n : Nat) : Int)), (0, f), (0, w)] ∧ CI a b G ∧ (a ≤ 2840000 ∧ b ≤ 590000) ∧ (isMc o) ∧ (isNd n) ∧ (0 ≤ f ∧ f ≤ 24) ∧ (MI G o f) ∧ (MC G o f) ∧ (NO G o f) ∧ (f ≤ w ∧ w < gS G o 9) ∧ ∀ (G' : LG), CI a b G' → KX G G' → WX (fun x => x = o ∨ x = o + 6 ∨ x = o + 8) G G' → (gS G' o 9 = gS G o 9) → Qr (.inl none) G'
set_option maxHeartbeats 4000000 in
set_option maxRecDepth 100000 in
theorem gX3_reach : Good kX3_reach yX3_reach 2 TX3_reach := by
  refine good_of (by decide) rfl rfl (fun as G Qr h => ?_) (fun X as G Qr hcf hR hT oa => ?_)
  · obtain ⟨o, n, f, w, a, b, rfl, -⟩ := h; exact Nat.le_of_ble_eq_true rfl
  obtain ⟨o, n, f, w, a, b, rfl, hC, hab, ho, hn, hf0, hMI, hMC, hNO, hw, hQ⟩ := hT
  show WP kX3_reach X 0 [some (2, ((o : Nat) : Int)), some (2, ((n : Nat) : Int)), some (0, f), some (0, w), none, none] [] G
  have hr_f : inR f := okv_R (oa _ (by simp))
  have hr_w : inR w := okv_R (oa _ (by simp))
  have rg0 : RNx (fun x => x = o % 1048576) ((o + 1) % 1048576) := by show ¬ _; omega
  have rg1 : RNx (fun x => x = o % 1048576) ((o + 3) % 1048576) := by show ¬ _; omega
  have rg2 : RNx (fun x => x = o % 1048576) ((o + 4) % 1048576) := by show ¬ _; omega
  have rg3 : RNx (fun x => x = o % 1048576) (327681 % 1048576) := by show ¬ _; omega
  have rg4 : RNx (fun x => x = o % 1048576) ((o + 5) % 1048576) := by show ¬ _; omega
  have rg5 : RNx (fun x => x = o % 1048576) (327706 % 1048576) := by show ¬ _; omega
  have rg6 : RM (fun x => x = o ∨ x = o + 6 ∨ x = o + 8) (fun x => x = o ∨ x = o + 6 ∨ x = o + 8) := fun x hx => by (try dsimp only at hx ⊢); omega
  have rg7 : RNx (fun x => x = o ∨ x = o + 6 ∨ x = o + 8) ((o + 1) % 1048576) := by show ¬ _; omega
  have rg8 : RNx (fun x => x = o ∨ x = o + 6 ∨ x = o + 8) ((o + 3) % 1048576) := by show ¬ _; omega
  have rg9 : RNx (fun x => x = o ∨ x = o + 6 ∨ x = o + 8) ((o + 4) % 1048576) := by show ¬ _; omega
  have rg10 : RNx (fun x => x = o ∨ x = o + 6 ∨ x = o + 8) (327681 % 1048576) := by show ¬ _; omega
  have rg11 : RNx (fun x => x = o ∨ x = o + 6 ∨ x = o + 8) ((o + 5) % 1048576) := by show ¬ _; omega
  have rg12 : RNx (fun x => x = o ∨ x = o + 6 ∨ x = o + 8) (327706 % 1048576) := by show ¬ _; omega
  have rg13 : RNx (fun x => x = (o + 6) % 1048576) (o % 1048576) := by show ¬ _; omega
  have rg14 : RNx (fun x => x = (o + 6) % 1048576) ((o + 1) % 1048576) := by show ¬ _; omega
  have rg15 : RNx (fun x => x = (o + 6) % 1048576) ((o + 3) % 1048576) := by show ¬ _; omega
  have rg16 : RNx (fun x => x = (o + 6) % 1048576) ((o + 4) % 1048576) := by show ¬ _; omega
  have rg17 : RNx (fun x => x = (o + 6) % 1048576) (327681 % 1048576) := by show ¬ _; omega
  have rg18 : RNx (fun x => x = (o + 6) % 1048576) ((o + 5) % 1048576) := by show ¬ _; omega
  have rg19 : RNx (fun x => x = (o + 6) % 1048576) (327706 % 1048576) := by show ¬ _; omega
  refine s_alvl o (k := 0) rfl (fun alo => ?_)
  refine s_lk (fun hlk => ?_)
  have hmn := hlk.mna hC ho alo
  obtain ⟨kM, kM1, kM2, kM3, kM4, kM5, kM6, kM7, kM8, kM13, kM15, kM20, kMp, kMp5, kMp6, kMp7, kMp8, kMp9, kMp10, kMp13, kMp14, kMp16⟩ := id hmn
  have hin : 0 ≤ gS G o 9 ∧ gS G o 9 ≤ 24 := hC.1.v (c := 300) (j := 9) (by rcases ho with rfl | rfl <;> decide) alo (by rw [kM]; exact Nat.le_of_ble_eq_true rfl)
  have hI : gS G o 9 = gS G o 9 := rfl
  refine s_aload_n dX3_reach_0 rfl (Int.natCast_nonneg _) ?_
  refine s_iconst dX3_reach_1 (by decide) ?_
  refine s_putf (ci := 4) (k := 16) (C := RX3) (T := TX3) (N := 18) (n := o) (L := 0) dX3_reach_2 rfl wi_71 m_604 (Nat.le_of_ble_eq_true rfl) rfl rfl tyX3_ok nmX3 rfl (Or.inl rfl) kM ?_
  generalize eG1r : gset G o 16 0 = G1
  have eG1 := eG1r.symm
  have hCG1 : CI a b G1 := by rw [eG1]; exact hC.set (by rw [(by rw [cde_m (by omega) (by omega)]; omega : cde o = 300)]; rfl) (by rw [(by rw [cde_m (by omega) (by omega)]; omega : cde o = 300)]; exact (show 0 ≤ 0 ∧ 0 ≤ 240 from by omega))
  have hXG1 : KX G G1 := KX.set KX.rf eG1
  have hFG1 : WX (fun x => x = o ∨ x = o + 6 ∨ x = o + 8) G G1 := WX.set WX.rf eG1 (by show _; omega)
  have hfG1 : WX (fun x => x = o % 1048576) G G1 := WX.set WX.rf eG1 rfl
  have hIG1 : gS G1 o 9 = gS G o 9 := (show gS G1 o 9 = gS G o 9 from by rw [eG1, gset_ne _ _ (fun z => absurd z.2 (by decide))]).trans hI
  have hMIG1 : MI G1 o f := hMI.cg (show gS G1 o 9 = gS G o 9 from by rw [eG1, gset_ne _ _ (fun z => absurd z.2 (by decide))]) (hfG1 (o + 1) (KX.al KX.rf (kne kM1 (by decide))) rg0) (hfG1 (o + 3) (KX.al KX.rf (kne kM3 (by decide))) rg1) (hfG1 (o + 4) (KX.al KX.rf (kne kM4 (by decide))) rg2) (congrFun (hfG1 (327681) (KX.al KX.rf (kne kMp (by decide))) rg3) 12)
  have hMCG1 : MC G1 o f := hMC.cg (show gS G1 o 9 = gS G o 9 from by rw [eG1, gset_ne _ _ (fun z => absurd z.2 (by decide))]) (hfG1 (o + 1) (KX.al KX.rf (kne kM1 (by decide))) rg0) (hfG1 (o + 5) (KX.al KX.rf (kne kM5 (by decide))) rg4)
  have hNOG1 : NO G1 o f := hNO.cg (show gS G1 o 9 = gS G o 9 from by rw [eG1, gset_ne _ _ (fun z => absurd z.2 (by decide))]) (hfG1 (o + 1) (KX.al KX.rf (kne kM1 (by decide))) rg0) (hfG1 (o + 5) (KX.al KX.rf (kne kM5 (by decide))) rg4) (hfG1 (327706) (KX.al KX.rf (kne kMp10 (by decide))) rg5)
  show WP kX3_reach X 5 [some (2, ((o : Nat) : Int)), some (2, ((n : Nat) : Int)), some (0, f), some (0, w), none, none] [] G1
  refine s_aload_n dX3_reach_5 rfl (Int.natCast_nonneg _) ?_
  refine s_iconst dX3_reach_6 (by decide) ?_
  have hk2 : gK G1 (o) = (12, 0) := ((hXG1).k kM (by decide))
  refine s_putf (ci := 4) (k := 17) (C := RX3) (T := TX3) (N := 18) (n := o) (L := 0) dX3_reach_7 rfl wi_71 m_605 (Nat.le_of_ble_eq_true rfl) rfl rfl tyX3_ok nmX3 rfl (Or.inl rfl) hk2 ?_
  generalize eG3r : gset G1 o 17 0 = G3
  have eG3 := eG3r.symm
  have hCG3 : CI a b G3 := by rw [eG3]; exact hCG1.set (by rw [(by rw [cde_m (by omega) (by omega)]; omega : cde o = 300)]; rfl) (by rw [(by rw [cde_m (by omega) (by omega)]; omega : cde o = 300)]; exact (show 0 ≤ 0 ∧ 0 ≤ 240 from by omega))
  have hXG3 : KX G1 G3 := KX.set KX.rf eG3
  have hFG3 : WX (fun x => x = o ∨ x = o + 6 ∨ x = o + 8) G G3 := WX.set hFG1 eG3 (by show _; omega)
  have hfG3 : WX (fun x => x = o % 1048576) G1 G3 := WX.set WX.rf eG3 rfl
  have hIG3 : gS G3 o 9 = gS G o 9 := (show gS G3 o 9 = gS G1 o 9 from by rw [eG3, gset_ne _ _ (fun z => absurd z.2 (by decide))]).trans hIG1
  have hMIG3 : MI G3 o f := hMIG1.cg (show gS G3 o 9 = gS G1 o 9 from by rw [eG3, gset_ne _ _ (fun z => absurd z.2 (by decide))]) (hfG3 (o + 1) (KX.al hXG1 (kne kM1 (by decide))) rg0) (hfG3 (o + 3) (KX.al hXG1 (kne kM3 (by decide))) rg1) (hfG3 (o + 4) (KX.al hXG1 (kne kM4 (by decide))) rg2) (congrFun (hfG3 (327681) (KX.al hXG1 (kne kMp (by decide))) rg3) 12)
  have hMCG3 : MC G3 o f := hMCG1.cg (show gS G3 o 9 = gS G1 o 9 from by rw [eG3, gset_ne _ _ (fun z => absurd z.2 (by decide))]) (hfG3 (o + 1) (KX.al hXG1 (kne kM1 (by decide))) rg0) (hfG3 (o + 5) (KX.al hXG1 (kne kM5 (by decide))) rg4)
  have hNOG3 : NO G3 o f := hNOG1.cg (show gS G3 o 9 = gS G1 o 9 from by rw [eG3, gset_ne _ _ (fun z => absurd z.2 (by decide))]) (hfG3 (o + 1) (KX.al hXG1 (kne kM1 (by decide))) rg0) (hfG3 (o + 5) (KX.al hXG1 (kne kM5 (by decide))) rg4) (hfG3 (327706) (KX.al hXG1 (kne kMp10 (by decide))) rg5)
  show WP kX3_reach X 10 [some (2, ((o : Nat) : Int)), some (2, ((n : Nat) : Int)), some (0, f), some (0, w), none, none] [] G3
  have z17 : gS G3 o 17 = 0 := gsaE eG3
  have z16 : gS G3 o 16 = 0 := by rw [eG3, gset_ne _ _ (fun z => absurd z.2 (by decide))]; exact gsaE eG1
  refine s_iload_n dX3_reach_10 rfl ?_
  refine s_bipush dX3_reach_11 rfl (by decide) ?_
  refine s_imul dX3_reach_13 (by omega) ?_
  refine s_istore dX3_reach_14 (by decide) (lv' := [some (2, ((o : Nat) : Int)), some (2, ((n : Nat) : Int)), some (0, f), some (0, w), some (0, f * 10), none]) rfl ?_
  have L4 : ∀ (n4 : Nat) (s4 : Int) (G4 : LG), CI a b G4 → KX G3 G4 → WX (fun x => x = o ∨ x = o + 6 ∨ x = o + 8) G G4 → ((10 * f ≤ s4 ∧ s4 ≤ 240) ∧ ((0 ≤ gS G4 o 16 ∧ gS G4 o 16 ≤ s4) ∧ gS G4 o 17 = 0) ∧ (gS G4 o 9 = gS G o 9) ∧ (MI G4 o f) ∧ (MC G4 o f) ∧ (NO G4 o f)) → (240 - s4).toNat < n4 → WP kX3_reach X 16 [some (2, ((o : Nat) : Int)), some (2, ((n : Nat) : Int)), some (0, f), some (0, w), some (0, s4), none] [] G4 := by
    intro n4
    induction n4 with
    | zero => intro s4 G4 hCG4 hXG4 hFG4 hi4 hm4; exact absurd hm4 (Nat.not_lt_zero _)
    | succ n4 ih4 =>
      intro s4 G4 hCG4 hXG4 hFG4 hi4 hm4
      obtain ⟨is4, ic4, hIG4, hMIG4, hMCG4, hNOG4⟩ := hi4
      refine s_iload dX3_reach_16 rfl ?_
      refine s_aload_n dX3_reach_18 rfl (Int.natCast_nonneg _) ?_
      have hk7 : gK G4 (o) = (12, 0) := ((hXG4).k ((hXG3).k hk2 (by decide)) (by decide))
      refine s_callV (as := []) (rest := [(0, s4)]) (n := o) (ci := 4) gX3_slotCount dX3_reach_19 m_1361 m_966 m_1693 m_717 m_314 ⟨by decide, by decide, show (parseMethodDescriptor yX3_slotCount.desc).map (fun d => d.parameters.length) = some 0 from by decide +kernel⟩ (Nat.le_of_ble_eq_true rfl) (by rw [hcf]; exact Nat.le_of_ble_eq_true rfl) hk7 rfl rfl (Nat.le_of_ble_eq_true rfl) ⟨o, a, b, rfl, hCG4, hab, (by first | assumption | omega), fun rr5 hp6 => ?_⟩
      show WP kX3_reach X 22 [some (2, ((o : Nat) : Int)), some (2, ((n : Nat) : Int)), some (0, f), some (0, w), some (0, s4), none] [(0, rr5), (0, s4)] G4
      refine s_icmp_ge (tgt := 62) dX3_reach_22 (by decide) (fun c8 => ?_) (fun c8 => ?_)
      · -- 22 to 62
        refine s_iconst dX3_reach_62 (by decide) ?_
        refine s_istore dX3_reach_63 (by decide) (lv' := [some (2, ((o : Nat) : Int)), some (2, ((n : Nat) : Int)), some (0, f), some (0, w), some (0, 0), none]) rfl ?_
        have L9 : ∀ (n9 : Nat) (k9 : Int) (G9 : LG), CI a b G9 → KX G4 G9 → WX (fun x => x = o ∨ x = o + 6 ∨ x = o + 8) G G9 → ((0 ≤ k9 ∧ k9 ≤ 10) ∧ (SK G9 o f (gS G9 o 17)) ∧ (gS G9 o 9 = gS G o 9) ∧ (MI G9 o f) ∧ (MC G9 o f) ∧ (NO G9 o f)) → (10 - k9).toNat < n9 → WP kX3_reach X 65 [some (2, ((o : Nat) : Int)), some (2, ((n : Nat) : Int)), some (0, f), some (0, w), some (0, k9), none] [] G9 := by
          intro n9
          induction n9 with
          | zero => intro k9 G9 hCG9 hXG9 hFG9 hi9 hm9; exact absurd hm9 (Nat.not_lt_zero _)
          | succ n9 ih9 =>
            intro k9 G9 hCG9 hXG9 hFG9 hi9 hm9
            obtain ⟨ik9, iSK9, hIG9, hMIG9, hMCG9, hNOG9⟩ := hi9
            refine s_iload dX3_reach_65 rfl ?_
            refine s_bipush dX3_reach_67 rfl (by decide) ?_
            refine s_icmp_ge (tgt := 90) dX3_reach_69 (by decide) (fun c10 => ?_) (fun c10 => ?_)
            · -- 69 to 90
              refine s_iload_n dX3_reach_90 rfl ?_
              refine s_bipush dX3_reach_91 rfl (by decide) ?_
              refine s_imul dX3_reach_93 (by omega) ?_
              refine s_istore dX3_reach_94 (by decide) (lv' := [some (2, ((o : Nat) : Int)), some (2, ((n : Nat) : Int)), some (0, f), some (0, w), some (0, f * 10), none]) rfl ?_
              have L11 : ∀ (n11 : Nat) (s11 : Int) (G11 : LG), CI a b G11 → KX G9 G11 → WX (fun x => x = o ∨ x = o + 6 ∨ x = o + 8) G G11 → ((10 * f ≤ s11 ∧ s11 ≤ 240) ∧ (SK G11 o f (gS G11 o 17)) ∧ (gS G11 o 9 = gS G o 9) ∧ (MI G11 o f) ∧ (MC G11 o f) ∧ (NO G11 o f)) → (240 - s11).toNat < n11 → WP kX3_reach X 96 [some (2, ((o : Nat) : Int)), some (2, ((n : Nat) : Int)), some (0, f), some (0, w), some (0, s11), none] [] G11 := by
                intro n11
                induction n11 with
                | zero => intro s11 G11 hCG11 hXG11 hFG11 hi11 hm11; exact absurd hm11 (Nat.not_lt_zero _)
                | succ n11 ih11 =>
                  intro s11 G11 hCG11 hXG11 hFG11 hi11 hm11
                  obtain ⟨is11, iSK11, hIG11, hMIG11, hMCG11, hNOG11⟩ := hi11
                  refine s_iload dX3_reach_96 rfl ?_
                  refine s_aload_n dX3_reach_98 rfl (Int.natCast_nonneg _) ?_
                  have hk14 : gK G11 (o) = (12, 0) := ((hXG11).k ((hXG9).k hk7 (by decide)) (by decide))
                  refine s_callV (as := []) (rest := [(0, s11)]) (n := o) (ci := 4) gX3_slotCount dX3_reach_99 m_1361 m_966 m_1693 m_717 m_314 ⟨by decide, by decide, show (parseMethodDescriptor yX3_slotCount.desc).map (fun d => d.parameters.length) = some 0 from by decide +kernel⟩ (Nat.le_of_ble_eq_true rfl) (by rw [hcf]; exact Nat.le_of_ble_eq_true rfl) hk14 rfl rfl (Nat.le_of_ble_eq_true rfl) ⟨o, a, b, rfl, hCG11, hab, (by first | assumption | omega), fun rr12 hp13 => ?_⟩
                  show WP kX3_reach X 102 [some (2, ((o : Nat) : Int)), some (2, ((n : Nat) : Int)), some (0, f), some (0, w), some (0, s11), none] [(0, rr12), (0, s11)] G11
                  refine s_icmp_ge (tgt := 138) dX3_reach_102 (by decide) (fun c15 => ?_) (fun c15 => ?_)
                  · -- 102 to 138
                    refine s_iconst dX3_reach_138 (by decide) ?_
                    refine s_istore dX3_reach_139 (by decide) (lv' := [some (2, ((o : Nat) : Int)), some (2, ((n : Nat) : Int)), some (0, f), some (0, w), some (0, 0), none]) rfl ?_
                    have L16 : ∀ (n16 : Nat) (i16 : Int) (G16 : LG), CI a b G16 → KX G11 G16 → WX (fun x => x = o ∨ x = o + 6 ∨ x = o + 8) G G16 → ((0 ≤ i16 ∧ i16 ≤ 240) ∧ (SK G16 o f (gS G16 o 17)) ∧ (gS G16 o 9 = gS G o 9) ∧ (MI G16 o f) ∧ (MC G16 o f) ∧ (NO G16 o f)) → (240 - i16).toNat < n16 → WP kX3_reach X 141 [some (2, ((o : Nat) : Int)), some (2, ((n : Nat) : Int)), some (0, f), some (0, w), some (0, i16), none] [] G16 := by
                      intro n16
                      induction n16 with
                      | zero => intro i16 G16 hCG16 hXG16 hFG16 hi16 hm16; exact absurd hm16 (Nat.not_lt_zero _)
                      | succ n16 ih16 =>
                        intro i16 G16 hCG16 hXG16 hFG16 hi16 hm16
                        obtain ⟨ii16, iSK16, hIG16, hMIG16, hMCG16, hNOG16⟩ := hi16
                        have h1716 : 0 ≤ gS G16 o 17 ∧ gS G16 o 17 ≤ 240 := hCG16.1.v (c := 300) (j := 17) (by rcases ho with rfl | rfl <;> decide) (KX.al hXG16 alo) (by rw [hXG16.k kM (by decide)]; exact Nat.le_of_ble_eq_true rfl)
                        refine s_iload dX3_reach_141 rfl ?_
                        refine s_aload_n dX3_reach_143 rfl (Int.natCast_nonneg _) ?_
                        have hk17 : gK G16 (o) = (12, 0) := ((hXG16).k hk14 (by decide))
                        refine s_alv (o) (by simp) (fun (al19 : AL G16 o) => ?_)
                        have hv18 : 0 ≤ (gS G16 o 17) ∧ (gS G16 o 17) ≤ 240 := hCG16.1.v (j := 17) (by rw [cde_m (by omega) (by omega)]; omega : cde o = 300) al19 (by rw [hk17]; exact Nat.le_of_ble_eq_true rfl)
                        refine s_getf (ci := 4) (k := 17) (C := RX3) (T := TX3) (N := 18) (n := o) (L := 0) (t := 0) dX3_reach_144 rfl wi_71 m_605 (Nat.le_of_ble_eq_true rfl) rfl rfl hk17 rfl ?_
                        refine s_icmp_ge (tgt := 208) dX3_reach_147 (by decide) (fun c20 => ?_) (fun c20 => ?_)
                        · -- 147 to 208
                          exact s_vret hR dX3_reach_208 rfl (hQ G16 hCG16 (KX.trans (KX.trans (KX.trans (KX.trans (KX.trans hXG1 hXG3) hXG4) hXG9) hXG11) hXG16) hFG16 hIG16)
                        · -- 147 to 150
                          refine s_iconst dX3_reach_150 (by decide) ?_
                          refine s_istore dX3_reach_151 (by decide) (lv' := [some (2, ((o : Nat) : Int)), some (2, ((n : Nat) : Int)), some (0, f), some (0, w), some (0, i16), some (0, 0)]) rfl ?_
                          have L21 : ∀ (n21 : Nat) (k21 : Int) (G21 : LG), CI a b G21 → KX G16 G21 → WX (fun x => x = o ∨ x = o + 6 ∨ x = o + 8) G G21 → (((0 ≤ k21 ∧ k21 ≤ 10) ∧ i16 < gS G21 o 17) ∧ (SK G21 o f (gS G21 o 17)) ∧ (gS G21 o 9 = gS G o 9) ∧ (MI G21 o f) ∧ (MC G21 o f) ∧ (NO G21 o f)) → (10 - k21).toNat < n21 → WP kX3_reach X 153 [some (2, ((o : Nat) : Int)), some (2, ((n : Nat) : Int)), some (0, f), some (0, w), some (0, i16), some (0, k21)] [] G21 := by
                            intro n21
                            induction n21 with
                            | zero => intro k21 G21 hCG21 hXG21 hFG21 hi21 hm21; exact absurd hm21 (Nat.not_lt_zero _)
                            | succ n21 ih21 =>
                              intro k21 G21 hCG21 hXG21 hFG21 hi21 hm21
                              obtain ⟨ik21, iSK21, hIG21, hMIG21, hMCG21, hNOG21⟩ := hi21
                              refine s_iload dX3_reach_153 rfl ?_
                              refine s_bipush dX3_reach_155 rfl (by decide) ?_
                              refine s_icmp_ge (tgt := 202) dX3_reach_157 (by decide) (fun c22 => ?_) (fun c22 => ?_)
                              · -- 157 to 202
                                refine s_iinc dX3_reach_202 (v := i16) rfl (by omega) (by decide) (lv' := [some (2, ((o : Nat) : Int)), some (2, ((n : Nat) : Int)), some (0, f), some (0, w), some (0, i16 + 1), some (0, k21)]) rfl ?_
                                refine s_goto (tgt := 141) dX3_reach_205 (by decide) ?_
                                refine s_mask [true, true, true, true, true, false] (lv' := [some (2, ((o : Nat) : Int)), some (2, ((n : Nat) : Int)), some (0, f), some (0, w), some (0, i16 + 1), none]) rfl ?_
                                exact ih16 (i16 + 1) G21 hCG21 (KX.trans hXG16 hXG21) hFG21 (⟨(by omega), (by exact iSK21), (by exact hIG21), (by exact hMIG21), (by exact hMCG21), (by exact hNOG21)⟩) (by omega)
                              · -- 157 to 160
                                refine s_aload_n dX3_reach_160 rfl (Int.natCast_nonneg _) ?_
                                refine s_aload_n dX3_reach_161 rfl (Int.natCast_nonneg _) ?_
                                have hk23 : gK G21 (o) = (12, 0) := ((hXG21).k hk17 (by decide))
                                refine s_alv (o) (by simp) (fun (al24 : AL G21 o) => ?_)
                                have hv25 : gS G21 o 8 = ((o + 8 : Nat) : Int) := by have h9 : (gS G21 o 8) = (((o % 1048576) + 8 : Nat) : Int) := hCG21.1.v (j := 8) (by rw [cde_m (by omega) (by omega)]; omega : cde o = 300) al24 (by rw [hk23]; exact Nat.le_of_ble_eq_true rfl); omega
                                refine s_getf (ci := 4) (k := 8) (C := RX3) (T := TX3) (N := 18) (n := o) (L := 0) (t := 2) dX3_reach_162 rfl wi_71 m_617 (Nat.le_of_ble_eq_true rfl) rfl rfl hk23 hv25 ?_
                                refine s_iload dX3_reach_165 rfl ?_
                                have hsk := iSK21 i16 (by omega) (by omega)
                                have hk26 : gK G21 (o + 8) = (1, 240) := ((hXG21).k ((hXG16).k ((hXG11).k ((hXG9).k ((hXG4).k ((hXG3).k ((hXG1).k kM8 (by decide)) (by decide)) (by decide)) (by decide)) (by decide)) (by decide)) (by decide))
                                refine s_alv (o + 8) (by simp) (fun (al27 : AL G21 (o + 8)) => ?_)
                                have hv28 : 0 ≤ (gS G21 (o + 8) (i16 : Int).toNat) ∧ (gS G21 (o + 8) (i16 : Int).toNat) ≤ 239 := hCG21.1.v (j := (i16 : Int).toNat) (by rw [cde_m (by omega) (by omega)]; omega : cde (o + 8) = 308) al27 (by rw [hk26]; show (i16 : Int).toNat < 240; omega)
                                refine s_iald dX3_reach_167 hk26 (by omega) (by omega) rfl ?_
                                refine s_callV (as := [(0, gS G21 (o + 8) ((i16 : Int).toNat))]) (rest := []) (n := o) (ci := 4) gX3_refNames dX3_reach_168 m_1363 m_963 m_1690 m_717 m_311 ⟨by decide, by decide, show (parseMethodDescriptor yX3_refNames.desc).map (fun d => d.parameters.length) = some 1 from by decide +kernel⟩ (Nat.le_of_ble_eq_true rfl) (by rw [hcf]; exact Nat.le_of_ble_eq_true rfl) hk23 rfl rfl (Nat.le_of_ble_eq_true rfl) ⟨o, gS G21 (o + 8) ((i16 : Int).toNat), a, b, rfl, hCG21, hab, (by assumption), (by omega), (by omega), fun rr29 hp30 => ?_⟩
                                show WP kX3_reach X 171 [some (2, ((o : Nat) : Int)), some (2, ((n : Nat) : Int)), some (0, f), some (0, w), some (0, i16), some (0, k21)] [(0, rr29)] G21
                                refine s_iload dX3_reach_171 rfl ?_
                                refine s_callSN (own := RX3) rfl (by decide +kernel) (as := [(0, rr29), (0, k21)]) (rest := []) gX11_isIn dX3_reach_173 m_1777 m_714 m_97 ⟨by decide, by decide, show (parseMethodDescriptor yX11_isIn.desc).map (fun d => d.parameters.length) = some 2 from by decide +kernel⟩ (Nat.le_of_ble_eq_true rfl) (by rw [hcf]; exact Nat.le_of_ble_eq_true rfl) rfl (Nat.le_of_ble_eq_true rfl) ⟨rr29, k21, rfl, fun rr31 hp32 => ?_⟩
                                show WP kX3_reach X 176 [some (2, ((o : Nat) : Int)), some (2, ((n : Nat) : Int)), some (0, f), some (0, w), some (0, i16), some (0, k21)] [(0, rr31)] G21
                                refine s_if_eq (tgt := 196) dX3_reach_176 (by decide) (fun c33 => ?_) (fun c33 => ?_)
                                · -- 176 to 196
                                  refine s_iinc dX3_reach_196 (v := k21) rfl (by omega) (by decide) (lv' := [some (2, ((o : Nat) : Int)), some (2, ((n : Nat) : Int)), some (0, f), some (0, w), some (0, i16), some (0, k21 + 1)]) rfl ?_
                                  refine s_goto (tgt := 153) dX3_reach_199 (by decide) ?_
                                  exact ih21 (k21 + 1) G21 hCG21 hXG21 hFG21 (⟨(by omega), (by exact iSK21), (by exact hIG21), (by exact hMIG21), (by exact hMCG21), (by exact hNOG21)⟩) (by omega)
                                · -- 176 to 179
                                  refine s_aload_n dX3_reach_179 rfl (Int.natCast_nonneg _) ?_
                                  refine s_aload_n dX3_reach_180 rfl (Int.natCast_nonneg _) ?_
                                  refine s_aload_n dX3_reach_181 rfl (Int.natCast_nonneg _) ?_
                                  have hv34 : gS G21 o 8 = ((o + 8 : Nat) : Int) := by have h9 : (gS G21 o 8) = (((o % 1048576) + 8 : Nat) : Int) := hCG21.1.v (j := 8) (by rw [cde_m (by omega) (by omega)]; omega : cde o = 300) al24 (by rw [hk23]; exact Nat.le_of_ble_eq_true rfl); omega
                                  refine s_getf (ci := 4) (k := 8) (C := RX3) (T := TX3) (N := 18) (n := o) (L := 0) (t := 2) dX3_reach_182 rfl wi_71 m_617 (Nat.le_of_ble_eq_true rfl) rfl rfl hk23 hv34 ?_
                                  refine s_iload dX3_reach_185 rfl ?_
                                  have hv35 : 0 ≤ (gS G21 (o + 8) (i16 : Int).toNat) ∧ (gS G21 (o + 8) (i16 : Int).toNat) ≤ 239 := hCG21.1.v (j := (i16 : Int).toNat) (by rw [cde_m (by omega) (by omega)]; omega : cde (o + 8) = 308) al27 (by rw [hk26]; show (i16 : Int).toNat < 240; omega)
                                  refine s_iald dX3_reach_187 hk26 (by omega) (by omega) rfl ?_
                                  refine s_iload dX3_reach_188 rfl ?_
                                  refine s_callV (as := [(0, gS G21 (o + 8) ((i16 : Int).toNat)), (0, k21)]) (rest := [(2, ((o : Nat) : Int))]) (n := o) (ci := 4) gX3_target dX3_reach_190 m_1364 m_967 m_1694 m_717 m_315 ⟨by decide, by decide, show (parseMethodDescriptor yX3_target.desc).map (fun d => d.parameters.length) = some 2 from by decide +kernel⟩ (Nat.le_of_ble_eq_true rfl) (by rw [hcf]; exact Nat.le_of_ble_eq_true rfl) hk23 rfl rfl (Nat.le_of_ble_eq_true rfl) ⟨o, gS G21 (o + 8) ((i16 : Int).toNat), k21, a, b, rfl, hCG21, hab, (by assumption), (by omega), (by omega), fun rr36 hp37 => ?_⟩
                                  show WP kX3_reach X 193 [some (2, ((o : Nat) : Int)), some (2, ((n : Nat) : Int)), some (0, f), some (0, w), some (0, i16), some (0, k21)] [(0, rr36), (2, ((o : Nat) : Int))] G21
                                  have hmc := hMCG21 (gS G21 (o + 8) (i16 : Int).toNat - gS G21 (o + 8) (i16 : Int).toNat % 10 + k21) (by omega) (by omega)
                                  refine s_callV (as := [(0, rr36)]) (rest := []) (n := o) (ci := 4) gX3_reachCell dX3_reach_193 m_1366 m_962 m_1689 m_717 m_310 ⟨by decide, by decide, show (parseMethodDescriptor yX3_reachCell.desc).map (fun d => d.parameters.length) = some 1 from by decide +kernel⟩ (Nat.le_of_ble_eq_true rfl) (by rw [hcf]; exact Nat.le_of_ble_eq_true rfl) hk23 rfl rfl (Nat.le_of_ble_eq_true rfl) ⟨o, rr36, f, a, b, rfl, hCG21, hab, (by first | assumption | omega), (by first | assumption | omega), (by first | assumption | omega), (by first | assumption | omega), fun G38 hCG38 hXG38 hfG38 hpG38 => ?_⟩
                                  have hFG38 : WX (fun x => x = o ∨ x = o + 6 ∨ x = o + 8) G G38 := WX.trans hFG21 (KX.trans (KX.trans (KX.trans (KX.trans (KX.trans (KX.trans hXG1 hXG3) hXG4) hXG9) hXG11) hXG16) hXG21) (WX.mono hfG38 rg6)
                                  have hIG38 : gS G38 o 9 = gS G o 9 := (hpG38.2.2 9 (by decide)).trans hIG21
                                  have hMIG38 : MI G38 o f := hMIG21.cg (hpG38.2.2 9 (by decide)) (hfG38 (o + 1) (KX.al (KX.trans (KX.trans (KX.trans (KX.trans (KX.trans (KX.trans hXG1 hXG3) hXG4) hXG9) hXG11) hXG16) hXG21) (kne kM1 (by decide))) rg7) (hfG38 (o + 3) (KX.al (KX.trans (KX.trans (KX.trans (KX.trans (KX.trans (KX.trans hXG1 hXG3) hXG4) hXG9) hXG11) hXG16) hXG21) (kne kM3 (by decide))) rg8) (hfG38 (o + 4) (KX.al (KX.trans (KX.trans (KX.trans (KX.trans (KX.trans (KX.trans hXG1 hXG3) hXG4) hXG9) hXG11) hXG16) hXG21) (kne kM4 (by decide))) rg9) (congrFun (hfG38 (327681) (KX.al (KX.trans (KX.trans (KX.trans (KX.trans (KX.trans (KX.trans hXG1 hXG3) hXG4) hXG9) hXG11) hXG16) hXG21) (kne kMp (by decide))) rg10) 12)
                                  have hMCG38 : MC G38 o f := hMCG21.cg (hpG38.2.2 9 (by decide)) (hfG38 (o + 1) (KX.al (KX.trans (KX.trans (KX.trans (KX.trans (KX.trans (KX.trans hXG1 hXG3) hXG4) hXG9) hXG11) hXG16) hXG21) (kne kM1 (by decide))) rg7) (hfG38 (o + 5) (KX.al (KX.trans (KX.trans (KX.trans (KX.trans (KX.trans (KX.trans hXG1 hXG3) hXG4) hXG9) hXG11) hXG16) hXG21) (kne kM5 (by decide))) rg11)
                                  have hNOG38 : NO G38 o f := hNOG21.cg (hpG38.2.2 9 (by decide)) (hfG38 (o + 1) (KX.al (KX.trans (KX.trans (KX.trans (KX.trans (KX.trans (KX.trans hXG1 hXG3) hXG4) hXG9) hXG11) hXG16) hXG21) (kne kM1 (by decide))) rg7) (hfG38 (o + 5) (KX.al (KX.trans (KX.trans (KX.trans (KX.trans (KX.trans (KX.trans hXG1 hXG3) hXG4) hXG9) hXG11) hXG16) hXG21) (kne kM5 (by decide))) rg11) (hfG38 (327706) (KX.al (KX.trans (KX.trans (KX.trans (KX.trans (KX.trans (KX.trans hXG1 hXG3) hXG4) hXG9) hXG11) hXG16) hXG21) (kne kMp10 (by decide))) rg12)
                                  show WP kX3_reach X 196 [some (2, ((o : Nat) : Int)), some (2, ((n : Nat) : Int)), some (0, f), some (0, w), some (0, i16), some (0, k21)] [] G38
                                  refine s_iinc dX3_reach_196 (v := k21) rfl (by omega) (by decide) (lv' := [some (2, ((o : Nat) : Int)), some (2, ((n : Nat) : Int)), some (0, f), some (0, w), some (0, i16), some (0, k21 + 1)]) rfl ?_
                                  refine s_goto (tgt := 153) dX3_reach_199 (by decide) ?_
                                  exact ih21 (k21 + 1) G38 hCG38 (KX.trans hXG21 hXG38) hFG38 (⟨(by omega), (by exact hpG38.1), (by exact hIG38), (by exact hMIG38), (by exact hMCG38), (by exact hNOG38)⟩) (by omega)
                          exact L21 _ 0 G16 hCG16 KX.rf hFG16 (⟨(by omega), (by exact iSK16), (by exact hIG16), (by exact hMIG16), (by exact hMCG16), (by exact hNOG16)⟩) (Nat.lt_succ_self _)
                    exact L16 _ 0 G11 hCG11 KX.rf hFG11 (⟨(by omega), (by exact iSK11), (by exact hIG11), (by exact hMIG11), (by exact hMCG11), (by exact hNOG11)⟩) (Nat.lt_succ_self _)
                  · -- 102 to 105
                    refine s_aload_n dX3_reach_105 rfl (Int.natCast_nonneg _) ?_
                    refine s_iload dX3_reach_106 rfl ?_
                    refine s_callV (as := [(0, s11)]) (rest := []) (n := o) (ci := 4) gX3_isCell dX3_reach_108 m_1362 m_955 m_1682 m_717 m_303 ⟨by decide, by decide, show (parseMethodDescriptor yX3_isCell.desc).map (fun d => d.parameters.length) = some 1 from by decide +kernel⟩ (Nat.le_of_ble_eq_true rfl) (by rw [hcf]; exact Nat.le_of_ble_eq_true rfl) hk14 rfl rfl (Nat.le_of_ble_eq_true rfl) ⟨o, s11, a, b, rfl, hCG11, hab, (by first | assumption | omega), (by first | assumption | omega), fun rr40 hp41 => ?_⟩
                    show WP kX3_reach X 111 [some (2, ((o : Nat) : Int)), some (2, ((n : Nat) : Int)), some (0, f), some (0, w), some (0, s11), none] [(0, rr40)] G11
                    refine s_if_eq (tgt := 132) dX3_reach_111 (by decide) (fun c42 => ?_) (fun c42 => ?_)
                    · -- 111 to 132
                      refine s_iinc dX3_reach_132 (v := s11) rfl (by omega) (by decide) (lv' := [some (2, ((o : Nat) : Int)), some (2, ((n : Nat) : Int)), some (0, f), some (0, w), some (0, s11 + 1), none]) rfl ?_
                      refine s_goto (tgt := 96) dX3_reach_135 (by decide) ?_
                      exact ih11 (s11 + 1) G11 hCG11 hXG11 hFG11 (⟨(by omega), (by exact iSK11), (by exact hIG11), (by exact hMIG11), (by exact hMCG11), (by exact hNOG11)⟩) (by omega)
                    · -- 111 to 114
                      refine s_aload_n dX3_reach_114 rfl (Int.natCast_nonneg _) ?_
                      refine s_alv (o) (by simp) (fun (al43 : AL G11 o) => ?_)
                      have hv44 : gS G11 o 2 = ((o + 2 : Nat) : Int) := by have h9 : (gS G11 o 2) = (((o % 1048576) + 2 : Nat) : Int) := hCG11.1.v (j := 2) (by rw [cde_m (by omega) (by omega)]; omega : cde o = 300) al43 (by rw [hk14]; exact Nat.le_of_ble_eq_true rfl); omega
                      refine s_getf (ci := 4) (k := 2) (C := RX3) (T := TX3) (N := 18) (n := o) (L := 0) (t := 2) dX3_reach_115 rfl wi_71 m_598 (Nat.le_of_ble_eq_true rfl) rfl rfl hk14 hv44 ?_
                      refine s_iload dX3_reach_118 rfl ?_
                      have hk45 : gK G11 (o + 2) = (1, 240) := ((hXG11).k ((hXG9).k ((hXG4).k ((hXG3).k ((hXG1).k kM2 (by decide)) (by decide)) (by decide)) (by decide)) (by decide))
                      refine s_iald dX3_reach_120 hk45 (by omega) (by omega) rfl ?_
                      refine s_iconst dX3_reach_121 (by decide) ?_
                      refine s_iand dX3_reach_122 ?_
                      refine s_if_eq (tgt := 132) dX3_reach_123 (by decide) (fun c46 => ?_) (fun c46 => ?_)
                      · -- 123 to 132
                        refine s_iinc dX3_reach_132 (v := s11) rfl (by omega) (by decide) (lv' := [some (2, ((o : Nat) : Int)), some (2, ((n : Nat) : Int)), some (0, f), some (0, w), some (0, s11 + 1), none]) rfl ?_
                        refine s_goto (tgt := 96) dX3_reach_135 (by decide) ?_
                        exact ih11 (s11 + 1) G11 hCG11 hXG11 hFG11 (⟨(by omega), (by exact iSK11), (by exact hIG11), (by exact hMIG11), (by exact hMCG11), (by exact hNOG11)⟩) (by omega)
                      · -- 123 to 126
                        refine s_aload_n dX3_reach_126 rfl (Int.natCast_nonneg _) ?_
                        refine s_iload dX3_reach_127 rfl ?_
                        refine s_callV (as := [(0, s11)]) (rest := []) (n := o) (ci := 4) gX3_reachCell dX3_reach_129 m_1366 m_962 m_1689 m_717 m_310 ⟨by decide, by decide, show (parseMethodDescriptor yX3_reachCell.desc).map (fun d => d.parameters.length) = some 1 from by decide +kernel⟩ (Nat.le_of_ble_eq_true rfl) (by rw [hcf]; exact Nat.le_of_ble_eq_true rfl) hk14 rfl rfl (Nat.le_of_ble_eq_true rfl) ⟨o, s11, f, a, b, rfl, hCG11, hab, (by assumption), (by omega), (by omega), (by exact iSK11), fun G47 hCG47 hXG47 hfG47 hpG47 => ?_⟩
                        have hFG47 : WX (fun x => x = o ∨ x = o + 6 ∨ x = o + 8) G G47 := WX.trans hFG11 (KX.trans (KX.trans (KX.trans (KX.trans hXG1 hXG3) hXG4) hXG9) hXG11) (WX.mono hfG47 rg6)
                        have hIG47 : gS G47 o 9 = gS G o 9 := (hpG47.2.2 9 (by decide)).trans hIG11
                        have hMIG47 : MI G47 o f := hMIG11.cg (hpG47.2.2 9 (by decide)) (hfG47 (o + 1) (KX.al (KX.trans (KX.trans (KX.trans (KX.trans hXG1 hXG3) hXG4) hXG9) hXG11) (kne kM1 (by decide))) rg7) (hfG47 (o + 3) (KX.al (KX.trans (KX.trans (KX.trans (KX.trans hXG1 hXG3) hXG4) hXG9) hXG11) (kne kM3 (by decide))) rg8) (hfG47 (o + 4) (KX.al (KX.trans (KX.trans (KX.trans (KX.trans hXG1 hXG3) hXG4) hXG9) hXG11) (kne kM4 (by decide))) rg9) (congrFun (hfG47 (327681) (KX.al (KX.trans (KX.trans (KX.trans (KX.trans hXG1 hXG3) hXG4) hXG9) hXG11) (kne kMp (by decide))) rg10) 12)
                        have hMCG47 : MC G47 o f := hMCG11.cg (hpG47.2.2 9 (by decide)) (hfG47 (o + 1) (KX.al (KX.trans (KX.trans (KX.trans (KX.trans hXG1 hXG3) hXG4) hXG9) hXG11) (kne kM1 (by decide))) rg7) (hfG47 (o + 5) (KX.al (KX.trans (KX.trans (KX.trans (KX.trans hXG1 hXG3) hXG4) hXG9) hXG11) (kne kM5 (by decide))) rg11)
                        have hNOG47 : NO G47 o f := hNOG11.cg (hpG47.2.2 9 (by decide)) (hfG47 (o + 1) (KX.al (KX.trans (KX.trans (KX.trans (KX.trans hXG1 hXG3) hXG4) hXG9) hXG11) (kne kM1 (by decide))) rg7) (hfG47 (o + 5) (KX.al (KX.trans (KX.trans (KX.trans (KX.trans hXG1 hXG3) hXG4) hXG9) hXG11) (kne kM5 (by decide))) rg11) (hfG47 (327706) (KX.al (KX.trans (KX.trans (KX.trans (KX.trans hXG1 hXG3) hXG4) hXG9) hXG11) (kne kMp10 (by decide))) rg12)
                        show WP kX3_reach X 132 [some (2, ((o : Nat) : Int)), some (2, ((n : Nat) : Int)), some (0, f), some (0, w), some (0, s11), none] [] G47
                        refine s_iinc dX3_reach_132 (v := s11) rfl (by omega) (by decide) (lv' := [some (2, ((o : Nat) : Int)), some (2, ((n : Nat) : Int)), some (0, f), some (0, w), some (0, s11 + 1), none]) rfl ?_
                        refine s_goto (tgt := 96) dX3_reach_135 (by decide) ?_
                        exact ih11 (s11 + 1) G47 hCG47 (KX.trans hXG11 hXG47) hFG47 (⟨(by omega), (by exact hpG47.1), (by exact hIG47), (by exact hMIG47), (by exact hMCG47), (by exact hNOG47)⟩) (by omega)
              exact L11 _ (f * 10) G9 hCG9 KX.rf hFG9 (⟨(by omega), (by exact iSK9), (by exact hIG9), (by exact hMIG9), (by exact hMCG9), (by exact hNOG9)⟩) (Nat.lt_succ_self _)
            · -- 69 to 72
              refine s_aload_n dX3_reach_72 rfl (Int.natCast_nonneg _) ?_
              refine s_aload_n dX3_reach_73 rfl (Int.natCast_nonneg _) ?_
              refine s_aload_n dX3_reach_74 rfl (Int.natCast_nonneg _) ?_
              refine s_iload_n dX3_reach_75 rfl ?_
              refine s_iload dX3_reach_76 rfl ?_
              have hk51 : gK G9 (o) = (12, 0) := ((hXG9).k hk7 (by decide))
              refine s_callV (as := [(2, ((n : Nat) : Int)), (0, w), (0, k9)]) (rest := [(2, ((o : Nat) : Int))]) (n := o) (ci := 4) gX3_faceCell dX3_reach_78 m_1380 m_946 m_1674 m_717 m_294 ⟨by decide, by decide, show (parseMethodDescriptor yX3_faceCell.desc).map (fun d => d.parameters.length) = some 3 from by decide +kernel⟩ (Nat.le_of_ble_eq_true rfl) (by rw [hcf]; exact Nat.le_of_ble_eq_true rfl) hk51 rfl rfl (Nat.le_of_ble_eq_true rfl) ⟨o, n, w, k9, f, a, b, rfl, hCG9, hab, (by assumption), (by assumption), (by omega), (by exact hMIG9), (by exact hMCG9), (by omega), (by omega), fun rr49 hp50 => ?_⟩
              show WP kX3_reach X 81 [some (2, ((o : Nat) : Int)), some (2, ((n : Nat) : Int)), some (0, f), some (0, w), some (0, k9), none] [(0, rr49), (2, ((o : Nat) : Int))] G9
              refine s_callV (as := [(0, rr49)]) (rest := []) (n := o) (ci := 4) gX3_reachCell dX3_reach_81 m_1366 m_962 m_1689 m_717 m_310 ⟨by decide, by decide, show (parseMethodDescriptor yX3_reachCell.desc).map (fun d => d.parameters.length) = some 1 from by decide +kernel⟩ (Nat.le_of_ble_eq_true rfl) (by rw [hcf]; exact Nat.le_of_ble_eq_true rfl) hk51 rfl rfl (Nat.le_of_ble_eq_true rfl) ⟨o, rr49, f, a, b, rfl, hCG9, hab, (by assumption), (by omega), (by omega), (by exact iSK9), fun G52 hCG52 hXG52 hfG52 hpG52 => ?_⟩
              have hFG52 : WX (fun x => x = o ∨ x = o + 6 ∨ x = o + 8) G G52 := WX.trans hFG9 (KX.trans (KX.trans (KX.trans hXG1 hXG3) hXG4) hXG9) (WX.mono hfG52 rg6)
              have hIG52 : gS G52 o 9 = gS G o 9 := (hpG52.2.2 9 (by decide)).trans hIG9
              have hMIG52 : MI G52 o f := hMIG9.cg (hpG52.2.2 9 (by decide)) (hfG52 (o + 1) (KX.al (KX.trans (KX.trans (KX.trans hXG1 hXG3) hXG4) hXG9) (kne kM1 (by decide))) rg7) (hfG52 (o + 3) (KX.al (KX.trans (KX.trans (KX.trans hXG1 hXG3) hXG4) hXG9) (kne kM3 (by decide))) rg8) (hfG52 (o + 4) (KX.al (KX.trans (KX.trans (KX.trans hXG1 hXG3) hXG4) hXG9) (kne kM4 (by decide))) rg9) (congrFun (hfG52 (327681) (KX.al (KX.trans (KX.trans (KX.trans hXG1 hXG3) hXG4) hXG9) (kne kMp (by decide))) rg10) 12)
              have hMCG52 : MC G52 o f := hMCG9.cg (hpG52.2.2 9 (by decide)) (hfG52 (o + 1) (KX.al (KX.trans (KX.trans (KX.trans hXG1 hXG3) hXG4) hXG9) (kne kM1 (by decide))) rg7) (hfG52 (o + 5) (KX.al (KX.trans (KX.trans (KX.trans hXG1 hXG3) hXG4) hXG9) (kne kM5 (by decide))) rg11)
              have hNOG52 : NO G52 o f := hNOG9.cg (hpG52.2.2 9 (by decide)) (hfG52 (o + 1) (KX.al (KX.trans (KX.trans (KX.trans hXG1 hXG3) hXG4) hXG9) (kne kM1 (by decide))) rg7) (hfG52 (o + 5) (KX.al (KX.trans (KX.trans (KX.trans hXG1 hXG3) hXG4) hXG9) (kne kM5 (by decide))) rg11) (hfG52 (327706) (KX.al (KX.trans (KX.trans (KX.trans hXG1 hXG3) hXG4) hXG9) (kne kMp10 (by decide))) rg12)
              show WP kX3_reach X 84 [some (2, ((o : Nat) : Int)), some (2, ((n : Nat) : Int)), some (0, f), some (0, w), some (0, k9), none] [] G52
              refine s_iinc dX3_reach_84 (v := k9) rfl (by omega) (by decide) (lv' := [some (2, ((o : Nat) : Int)), some (2, ((n : Nat) : Int)), some (0, f), some (0, w), some (0, k9 + 1), none]) rfl ?_
              refine s_goto (tgt := 65) dX3_reach_87 (by decide) ?_
              exact ih9 (k9 + 1) G52 hCG52 (KX.trans hXG9 hXG52) hFG52 (⟨(by omega), (by exact hpG52.1), (by exact hIG52), (by exact hMIG52), (by exact hMCG52), (by exact hNOG52)⟩) (by omega)
        exact L9 _ 0 G4 hCG4 KX.rf hFG4 (⟨(by omega), (by intro j h0 h1; omega), (by exact hIG4), (by exact hMIG4), (by exact hMCG4), (by exact hNOG4)⟩) (Nat.lt_succ_self _)
      · -- 22 to 25
        refine s_aload_n dX3_reach_25 rfl (Int.natCast_nonneg _) ?_
        refine s_alv (o) (by simp) (fun (al54 : AL G4 o) => ?_)
        have hv55 : gS G4 o 6 = ((o + 6 : Nat) : Int) := by have h9 : (gS G4 o 6) = (((o % 1048576) + 6 : Nat) : Int) := hCG4.1.v (j := 6) (by rw [cde_m (by omega) (by omega)]; omega : cde o = 300) al54 (by rw [hk7]; exact Nat.le_of_ble_eq_true rfl); omega
        refine s_getf (ci := 4) (k := 6) (C := RX3) (T := TX3) (N := 18) (n := o) (L := 0) (t := 2) dX3_reach_26 rfl wi_71 m_615 (Nat.le_of_ble_eq_true rfl) rfl rfl hk7 hv55 ?_
        refine s_iload dX3_reach_29 rfl ?_
        refine s_iconst dX3_reach_31 (by decide) ?_
        have hk56 : gK G4 (o + 6) = (2, 240) := ((hXG4).k ((hXG3).k ((hXG1).k kM6 (by decide)) (by decide)) (by decide))
        refine s_bast dX3_reach_32 hk56 (by omega) (by omega) (by omega) ?_
        generalize eG57r : gset G4 (o + 6) ((s4 : Int).toNat) 0 = G57
        have eG57 := eG57r.symm
        have hCG57 : CI a b G57 := by rw [eG57]; exact hCG4.set (by rw [(by rw [cde_m (by omega) (by omega)]; omega : cde (o + 6) = 306)]; rfl) (by rw [(by rw [cde_m (by omega) (by omega)]; omega : cde (o + 6) = 306)]; exact trivial)
        have hXG57 : KX G4 G57 := KX.set KX.rf eG57
        have hFG57 : WX (fun x => x = o ∨ x = o + 6 ∨ x = o + 8) G G57 := WX.set hFG4 eG57 (by show _; omega)
        have hfG57 : WX (fun x => x = (o + 6) % 1048576) G4 G57 := WX.set WX.rf eG57 rfl
        have hIG57 : gS G57 o 9 = gS G o 9 := (congrFun (hfG57 (o) (KX.al (KX.trans (KX.trans hXG1 hXG3) hXG4) (kne kM (by decide))) rg13) 9).trans hIG4
        have hMIG57 : MI G57 o f := hMIG4.cg (congrFun (hfG57 (o) (KX.al (KX.trans (KX.trans hXG1 hXG3) hXG4) (kne kM (by decide))) rg13) 9) (hfG57 (o + 1) (KX.al (KX.trans (KX.trans hXG1 hXG3) hXG4) (kne kM1 (by decide))) rg14) (hfG57 (o + 3) (KX.al (KX.trans (KX.trans hXG1 hXG3) hXG4) (kne kM3 (by decide))) rg15) (hfG57 (o + 4) (KX.al (KX.trans (KX.trans hXG1 hXG3) hXG4) (kne kM4 (by decide))) rg16) (congrFun (hfG57 (327681) (KX.al (KX.trans (KX.trans hXG1 hXG3) hXG4) (kne kMp (by decide))) rg17) 12)
        have hMCG57 : MC G57 o f := hMCG4.cg (congrFun (hfG57 (o) (KX.al (KX.trans (KX.trans hXG1 hXG3) hXG4) (kne kM (by decide))) rg13) 9) (hfG57 (o + 1) (KX.al (KX.trans (KX.trans hXG1 hXG3) hXG4) (kne kM1 (by decide))) rg14) (hfG57 (o + 5) (KX.al (KX.trans (KX.trans hXG1 hXG3) hXG4) (kne kM5 (by decide))) rg18)
        have hNOG57 : NO G57 o f := hNOG4.cg (congrFun (hfG57 (o) (KX.al (KX.trans (KX.trans hXG1 hXG3) hXG4) (kne kM (by decide))) rg13) 9) (hfG57 (o + 1) (KX.al (KX.trans (KX.trans hXG1 hXG3) hXG4) (kne kM1 (by decide))) rg14) (hfG57 (o + 5) (KX.al (KX.trans (KX.trans hXG1 hXG3) hXG4) (kne kM5 (by decide))) rg18) (hfG57 (327706) (KX.al (KX.trans (KX.trans hXG1 hXG3) hXG4) (kne kMp10 (by decide))) rg19)
        show WP kX3_reach X 33 [some (2, ((o : Nat) : Int)), some (2, ((n : Nat) : Int)), some (0, f), some (0, w), some (0, s4), none] [] G57
        refine s_aload_n dX3_reach_33 rfl (Int.natCast_nonneg _) ?_
        refine s_dup dX3_reach_34 (show (2 : Nat) ≠ 1 by decide) ?_
        have hk58 : gK G57 (o) = (12, 0) := ((hXG57).k hk7 (by decide))
        refine s_alv (o) (by simp) (fun (al60 : AL G57 o) => ?_)
        have hv59 : 0 ≤ (gS G57 o 16) ∧ (gS G57 o 16) ≤ 240 := hCG57.1.v (j := 16) (by rw [cde_m (by omega) (by omega)]; omega : cde o = 300) al60 (by rw [hk58]; exact Nat.le_of_ble_eq_true rfl)
        refine s_getf (ci := 4) (k := 16) (C := RX3) (T := TX3) (N := 18) (n := o) (L := 0) (t := 0) dX3_reach_35 rfl wi_71 m_604 (Nat.le_of_ble_eq_true rfl) rfl rfl hk58 rfl ?_
        refine s_aload_n dX3_reach_38 rfl (Int.natCast_nonneg _) ?_
        refine s_iload dX3_reach_39 rfl ?_
        refine s_callV (as := [(0, s4)]) (rest := [(0, gS G57 o 16), (2, ((o : Nat) : Int))]) (n := o) (ci := 4) gX3_isCell dX3_reach_41 m_1362 m_955 m_1682 m_717 m_303 ⟨by decide, by decide, show (parseMethodDescriptor yX3_isCell.desc).map (fun d => d.parameters.length) = some 1 from by decide +kernel⟩ (Nat.le_of_ble_eq_true rfl) (by rw [hcf]; exact Nat.le_of_ble_eq_true rfl) hk58 rfl rfl (Nat.le_of_ble_eq_true rfl) ⟨o, s4, a, b, rfl, hCG57, hab, (by first | assumption | omega), (by first | assumption | omega), fun rr61 hp62 => ?_⟩
        show WP kX3_reach X 44 [some (2, ((o : Nat) : Int)), some (2, ((n : Nat) : Int)), some (0, f), some (0, w), some (0, s4), none] [(0, rr61), (0, gS G57 o 16), (2, ((o : Nat) : Int))] G57
        have J64 : ∀ z63 : Int, ((rr61 = 0) ∧ z63 = 0) ∨ ((¬ rr61 = 0) ∧ z63 = 1) → WP kX3_reach X 52 [some (2, ((o : Nat) : Int)), some (2, ((n : Nat) : Int)), some (0, f), some (0, w), some (0, s4), none] [(0, z63), (0, gS G57 o 16), (2, ((o : Nat) : Int))] G57 := by
          intro z63 hz63
          refine s_iadd dX3_reach_52 (by omega) ?_
          refine s_putf (ci := 4) (k := 16) (C := RX3) (T := TX3) (N := 18) (n := o) (L := 0) dX3_reach_53 rfl wi_71 m_604 (Nat.le_of_ble_eq_true rfl) rfl rfl tyX3_ok nmX3 rfl (Or.inl rfl) hk58 ?_
          generalize eG65r : gset G57 o 16 ((gS G57 o 16) + z63) = G65
          have eG65 := eG65r.symm
          have hCG65 : CI a b G65 := by rw [eG65]; exact hCG57.set (by rw [(by rw [cde_m (by omega) (by omega)]; omega : cde o = 300)]; rfl) (by rw [(by rw [cde_m (by omega) (by omega)]; omega : cde o = 300)]; exact (show 0 ≤ ((gS G57 o 16) + z63) ∧ ((gS G57 o 16) + z63) ≤ 240 from by omega))
          have hXG65 : KX G57 G65 := KX.set KX.rf eG65
          have hFG65 : WX (fun x => x = o ∨ x = o + 6 ∨ x = o + 8) G G65 := WX.set hFG57 eG65 (by show _; omega)
          have hfG65 : WX (fun x => x = o % 1048576) G57 G65 := WX.set WX.rf eG65 rfl
          have hIG65 : gS G65 o 9 = gS G o 9 := (show gS G65 o 9 = gS G57 o 9 from by rw [eG65, gset_ne _ _ (fun z => absurd z.2 (by decide))]).trans hIG57
          have hMIG65 : MI G65 o f := hMIG57.cg (show gS G65 o 9 = gS G57 o 9 from by rw [eG65, gset_ne _ _ (fun z => absurd z.2 (by decide))]) (hfG65 (o + 1) (KX.al (KX.trans (KX.trans (KX.trans hXG1 hXG3) hXG4) hXG57) (kne kM1 (by decide))) rg0) (hfG65 (o + 3) (KX.al (KX.trans (KX.trans (KX.trans hXG1 hXG3) hXG4) hXG57) (kne kM3 (by decide))) rg1) (hfG65 (o + 4) (KX.al (KX.trans (KX.trans (KX.trans hXG1 hXG3) hXG4) hXG57) (kne kM4 (by decide))) rg2) (congrFun (hfG65 (327681) (KX.al (KX.trans (KX.trans (KX.trans hXG1 hXG3) hXG4) hXG57) (kne kMp (by decide))) rg3) 12)
          have hMCG65 : MC G65 o f := hMCG57.cg (show gS G65 o 9 = gS G57 o 9 from by rw [eG65, gset_ne _ _ (fun z => absurd z.2 (by decide))]) (hfG65 (o + 1) (KX.al (KX.trans (KX.trans (KX.trans hXG1 hXG3) hXG4) hXG57) (kne kM1 (by decide))) rg0) (hfG65 (o + 5) (KX.al (KX.trans (KX.trans (KX.trans hXG1 hXG3) hXG4) hXG57) (kne kM5 (by decide))) rg4)
          have hNOG65 : NO G65 o f := hNOG57.cg (show gS G65 o 9 = gS G57 o 9 from by rw [eG65, gset_ne _ _ (fun z => absurd z.2 (by decide))]) (hfG65 (o + 1) (KX.al (KX.trans (KX.trans (KX.trans hXG1 hXG3) hXG4) hXG57) (kne kM1 (by decide))) rg0) (hfG65 (o + 5) (KX.al (KX.trans (KX.trans (KX.trans hXG1 hXG3) hXG4) hXG57) (kne kM5 (by decide))) rg4) (hfG65 (327706) (KX.al (KX.trans (KX.trans (KX.trans hXG1 hXG3) hXG4) hXG57) (kne kMp10 (by decide))) rg5)
          show WP kX3_reach X 56 [some (2, ((o : Nat) : Int)), some (2, ((n : Nat) : Int)), some (0, f), some (0, w), some (0, s4), none] [] G65
          have w16 := gsaE eG65
          have w17 : gS G65 o 17 = gS G4 o 17 := by rw [eG65, gset_ne _ _ (fun z => absurd z.2 (by decide)), eG57, gset_ne _ _ (fun z => by omega)]
          refine s_iinc dX3_reach_56 (v := s4) rfl (by omega) (by decide) (lv' := [some (2, ((o : Nat) : Int)), some (2, ((n : Nat) : Int)), some (0, f), some (0, w), some (0, s4 + 1), none]) rfl ?_
          refine s_goto (tgt := 16) dX3_reach_59 (by decide) ?_
          exact ih4 (s4 + 1) G65 hCG65 (KX.trans (KX.trans hXG4 hXG57) hXG65) hFG65 (⟨(by omega), (by omega), (by exact hIG65), (by exact hMIG65), (by exact hMCG65), (by exact hNOG65)⟩) (by omega)
        refine s_if_eq (tgt := 51) dX3_reach_44 (by decide) (fun c66 => ?_) (fun c66 => ?_)
        · -- 44 to 51
          refine s_iconst dX3_reach_51 (by decide) ?_
          exact J64 0 (Or.inl ⟨c66, rfl⟩)
        · -- 44 to 47
          refine s_iconst dX3_reach_47 (by decide) ?_
          refine s_goto (tgt := 52) dX3_reach_48 (by decide) ?_
          exact J64 1 (Or.inr (⟨c66, rfl⟩))
  exact L4 _ (f * 10) G3 hCG3 KX.rf hFG3 (⟨(by omega), (by omega), (by exact hIG3), (by exact hMIG3), (by exact hMCG3), (by exact hNOG3)⟩) (Nat.lt_succ_self _)
