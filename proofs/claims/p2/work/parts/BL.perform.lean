abbrev kX3_perform : KD := (RX3, cX3_perform, 5, (some .int), [])
def TX3_perform : TR := fun as G Qr => ∃ (o n i : Nat) (a b : Nat), as = [(2, ((o : Nat) : Int)), (2, ((n : Nat) : Int))] ∧ CI a b G ∧ (a ≤ 2840000 ∧ b ≤ 590000) ∧ (isMc o) ∧ (n = 65536 + 64 * i) ∧ ((i : Int) < nN G) ∧ ∀ (r : Int) (G' : LG), CI a b G' → KX G G' → WX (fun x => (o ≤ x ∧ x ≤ o + 8) ∨ x = o + 13 ∨ x = o + 15 ∨ (o + 20 ≤ x ∧ x ≤ o + 24)) G G' → (True) → Qr (.inl (some (0, r))) G'
set_option maxHeartbeats 4000000 in
set_option maxRecDepth 100000 in
theorem gX3_perform : Good kX3_perform yX3_perform 186 TX3_perform := by
  refine good_of (by decide) rfl rfl (fun as G Qr h => ?_) (fun X as G Qr hcf hR hT oa => ?_)
  · obtain ⟨o, n, i, a, b, rfl, -⟩ := h; exact Nat.le_of_ble_eq_true rfl
  obtain ⟨o, n, i, a, b, rfl, hC, hab, ho, hni, hnn, hQ⟩ := hT
  show WP kX3_perform X 0 [some (2, ((o : Nat) : Int)), some (2, ((n : Nat) : Int)), none, none, none] [] G
  have rg0 : RM (fun x => (o ≤ x ∧ x ≤ o + 8) ∨ x = o + 13 ∨ (o + 20 ≤ x ∧ x ≤ o + 24)) (fun x => (o ≤ x ∧ x ≤ o + 8) ∨ x = o + 13 ∨ x = o + 15 ∨ (o + 20 ≤ x ∧ x ≤ o + 24)) := fun x hx => by (try dsimp only at hx ⊢); omega
  have rg1 : RNx (fun x => x = (o + 15) % 1048576) (o % 1048576) := by show ¬ _; omega
  have rg2 : RNx (fun x => x = (o + 15) % 1048576) ((o + 1) % 1048576) := by show ¬ _; omega
  have rg3 : RNx (fun x => x = (o + 15) % 1048576) ((o + 3) % 1048576) := by show ¬ _; omega
  have rg4 : RNx (fun x => x = (o + 15) % 1048576) ((o + 4) % 1048576) := by show ¬ _; omega
  have rg5 : RNx (fun x => x = (o + 15) % 1048576) (327681 % 1048576) := by show ¬ _; omega
  have rg6 : RNx (fun x => x = (o + 15) % 1048576) ((o + 5) % 1048576) := by show ¬ _; omega
  refine s_alvl o (k := 0) rfl (fun alo => ?_)
  refine s_lk (fun hlk => ?_)
  have hmn := hlk.mna hC ho alo
  obtain ⟨kM, kM1, kM2, kM3, kM4, kM5, kM6, kM7, kM8, kM13, kM15, kM20, kMp, kMp5, kMp6, kMp7, kMp8, kMp9, kMp10, kMp13, kMp14, kMp16⟩ := id hmn
  have hin : 0 ≤ gS G o 9 ∧ gS G o 9 ≤ 24 := hC.1.v (c := 300) (j := 9) (by rcases ho with rfl | rfl <;> decide) alo (by rw [kM]; exact Nat.le_of_ble_eq_true rfl)
  obtain ⟨hn40, hkn, pa, hpa, hpm, hpc, hkp, hpt, hu6, hr4⟩ := hC.nd hni hnn
  have hn : isNd n := by omega
  have hti1 : 0 ≤ gS G n 1 ∧ gS G n 1 ≤ 6 := hC.1.v (c := 100) (j := 1) (by rw [cde_n (by omega) (by omega)]; omega) (kne hkn (by decide)) (by rw [hkn]; exact Nat.le_of_ble_eq_true rfl)
  refine s_aload_n dX3_perform_0 rfl (Int.natCast_nonneg _) ?_
  refine s_iconst dX3_perform_1 (by decide) ?_
  refine s_putf (ci := 4) (k := 9) (C := RX3) (T := TX3) (N := 18) (n := o) (L := 0) dX3_perform_2 rfl wi_71 m_622 (Nat.le_of_ble_eq_true rfl) rfl rfl tyX3_ok nmX3 rfl (Or.inl rfl) kM ?_
  generalize eG1r : gset G o 9 0 = G1
  have eG1 := eG1r.symm
  have hCG1 : CI a b G1 := by rw [eG1]; exact hC.set (by rw [(by rw [cde_m (by omega) (by omega)]; omega : cde o = 300)]; rfl) (by rw [(by rw [cde_m (by omega) (by omega)]; omega : cde o = 300)]; exact (show 0 ≤ 0 ∧ 0 ≤ 24 from by omega))
  have hXG1 : KX G G1 := KX.set KX.rf eG1
  have hFG1 : WX (fun x => (o ≤ x ∧ x ≤ o + 8) ∨ x = o + 13 ∨ x = o + 15 ∨ (o + 20 ≤ x ∧ x ≤ o + 24)) G G1 := WX.set WX.rf eG1 (by show _; omega)
  have hfG1 : WX (fun x => x = o % 1048576) G G1 := WX.set WX.rf eG1 rfl
  show WP kX3_perform X 5 [some (2, ((o : Nat) : Int)), some (2, ((n : Nat) : Int)), none, none, none] [] G1
  have h90 : gS G1 o 9 = 0 := gsaE eG1
  have hn9 : nN G1 = nN G := by unfold nN; rw [gset_o eG1 (x := 327685) (by omega)]
  refine s_aload_n dX3_perform_5 rfl (Int.natCast_nonneg _) ?_
  refine s_aload_n dX3_perform_6 rfl (Int.natCast_nonneg _) ?_
  refine s_iconst dX3_perform_7 (by decide) ?_
  have hk4 : gK G1 (o) = (12, 0) := ((hXG1).k kM (by decide))
  refine s_callV (as := [(2, ((n : Nat) : Int)), (0, 0)]) (rest := []) (n := o) (ci := 4) gX3_runAloneT dX3_perform_8 m_1379 m_964 m_1691 m_717 m_312 ⟨by decide, by decide, show (parseMethodDescriptor yX3_runAlone.desc).map (fun d => d.parameters.length) = some 2 from by decide +kernel⟩ (Nat.le_of_ble_eq_true rfl) (by rw [hcf]; exact Nat.le_of_ble_eq_true rfl) hk4 rfl rfl (Nat.le_of_ble_eq_true rfl) ⟨o, n, i, 0, a, b, rfl, hCG1, hab, (by assumption), (by assumption), (by omega), (by omega), fun rr3 G2 hCG2 hXG2 hfG2 hpG2 => ?_⟩
  have hFG2 : WX (fun x => (o ≤ x ∧ x ≤ o + 8) ∨ x = o + 13 ∨ x = o + 15 ∨ (o + 20 ≤ x ∧ x ≤ o + 24)) G G2 := WX.trans hFG1 hXG1 (WX.mono hfG2 rg0)
  show WP kX3_perform X 11 [some (2, ((o : Nat) : Int)), some (2, ((n : Nat) : Int)), none, none, none] [(0, rr3)] G2
  refine s_istore_n dX3_perform_11 (by decide) (lv' := [some (2, ((o : Nat) : Int)), some (2, ((n : Nat) : Int)), some (0, rr3), none, none]) rfl ?_
  refine s_iload_n dX3_perform_12 rfl ?_
  refine s_if_ge (tgt := 21) dX3_perform_13 (by decide) (fun c5 => ?_) (fun c5 => ?_)
  · -- 13 to 21
    obtain ⟨hr1, hMIG2, hMCG2, hLOG2⟩ := hpG2.resolve_left (by omega)
    have hIG2 : gS G2 o 9 = gS G2 o 9 := rfl
    have h24 : gS G2 o 9 ≤ 24 := (hCG2.1.v (c := 300) (j := 9) (by rcases ho with rfl | rfl <;> decide) (KX.al (KX.trans hXG1 hXG2) alo) (by rw [(KX.trans hXG1 hXG2).k kM (by decide)]; exact Nat.le_of_ble_eq_true rfl)).2
    refine s_iconst dX3_perform_21 (by decide) ?_
    refine s_istore_n dX3_perform_22 (by decide) (lv' := [some (2, ((o : Nat) : Int)), some (2, ((n : Nat) : Int)), some (0, rr3), some (0, 0), none]) rfl ?_
    have L6 : ∀ (n6 : Nat) (k6 : Int) (G6 : LG), CI a b G6 → KX G2 G6 → WX (fun x => (o ≤ x ∧ x ≤ o + 8) ∨ x = o + 13 ∨ x = o + 15 ∨ (o + 20 ≤ x ∧ x ≤ o + 24)) G G6 → ((0 ≤ k6 ∧ k6 ≤ 10) ∧ (gS G6 o 9 = gS G2 o 9) ∧ (MI G6 o (gS G1 o 9)) ∧ (MC G6 o (gS G1 o 9))) → (10 - k6).toNat < n6 → WP kX3_perform X 23 [some (2, ((o : Nat) : Int)), some (2, ((n : Nat) : Int)), some (0, rr3), some (0, k6), none] [] G6 := by
      intro n6
      induction n6 with
      | zero => intro k6 G6 hCG6 hXG6 hFG6 hi6 hm6; exact absurd hm6 (Nat.not_lt_zero _)
      | succ n6 ih6 =>
        intro k6 G6 hCG6 hXG6 hFG6 hi6 hm6
        obtain ⟨ik6, hIG6, hMIG6, hMCG6⟩ := hi6
        refine s_iload_n dX3_perform_23 rfl ?_
        refine s_bipush dX3_perform_24 rfl (by decide) ?_
        refine s_icmp_ge (tgt := 67) dX3_perform_26 (by decide) (fun c7 => ?_) (fun c7 => ?_)
        · -- 26 to 67
          refine s_iconst dX3_perform_67 (by decide) ?_
          exact s_iret hR dX3_perform_68 rfl (hQ 0 G6 hCG6 (KX.trans (KX.trans hXG1 hXG2) hXG6) hFG6 trivial)
        · -- 26 to 29
          refine s_aload_n dX3_perform_29 rfl (Int.natCast_nonneg _) ?_
          refine s_aload_n dX3_perform_30 rfl (Int.natCast_nonneg _) ?_
          refine s_iload_n dX3_perform_31 rfl ?_
          refine s_iload_n dX3_perform_32 rfl ?_
          have hk10 : gK G6 (o) = (12, 0) := ((hXG6).k ((hXG2).k hk4 (by decide)) (by decide))
          refine s_callV (as := [(2, ((n : Nat) : Int)), (0, rr3), (0, k6)]) (rest := []) (n := o) (ci := 4) gX3_faceCell dX3_perform_33 m_1380 m_946 m_1674 m_717 m_294 ⟨by decide, by decide, show (parseMethodDescriptor yX3_faceCell.desc).map (fun d => d.parameters.length) = some 3 from by decide +kernel⟩ (Nat.le_of_ble_eq_true rfl) (by rw [hcf]; exact Nat.le_of_ble_eq_true rfl) hk10 rfl rfl (Nat.le_of_ble_eq_true rfl) ⟨o, n, rr3, k6, (gS G1 o 9), a, b, rfl, hCG6, hab, (by assumption), (by assumption), (by omega), (by exact hMIG6), (by exact hMCG6), (by omega), (by omega), fun rr8 hp9 => ?_⟩
          show WP kX3_perform X 36 [some (2, ((o : Nat) : Int)), some (2, ((n : Nat) : Int)), some (0, rr3), some (0, k6), none] [(0, rr8)] G6
          refine s_istore dX3_perform_36 (by decide) (lv' := [some (2, ((o : Nat) : Int)), some (2, ((n : Nat) : Int)), some (0, rr3), some (0, k6), some (0, rr8)]) rfl ?_
          refine s_aload_n dX3_perform_38 rfl (Int.natCast_nonneg _) ?_
          refine s_alv (o) (by simp) (fun (al11 : AL G6 o) => ?_)
          have hv12 : gS G6 o 15 = ((o + 15 : Nat) : Int) := by have h9 : (gS G6 o 15) = (((o % 1048576) + 15 : Nat) : Int) := hCG6.1.v (j := 15) (by rw [cde_m (by omega) (by omega)]; omega : cde o = 300) al11 (by rw [hk10]; exact Nat.le_of_ble_eq_true rfl); omega
          refine s_getf (ci := 4) (k := 15) (C := RX3) (T := TX3) (N := 18) (n := o) (L := 0) (t := 2) dX3_perform_39 rfl wi_71 m_620 (Nat.le_of_ble_eq_true rfl) rfl rfl hk10 hv12 ?_
          refine s_iload_n dX3_perform_42 rfl ?_
          have hst : 0 ≤ rr8 → gS G6 (o + 7) (rr8 : Int).toNat < lenV G6 (o + 20) := fun z => hCG6.states ho (KX.al (KX.trans (KX.trans hXG1 hXG2) hXG6) (kne kM20 (by decide))) rr8 (by omega)
          have hln := lenV.nn (G := G6) (o := o + 20)
          refine s_iload dX3_perform_43 rfl ?_
          have J16 : ∀ z15 : Int, ((0 ≤ rr8) ∧ z15 = gS G6 (o + 7) ((rr8 : Int).toNat)) ∨ ((¬ 0 ≤ rr8) ∧ z15 = (-3)) → WP kX3_perform X 60 [some (2, ((o : Nat) : Int)), some (2, ((n : Nat) : Int)), some (0, rr3), some (0, k6), some (0, rr8)] [(0, z15), (0, k6), (2, ((o + 15 : Nat) : Int))] G6 := by
            intro z15 hz15
            have hk17 : gK G6 (o + 15) = (1, 10) := ((hXG6).k ((hXG2).k ((hXG1).k kM15 (by decide)) (by decide)) (by decide))
            refine s_iast dX3_perform_60 hk17 (by omega) (by omega) ?_
            generalize eG18r : gset G6 (o + 15) ((k6 : Int).toNat) z15 = G18
            have eG18 := eG18r.symm
            have hCG18 : CI a b G18 := by rw [eG18]; exact hCG6.state (o := o + 20) (by omega) (Or.inr (by omega)) (by omega)
            have hXG18 : KX G6 G18 := KX.set KX.rf eG18
            have hFG18 : WX (fun x => (o ≤ x ∧ x ≤ o + 8) ∨ x = o + 13 ∨ x = o + 15 ∨ (o + 20 ≤ x ∧ x ≤ o + 24)) G G18 := WX.set hFG6 eG18 (by show _; omega)
            have hfG18 : WX (fun x => x = (o + 15) % 1048576) G6 G18 := WX.set WX.rf eG18 rfl
            have hIG18 : gS G18 o 9 = gS G2 o 9 := (congrFun (hfG18 (o) (KX.al (KX.trans (KX.trans hXG1 hXG2) hXG6) (kne kM (by decide))) rg1) 9).trans hIG6
            have hMIG18 : MI G18 o (gS G1 o 9) := hMIG6.cg (congrFun (hfG18 (o) (KX.al (KX.trans (KX.trans hXG1 hXG2) hXG6) (kne kM (by decide))) rg1) 9) (hfG18 (o + 1) (KX.al (KX.trans (KX.trans hXG1 hXG2) hXG6) (kne kM1 (by decide))) rg2) (hfG18 (o + 3) (KX.al (KX.trans (KX.trans hXG1 hXG2) hXG6) (kne kM3 (by decide))) rg3) (hfG18 (o + 4) (KX.al (KX.trans (KX.trans hXG1 hXG2) hXG6) (kne kM4 (by decide))) rg4) (congrFun (hfG18 (327681) (KX.al (KX.trans (KX.trans hXG1 hXG2) hXG6) (kne kMp (by decide))) rg5) 12)
            have hMCG18 : MC G18 o (gS G1 o 9) := hMCG6.cg (congrFun (hfG18 (o) (KX.al (KX.trans (KX.trans hXG1 hXG2) hXG6) (kne kM (by decide))) rg1) 9) (hfG18 (o + 1) (KX.al (KX.trans (KX.trans hXG1 hXG2) hXG6) (kne kM1 (by decide))) rg2) (hfG18 (o + 5) (KX.al (KX.trans (KX.trans hXG1 hXG2) hXG6) (kne kM5 (by decide))) rg6)
            show WP kX3_perform X 61 [some (2, ((o : Nat) : Int)), some (2, ((n : Nat) : Int)), some (0, rr3), some (0, k6), some (0, rr8)] [] G18
            refine s_iinc dX3_perform_61 (v := k6) rfl (by omega) (by decide) (lv' := [some (2, ((o : Nat) : Int)), some (2, ((n : Nat) : Int)), some (0, rr3), some (0, k6 + 1), some (0, rr8)]) rfl ?_
            refine s_goto (tgt := 23) dX3_perform_64 (by decide) ?_
            refine s_mask [true, true, true, true, false] (lv' := [some (2, ((o : Nat) : Int)), some (2, ((n : Nat) : Int)), some (0, rr3), some (0, k6 + 1), none]) rfl ?_
            exact ih6 (k6 + 1) G18 hCG18 (KX.trans hXG6 hXG18) hFG18 (⟨(by omega), (by exact hIG18), (by exact hMIG18), (by exact hMCG18)⟩) (by omega)
          refine s_if_ge (tgt := 53) dX3_perform_45 (by decide) (fun c19 => ?_) (fun c19 => ?_)
          · -- 45 to 53
            refine s_aload_n dX3_perform_53 rfl (Int.natCast_nonneg _) ?_
            have hv20 : gS G6 o 7 = ((o + 7 : Nat) : Int) := by have h9 : (gS G6 o 7) = (((o % 1048576) + 7 : Nat) : Int) := hCG6.1.v (j := 7) (by rw [cde_m (by omega) (by omega)]; omega : cde o = 300) al11 (by rw [hk10]; exact Nat.le_of_ble_eq_true rfl); omega
            refine s_getf (ci := 4) (k := 7) (C := RX3) (T := TX3) (N := 18) (n := o) (L := 0) (t := 2) dX3_perform_54 rfl wi_71 m_616 (Nat.le_of_ble_eq_true rfl) rfl rfl hk10 hv20 ?_
            refine s_iload dX3_perform_57 rfl ?_
            have hk21 : gK G6 (o + 7) = (1, 240) := ((hXG6).k ((hXG2).k ((hXG1).k kM7 (by decide)) (by decide)) (by decide))
            refine s_iald dX3_perform_59 hk21 (by omega) (by omega) rfl ?_
            exact J16 _ (Or.inl ⟨c19, rfl⟩)
          · -- 45 to 48
            refine s_bipush dX3_perform_48 rfl (by decide) ?_
            refine s_goto (tgt := 60) dX3_perform_50 (by decide) ?_
            exact J16 ((-3)) (Or.inr (⟨c19, rfl⟩))
    exact L6 _ 0 G2 hCG2 KX.rf hFG2 (⟨(by omega), (by exact hIG2), (by exact hMIG2), (by exact hMCG2)⟩) (Nat.lt_succ_self _)
  · -- 13 to 16
    refine s_aload_n dX3_perform_16 rfl (Int.natCast_nonneg _) ?_
    have hk22 : gK G2 (o) = (12, 0) := ((hXG2).k hk4 (by decide))
    refine s_getf (ci := 4) (k := 11) (C := RX3) (T := TX3) (N := 18) (n := o) (L := 0) (t := 0) dX3_perform_17 rfl wi_71 m_623 (Nat.le_of_ble_eq_true rfl) rfl rfl hk22 rfl ?_
    exact s_iret hR dX3_perform_20 rfl (hQ (gS G2 o 11) G2 hCG2 (KX.trans hXG1 hXG2) hFG2 trivial)
