abbrev kX3_instance : KD := (RX3, cX3_instance, 3, (some .int), [])
def TX3_instance (m : Nat) : TR := fun as G Qr => ∃ (o n i : Nat) (d : Int) (a b : Nat), as = [(2, ((o : Nat) : Int)), (2, ((n : Nat) : Int)), (0, d)] ∧ CI a b G ∧ (a ≤ 2840000 ∧ b ≤ 590000) ∧ (isMc o) ∧ (n = 65536 + 64 * i) ∧ ((i : Int) < nN G) ∧ (0 ≤ d ∧ d ≤ 25 ∧ 26 ≤ d + m) ∧ ∀ (r : Int) (G' : LG), CI a b G' → KX G G' → WX (fun x => (o ≤ x ∧ x ≤ o + 8) ∨ x = o + 13 ∨ (o + 20 ≤ x ∧ x ≤ o + 24)) G G' → (r = -1 ∨ ((gS G o 9 ≤ r ∧ r < gS G' o 9) ∧ MI G' o (gS G o 9) ∧ LO G G' o (10 * gS G o 9))) → Qr (.inl (some (0, r))) G'

abbrev kX3_runAlone : KD := (RX3, cX3_runAlone, 5, (some .int), [])
def TX3_runAlone (m : Nat) : TR := fun as G Qr => ∃ (o n i : Nat) (d : Int) (a b : Nat), as = [(2, ((o : Nat) : Int)), (2, ((n : Nat) : Int)), (0, d)] ∧ CI a b G ∧ (a ≤ 2840000 ∧ b ≤ 590000) ∧ (isMc o) ∧ (n = 65536 + 64 * i) ∧ ((i : Int) < nN G) ∧ (0 ≤ d ∧ d ≤ 25 ∧ 26 ≤ d + m) ∧ ∀ (r : Int) (G' : LG), CI a b G' → KX G G' → WX (fun x => (o ≤ x ∧ x ≤ o + 8) ∨ x = o + 13 ∨ (o + 20 ≤ x ∧ x ≤ o + 24)) G G' → (r = -1 ∨ ((gS G o 9 ≤ r ∧ r < gS G' o 9) ∧ MI G' o (gS G o 9) ∧ MC G' o (gS G o 9) ∧ LO G G' o (10 * gS G o 9))) → Qr (.inl (some (0, r))) G'
set_option maxHeartbeats 4000000 in
set_option maxRecDepth 100000 in
theorem gX3_runAlone (m : Nat) (ih : Good kX3_instance yX3_instance (4 * m + 80) (TX3_instance m)) : Good kX3_runAlone yX3_runAlone (4 * m + 81) (TX3_runAlone m) := by
  refine good_of (by decide) rfl rfl (fun as G Qr h => ?_) (fun X as G Qr hcf hR hT oa => ?_)
  · obtain ⟨o, n, i, d, a, b, rfl, -⟩ := h; exact Nat.le_of_ble_eq_true rfl
  obtain ⟨o, n, i, d, a, b, rfl, hC, hab, ho, hni, hnn, hd, hQ⟩ := hT
  show WP kX3_runAlone X 0 [some (2, ((o : Nat) : Int)), some (2, ((n : Nat) : Int)), some (0, d), none, none] [] G
  have hr_d : inR d := okv_R (oa _ (by simp))
  have rg0 : RM (fun x => (o ≤ x ∧ x ≤ o + 8) ∨ x = o + 13 ∨ (o + 20 ≤ x ∧ x ≤ o + 24)) (fun x => (o ≤ x ∧ x ≤ o + 8) ∨ x = o + 13 ∨ (o + 20 ≤ x ∧ x ≤ o + 24)) := fun x hx => by (try dsimp only at hx ⊢); omega
  have rg1 : RM (fun x => x = o + 5) (fun x => (o ≤ x ∧ x ≤ o + 8) ∨ x = o + 13 ∨ (o + 20 ≤ x ∧ x ≤ o + 24)) := fun x hx => by (try dsimp only at hx ⊢); omega
  have rg2 : RNx (fun x => x = o + 5) (o % 1048576) := by show ¬ _; omega
  have rg3 : RNx (fun x => x = o + 5) ((o + 1) % 1048576) := by show ¬ _; omega
  have rg4 : RNx (fun x => x = o + 5) ((o + 3) % 1048576) := by show ¬ _; omega
  have rg5 : RNx (fun x => x = o + 5) ((o + 4) % 1048576) := by show ¬ _; omega
  have rg6 : RNx (fun x => x = o + 5) (327681 % 1048576) := by show ¬ _; omega
  have rg7 : RM (fun x => x = o + 6) (fun x => (o ≤ x ∧ x ≤ o + 8) ∨ x = o + 13 ∨ (o + 20 ≤ x ∧ x ≤ o + 24)) := fun x hx => by (try dsimp only at hx ⊢); omega
  have rg8 : RNx (fun x => x = o + 6) (o % 1048576) := by show ¬ _; omega
  have rg9 : RNx (fun x => x = o + 6) ((o + 1) % 1048576) := by show ¬ _; omega
  have rg10 : RNx (fun x => x = o + 6) ((o + 3) % 1048576) := by show ¬ _; omega
  have rg11 : RNx (fun x => x = o + 6) ((o + 4) % 1048576) := by show ¬ _; omega
  have rg12 : RNx (fun x => x = o + 6) (327681 % 1048576) := by show ¬ _; omega
  have rg13 : RNx (fun x => x = o + 6) ((o + 5) % 1048576) := by show ¬ _; omega
  have rg14 : RNx (fun x => x = o + 6) (327706 % 1048576) := by show ¬ _; omega
  have rg15 : RM (fun x => x = o ∨ x = o + 6 ∨ x = o + 8) (fun x => (o ≤ x ∧ x ≤ o + 8) ∨ x = o + 13 ∨ (o + 20 ≤ x ∧ x ≤ o + 24)) := fun x hx => by (try dsimp only at hx ⊢); omega
  have rg16 : RNx (fun x => x = o ∨ x = o + 6 ∨ x = o + 8) ((o + 1) % 1048576) := by show ¬ _; omega
  have rg17 : RNx (fun x => x = o ∨ x = o + 6 ∨ x = o + 8) ((o + 3) % 1048576) := by show ¬ _; omega
  have rg18 : RNx (fun x => x = o ∨ x = o + 6 ∨ x = o + 8) ((o + 4) % 1048576) := by show ¬ _; omega
  have rg19 : RNx (fun x => x = o ∨ x = o + 6 ∨ x = o + 8) (327681 % 1048576) := by show ¬ _; omega
  have rg20 : RNx (fun x => x = o ∨ x = o + 6 ∨ x = o + 8) ((o + 5) % 1048576) := by show ¬ _; omega
  have rg21 : RNx (fun x => x = o ∨ x = o + 6 ∨ x = o + 8) (327706 % 1048576) := by show ¬ _; omega
  have rg22 : RM (fun x => x = o ∨ x = o + 7 ∨ x = o + 8 ∨ x = o + 13 ∨ (o + 20 ≤ x ∧ x ≤ o + 24)) (fun x => (o ≤ x ∧ x ≤ o + 8) ∨ x = o + 13 ∨ (o + 20 ≤ x ∧ x ≤ o + 24)) := fun x hx => by (try dsimp only at hx ⊢); omega
  have rg23 : RNx (fun x => x = o ∨ x = o + 7 ∨ x = o + 8 ∨ x = o + 13 ∨ (o + 20 ≤ x ∧ x ≤ o + 24)) ((o + 1) % 1048576) := by show ¬ _; omega
  have rg24 : RNx (fun x => x = o ∨ x = o + 7 ∨ x = o + 8 ∨ x = o + 13 ∨ (o + 20 ≤ x ∧ x ≤ o + 24)) ((o + 3) % 1048576) := by show ¬ _; omega
  have rg25 : RNx (fun x => x = o ∨ x = o + 7 ∨ x = o + 8 ∨ x = o + 13 ∨ (o + 20 ≤ x ∧ x ≤ o + 24)) ((o + 4) % 1048576) := by show ¬ _; omega
  have rg26 : RNx (fun x => x = o ∨ x = o + 7 ∨ x = o + 8 ∨ x = o + 13 ∨ (o + 20 ≤ x ∧ x ≤ o + 24)) (327681 % 1048576) := by show ¬ _; omega
  have rg27 : RNx (fun x => x = o ∨ x = o + 7 ∨ x = o + 8 ∨ x = o + 13 ∨ (o + 20 ≤ x ∧ x ≤ o + 24)) ((o + 5) % 1048576) := by show ¬ _; omega
  have rg28 : RNx (fun x => x = o ∨ x = o + 7 ∨ x = o + 8 ∨ x = o + 13 ∨ (o + 20 ≤ x ∧ x ≤ o + 24)) (327706 % 1048576) := by show ¬ _; omega
  have rg29 : RM (fun x => x = o) (fun x => (o ≤ x ∧ x ≤ o + 8) ∨ x = o + 13 ∨ (o + 20 ≤ x ∧ x ≤ o + 24)) := fun x hx => by (try dsimp only at hx ⊢); omega
  have rg30 : RNx (fun x => x = o) (o % 1048576) := by show ¬ _; omega
  have rg31 : RNx (fun x => x = o) ((o + 1) % 1048576) := by show ¬ _; omega
  have rg32 : RNx (fun x => x = o) ((o + 3) % 1048576) := by show ¬ _; omega
  have rg33 : RNx (fun x => x = o) ((o + 4) % 1048576) := by show ¬ _; omega
  have rg34 : RNx (fun x => x = o) (327681 % 1048576) := by show ¬ _; omega
  have rg35 : RNx (fun x => x = o) ((o + 5) % 1048576) := by show ¬ _; omega
  have rg36 : RNx (fun x => x = o) (327706 % 1048576) := by show ¬ _; omega
  refine s_alvl o (k := 0) rfl (fun alo => ?_)
  refine s_lk (fun hlk => ?_)
  have hmn := hlk.mna hC ho alo
  obtain ⟨kM, kM1, kM2, kM3, kM4, kM5, kM6, kM7, kM8, kM13, kM15, kM20, kMp, kMp5, kMp6, kMp7, kMp8, kMp9, kMp10, kMp13, kMp14, kMp16⟩ := id hmn
  have hin : 0 ≤ gS G o 9 ∧ gS G o 9 ≤ 24 := hC.1.v (c := 300) (j := 9) (by rcases ho with rfl | rfl <;> decide) alo (by rw [kM]; exact Nat.le_of_ble_eq_true rfl)
  obtain ⟨hn40, hkn, pa, hpa, hpm, hpc, hkp, hpt, hu6, hr4⟩ := hC.nd hni hnn
  have hn : isNd n := by omega
  have hti1 : 0 ≤ gS G n 1 ∧ gS G n 1 ≤ 6 := hC.1.v (c := 100) (j := 1) (by rw [cde_n (by omega) (by omega)]; omega) (kne hkn (by decide)) (by rw [hkn]; exact Nat.le_of_ble_eq_true rfl)
  refine s_aload_n dX3_runAlone_0 rfl (Int.natCast_nonneg _) ?_
  have hv1 : 0 ≤ (gS G o 9) ∧ (gS G o 9) ≤ 24 := hC.1.v (j := 9) (by rw [cde_m (by omega) (by omega)]; omega : cde o = 300) (kne kM (by decide)) (by rw [kM]; exact Nat.le_of_ble_eq_true rfl)
  refine s_getf (ci := 4) (k := 9) (C := RX3) (T := TX3) (N := 18) (n := o) (L := 0) (t := 0) dX3_runAlone_1 rfl wi_71 m_622 (Nat.le_of_ble_eq_true rfl) rfl rfl kM rfl ?_
  refine s_istore_n dX3_runAlone_4 (by decide) (lv' := [some (2, ((o : Nat) : Int)), some (2, ((n : Nat) : Int)), some (0, d), some (0, gS G o 9), none]) rfl ?_
  refine s_aload_n dX3_runAlone_5 rfl (Int.natCast_nonneg _) ?_
  refine s_aload_n dX3_runAlone_6 rfl (Int.natCast_nonneg _) ?_
  refine s_iload_n dX3_runAlone_7 rfl ?_
  refine s_callV (as := [(2, ((n : Nat) : Int)), (0, d)]) (rest := []) (n := o) (ci := 4) ih dX3_runAlone_8 m_1381 m_954 m_1681 m_717 m_302 ⟨by decide, by decide, show (parseMethodDescriptor yX3_instance.desc).map (fun d => d.parameters.length) = some 2 from by decide +kernel⟩ (Nat.le_of_ble_eq_true rfl) (by rw [hcf]; omega) kM rfl rfl (Nat.le_of_ble_eq_true rfl) ⟨o, n, i, d, a, b, rfl, hC, hab, (by assumption), (by assumption), (by assumption), (by omega), fun rr3 G2 hCG2 hXG2 hfG2 hpG2 => ?_⟩
  have hFG2 : WX (fun x => (o ≤ x ∧ x ≤ o + 8) ∨ x = o + 13 ∨ (o + 20 ≤ x ∧ x ≤ o + 24)) G G2 := WX.trans WX.rf KX.rf (WX.mono hfG2 rg0)
  show WP kX3_runAlone X 11 [some (2, ((o : Nat) : Int)), some (2, ((n : Nat) : Int)), some (0, d), some (0, gS G o 9), none] [(0, rr3)] G2
  refine s_istore dX3_runAlone_11 (by decide) (lv' := [some (2, ((o : Nat) : Int)), some (2, ((n : Nat) : Int)), some (0, d), some (0, gS G o 9), some (0, rr3)]) rfl ?_
  refine s_iload dX3_runAlone_13 rfl ?_
  refine s_if_ge (tgt := 20) dX3_runAlone_15 (by decide) (fun c4 => ?_) (fun c4 => ?_)
  · -- 15 to 20
    obtain ⟨hr1, hMIG2, hLOG2⟩ := hpG2.resolve_left (by omega)
    have hIG2 : gS G2 o 9 = gS G2 o 9 := rfl
    have h24 : gS G2 o 9 ≤ 24 := (hCG2.1.v (c := 300) (j := 9) (by rcases ho with rfl | rfl <;> decide) (KX.al hXG2 alo) (by rw [hXG2.k kM (by decide)]; exact Nat.le_of_ble_eq_true rfl)).2
    refine s_aload_n dX3_runAlone_20 rfl (Int.natCast_nonneg _) ?_
    refine s_iload_n dX3_runAlone_21 rfl ?_
    have hk7 : gK G2 (o) = (12, 0) := ((hXG2).k kM (by decide))
    refine s_callV (as := [(0, gS G o 9)]) (rest := []) (n := o) (ci := 4) gX3_findCells dX3_runAlone_22 m_1382 m_948 m_1676 m_717 m_296 ⟨by decide, by decide, show (parseMethodDescriptor yX3_findCells.desc).map (fun d => d.parameters.length) = some 1 from by decide +kernel⟩ (Nat.le_of_ble_eq_true rfl) (by rw [hcf]; omega) hk7 rfl rfl (Nat.le_of_ble_eq_true rfl) ⟨o, (gS G o 9), a, b, rfl, hCG2, hab, (by assumption), (by omega), (by exact hMIG2), fun G5 hCG5 hXG5 hfG5 hpG5 => ?_⟩
    have hFG5 : WX (fun x => (o ≤ x ∧ x ≤ o + 8) ∨ x = o + 13 ∨ (o + 20 ≤ x ∧ x ≤ o + 24)) G G5 := WX.trans hFG2 hXG2 (WX.mono hfG5 rg1)
    have hIG5 : gS G5 o 9 = gS G2 o 9 := (congrFun (hfG5 o (KX.al hXG2 (kne kM (by decide))) rg2) 9).trans hIG2
    have hMIG5 : MI G5 o (gS G o 9) := hMIG2.cg (congrFun (hfG5 (o) (KX.al hXG2 (kne kM (by decide))) rg2) 9) (hfG5 (o + 1) (KX.al hXG2 (kne kM1 (by decide))) rg3) (hfG5 (o + 3) (KX.al hXG2 (kne kM3 (by decide))) rg4) (hfG5 (o + 4) (KX.al hXG2 (kne kM4 (by decide))) rg5) (congrFun (hfG5 (327681) (KX.al hXG2 (kne kMp (by decide))) rg6) 12)
    have hMCG5 : MC G5 o (gS G o 9) := hpG5
    have hLOG5 : LO G G5 o (10 * gS G o 9) := hLOG2.cg (hfG5 (o + 1) (KX.al hXG2 (kne kM1 (by decide))) rg3) (hfG5 (o + 3) (KX.al hXG2 (kne kM3 (by decide))) rg4) (hfG5 (o + 4) (KX.al hXG2 (kne kM4 (by decide))) rg5)
    show WP kX3_runAlone X 25 [some (2, ((o : Nat) : Int)), some (2, ((n : Nat) : Int)), some (0, d), some (0, gS G o 9), some (0, rr3)] [] G5
    refine s_aload_n dX3_runAlone_25 rfl (Int.natCast_nonneg _) ?_
    refine s_iload_n dX3_runAlone_26 rfl ?_
    have hk10 : gK G5 (o) = (12, 0) := ((hXG5).k hk7 (by decide))
    refine s_callV (as := [(0, gS G o 9)]) (rest := []) (n := o) (ci := 4) gX3_hasOpenRef dX3_runAlone_27 m_1383 m_951 m_1679 m_717 m_299 ⟨by decide, by decide, show (parseMethodDescriptor yX3_hasOpenRef.desc).map (fun d => d.parameters.length) = some 1 from by decide +kernel⟩ (Nat.le_of_ble_eq_true rfl) (by rw [hcf]; omega) hk10 rfl rfl (Nat.le_of_ble_eq_true rfl) ⟨o, (gS G o 9), a, b, rfl, hCG5, hab, (by assumption), (by omega), (by exact hMIG5), (by exact hMCG5), fun rr8 hp9 => ?_⟩
    show WP kX3_runAlone X 30 [some (2, ((o : Nat) : Int)), some (2, ((n : Nat) : Int)), some (0, d), some (0, gS G o 9), some (0, rr3)] [(0, rr8)] G5
    refine s_if_eq (tgt := 40) dX3_runAlone_30 (by decide) (fun c11 => ?_) (fun c11 => ?_)
    · -- 30 to 40
      have hNOG5 := hp9.2 (by omega)
      refine s_aload_n dX3_runAlone_40 rfl (Int.natCast_nonneg _) ?_
      refine s_iload_n dX3_runAlone_41 rfl ?_
      refine s_callV (as := [(0, gS G o 9)]) (rest := []) (n := o) (ci := 4) gX3_hasRing dX3_runAlone_42 m_1385 m_952 m_1680 m_717 m_300 ⟨by decide, by decide, show (parseMethodDescriptor yX3_hasRing.desc).map (fun d => d.parameters.length) = some 1 from by decide +kernel⟩ (Nat.le_of_ble_eq_true rfl) (by rw [hcf]; omega) hk10 rfl rfl (Nat.le_of_ble_eq_true rfl) ⟨o, (gS G o 9), a, b, rfl, hCG5, hab, (by assumption), (by omega), (by exact hMIG5), (by exact hNOG5), fun rr13 G12 hCG12 hXG12 hfG12 hpG12 => ?_⟩
      have hFG12 : WX (fun x => (o ≤ x ∧ x ≤ o + 8) ∨ x = o + 13 ∨ (o + 20 ≤ x ∧ x ≤ o + 24)) G G12 := WX.trans hFG5 (KX.trans hXG2 hXG5) (WX.mono hfG12 rg7)
      have hIG12 : gS G12 o 9 = gS G2 o 9 := (congrFun (hfG12 o (KX.al (KX.trans hXG2 hXG5) (kne kM (by decide))) rg8) 9).trans hIG5
      have hMIG12 : MI G12 o (gS G o 9) := hMIG5.cg (congrFun (hfG12 (o) (KX.al (KX.trans hXG2 hXG5) (kne kM (by decide))) rg8) 9) (hfG12 (o + 1) (KX.al (KX.trans hXG2 hXG5) (kne kM1 (by decide))) rg9) (hfG12 (o + 3) (KX.al (KX.trans hXG2 hXG5) (kne kM3 (by decide))) rg10) (hfG12 (o + 4) (KX.al (KX.trans hXG2 hXG5) (kne kM4 (by decide))) rg11) (congrFun (hfG12 (327681) (KX.al (KX.trans hXG2 hXG5) (kne kMp (by decide))) rg12) 12)
      have hMCG12 : MC G12 o (gS G o 9) := hMCG5.cg (congrFun (hfG12 (o) (KX.al (KX.trans hXG2 hXG5) (kne kM (by decide))) rg8) 9) (hfG12 (o + 1) (KX.al (KX.trans hXG2 hXG5) (kne kM1 (by decide))) rg9) (hfG12 (o + 5) (KX.al (KX.trans hXG2 hXG5) (kne kM5 (by decide))) rg13)
      have hNOG12 : NO G12 o (gS G o 9) := hNOG5.cg (congrFun (hfG12 (o) (KX.al (KX.trans hXG2 hXG5) (kne kM (by decide))) rg8) 9) (hfG12 (o + 1) (KX.al (KX.trans hXG2 hXG5) (kne kM1 (by decide))) rg9) (hfG12 (o + 5) (KX.al (KX.trans hXG2 hXG5) (kne kM5 (by decide))) rg13) (hfG12 (327706) (KX.al (KX.trans hXG2 hXG5) (kne kMp10 (by decide))) rg14)
      have hLOG12 : LO G G12 o (10 * gS G o 9) := hLOG5.cg (hfG12 (o + 1) (KX.al (KX.trans hXG2 hXG5) (kne kM1 (by decide))) rg9) (hfG12 (o + 3) (KX.al (KX.trans hXG2 hXG5) (kne kM3 (by decide))) rg10) (hfG12 (o + 4) (KX.al (KX.trans hXG2 hXG5) (kne kM4 (by decide))) rg11)
      show WP kX3_runAlone X 45 [some (2, ((o : Nat) : Int)), some (2, ((n : Nat) : Int)), some (0, d), some (0, gS G o 9), some (0, rr3)] [(0, rr13)] G12
      refine s_if_eq (tgt := 55) dX3_runAlone_45 (by decide) (fun c14 => ?_) (fun c14 => ?_)
      · -- 45 to 55
        refine s_aload_n dX3_runAlone_55 rfl (Int.natCast_nonneg _) ?_
        refine s_aload_n dX3_runAlone_56 rfl (Int.natCast_nonneg _) ?_
        refine s_iload_n dX3_runAlone_57 rfl ?_
        refine s_iload dX3_runAlone_58 rfl ?_
        have hk17 : gK G12 (o) = (12, 0) := ((hXG12).k hk10 (by decide))
        refine s_callV (as := [(2, ((n : Nat) : Int)), (0, gS G o 9), (0, rr3)]) (rest := []) (n := o) (ci := 4) gX3_reach dX3_runAlone_60 m_1386 m_961 m_1688 m_717 m_309 ⟨by decide, by decide, show (parseMethodDescriptor yX3_reach.desc).map (fun d => d.parameters.length) = some 3 from by decide +kernel⟩ (Nat.le_of_ble_eq_true rfl) (by rw [hcf]; omega) hk17 rfl rfl (Nat.le_of_ble_eq_true rfl) ⟨o, n, (gS G o 9), rr3, a, b, rfl, hCG12, hab, (by assumption), (by assumption), (by omega), (by exact hMIG12), (by exact hMCG12), (by exact hNOG12), (by omega), fun G15 hCG15 hXG15 hfG15 hpG15 => ?_⟩
        have hFG15 : WX (fun x => (o ≤ x ∧ x ≤ o + 8) ∨ x = o + 13 ∨ (o + 20 ≤ x ∧ x ≤ o + 24)) G G15 := WX.trans hFG12 (KX.trans (KX.trans hXG2 hXG5) hXG12) (WX.mono hfG15 rg15)
        have hIG15 : gS G15 o 9 = gS G2 o 9 := hpG15.trans hIG12
        have hMIG15 : MI G15 o (gS G o 9) := hMIG12.cg hpG15 (hfG15 (o + 1) (KX.al (KX.trans (KX.trans hXG2 hXG5) hXG12) (kne kM1 (by decide))) rg16) (hfG15 (o + 3) (KX.al (KX.trans (KX.trans hXG2 hXG5) hXG12) (kne kM3 (by decide))) rg17) (hfG15 (o + 4) (KX.al (KX.trans (KX.trans hXG2 hXG5) hXG12) (kne kM4 (by decide))) rg18) (congrFun (hfG15 (327681) (KX.al (KX.trans (KX.trans hXG2 hXG5) hXG12) (kne kMp (by decide))) rg19) 12)
        have hMCG15 : MC G15 o (gS G o 9) := hMCG12.cg hpG15 (hfG15 (o + 1) (KX.al (KX.trans (KX.trans hXG2 hXG5) hXG12) (kne kM1 (by decide))) rg16) (hfG15 (o + 5) (KX.al (KX.trans (KX.trans hXG2 hXG5) hXG12) (kne kM5 (by decide))) rg20)
        have hNOG15 : NO G15 o (gS G o 9) := hNOG12.cg hpG15 (hfG15 (o + 1) (KX.al (KX.trans (KX.trans hXG2 hXG5) hXG12) (kne kM1 (by decide))) rg16) (hfG15 (o + 5) (KX.al (KX.trans (KX.trans hXG2 hXG5) hXG12) (kne kM5 (by decide))) rg20) (hfG15 (327706) (KX.al (KX.trans (KX.trans hXG2 hXG5) hXG12) (kne kMp10 (by decide))) rg21)
        have hLOG15 : LO G G15 o (10 * gS G o 9) := hLOG12.cg (hfG15 (o + 1) (KX.al (KX.trans (KX.trans hXG2 hXG5) hXG12) (kne kM1 (by decide))) rg16) (hfG15 (o + 3) (KX.al (KX.trans (KX.trans hXG2 hXG5) hXG12) (kne kM3 (by decide))) rg17) (hfG15 (o + 4) (KX.al (KX.trans (KX.trans hXG2 hXG5) hXG12) (kne kM4 (by decide))) rg18)
        show WP kX3_runAlone X 63 [some (2, ((o : Nat) : Int)), some (2, ((n : Nat) : Int)), some (0, d), some (0, gS G o 9), some (0, rr3)] [] G15
        refine s_aload_n dX3_runAlone_63 rfl (Int.natCast_nonneg _) ?_
        refine s_aload_n dX3_runAlone_64 rfl (Int.natCast_nonneg _) ?_
        refine s_iload_n dX3_runAlone_65 rfl ?_
        refine s_iload dX3_runAlone_66 rfl ?_
        have hk20 : gK G15 (o) = (12, 0) := ((hXG15).k hk17 (by decide))
        refine s_callV (as := [(2, ((n : Nat) : Int)), (0, gS G o 9), (0, rr3)]) (rest := []) (n := o) (ci := 4) gX3_giveValues dX3_runAlone_68 m_1387 m_950 m_1678 m_717 m_298 ⟨by decide, by decide, show (parseMethodDescriptor yX3_giveValues.desc).map (fun d => d.parameters.length) = some 3 from by decide +kernel⟩ (Nat.le_of_ble_eq_true rfl) (by rw [hcf]; omega) hk20 rfl rfl (Nat.le_of_ble_eq_true rfl) ⟨o, n, (gS G o 9), rr3, a, b, rfl, hCG15, hab, (by assumption), (by assumption), (by omega), (by exact hMIG15), (by exact hMCG15), (by omega), fun G18 hCG18 hXG18 hfG18 hpG18 => ?_⟩
        have hFG18 : WX (fun x => (o ≤ x ∧ x ≤ o + 8) ∨ x = o + 13 ∨ (o + 20 ≤ x ∧ x ≤ o + 24)) G G18 := WX.trans hFG15 (KX.trans (KX.trans (KX.trans hXG2 hXG5) hXG12) hXG15) (WX.mono hfG18 rg22)
        have hIG18 : gS G18 o 9 = gS G2 o 9 := hpG18.trans hIG15
        have hMIG18 : MI G18 o (gS G o 9) := hMIG15.cg hpG18 (hfG18 (o + 1) (KX.al (KX.trans (KX.trans (KX.trans hXG2 hXG5) hXG12) hXG15) (kne kM1 (by decide))) rg23) (hfG18 (o + 3) (KX.al (KX.trans (KX.trans (KX.trans hXG2 hXG5) hXG12) hXG15) (kne kM3 (by decide))) rg24) (hfG18 (o + 4) (KX.al (KX.trans (KX.trans (KX.trans hXG2 hXG5) hXG12) hXG15) (kne kM4 (by decide))) rg25) (congrFun (hfG18 (327681) (KX.al (KX.trans (KX.trans (KX.trans hXG2 hXG5) hXG12) hXG15) (kne kMp (by decide))) rg26) 12)
        have hMCG18 : MC G18 o (gS G o 9) := hMCG15.cg hpG18 (hfG18 (o + 1) (KX.al (KX.trans (KX.trans (KX.trans hXG2 hXG5) hXG12) hXG15) (kne kM1 (by decide))) rg23) (hfG18 (o + 5) (KX.al (KX.trans (KX.trans (KX.trans hXG2 hXG5) hXG12) hXG15) (kne kM5 (by decide))) rg27)
        have hNOG18 : NO G18 o (gS G o 9) := hNOG15.cg hpG18 (hfG18 (o + 1) (KX.al (KX.trans (KX.trans (KX.trans hXG2 hXG5) hXG12) hXG15) (kne kM1 (by decide))) rg23) (hfG18 (o + 5) (KX.al (KX.trans (KX.trans (KX.trans hXG2 hXG5) hXG12) hXG15) (kne kM5 (by decide))) rg27) (hfG18 (327706) (KX.al (KX.trans (KX.trans (KX.trans hXG2 hXG5) hXG12) hXG15) (kne kMp10 (by decide))) rg28)
        have hLOG18 : LO G G18 o (10 * gS G o 9) := hLOG15.cg (hfG18 (o + 1) (KX.al (KX.trans (KX.trans (KX.trans hXG2 hXG5) hXG12) hXG15) (kne kM1 (by decide))) rg23) (hfG18 (o + 3) (KX.al (KX.trans (KX.trans (KX.trans hXG2 hXG5) hXG12) hXG15) (kne kM3 (by decide))) rg24) (hfG18 (o + 4) (KX.al (KX.trans (KX.trans (KX.trans hXG2 hXG5) hXG12) hXG15) (kne kM4 (by decide))) rg25)
        show WP kX3_runAlone X 71 [some (2, ((o : Nat) : Int)), some (2, ((n : Nat) : Int)), some (0, d), some (0, gS G o 9), some (0, rr3)] [] G18
        refine s_iload dX3_runAlone_71 rfl ?_
        exact s_iret hR dX3_runAlone_73 rfl (hQ rr3 G18 hCG18 (KX.trans (KX.trans (KX.trans (KX.trans hXG2 hXG5) hXG12) hXG15) hXG18) hFG18 (Or.inr ⟨by omega, hMIG18, hMCG18, hLOG18⟩))
      · -- 45 to 48
        refine s_aload_n dX3_runAlone_48 rfl (Int.natCast_nonneg _) ?_
        refine s_bipush dX3_runAlone_49 rfl (by decide) ?_
        have hk23 : gK G12 (o) = (12, 0) := ((hXG12).k hk10 (by decide))
        refine s_callV (as := [(0, 9)]) (rest := []) (n := o) (ci := 4) gX3_fail dX3_runAlone_51 m_1384 m_947 m_1675 m_717 m_295 ⟨by decide, by decide, show (parseMethodDescriptor yX3_fail.desc).map (fun d => d.parameters.length) = some 1 from by decide +kernel⟩ (Nat.le_of_ble_eq_true rfl) (by rw [hcf]; omega) hk23 rfl rfl (Nat.le_of_ble_eq_true rfl) ⟨o, 9, a, b, rfl, hCG12, hab, (by assumption), fun rr22 G21 hCG21 hXG21 hfG21 hpG21 => ?_⟩
        have hFG21 : WX (fun x => (o ≤ x ∧ x ≤ o + 8) ∨ x = o + 13 ∨ (o + 20 ≤ x ∧ x ≤ o + 24)) G G21 := WX.trans hFG12 (KX.trans (KX.trans hXG2 hXG5) hXG12) (WX.mono hfG21 rg29)
        have hIG21 : gS G21 o 9 = gS G2 o 9 := (congrFun (hfG21 o (KX.al (KX.trans (KX.trans hXG2 hXG5) hXG12) (kne kM (by decide))) rg30) 9).trans hIG12
        have hMIG21 : MI G21 o (gS G o 9) := hMIG12.cg (congrFun (hfG21 (o) (KX.al (KX.trans (KX.trans hXG2 hXG5) hXG12) (kne kM (by decide))) rg30) 9) (hfG21 (o + 1) (KX.al (KX.trans (KX.trans hXG2 hXG5) hXG12) (kne kM1 (by decide))) rg31) (hfG21 (o + 3) (KX.al (KX.trans (KX.trans hXG2 hXG5) hXG12) (kne kM3 (by decide))) rg32) (hfG21 (o + 4) (KX.al (KX.trans (KX.trans hXG2 hXG5) hXG12) (kne kM4 (by decide))) rg33) (congrFun (hfG21 (327681) (KX.al (KX.trans (KX.trans hXG2 hXG5) hXG12) (kne kMp (by decide))) rg34) 12)
        have hMCG21 : MC G21 o (gS G o 9) := hMCG12.cg (congrFun (hfG21 (o) (KX.al (KX.trans (KX.trans hXG2 hXG5) hXG12) (kne kM (by decide))) rg30) 9) (hfG21 (o + 1) (KX.al (KX.trans (KX.trans hXG2 hXG5) hXG12) (kne kM1 (by decide))) rg31) (hfG21 (o + 5) (KX.al (KX.trans (KX.trans hXG2 hXG5) hXG12) (kne kM5 (by decide))) rg35)
        have hNOG21 : NO G21 o (gS G o 9) := hNOG12.cg (congrFun (hfG21 (o) (KX.al (KX.trans (KX.trans hXG2 hXG5) hXG12) (kne kM (by decide))) rg30) 9) (hfG21 (o + 1) (KX.al (KX.trans (KX.trans hXG2 hXG5) hXG12) (kne kM1 (by decide))) rg31) (hfG21 (o + 5) (KX.al (KX.trans (KX.trans hXG2 hXG5) hXG12) (kne kM5 (by decide))) rg35) (hfG21 (327706) (KX.al (KX.trans (KX.trans hXG2 hXG5) hXG12) (kne kMp10 (by decide))) rg36)
        have hLOG21 : LO G G21 o (10 * gS G o 9) := hLOG12.cg (hfG21 (o + 1) (KX.al (KX.trans (KX.trans hXG2 hXG5) hXG12) (kne kM1 (by decide))) rg31) (hfG21 (o + 3) (KX.al (KX.trans (KX.trans hXG2 hXG5) hXG12) (kne kM3 (by decide))) rg32) (hfG21 (o + 4) (KX.al (KX.trans (KX.trans hXG2 hXG5) hXG12) (kne kM4 (by decide))) rg33)
        show WP kX3_runAlone X 54 [some (2, ((o : Nat) : Int)), some (2, ((n : Nat) : Int)), some (0, d), some (0, gS G o 9), some (0, rr3)] [(0, rr22)] G21
        exact s_iret hR dX3_runAlone_54 rfl (hQ rr22 G21 hCG21 (KX.trans (KX.trans (KX.trans hXG2 hXG5) hXG12) hXG21) hFG21 (Or.inl hpG21.1))
    · -- 30 to 33
      refine s_aload_n dX3_runAlone_33 rfl (Int.natCast_nonneg _) ?_
      refine s_bipush dX3_runAlone_34 rfl (by decide) ?_
      refine s_callV (as := [(0, 8)]) (rest := []) (n := o) (ci := 4) gX3_fail dX3_runAlone_36 m_1384 m_947 m_1675 m_717 m_295 ⟨by decide, by decide, show (parseMethodDescriptor yX3_fail.desc).map (fun d => d.parameters.length) = some 1 from by decide +kernel⟩ (Nat.le_of_ble_eq_true rfl) (by rw [hcf]; omega) hk10 rfl rfl (Nat.le_of_ble_eq_true rfl) ⟨o, 8, a, b, rfl, hCG5, hab, (by assumption), fun rr25 G24 hCG24 hXG24 hfG24 hpG24 => ?_⟩
      have hFG24 : WX (fun x => (o ≤ x ∧ x ≤ o + 8) ∨ x = o + 13 ∨ (o + 20 ≤ x ∧ x ≤ o + 24)) G G24 := WX.trans hFG5 (KX.trans hXG2 hXG5) (WX.mono hfG24 rg29)
      have hIG24 : gS G24 o 9 = gS G2 o 9 := (congrFun (hfG24 o (KX.al (KX.trans hXG2 hXG5) (kne kM (by decide))) rg30) 9).trans hIG5
      have hMIG24 : MI G24 o (gS G o 9) := hMIG5.cg (congrFun (hfG24 (o) (KX.al (KX.trans hXG2 hXG5) (kne kM (by decide))) rg30) 9) (hfG24 (o + 1) (KX.al (KX.trans hXG2 hXG5) (kne kM1 (by decide))) rg31) (hfG24 (o + 3) (KX.al (KX.trans hXG2 hXG5) (kne kM3 (by decide))) rg32) (hfG24 (o + 4) (KX.al (KX.trans hXG2 hXG5) (kne kM4 (by decide))) rg33) (congrFun (hfG24 (327681) (KX.al (KX.trans hXG2 hXG5) (kne kMp (by decide))) rg34) 12)
      have hMCG24 : MC G24 o (gS G o 9) := hMCG5.cg (congrFun (hfG24 (o) (KX.al (KX.trans hXG2 hXG5) (kne kM (by decide))) rg30) 9) (hfG24 (o + 1) (KX.al (KX.trans hXG2 hXG5) (kne kM1 (by decide))) rg31) (hfG24 (o + 5) (KX.al (KX.trans hXG2 hXG5) (kne kM5 (by decide))) rg35)
      have hLOG24 : LO G G24 o (10 * gS G o 9) := hLOG5.cg (hfG24 (o + 1) (KX.al (KX.trans hXG2 hXG5) (kne kM1 (by decide))) rg31) (hfG24 (o + 3) (KX.al (KX.trans hXG2 hXG5) (kne kM3 (by decide))) rg32) (hfG24 (o + 4) (KX.al (KX.trans hXG2 hXG5) (kne kM4 (by decide))) rg33)
      show WP kX3_runAlone X 39 [some (2, ((o : Nat) : Int)), some (2, ((n : Nat) : Int)), some (0, d), some (0, gS G o 9), some (0, rr3)] [(0, rr25)] G24
      exact s_iret hR dX3_runAlone_39 rfl (hQ rr25 G24 hCG24 (KX.trans (KX.trans hXG2 hXG5) hXG24) hFG24 (Or.inl hpG24.1))
  · -- 15 to 18
    refine s_iconst dX3_runAlone_18 (by decide) ?_
    exact s_iret hR dX3_runAlone_19 rfl (hQ ((-1)) G2 hCG2 hXG2 hFG2 (Or.inl rfl))

abbrev kX3_choiceInstance : KD := (RX3, cX3_choiceInstance, 8, (some .int), [])
def TX3_choiceInstance (m : Nat) : TR := fun as G Qr => ∃ (o n i : Nat) (d : Int) (a b : Nat), as = [(2, ((o : Nat) : Int)), (2, ((n : Nat) : Int)), (0, d)] ∧ CI a b G ∧ (a ≤ 2840000 ∧ b ≤ 590000) ∧ (isMc o) ∧ (n = 65536 + 64 * i) ∧ ((i : Int) < nN G) ∧ (gS G n 1 = 3) ∧ (0 ≤ d ∧ d ≤ 24 ∧ 25 ≤ d + m) ∧ ∀ (r : Int) (G' : LG), CI a b G' → KX G G' → WX (fun x => (o ≤ x ∧ x ≤ o + 8) ∨ x = o + 13 ∨ (o + 20 ≤ x ∧ x ≤ o + 24)) G G' → (r = -1 ∨ ((gS G o 9 ≤ r ∧ r < gS G' o 9) ∧ MI G' o (gS G o 9) ∧ LO G G' o (10 * gS G o 9))) → Qr (.inl (some (0, r))) G'
set_option maxHeartbeats 4000000 in
set_option maxRecDepth 100000 in
theorem gX3_choiceInstance (m : Nat) (ih : Good kX3_instance yX3_instance (4 * m + 80) (TX3_instance m)) : Good kX3_choiceInstance yX3_choiceInstance (4 * m + 82) (TX3_choiceInstance m) := by
  refine good_of (by decide) rfl rfl (fun as G Qr h => ?_) (fun X as G Qr hcf hR hT oa => ?_)
  · obtain ⟨o, n, i, d, a, b, rfl, -⟩ := h; exact Nat.le_of_ble_eq_true rfl
  obtain ⟨o, n, i, d, a, b, rfl, hC, hab, ho, hni, hnn, hk, hd, hQ⟩ := hT
  show WP kX3_choiceInstance X 0 [some (2, ((o : Nat) : Int)), some (2, ((n : Nat) : Int)), some (0, d), none, none, none, none, none] [] G
  have hr_d : inR d := okv_R (oa _ (by simp))
  have rg0 : RM (fun x => (o ≤ x ∧ x ≤ o + 8) ∨ x = o + 13 ∨ (o + 20 ≤ x ∧ x ≤ o + 24)) (fun x => (o ≤ x ∧ x ≤ o + 8) ∨ x = o + 13 ∨ (o + 20 ≤ x ∧ x ≤ o + 24)) := fun x hx => by (try dsimp only at hx ⊢); omega
  have rg1 : RM (fun x => x = o) (fun x => (o ≤ x ∧ x ≤ o + 8) ∨ x = o + 13 ∨ (o + 20 ≤ x ∧ x ≤ o + 24)) := fun x hx => by (try dsimp only at hx ⊢); omega
  refine s_alvl o (k := 0) rfl (fun alo => ?_)
  refine s_lk (fun hlk => ?_)
  have hmn := hlk.mna hC ho alo
  obtain ⟨kM, kM1, kM2, kM3, kM4, kM5, kM6, kM7, kM8, kM13, kM15, kM20, kMp, kMp5, kMp6, kMp7, kMp8, kMp9, kMp10, kMp13, kMp14, kMp16⟩ := id hmn
  have hin : 0 ≤ gS G o 9 ∧ gS G o 9 ≤ 24 := hC.1.v (c := 300) (j := 9) (by rcases ho with rfl | rfl <;> decide) alo (by rw [kM]; exact Nat.le_of_ble_eq_true rfl)
  obtain ⟨hn40, hkn, pa, hpa, hpm, hpc, hkp, hpt, hu6, hr4⟩ := hC.nd hni hnn
  have hn : isNd n := by omega
  have hti1 : 0 ≤ gS G n 1 ∧ gS G n 1 ≤ 6 := hC.1.v (c := 100) (j := 1) (by rw [cde_n (by omega) (by omega)]; omega) (kne hkn (by decide)) (by rw [hkn]; exact Nat.le_of_ble_eq_true rfl)
  obtain ⟨x0, hx0⟩ : ∃ x : Nat, x = 65536 + 64 * ptC G i 0 := ⟨_, rfl⟩
  obtain ⟨hq0, hl0⟩ := hpt 0 (npt_0 (by omega))
  rw [← hx0] at hq0
  have hn0 : isNd x0 := by omega
  obtain ⟨x1, hx1⟩ : ∃ x : Nat, x = 65536 + 64 * ptC G i 1 := ⟨_, rfl⟩
  obtain ⟨hq1, hl1⟩ := hpt 1 (npt_1 (by omega))
  rw [← hx1] at hq1
  have hn1 : isNd x1 := by omega
  obtain ⟨x2, hx2⟩ : ∃ x : Nat, x = 65536 + 64 * ptC G i 2 := ⟨_, rfl⟩
  obtain ⟨hq2, hl2⟩ := hpt 2 (npt_2 (by omega))
  rw [← hx2] at hq2
  have hn2 : isNd x2 := by omega
  refine s_aload_n dX3_choiceInstance_0 rfl (Int.natCast_nonneg _) ?_
  have hv1 : 0 ≤ (gS G o 9) ∧ (gS G o 9) ≤ 24 := hC.1.v (j := 9) (by rw [cde_m (by omega) (by omega)]; omega : cde o = 300) (kne kM (by decide)) (by rw [kM]; exact Nat.le_of_ble_eq_true rfl)
  refine s_getf (ci := 4) (k := 9) (C := RX3) (T := TX3) (N := 18) (n := o) (L := 0) (t := 0) dX3_choiceInstance_1 rfl wi_71 m_622 (Nat.le_of_ble_eq_true rfl) rfl rfl kM rfl ?_
  refine s_istore_n dX3_choiceInstance_4 (by decide) (lv' := [some (2, ((o : Nat) : Int)), some (2, ((n : Nat) : Int)), some (0, d), some (0, gS G o 9), none, none, none, none]) rfl ?_
  refine s_aload_n dX3_choiceInstance_5 rfl (Int.natCast_nonneg _) ?_
  refine s_aload_n dX3_choiceInstance_6 rfl (Int.natCast_nonneg _) ?_
  refine s_getf (ci := 5) (k := 2) (C := RX4) (T := TX4) (N := 14) (n := n) (L := 0) (t := 2) dX3_choiceInstance_7 rfl wi_72 m_596 (Nat.le_of_ble_eq_true rfl) rfl rfl hkn hpa ?_
  refine s_iconst dX3_choiceInstance_10 (by decide) ?_
  refine s_aald6 dX3_choiceInstance_11 hkp (by omega) (by omega) hq2 ?_
  refine s_iload_n dX3_choiceInstance_12 rfl ?_
  refine s_iconst dX3_choiceInstance_13 (by decide) ?_
  refine s_iadd dX3_choiceInstance_14 (by omega) ?_
  refine s_callV (as := [(2, ((x2 : Nat) : Int)), (0, d + 1)]) (rest := []) (n := o) (ci := 4) (gX3_runAlone m ih) dX3_choiceInstance_15 m_1379 m_964 m_1691 m_717 m_312 ⟨by decide, by decide, show (parseMethodDescriptor yX3_runAlone.desc).map (fun d => d.parameters.length) = some 2 from by decide +kernel⟩ (Nat.le_of_ble_eq_true rfl) (by rw [hcf]; omega) kM rfl rfl (Nat.le_of_ble_eq_true rfl) ⟨o, x2, (ptC G i 2), d + 1, a, b, rfl, hC, hab, (by assumption), (by exact hx2), (by omega), (by omega), fun rr6 G5 hCG5 hXG5 hfG5 hpG5 => ?_⟩
  have hFG5 : WX (fun x => (o ≤ x ∧ x ≤ o + 8) ∨ x = o + 13 ∨ (o + 20 ≤ x ∧ x ≤ o + 24)) G G5 := WX.trans WX.rf KX.rf (WX.mono hfG5 rg0)
  show WP kX3_choiceInstance X 18 [some (2, ((o : Nat) : Int)), some (2, ((n : Nat) : Int)), some (0, d), some (0, gS G o 9), none, none, none, none] [(0, rr6)] G5
  refine s_istore dX3_choiceInstance_18 (by decide) (lv' := [some (2, ((o : Nat) : Int)), some (2, ((n : Nat) : Int)), some (0, d), some (0, gS G o 9), some (0, rr6), none, none, none]) rfl ?_
  refine s_iload dX3_choiceInstance_20 rfl ?_
  refine s_if_ge (tgt := 27) dX3_choiceInstance_22 (by decide) (fun c7 => ?_) (fun c7 => ?_)
  · -- 22 to 27
    have hnrG5 : gS G5 n = gS G n := hFG5 n (kne hkn (by decide)) (by show ¬ _; omega)
    have hpaG5 : gS G5 n 2 = (pa : Int) := by rw [hnrG5]; exact hpa
    have hprG5 : gS G5 pa = gS G pa := hFG5 pa (kne hkp (by decide)) (by show ¬ _; omega)
    have hnNG5 : nN G5 = nN G := by unfold nN; rw [hFG5 327685 (kne kMp16 (by decide)) (by show ¬ _; omega)]
    have hpxG5 : gS G5 327681 12 = gS G 327681 12 := congrFun (hFG5 327681 (kne kMp (by decide)) (by show ¬ _; omega)) 12
    have hq0G5 : gS G5 pa 0 = ((x0 : Nat) : Int) := by rw [hprG5]; exact hq0
    have hq1G5 : gS G5 pa 1 = ((x1 : Nat) : Int) := by rw [hprG5]; exact hq1
    have hq2G5 : gS G5 pa 2 = ((x2 : Nat) : Int) := by rw [hprG5]; exact hq2
    obtain ⟨hr1, hMI1, hMC1, hLO1⟩ := hpG5.resolve_left (by omega)
    have h24 : gS G5 o 9 ≤ 24 := (hCG5.1.v (c := 300) (j := 9) (by rcases ho with rfl | rfl <;> decide) (KX.al hXG5 alo) (by rw [hXG5.k kM (by decide)]; exact Nat.le_of_ble_eq_true rfl)).2
    refine s_aload_n dX3_choiceInstance_27 rfl (Int.natCast_nonneg _) ?_
    refine s_aload_n dX3_choiceInstance_28 rfl (Int.natCast_nonneg _) ?_
    have hk8 : gK G5 (n) = (13, 0) := ((hXG5).k hkn (by decide))
    refine s_alv (n) (by simp) (fun (al9 : AL G5 n) => ?_)
    refine s_getf (ci := 5) (k := 2) (C := RX4) (T := TX4) (N := 14) (n := n) (L := 0) (t := 2) dX3_choiceInstance_29 rfl wi_72 m_596 (Nat.le_of_ble_eq_true rfl) rfl rfl hk8 hpaG5 ?_
    refine s_iconst dX3_choiceInstance_32 (by decide) ?_
    have hk11 : gK G5 (pa) = (6, npt (gS G n 1)) := ((hXG5).k hkp (by decide))
    refine s_alv (pa) (by simp) (fun (al12 : AL G5 pa) => ?_)
    refine s_aald6 dX3_choiceInstance_33 hk11 (by omega) (by omega) hq2G5 ?_
    refine s_iload dX3_choiceInstance_34 rfl ?_
    refine s_iconst dX3_choiceInstance_36 (by decide) ?_
    have hk17 : gK G5 (o) = (12, 0) := ((hXG5).k kM (by decide))
    refine s_callV (as := [(2, ((x2 : Nat) : Int)), (0, rr6), (0, 0)]) (rest := []) (n := o) (ci := 4) gX3_faceCell dX3_choiceInstance_37 m_1380 m_946 m_1674 m_717 m_294 ⟨by decide, by decide, show (parseMethodDescriptor yX3_faceCell.desc).map (fun d => d.parameters.length) = some 3 from by decide +kernel⟩ (Nat.le_of_ble_eq_true rfl) (by rw [hcf]; omega) hk17 rfl rfl (Nat.le_of_ble_eq_true rfl) ⟨o, x2, rr6, 0, (gS G o 9), a, b, rfl, hCG5, hab, (by assumption), (by assumption), (by omega), (by assumption), (by assumption), (by omega), (by omega), fun rr15 hp16 => ?_⟩
    show WP kX3_choiceInstance X 40 [some (2, ((o : Nat) : Int)), some (2, ((n : Nat) : Int)), some (0, d), some (0, gS G o 9), some (0, rr6), none, none, none] [(0, rr15)] G5
    refine s_istore dX3_choiceInstance_40 (by decide) (lv' := [some (2, ((o : Nat) : Int)), some (2, ((n : Nat) : Int)), some (0, d), some (0, gS G o 9), some (0, rr6), some (0, rr15), none, none]) rfl ?_
    refine s_iload dX3_choiceInstance_42 rfl ?_
    refine s_if_ge (tgt := 52) dX3_choiceInstance_44 (by decide) (fun c18 => ?_) (fun c18 => ?_)
    · -- 44 to 52
      have hst := hCG5.states ho (KX.al hXG5 (kne kM20 (by decide))) rr15 (by omega)
      refine s_aload_n dX3_choiceInstance_52 rfl (Int.natCast_nonneg _) ?_
      refine s_alv (o) (by simp) (fun (al19 : AL G5 o) => ?_)
      have hv20 : gS G5 o 7 = ((o + 7 : Nat) : Int) := by have h9 : (gS G5 o 7) = (((o % 1048576) + 7 : Nat) : Int) := hCG5.1.v (j := 7) (by rw [cde_m (by omega) (by omega)]; omega : cde o = 300) al19 (by rw [hk17]; exact Nat.le_of_ble_eq_true rfl); omega
      refine s_getf (ci := 4) (k := 7) (C := RX3) (T := TX3) (N := 18) (n := o) (L := 0) (t := 2) dX3_choiceInstance_53 rfl wi_71 m_616 (Nat.le_of_ble_eq_true rfl) rfl rfl hk17 hv20 ?_
      refine s_iload dX3_choiceInstance_56 rfl ?_
      have hk21 : gK G5 (o + 7) = (1, 240) := ((hXG5).k kM7 (by decide))
      refine s_iald dX3_choiceInstance_58 hk21 (by omega) (by omega) rfl ?_
      refine s_istore dX3_choiceInstance_59 (by decide) (lv' := [some (2, ((o : Nat) : Int)), some (2, ((n : Nat) : Int)), some (0, d), some (0, gS G o 9), some (0, rr6), some (0, rr15), some (0, gS G5 (o + 7) ((rr15 : Int).toNat)), none]) rfl ?_
      refine s_iload dX3_choiceInstance_61 rfl ?_
      refine s_if_lt (tgt := 78) dX3_choiceInstance_63 (by decide) (fun c22 => ?_) (fun c22 => ?_)
      · -- 63 to 78
        refine s_aload_n dX3_choiceInstance_78 rfl (Int.natCast_nonneg _) ?_
        refine s_bipush dX3_choiceInstance_79 rfl (by decide) ?_
        refine s_callV (as := [(0, 11)]) (rest := []) (n := o) (ci := 4) gX3_fail dX3_choiceInstance_81 m_1384 m_947 m_1675 m_717 m_295 ⟨by decide, by decide, show (parseMethodDescriptor yX3_fail.desc).map (fun d => d.parameters.length) = some 1 from by decide +kernel⟩ (Nat.le_of_ble_eq_true rfl) (by rw [hcf]; omega) hk17 rfl rfl (Nat.le_of_ble_eq_true rfl) ⟨o, 11, a, b, rfl, hCG5, hab, (by assumption), fun rr24 G23 hCG23 hXG23 hfG23 hpG23 => ?_⟩
        have hFG23 : WX (fun x => (o ≤ x ∧ x ≤ o + 8) ∨ x = o + 13 ∨ (o + 20 ≤ x ∧ x ≤ o + 24)) G G23 := WX.trans hFG5 hXG5 (WX.mono hfG23 rg1)
        show WP kX3_choiceInstance X 84 [some (2, ((o : Nat) : Int)), some (2, ((n : Nat) : Int)), some (0, d), some (0, gS G o 9), some (0, rr6), some (0, rr15), some (0, gS G5 (o + 7) ((rr15 : Int).toNat)), none] [(0, rr24)] G23
        exact s_iret hR dX3_choiceInstance_84 rfl (hQ rr24 G23 hCG23 (KX.trans hXG5 hXG23) hFG23 (Or.inl hpG23.1))
      · -- 63 to 66
        refine s_aload_n dX3_choiceInstance_66 rfl (Int.natCast_nonneg _) ?_
        have hv25 : gS G5 o 12 = ((o + 20 : Nat) : Int) := by have h9 : (gS G5 o 12) = (((o % 1048576) + 20 : Nat) : Int) := hCG5.1.v (j := 12) (by rw [cde_m (by omega) (by omega)]; omega : cde o = 300) al19 (by rw [hk17]; exact Nat.le_of_ble_eq_true rfl); omega
        refine s_getf (ci := 4) (k := 12) (C := RX3) (T := TX3) (N := 18) (n := o) (L := 0) (t := 2) dX3_choiceInstance_67 rfl wi_71 m_618 (Nat.le_of_ble_eq_true rfl) rfl rfl hk17 hv25 ?_
        refine s_iload dX3_choiceInstance_70 rfl ?_
        have hk28 : gK G5 (o + 20) = (18, 0) := ((hXG5).k kM20 (by decide))
        refine s_callV (as := [(0, gS G5 (o + 7) ((rr15 : Int).toNat))]) (rest := []) (n := o + 20) (ci := 10) gX9_isPair dX3_choiceInstance_72 m_1355 m_1017 m_1738 m_723 m_365 ⟨by decide, by decide, show (parseMethodDescriptor yX9_isPair.desc).map (fun d => d.parameters.length) = some 1 from by decide +kernel⟩ (Nat.le_of_ble_eq_true rfl) (by rw [hcf]; omega) hk28 rfl rfl (Nat.le_of_ble_eq_true rfl) ⟨o + 20, gS G5 (o + 7) ((rr15 : Int).toNat), a, b, rfl, hCG5, hab, (by omega), (by omega), fun rr26 hp27 => ?_⟩
        show WP kX3_choiceInstance X 75 [some (2, ((o : Nat) : Int)), some (2, ((n : Nat) : Int)), some (0, d), some (0, gS G o 9), some (0, rr6), some (0, rr15), some (0, gS G5 (o + 7) ((rr15 : Int).toNat)), none] [(0, rr26)] G5
        refine s_if_eq (tgt := 85) dX3_choiceInstance_75 (by decide) (fun c29 => ?_) (fun c29 => ?_)
        · -- 75 to 85
          refine s_aload_n dX3_choiceInstance_85 rfl (Int.natCast_nonneg _) ?_
          have hv30 : gS G5 o 12 = ((o + 20 : Nat) : Int) := by have h9 : (gS G5 o 12) = (((o % 1048576) + 20 : Nat) : Int) := hCG5.1.v (j := 12) (by rw [cde_m (by omega) (by omega)]; omega : cde o = 300) al19 (by rw [hk17]; exact Nat.le_of_ble_eq_true rfl); omega
          refine s_getf (ci := 4) (k := 12) (C := RX3) (T := TX3) (N := 18) (n := o) (L := 0) (t := 2) dX3_choiceInstance_86 rfl wi_71 m_618 (Nat.le_of_ble_eq_true rfl) rfl rfl hk17 hv30 ?_
          refine s_iload dX3_choiceInstance_89 rfl ?_
          refine s_callV (as := [(0, gS G5 (o + 7) ((rr15 : Int).toNat))]) (rest := []) (n := o + 20) (ci := 10) gX9_firstOf dX3_choiceInstance_91 m_1356 m_1015 m_1737 m_723 m_363 ⟨by decide, by decide, show (parseMethodDescriptor yX9_firstOf.desc).map (fun d => d.parameters.length) = some 1 from by decide +kernel⟩ (Nat.le_of_ble_eq_true rfl) (by rw [hcf]; omega) hk28 rfl rfl (Nat.le_of_ble_eq_true rfl) ⟨o + 20, gS G5 (o + 7) ((rr15 : Int).toNat), a, b, rfl, hCG5, hab, (by omega), (by omega), fun rr31 hp32 => ?_⟩
          show WP kX3_choiceInstance X 94 [some (2, ((o : Nat) : Int)), some (2, ((n : Nat) : Int)), some (0, d), some (0, gS G o 9), some (0, rr6), some (0, rr15), some (0, gS G5 (o + 7) ((rr15 : Int).toNat)), none] [(0, rr31)] G5
          have J34 : ∀ z33 : Int, ((rr31 = 0) ∧ z33 = 0) ∨ ((¬ rr31 = 0) ∧ z33 = 1) → WP kX3_choiceInstance X 102 [some (2, ((o : Nat) : Int)), some (2, ((n : Nat) : Int)), some (0, d), some (0, gS G o 9), some (0, rr6), some (0, rr15), some (0, gS G5 (o + 7) ((rr15 : Int).toNat)), none] [(0, z33)] G5 := by
            intro z33 hz33
            refine s_istore dX3_choiceInstance_102 (by decide) (lv' := [some (2, ((o : Nat) : Int)), some (2, ((n : Nat) : Int)), some (0, d), some (0, gS G o 9), some (0, rr6), some (0, rr15), some (0, gS G5 (o + 7) ((rr15 : Int).toNat)), some (0, z33)]) rfl ?_
            refine s_aload_n dX3_choiceInstance_104 rfl (Int.natCast_nonneg _) ?_
            refine s_iload_n dX3_choiceInstance_105 rfl ?_
            refine s_putf (ci := 4) (k := 9) (C := RX3) (T := TX3) (N := 18) (n := o) (L := 0) dX3_choiceInstance_106 rfl wi_71 m_622 (Nat.le_of_ble_eq_true rfl) rfl rfl tyX3_ok nmX3 rfl (Or.inl rfl) hk17 ?_
            generalize eG35r : gset G5 o 9 (gS G o 9) = G35
            have eG35 := eG35r.symm
            have hCG35 : CI a b G35 := by rw [eG35]; exact hCG5.set (by rw [(by rw [cde_m (by omega) (by omega)]; omega : cde o = 300)]; rfl) (by rw [(by rw [cde_m (by omega) (by omega)]; omega : cde o = 300)]; exact (show 0 ≤ (gS G o 9) ∧ (gS G o 9) ≤ 24 from by omega))
            have hXG35 : KX G5 G35 := KX.set KX.rf eG35
            have hFG35 : WX (fun x => (o ≤ x ∧ x ≤ o + 8) ∨ x = o + 13 ∨ (o + 20 ≤ x ∧ x ≤ o + 24)) G G35 := WX.set hFG5 eG35 (by show _; omega)
            show WP kX3_choiceInstance X 109 [some (2, ((o : Nat) : Int)), some (2, ((n : Nat) : Int)), some (0, d), some (0, gS G o 9), some (0, rr6), some (0, rr15), some (0, gS G5 (o + 7) ((rr15 : Int).toNat)), some (0, z33)] [] G35
            have hnrG35 : gS G35 n = gS G n := hFG35 n (kne hkn (by decide)) (by show ¬ _; omega)
            have hpaG35 : gS G35 n 2 = (pa : Int) := by rw [hnrG35]; exact hpa
            have hprG35 : gS G35 pa = gS G pa := hFG35 pa (kne hkp (by decide)) (by show ¬ _; omega)
            have hnNG35 : nN G35 = nN G := by unfold nN; rw [hFG35 327685 (kne kMp16 (by decide)) (by show ¬ _; omega)]
            have hpxG35 : gS G35 327681 12 = gS G 327681 12 := congrFun (hFG35 327681 (kne kMp (by decide)) (by show ¬ _; omega)) 12
            have hq0G35 : gS G35 pa 0 = ((x0 : Nat) : Int) := by rw [hprG35]; exact hq0
            have hq1G35 : gS G35 pa 1 = ((x1 : Nat) : Int) := by rw [hprG35]; exact hq1
            have hq2G35 : gS G35 pa 2 = ((x2 : Nat) : Int) := by rw [hprG35]; exact hq2
            have h92 : gS G35 o 9 = gS G o 9 := gsaE eG35
            have hLO2 : LO G G35 o (10 * gS G o 9) := hLO1.cg (gset_o eG35 (by omega)) (gset_o eG35 (by omega)) (gset_o eG35 (by omega))
            refine s_aload_n dX3_choiceInstance_109 rfl (Int.natCast_nonneg _) ?_
            refine s_aload_n dX3_choiceInstance_110 rfl (Int.natCast_nonneg _) ?_
            have hk36 : gK G35 (n) = (13, 0) := ((hXG35).k hk8 (by decide))
            refine s_alv (n) (by simp) (fun (al37 : AL G35 n) => ?_)
            refine s_getf (ci := 5) (k := 2) (C := RX4) (T := TX4) (N := 14) (n := n) (L := 0) (t := 2) dX3_choiceInstance_111 rfl wi_72 m_596 (Nat.le_of_ble_eq_true rfl) rfl rfl hk36 hpaG35 ?_
            refine s_iload dX3_choiceInstance_114 rfl ?_
            refine s_if_eq (tgt := 123) dX3_choiceInstance_116 (by decide) (fun c39 => ?_) (fun c39 => ?_)
            · -- 116 to 123
              refine s_iconst dX3_choiceInstance_123 (by decide) ?_
              have hk40 : gK G35 (pa) = (6, npt (gS G n 1)) := ((hXG35).k hk11 (by decide))
              refine s_alv (pa) (by simp) (fun (al41 : AL G35 pa) => ?_)
              refine s_aald6 dX3_choiceInstance_124 hk40 (by omega) (by omega) hq1G35 ?_
              refine s_iload_n dX3_choiceInstance_125 rfl ?_
              refine s_iconst dX3_choiceInstance_126 (by decide) ?_
              refine s_iadd dX3_choiceInstance_127 (by omega) ?_
              have hk46 : gK G35 (o) = (12, 0) := ((hXG35).k hk17 (by decide))
              refine s_callV (as := [(2, ((x1 : Nat) : Int)), (0, d + 1)]) (rest := []) (n := o) (ci := 4) ih dX3_choiceInstance_128 m_1381 m_954 m_1681 m_717 m_302 ⟨by decide, by decide, show (parseMethodDescriptor yX3_instance.desc).map (fun d => d.parameters.length) = some 2 from by decide +kernel⟩ (Nat.le_of_ble_eq_true rfl) (by rw [hcf]; omega) hk46 rfl rfl (Nat.le_of_ble_eq_true rfl) ⟨o, x1, (ptC G i 1), d + 1, a, b, rfl, hCG35, hab, (by assumption), (by exact hx1), (by rw [hnNG35]; omega), (by omega), fun rr45 G44 hCG44 hXG44 hfG44 hpG44 => ?_⟩
              have hFG44 : WX (fun x => (o ≤ x ∧ x ≤ o + 8) ∨ x = o + 13 ∨ (o + 20 ≤ x ∧ x ≤ o + 24)) G G44 := WX.trans hFG35 (KX.trans hXG5 hXG35) (WX.mono hfG44 rg0)
              show WP kX3_choiceInstance X 131 [some (2, ((o : Nat) : Int)), some (2, ((n : Nat) : Int)), some (0, d), some (0, gS G o 9), some (0, rr6), some (0, rr15), some (0, gS G5 (o + 7) ((rr15 : Int).toNat)), some (0, z33)] [(0, rr45)] G44
              exact s_iret hR dX3_choiceInstance_131 rfl (hQ rr45 G44 hCG44 (KX.trans (KX.trans hXG5 hXG35) hXG44) hFG44 (by rcases hpG44 with z | ⟨z1, z2, z3⟩; (focus (exact Or.inl z)); (focus (rw [h92] at z1 z2 z3; exact Or.inr ⟨z1, z2, hLO2.trans z3 (Int.le_refl _)⟩))))
            · -- 116 to 119
              refine s_iconst dX3_choiceInstance_119 (by decide) ?_
              refine s_goto (tgt := 124) dX3_choiceInstance_120 (by decide) ?_
              have hk47 : gK G35 (pa) = (6, npt (gS G n 1)) := ((hXG35).k hk11 (by decide))
              refine s_alv (pa) (by simp) (fun (al48 : AL G35 pa) => ?_)
              refine s_aald6 dX3_choiceInstance_124 hk47 (by omega) (by omega) hq0G35 ?_
              refine s_iload_n dX3_choiceInstance_125 rfl ?_
              refine s_iconst dX3_choiceInstance_126 (by decide) ?_
              refine s_iadd dX3_choiceInstance_127 (by omega) ?_
              have hk53 : gK G35 (o) = (12, 0) := ((hXG35).k hk17 (by decide))
              refine s_callV (as := [(2, ((x0 : Nat) : Int)), (0, d + 1)]) (rest := []) (n := o) (ci := 4) ih dX3_choiceInstance_128 m_1381 m_954 m_1681 m_717 m_302 ⟨by decide, by decide, show (parseMethodDescriptor yX3_instance.desc).map (fun d => d.parameters.length) = some 2 from by decide +kernel⟩ (Nat.le_of_ble_eq_true rfl) (by rw [hcf]; omega) hk53 rfl rfl (Nat.le_of_ble_eq_true rfl) ⟨o, x0, (ptC G i 0), d + 1, a, b, rfl, hCG35, hab, (by assumption), (by exact hx0), (by rw [hnNG35]; omega), (by omega), fun rr52 G51 hCG51 hXG51 hfG51 hpG51 => ?_⟩
              have hFG51 : WX (fun x => (o ≤ x ∧ x ≤ o + 8) ∨ x = o + 13 ∨ (o + 20 ≤ x ∧ x ≤ o + 24)) G G51 := WX.trans hFG35 (KX.trans hXG5 hXG35) (WX.mono hfG51 rg0)
              show WP kX3_choiceInstance X 131 [some (2, ((o : Nat) : Int)), some (2, ((n : Nat) : Int)), some (0, d), some (0, gS G o 9), some (0, rr6), some (0, rr15), some (0, gS G5 (o + 7) ((rr15 : Int).toNat)), some (0, z33)] [(0, rr52)] G51
              exact s_iret hR dX3_choiceInstance_131 rfl (hQ rr52 G51 hCG51 (KX.trans (KX.trans hXG5 hXG35) hXG51) hFG51 (by rcases hpG51 with z | ⟨z1, z2, z3⟩; (focus (exact Or.inl z)); (focus (rw [h92] at z1 z2 z3; exact Or.inr ⟨z1, z2, hLO2.trans z3 (Int.le_refl _)⟩))))
          refine s_if_eq (tgt := 101) dX3_choiceInstance_94 (by decide) (fun c54 => ?_) (fun c54 => ?_)
          · -- 94 to 101
            refine s_iconst dX3_choiceInstance_101 (by decide) ?_
            exact J34 0 (Or.inl ⟨c54, rfl⟩)
          · -- 94 to 97
            refine s_iconst dX3_choiceInstance_97 (by decide) ?_
            refine s_goto (tgt := 102) dX3_choiceInstance_98 (by decide) ?_
            exact J34 1 (Or.inr (⟨c54, rfl⟩))
        · -- 75 to 78
          refine s_aload_n dX3_choiceInstance_78 rfl (Int.natCast_nonneg _) ?_
          refine s_bipush dX3_choiceInstance_79 rfl (by decide) ?_
          refine s_callV (as := [(0, 11)]) (rest := []) (n := o) (ci := 4) gX3_fail dX3_choiceInstance_81 m_1384 m_947 m_1675 m_717 m_295 ⟨by decide, by decide, show (parseMethodDescriptor yX3_fail.desc).map (fun d => d.parameters.length) = some 1 from by decide +kernel⟩ (Nat.le_of_ble_eq_true rfl) (by rw [hcf]; omega) hk17 rfl rfl (Nat.le_of_ble_eq_true rfl) ⟨o, 11, a, b, rfl, hCG5, hab, (by assumption), fun rr56 G55 hCG55 hXG55 hfG55 hpG55 => ?_⟩
          have hFG55 : WX (fun x => (o ≤ x ∧ x ≤ o + 8) ∨ x = o + 13 ∨ (o + 20 ≤ x ∧ x ≤ o + 24)) G G55 := WX.trans hFG5 hXG5 (WX.mono hfG55 rg1)
          show WP kX3_choiceInstance X 84 [some (2, ((o : Nat) : Int)), some (2, ((n : Nat) : Int)), some (0, d), some (0, gS G o 9), some (0, rr6), some (0, rr15), some (0, gS G5 (o + 7) ((rr15 : Int).toNat)), none] [(0, rr56)] G55
          exact s_iret hR dX3_choiceInstance_84 rfl (hQ rr56 G55 hCG55 (KX.trans hXG5 hXG55) hFG55 (Or.inl hpG55.1))
    · -- 44 to 47
      refine s_bipush dX3_choiceInstance_47 rfl (by decide) ?_
      refine s_goto (tgt := 59) dX3_choiceInstance_49 (by decide) ?_
      refine s_istore dX3_choiceInstance_59 (by decide) (lv' := [some (2, ((o : Nat) : Int)), some (2, ((n : Nat) : Int)), some (0, d), some (0, gS G o 9), some (0, rr6), some (0, rr15), some (0, (-3)), none]) rfl ?_
      refine s_iload dX3_choiceInstance_61 rfl ?_
      refine s_if_lt (tgt := 78) dX3_choiceInstance_63 (by decide) (fun c57 => ?_) (fun c57 => ?_)
      · -- 63 to 78
        refine s_aload_n dX3_choiceInstance_78 rfl (Int.natCast_nonneg _) ?_
        refine s_bipush dX3_choiceInstance_79 rfl (by decide) ?_
        refine s_callV (as := [(0, 11)]) (rest := []) (n := o) (ci := 4) gX3_fail dX3_choiceInstance_81 m_1384 m_947 m_1675 m_717 m_295 ⟨by decide, by decide, show (parseMethodDescriptor yX3_fail.desc).map (fun d => d.parameters.length) = some 1 from by decide +kernel⟩ (Nat.le_of_ble_eq_true rfl) (by rw [hcf]; omega) hk17 rfl rfl (Nat.le_of_ble_eq_true rfl) ⟨o, 11, a, b, rfl, hCG5, hab, (by assumption), fun rr59 G58 hCG58 hXG58 hfG58 hpG58 => ?_⟩
        have hFG58 : WX (fun x => (o ≤ x ∧ x ≤ o + 8) ∨ x = o + 13 ∨ (o + 20 ≤ x ∧ x ≤ o + 24)) G G58 := WX.trans hFG5 hXG5 (WX.mono hfG58 rg1)
        show WP kX3_choiceInstance X 84 [some (2, ((o : Nat) : Int)), some (2, ((n : Nat) : Int)), some (0, d), some (0, gS G o 9), some (0, rr6), some (0, rr15), some (0, (-3)), none] [(0, rr59)] G58
        exact s_iret hR dX3_choiceInstance_84 rfl (hQ rr59 G58 hCG58 (KX.trans hXG5 hXG58) hFG58 (Or.inl hpG58.1))
      · -- 63 to 66
        refine s_aload_n dX3_choiceInstance_66 rfl (Int.natCast_nonneg _) ?_
        refine s_alv (o) (by simp) (fun (al60 : AL G5 o) => ?_)
        have hv61 : gS G5 o 12 = ((o + 20 : Nat) : Int) := by have h9 : (gS G5 o 12) = (((o % 1048576) + 20 : Nat) : Int) := hCG5.1.v (j := 12) (by rw [cde_m (by omega) (by omega)]; omega : cde o = 300) al60 (by rw [hk17]; exact Nat.le_of_ble_eq_true rfl); omega
        refine s_getf (ci := 4) (k := 12) (C := RX3) (T := TX3) (N := 18) (n := o) (L := 0) (t := 2) dX3_choiceInstance_67 rfl wi_71 m_618 (Nat.le_of_ble_eq_true rfl) rfl rfl hk17 hv61 ?_
        refine s_iload dX3_choiceInstance_70 rfl ?_
        have hk64 : gK G5 (o + 20) = (18, 0) := ((hXG5).k kM20 (by decide))
        refine s_callV (as := [(0, (-3))]) (rest := []) (n := o + 20) (ci := 10) gX9_isPair dX3_choiceInstance_72 m_1355 m_1017 m_1738 m_723 m_365 ⟨by decide, by decide, show (parseMethodDescriptor yX9_isPair.desc).map (fun d => d.parameters.length) = some 1 from by decide +kernel⟩ (Nat.le_of_ble_eq_true rfl) (by rw [hcf]; omega) hk64 rfl rfl (Nat.le_of_ble_eq_true rfl) ⟨o + 20, (-3), a, b, rfl, hCG5, hab, (by omega), (by omega), fun rr62 hp63 => ?_⟩
        show WP kX3_choiceInstance X 75 [some (2, ((o : Nat) : Int)), some (2, ((n : Nat) : Int)), some (0, d), some (0, gS G o 9), some (0, rr6), some (0, rr15), some (0, (-3)), none] [(0, rr62)] G5
        refine s_if_eq (tgt := 85) dX3_choiceInstance_75 (by decide) (fun c65 => ?_) (fun c65 => ?_)
        · -- 75 to 85
          refine s_aload_n dX3_choiceInstance_85 rfl (Int.natCast_nonneg _) ?_
          have hv66 : gS G5 o 12 = ((o + 20 : Nat) : Int) := by have h9 : (gS G5 o 12) = (((o % 1048576) + 20 : Nat) : Int) := hCG5.1.v (j := 12) (by rw [cde_m (by omega) (by omega)]; omega : cde o = 300) al60 (by rw [hk17]; exact Nat.le_of_ble_eq_true rfl); omega
          refine s_getf (ci := 4) (k := 12) (C := RX3) (T := TX3) (N := 18) (n := o) (L := 0) (t := 2) dX3_choiceInstance_86 rfl wi_71 m_618 (Nat.le_of_ble_eq_true rfl) rfl rfl hk17 hv66 ?_
          refine s_iload dX3_choiceInstance_89 rfl ?_
          refine s_callV (as := [(0, (-3))]) (rest := []) (n := o + 20) (ci := 10) gX9_firstOf dX3_choiceInstance_91 m_1356 m_1015 m_1737 m_723 m_363 ⟨by decide, by decide, show (parseMethodDescriptor yX9_firstOf.desc).map (fun d => d.parameters.length) = some 1 from by decide +kernel⟩ (Nat.le_of_ble_eq_true rfl) (by rw [hcf]; omega) hk64 rfl rfl (Nat.le_of_ble_eq_true rfl) ⟨o + 20, (-3), a, b, rfl, hCG5, hab, (by omega), (by omega), fun rr67 hp68 => ?_⟩
          show WP kX3_choiceInstance X 94 [some (2, ((o : Nat) : Int)), some (2, ((n : Nat) : Int)), some (0, d), some (0, gS G o 9), some (0, rr6), some (0, rr15), some (0, (-3)), none] [(0, rr67)] G5
          have J70 : ∀ z69 : Int, ((rr67 = 0) ∧ z69 = 0) ∨ ((¬ rr67 = 0) ∧ z69 = 1) → WP kX3_choiceInstance X 102 [some (2, ((o : Nat) : Int)), some (2, ((n : Nat) : Int)), some (0, d), some (0, gS G o 9), some (0, rr6), some (0, rr15), some (0, (-3)), none] [(0, z69)] G5 := by
            intro z69 hz69
            refine s_istore dX3_choiceInstance_102 (by decide) (lv' := [some (2, ((o : Nat) : Int)), some (2, ((n : Nat) : Int)), some (0, d), some (0, gS G o 9), some (0, rr6), some (0, rr15), some (0, (-3)), some (0, z69)]) rfl ?_
            refine s_aload_n dX3_choiceInstance_104 rfl (Int.natCast_nonneg _) ?_
            refine s_iload_n dX3_choiceInstance_105 rfl ?_
            refine s_putf (ci := 4) (k := 9) (C := RX3) (T := TX3) (N := 18) (n := o) (L := 0) dX3_choiceInstance_106 rfl wi_71 m_622 (Nat.le_of_ble_eq_true rfl) rfl rfl tyX3_ok nmX3 rfl (Or.inl rfl) hk17 ?_
            generalize eG71r : gset G5 o 9 (gS G o 9) = G71
            have eG71 := eG71r.symm
            have hCG71 : CI a b G71 := by rw [eG71]; exact hCG5.set (by rw [(by rw [cde_m (by omega) (by omega)]; omega : cde o = 300)]; rfl) (by rw [(by rw [cde_m (by omega) (by omega)]; omega : cde o = 300)]; exact (show 0 ≤ (gS G o 9) ∧ (gS G o 9) ≤ 24 from by omega))
            have hXG71 : KX G5 G71 := KX.set KX.rf eG71
            have hFG71 : WX (fun x => (o ≤ x ∧ x ≤ o + 8) ∨ x = o + 13 ∨ (o + 20 ≤ x ∧ x ≤ o + 24)) G G71 := WX.set hFG5 eG71 (by show _; omega)
            show WP kX3_choiceInstance X 109 [some (2, ((o : Nat) : Int)), some (2, ((n : Nat) : Int)), some (0, d), some (0, gS G o 9), some (0, rr6), some (0, rr15), some (0, (-3)), some (0, z69)] [] G71
            have hnrG71 : gS G71 n = gS G n := hFG71 n (kne hkn (by decide)) (by show ¬ _; omega)
            have hpaG71 : gS G71 n 2 = (pa : Int) := by rw [hnrG71]; exact hpa
            have hprG71 : gS G71 pa = gS G pa := hFG71 pa (kne hkp (by decide)) (by show ¬ _; omega)
            have hnNG71 : nN G71 = nN G := by unfold nN; rw [hFG71 327685 (kne kMp16 (by decide)) (by show ¬ _; omega)]
            have hpxG71 : gS G71 327681 12 = gS G 327681 12 := congrFun (hFG71 327681 (kne kMp (by decide)) (by show ¬ _; omega)) 12
            have hq0G71 : gS G71 pa 0 = ((x0 : Nat) : Int) := by rw [hprG71]; exact hq0
            have hq1G71 : gS G71 pa 1 = ((x1 : Nat) : Int) := by rw [hprG71]; exact hq1
            have hq2G71 : gS G71 pa 2 = ((x2 : Nat) : Int) := by rw [hprG71]; exact hq2
            have h92 : gS G71 o 9 = gS G o 9 := gsaE eG71
            have hLO2 : LO G G71 o (10 * gS G o 9) := hLO1.cg (gset_o eG71 (by omega)) (gset_o eG71 (by omega)) (gset_o eG71 (by omega))
            refine s_aload_n dX3_choiceInstance_109 rfl (Int.natCast_nonneg _) ?_
            refine s_aload_n dX3_choiceInstance_110 rfl (Int.natCast_nonneg _) ?_
            have hk72 : gK G71 (n) = (13, 0) := ((hXG71).k hk8 (by decide))
            refine s_alv (n) (by simp) (fun (al73 : AL G71 n) => ?_)
            refine s_getf (ci := 5) (k := 2) (C := RX4) (T := TX4) (N := 14) (n := n) (L := 0) (t := 2) dX3_choiceInstance_111 rfl wi_72 m_596 (Nat.le_of_ble_eq_true rfl) rfl rfl hk72 hpaG71 ?_
            refine s_iload dX3_choiceInstance_114 rfl ?_
            refine s_if_eq (tgt := 123) dX3_choiceInstance_116 (by decide) (fun c75 => ?_) (fun c75 => ?_)
            · -- 116 to 123
              refine s_iconst dX3_choiceInstance_123 (by decide) ?_
              have hk76 : gK G71 (pa) = (6, npt (gS G n 1)) := ((hXG71).k hk11 (by decide))
              refine s_alv (pa) (by simp) (fun (al77 : AL G71 pa) => ?_)
              refine s_aald6 dX3_choiceInstance_124 hk76 (by omega) (by omega) hq1G71 ?_
              refine s_iload_n dX3_choiceInstance_125 rfl ?_
              refine s_iconst dX3_choiceInstance_126 (by decide) ?_
              refine s_iadd dX3_choiceInstance_127 (by omega) ?_
              have hk82 : gK G71 (o) = (12, 0) := ((hXG71).k hk17 (by decide))
              refine s_callV (as := [(2, ((x1 : Nat) : Int)), (0, d + 1)]) (rest := []) (n := o) (ci := 4) ih dX3_choiceInstance_128 m_1381 m_954 m_1681 m_717 m_302 ⟨by decide, by decide, show (parseMethodDescriptor yX3_instance.desc).map (fun d => d.parameters.length) = some 2 from by decide +kernel⟩ (Nat.le_of_ble_eq_true rfl) (by rw [hcf]; omega) hk82 rfl rfl (Nat.le_of_ble_eq_true rfl) ⟨o, x1, (ptC G i 1), d + 1, a, b, rfl, hCG71, hab, (by assumption), (by exact hx1), (by rw [hnNG71]; omega), (by omega), fun rr81 G80 hCG80 hXG80 hfG80 hpG80 => ?_⟩
              have hFG80 : WX (fun x => (o ≤ x ∧ x ≤ o + 8) ∨ x = o + 13 ∨ (o + 20 ≤ x ∧ x ≤ o + 24)) G G80 := WX.trans hFG71 (KX.trans hXG5 hXG71) (WX.mono hfG80 rg0)
              show WP kX3_choiceInstance X 131 [some (2, ((o : Nat) : Int)), some (2, ((n : Nat) : Int)), some (0, d), some (0, gS G o 9), some (0, rr6), some (0, rr15), some (0, (-3)), some (0, z69)] [(0, rr81)] G80
              exact s_iret hR dX3_choiceInstance_131 rfl (hQ rr81 G80 hCG80 (KX.trans (KX.trans hXG5 hXG71) hXG80) hFG80 (by rcases hpG80 with z | ⟨z1, z2, z3⟩; (focus (exact Or.inl z)); (focus (rw [h92] at z1 z2 z3; exact Or.inr ⟨z1, z2, hLO2.trans z3 (Int.le_refl _)⟩))))
            · -- 116 to 119
              refine s_iconst dX3_choiceInstance_119 (by decide) ?_
              refine s_goto (tgt := 124) dX3_choiceInstance_120 (by decide) ?_
              have hk83 : gK G71 (pa) = (6, npt (gS G n 1)) := ((hXG71).k hk11 (by decide))
              refine s_alv (pa) (by simp) (fun (al84 : AL G71 pa) => ?_)
              refine s_aald6 dX3_choiceInstance_124 hk83 (by omega) (by omega) hq0G71 ?_
              refine s_iload_n dX3_choiceInstance_125 rfl ?_
              refine s_iconst dX3_choiceInstance_126 (by decide) ?_
              refine s_iadd dX3_choiceInstance_127 (by omega) ?_
              have hk89 : gK G71 (o) = (12, 0) := ((hXG71).k hk17 (by decide))
              refine s_callV (as := [(2, ((x0 : Nat) : Int)), (0, d + 1)]) (rest := []) (n := o) (ci := 4) ih dX3_choiceInstance_128 m_1381 m_954 m_1681 m_717 m_302 ⟨by decide, by decide, show (parseMethodDescriptor yX3_instance.desc).map (fun d => d.parameters.length) = some 2 from by decide +kernel⟩ (Nat.le_of_ble_eq_true rfl) (by rw [hcf]; omega) hk89 rfl rfl (Nat.le_of_ble_eq_true rfl) ⟨o, x0, (ptC G i 0), d + 1, a, b, rfl, hCG71, hab, (by assumption), (by exact hx0), (by rw [hnNG71]; omega), (by omega), fun rr88 G87 hCG87 hXG87 hfG87 hpG87 => ?_⟩
              have hFG87 : WX (fun x => (o ≤ x ∧ x ≤ o + 8) ∨ x = o + 13 ∨ (o + 20 ≤ x ∧ x ≤ o + 24)) G G87 := WX.trans hFG71 (KX.trans hXG5 hXG71) (WX.mono hfG87 rg0)
              show WP kX3_choiceInstance X 131 [some (2, ((o : Nat) : Int)), some (2, ((n : Nat) : Int)), some (0, d), some (0, gS G o 9), some (0, rr6), some (0, rr15), some (0, (-3)), some (0, z69)] [(0, rr88)] G87
              exact s_iret hR dX3_choiceInstance_131 rfl (hQ rr88 G87 hCG87 (KX.trans (KX.trans hXG5 hXG71) hXG87) hFG87 (by rcases hpG87 with z | ⟨z1, z2, z3⟩; (focus (exact Or.inl z)); (focus (rw [h92] at z1 z2 z3; exact Or.inr ⟨z1, z2, hLO2.trans z3 (Int.le_refl _)⟩))))
          refine s_if_eq (tgt := 101) dX3_choiceInstance_94 (by decide) (fun c90 => ?_) (fun c90 => ?_)
          · -- 94 to 101
            refine s_iconst dX3_choiceInstance_101 (by decide) ?_
            exact J70 0 (Or.inl ⟨c90, rfl⟩)
          · -- 94 to 97
            refine s_iconst dX3_choiceInstance_97 (by decide) ?_
            refine s_goto (tgt := 102) dX3_choiceInstance_98 (by decide) ?_
            exact J70 1 (Or.inr (⟨c90, rfl⟩))
        · -- 75 to 78
          refine s_aload_n dX3_choiceInstance_78 rfl (Int.natCast_nonneg _) ?_
          refine s_bipush dX3_choiceInstance_79 rfl (by decide) ?_
          refine s_callV (as := [(0, 11)]) (rest := []) (n := o) (ci := 4) gX3_fail dX3_choiceInstance_81 m_1384 m_947 m_1675 m_717 m_295 ⟨by decide, by decide, show (parseMethodDescriptor yX3_fail.desc).map (fun d => d.parameters.length) = some 1 from by decide +kernel⟩ (Nat.le_of_ble_eq_true rfl) (by rw [hcf]; omega) hk17 rfl rfl (Nat.le_of_ble_eq_true rfl) ⟨o, 11, a, b, rfl, hCG5, hab, (by assumption), fun rr92 G91 hCG91 hXG91 hfG91 hpG91 => ?_⟩
          have hFG91 : WX (fun x => (o ≤ x ∧ x ≤ o + 8) ∨ x = o + 13 ∨ (o + 20 ≤ x ∧ x ≤ o + 24)) G G91 := WX.trans hFG5 hXG5 (WX.mono hfG91 rg1)
          show WP kX3_choiceInstance X 84 [some (2, ((o : Nat) : Int)), some (2, ((n : Nat) : Int)), some (0, d), some (0, gS G o 9), some (0, rr6), some (0, rr15), some (0, (-3)), none] [(0, rr92)] G91
          exact s_iret hR dX3_choiceInstance_84 rfl (hQ rr92 G91 hCG91 (KX.trans hXG5 hXG91) hFG91 (Or.inl hpG91.1))
  · -- 22 to 25
    refine s_iconst dX3_choiceInstance_25 (by decide) ?_
    exact s_iret hR dX3_choiceInstance_26 rfl (hQ ((-1)) G5 hCG5 hXG5 hFG5 (Or.inl rfl))

abbrev kX3_linkInstance : KD := (RX3, cX3_linkInstance, 9, (some .int), [])
def TX3_linkInstance (m : Nat) : TR := fun as G Qr => ∃ (o n i : Nat) (d : Int) (a b : Nat), as = [(2, ((o : Nat) : Int)), (2, ((n : Nat) : Int)), (0, d)] ∧ CI a b G ∧ (a ≤ 2840000 ∧ b ≤ 590000) ∧ (isMc o) ∧ (n = 65536 + 64 * i) ∧ ((i : Int) < nN G) ∧ (gS G n 1 = 0 ∨ gS G n 1 = 2) ∧ (0 ≤ d ∧ d ≤ 24 ∧ 25 ≤ d + m) ∧ ∀ (r : Int) (G' : LG), CI a b G' → KX G G' → WX (fun x => (o ≤ x ∧ x ≤ o + 8) ∨ x = o + 13 ∨ (o + 20 ≤ x ∧ x ≤ o + 24)) G G' → (r = -1 ∨ ((gS G o 9 ≤ r ∧ r < gS G' o 9) ∧ MI G' o (gS G o 9) ∧ LO G G' o (10 * gS G o 9))) → Qr (.inl (some (0, r))) G'
set_option maxHeartbeats 4000000 in
set_option maxRecDepth 100000 in
theorem gX3_linkInstance (m : Nat) (ih : Good kX3_instance yX3_instance (4 * m + 80) (TX3_instance m)) : Good kX3_linkInstance yX3_linkInstance (4 * m + 81) (TX3_linkInstance m) := by
  refine good_of (by decide) rfl rfl (fun as G Qr h => ?_) (fun X as G Qr hcf hR hT oa => ?_)
  · obtain ⟨o, n, i, d, a, b, rfl, -⟩ := h; exact Nat.le_of_ble_eq_true rfl
  obtain ⟨o, n, i, d, a, b, rfl, hC, hab, ho, hni, hnn, hk, hd, hQ⟩ := hT
  show WP kX3_linkInstance X 0 [some (2, ((o : Nat) : Int)), some (2, ((n : Nat) : Int)), some (0, d), none, none, none, none, none, none] [] G
  have hr_d : inR d := okv_R (oa _ (by simp))
  have rg0 : RM (fun x => (o ≤ x ∧ x ≤ o + 8) ∨ x = o + 13 ∨ (o + 20 ≤ x ∧ x ≤ o + 24)) (fun x => (o ≤ x ∧ x ≤ o + 8) ∨ x = o + 13 ∨ (o + 20 ≤ x ∧ x ≤ o + 24)) := fun x hx => by (try dsimp only at hx ⊢); omega
  have rg1 : RNx (fun x => x = (o + 4) % 1048576) (o % 1048576) := by show ¬ _; omega
  have rg2 : RM (fun x => x = o + 3) (fun x => (o ≤ x ∧ x ≤ o + 8) ∨ x = o + 13 ∨ (o + 20 ≤ x ∧ x ≤ o + 24)) := fun x hx => by (try dsimp only at hx ⊢); omega
  have rg3 : RNx (fun x => x = o + 3) (o % 1048576) := by show ¬ _; omega
  refine s_alvl o (k := 0) rfl (fun alo => ?_)
  refine s_lk (fun hlk => ?_)
  have hmn := hlk.mna hC ho alo
  obtain ⟨kM, kM1, kM2, kM3, kM4, kM5, kM6, kM7, kM8, kM13, kM15, kM20, kMp, kMp5, kMp6, kMp7, kMp8, kMp9, kMp10, kMp13, kMp14, kMp16⟩ := id hmn
  have hin : 0 ≤ gS G o 9 ∧ gS G o 9 ≤ 24 := hC.1.v (c := 300) (j := 9) (by rcases ho with rfl | rfl <;> decide) alo (by rw [kM]; exact Nat.le_of_ble_eq_true rfl)
  obtain ⟨hn40, hkn, pa, hpa, hpm, hpc, hkp, hpt, hu6, hr4⟩ := hC.nd hni hnn
  have hn : isNd n := by omega
  have hti1 : 0 ≤ gS G n 1 ∧ gS G n 1 ≤ 6 := hC.1.v (c := 100) (j := 1) (by rw [cde_n (by omega) (by omega)]; omega) (kne hkn (by decide)) (by rw [hkn]; exact Nat.le_of_ble_eq_true rfl)
  obtain ⟨x0, hx0⟩ : ∃ x : Nat, x = 65536 + 64 * ptC G i 0 := ⟨_, rfl⟩
  obtain ⟨hq0, hl0⟩ := hpt 0 (npt_0 (by omega))
  rw [← hx0] at hq0
  have hn0 : isNd x0 := by omega
  obtain ⟨x1, hx1⟩ : ∃ x : Nat, x = 65536 + 64 * ptC G i 1 := ⟨_, rfl⟩
  obtain ⟨hq1, hl1⟩ := hpt 1 (npt_1 (by omega))
  rw [← hx1] at hq1
  have hn1 : isNd x1 := by omega
  refine s_aload_n dX3_linkInstance_0 rfl (Int.natCast_nonneg _) ?_
  refine s_aload_n dX3_linkInstance_1 rfl (Int.natCast_nonneg _) ?_
  refine s_getf (ci := 5) (k := 2) (C := RX4) (T := TX4) (N := 14) (n := n) (L := 0) (t := 2) dX3_linkInstance_2 rfl wi_72 m_596 (Nat.le_of_ble_eq_true rfl) rfl rfl hkn hpa ?_
  refine s_iconst dX3_linkInstance_5 (by decide) ?_
  refine s_aald6 dX3_linkInstance_6 hkp (by omega) (by omega) hq0 ?_
  refine s_iload_n dX3_linkInstance_7 rfl ?_
  refine s_iconst dX3_linkInstance_8 (by decide) ?_
  refine s_iadd dX3_linkInstance_9 (by omega) ?_
  refine s_callV (as := [(2, ((x0 : Nat) : Int)), (0, d + 1)]) (rest := []) (n := o) (ci := 4) ih dX3_linkInstance_10 m_1381 m_954 m_1681 m_717 m_302 ⟨by decide, by decide, show (parseMethodDescriptor yX3_instance.desc).map (fun d => d.parameters.length) = some 2 from by decide +kernel⟩ (Nat.le_of_ble_eq_true rfl) (by rw [hcf]; omega) kM rfl rfl (Nat.le_of_ble_eq_true rfl) ⟨o, x0, (ptC G i 0), d + 1, a, b, rfl, hC, hab, (by assumption), (by exact hx0), (by omega), (by omega), fun rr5 G4 hCG4 hXG4 hfG4 hpG4 => ?_⟩
  have hFG4 : WX (fun x => (o ≤ x ∧ x ≤ o + 8) ∨ x = o + 13 ∨ (o + 20 ≤ x ∧ x ≤ o + 24)) G G4 := WX.trans WX.rf KX.rf (WX.mono hfG4 rg0)
  show WP kX3_linkInstance X 13 [some (2, ((o : Nat) : Int)), some (2, ((n : Nat) : Int)), some (0, d), none, none, none, none, none, none] [(0, rr5)] G4
  refine s_istore_n dX3_linkInstance_13 (by decide) (lv' := [some (2, ((o : Nat) : Int)), some (2, ((n : Nat) : Int)), some (0, d), some (0, rr5), none, none, none, none, none]) rfl ?_
  refine s_iload_n dX3_linkInstance_14 rfl ?_
  refine s_if_ge (tgt := 22) dX3_linkInstance_15 (by decide) (fun c6 => ?_) (fun c6 => ?_)
  · -- 15 to 22
    have hnrG4 : gS G4 n = gS G n := hFG4 n (kne hkn (by decide)) (by show ¬ _; omega)
    have hpaG4 : gS G4 n 2 = (pa : Int) := by rw [hnrG4]; exact hpa
    have hprG4 : gS G4 pa = gS G pa := hFG4 pa (kne hkp (by decide)) (by show ¬ _; omega)
    have hnNG4 : nN G4 = nN G := by unfold nN; rw [hFG4 327685 (kne kMp16 (by decide)) (by show ¬ _; omega)]
    have hpxG4 : gS G4 327681 12 = gS G 327681 12 := congrFun (hFG4 327681 (kne kMp (by decide)) (by show ¬ _; omega)) 12
    have hq0G4 : gS G4 pa 0 = ((x0 : Nat) : Int) := by rw [hprG4]; exact hq0
    have hq1G4 : gS G4 pa 1 = ((x1 : Nat) : Int) := by rw [hprG4]; exact hq1
    obtain ⟨hr1, hMI1, hLO1⟩ := hpG4.resolve_left (by omega)
    have h24G4 : 0 ≤ gS G4 o 9 ∧ gS G4 o 9 ≤ 24 := hCG4.1.v (c := 300) (j := 9) (by rcases ho with rfl | rfl <;> decide) (KX.al hXG4 alo) (by rw [hXG4.k kM (by decide)]; exact Nat.le_of_ble_eq_true rfl)
    refine s_aload_n dX3_linkInstance_22 rfl (Int.natCast_nonneg _) ?_
    refine s_aload_n dX3_linkInstance_23 rfl (Int.natCast_nonneg _) ?_
    have hk7 : gK G4 (n) = (13, 0) := ((hXG4).k hkn (by decide))
    refine s_alv (n) (by simp) (fun (al8 : AL G4 n) => ?_)
    refine s_getf (ci := 5) (k := 2) (C := RX4) (T := TX4) (N := 14) (n := n) (L := 0) (t := 2) dX3_linkInstance_24 rfl wi_72 m_596 (Nat.le_of_ble_eq_true rfl) rfl rfl hk7 hpaG4 ?_
    refine s_iconst dX3_linkInstance_27 (by decide) ?_
    have hk10 : gK G4 (pa) = (6, npt (gS G n 1)) := ((hXG4).k hkp (by decide))
    refine s_alv (pa) (by simp) (fun (al11 : AL G4 pa) => ?_)
    refine s_aald6 dX3_linkInstance_28 hk10 (by omega) (by omega) hq1G4 ?_
    refine s_iload_n dX3_linkInstance_29 rfl ?_
    refine s_iconst dX3_linkInstance_30 (by decide) ?_
    refine s_iadd dX3_linkInstance_31 (by omega) ?_
    have hk16 : gK G4 (o) = (12, 0) := ((hXG4).k kM (by decide))
    refine s_callV (as := [(2, ((x1 : Nat) : Int)), (0, d + 1)]) (rest := []) (n := o) (ci := 4) ih dX3_linkInstance_32 m_1381 m_954 m_1681 m_717 m_302 ⟨by decide, by decide, show (parseMethodDescriptor yX3_instance.desc).map (fun d => d.parameters.length) = some 2 from by decide +kernel⟩ (Nat.le_of_ble_eq_true rfl) (by rw [hcf]; omega) hk16 rfl rfl (Nat.le_of_ble_eq_true rfl) ⟨o, x1, (ptC G i 1), d + 1, a, b, rfl, hCG4, hab, (by assumption), (by exact hx1), (by rw [hnNG4]; omega), (by omega), fun rr15 G14 hCG14 hXG14 hfG14 hpG14 => ?_⟩
    have hFG14 : WX (fun x => (o ≤ x ∧ x ≤ o + 8) ∨ x = o + 13 ∨ (o + 20 ≤ x ∧ x ≤ o + 24)) G G14 := WX.trans hFG4 hXG4 (WX.mono hfG14 rg0)
    show WP kX3_linkInstance X 35 [some (2, ((o : Nat) : Int)), some (2, ((n : Nat) : Int)), some (0, d), some (0, rr5), none, none, none, none, none] [(0, rr15)] G14
    refine s_istore dX3_linkInstance_35 (by decide) (lv' := [some (2, ((o : Nat) : Int)), some (2, ((n : Nat) : Int)), some (0, d), some (0, rr5), some (0, rr15), none, none, none, none]) rfl ?_
    refine s_iload dX3_linkInstance_37 rfl ?_
    refine s_if_ge (tgt := 44) dX3_linkInstance_39 (by decide) (fun c17 => ?_) (fun c17 => ?_)
    · -- 39 to 44
      have hnrG14 : gS G14 n = gS G n := hFG14 n (kne hkn (by decide)) (by show ¬ _; omega)
      have hpaG14 : gS G14 n 2 = (pa : Int) := by rw [hnrG14]; exact hpa
      have hprG14 : gS G14 pa = gS G pa := hFG14 pa (kne hkp (by decide)) (by show ¬ _; omega)
      have hnNG14 : nN G14 = nN G := by unfold nN; rw [hFG14 327685 (kne kMp16 (by decide)) (by show ¬ _; omega)]
      have hpxG14 : gS G14 327681 12 = gS G 327681 12 := congrFun (hFG14 327681 (kne kMp (by decide)) (by show ¬ _; omega)) 12
      have hq0G14 : gS G14 pa 0 = ((x0 : Nat) : Int) := by rw [hprG14]; exact hq0
      have hq1G14 : gS G14 pa 1 = ((x1 : Nat) : Int) := by rw [hprG14]; exact hq1
      obtain ⟨hr2, hMI2, hLO2⟩ := hpG14.resolve_left (by omega)
      have h24G14 : 0 ≤ gS G14 o 9 ∧ gS G14 o 9 ≤ 24 := hCG14.1.v (c := 300) (j := 9) (by rcases ho with rfl | rfl <;> decide) (KX.al (KX.trans hXG4 hXG14) alo) (by rw [(KX.trans hXG4 hXG14).k kM (by decide)]; exact Nat.le_of_ble_eq_true rfl)
      have hM9 : MI G14 o (gS G o 9) := hMI1.app hLO2 hMI2 (by omega) (by omega) (by omega)
      have hL9 : LO G G14 o (10 * gS G o 9) := hLO1.trans hLO2 (by omega)
      have hIG14 : gS G14 o 9 = gS G14 o 9 := rfl
      refine s_iconst dX3_linkInstance_44 (by decide) ?_
      refine s_istore dX3_linkInstance_45 (by decide) (lv' := [some (2, ((o : Nat) : Int)), some (2, ((n : Nat) : Int)), some (0, d), some (0, rr5), some (0, rr15), some (0, 0), none, none, none]) rfl ?_
      have L18 : ∀ (n18 : Nat) (k18 : Int) (G18 : LG), CI a b G18 → KX G14 G18 → WX (fun x => (o ≤ x ∧ x ≤ o + 8) ∨ x = o + 13 ∨ (o + 20 ≤ x ∧ x ≤ o + 24)) G G18 → ((0 ≤ k18 ∧ k18 ≤ 10) ∧ (MI G18 o (gS G o 9)) ∧ (LO G G18 o (10 * gS G o 9)) ∧ (gS G18 o 9 = gS G14 o 9)) → (10 - k18).toNat < n18 → WP kX3_linkInstance X 47 [some (2, ((o : Nat) : Int)), some (2, ((n : Nat) : Int)), some (0, d), some (0, rr5), some (0, rr15), some (0, k18), none, none, none] [] G18 := by
        intro n18
        induction n18 with
        | zero => intro k18 G18 hCG18 hXG18 hFG18 hi18 hm18; exact absurd hm18 (Nat.not_lt_zero _)
        | succ n18 ih18 =>
          intro k18 G18 hCG18 hXG18 hFG18 hi18 hm18
          obtain ⟨ik18, iM18, iL18, hIG18⟩ := hi18
          refine s_iload dX3_linkInstance_47 rfl ?_
          refine s_bipush dX3_linkInstance_49 rfl (by decide) ?_
          refine s_icmp_ge (tgt := 143) dX3_linkInstance_51 (by decide) (fun c19 => ?_) (fun c19 => ?_)
          · -- 51 to 143
            refine s_iload_n dX3_linkInstance_143 rfl ?_
            exact s_iret hR dX3_linkInstance_144 rfl (hQ rr5 G18 hCG18 (KX.trans (KX.trans hXG4 hXG14) hXG18) hFG18 (Or.inr ⟨by omega, iM18, iL18⟩))
          · -- 51 to 54
            refine s_iload_n dX3_linkInstance_54 rfl ?_
            refine s_bipush dX3_linkInstance_55 rfl (by decide) ?_
            refine s_imul dX3_linkInstance_57 (by omega) ?_
            refine s_iload dX3_linkInstance_58 rfl ?_
            refine s_iadd dX3_linkInstance_60 (by omega) ?_
            refine s_istore dX3_linkInstance_61 (by decide) (lv' := [some (2, ((o : Nat) : Int)), some (2, ((n : Nat) : Int)), some (0, d), some (0, rr5), some (0, rr15), some (0, k18), some (0, (rr5 * 10) + k18), none, none]) rfl ?_
            have m1 := iM18 (rr5 * 10 + k18) (by omega) (by omega)
            have m2 := iM18 (rr15 * 10 + k18) (by omega) (by omega)
            refine s_aload_n dX3_linkInstance_63 rfl (Int.natCast_nonneg _) ?_
            have hk20 : gK G18 (o) = (12, 0) := ((hXG18).k ((hXG14).k hk16 (by decide)) (by decide))
            refine s_alv (o) (by simp) (fun (al21 : AL G18 o) => ?_)
            have hv22 : gS G18 o 4 = ((o + 4 : Nat) : Int) := by have h9 : (gS G18 o 4) = (((o % 1048576) + 4 : Nat) : Int) := hCG18.1.v (j := 4) (by rw [cde_m (by omega) (by omega)]; omega : cde o = 300) al21 (by rw [hk20]; exact Nat.le_of_ble_eq_true rfl); omega
            refine s_getf (ci := 4) (k := 4) (C := RX3) (T := TX3) (N := 18) (n := o) (L := 0) (t := 2) dX3_linkInstance_64 rfl wi_71 m_608 (Nat.le_of_ble_eq_true rfl) rfl rfl hk20 hv22 ?_
            refine s_iload dX3_linkInstance_67 rfl ?_
            have hk23 : gK G18 (o + 4) = (1, 240) := ((hXG18).k ((hXG14).k ((hXG4).k kM4 (by decide)) (by decide)) (by decide))
            refine s_alv (o + 4) (by simp) (fun (al24 : AL G18 (o + 4)) => ?_)
            have hv25 : -1 ≤ (gS G18 (o + 4) ((rr5 * 10) + k18 : Int).toNat) ∧ (gS G18 (o + 4) ((rr5 * 10) + k18 : Int).toNat) ≤ 239 := hCG18.1.v (j := ((rr5 * 10) + k18 : Int).toNat) (by rw [cde_m (by omega) (by omega)]; omega : cde (o + 4) = 304) al24 (by rw [hk23]; show ((rr5 * 10) + k18 : Int).toNat < 240; omega)
            refine s_iald dX3_linkInstance_69 hk23 (by omega) (by omega) rfl ?_
            refine s_istore dX3_linkInstance_70 (by decide) (lv' := [some (2, ((o : Nat) : Int)), some (2, ((n : Nat) : Int)), some (0, d), some (0, rr5), some (0, rr15), some (0, k18), some (0, (rr5 * 10) + k18), some (0, gS G18 (o + 4) (((rr5 * 10) + k18 : Int).toNat)), none]) rfl ?_
            refine s_aload_n dX3_linkInstance_72 rfl (Int.natCast_nonneg _) ?_
            have hv26 : gS G18 o 4 = ((o + 4 : Nat) : Int) := by have h9 : (gS G18 o 4) = (((o % 1048576) + 4 : Nat) : Int) := hCG18.1.v (j := 4) (by rw [cde_m (by omega) (by omega)]; omega : cde o = 300) al21 (by rw [hk20]; exact Nat.le_of_ble_eq_true rfl); omega
            refine s_getf (ci := 4) (k := 4) (C := RX3) (T := TX3) (N := 18) (n := o) (L := 0) (t := 2) dX3_linkInstance_73 rfl wi_71 m_608 (Nat.le_of_ble_eq_true rfl) rfl rfl hk20 hv26 ?_
            refine s_iload dX3_linkInstance_76 rfl ?_
            refine s_bipush dX3_linkInstance_78 rfl (by decide) ?_
            refine s_imul dX3_linkInstance_80 (by omega) ?_
            refine s_iload dX3_linkInstance_81 rfl ?_
            refine s_iadd dX3_linkInstance_83 (by omega) ?_
            have hv27 : -1 ≤ (gS G18 (o + 4) ((rr15 * 10) + k18 : Int).toNat) ∧ (gS G18 (o + 4) ((rr15 * 10) + k18 : Int).toNat) ≤ 239 := hCG18.1.v (j := ((rr15 * 10) + k18 : Int).toNat) (by rw [cde_m (by omega) (by omega)]; omega : cde (o + 4) = 304) al24 (by rw [hk23]; show ((rr15 * 10) + k18 : Int).toNat < 240; omega)
            refine s_iald dX3_linkInstance_84 hk23 (by omega) (by omega) rfl ?_
            refine s_istore dX3_linkInstance_85 (by decide) (lv' := [some (2, ((o : Nat) : Int)), some (2, ((n : Nat) : Int)), some (0, d), some (0, rr5), some (0, rr15), some (0, k18), some (0, (rr5 * 10) + k18), some (0, gS G18 (o + 4) (((rr5 * 10) + k18 : Int).toNat)), some (0, gS G18 (o + 4) (((rr15 * 10) + k18 : Int).toNat))]) rfl ?_
            refine s_iload dX3_linkInstance_87 rfl ?_
            refine s_if_lt (tgt := 116) dX3_linkInstance_89 (by decide) (fun c28 => ?_) (fun c28 => ?_)
            · -- 89 to 116
              refine s_aload_n dX3_linkInstance_116 rfl (Int.natCast_nonneg _) ?_
              have hk29 : gK G18 (n) = (13, 0) := ((hXG18).k ((hXG14).k hk7 (by decide)) (by decide))
              refine s_alv (n) (by simp) (fun (al31 : AL G18 n) => ?_)
              have hv30 : 0 ≤ (gS G18 n 1) ∧ (gS G18 n 1) ≤ 6 := hCG18.1.v (j := 1) (by rw [cde_n (by omega) (by omega)]; omega : cde n = 100) al31 (by rw [hk29]; exact Nat.le_of_ble_eq_true rfl)
              refine s_getf (ci := 5) (k := 1) (C := RX4) (T := TX4) (N := 14) (n := n) (L := 0) (t := 0) dX3_linkInstance_117 rfl wi_72 m_624 (Nat.le_of_ble_eq_true rfl) rfl rfl hk29 rfl ?_
              refine s_if_ne (tgt := 137) dX3_linkInstance_120 (by decide) (fun c32 => ?_) (fun c32 => ?_)
              · -- 120 to 137
                refine s_iinc dX3_linkInstance_137 (v := k18) rfl (by omega) (by decide) (lv' := [some (2, ((o : Nat) : Int)), some (2, ((n : Nat) : Int)), some (0, d), some (0, rr5), some (0, rr15), some (0, k18 + 1), some (0, (rr5 * 10) + k18), some (0, gS G18 (o + 4) (((rr5 * 10) + k18 : Int).toNat)), some (0, gS G18 (o + 4) (((rr15 * 10) + k18 : Int).toNat))]) rfl ?_
                refine s_goto (tgt := 47) dX3_linkInstance_140 (by decide) ?_
                refine s_mask [true, true, true, true, true, true, false, false, false] (lv' := [some (2, ((o : Nat) : Int)), some (2, ((n : Nat) : Int)), some (0, d), some (0, rr5), some (0, rr15), some (0, k18 + 1), none, none, none]) rfl ?_
                exact ih18 (k18 + 1) G18 hCG18 hXG18 hFG18 (⟨(by omega), (by exact iM18), (by exact iL18), (by exact hIG18)⟩) (by omega)
              · -- 120 to 123
                refine s_iload dX3_linkInstance_123 rfl ?_
                refine s_if_lt (tgt := 137) dX3_linkInstance_125 (by decide) (fun c33 => ?_) (fun c33 => ?_)
                · -- 125 to 137
                  refine s_iinc dX3_linkInstance_137 (v := k18) rfl (by omega) (by decide) (lv' := [some (2, ((o : Nat) : Int)), some (2, ((n : Nat) : Int)), some (0, d), some (0, rr5), some (0, rr15), some (0, k18 + 1), some (0, (rr5 * 10) + k18), some (0, gS G18 (o + 4) (((rr5 * 10) + k18 : Int).toNat)), some (0, gS G18 (o + 4) (((rr15 * 10) + k18 : Int).toNat))]) rfl ?_
                  refine s_goto (tgt := 47) dX3_linkInstance_140 (by decide) ?_
                  refine s_mask [true, true, true, true, true, true, false, false, false] (lv' := [some (2, ((o : Nat) : Int)), some (2, ((n : Nat) : Int)), some (0, d), some (0, rr5), some (0, rr15), some (0, k18 + 1), none, none, none]) rfl ?_
                  exact ih18 (k18 + 1) G18 hCG18 hXG18 hFG18 (⟨(by omega), (by exact iM18), (by exact iL18), (by exact hIG18)⟩) (by omega)
                · -- 125 to 128
                  refine s_aload_n dX3_linkInstance_128 rfl (Int.natCast_nonneg _) ?_
                  have hv34 : gS G18 o 4 = ((o + 4 : Nat) : Int) := by have h9 : (gS G18 o 4) = (((o % 1048576) + 4 : Nat) : Int) := hCG18.1.v (j := 4) (by rw [cde_m (by omega) (by omega)]; omega : cde o = 300) al21 (by rw [hk20]; exact Nat.le_of_ble_eq_true rfl); omega
                  refine s_getf (ci := 4) (k := 4) (C := RX3) (T := TX3) (N := 18) (n := o) (L := 0) (t := 2) dX3_linkInstance_129 rfl wi_71 m_608 (Nat.le_of_ble_eq_true rfl) rfl rfl hk20 hv34 ?_
                  refine s_iload dX3_linkInstance_132 rfl ?_
                  refine s_iload dX3_linkInstance_134 rfl ?_
                  refine s_iast dX3_linkInstance_136 hk23 (by omega) (by omega) ?_
                  generalize eG35r : gset G18 (o + 4) (((rr5 * 10) + k18 : Int).toNat) (gS G18 (o + 4) (((rr15 * 10) + k18 : Int).toNat)) = G35
                  have eG35 := eG35r.symm
                  have hCG35 : CI a b G35 := by rw [eG35]; exact hCG18.set (by rw [(by rw [cde_m (by omega) (by omega)]; omega : cde (o + 4) = 304)]; rfl) (by rw [(by rw [cde_m (by omega) (by omega)]; omega : cde (o + 4) = 304)]; exact (show -1 ≤ (gS G18 (o + 4) (((rr15 * 10) + k18 : Int).toNat)) ∧ (gS G18 (o + 4) (((rr15 * 10) + k18 : Int).toNat)) ≤ 239 from by omega))
                  have hXG35 : KX G18 G35 := KX.set KX.rf eG35
                  have hFG35 : WX (fun x => (o ≤ x ∧ x ≤ o + 8) ∨ x = o + 13 ∨ (o + 20 ≤ x ∧ x ≤ o + 24)) G G35 := WX.set hFG18 eG35 (by show _; omega)
                  have hfG35 : WX (fun x => x = (o + 4) % 1048576) G18 G35 := WX.set WX.rf eG35 rfl
                  have hIG35 : gS G35 o 9 = gS G14 o 9 := (congrFun (hfG35 o (KX.al (KX.trans (KX.trans hXG4 hXG14) hXG18) (kne kM (by decide))) rg1) 9).trans hIG18
                  show WP kX3_linkInstance X 137 [some (2, ((o : Nat) : Int)), some (2, ((n : Nat) : Int)), some (0, d), some (0, rr5), some (0, rr15), some (0, k18), some (0, (rr5 * 10) + k18), some (0, gS G18 (o + 4) (((rr5 * 10) + k18 : Int).toNat)), some (0, gS G18 (o + 4) (((rr15 * 10) + k18 : Int).toNat))] [] G35
                  refine s_iinc dX3_linkInstance_137 (v := k18) rfl (by omega) (by decide) (lv' := [some (2, ((o : Nat) : Int)), some (2, ((n : Nat) : Int)), some (0, d), some (0, rr5), some (0, rr15), some (0, k18 + 1), some (0, (rr5 * 10) + k18), some (0, gS G18 (o + 4) (((rr5 * 10) + k18 : Int).toNat)), some (0, gS G18 (o + 4) (((rr15 * 10) + k18 : Int).toNat))]) rfl ?_
                  refine s_goto (tgt := 47) dX3_linkInstance_140 (by decide) ?_
                  refine s_mask [true, true, true, true, true, true, false, false, false] (lv' := [some (2, ((o : Nat) : Int)), some (2, ((n : Nat) : Int)), some (0, d), some (0, rr5), some (0, rr15), some (0, k18 + 1), none, none, none]) rfl ?_
                  exact ih18 (k18 + 1) G35 hCG35 (KX.trans hXG18 hXG35) hFG35 (⟨(by omega), (by exact iM18.sh ho eG35 (by omega)), (by exact iL18.sh ho eG35 (by omega)), (by exact hIG35)⟩) (by omega)
            · -- 89 to 92
              refine s_iload dX3_linkInstance_92 rfl ?_
              refine s_if_lt (tgt := 116) dX3_linkInstance_94 (by decide) (fun c36 => ?_) (fun c36 => ?_)
              · -- 94 to 116
                refine s_aload_n dX3_linkInstance_116 rfl (Int.natCast_nonneg _) ?_
                have hk37 : gK G18 (n) = (13, 0) := ((hXG18).k ((hXG14).k hk7 (by decide)) (by decide))
                refine s_alv (n) (by simp) (fun (al39 : AL G18 n) => ?_)
                have hv38 : 0 ≤ (gS G18 n 1) ∧ (gS G18 n 1) ≤ 6 := hCG18.1.v (j := 1) (by rw [cde_n (by omega) (by omega)]; omega : cde n = 100) al39 (by rw [hk37]; exact Nat.le_of_ble_eq_true rfl)
                refine s_getf (ci := 5) (k := 1) (C := RX4) (T := TX4) (N := 14) (n := n) (L := 0) (t := 0) dX3_linkInstance_117 rfl wi_72 m_624 (Nat.le_of_ble_eq_true rfl) rfl rfl hk37 rfl ?_
                refine s_if_ne (tgt := 137) dX3_linkInstance_120 (by decide) (fun c40 => ?_) (fun c40 => ?_)
                · -- 120 to 137
                  refine s_iinc dX3_linkInstance_137 (v := k18) rfl (by omega) (by decide) (lv' := [some (2, ((o : Nat) : Int)), some (2, ((n : Nat) : Int)), some (0, d), some (0, rr5), some (0, rr15), some (0, k18 + 1), some (0, (rr5 * 10) + k18), some (0, gS G18 (o + 4) (((rr5 * 10) + k18 : Int).toNat)), some (0, gS G18 (o + 4) (((rr15 * 10) + k18 : Int).toNat))]) rfl ?_
                  refine s_goto (tgt := 47) dX3_linkInstance_140 (by decide) ?_
                  refine s_mask [true, true, true, true, true, true, false, false, false] (lv' := [some (2, ((o : Nat) : Int)), some (2, ((n : Nat) : Int)), some (0, d), some (0, rr5), some (0, rr15), some (0, k18 + 1), none, none, none]) rfl ?_
                  exact ih18 (k18 + 1) G18 hCG18 hXG18 hFG18 (⟨(by omega), (by exact iM18), (by exact iL18), (by exact hIG18)⟩) (by omega)
                · -- 120 to 123
                  refine s_iload dX3_linkInstance_123 rfl ?_
                  refine s_if_lt (tgt := 137) dX3_linkInstance_125 (by decide) (fun c41 => ?_) (fun c41 => ?_)
                  · -- 125 to 137
                    refine s_iinc dX3_linkInstance_137 (v := k18) rfl (by omega) (by decide) (lv' := [some (2, ((o : Nat) : Int)), some (2, ((n : Nat) : Int)), some (0, d), some (0, rr5), some (0, rr15), some (0, k18 + 1), some (0, (rr5 * 10) + k18), some (0, gS G18 (o + 4) (((rr5 * 10) + k18 : Int).toNat)), some (0, gS G18 (o + 4) (((rr15 * 10) + k18 : Int).toNat))]) rfl ?_
                    refine s_goto (tgt := 47) dX3_linkInstance_140 (by decide) ?_
                    refine s_mask [true, true, true, true, true, true, false, false, false] (lv' := [some (2, ((o : Nat) : Int)), some (2, ((n : Nat) : Int)), some (0, d), some (0, rr5), some (0, rr15), some (0, k18 + 1), none, none, none]) rfl ?_
                    exact ih18 (k18 + 1) G18 hCG18 hXG18 hFG18 (⟨(by omega), (by exact iM18), (by exact iL18), (by exact hIG18)⟩) (by omega)
                  · -- 125 to 128
                    refine s_aload_n dX3_linkInstance_128 rfl (Int.natCast_nonneg _) ?_
                    have hv42 : gS G18 o 4 = ((o + 4 : Nat) : Int) := by have h9 : (gS G18 o 4) = (((o % 1048576) + 4 : Nat) : Int) := hCG18.1.v (j := 4) (by rw [cde_m (by omega) (by omega)]; omega : cde o = 300) al21 (by rw [hk20]; exact Nat.le_of_ble_eq_true rfl); omega
                    refine s_getf (ci := 4) (k := 4) (C := RX3) (T := TX3) (N := 18) (n := o) (L := 0) (t := 2) dX3_linkInstance_129 rfl wi_71 m_608 (Nat.le_of_ble_eq_true rfl) rfl rfl hk20 hv42 ?_
                    refine s_iload dX3_linkInstance_132 rfl ?_
                    refine s_iload dX3_linkInstance_134 rfl ?_
                    refine s_iast dX3_linkInstance_136 hk23 (by omega) (by omega) ?_
                    generalize eG43r : gset G18 (o + 4) (((rr5 * 10) + k18 : Int).toNat) (gS G18 (o + 4) (((rr15 * 10) + k18 : Int).toNat)) = G43
                    have eG43 := eG43r.symm
                    have hCG43 : CI a b G43 := by rw [eG43]; exact hCG18.set (by rw [(by rw [cde_m (by omega) (by omega)]; omega : cde (o + 4) = 304)]; rfl) (by rw [(by rw [cde_m (by omega) (by omega)]; omega : cde (o + 4) = 304)]; exact (show -1 ≤ (gS G18 (o + 4) (((rr15 * 10) + k18 : Int).toNat)) ∧ (gS G18 (o + 4) (((rr15 * 10) + k18 : Int).toNat)) ≤ 239 from by omega))
                    have hXG43 : KX G18 G43 := KX.set KX.rf eG43
                    have hFG43 : WX (fun x => (o ≤ x ∧ x ≤ o + 8) ∨ x = o + 13 ∨ (o + 20 ≤ x ∧ x ≤ o + 24)) G G43 := WX.set hFG18 eG43 (by show _; omega)
                    have hfG43 : WX (fun x => x = (o + 4) % 1048576) G18 G43 := WX.set WX.rf eG43 rfl
                    have hIG43 : gS G43 o 9 = gS G14 o 9 := (congrFun (hfG43 o (KX.al (KX.trans (KX.trans hXG4 hXG14) hXG18) (kne kM (by decide))) rg1) 9).trans hIG18
                    show WP kX3_linkInstance X 137 [some (2, ((o : Nat) : Int)), some (2, ((n : Nat) : Int)), some (0, d), some (0, rr5), some (0, rr15), some (0, k18), some (0, (rr5 * 10) + k18), some (0, gS G18 (o + 4) (((rr5 * 10) + k18 : Int).toNat)), some (0, gS G18 (o + 4) (((rr15 * 10) + k18 : Int).toNat))] [] G43
                    refine s_iinc dX3_linkInstance_137 (v := k18) rfl (by omega) (by decide) (lv' := [some (2, ((o : Nat) : Int)), some (2, ((n : Nat) : Int)), some (0, d), some (0, rr5), some (0, rr15), some (0, k18 + 1), some (0, (rr5 * 10) + k18), some (0, gS G18 (o + 4) (((rr5 * 10) + k18 : Int).toNat)), some (0, gS G18 (o + 4) (((rr15 * 10) + k18 : Int).toNat))]) rfl ?_
                    refine s_goto (tgt := 47) dX3_linkInstance_140 (by decide) ?_
                    refine s_mask [true, true, true, true, true, true, false, false, false] (lv' := [some (2, ((o : Nat) : Int)), some (2, ((n : Nat) : Int)), some (0, d), some (0, rr5), some (0, rr15), some (0, k18 + 1), none, none, none]) rfl ?_
                    exact ih18 (k18 + 1) G43 hCG43 (KX.trans hXG18 hXG43) hFG43 (⟨(by omega), (by exact iM18.sh ho eG43 (by omega)), (by exact iL18.sh ho eG43 (by omega)), (by exact hIG43)⟩) (by omega)
              · -- 94 to 97
                refine s_aload_n dX3_linkInstance_97 rfl (Int.natCast_nonneg _) ?_
                refine s_aload_n dX3_linkInstance_98 rfl (Int.natCast_nonneg _) ?_
                refine s_iload dX3_linkInstance_99 rfl ?_
                refine s_callV (as := [(0, gS G18 (o + 4) (((rr5 * 10) + k18 : Int).toNat))]) (rest := [(2, ((o : Nat) : Int))]) (n := o) (ci := 4) gX3_endOf dX3_linkInstance_101 m_1357 m_940 m_1668 m_717 m_288 ⟨by decide, by decide, show (parseMethodDescriptor yX3_endOf.desc).map (fun d => d.parameters.length) = some 1 from by decide +kernel⟩ (Nat.le_of_ble_eq_true rfl) (by rw [hcf]; omega) hk20 rfl rfl (Nat.le_of_ble_eq_true rfl) ⟨o, gS G18 (o + 4) (((rr5 * 10) + k18 : Int).toNat), (gS G o 9), a, b, rfl, hCG18, hab, (by assumption), (by omega), (by omega), (by exact iM18), fun rr44 hp45 => ?_⟩
                show WP kX3_linkInstance X 104 [some (2, ((o : Nat) : Int)), some (2, ((n : Nat) : Int)), some (0, d), some (0, rr5), some (0, rr15), some (0, k18), some (0, (rr5 * 10) + k18), some (0, gS G18 (o + 4) (((rr5 * 10) + k18 : Int).toNat)), some (0, gS G18 (o + 4) (((rr15 * 10) + k18 : Int).toNat))] [(0, rr44), (2, ((o : Nat) : Int))] G18
                refine s_aload_n dX3_linkInstance_104 rfl (Int.natCast_nonneg _) ?_
                refine s_iload dX3_linkInstance_105 rfl ?_
                refine s_callV (as := [(0, gS G18 (o + 4) (((rr15 * 10) + k18 : Int).toNat))]) (rest := [(0, rr44), (2, ((o : Nat) : Int))]) (n := o) (ci := 4) gX3_endOf dX3_linkInstance_107 m_1357 m_940 m_1668 m_717 m_288 ⟨by decide, by decide, show (parseMethodDescriptor yX3_endOf.desc).map (fun d => d.parameters.length) = some 1 from by decide +kernel⟩ (Nat.le_of_ble_eq_true rfl) (by rw [hcf]; omega) hk20 rfl rfl (Nat.le_of_ble_eq_true rfl) ⟨o, gS G18 (o + 4) (((rr15 * 10) + k18 : Int).toNat), (gS G o 9), a, b, rfl, hCG18, hab, (by assumption), (by omega), (by omega), (by exact iM18), fun rr46 hp47 => ?_⟩
                show WP kX3_linkInstance X 110 [some (2, ((o : Nat) : Int)), some (2, ((n : Nat) : Int)), some (0, d), some (0, rr5), some (0, rr15), some (0, k18), some (0, (rr5 * 10) + k18), some (0, gS G18 (o + 4) (((rr5 * 10) + k18 : Int).toNat)), some (0, gS G18 (o + 4) (((rr15 * 10) + k18 : Int).toNat))] [(0, rr46), (0, rr44), (2, ((o : Nat) : Int))] G18
                refine s_callV (as := [(0, rr44), (0, rr46)]) (rest := []) (n := o) (ci := 4) gX3_join dX3_linkInstance_110 m_1358 m_956 m_1683 m_717 m_304 ⟨by decide, by decide, show (parseMethodDescriptor yX3_join.desc).map (fun d => d.parameters.length) = some 2 from by decide +kernel⟩ (Nat.le_of_ble_eq_true rfl) (by rw [hcf]; omega) hk20 rfl rfl (Nat.le_of_ble_eq_true rfl) ⟨o, rr44, rr46, (gS G o 9), a, b, rfl, hCG18, hab, (by assumption), (by omega), (by omega), (by omega), (by exact iM18), fun G48 hCG48 hXG48 hfG48 hpG48 => ?_⟩
                have hFG48 : WX (fun x => (o ≤ x ∧ x ≤ o + 8) ∨ x = o + 13 ∨ (o + 20 ≤ x ∧ x ≤ o + 24)) G G48 := WX.trans hFG18 (KX.trans (KX.trans hXG4 hXG14) hXG18) (WX.mono hfG48 rg2)
                have hIG48 : gS G48 o 9 = gS G14 o 9 := (congrFun (hfG48 o (KX.al (KX.trans (KX.trans hXG4 hXG14) hXG18) (kne kM (by decide))) rg3) 9).trans hIG18
                show WP kX3_linkInstance X 113 [some (2, ((o : Nat) : Int)), some (2, ((n : Nat) : Int)), some (0, d), some (0, rr5), some (0, rr15), some (0, k18), some (0, (rr5 * 10) + k18), some (0, gS G18 (o + 4) (((rr5 * 10) + k18 : Int).toNat)), some (0, gS G18 (o + 4) (((rr15 * 10) + k18 : Int).toNat))] [] G48
                refine s_goto (tgt := 137) dX3_linkInstance_113 (by decide) ?_
                refine s_iinc dX3_linkInstance_137 (v := k18) rfl (by omega) (by decide) (lv' := [some (2, ((o : Nat) : Int)), some (2, ((n : Nat) : Int)), some (0, d), some (0, rr5), some (0, rr15), some (0, k18 + 1), some (0, (rr5 * 10) + k18), some (0, gS G18 (o + 4) (((rr5 * 10) + k18 : Int).toNat)), some (0, gS G18 (o + 4) (((rr15 * 10) + k18 : Int).toNat))]) rfl ?_
                refine s_goto (tgt := 47) dX3_linkInstance_140 (by decide) ?_
                refine s_mask [true, true, true, true, true, true, false, false, false] (lv' := [some (2, ((o : Nat) : Int)), some (2, ((n : Nat) : Int)), some (0, d), some (0, rr5), some (0, rr15), some (0, k18 + 1), none, none, none]) rfl ?_
                exact ih18 (k18 + 1) G48 hCG48 (KX.trans hXG18 hXG48) hFG48 (⟨(by omega), (by exact hpG48.1), (by intro s h0 h1; obtain ⟨l1, l2, l3⟩ := iL18 s h0 h1; exact ⟨(congrFun (hfG48 (o + 1) (KX.al (KX.trans (KX.trans hXG4 hXG14) hXG18) (kne kM1 (by decide))) (by show ¬ _; omega)) _).trans l1, (hpG48.2 s h0 h1).trans l2, (congrFun (hfG48 (o + 4) (KX.al (KX.trans (KX.trans hXG4 hXG14) hXG18) (kne kM4 (by decide))) (by show ¬ _; omega)) _).trans l3⟩), (by exact hIG48)⟩) (by omega)
      exact L18 _ 0 G14 hCG14 KX.rf hFG14 (⟨(by omega), (by exact hM9), (by exact hL9), (by exact hIG14)⟩) (Nat.lt_succ_self _)
    · -- 39 to 42
      refine s_iconst dX3_linkInstance_42 (by decide) ?_
      exact s_iret hR dX3_linkInstance_43 rfl (hQ ((-1)) G14 hCG14 (KX.trans hXG4 hXG14) hFG14 (Or.inl rfl))
  · -- 15 to 18
    refine s_iconst dX3_linkInstance_18 (by decide) ?_
    refine s_goto (tgt := 35) dX3_linkInstance_19 (by decide) ?_
    refine s_istore dX3_linkInstance_35 (by decide) (lv' := [some (2, ((o : Nat) : Int)), some (2, ((n : Nat) : Int)), some (0, d), some (0, rr5), some (0, (-1)), none, none, none, none]) rfl ?_
    refine s_iload dX3_linkInstance_37 rfl ?_
    refine s_if_ge (tgt := 44) dX3_linkInstance_39 (by decide) (fun c50 => ?_) (fun c50 => ?_)
    · -- 39 to 44
      have hnrG4 : gS G4 n = gS G n := hFG4 n (kne hkn (by decide)) (by show ¬ _; omega)
      have hpaG4 : gS G4 n 2 = (pa : Int) := by rw [hnrG4]; exact hpa
      have hprG4 : gS G4 pa = gS G pa := hFG4 pa (kne hkp (by decide)) (by show ¬ _; omega)
      have hnNG4 : nN G4 = nN G := by unfold nN; rw [hFG4 327685 (kne kMp16 (by decide)) (by show ¬ _; omega)]
      have hpxG4 : gS G4 327681 12 = gS G 327681 12 := congrFun (hFG4 327681 (kne kMp (by decide)) (by show ¬ _; omega)) 12
      have hq0G4 : gS G4 pa 0 = ((x0 : Nat) : Int) := by rw [hprG4]; exact hq0
      have hq1G4 : gS G4 pa 1 = ((x1 : Nat) : Int) := by rw [hprG4]; exact hq1
      obtain ⟨hr2, hMI2, hLO2⟩ := hpG4.resolve_left (by omega)
      have h24G4 : 0 ≤ gS G4 o 9 ∧ gS G4 o 9 ≤ 24 := hCG4.1.v (c := 300) (j := 9) (by rcases ho with rfl | rfl <;> decide) (KX.al hXG4 alo) (by rw [hXG4.k kM (by decide)]; exact Nat.le_of_ble_eq_true rfl)
      have hM9 : MI G4 o (gS G o 9) := hMI1.app hLO2 hMI2 (by omega) (by omega) (by omega)
      have hL9 : LO G G4 o (10 * gS G o 9) := hLO1.trans hLO2 (by omega)
      have hIG4 : gS G4 o 9 = gS G4 o 9 := rfl
      refine s_iconst dX3_linkInstance_44 (by decide) ?_
      refine s_istore dX3_linkInstance_45 (by decide) (lv' := [some (2, ((o : Nat) : Int)), some (2, ((n : Nat) : Int)), some (0, d), some (0, rr5), some (0, (-1)), some (0, 0), none, none, none]) rfl ?_
      have L51 : ∀ (n51 : Nat) (k51 : Int) (G51 : LG), CI a b G51 → KX G4 G51 → WX (fun x => (o ≤ x ∧ x ≤ o + 8) ∨ x = o + 13 ∨ (o + 20 ≤ x ∧ x ≤ o + 24)) G G51 → ((0 ≤ k51 ∧ k51 ≤ 10) ∧ (MI G51 o (gS G o 9)) ∧ (LO G G51 o (10 * gS G o 9)) ∧ (gS G51 o 9 = gS G4 o 9)) → (10 - k51).toNat < n51 → WP kX3_linkInstance X 47 [some (2, ((o : Nat) : Int)), some (2, ((n : Nat) : Int)), some (0, d), some (0, rr5), some (0, (-1)), some (0, k51), none, none, none] [] G51 := by
        intro n51
        induction n51 with
        | zero => intro k51 G51 hCG51 hXG51 hFG51 hi51 hm51; exact absurd hm51 (Nat.not_lt_zero _)
        | succ n51 ih51 =>
          intro k51 G51 hCG51 hXG51 hFG51 hi51 hm51
          obtain ⟨ik51, iM51, iL51, hIG51⟩ := hi51
          refine s_iload dX3_linkInstance_47 rfl ?_
          refine s_bipush dX3_linkInstance_49 rfl (by decide) ?_
          refine s_icmp_ge (tgt := 143) dX3_linkInstance_51 (by decide) (fun c52 => ?_) (fun c52 => ?_)
          · -- 51 to 143
            refine s_iload_n dX3_linkInstance_143 rfl ?_
            exact s_iret hR dX3_linkInstance_144 rfl (hQ rr5 G51 hCG51 (KX.trans hXG4 hXG51) hFG51 (Or.inr ⟨by omega, iM51, iL51⟩))
          · -- 51 to 54
            refine s_iload_n dX3_linkInstance_54 rfl ?_
            refine s_bipush dX3_linkInstance_55 rfl (by decide) ?_
            refine s_imul dX3_linkInstance_57 (by omega) ?_
            refine s_iload dX3_linkInstance_58 rfl ?_
            refine s_iadd dX3_linkInstance_60 (by omega) ?_
            refine s_istore dX3_linkInstance_61 (by decide) (lv' := [some (2, ((o : Nat) : Int)), some (2, ((n : Nat) : Int)), some (0, d), some (0, rr5), some (0, (-1)), some (0, k51), some (0, (rr5 * 10) + k51), none, none]) rfl ?_
            have m1 := iM51 (rr5 * 10 + k51) (by omega) (by omega)
            have m2 := iM51 (((-1)) * 10 + k51) (by omega) (by omega)
            refine s_aload_n dX3_linkInstance_63 rfl (Int.natCast_nonneg _) ?_
            have hk53 : gK G51 (o) = (12, 0) := ((hXG51).k ((hXG4).k kM (by decide)) (by decide))
            refine s_alv (o) (by simp) (fun (al54 : AL G51 o) => ?_)
            have hv55 : gS G51 o 4 = ((o + 4 : Nat) : Int) := by have h9 : (gS G51 o 4) = (((o % 1048576) + 4 : Nat) : Int) := hCG51.1.v (j := 4) (by rw [cde_m (by omega) (by omega)]; omega : cde o = 300) al54 (by rw [hk53]; exact Nat.le_of_ble_eq_true rfl); omega
            refine s_getf (ci := 4) (k := 4) (C := RX3) (T := TX3) (N := 18) (n := o) (L := 0) (t := 2) dX3_linkInstance_64 rfl wi_71 m_608 (Nat.le_of_ble_eq_true rfl) rfl rfl hk53 hv55 ?_
            refine s_iload dX3_linkInstance_67 rfl ?_
            have hk56 : gK G51 (o + 4) = (1, 240) := ((hXG51).k ((hXG4).k kM4 (by decide)) (by decide))
            refine s_alv (o + 4) (by simp) (fun (al57 : AL G51 (o + 4)) => ?_)
            have hv58 : -1 ≤ (gS G51 (o + 4) ((rr5 * 10) + k51 : Int).toNat) ∧ (gS G51 (o + 4) ((rr5 * 10) + k51 : Int).toNat) ≤ 239 := hCG51.1.v (j := ((rr5 * 10) + k51 : Int).toNat) (by rw [cde_m (by omega) (by omega)]; omega : cde (o + 4) = 304) al57 (by rw [hk56]; show ((rr5 * 10) + k51 : Int).toNat < 240; omega)
            refine s_iald dX3_linkInstance_69 hk56 (by omega) (by omega) rfl ?_
            refine s_istore dX3_linkInstance_70 (by decide) (lv' := [some (2, ((o : Nat) : Int)), some (2, ((n : Nat) : Int)), some (0, d), some (0, rr5), some (0, (-1)), some (0, k51), some (0, (rr5 * 10) + k51), some (0, gS G51 (o + 4) (((rr5 * 10) + k51 : Int).toNat)), none]) rfl ?_
            refine s_aload_n dX3_linkInstance_72 rfl (Int.natCast_nonneg _) ?_
            have hv59 : gS G51 o 4 = ((o + 4 : Nat) : Int) := by have h9 : (gS G51 o 4) = (((o % 1048576) + 4 : Nat) : Int) := hCG51.1.v (j := 4) (by rw [cde_m (by omega) (by omega)]; omega : cde o = 300) al54 (by rw [hk53]; exact Nat.le_of_ble_eq_true rfl); omega
            refine s_getf (ci := 4) (k := 4) (C := RX3) (T := TX3) (N := 18) (n := o) (L := 0) (t := 2) dX3_linkInstance_73 rfl wi_71 m_608 (Nat.le_of_ble_eq_true rfl) rfl rfl hk53 hv59 ?_
            refine s_iload dX3_linkInstance_76 rfl ?_
            refine s_bipush dX3_linkInstance_78 rfl (by decide) ?_
            refine s_imul dX3_linkInstance_80 (by omega) ?_
            refine s_iload dX3_linkInstance_81 rfl ?_
            refine s_iadd dX3_linkInstance_83 (by omega) ?_
            have hv60 : -1 ≤ (gS G51 (o + 4) ((((-1)) * 10) + k51 : Int).toNat) ∧ (gS G51 (o + 4) ((((-1)) * 10) + k51 : Int).toNat) ≤ 239 := hCG51.1.v (j := ((((-1)) * 10) + k51 : Int).toNat) (by rw [cde_m (by omega) (by omega)]; omega : cde (o + 4) = 304) al57 (by rw [hk56]; show ((((-1)) * 10) + k51 : Int).toNat < 240; omega)
            refine s_iald dX3_linkInstance_84 hk56 (by omega) (by omega) rfl ?_
            refine s_istore dX3_linkInstance_85 (by decide) (lv' := [some (2, ((o : Nat) : Int)), some (2, ((n : Nat) : Int)), some (0, d), some (0, rr5), some (0, (-1)), some (0, k51), some (0, (rr5 * 10) + k51), some (0, gS G51 (o + 4) (((rr5 * 10) + k51 : Int).toNat)), some (0, gS G51 (o + 4) (((((-1)) * 10) + k51 : Int).toNat))]) rfl ?_
            refine s_iload dX3_linkInstance_87 rfl ?_
            refine s_if_lt (tgt := 116) dX3_linkInstance_89 (by decide) (fun c61 => ?_) (fun c61 => ?_)
            · -- 89 to 116
              refine s_aload_n dX3_linkInstance_116 rfl (Int.natCast_nonneg _) ?_
              have hk62 : gK G51 (n) = (13, 0) := ((hXG51).k ((hXG4).k hkn (by decide)) (by decide))
              refine s_alv (n) (by simp) (fun (al64 : AL G51 n) => ?_)
              have hv63 : 0 ≤ (gS G51 n 1) ∧ (gS G51 n 1) ≤ 6 := hCG51.1.v (j := 1) (by rw [cde_n (by omega) (by omega)]; omega : cde n = 100) al64 (by rw [hk62]; exact Nat.le_of_ble_eq_true rfl)
              refine s_getf (ci := 5) (k := 1) (C := RX4) (T := TX4) (N := 14) (n := n) (L := 0) (t := 0) dX3_linkInstance_117 rfl wi_72 m_624 (Nat.le_of_ble_eq_true rfl) rfl rfl hk62 rfl ?_
              refine s_if_ne (tgt := 137) dX3_linkInstance_120 (by decide) (fun c65 => ?_) (fun c65 => ?_)
              · -- 120 to 137
                refine s_iinc dX3_linkInstance_137 (v := k51) rfl (by omega) (by decide) (lv' := [some (2, ((o : Nat) : Int)), some (2, ((n : Nat) : Int)), some (0, d), some (0, rr5), some (0, (-1)), some (0, k51 + 1), some (0, (rr5 * 10) + k51), some (0, gS G51 (o + 4) (((rr5 * 10) + k51 : Int).toNat)), some (0, gS G51 (o + 4) (((((-1)) * 10) + k51 : Int).toNat))]) rfl ?_
                refine s_goto (tgt := 47) dX3_linkInstance_140 (by decide) ?_
                refine s_mask [true, true, true, true, true, true, false, false, false] (lv' := [some (2, ((o : Nat) : Int)), some (2, ((n : Nat) : Int)), some (0, d), some (0, rr5), some (0, (-1)), some (0, k51 + 1), none, none, none]) rfl ?_
                exact ih51 (k51 + 1) G51 hCG51 hXG51 hFG51 (⟨(by omega), (by exact iM51), (by exact iL51), (by exact hIG51)⟩) (by omega)
              · -- 120 to 123
                refine s_iload dX3_linkInstance_123 rfl ?_
                refine s_if_lt (tgt := 137) dX3_linkInstance_125 (by decide) (fun c66 => ?_) (fun c66 => ?_)
                · -- 125 to 137
                  refine s_iinc dX3_linkInstance_137 (v := k51) rfl (by omega) (by decide) (lv' := [some (2, ((o : Nat) : Int)), some (2, ((n : Nat) : Int)), some (0, d), some (0, rr5), some (0, (-1)), some (0, k51 + 1), some (0, (rr5 * 10) + k51), some (0, gS G51 (o + 4) (((rr5 * 10) + k51 : Int).toNat)), some (0, gS G51 (o + 4) (((((-1)) * 10) + k51 : Int).toNat))]) rfl ?_
                  refine s_goto (tgt := 47) dX3_linkInstance_140 (by decide) ?_
                  refine s_mask [true, true, true, true, true, true, false, false, false] (lv' := [some (2, ((o : Nat) : Int)), some (2, ((n : Nat) : Int)), some (0, d), some (0, rr5), some (0, (-1)), some (0, k51 + 1), none, none, none]) rfl ?_
                  exact ih51 (k51 + 1) G51 hCG51 hXG51 hFG51 (⟨(by omega), (by exact iM51), (by exact iL51), (by exact hIG51)⟩) (by omega)
                · -- 125 to 128
                  refine s_aload_n dX3_linkInstance_128 rfl (Int.natCast_nonneg _) ?_
                  have hv67 : gS G51 o 4 = ((o + 4 : Nat) : Int) := by have h9 : (gS G51 o 4) = (((o % 1048576) + 4 : Nat) : Int) := hCG51.1.v (j := 4) (by rw [cde_m (by omega) (by omega)]; omega : cde o = 300) al54 (by rw [hk53]; exact Nat.le_of_ble_eq_true rfl); omega
                  refine s_getf (ci := 4) (k := 4) (C := RX3) (T := TX3) (N := 18) (n := o) (L := 0) (t := 2) dX3_linkInstance_129 rfl wi_71 m_608 (Nat.le_of_ble_eq_true rfl) rfl rfl hk53 hv67 ?_
                  refine s_iload dX3_linkInstance_132 rfl ?_
                  refine s_iload dX3_linkInstance_134 rfl ?_
                  refine s_iast dX3_linkInstance_136 hk56 (by omega) (by omega) ?_
                  generalize eG68r : gset G51 (o + 4) (((rr5 * 10) + k51 : Int).toNat) (gS G51 (o + 4) (((((-1)) * 10) + k51 : Int).toNat)) = G68
                  have eG68 := eG68r.symm
                  have hCG68 : CI a b G68 := by rw [eG68]; exact hCG51.set (by rw [(by rw [cde_m (by omega) (by omega)]; omega : cde (o + 4) = 304)]; rfl) (by rw [(by rw [cde_m (by omega) (by omega)]; omega : cde (o + 4) = 304)]; exact (show -1 ≤ (gS G51 (o + 4) (((((-1)) * 10) + k51 : Int).toNat)) ∧ (gS G51 (o + 4) (((((-1)) * 10) + k51 : Int).toNat)) ≤ 239 from by omega))
                  have hXG68 : KX G51 G68 := KX.set KX.rf eG68
                  have hFG68 : WX (fun x => (o ≤ x ∧ x ≤ o + 8) ∨ x = o + 13 ∨ (o + 20 ≤ x ∧ x ≤ o + 24)) G G68 := WX.set hFG51 eG68 (by show _; omega)
                  have hfG68 : WX (fun x => x = (o + 4) % 1048576) G51 G68 := WX.set WX.rf eG68 rfl
                  have hIG68 : gS G68 o 9 = gS G4 o 9 := (congrFun (hfG68 o (KX.al (KX.trans hXG4 hXG51) (kne kM (by decide))) rg1) 9).trans hIG51
                  show WP kX3_linkInstance X 137 [some (2, ((o : Nat) : Int)), some (2, ((n : Nat) : Int)), some (0, d), some (0, rr5), some (0, (-1)), some (0, k51), some (0, (rr5 * 10) + k51), some (0, gS G51 (o + 4) (((rr5 * 10) + k51 : Int).toNat)), some (0, gS G51 (o + 4) (((((-1)) * 10) + k51 : Int).toNat))] [] G68
                  refine s_iinc dX3_linkInstance_137 (v := k51) rfl (by omega) (by decide) (lv' := [some (2, ((o : Nat) : Int)), some (2, ((n : Nat) : Int)), some (0, d), some (0, rr5), some (0, (-1)), some (0, k51 + 1), some (0, (rr5 * 10) + k51), some (0, gS G51 (o + 4) (((rr5 * 10) + k51 : Int).toNat)), some (0, gS G51 (o + 4) (((((-1)) * 10) + k51 : Int).toNat))]) rfl ?_
                  refine s_goto (tgt := 47) dX3_linkInstance_140 (by decide) ?_
                  refine s_mask [true, true, true, true, true, true, false, false, false] (lv' := [some (2, ((o : Nat) : Int)), some (2, ((n : Nat) : Int)), some (0, d), some (0, rr5), some (0, (-1)), some (0, k51 + 1), none, none, none]) rfl ?_
                  exact ih51 (k51 + 1) G68 hCG68 (KX.trans hXG51 hXG68) hFG68 (⟨(by omega), (by exact iM51.sh ho eG68 (by omega)), (by exact iL51.sh ho eG68 (by omega)), (by exact hIG68)⟩) (by omega)
            · -- 89 to 92
              refine s_iload dX3_linkInstance_92 rfl ?_
              refine s_if_lt (tgt := 116) dX3_linkInstance_94 (by decide) (fun c69 => ?_) (fun c69 => ?_)
              · -- 94 to 116
                refine s_aload_n dX3_linkInstance_116 rfl (Int.natCast_nonneg _) ?_
                have hk70 : gK G51 (n) = (13, 0) := ((hXG51).k ((hXG4).k hkn (by decide)) (by decide))
                refine s_alv (n) (by simp) (fun (al72 : AL G51 n) => ?_)
                have hv71 : 0 ≤ (gS G51 n 1) ∧ (gS G51 n 1) ≤ 6 := hCG51.1.v (j := 1) (by rw [cde_n (by omega) (by omega)]; omega : cde n = 100) al72 (by rw [hk70]; exact Nat.le_of_ble_eq_true rfl)
                refine s_getf (ci := 5) (k := 1) (C := RX4) (T := TX4) (N := 14) (n := n) (L := 0) (t := 0) dX3_linkInstance_117 rfl wi_72 m_624 (Nat.le_of_ble_eq_true rfl) rfl rfl hk70 rfl ?_
                refine s_if_ne (tgt := 137) dX3_linkInstance_120 (by decide) (fun c73 => ?_) (fun c73 => ?_)
                · -- 120 to 137
                  refine s_iinc dX3_linkInstance_137 (v := k51) rfl (by omega) (by decide) (lv' := [some (2, ((o : Nat) : Int)), some (2, ((n : Nat) : Int)), some (0, d), some (0, rr5), some (0, (-1)), some (0, k51 + 1), some (0, (rr5 * 10) + k51), some (0, gS G51 (o + 4) (((rr5 * 10) + k51 : Int).toNat)), some (0, gS G51 (o + 4) (((((-1)) * 10) + k51 : Int).toNat))]) rfl ?_
                  refine s_goto (tgt := 47) dX3_linkInstance_140 (by decide) ?_
                  refine s_mask [true, true, true, true, true, true, false, false, false] (lv' := [some (2, ((o : Nat) : Int)), some (2, ((n : Nat) : Int)), some (0, d), some (0, rr5), some (0, (-1)), some (0, k51 + 1), none, none, none]) rfl ?_
                  exact ih51 (k51 + 1) G51 hCG51 hXG51 hFG51 (⟨(by omega), (by exact iM51), (by exact iL51), (by exact hIG51)⟩) (by omega)
                · -- 120 to 123
                  refine s_iload dX3_linkInstance_123 rfl ?_
                  refine s_if_lt (tgt := 137) dX3_linkInstance_125 (by decide) (fun c74 => ?_) (fun c74 => ?_)
                  · -- 125 to 137
                    refine s_iinc dX3_linkInstance_137 (v := k51) rfl (by omega) (by decide) (lv' := [some (2, ((o : Nat) : Int)), some (2, ((n : Nat) : Int)), some (0, d), some (0, rr5), some (0, (-1)), some (0, k51 + 1), some (0, (rr5 * 10) + k51), some (0, gS G51 (o + 4) (((rr5 * 10) + k51 : Int).toNat)), some (0, gS G51 (o + 4) (((((-1)) * 10) + k51 : Int).toNat))]) rfl ?_
                    refine s_goto (tgt := 47) dX3_linkInstance_140 (by decide) ?_
                    refine s_mask [true, true, true, true, true, true, false, false, false] (lv' := [some (2, ((o : Nat) : Int)), some (2, ((n : Nat) : Int)), some (0, d), some (0, rr5), some (0, (-1)), some (0, k51 + 1), none, none, none]) rfl ?_
                    exact ih51 (k51 + 1) G51 hCG51 hXG51 hFG51 (⟨(by omega), (by exact iM51), (by exact iL51), (by exact hIG51)⟩) (by omega)
                  · -- 125 to 128
                    refine s_aload_n dX3_linkInstance_128 rfl (Int.natCast_nonneg _) ?_
                    have hv75 : gS G51 o 4 = ((o + 4 : Nat) : Int) := by have h9 : (gS G51 o 4) = (((o % 1048576) + 4 : Nat) : Int) := hCG51.1.v (j := 4) (by rw [cde_m (by omega) (by omega)]; omega : cde o = 300) al54 (by rw [hk53]; exact Nat.le_of_ble_eq_true rfl); omega
                    refine s_getf (ci := 4) (k := 4) (C := RX3) (T := TX3) (N := 18) (n := o) (L := 0) (t := 2) dX3_linkInstance_129 rfl wi_71 m_608 (Nat.le_of_ble_eq_true rfl) rfl rfl hk53 hv75 ?_
                    refine s_iload dX3_linkInstance_132 rfl ?_
                    refine s_iload dX3_linkInstance_134 rfl ?_
                    refine s_iast dX3_linkInstance_136 hk56 (by omega) (by omega) ?_
                    generalize eG76r : gset G51 (o + 4) (((rr5 * 10) + k51 : Int).toNat) (gS G51 (o + 4) (((((-1)) * 10) + k51 : Int).toNat)) = G76
                    have eG76 := eG76r.symm
                    have hCG76 : CI a b G76 := by rw [eG76]; exact hCG51.set (by rw [(by rw [cde_m (by omega) (by omega)]; omega : cde (o + 4) = 304)]; rfl) (by rw [(by rw [cde_m (by omega) (by omega)]; omega : cde (o + 4) = 304)]; exact (show -1 ≤ (gS G51 (o + 4) (((((-1)) * 10) + k51 : Int).toNat)) ∧ (gS G51 (o + 4) (((((-1)) * 10) + k51 : Int).toNat)) ≤ 239 from by omega))
                    have hXG76 : KX G51 G76 := KX.set KX.rf eG76
                    have hFG76 : WX (fun x => (o ≤ x ∧ x ≤ o + 8) ∨ x = o + 13 ∨ (o + 20 ≤ x ∧ x ≤ o + 24)) G G76 := WX.set hFG51 eG76 (by show _; omega)
                    have hfG76 : WX (fun x => x = (o + 4) % 1048576) G51 G76 := WX.set WX.rf eG76 rfl
                    have hIG76 : gS G76 o 9 = gS G4 o 9 := (congrFun (hfG76 o (KX.al (KX.trans hXG4 hXG51) (kne kM (by decide))) rg1) 9).trans hIG51
                    show WP kX3_linkInstance X 137 [some (2, ((o : Nat) : Int)), some (2, ((n : Nat) : Int)), some (0, d), some (0, rr5), some (0, (-1)), some (0, k51), some (0, (rr5 * 10) + k51), some (0, gS G51 (o + 4) (((rr5 * 10) + k51 : Int).toNat)), some (0, gS G51 (o + 4) (((((-1)) * 10) + k51 : Int).toNat))] [] G76
                    refine s_iinc dX3_linkInstance_137 (v := k51) rfl (by omega) (by decide) (lv' := [some (2, ((o : Nat) : Int)), some (2, ((n : Nat) : Int)), some (0, d), some (0, rr5), some (0, (-1)), some (0, k51 + 1), some (0, (rr5 * 10) + k51), some (0, gS G51 (o + 4) (((rr5 * 10) + k51 : Int).toNat)), some (0, gS G51 (o + 4) (((((-1)) * 10) + k51 : Int).toNat))]) rfl ?_
                    refine s_goto (tgt := 47) dX3_linkInstance_140 (by decide) ?_
                    refine s_mask [true, true, true, true, true, true, false, false, false] (lv' := [some (2, ((o : Nat) : Int)), some (2, ((n : Nat) : Int)), some (0, d), some (0, rr5), some (0, (-1)), some (0, k51 + 1), none, none, none]) rfl ?_
                    exact ih51 (k51 + 1) G76 hCG76 (KX.trans hXG51 hXG76) hFG76 (⟨(by omega), (by exact iM51.sh ho eG76 (by omega)), (by exact iL51.sh ho eG76 (by omega)), (by exact hIG76)⟩) (by omega)
              · -- 94 to 97
                refine s_aload_n dX3_linkInstance_97 rfl (Int.natCast_nonneg _) ?_
                refine s_aload_n dX3_linkInstance_98 rfl (Int.natCast_nonneg _) ?_
                refine s_iload dX3_linkInstance_99 rfl ?_
                refine s_callV (as := [(0, gS G51 (o + 4) (((rr5 * 10) + k51 : Int).toNat))]) (rest := [(2, ((o : Nat) : Int))]) (n := o) (ci := 4) gX3_endOf dX3_linkInstance_101 m_1357 m_940 m_1668 m_717 m_288 ⟨by decide, by decide, show (parseMethodDescriptor yX3_endOf.desc).map (fun d => d.parameters.length) = some 1 from by decide +kernel⟩ (Nat.le_of_ble_eq_true rfl) (by rw [hcf]; omega) hk53 rfl rfl (Nat.le_of_ble_eq_true rfl) ⟨o, gS G51 (o + 4) (((rr5 * 10) + k51 : Int).toNat), (gS G o 9), a, b, rfl, hCG51, hab, (by assumption), (by omega), (by omega), (by exact iM51), fun rr77 hp78 => ?_⟩
                show WP kX3_linkInstance X 104 [some (2, ((o : Nat) : Int)), some (2, ((n : Nat) : Int)), some (0, d), some (0, rr5), some (0, (-1)), some (0, k51), some (0, (rr5 * 10) + k51), some (0, gS G51 (o + 4) (((rr5 * 10) + k51 : Int).toNat)), some (0, gS G51 (o + 4) (((((-1)) * 10) + k51 : Int).toNat))] [(0, rr77), (2, ((o : Nat) : Int))] G51
                refine s_aload_n dX3_linkInstance_104 rfl (Int.natCast_nonneg _) ?_
                refine s_iload dX3_linkInstance_105 rfl ?_
                refine s_callV (as := [(0, gS G51 (o + 4) (((((-1)) * 10) + k51 : Int).toNat))]) (rest := [(0, rr77), (2, ((o : Nat) : Int))]) (n := o) (ci := 4) gX3_endOf dX3_linkInstance_107 m_1357 m_940 m_1668 m_717 m_288 ⟨by decide, by decide, show (parseMethodDescriptor yX3_endOf.desc).map (fun d => d.parameters.length) = some 1 from by decide +kernel⟩ (Nat.le_of_ble_eq_true rfl) (by rw [hcf]; omega) hk53 rfl rfl (Nat.le_of_ble_eq_true rfl) ⟨o, gS G51 (o + 4) (((((-1)) * 10) + k51 : Int).toNat), (gS G o 9), a, b, rfl, hCG51, hab, (by assumption), (by omega), (by omega), (by exact iM51), fun rr79 hp80 => ?_⟩
                show WP kX3_linkInstance X 110 [some (2, ((o : Nat) : Int)), some (2, ((n : Nat) : Int)), some (0, d), some (0, rr5), some (0, (-1)), some (0, k51), some (0, (rr5 * 10) + k51), some (0, gS G51 (o + 4) (((rr5 * 10) + k51 : Int).toNat)), some (0, gS G51 (o + 4) (((((-1)) * 10) + k51 : Int).toNat))] [(0, rr79), (0, rr77), (2, ((o : Nat) : Int))] G51
                refine s_callV (as := [(0, rr77), (0, rr79)]) (rest := []) (n := o) (ci := 4) gX3_join dX3_linkInstance_110 m_1358 m_956 m_1683 m_717 m_304 ⟨by decide, by decide, show (parseMethodDescriptor yX3_join.desc).map (fun d => d.parameters.length) = some 2 from by decide +kernel⟩ (Nat.le_of_ble_eq_true rfl) (by rw [hcf]; omega) hk53 rfl rfl (Nat.le_of_ble_eq_true rfl) ⟨o, rr77, rr79, (gS G o 9), a, b, rfl, hCG51, hab, (by assumption), (by omega), (by omega), (by omega), (by exact iM51), fun G81 hCG81 hXG81 hfG81 hpG81 => ?_⟩
                have hFG81 : WX (fun x => (o ≤ x ∧ x ≤ o + 8) ∨ x = o + 13 ∨ (o + 20 ≤ x ∧ x ≤ o + 24)) G G81 := WX.trans hFG51 (KX.trans hXG4 hXG51) (WX.mono hfG81 rg2)
                have hIG81 : gS G81 o 9 = gS G4 o 9 := (congrFun (hfG81 o (KX.al (KX.trans hXG4 hXG51) (kne kM (by decide))) rg3) 9).trans hIG51
                show WP kX3_linkInstance X 113 [some (2, ((o : Nat) : Int)), some (2, ((n : Nat) : Int)), some (0, d), some (0, rr5), some (0, (-1)), some (0, k51), some (0, (rr5 * 10) + k51), some (0, gS G51 (o + 4) (((rr5 * 10) + k51 : Int).toNat)), some (0, gS G51 (o + 4) (((((-1)) * 10) + k51 : Int).toNat))] [] G81
                refine s_goto (tgt := 137) dX3_linkInstance_113 (by decide) ?_
                refine s_iinc dX3_linkInstance_137 (v := k51) rfl (by omega) (by decide) (lv' := [some (2, ((o : Nat) : Int)), some (2, ((n : Nat) : Int)), some (0, d), some (0, rr5), some (0, (-1)), some (0, k51 + 1), some (0, (rr5 * 10) + k51), some (0, gS G51 (o + 4) (((rr5 * 10) + k51 : Int).toNat)), some (0, gS G51 (o + 4) (((((-1)) * 10) + k51 : Int).toNat))]) rfl ?_
                refine s_goto (tgt := 47) dX3_linkInstance_140 (by decide) ?_
                refine s_mask [true, true, true, true, true, true, false, false, false] (lv' := [some (2, ((o : Nat) : Int)), some (2, ((n : Nat) : Int)), some (0, d), some (0, rr5), some (0, (-1)), some (0, k51 + 1), none, none, none]) rfl ?_
                exact ih51 (k51 + 1) G81 hCG81 (KX.trans hXG51 hXG81) hFG81 (⟨(by omega), (by exact hpG81.1), (by intro s h0 h1; obtain ⟨l1, l2, l3⟩ := iL51 s h0 h1; exact ⟨(congrFun (hfG81 (o + 1) (KX.al (KX.trans hXG4 hXG51) (kne kM1 (by decide))) (by show ¬ _; omega)) _).trans l1, (hpG81.2 s h0 h1).trans l2, (congrFun (hfG81 (o + 4) (KX.al (KX.trans hXG4 hXG51) (kne kM4 (by decide))) (by show ¬ _; omega)) _).trans l3⟩), (by exact hIG81)⟩) (by omega)
      exact L51 _ 0 G4 hCG4 KX.rf hFG4 (⟨(by omega), (by exact hM9), (by exact hL9), (by exact hIG4)⟩) (Nat.lt_succ_self _)
    · -- 39 to 42
      refine s_iconst dX3_linkInstance_42 (by decide) ?_
      exact s_iret hR dX3_linkInstance_43 rfl (hQ ((-1)) G4 hCG4 hXG4 hFG4 (Or.inl rfl))

abbrev kX3_shownInstance : KD := (RX3, cX3_shownInstance, 7, (some .int), [])
def TX3_shownInstance (m : Nat) : TR := fun as G Qr => ∃ (o n i : Nat) (d : Int) (a b : Nat), as = [(2, ((o : Nat) : Int)), (2, ((n : Nat) : Int)), (0, d)] ∧ CI a b G ∧ (a ≤ 2840000 ∧ b ≤ 590000) ∧ (isMc o) ∧ (n = 65536 + 64 * i) ∧ ((i : Int) < nN G) ∧ (gS G n 1 = 1 ∨ gS G n 1 = 4 ∨ gS G n 1 = 5) ∧ (0 ≤ d ∧ d ≤ 24 ∧ 25 ≤ d + m) ∧ ∀ (r : Int) (G' : LG), CI a b G' → KX G G' → WX (fun x => (o ≤ x ∧ x ≤ o + 8) ∨ x = o + 13 ∨ (o + 20 ≤ x ∧ x ≤ o + 24)) G G' → (r = -1 ∨ ((gS G o 9 ≤ r ∧ r < gS G' o 9) ∧ MI G' o (gS G o 9) ∧ LO G G' o (10 * gS G o 9))) → Qr (.inl (some (0, r))) G'
set_option maxHeartbeats 4000000 in
set_option maxRecDepth 100000 in
theorem gX3_shownInstance (m : Nat) (ih : Good kX3_instance yX3_instance (4 * m + 80) (TX3_instance m)) : Good kX3_shownInstance yX3_shownInstance (4 * m + 81) (TX3_shownInstance m) := by
  refine good_of (by decide) rfl rfl (fun as G Qr h => ?_) (fun X as G Qr hcf hR hT oa => ?_)
  · obtain ⟨o, n, i, d, a, b, rfl, -⟩ := h; exact Nat.le_of_ble_eq_true rfl
  obtain ⟨o, n, i, d, a, b, rfl, hC, hab, ho, hni, hnn, hk, hd, hQ⟩ := hT
  show WP kX3_shownInstance X 0 [some (2, ((o : Nat) : Int)), some (2, ((n : Nat) : Int)), some (0, d), none, none, none, none] [] G
  have hr_d : inR d := okv_R (oa _ (by simp))
  have rg0 : RM (fun x => (o ≤ x ∧ x ≤ o + 8) ∨ x = o + 13 ∨ (o + 20 ≤ x ∧ x ≤ o + 24)) (fun x => (o ≤ x ∧ x ≤ o + 8) ∨ x = o + 13 ∨ (o + 20 ≤ x ∧ x ≤ o + 24)) := fun x hx => by (try dsimp only at hx ⊢); omega
  have rg1 : RNx (fun x => x = (o + 4) % 1048576) (o % 1048576) := by show ¬ _; omega
  refine s_alvl o (k := 0) rfl (fun alo => ?_)
  refine s_lk (fun hlk => ?_)
  have hmn := hlk.mna hC ho alo
  obtain ⟨kM, kM1, kM2, kM3, kM4, kM5, kM6, kM7, kM8, kM13, kM15, kM20, kMp, kMp5, kMp6, kMp7, kMp8, kMp9, kMp10, kMp13, kMp14, kMp16⟩ := id hmn
  have hin : 0 ≤ gS G o 9 ∧ gS G o 9 ≤ 24 := hC.1.v (c := 300) (j := 9) (by rcases ho with rfl | rfl <;> decide) alo (by rw [kM]; exact Nat.le_of_ble_eq_true rfl)
  obtain ⟨hn40, hkn, pa, hpa, hpm, hpc, hkp, hpt, hu6, hr4⟩ := hC.nd hni hnn
  have hn : isNd n := by omega
  have hti1 : 0 ≤ gS G n 1 ∧ gS G n 1 ≤ 6 := hC.1.v (c := 100) (j := 1) (by rw [cde_n (by omega) (by omega)]; omega) (kne hkn (by decide)) (by rw [hkn]; exact Nat.le_of_ble_eq_true rfl)
  obtain ⟨x0, hx0⟩ : ∃ x : Nat, x = 65536 + 64 * ptC G i 0 := ⟨_, rfl⟩
  obtain ⟨hq0, hl0⟩ := hpt 0 (npt_0 (by omega))
  rw [← hx0] at hq0
  have hn0 : isNd x0 := by omega
  refine s_aload_n dX3_shownInstance_0 rfl (Int.natCast_nonneg _) ?_
  refine s_aload_n dX3_shownInstance_1 rfl (Int.natCast_nonneg _) ?_
  refine s_getf (ci := 5) (k := 2) (C := RX4) (T := TX4) (N := 14) (n := n) (L := 0) (t := 2) dX3_shownInstance_2 rfl wi_72 m_596 (Nat.le_of_ble_eq_true rfl) rfl rfl hkn hpa ?_
  refine s_iconst dX3_shownInstance_5 (by decide) ?_
  refine s_aald6 dX3_shownInstance_6 hkp (by omega) (by omega) hq0 ?_
  refine s_iload_n dX3_shownInstance_7 rfl ?_
  refine s_iconst dX3_shownInstance_8 (by decide) ?_
  refine s_iadd dX3_shownInstance_9 (by omega) ?_
  refine s_callV (as := [(2, ((x0 : Nat) : Int)), (0, d + 1)]) (rest := []) (n := o) (ci := 4) ih dX3_shownInstance_10 m_1381 m_954 m_1681 m_717 m_302 ⟨by decide, by decide, show (parseMethodDescriptor yX3_instance.desc).map (fun d => d.parameters.length) = some 2 from by decide +kernel⟩ (Nat.le_of_ble_eq_true rfl) (by rw [hcf]; omega) kM rfl rfl (Nat.le_of_ble_eq_true rfl) ⟨o, x0, (ptC G i 0), d + 1, a, b, rfl, hC, hab, (by assumption), (by exact hx0), (by omega), (by omega), fun rr5 G4 hCG4 hXG4 hfG4 hpG4 => ?_⟩
  have hFG4 : WX (fun x => (o ≤ x ∧ x ≤ o + 8) ∨ x = o + 13 ∨ (o + 20 ≤ x ∧ x ≤ o + 24)) G G4 := WX.trans WX.rf KX.rf (WX.mono hfG4 rg0)
  show WP kX3_shownInstance X 13 [some (2, ((o : Nat) : Int)), some (2, ((n : Nat) : Int)), some (0, d), none, none, none, none] [(0, rr5)] G4
  refine s_istore_n dX3_shownInstance_13 (by decide) (lv' := [some (2, ((o : Nat) : Int)), some (2, ((n : Nat) : Int)), some (0, d), some (0, rr5), none, none, none]) rfl ?_
  refine s_iload_n dX3_shownInstance_14 rfl ?_
  refine s_if_ge (tgt := 20) dX3_shownInstance_15 (by decide) (fun c6 => ?_) (fun c6 => ?_)
  · -- 15 to 20
    have hnrG4 : gS G4 n = gS G n := hFG4 n (kne hkn (by decide)) (by show ¬ _; omega)
    have hpaG4 : gS G4 n 2 = (pa : Int) := by rw [hnrG4]; exact hpa
    have hprG4 : gS G4 pa = gS G pa := hFG4 pa (kne hkp (by decide)) (by show ¬ _; omega)
    have hnNG4 : nN G4 = nN G := by unfold nN; rw [hFG4 327685 (kne kMp16 (by decide)) (by show ¬ _; omega)]
    have hpxG4 : gS G4 327681 12 = gS G 327681 12 := congrFun (hFG4 327681 (kne kMp (by decide)) (by show ¬ _; omega)) 12
    have hq0G4 : gS G4 pa 0 = ((x0 : Nat) : Int) := by rw [hprG4]; exact hq0
    obtain ⟨hr1, hMI1, hLO1⟩ := hpG4.resolve_left (by omega)
    have h24G4 : 0 ≤ gS G4 o 9 ∧ gS G4 o 9 ≤ 24 := hCG4.1.v (c := 300) (j := 9) (by rcases ho with rfl | rfl <;> decide) (KX.al hXG4 alo) (by rw [hXG4.k kM (by decide)]; exact Nat.le_of_ble_eq_true rfl)
    have hIG4 : gS G4 o 9 = gS G4 o 9 := rfl
    have hti3 : 0 ≤ gS G4 n 3 ∧ gS G4 n 3 ≤ 9 := hCG4.1.v (c := 100) (j := 3) (by rw [cde_n (by omega) (by omega)]; omega) (KX.al hXG4 (kne hkn (by decide))) (by rw [hXG4.k hkn (by decide)]; exact Nat.le_of_ble_eq_true rfl)
    have hti4 : -1 ≤ gS G4 n 4 ∧ gS G4 n 4 ≤ 9 := hCG4.1.v (c := 100) (j := 4) (by rw [cde_n (by omega) (by omega)]; omega) (KX.al hXG4 (kne hkn (by decide))) (by rw [hXG4.k hkn (by decide)]; exact Nat.le_of_ble_eq_true rfl)
    have hr9 : gS G4 n 1 = 4 → 0 ≤ gS G4 n 4 := by rw [hnrG4]; exact hr4
    have he1 : gS G4 n 1 = gS G n 1 := by rw [hnrG4]
    refine s_iload_n dX3_shownInstance_20 rfl ?_
    refine s_bipush dX3_shownInstance_21 rfl (by decide) ?_
    refine s_imul dX3_shownInstance_23 (by omega) ?_
    refine s_istore dX3_shownInstance_24 (by decide) (lv' := [some (2, ((o : Nat) : Int)), some (2, ((n : Nat) : Int)), some (0, d), some (0, rr5), some (0, rr5 * 10), none, none]) rfl ?_
    refine s_aload_n dX3_shownInstance_26 rfl (Int.natCast_nonneg _) ?_
    have hk7 : gK G4 (n) = (13, 0) := ((hXG4).k hkn (by decide))
    refine s_alv (n) (by simp) (fun (al9 : AL G4 n) => ?_)
    have hv8 : 0 ≤ (gS G4 n 1) ∧ (gS G4 n 1) ≤ 6 := hCG4.1.v (j := 1) (by rw [cde_n (by omega) (by omega)]; omega : cde n = 100) al9 (by rw [hk7]; exact Nat.le_of_ble_eq_true rfl)
    refine s_getf (ci := 5) (k := 1) (C := RX4) (T := TX4) (N := 14) (n := n) (L := 0) (t := 0) dX3_shownInstance_27 rfl wi_72 m_624 (Nat.le_of_ble_eq_true rfl) rfl rfl hk7 rfl ?_
    refine s_iconst dX3_shownInstance_30 (by decide) ?_
    refine s_icmp_ne (tgt := 100) dX3_shownInstance_31 (by decide) (fun c10 => ?_) (fun c10 => ?_)
    · -- 31 to 100
      refine s_aload_n dX3_shownInstance_100 rfl (Int.natCast_nonneg _) ?_
      refine s_getf (ci := 5) (k := 1) (C := RX4) (T := TX4) (N := 14) (n := n) (L := 0) (t := 0) dX3_shownInstance_101 rfl wi_72 m_624 (Nat.le_of_ble_eq_true rfl) rfl rfl hk7 rfl ?_
      refine s_iconst dX3_shownInstance_104 (by decide) ?_
      refine s_icmp_ne (tgt := 132) dX3_shownInstance_105 (by decide) (fun c12 => ?_) (fun c12 => ?_)
      · -- 105 to 132
        refine s_aload_n dX3_shownInstance_132 rfl (Int.natCast_nonneg _) ?_
        have hk13 : gK G4 (o) = (12, 0) := ((hXG4).k kM (by decide))
        refine s_alv (o) (by simp) (fun (al14 : AL G4 o) => ?_)
        have hv15 : gS G4 o 4 = ((o + 4 : Nat) : Int) := by have h9 : (gS G4 o 4) = (((o % 1048576) + 4 : Nat) : Int) := hCG4.1.v (j := 4) (by rw [cde_m (by omega) (by omega)]; omega : cde o = 300) al14 (by rw [hk13]; exact Nat.le_of_ble_eq_true rfl); omega
        refine s_getf (ci := 4) (k := 4) (C := RX3) (T := TX3) (N := 18) (n := o) (L := 0) (t := 2) dX3_shownInstance_133 rfl wi_71 m_608 (Nat.le_of_ble_eq_true rfl) rfl rfl hk13 hv15 ?_
        refine s_iload dX3_shownInstance_136 rfl ?_
        refine s_aload_n dX3_shownInstance_138 rfl (Int.natCast_nonneg _) ?_
        have hv16 : 0 ≤ (gS G4 n 3) ∧ (gS G4 n 3) ≤ 9 := hCG4.1.v (j := 3) (by rw [cde_n (by omega) (by omega)]; omega : cde n = 100) al9 (by rw [hk7]; exact Nat.le_of_ble_eq_true rfl)
        refine s_getf (ci := 5) (k := 3) (C := RX4) (T := TX4) (N := 14) (n := n) (L := 0) (t := 0) dX3_shownInstance_139 rfl wi_72 m_600 (Nat.le_of_ble_eq_true rfl) rfl rfl hk7 rfl ?_
        refine s_iadd dX3_shownInstance_142 (by omega) ?_
        refine s_iconst dX3_shownInstance_143 (by decide) ?_
        have hk17 : gK G4 (o + 4) = (1, 240) := ((hXG4).k kM4 (by decide))
        refine s_iast dX3_shownInstance_144 hk17 (by omega) (by omega) ?_
        generalize eG18r : gset G4 (o + 4) (((rr5 * 10) + (gS G4 n 3) : Int).toNat) ((-1)) = G18
        have eG18 := eG18r.symm
        have hCG18 : CI a b G18 := by rw [eG18]; exact hCG4.set (by rw [(by rw [cde_m (by omega) (by omega)]; omega : cde (o + 4) = 304)]; rfl) (by rw [(by rw [cde_m (by omega) (by omega)]; omega : cde (o + 4) = 304)]; exact (show -1 ≤ ((-1)) ∧ ((-1)) ≤ 239 from by omega))
        have hXG18 : KX G4 G18 := KX.set KX.rf eG18
        have hFG18 : WX (fun x => (o ≤ x ∧ x ≤ o + 8) ∨ x = o + 13 ∨ (o + 20 ≤ x ∧ x ≤ o + 24)) G G18 := WX.set hFG4 eG18 (by show _; omega)
        have hfG18 : WX (fun x => x = (o + 4) % 1048576) G4 G18 := WX.set WX.rf eG18 rfl
        have hIG18 : gS G18 o 9 = gS G4 o 9 := (congrFun (hfG18 o (KX.al hXG4 (kne kM (by decide))) rg1) 9).trans hIG4
        show WP kX3_shownInstance X 145 [some (2, ((o : Nat) : Int)), some (2, ((n : Nat) : Int)), some (0, d), some (0, rr5), some (0, rr5 * 10), none, none] [] G18
        refine s_iload_n dX3_shownInstance_145 rfl ?_
        exact s_iret hR dX3_shownInstance_146 rfl (hQ rr5 G18 hCG18 (KX.trans hXG4 hXG18) hFG18 (Or.inr ⟨by omega, (hMI1.sh ho eG18 (by omega)), (hLO1.sh ho eG18 (by omega))⟩))
      · -- 105 to 108
        refine s_aload_n dX3_shownInstance_108 rfl (Int.natCast_nonneg _) ?_
        have hk19 : gK G4 (o) = (12, 0) := ((hXG4).k kM (by decide))
        refine s_alv (o) (by simp) (fun (al20 : AL G4 o) => ?_)
        have hv21 : gS G4 o 4 = ((o + 4 : Nat) : Int) := by have h9 : (gS G4 o 4) = (((o % 1048576) + 4 : Nat) : Int) := hCG4.1.v (j := 4) (by rw [cde_m (by omega) (by omega)]; omega : cde o = 300) al20 (by rw [hk19]; exact Nat.le_of_ble_eq_true rfl); omega
        refine s_getf (ci := 4) (k := 4) (C := RX3) (T := TX3) (N := 18) (n := o) (L := 0) (t := 2) dX3_shownInstance_109 rfl wi_71 m_608 (Nat.le_of_ble_eq_true rfl) rfl rfl hk19 hv21 ?_
        refine s_iload dX3_shownInstance_112 rfl ?_
        refine s_aload_n dX3_shownInstance_114 rfl (Int.natCast_nonneg _) ?_
        have hv22 : -1 ≤ (gS G4 n 4) ∧ (gS G4 n 4) ≤ 9 := hCG4.1.v (j := 4) (by rw [cde_n (by omega) (by omega)]; omega : cde n = 100) al9 (by rw [hk7]; exact Nat.le_of_ble_eq_true rfl)
        refine s_getf (ci := 5) (k := 4) (C := RX4) (T := TX4) (N := 14) (n := n) (L := 0) (t := 0) dX3_shownInstance_115 rfl wi_72 m_599 (Nat.le_of_ble_eq_true rfl) rfl rfl hk7 rfl ?_
        refine s_iadd dX3_shownInstance_118 (by omega) ?_
        have m1 := hMI1 (rr5 * 10 + gS G4 n 3) (by omega) (by omega)
        refine s_aload_n dX3_shownInstance_119 rfl (Int.natCast_nonneg _) ?_
        have hv23 : gS G4 o 4 = ((o + 4 : Nat) : Int) := by have h9 : (gS G4 o 4) = (((o % 1048576) + 4 : Nat) : Int) := hCG4.1.v (j := 4) (by rw [cde_m (by omega) (by omega)]; omega : cde o = 300) al20 (by rw [hk19]; exact Nat.le_of_ble_eq_true rfl); omega
        refine s_getf (ci := 4) (k := 4) (C := RX3) (T := TX3) (N := 18) (n := o) (L := 0) (t := 2) dX3_shownInstance_120 rfl wi_71 m_608 (Nat.le_of_ble_eq_true rfl) rfl rfl hk19 hv23 ?_
        refine s_iload dX3_shownInstance_123 rfl ?_
        refine s_aload_n dX3_shownInstance_125 rfl (Int.natCast_nonneg _) ?_
        have hv24 : 0 ≤ (gS G4 n 3) ∧ (gS G4 n 3) ≤ 9 := hCG4.1.v (j := 3) (by rw [cde_n (by omega) (by omega)]; omega : cde n = 100) al9 (by rw [hk7]; exact Nat.le_of_ble_eq_true rfl)
        refine s_getf (ci := 5) (k := 3) (C := RX4) (T := TX4) (N := 14) (n := n) (L := 0) (t := 0) dX3_shownInstance_126 rfl wi_72 m_600 (Nat.le_of_ble_eq_true rfl) rfl rfl hk7 rfl ?_
        refine s_iadd dX3_shownInstance_129 (by omega) ?_
        have hk25 : gK G4 (o + 4) = (1, 240) := ((hXG4).k kM4 (by decide))
        refine s_alv (o + 4) (by simp) (fun (al26 : AL G4 (o + 4)) => ?_)
        have hv27 : -1 ≤ (gS G4 (o + 4) ((rr5 * 10) + (gS G4 n 3) : Int).toNat) ∧ (gS G4 (o + 4) ((rr5 * 10) + (gS G4 n 3) : Int).toNat) ≤ 239 := hCG4.1.v (j := ((rr5 * 10) + (gS G4 n 3) : Int).toNat) (by rw [cde_m (by omega) (by omega)]; omega : cde (o + 4) = 304) al26 (by rw [hk25]; show ((rr5 * 10) + (gS G4 n 3) : Int).toNat < 240; omega)
        refine s_iald dX3_shownInstance_130 hk25 (by omega) (by omega) rfl ?_
        refine s_iast dX3_shownInstance_131 hk25 (by omega) (by omega) ?_
        generalize eG28r : gset G4 (o + 4) (((rr5 * 10) + (gS G4 n 4) : Int).toNat) (gS G4 (o + 4) (((rr5 * 10) + (gS G4 n 3) : Int).toNat)) = G28
        have eG28 := eG28r.symm
        have hCG28 : CI a b G28 := by rw [eG28]; exact hCG4.set (by rw [(by rw [cde_m (by omega) (by omega)]; omega : cde (o + 4) = 304)]; rfl) (by rw [(by rw [cde_m (by omega) (by omega)]; omega : cde (o + 4) = 304)]; exact (show -1 ≤ (gS G4 (o + 4) (((rr5 * 10) + (gS G4 n 3) : Int).toNat)) ∧ (gS G4 (o + 4) (((rr5 * 10) + (gS G4 n 3) : Int).toNat)) ≤ 239 from by omega))
        have hXG28 : KX G4 G28 := KX.set KX.rf eG28
        have hFG28 : WX (fun x => (o ≤ x ∧ x ≤ o + 8) ∨ x = o + 13 ∨ (o + 20 ≤ x ∧ x ≤ o + 24)) G G28 := WX.set hFG4 eG28 (by show _; omega)
        have hfG28 : WX (fun x => x = (o + 4) % 1048576) G4 G28 := WX.set WX.rf eG28 rfl
        have hIG28 : gS G28 o 9 = gS G4 o 9 := (congrFun (hfG28 o (KX.al hXG4 (kne kM (by decide))) rg1) 9).trans hIG4
        show WP kX3_shownInstance X 132 [some (2, ((o : Nat) : Int)), some (2, ((n : Nat) : Int)), some (0, d), some (0, rr5), some (0, rr5 * 10), none, none] [] G28
        refine s_aload_n dX3_shownInstance_132 rfl (Int.natCast_nonneg _) ?_
        have hk29 : gK G28 (o) = (12, 0) := ((hXG28).k hk19 (by decide))
        refine s_alv (o) (by simp) (fun (al30 : AL G28 o) => ?_)
        have hv31 : gS G28 o 4 = ((o + 4 : Nat) : Int) := by have h9 : (gS G28 o 4) = (((o % 1048576) + 4 : Nat) : Int) := hCG28.1.v (j := 4) (by rw [cde_m (by omega) (by omega)]; omega : cde o = 300) al30 (by rw [hk29]; exact Nat.le_of_ble_eq_true rfl); omega
        refine s_getf (ci := 4) (k := 4) (C := RX3) (T := TX3) (N := 18) (n := o) (L := 0) (t := 2) dX3_shownInstance_133 rfl wi_71 m_608 (Nat.le_of_ble_eq_true rfl) rfl rfl hk29 hv31 ?_
        refine s_iload dX3_shownInstance_136 rfl ?_
        refine s_aload_n dX3_shownInstance_138 rfl (Int.natCast_nonneg _) ?_
        have hk32 : gK G28 (n) = (13, 0) := ((hXG28).k hk7 (by decide))
        refine s_alv (n) (by simp) (fun (al34 : AL G28 n) => ?_)
        have hv33 : 0 ≤ (gS G28 n 3) ∧ (gS G28 n 3) ≤ 9 := hCG28.1.v (j := 3) (by rw [cde_n (by omega) (by omega)]; omega : cde n = 100) al34 (by rw [hk32]; exact Nat.le_of_ble_eq_true rfl)
        refine s_getf (ci := 5) (k := 3) (C := RX4) (T := TX4) (N := 14) (n := n) (L := 0) (t := 0) dX3_shownInstance_139 rfl wi_72 m_600 (Nat.le_of_ble_eq_true rfl) rfl rfl hk32 rfl ?_
        refine s_iadd dX3_shownInstance_142 (by omega) ?_
        refine s_iconst dX3_shownInstance_143 (by decide) ?_
        have hk35 : gK G28 (o + 4) = (1, 240) := ((hXG28).k hk25 (by decide))
        refine s_iast dX3_shownInstance_144 hk35 (by omega) (by omega) ?_
        generalize eG36r : gset G28 (o + 4) (((rr5 * 10) + (gS G28 n 3) : Int).toNat) ((-1)) = G36
        have eG36 := eG36r.symm
        have hCG36 : CI a b G36 := by rw [eG36]; exact hCG28.set (by rw [(by rw [cde_m (by omega) (by omega)]; omega : cde (o + 4) = 304)]; rfl) (by rw [(by rw [cde_m (by omega) (by omega)]; omega : cde (o + 4) = 304)]; exact (show -1 ≤ ((-1)) ∧ ((-1)) ≤ 239 from by omega))
        have hXG36 : KX G28 G36 := KX.set KX.rf eG36
        have hFG36 : WX (fun x => (o ≤ x ∧ x ≤ o + 8) ∨ x = o + 13 ∨ (o + 20 ≤ x ∧ x ≤ o + 24)) G G36 := WX.set hFG28 eG36 (by show _; omega)
        have hfG36 : WX (fun x => x = (o + 4) % 1048576) G28 G36 := WX.set WX.rf eG36 rfl
        have hIG36 : gS G36 o 9 = gS G4 o 9 := (congrFun (hfG36 o (KX.al (KX.trans hXG4 hXG28) (kne kM (by decide))) rg1) 9).trans hIG28
        show WP kX3_shownInstance X 145 [some (2, ((o : Nat) : Int)), some (2, ((n : Nat) : Int)), some (0, d), some (0, rr5), some (0, rr5 * 10), none, none] [] G36
        refine s_iload_n dX3_shownInstance_145 rfl ?_
        exact s_iret hR dX3_shownInstance_146 rfl (hQ rr5 G36 hCG36 (KX.trans (KX.trans hXG4 hXG28) hXG36) hFG36 (Or.inr ⟨by omega, ((hMI1.sh ho eG28 (by omega)).sh ho eG36 (by omega)), ((hLO1.sh ho eG28 (by omega)).sh ho eG36 (by omega))⟩))
    · -- 31 to 34
      obtain ⟨x1, hx1⟩ : ∃ x : Nat, x = 65536 + 64 * ptC G i 1 := ⟨_, rfl⟩
      obtain ⟨hq1, hl1⟩ := hpt 1 (npt_1 (by omega))
      rw [← hx1] at hq1
      have hn1 : isNd x1 := by omega
      have hq1G4 : gS G4 pa 1 = ((x1 : Nat) : Int) := by rw [hprG4]; exact hq1
      refine s_aload_n dX3_shownInstance_34 rfl (Int.natCast_nonneg _) ?_
      refine s_getf (ci := 5) (k := 2) (C := RX4) (T := TX4) (N := 14) (n := n) (L := 0) (t := 2) dX3_shownInstance_35 rfl wi_72 m_596 (Nat.le_of_ble_eq_true rfl) rfl rfl hk7 hpaG4 ?_
      refine s_iconst dX3_shownInstance_38 (by decide) ?_
      have hk38 : gK G4 (pa) = (6, npt (gS G n 1)) := ((hXG4).k hkp (by decide))
      refine s_alv (pa) (by simp) (fun (al39 : AL G4 pa) => ?_)
      refine s_aald6 dX3_shownInstance_39 hk38 (by omega) (by omega) hq1G4 ?_
      refine s_alv (x1) (by simp) (fun (al42 : AL G4 x1) => ?_)
      have hk43 : gK G4 (x1) = (13, 0) := hCG4.1.k (by rw [cde_n (by omega) (by omega)]; omega : cde x1 = 100) al42
      have hv44 : gS G4 x1 7 = ((x1 + 1 : Nat) : Int) := by have h9 : (gS G4 x1 7) = (((x1 % 1048576) + 1 : Nat) : Int) := hCG4.1.v (j := 7) (by rw [cde_n (by omega) (by omega)]; omega : cde x1 = 100) al42 (by rw [hk43]; exact Nat.le_of_ble_eq_true rfl); omega
      refine s_getf (ci := 5) (k := 7) (C := RX4) (T := TX4) (N := 14) (n := x1) (L := 0) (t := 2) dX3_shownInstance_40 rfl wi_72 m_597 (Nat.le_of_ble_eq_true rfl) rfl rfl hk43 hv44 ?_
      refine s_alv (x1 + 1) (by simp) (fun (al47 : AL G4 (x1 + 1)) => ?_)
      have hk48 : gK G4 (x1 + 1) = (9, 0) := hCG4.1.k (by rw [cde_n (by omega) (by omega)]; omega : cde (x1 + 1) = 101) al47
      refine s_callV (as := []) (rest := []) (n := x1 + 1) (ci := 1) gX0_valueNames dX3_shownInstance_43 m_1359 m_753 m_1486 m_711 m_80 ⟨by decide, by decide, show (parseMethodDescriptor yX0_valueNames.desc).map (fun d => d.parameters.length) = some 0 from by decide +kernel⟩ (Nat.le_of_ble_eq_true rfl) (by rw [hcf]; omega) hk48 rfl rfl (Nat.le_of_ble_eq_true rfl) ⟨x1 + 1, a, b, rfl, hCG4, hab, (by first | assumption | omega), fun rr45 hp46 => ?_⟩
      show WP kX3_shownInstance X 46 [some (2, ((o : Nat) : Int)), some (2, ((n : Nat) : Int)), some (0, d), some (0, rr5), some (0, rr5 * 10), none, none] [(0, rr45)] G4
      refine s_istore dX3_shownInstance_46 (by decide) (lv' := [some (2, ((o : Nat) : Int)), some (2, ((n : Nat) : Int)), some (0, d), some (0, rr5), some (0, rr5 * 10), some (0, rr45), none]) rfl ?_
      refine s_iconst dX3_shownInstance_48 (by decide) ?_
      refine s_istore dX3_shownInstance_49 (by decide) (lv' := [some (2, ((o : Nat) : Int)), some (2, ((n : Nat) : Int)), some (0, d), some (0, rr5), some (0, rr5 * 10), some (0, rr45), some (0, 0)]) rfl ?_
      have L49 : ∀ (n49 : Nat) (k49 : Int) (G49 : LG), CI a b G49 → KX G4 G49 → WX (fun x => (o ≤ x ∧ x ≤ o + 8) ∨ x = o + 13 ∨ (o + 20 ≤ x ∧ x ≤ o + 24)) G G49 → ((0 ≤ k49 ∧ k49 ≤ 10) ∧ (MI G49 o (gS G o 9)) ∧ (LO G G49 o (10 * gS G o 9)) ∧ (gS G49 o 9 = gS G4 o 9)) → (10 - k49).toNat < n49 → WP kX3_shownInstance X 51 [some (2, ((o : Nat) : Int)), some (2, ((n : Nat) : Int)), some (0, d), some (0, rr5), some (0, rr5 * 10), some (0, rr45), some (0, k49)] [] G49 := by
        intro n49
        induction n49 with
        | zero => intro k49 G49 hCG49 hXG49 hFG49 hi49 hm49; exact absurd hm49 (Nat.not_lt_zero _)
        | succ n49 ih49 =>
          intro k49 G49 hCG49 hXG49 hFG49 hi49 hm49
          obtain ⟨ik49, iM49, iL49, hIG49⟩ := hi49
          refine s_iload dX3_shownInstance_51 rfl ?_
          refine s_bipush dX3_shownInstance_53 rfl (by decide) ?_
          refine s_icmp_ge (tgt := 98) dX3_shownInstance_55 (by decide) (fun c50 => ?_) (fun c50 => ?_)
          · -- 55 to 98
            refine s_iload_n dX3_shownInstance_98 rfl ?_
            exact s_iret hR dX3_shownInstance_99 rfl (hQ rr5 G49 hCG49 (KX.trans hXG4 hXG49) hFG49 (Or.inr ⟨by omega, iM49, iL49⟩))
          · -- 55 to 58
            have m1 := iM49 (rr5 * 10 + k49) (by omega) (by omega)
            refine s_aload_n dX3_shownInstance_58 rfl (Int.natCast_nonneg _) ?_
            have hk51 : gK G49 (o) = (12, 0) := ((hXG49).k ((hXG4).k kM (by decide)) (by decide))
            refine s_alv (o) (by simp) (fun (al52 : AL G49 o) => ?_)
            have hv53 : gS G49 o 4 = ((o + 4 : Nat) : Int) := by have h9 : (gS G49 o 4) = (((o % 1048576) + 4 : Nat) : Int) := hCG49.1.v (j := 4) (by rw [cde_m (by omega) (by omega)]; omega : cde o = 300) al52 (by rw [hk51]; exact Nat.le_of_ble_eq_true rfl); omega
            refine s_getf (ci := 4) (k := 4) (C := RX3) (T := TX3) (N := 18) (n := o) (L := 0) (t := 2) dX3_shownInstance_59 rfl wi_71 m_608 (Nat.le_of_ble_eq_true rfl) rfl rfl hk51 hv53 ?_
            refine s_iload dX3_shownInstance_62 rfl ?_
            refine s_iload dX3_shownInstance_64 rfl ?_
            refine s_iadd dX3_shownInstance_66 (by omega) ?_
            refine s_iload dX3_shownInstance_67 rfl ?_
            refine s_iload dX3_shownInstance_69 rfl ?_
            refine s_callSN (own := RX3) rfl (by decide +kernel) (as := [(0, rr45), (0, k49)]) (rest := [(0, (rr5 * 10) + k49), (2, ((o + 4 : Nat) : Int))]) gX11_isIn dX3_shownInstance_71 m_1777 m_714 m_97 ⟨by decide, by decide, show (parseMethodDescriptor yX11_isIn.desc).map (fun d => d.parameters.length) = some 2 from by decide +kernel⟩ (Nat.le_of_ble_eq_true rfl) (by rw [hcf]; omega) rfl (Nat.le_of_ble_eq_true rfl) ⟨rr45, k49, rfl, fun rr54 hp55 => ?_⟩
            show WP kX3_shownInstance X 74 [some (2, ((o : Nat) : Int)), some (2, ((n : Nat) : Int)), some (0, d), some (0, rr5), some (0, rr5 * 10), some (0, rr45), some (0, k49)] [(0, rr54), (0, (rr5 * 10) + k49), (2, ((o + 4 : Nat) : Int))] G49
            have J61 : ∀ z60 : Int, ((rr54 = 0) ∧ z60 = (-1)) ∨ ((¬ rr54 = 0) ∧ z60 = gS G49 (o + 4) (((rr5 * 10) + k49 : Int).toNat)) → WP kX3_shownInstance X 91 [some (2, ((o : Nat) : Int)), some (2, ((n : Nat) : Int)), some (0, d), some (0, rr5), some (0, rr5 * 10), some (0, rr45), some (0, k49)] [(0, z60), (0, (rr5 * 10) + k49), (2, ((o + 4 : Nat) : Int))] G49 := by
              intro z60 hz60
              have hk62 : gK G49 (o + 4) = (1, 240) := ((hXG49).k ((hXG4).k kM4 (by decide)) (by decide))
              refine s_iast dX3_shownInstance_91 hk62 (by omega) (by omega) ?_
              generalize eG63r : gset G49 (o + 4) (((rr5 * 10) + k49 : Int).toNat) z60 = G63
              have eG63 := eG63r.symm
              have hCG63 : CI a b G63 := by rw [eG63]; exact hCG49.set (by rw [(by rw [cde_m (by omega) (by omega)]; omega : cde (o + 4) = 304)]; rfl) (by rw [(by rw [cde_m (by omega) (by omega)]; omega : cde (o + 4) = 304)]; exact (show -1 ≤ z60 ∧ z60 ≤ 239 from by omega))
              have hXG63 : KX G49 G63 := KX.set KX.rf eG63
              have hFG63 : WX (fun x => (o ≤ x ∧ x ≤ o + 8) ∨ x = o + 13 ∨ (o + 20 ≤ x ∧ x ≤ o + 24)) G G63 := WX.set hFG49 eG63 (by show _; omega)
              have hfG63 : WX (fun x => x = (o + 4) % 1048576) G49 G63 := WX.set WX.rf eG63 rfl
              have hIG63 : gS G63 o 9 = gS G4 o 9 := (congrFun (hfG63 o (KX.al (KX.trans hXG4 hXG49) (kne kM (by decide))) rg1) 9).trans hIG49
              show WP kX3_shownInstance X 92 [some (2, ((o : Nat) : Int)), some (2, ((n : Nat) : Int)), some (0, d), some (0, rr5), some (0, rr5 * 10), some (0, rr45), some (0, k49)] [] G63
              refine s_iinc dX3_shownInstance_92 (v := k49) rfl (by omega) (by decide) (lv' := [some (2, ((o : Nat) : Int)), some (2, ((n : Nat) : Int)), some (0, d), some (0, rr5), some (0, rr5 * 10), some (0, rr45), some (0, k49 + 1)]) rfl ?_
              refine s_goto (tgt := 51) dX3_shownInstance_95 (by decide) ?_
              exact ih49 (k49 + 1) G63 hCG63 (KX.trans hXG49 hXG63) hFG63 (⟨(by omega), (by exact iM49.sh ho eG63 (by omega)), (by exact iL49.sh ho eG63 (by omega)), (by exact hIG63)⟩) (by omega)
            refine s_if_eq (tgt := 90) dX3_shownInstance_74 (by decide) (fun c64 => ?_) (fun c64 => ?_)
            · -- 74 to 90
              refine s_iconst dX3_shownInstance_90 (by decide) ?_
              exact J61 ((-1)) (Or.inl ⟨c64, rfl⟩)
            · -- 74 to 77
              refine s_aload_n dX3_shownInstance_77 rfl (Int.natCast_nonneg _) ?_
              have hv65 : gS G49 o 4 = ((o + 4 : Nat) : Int) := by have h9 : (gS G49 o 4) = (((o % 1048576) + 4 : Nat) : Int) := hCG49.1.v (j := 4) (by rw [cde_m (by omega) (by omega)]; omega : cde o = 300) al52 (by rw [hk51]; exact Nat.le_of_ble_eq_true rfl); omega
              refine s_getf (ci := 4) (k := 4) (C := RX3) (T := TX3) (N := 18) (n := o) (L := 0) (t := 2) dX3_shownInstance_78 rfl wi_71 m_608 (Nat.le_of_ble_eq_true rfl) rfl rfl hk51 hv65 ?_
              refine s_iload dX3_shownInstance_81 rfl ?_
              refine s_iload dX3_shownInstance_83 rfl ?_
              refine s_iadd dX3_shownInstance_85 (by omega) ?_
              refine s_alv (o + 4) (by simp) (fun (al66 : AL G49 (o + 4)) => ?_)
              have hv67 : -1 ≤ (gS G49 (o + 4) ((rr5 * 10) + k49 : Int).toNat) ∧ (gS G49 (o + 4) ((rr5 * 10) + k49 : Int).toNat) ≤ 239 := hCG49.1.v (j := ((rr5 * 10) + k49 : Int).toNat) (by rw [cde_m (by omega) (by omega)]; omega : cde (o + 4) = 304) al66 (by rw [hk62]; show ((rr5 * 10) + k49 : Int).toNat < 240; omega)
              refine s_iald dX3_shownInstance_86 hk62 (by omega) (by omega) rfl ?_
              refine s_goto (tgt := 91) dX3_shownInstance_87 (by decide) ?_
              exact J61 _ (Or.inr (⟨c64, rfl⟩))
      exact L49 _ 0 G4 hCG4 KX.rf hFG4 (⟨(by omega), (by exact hMI1), (by exact hLO1), (by exact hIG4)⟩) (Nat.lt_succ_self _)
  · -- 15 to 18
    refine s_iconst dX3_shownInstance_18 (by decide) ?_
    exact s_iret hR dX3_shownInstance_19 rfl (hQ ((-1)) G4 hCG4 hXG4 hFG4 (Or.inl rfl))

set_option maxHeartbeats 4000000 in
set_option maxRecDepth 100000 in
theorem gX3_instance_s (m : Nat) (ih : Good kX3_instance yX3_instance (4 * m + 80) (TX3_instance m)) : Good kX3_instance yX3_instance (4 * (m + 1) + 80) (TX3_instance (m + 1)) := by
  refine good_of (by decide) rfl rfl (fun as G Qr h => ?_) (fun X as G Qr hcf hR hT oa => ?_)
  · obtain ⟨o, n, i, d, a, b, rfl, -⟩ := h; exact Nat.le_of_ble_eq_true rfl
  obtain ⟨o, n, i, d, a, b, rfl, hC, hab, ho, hni, hnn, hd, hQ⟩ := hT
  show WP kX3_instance X 0 [some (2, ((o : Nat) : Int)), some (2, ((n : Nat) : Int)), some (0, d)] [] G
  have hr_d : inR d := okv_R (oa _ (by simp))
  have rg0 : RM (fun x => x = o) (fun x => (o ≤ x ∧ x ≤ o + 8) ∨ x = o + 13 ∨ (o + 20 ≤ x ∧ x ≤ o + 24)) := fun x hx => by (try dsimp only at hx ⊢); omega
  have rg1 : RM (fun x => (o ≤ x ∧ x ≤ o + 8) ∨ x = o + 13 ∨ (o + 20 ≤ x ∧ x ≤ o + 24)) (fun x => (o ≤ x ∧ x ≤ o + 8) ∨ x = o + 13 ∨ (o + 20 ≤ x ∧ x ≤ o + 24)) := fun x hx => by (try dsimp only at hx ⊢); omega
  have rg2 : RM (fun x => x = o ∨ (o + 1 ≤ x ∧ x ≤ o + 4) ∨ x = o + 7) (fun x => (o ≤ x ∧ x ≤ o + 8) ∨ x = o + 13 ∨ (o + 20 ≤ x ∧ x ≤ o + 24)) := fun x hx => by (try dsimp only at hx ⊢); omega
  refine s_alvl o (k := 0) rfl (fun alo => ?_)
  refine s_lk (fun hlk => ?_)
  have hmn := hlk.mna hC ho alo
  obtain ⟨kM, kM1, kM2, kM3, kM4, kM5, kM6, kM7, kM8, kM13, kM15, kM20, kMp, kMp5, kMp6, kMp7, kMp8, kMp9, kMp10, kMp13, kMp14, kMp16⟩ := id hmn
  have hin : 0 ≤ gS G o 9 ∧ gS G o 9 ≤ 24 := hC.1.v (c := 300) (j := 9) (by rcases ho with rfl | rfl <;> decide) alo (by rw [kM]; exact Nat.le_of_ble_eq_true rfl)
  obtain ⟨hn40, hkn, pa, hpa, hpm, hpc, hkp, hpt, hu6, hr4⟩ := hC.nd hni hnn
  have hn : isNd n := by omega
  have hti1 : 0 ≤ gS G n 1 ∧ gS G n 1 ≤ 6 := hC.1.v (c := 100) (j := 1) (by rw [cde_n (by omega) (by omega)]; omega) (kne hkn (by decide)) (by rw [hkn]; exact Nat.le_of_ble_eq_true rfl)
  have hti3 : 0 ≤ gS G n 3 ∧ gS G n 3 ≤ 9 := hC.1.v (c := 100) (j := 3) (by rw [cde_n (by omega) (by omega)]; omega) (kne hkn (by decide)) (by rw [hkn]; exact Nat.le_of_ble_eq_true rfl)
  have hti4 : -1 ≤ gS G n 4 ∧ gS G n 4 ≤ 9 := hC.1.v (c := 100) (j := 4) (by rw [cde_n (by omega) (by omega)]; omega) (kne hkn (by decide)) (by rw [hkn]; exact Nat.le_of_ble_eq_true rfl)
  refine s_iload_n dX3_instance_0 rfl ?_
  refine s_bipush dX3_instance_1 rfl (by decide) ?_
  refine s_icmp_gt (tgt := 15) dX3_instance_3 (by decide) (fun c1 => ?_) (fun c1 => ?_)
  · -- 3 to 15
    refine s_aload_n dX3_instance_15 rfl (Int.natCast_nonneg _) ?_
    refine s_bipush dX3_instance_16 rfl (by decide) ?_
    refine s_callV (as := [(0, 8)]) (rest := []) (n := o) (ci := 4) gX3_fail dX3_instance_18 m_1384 m_947 m_1675 m_717 m_295 ⟨by decide, by decide, show (parseMethodDescriptor yX3_fail.desc).map (fun d => d.parameters.length) = some 1 from by decide +kernel⟩ (Nat.le_of_ble_eq_true rfl) (by rw [hcf]; omega) kM rfl rfl (Nat.le_of_ble_eq_true rfl) ⟨o, 8, a, b, rfl, hC, hab, (by assumption), fun rr3 G2 hCG2 hXG2 hfG2 hpG2 => ?_⟩
    have hFG2 : WX (fun x => (o ≤ x ∧ x ≤ o + 8) ∨ x = o + 13 ∨ (o + 20 ≤ x ∧ x ≤ o + 24)) G G2 := WX.trans WX.rf KX.rf (WX.mono hfG2 rg0)
    show WP kX3_instance X 21 [some (2, ((o : Nat) : Int)), some (2, ((n : Nat) : Int)), some (0, d)] [(0, rr3)] G2
    exact s_iret hR dX3_instance_21 rfl (hQ rr3 G2 hCG2 hXG2 hFG2 (Or.inl hpG2.1))
  · -- 3 to 6
    refine s_aload_n dX3_instance_6 rfl (Int.natCast_nonneg _) ?_
    have hv4 : 0 ≤ (gS G o 9) ∧ (gS G o 9) ≤ 24 := hC.1.v (j := 9) (by rw [cde_m (by omega) (by omega)]; omega : cde o = 300) (kne kM (by decide)) (by rw [kM]; exact Nat.le_of_ble_eq_true rfl)
    refine s_getf (ci := 4) (k := 9) (C := RX3) (T := TX3) (N := 18) (n := o) (L := 0) (t := 0) dX3_instance_7 rfl wi_71 m_622 (Nat.le_of_ble_eq_true rfl) rfl rfl kM rfl ?_
    refine s_bipush dX3_instance_10 rfl (by decide) ?_
    refine s_icmp_lt (tgt := 22) dX3_instance_12 (by decide) (fun c5 => ?_) (fun c5 => ?_)
    · -- 12 to 22
      refine s_aload_n dX3_instance_22 rfl (Int.natCast_nonneg _) ?_
      have hv6 : 0 ≤ (gS G n 1) ∧ (gS G n 1) ≤ 6 := hC.1.v (j := 1) (by rw [cde_n (by omega) (by omega)]; omega : cde n = 100) (kne hkn (by decide)) (by rw [hkn]; exact Nat.le_of_ble_eq_true rfl)
      refine s_getf (ci := 5) (k := 1) (C := RX4) (T := TX4) (N := 14) (n := n) (L := 0) (t := 0) dX3_instance_23 rfl wi_72 m_624 (Nat.le_of_ble_eq_true rfl) rfl rfl hkn rfl ?_
      by_cases c7_0 : (gS G n 1) = 0
      · -- case 0
        refine s_tableIn (tgt := 88) (off := 62) dX3_instance_26 (by omega) (by omega) (by rw [c7_0]; rfl) (by decide) ?_
        refine s_aload_n dX3_instance_88 rfl (Int.natCast_nonneg _) ?_
        refine s_aload_n dX3_instance_89 rfl (Int.natCast_nonneg _) ?_
        refine s_iload_n dX3_instance_90 rfl ?_
        refine s_callV (as := [(2, ((n : Nat) : Int)), (0, d)]) (rest := []) (n := o) (ci := 4) (gX3_linkInstance m ih) dX3_instance_91 m_1350 m_958 m_1685 m_717 m_306 ⟨by decide, by decide, show (parseMethodDescriptor yX3_linkInstance.desc).map (fun d => d.parameters.length) = some 2 from by decide +kernel⟩ (Nat.le_of_ble_eq_true rfl) (by rw [hcf]; omega) kM rfl rfl (Nat.le_of_ble_eq_true rfl) ⟨o, n, i, d, a, b, rfl, hC, hab, (by assumption), (by assumption), (by assumption), (by omega), (by omega), fun rr9 G8 hCG8 hXG8 hfG8 hpG8 => ?_⟩
        have hFG8 : WX (fun x => (o ≤ x ∧ x ≤ o + 8) ∨ x = o + 13 ∨ (o + 20 ≤ x ∧ x ≤ o + 24)) G G8 := WX.trans WX.rf KX.rf (WX.mono hfG8 rg1)
        show WP kX3_instance X 94 [some (2, ((o : Nat) : Int)), some (2, ((n : Nat) : Int)), some (0, d)] [(0, rr9)] G8
        exact s_iret hR dX3_instance_94 rfl (hQ rr9 G8 hCG8 hXG8 hFG8 hpG8)
      by_cases c7_1 : (gS G n 1) = 1
      · -- case 1
        refine s_tableIn (tgt := 95) (off := 69) dX3_instance_26 (by omega) (by omega) (by rw [c7_1]; rfl) (by decide) ?_
        refine s_aload_n dX3_instance_95 rfl (Int.natCast_nonneg _) ?_
        refine s_aload_n dX3_instance_96 rfl (Int.natCast_nonneg _) ?_
        refine s_iload_n dX3_instance_97 rfl ?_
        refine s_callV (as := [(2, ((n : Nat) : Int)), (0, d)]) (rest := []) (n := o) (ci := 4) (gX3_shownInstance m ih) dX3_instance_98 m_1351 m_965 m_1692 m_717 m_313 ⟨by decide, by decide, show (parseMethodDescriptor yX3_shownInstance.desc).map (fun d => d.parameters.length) = some 2 from by decide +kernel⟩ (Nat.le_of_ble_eq_true rfl) (by rw [hcf]; omega) kM rfl rfl (Nat.le_of_ble_eq_true rfl) ⟨o, n, i, d, a, b, rfl, hC, hab, (by assumption), (by assumption), (by assumption), (by omega), (by omega), fun rr11 G10 hCG10 hXG10 hfG10 hpG10 => ?_⟩
        have hFG10 : WX (fun x => (o ≤ x ∧ x ≤ o + 8) ∨ x = o + 13 ∨ (o + 20 ≤ x ∧ x ≤ o + 24)) G G10 := WX.trans WX.rf KX.rf (WX.mono hfG10 rg1)
        show WP kX3_instance X 101 [some (2, ((o : Nat) : Int)), some (2, ((n : Nat) : Int)), some (0, d)] [(0, rr11)] G10
        exact s_iret hR dX3_instance_101 rfl (hQ rr11 G10 hCG10 hXG10 hFG10 hpG10)
      by_cases c7_2 : (gS G n 1) = 2
      · -- case 2
        refine s_tableIn (tgt := 88) (off := 62) dX3_instance_26 (by omega) (by omega) (by rw [c7_2]; rfl) (by decide) ?_
        refine s_aload_n dX3_instance_88 rfl (Int.natCast_nonneg _) ?_
        refine s_aload_n dX3_instance_89 rfl (Int.natCast_nonneg _) ?_
        refine s_iload_n dX3_instance_90 rfl ?_
        refine s_callV (as := [(2, ((n : Nat) : Int)), (0, d)]) (rest := []) (n := o) (ci := 4) (gX3_linkInstance m ih) dX3_instance_91 m_1350 m_958 m_1685 m_717 m_306 ⟨by decide, by decide, show (parseMethodDescriptor yX3_linkInstance.desc).map (fun d => d.parameters.length) = some 2 from by decide +kernel⟩ (Nat.le_of_ble_eq_true rfl) (by rw [hcf]; omega) kM rfl rfl (Nat.le_of_ble_eq_true rfl) ⟨o, n, i, d, a, b, rfl, hC, hab, (by assumption), (by assumption), (by assumption), (by omega), (by omega), fun rr13 G12 hCG12 hXG12 hfG12 hpG12 => ?_⟩
        have hFG12 : WX (fun x => (o ≤ x ∧ x ≤ o + 8) ∨ x = o + 13 ∨ (o + 20 ≤ x ∧ x ≤ o + 24)) G G12 := WX.trans WX.rf KX.rf (WX.mono hfG12 rg1)
        show WP kX3_instance X 94 [some (2, ((o : Nat) : Int)), some (2, ((n : Nat) : Int)), some (0, d)] [(0, rr13)] G12
        exact s_iret hR dX3_instance_94 rfl (hQ rr13 G12 hCG12 hXG12 hFG12 hpG12)
      by_cases c7_3 : (gS G n 1) = 3
      · -- case 3
        refine s_tableIn (tgt := 81) (off := 55) dX3_instance_26 (by omega) (by omega) (by rw [c7_3]; rfl) (by decide) ?_
        refine s_aload_n dX3_instance_81 rfl (Int.natCast_nonneg _) ?_
        refine s_aload_n dX3_instance_82 rfl (Int.natCast_nonneg _) ?_
        refine s_iload_n dX3_instance_83 rfl ?_
        refine s_callV (as := [(2, ((n : Nat) : Int)), (0, d)]) (rest := []) (n := o) (ci := 4) (gX3_choiceInstance m ih) dX3_instance_84 m_1349 m_938 m_1666 m_717 m_286 ⟨by decide, by decide, show (parseMethodDescriptor yX3_choiceInstance.desc).map (fun d => d.parameters.length) = some 2 from by decide +kernel⟩ (Nat.le_of_ble_eq_true rfl) (by rw [hcf]; omega) kM rfl rfl (Nat.le_of_ble_eq_true rfl) ⟨o, n, i, d, a, b, rfl, hC, hab, (by assumption), (by assumption), (by assumption), (by omega), (by omega), fun rr15 G14 hCG14 hXG14 hfG14 hpG14 => ?_⟩
        have hFG14 : WX (fun x => (o ≤ x ∧ x ≤ o + 8) ∨ x = o + 13 ∨ (o + 20 ≤ x ∧ x ≤ o + 24)) G G14 := WX.trans WX.rf KX.rf (WX.mono hfG14 rg1)
        show WP kX3_instance X 87 [some (2, ((o : Nat) : Int)), some (2, ((n : Nat) : Int)), some (0, d)] [(0, rr15)] G14
        exact s_iret hR dX3_instance_87 rfl (hQ rr15 G14 hCG14 hXG14 hFG14 hpG14)
      by_cases c7_4 : (gS G n 1) = 4
      · -- case 4
        refine s_tableIn (tgt := 95) (off := 69) dX3_instance_26 (by omega) (by omega) (by rw [c7_4]; rfl) (by decide) ?_
        refine s_aload_n dX3_instance_95 rfl (Int.natCast_nonneg _) ?_
        refine s_aload_n dX3_instance_96 rfl (Int.natCast_nonneg _) ?_
        refine s_iload_n dX3_instance_97 rfl ?_
        refine s_callV (as := [(2, ((n : Nat) : Int)), (0, d)]) (rest := []) (n := o) (ci := 4) (gX3_shownInstance m ih) dX3_instance_98 m_1351 m_965 m_1692 m_717 m_313 ⟨by decide, by decide, show (parseMethodDescriptor yX3_shownInstance.desc).map (fun d => d.parameters.length) = some 2 from by decide +kernel⟩ (Nat.le_of_ble_eq_true rfl) (by rw [hcf]; omega) kM rfl rfl (Nat.le_of_ble_eq_true rfl) ⟨o, n, i, d, a, b, rfl, hC, hab, (by assumption), (by assumption), (by assumption), (by omega), (by omega), fun rr17 G16 hCG16 hXG16 hfG16 hpG16 => ?_⟩
        have hFG16 : WX (fun x => (o ≤ x ∧ x ≤ o + 8) ∨ x = o + 13 ∨ (o + 20 ≤ x ∧ x ≤ o + 24)) G G16 := WX.trans WX.rf KX.rf (WX.mono hfG16 rg1)
        show WP kX3_instance X 101 [some (2, ((o : Nat) : Int)), some (2, ((n : Nat) : Int)), some (0, d)] [(0, rr17)] G16
        exact s_iret hR dX3_instance_101 rfl (hQ rr17 G16 hCG16 hXG16 hFG16 hpG16)
      by_cases c7_5 : (gS G n 1) = 5
      · -- case 5
        refine s_tableIn (tgt := 95) (off := 69) dX3_instance_26 (by omega) (by omega) (by rw [c7_5]; rfl) (by decide) ?_
        refine s_aload_n dX3_instance_95 rfl (Int.natCast_nonneg _) ?_
        refine s_aload_n dX3_instance_96 rfl (Int.natCast_nonneg _) ?_
        refine s_iload_n dX3_instance_97 rfl ?_
        refine s_callV (as := [(2, ((n : Nat) : Int)), (0, d)]) (rest := []) (n := o) (ci := 4) (gX3_shownInstance m ih) dX3_instance_98 m_1351 m_965 m_1692 m_717 m_313 ⟨by decide, by decide, show (parseMethodDescriptor yX3_shownInstance.desc).map (fun d => d.parameters.length) = some 2 from by decide +kernel⟩ (Nat.le_of_ble_eq_true rfl) (by rw [hcf]; omega) kM rfl rfl (Nat.le_of_ble_eq_true rfl) ⟨o, n, i, d, a, b, rfl, hC, hab, (by assumption), (by assumption), (by assumption), (by omega), (by omega), fun rr19 G18 hCG18 hXG18 hfG18 hpG18 => ?_⟩
        have hFG18 : WX (fun x => (o ≤ x ∧ x ≤ o + 8) ∨ x = o + 13 ∨ (o + 20 ≤ x ∧ x ≤ o + 24)) G G18 := WX.trans WX.rf KX.rf (WX.mono hfG18 rg1)
        show WP kX3_instance X 101 [some (2, ((o : Nat) : Int)), some (2, ((n : Nat) : Int)), some (0, d)] [(0, rr19)] G18
        exact s_iret hR dX3_instance_101 rfl (hQ rr19 G18 hCG18 hXG18 hFG18 hpG18)
      by_cases c7_6 : (gS G n 1) = 6
      · -- case 6
        refine s_tableIn (tgt := 68) (off := 42) dX3_instance_26 (by omega) (by omega) (by rw [c7_6]; rfl) (by decide) ?_
        refine s_aload_n dX3_instance_68 rfl (Int.natCast_nonneg _) ?_
        refine s_aload_n dX3_instance_69 rfl (Int.natCast_nonneg _) ?_
        have hv20 : gS G o 0 = ((327681 : Nat) : Int) := by have h9 : (gS G o 0) = 327681 := hC.1.v (j := 0) (by rw [cde_m (by omega) (by omega)]; omega : cde o = 300) (kne kM (by decide)) (by rw [kM]; exact Nat.le_of_ble_eq_true rfl); omega
        refine s_getf (ci := 4) (k := 0) (C := RX3) (T := TX3) (N := 18) (n := o) (L := 0) (t := 2) dX3_instance_70 rfl wi_71 m_621 (Nat.le_of_ble_eq_true rfl) rfl rfl kM hv20 ?_
        refine s_aload_n dX3_instance_73 rfl (Int.natCast_nonneg _) ?_
        refine s_callV (as := [(2, ((n : Nat) : Int))]) (rest := [(2, ((o : Nat) : Int))]) (n := 327681) (ci := 6) gX5_versionOf dX3_instance_74 m_1388 m_984 m_1709 m_719 m_332 ⟨by decide, by decide, show (parseMethodDescriptor yX5_versionOf.desc).map (fun d => d.parameters.length) = some 1 from by decide +kernel⟩ (Nat.le_of_ble_eq_true rfl) (by rw [hcf]; omega) kMp rfl rfl (Nat.le_of_ble_eq_true rfl) ⟨n, a, b, rfl, hC, hab, (by omega), (by omega), (by have := hu6 (by omega); omega), (by have := hu6 (by omega); omega), (by have := hu6 (by omega); omega), (by have := hu6 (by omega); omega), fun rr21 hp22 => ?_⟩
        show WP kX3_instance X 77 [some (2, ((o : Nat) : Int)), some (2, ((n : Nat) : Int)), some (0, d)] [(2, ((rr21 : Nat) : Int)), (2, ((o : Nat) : Int))] G
        refine s_callV (as := [(2, ((rr21 : Nat) : Int))]) (rest := []) (n := o) (ci := 4) gX3_unitInstance dX3_instance_77 m_1348 m_968 m_1695 m_717 m_316 ⟨by decide, by decide, show (parseMethodDescriptor yX3_unitInstance.desc).map (fun d => d.parameters.length) = some 1 from by decide +kernel⟩ (Nat.le_of_ble_eq_true rfl) (by rw [hcf]; omega) kM rfl rfl (Nat.le_of_ble_eq_true rfl) ⟨o, rr21, a, b, rfl, hC, hab, (by assumption), (by omega), (by omega), fun rr24 G23 hCG23 hXG23 hfG23 hpG23 => ?_⟩
        have hFG23 : WX (fun x => (o ≤ x ∧ x ≤ o + 8) ∨ x = o + 13 ∨ (o + 20 ≤ x ∧ x ≤ o + 24)) G G23 := WX.trans WX.rf KX.rf (WX.mono hfG23 rg2)
        show WP kX3_instance X 80 [some (2, ((o : Nat) : Int)), some (2, ((n : Nat) : Int)), some (0, d)] [(0, rr24)] G23
        exact s_iret hR dX3_instance_80 rfl (hQ rr24 G23 hCG23 hXG23 hFG23 (Or.inr ⟨by omega, by rw [show gS G o 9 = gS G o 9 from rfl]; exact hpG23.2.2.1, hpG23.2.2.2⟩))
      exfalso; omega
    · -- 12 to 15
      refine s_aload_n dX3_instance_15 rfl (Int.natCast_nonneg _) ?_
      refine s_bipush dX3_instance_16 rfl (by decide) ?_
      refine s_callV (as := [(0, 8)]) (rest := []) (n := o) (ci := 4) gX3_fail dX3_instance_18 m_1384 m_947 m_1675 m_717 m_295 ⟨by decide, by decide, show (parseMethodDescriptor yX3_fail.desc).map (fun d => d.parameters.length) = some 1 from by decide +kernel⟩ (Nat.le_of_ble_eq_true rfl) (by rw [hcf]; omega) kM rfl rfl (Nat.le_of_ble_eq_true rfl) ⟨o, 8, a, b, rfl, hC, hab, (by assumption), fun rr26 G25 hCG25 hXG25 hfG25 hpG25 => ?_⟩
      have hFG25 : WX (fun x => (o ≤ x ∧ x ≤ o + 8) ∨ x = o + 13 ∨ (o + 20 ≤ x ∧ x ≤ o + 24)) G G25 := WX.trans WX.rf KX.rf (WX.mono hfG25 rg0)
      show WP kX3_instance X 21 [some (2, ((o : Nat) : Int)), some (2, ((n : Nat) : Int)), some (0, d)] [(0, rr26)] G25
      exact s_iret hR dX3_instance_21 rfl (hQ rr26 G25 hCG25 hXG25 hFG25 (Or.inl hpG25.1))

theorem gX3_instance0 : Good kX3_instance yX3_instance 80 (TX3_instance 0) := by
  refine good_of (by decide) rfl rfl (fun as G Qr h => ?_) (fun X as G Qr hcf hR hT oa => ?_)
  · obtain ⟨o, n, i, d, a, b, rfl, -⟩ := h; exact Nat.le_of_ble_eq_true rfl
  obtain ⟨o, n, i, d, a, b, rfl, hC, hab, ho, hni, hnn, hd, hQ⟩ := hT
  exfalso; omega
theorem gX3_instancem : ∀ m, Good kX3_instance yX3_instance (4 * m + 80) (TX3_instance m) := by
  intro m
  induction m with
  | zero => exact gX3_instance0
  | succ m ih => exact gX3_instance_s m ih
theorem gX3_runAloneT : Good kX3_runAlone yX3_runAlone 185 (TX3_runAlone 26) := gX3_runAlone 26 (gX3_instancem 26)
