abbrev kX5_addVersion : KD := (RX5, cX5_addVersion, 3, (some .int), [])
def TX5_addVersion : TR := fun as G Qr => ∃ (u : Int) (a b : Nat), as = [(2, ((327681 : Nat) : Int)), (0, u)] ∧ CI a b G ∧ (a ≤ 2840000 ∧ b ≤ 590000) ∧ (0 ≤ u ∧ u < 8) ∧ (0 ≤ gS G 327710 u.toNat ∧ gS G 327710 u.toNat < 5) ∧ (0 ≤ gS G 327681 17 ∧ gS G 327681 17 ≤ 1000000) ∧ ∀ (r : Int) (G' : LG), CI a b G' → KX G G' → WX (fun x => x = 327681 ∨ x = 327710 ∨ (131072 ≤ x ∧ x < 133632)) G G' → (r = gS G 327710 u.toNat ∧ gS G' 327710 u.toNat = gS G 327710 u.toNat + 1 ∧ (∀ j : Nat, j ≠ u.toNat → gS G' 327710 j = gS G 327710 j) ∧ gS G' 327681 17 = gS G 327681 17 + 1 ∧ ∀ j, j ≠ 17 → gS G' 327681 j = gS G 327681 j) → Qr (.inl (some (0, r))) G'
set_option maxHeartbeats 4000000 in
set_option maxRecDepth 100000 in
theorem gX5_addVersion : Good kX5_addVersion yX5_addVersion 2 TX5_addVersion := by
  refine good_of (by decide) rfl rfl (fun as G Qr h => ?_) (fun X as G Qr hcf hR hT oa => ?_)
  · obtain ⟨u, a, b, rfl, -⟩ := h; exact Nat.le_of_ble_eq_true rfl
  obtain ⟨u, a, b, rfl, hC, hab, hu, hv, hb9, hQ⟩ := hT
  show WP kX5_addVersion X 0 [some (2, ((327681 : Nat) : Int)), some (0, u), none] [] G
  have hr_u : inR u := okv_R (oa _ (by simp))
  refine s_alvl 327681 (k := 0) rfl (fun alp => ?_)
  have kp : gK G 327681 = (14, 0) := hC.1.k (c := 501) (by decide) alp
  have hc4 : 0 ≤ gS G 327681 4 ∧ gS G 327681 4 ≤ 60 := hC.1.v (c := 501) (j := 4) (by decide) alp (by rw [kp]; exact Nat.le_of_ble_eq_true rfl)
  have hc12 : 0 ≤ gS G 327681 12 ∧ gS G 327681 12 ≤ 120 := hC.1.v (c := 501) (j := 12) (by decide) alp (by rw [kp]; exact Nat.le_of_ble_eq_true rfl)
  refine s_alh (327681) 13 alp (by rw [kp]; exact Nat.le_of_ble_eq_true rfl) (by rw [kp]; rfl) (fun ap09x => ?_)
  have ap09v : gS G 327681 13 = ((327709 : Nat) : Int) := by have h9 : (gS G 327681 13) = 327709 := hC.1.v (j := 13) (by decide : cde 327681 = 501) alp (by rw [kp]; exact Nat.le_of_ble_eq_true rfl); omega
  have ap09 : (gK G (327709)).1 ≠ 0 := by have h9 := ap09x (by omega); rw [ap09v, Int.toNat_natCast] at h9; exact h9
  have ap09k : gK G (327709) = (5, 40) := hC.1.k (by decide : cde 327709 = 529) ap09
  refine s_alh (327681) 14 alp (by rw [kp]; exact Nat.le_of_ble_eq_true rfl) (by rw [kp]; rfl) (fun ap10x => ?_)
  have ap10v : gS G 327681 14 = ((327710 : Nat) : Int) := by have h9 : (gS G 327681 14) = 327710 := hC.1.v (j := 14) (by decide : cde 327681 = 501) alp (by rw [kp]; exact Nat.le_of_ble_eq_true rfl); omega
  have ap10 : (gK G (327710)).1 ≠ 0 := by have h9 := ap10x (by omega); rw [ap10v, Int.toNat_natCast] at h9; exact h9
  have ap10k : gK G (327710) = (1, 8) := hC.1.k (by decide : cde 327710 = 530) ap10
  refine s_aload_n dX5_addVersion_0 rfl (Int.natCast_nonneg _) ?_
  have hv1 : gS G 327681 14 = ((327710 : Nat) : Int) := by have h9 : (gS G 327681 14) = 327710 := hC.1.v (j := 14) (by decide : cde 327681 = 501) alp (by rw [kp]; exact Nat.le_of_ble_eq_true rfl); omega
  refine s_getf (ci := 6) (k := 14) (C := RX5) (T := TX5) (N := 18) (n := 327681) (L := 0) (t := 2) dX5_addVersion_1 rfl wi_73 m_655 (Nat.le_of_ble_eq_true rfl) rfl rfl kp hv1 ?_
  refine s_iload_n dX5_addVersion_4 rfl ?_
  have hv2 : 0 ≤ (gS G 327710 (u : Int).toNat) ∧ (gS G 327710 (u : Int).toNat) ≤ 5 := hC.1.v (j := (u : Int).toNat) (by decide : cde 327710 = 530) ap10 (by rw [ap10k]; show (u : Int).toNat < 8; omega)
  refine s_iald dX5_addVersion_5 ap10k (by omega) (by omega) rfl ?_
  refine s_istore_n dX5_addVersion_6 (by decide) (lv' := [some (2, ((327681 : Nat) : Int)), some (0, u), some (0, gS G 327710 ((u : Int).toNat))]) rfl ?_
  refine s_iload_n dX5_addVersion_7 rfl ?_
  refine s_if_le (tgt := 29) dX5_addVersion_8 (by decide) (fun c3 => ?_) (fun c3 => ?_)
  · -- 8 to 29
    have hv9G : gS G 327710 = gS G 327710 := rfl
    have he9G : gS G 327681 = gS G 327681 := rfl
    have hv8 : gS G 327710 (u : Int).toNat = gS G 327710 (u : Int).toNat := by rw [hv9G]
    have he8 : gS G 327681 17 = gS G 327681 17 := by rw [he9G]
    refine s_aload_n dX5_addVersion_29 rfl (Int.natCast_nonneg _) ?_
    have hv4 : gS G 327681 14 = ((327710 : Nat) : Int) := by have h9 : (gS G 327681 14) = 327710 := hC.1.v (j := 14) (by decide : cde 327681 = 501) alp (by rw [kp]; exact Nat.le_of_ble_eq_true rfl); omega
    refine s_getf (ci := 6) (k := 14) (C := RX5) (T := TX5) (N := 18) (n := 327681) (L := 0) (t := 2) dX5_addVersion_30 rfl wi_73 m_655 (Nat.le_of_ble_eq_true rfl) rfl rfl kp hv4 ?_
    refine s_iload_n dX5_addVersion_33 rfl ?_
    refine s_dup2 dX5_addVersion_34 (by simp) (by simp) ?_
    have hv5 : 0 ≤ (gS G 327710 (u : Int).toNat) ∧ (gS G 327710 (u : Int).toNat) ≤ 5 := hC.1.v (j := (u : Int).toNat) (by decide : cde 327710 = 530) ap10 (by rw [ap10k]; show (u : Int).toNat < 8; omega)
    refine s_iald dX5_addVersion_35 ap10k (by omega) (by omega) rfl ?_
    refine s_iconst dX5_addVersion_36 (by decide) ?_
    refine s_iadd dX5_addVersion_37 (by omega) ?_
    refine s_iast dX5_addVersion_38 ap10k (by omega) (by omega) ?_
    generalize eG6r : gset G 327710 ((u : Int).toNat) ((gS G 327710 ((u : Int).toNat)) + 1) = G6
    have eG6 := eG6r.symm
    have hCG6 : CI a b G6 := by rw [eG6]; exact hC.verEnd rfl (by omega)
    have hXG6 : KX G G6 := KX.set KX.rf eG6
    have hFG6 : WX (fun x => x = 327681 ∨ x = 327710 ∨ (131072 ≤ x ∧ x < 133632)) G G6 := WX.set WX.rf eG6 (by show _; omega)
    show WP kX5_addVersion X 39 [some (2, ((327681 : Nat) : Int)), some (0, u), some (0, gS G 327710 ((u : Int).toNat))] [] G6
    have he7 : gS G6 327681 17 = gS G 327681 17 := congrFun (gset_o eG6 (x := 327681) (by decide)) 17
    refine s_aload_n dX5_addVersion_39 rfl (Int.natCast_nonneg _) ?_
    refine s_dup dX5_addVersion_40 (show (2 : Nat) ≠ 1 by decide) ?_
    have hk7 : gK G6 (327681) = (14, 0) := ((hXG6).k kp (by decide))
    refine s_getf (ci := 6) (k := 17) (C := RX5) (T := TX5) (N := 18) (n := 327681) (L := 0) (t := 0) dX5_addVersion_41 rfl wi_73 m_636 (Nat.le_of_ble_eq_true rfl) rfl rfl hk7 rfl ?_
    refine s_iconst dX5_addVersion_44 (by decide) ?_
    refine s_iadd dX5_addVersion_45 (by omega) ?_
    refine s_putf (ci := 6) (k := 17) (C := RX5) (T := TX5) (N := 18) (n := 327681) (L := 0) dX5_addVersion_46 rfl wi_73 m_636 (Nat.le_of_ble_eq_true rfl) rfl rfl tyX5_ok nmX5 rfl (Or.inl rfl) hk7 ?_
    generalize eG9r : gset G6 327681 17 ((gS G6 327681 17) + 1) = G9
    have eG9 := eG9r.symm
    have hCG9 : CI a b G9 := by rw [eG9]; exact hCG6.progF (Or.inr rfl) True.intro (fun h => absurd h (by decide))
    have hXG9 : KX G6 G9 := KX.set KX.rf eG9
    have hFG9 : WX (fun x => x = 327681 ∨ x = 327710 ∨ (131072 ≤ x ∧ x < 133632)) G G9 := WX.set hFG6 eG9 (by show _; omega)
    show WP kX5_addVersion X 49 [some (2, ((327681 : Nat) : Int)), some (0, u), some (0, gS G 327710 ((u : Int).toNat))] [] G9
    refine s_iload_n dX5_addVersion_49 rfl ?_
    exact s_iret hR dX5_addVersion_50 rfl (hQ (gS G 327710 ((u : Int).toNat)) G9 hCG9 (KX.trans hXG6 hXG9) hFG9 ⟨rfl, by rw [gset_o eG9 (x := 327710) (by decide)]; exact (gsaE eG6).trans (by omega), fun j hj => by rw [gset_o eG9 (x := 327710) (by decide), eG6, gset_ne _ _ (fun q => hj q.2), hv9G], (gsaE eG9).trans (by have h9 : gS G6 327681 17 = gS G 327681 17 := congrFun (gset_o eG6 (x := 327681) (by decide)) 17; omega), fun j hj => by rw [eG9, gset_ne _ _ (fun q => hj q.2), gset_o eG6 (x := 327681) (by decide), he9G]⟩)
  · -- 8 to 11
    refine s_aload_n dX5_addVersion_11 rfl (Int.natCast_nonneg _) ?_
    have hv10 : gS G 327681 13 = ((327709 : Nat) : Int) := by have h9 : (gS G 327681 13) = 327709 := hC.1.v (j := 13) (by decide : cde 327681 = 501) alp (by rw [kp]; exact Nat.le_of_ble_eq_true rfl); omega
    refine s_getf (ci := 6) (k := 13) (C := RX5) (T := TX5) (N := 18) (n := 327681) (L := 0) (t := 2) dX5_addVersion_12 rfl wi_73 m_654 (Nat.le_of_ble_eq_true rfl) rfl rfl kp hv10 ?_
    refine s_iload_n dX5_addVersion_15 rfl ?_
    refine s_iconst dX5_addVersion_16 (by decide) ?_
    refine s_imul dX5_addVersion_17 (by omega) ?_
    refine s_iload_n dX5_addVersion_18 rfl ?_
    refine s_iadd dX5_addVersion_19 (by omega) ?_
    have hv12b : (gS G 327709 ((u * 5) + (gS G 327710 ((u : Int).toNat)) : Int).toNat) = ((131072 + 64 * (((u * 5) + (gS G 327710 ((u : Int).toNat)) : Int).toNat) : Nat) : Int) := hC.1.v (j := ((u * 5) + (gS G 327710 ((u : Int).toNat)) : Int).toNat) (by decide : cde 327709 = 529) ap09 (by rw [ap09k]; show ((u * 5) + (gS G 327710 ((u : Int).toNat)) : Int).toNat < 40; omega)
    obtain ⟨q11, hv12⟩ : ∃ q : Nat, gS G 327709 ((u * 5) + (gS G 327710 ((u : Int).toNat)) : Int).toNat = (q : Int) := ⟨(gS G 327709 ((u * 5) + (gS G 327710 ((u : Int).toNat)) : Int).toNat).toNat, by omega⟩
    rw [hv12] at hv12b
    refine s_aald5 dX5_addVersion_20 ap09k (by omega) (by omega) hv12 ?_
    refine s_aload_n dX5_addVersion_21 rfl (Int.natCast_nonneg _) ?_
    refine s_iload_n dX5_addVersion_22 rfl ?_
    refine s_callV (as := [(0, u)]) (rest := [(2, ((q11 : Nat) : Int))]) (n := 327681) (ci := 6) gX5_latestOf dX5_addVersion_23 m_1405 m_982 m_1707 m_719 m_330 ⟨by decide, by decide, show (parseMethodDescriptor yX5_latestOf.desc).map (fun d => d.parameters.length) = some 1 from by decide +kernel⟩ (Nat.le_of_ble_eq_true rfl) (by rw [hcf]; exact Nat.le_of_ble_eq_true rfl) kp rfl rfl (Nat.le_of_ble_eq_true rfl) ⟨u, a, b, rfl, hC, hab, (by omega), (by omega), fun rr13 hp14 => ?_⟩
    show WP kX5_addVersion X 26 [some (2, ((327681 : Nat) : Int)), some (0, u), some (0, gS G 327710 ((u : Int).toNat))] [(2, ((rr13 : Nat) : Int)), (2, ((q11 : Nat) : Int))] G
    refine s_alv (q11) (by simp) (fun al17 => ?_)
    have hk18 : gK G (q11) = (19, 0) := hC.1.k (by rw [cde_v (by omega) (by omega)]; omega : cde q11 = 200) al17
    refine s_callV (as := [(2, ((rr13 : Nat) : Int))]) (rest := []) (n := q11) (ci := 11) gX10_copy dX5_addVersion_26 m_1390 m_754 m_1495 m_713 m_81 ⟨by decide, by decide, show (parseMethodDescriptor yX10_copy.desc).map (fun d => d.parameters.length) = some 1 from by decide +kernel⟩ (Nat.le_of_ble_eq_true rfl) (by rw [hcf]; exact Nat.le_of_ble_eq_true rfl) hk18 rfl rfl (Nat.le_of_ble_eq_true rfl) ⟨q11, rr13, a, b, rfl, hC, hab, (by omega), (by omega), fun G15 hCG15 hXG15 hfG15 hpG15 => ?_⟩
    have hFG15 : WX (fun x => x = 327681 ∨ x = 327710 ∨ (131072 ≤ x ∧ x < 133632)) G G15 := WX.trans WX.rf KX.rf (WX.mono hfG15 (fun x hx => by omega))
    show WP kX5_addVersion X 29 [some (2, ((327681 : Nat) : Int)), some (0, u), some (0, gS G 327710 ((u : Int).toNat))] [] G15
    have hv9G15 : gS G15 327710 = gS G 327710 := hfG15 327710 ap10 (by show ¬ _; omega)
    have he9G15 : gS G15 327681 = gS G 327681 := hfG15 327681 alp (by show ¬ _; omega)
    have hv8 : gS G15 327710 (u : Int).toNat = gS G 327710 (u : Int).toNat := by rw [hv9G15]
    have he8 : gS G15 327681 17 = gS G 327681 17 := by rw [he9G15]
    refine s_aload_n dX5_addVersion_29 rfl (Int.natCast_nonneg _) ?_
    have hk19 : gK G15 (327681) = (14, 0) := ((hXG15).k kp (by decide))
    refine s_alv (327681) (by simp) (fun al20 => ?_)
    have hv21 : gS G15 327681 14 = ((327710 : Nat) : Int) := by have h9 : (gS G15 327681 14) = 327710 := hCG15.1.v (j := 14) (by decide : cde 327681 = 501) al20 (by rw [hk19]; exact Nat.le_of_ble_eq_true rfl); omega
    refine s_getf (ci := 6) (k := 14) (C := RX5) (T := TX5) (N := 18) (n := 327681) (L := 0) (t := 2) dX5_addVersion_30 rfl wi_73 m_655 (Nat.le_of_ble_eq_true rfl) rfl rfl hk19 hv21 ?_
    refine s_iload_n dX5_addVersion_33 rfl ?_
    refine s_dup2 dX5_addVersion_34 (by simp) (by simp) ?_
    have hk22 : gK G15 (327710) = (1, 8) := ((hXG15).k ap10k (by decide))
    refine s_alv (327710) (by simp) (fun al23 => ?_)
    have hv24 : 0 ≤ (gS G15 327710 (u : Int).toNat) ∧ (gS G15 327710 (u : Int).toNat) ≤ 5 := hCG15.1.v (j := (u : Int).toNat) (by decide : cde 327710 = 530) al23 (by rw [hk22]; show (u : Int).toNat < 8; omega)
    refine s_iald dX5_addVersion_35 hk22 (by omega) (by omega) rfl ?_
    refine s_iconst dX5_addVersion_36 (by decide) ?_
    refine s_iadd dX5_addVersion_37 (by omega) ?_
    refine s_iast dX5_addVersion_38 hk22 (by omega) (by omega) ?_
    generalize eG25r : gset G15 327710 ((u : Int).toNat) ((gS G15 327710 ((u : Int).toNat)) + 1) = G25
    have eG25 := eG25r.symm
    have hCG25 : CI a b G25 := by rw [eG25]; exact hCG15.verEnd rfl (by omega)
    have hXG25 : KX G15 G25 := KX.set KX.rf eG25
    have hFG25 : WX (fun x => x = 327681 ∨ x = 327710 ∨ (131072 ≤ x ∧ x < 133632)) G G25 := WX.set hFG15 eG25 (by show _; omega)
    show WP kX5_addVersion X 39 [some (2, ((327681 : Nat) : Int)), some (0, u), some (0, gS G 327710 ((u : Int).toNat))] [] G25
    have he7 : gS G25 327681 17 = gS G15 327681 17 := congrFun (gset_o eG25 (x := 327681) (by decide)) 17
    refine s_aload_n dX5_addVersion_39 rfl (Int.natCast_nonneg _) ?_
    refine s_dup dX5_addVersion_40 (show (2 : Nat) ≠ 1 by decide) ?_
    have hk26 : gK G25 (327681) = (14, 0) := ((hXG25).k hk19 (by decide))
    refine s_getf (ci := 6) (k := 17) (C := RX5) (T := TX5) (N := 18) (n := 327681) (L := 0) (t := 0) dX5_addVersion_41 rfl wi_73 m_636 (Nat.le_of_ble_eq_true rfl) rfl rfl hk26 rfl ?_
    refine s_iconst dX5_addVersion_44 (by decide) ?_
    refine s_iadd dX5_addVersion_45 (by omega) ?_
    refine s_putf (ci := 6) (k := 17) (C := RX5) (T := TX5) (N := 18) (n := 327681) (L := 0) dX5_addVersion_46 rfl wi_73 m_636 (Nat.le_of_ble_eq_true rfl) rfl rfl tyX5_ok nmX5 rfl (Or.inl rfl) hk26 ?_
    generalize eG28r : gset G25 327681 17 ((gS G25 327681 17) + 1) = G28
    have eG28 := eG28r.symm
    have hCG28 : CI a b G28 := by rw [eG28]; exact hCG25.progF (Or.inr rfl) True.intro (fun h => absurd h (by decide))
    have hXG28 : KX G25 G28 := KX.set KX.rf eG28
    have hFG28 : WX (fun x => x = 327681 ∨ x = 327710 ∨ (131072 ≤ x ∧ x < 133632)) G G28 := WX.set hFG25 eG28 (by show _; omega)
    show WP kX5_addVersion X 49 [some (2, ((327681 : Nat) : Int)), some (0, u), some (0, gS G 327710 ((u : Int).toNat))] [] G28
    refine s_iload_n dX5_addVersion_49 rfl ?_
    exact s_iret hR dX5_addVersion_50 rfl (hQ (gS G 327710 ((u : Int).toNat)) G28 hCG28 (KX.trans (KX.trans hXG15 hXG25) hXG28) hFG28 ⟨rfl, by rw [gset_o eG28 (x := 327710) (by decide)]; exact (gsaE eG25).trans (by omega), fun j hj => by rw [gset_o eG28 (x := 327710) (by decide), eG25, gset_ne _ _ (fun q => hj q.2), hv9G15], (gsaE eG28).trans (by have h9 : gS G25 327681 17 = gS G15 327681 17 := congrFun (gset_o eG25 (x := 327681) (by decide)) 17; omega), fun j hj => by rw [eG28, gset_ne _ _ (fun q => hj q.2), gset_o eG25 (x := 327681) (by decide), he9G15]⟩)

abbrev kX5_addUnit : KD := (RX5, cX5_addUnit, 1, (some .int), [])
def TX5_addUnit : TR := fun as G Qr => ∃ (a b : Nat), as = [(2, ((327681 : Nat) : Int))] ∧ CI a b G ∧ (a ≤ 2840000 ∧ b ≤ 590000) ∧ (gS G 327681 15 < 8) ∧ (UCn G) ∧ (0 ≤ gS G 327681 17 ∧ gS G 327681 17 ≤ 1000000) ∧ ∀ (r : Int) (G' : LG), CI a b G' → KX G G' → WX (fun x => x = 327681 ∨ x = 327710 ∨ (131072 ≤ x ∧ x < 133632)) G G' → (r = gS G 327681 15 ∧ UCn G' ∧ gS G' 327681 17 = gS G 327681 17 + 1 ∧ gS G' 327681 15 = gS G 327681 15 + 1 ∧ ∀ j, j ≠ 15 → j ≠ 17 → gS G' 327681 j = gS G 327681 j) → Qr (.inl (some (0, r))) G'
set_option maxHeartbeats 4000000 in
set_option maxRecDepth 100000 in
theorem gX5_addUnit : Good kX5_addUnit yX5_addUnit 3 TX5_addUnit := by
  refine good_of (by decide) rfl rfl (fun as G Qr h => ?_) (fun X as G Qr hcf hR hT oa => ?_)
  · obtain ⟨a, b, rfl, -⟩ := h; exact Nat.le_of_ble_eq_true rfl
  obtain ⟨a, b, rfl, hC, hab, hc, hUC, hb9, hQ⟩ := hT
  show WP kX5_addUnit X 0 [some (2, ((327681 : Nat) : Int))] [] G
  refine s_alvl 327681 (k := 0) rfl (fun alp => ?_)
  have kp : gK G 327681 = (14, 0) := hC.1.k (c := 501) (by decide) alp
  have hc4 : 0 ≤ gS G 327681 4 ∧ gS G 327681 4 ≤ 60 := hC.1.v (c := 501) (j := 4) (by decide) alp (by rw [kp]; exact Nat.le_of_ble_eq_true rfl)
  have hc12 : 0 ≤ gS G 327681 12 ∧ gS G 327681 12 ≤ 120 := hC.1.v (c := 501) (j := 12) (by decide) alp (by rw [kp]; exact Nat.le_of_ble_eq_true rfl)
  have hc15 : 0 ≤ gS G 327681 15 ∧ gS G 327681 15 ≤ 8 := hC.1.v (c := 501) (j := 15) (by decide) alp (by rw [kp]; exact Nat.le_of_ble_eq_true rfl)
  refine s_aload_n dX5_addUnit_0 rfl (Int.natCast_nonneg _) ?_
  refine s_dup dX5_addUnit_1 (show (2 : Nat) ≠ 1 by decide) ?_
  have hv1 : 0 ≤ (gS G 327681 15) ∧ (gS G 327681 15) ≤ 8 := hC.1.v (j := 15) (by decide : cde 327681 = 501) alp (by rw [kp]; exact Nat.le_of_ble_eq_true rfl)
  refine s_getf (ci := 6) (k := 15) (C := RX5) (T := TX5) (N := 18) (n := 327681) (L := 0) (t := 0) dX5_addUnit_2 rfl wi_73 m_659 (Nat.le_of_ble_eq_true rfl) rfl rfl kp rfl ?_
  refine s_iconst dX5_addUnit_5 (by decide) ?_
  refine s_iadd dX5_addUnit_6 (by omega) ?_
  refine s_putf (ci := 6) (k := 15) (C := RX5) (T := TX5) (N := 18) (n := 327681) (L := 0) dX5_addUnit_7 rfl wi_73 m_659 (Nat.le_of_ble_eq_true rfl) rfl rfl tyX5_ok nmX5 rfl (Or.inl rfl) kp ?_
  generalize eG2r : gset G 327681 15 ((gS G 327681 15) + 1) = G2
  have eG2 := eG2r.symm
  have hCG2 : CI a b G2 := by rw [eG2]; exact hC.progF (Or.inl rfl) (show 0 ≤ gS G 327681 15 + 1 ∧ gS G 327681 15 + 1 ≤ 8 by omega) (fun _ => by omega)
  have hXG2 : KX G G2 := KX.set KX.rf eG2
  have hFG2 : WX (fun x => x = 327681 ∨ x = 327710 ∨ (131072 ≤ x ∧ x < 133632)) G G2 := WX.set WX.rf eG2 (by show _; omega)
  show WP kX5_addUnit X 10 [some (2, ((327681 : Nat) : Int))] [] G2
  have hu15 : gS G2 327681 15 = gS G 327681 15 + 1 := gsaE eG2
  have hvv : gS G2 327710 = gS G 327710 := gset_o eG2 (by decide)
  have h179 : gS G2 327681 17 = gS G 327681 17 := by rw [eG2]; exact gset_ne _ _ (fun z => absurd z.2 (by decide))
  have hv0 := (hUC (gS G 327681 15).toNat (by omega)).2 (by omega)
  have hoj : ∀ j, j ≠ 15 → gS G2 327681 j = gS G 327681 j := fun j hj => by rw [eG2]; exact gset_ne _ _ (fun z => hj z.2)
  refine s_aload_n dX5_addUnit_10 rfl (Int.natCast_nonneg _) ?_
  refine s_aload_n dX5_addUnit_11 rfl (Int.natCast_nonneg _) ?_
  have hk3 : gK G2 (327681) = (14, 0) := ((hXG2).k kp (by decide))
  refine s_alv (327681) (by simp) (fun al5 => ?_)
  have hv4 : 0 ≤ (gS G2 327681 15) ∧ (gS G2 327681 15) ≤ 8 := hCG2.1.v (j := 15) (by decide : cde 327681 = 501) al5 (by rw [hk3]; exact Nat.le_of_ble_eq_true rfl)
  refine s_getf (ci := 6) (k := 15) (C := RX5) (T := TX5) (N := 18) (n := 327681) (L := 0) (t := 0) dX5_addUnit_12 rfl wi_73 m_659 (Nat.le_of_ble_eq_true rfl) rfl rfl hk3 (gsaE eG2) ?_
  refine s_iconst dX5_addUnit_15 (by decide) ?_
  refine s_isub dX5_addUnit_16 (by omega) ?_
  refine s_callV (as := [(0, ((gS G 327681 15) + 1) - 1)]) (rest := []) (n := 327681) (ci := 6) gX5_addVersion dX5_addUnit_17 m_1404 m_977 m_1703 m_719 m_325 ⟨by decide, by decide, show (parseMethodDescriptor yX5_addVersion.desc).map (fun d => d.parameters.length) = some 1 from by decide +kernel⟩ (Nat.le_of_ble_eq_true rfl) (by rw [hcf]; exact Nat.le_of_ble_eq_true rfl) hk3 rfl rfl (Nat.le_of_ble_eq_true rfl) ⟨((gS G 327681 15) + 1) - 1, a, b, rfl, hCG2, hab, (by omega), (by rw [hvv, show (((gS G 327681 15) + 1) - 1 : Int).toNat = (gS G 327681 15).toNat by omega]; omega), (by omega), fun rr7 G6 hCG6 hXG6 hfG6 hpG6 => ?_⟩
  have hFG6 : WX (fun x => x = 327681 ∨ x = 327710 ∨ (131072 ≤ x ∧ x < 133632)) G G6 := WX.trans hFG2 hXG2 (WX.mono hfG6 (fun x hx => by omega))
  show WP kX5_addUnit X 20 [some (2, ((327681 : Nat) : Int))] [(0, rr7)] G6
  refine s_pop dX5_addUnit_20 (show (0 : Nat) ≠ 1 by decide) ?_
  refine s_aload_n dX5_addUnit_21 rfl (Int.natCast_nonneg _) ?_
  have hk8 : gK G6 (327681) = (14, 0) := ((hXG6).k hk3 (by decide))
  refine s_alv (327681) (by simp) (fun al10 => ?_)
  have hv9 : 0 ≤ (gS G6 327681 15) ∧ (gS G6 327681 15) ≤ 8 := hCG6.1.v (j := 15) (by decide : cde 327681 = 501) al10 (by rw [hk8]; exact Nat.le_of_ble_eq_true rfl)
  refine s_getf (ci := 6) (k := 15) (C := RX5) (T := TX5) (N := 18) (n := 327681) (L := 0) (t := 0) dX5_addUnit_22 rfl wi_73 m_659 (Nat.le_of_ble_eq_true rfl) rfl rfl hk8 rfl ?_
  refine s_iconst dX5_addUnit_25 (by decide) ?_
  refine s_isub dX5_addUnit_26 (by omega) ?_
  exact s_iret hR dX5_addUnit_27 rfl (hQ ((gS G6 327681 15) - 1) G6 hCG6 (KX.trans hXG2 hXG6) hFG6 ⟨by have h7 := hpG6.2.2.2.2 15 (by decide); omega, fun v hv => by have h15 : gS G6 327681 15 = gS G 327681 15 + 1 := (hpG6.2.2.2.2 15 (by decide)).trans hu15; rw [h15]; by_cases w : v = (gS G 327681 15).toNat; (focus (have h8 : gS G6 327710 v = 1 := (by have h7 := hpG6.2.1; rw [hvv, show (gS G 327681 15 + 1 - 1 : Int).toNat = v by omega] at h7; have h0 := hv0; rw [← w] at h0; omega); omega)); (focus (have h8 : gS G6 327710 v = gS G 327710 v := (by have h7 := hpG6.2.2.1 v (by omega); rw [hvv] at h7; exact h7); have h6 := hUC v hv; rw [h8]; exact ⟨fun q => h6.1 (by omega), fun q => h6.2 (by omega)⟩)), by have h7 := hpG6.2.2.2.1; omega, by have h7 := hpG6.2.2.2.2 15 (by decide); omega, fun j h1 h2 => (hpG6.2.2.2.2 j h2).trans (hoj j h1)⟩)
