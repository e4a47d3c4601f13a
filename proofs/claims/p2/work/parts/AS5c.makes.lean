abbrev kX5_addLeaf : KD := (RX5, cX5_addLeaf, 3, (some .int), [])
def TX5_addLeaf : TR := fun as G Qr => ∃ (k x : Int) (a b : Nat), as = [(2, ((327681 : Nat) : Int)), (0, k), (0, x)] ∧ CI a b G ∧ (a ≤ 2840000 ∧ b ≤ 590000) ∧ (k = 5 ∨ (k = 6 ∧ 0 ≤ x ∧ x ≤ 9)) ∧ (gS G 327681 12 < 120) ∧ ∀ (r : Int) (G' : LG), CI a b G' → KX G G' → WX (fun x => x = 327681 ∨ (327701 ≤ x ∧ x ≤ 327707)) G G' → (r = gS G 327681 12 ∧ gS G' 327681 12 = gS G 327681 12 + 1) → Qr (.inl (some (0, r))) G'
set_option maxHeartbeats 4000000 in
set_option maxRecDepth 100000 in
theorem gX5_addLeaf : Good kX5_addLeaf yX5_addLeaf 1 TX5_addLeaf := by
  refine good_of (by decide) rfl rfl (fun as G Qr h => ?_) (fun X as G Qr hcf hR hT oa => ?_)
  · obtain ⟨k, x, a, b, rfl, -⟩ := h; exact Nat.le_of_ble_eq_true rfl
  obtain ⟨k, x, a, b, rfl, hC, hab, hk, hc, hQ⟩ := hT
  show WP kX5_addLeaf X 0 [some (2, ((327681 : Nat) : Int)), some (0, k), some (0, x)] [] G
  have hr_k : inR k := okv_R (oa _ (by simp))
  have hr_x : inR x := okv_R (oa _ (by simp))
  refine s_alvl 327681 (k := 0) rfl (fun alp => ?_)
  have kp : gK G 327681 = (14, 0) := hC.1.k (c := 501) (by decide) alp
  have hc4 : 0 ≤ gS G 327681 4 ∧ gS G 327681 4 ≤ 60 := hC.1.v (c := 501) (j := 4) (by decide) alp (by rw [kp]; exact Nat.le_of_ble_eq_true rfl)
  have hc12 : 0 ≤ gS G 327681 12 ∧ gS G 327681 12 ≤ 120 := hC.1.v (c := 501) (j := 12) (by decide) alp (by rw [kp]; exact Nat.le_of_ble_eq_true rfl)
  have hA81 : gS G 327681 = gS G 327681 := rfl
  have hE12 : gS G 327681 12 = gS G 327681 12 := rfl
  refine s_alh (327681) 5 alp (by rw [kp]; exact Nat.le_of_ble_eq_true rfl) (by rw [kp]; rfl) (fun ap01x => ?_)
  have ap01v : gS G 327681 5 = ((327701 : Nat) : Int) := by have h9 : (gS G 327681 5) = 327701 := hC.1.v (j := 5) (by decide : cde 327681 = 501) alp (by rw [kp]; exact Nat.le_of_ble_eq_true rfl); omega
  have ap01 : (gK G (327701)).1 ≠ 0 := by have h9 := ap01x (by omega); rw [ap01v, Int.toNat_natCast] at h9; exact h9
  have ap01k : gK G (327701) = (1, 120) := hC.1.k (by decide : cde 327701 = 521) ap01
  refine s_alh (327681) 6 alp (by rw [kp]; exact Nat.le_of_ble_eq_true rfl) (by rw [kp]; rfl) (fun ap02x => ?_)
  have ap02v : gS G 327681 6 = ((327702 : Nat) : Int) := by have h9 : (gS G 327681 6) = 327702 := hC.1.v (j := 6) (by decide : cde 327681 = 501) alp (by rw [kp]; exact Nat.le_of_ble_eq_true rfl); omega
  have ap02 : (gK G (327702)).1 ≠ 0 := by have h9 := ap02x (by omega); rw [ap02v, Int.toNat_natCast] at h9; exact h9
  have ap02k : gK G (327702) = (1, 120) := hC.1.k (by decide : cde 327702 = 522) ap02
  refine s_alh (327681) 7 alp (by rw [kp]; exact Nat.le_of_ble_eq_true rfl) (by rw [kp]; rfl) (fun ap03x => ?_)
  have ap03v : gS G 327681 7 = ((327703 : Nat) : Int) := by have h9 : (gS G 327681 7) = 327703 := hC.1.v (j := 7) (by decide : cde 327681 = 501) alp (by rw [kp]; exact Nat.le_of_ble_eq_true rfl); omega
  have ap03 : (gK G (327703)).1 ≠ 0 := by have h9 := ap03x (by omega); rw [ap03v, Int.toNat_natCast] at h9; exact h9
  have ap03k : gK G (327703) = (1, 120) := hC.1.k (by decide : cde 327703 = 523) ap03
  refine s_alh (327681) 8 alp (by rw [kp]; exact Nat.le_of_ble_eq_true rfl) (by rw [kp]; rfl) (fun ap04x => ?_)
  have ap04v : gS G 327681 8 = ((327704 : Nat) : Int) := by have h9 : (gS G 327681 8) = 327704 := hC.1.v (j := 8) (by decide : cde 327681 = 501) alp (by rw [kp]; exact Nat.le_of_ble_eq_true rfl); omega
  have ap04 : (gK G (327704)).1 ≠ 0 := by have h9 := ap04x (by omega); rw [ap04v, Int.toNat_natCast] at h9; exact h9
  have ap04k : gK G (327704) = (1, 120) := hC.1.k (by decide : cde 327704 = 524) ap04
  refine s_alh (327681) 9 alp (by rw [kp]; exact Nat.le_of_ble_eq_true rfl) (by rw [kp]; rfl) (fun ap05x => ?_)
  have ap05v : gS G 327681 9 = ((327705 : Nat) : Int) := by have h9 : (gS G 327681 9) = 327705 := hC.1.v (j := 9) (by decide : cde 327681 = 501) alp (by rw [kp]; exact Nat.le_of_ble_eq_true rfl); omega
  have ap05 : (gK G (327705)).1 ≠ 0 := by have h9 := ap05x (by omega); rw [ap05v, Int.toNat_natCast] at h9; exact h9
  have ap05k : gK G (327705) = (1, 120) := hC.1.k (by decide : cde 327705 = 525) ap05
  refine s_alh (327681) 10 alp (by rw [kp]; exact Nat.le_of_ble_eq_true rfl) (by rw [kp]; rfl) (fun ap06x => ?_)
  have ap06v : gS G 327681 10 = ((327706 : Nat) : Int) := by have h9 : (gS G 327681 10) = 327706 := hC.1.v (j := 10) (by decide : cde 327681 = 501) alp (by rw [kp]; exact Nat.le_of_ble_eq_true rfl); omega
  have ap06 : (gK G (327706)).1 ≠ 0 := by have h9 := ap06x (by omega); rw [ap06v, Int.toNat_natCast] at h9; exact h9
  have ap06k : gK G (327706) = (1, 120) := hC.1.k (by decide : cde 327706 = 526) ap06
  refine s_aload_n dX5_addLeaf_0 rfl (Int.natCast_nonneg _) ?_
  have hv1 : gS G 327681 5 = ((327701 : Nat) : Int) := by have h9 : (gS G 327681 5) = 327701 := hC.1.v (j := 5) (by decide : cde 327681 = 501) alp (by rw [kp]; exact Nat.le_of_ble_eq_true rfl); omega
  refine s_getf (ci := 6) (k := 5) (C := RX5) (T := TX5) (N := 18) (n := 327681) (L := 0) (t := 2) dX5_addLeaf_1 rfl wi_73 m_647 (Nat.le_of_ble_eq_true rfl) rfl rfl kp hv1 ?_
  refine s_aload_n dX5_addLeaf_4 rfl (Int.natCast_nonneg _) ?_
  have hv2 : 0 ≤ (gS G 327681 12) ∧ (gS G 327681 12) ≤ 120 := hC.1.v (j := 12) (by decide : cde 327681 = 501) alp (by rw [kp]; exact Nat.le_of_ble_eq_true rfl)
  refine s_getf (ci := 6) (k := 12) (C := RX5) (T := TX5) (N := 18) (n := 327681) (L := 0) (t := 0) dX5_addLeaf_5 rfl wi_73 m_658 (Nat.le_of_ble_eq_true rfl) rfl rfl kp rfl ?_
  refine s_iload_n dX5_addLeaf_8 rfl ?_
  refine s_iast dX5_addLeaf_9 ap01k (by omega) (by omega) ?_
  generalize eG3r : gset G 327701 ((gS G 327681 12 : Int).toNat) k = G3
  have eG3 := eG3r.symm
  have hCG3 : CI a b G3 := by rw [eG3]; exact hC.exprPut (by decide) (by decide) (by rw [hA81]; omega) (show (0 : Int) ≤ k ∧ k ≤ 6 by omega)
  have hXG3 : KX G G3 := KX.set KX.rf eG3
  have hFG3 : WX (fun x => x = 327681 ∨ (327701 ≤ x ∧ x ≤ 327707)) G G3 := WX.set WX.rf eG3 (by show _; omega)
  have hfG3 : WX (fun x => x = 327701 % 1048576) G G3 := WX.set WX.rf eG3 rfl
  have hA81G3 : gS G3 327681 = gS G 327681 := (gset_o eG3 (x := 327681) (by decide)).trans hA81
  have hE12G3 : gS G3 327681 12 = gS G 327681 12 := (congrFun (gset_o eG3 (x := 327681) (by decide)) 12).trans hE12
  show WP kX5_addLeaf X 10 [some (2, ((327681 : Nat) : Int)), some (0, k), some (0, x)] [] G3
  refine s_aload_n dX5_addLeaf_10 rfl (Int.natCast_nonneg _) ?_
  have hk4 : gK G3 (327681) = (14, 0) := ((hXG3).k kp (by decide))
  refine s_alv (327681) (by simp) (fun al5 => ?_)
  have hv6 : gS G3 327681 6 = ((327702 : Nat) : Int) := by have h9 : (gS G3 327681 6) = 327702 := hCG3.1.v (j := 6) (by decide : cde 327681 = 501) al5 (by rw [hk4]; exact Nat.le_of_ble_eq_true rfl); omega
  refine s_getf (ci := 6) (k := 6) (C := RX5) (T := TX5) (N := 18) (n := 327681) (L := 0) (t := 2) dX5_addLeaf_11 rfl wi_73 m_648 (Nat.le_of_ble_eq_true rfl) rfl rfl hk4 hv6 ?_
  refine s_aload_n dX5_addLeaf_14 rfl (Int.natCast_nonneg _) ?_
  have hv7 : 0 ≤ (gS G3 327681 12) ∧ (gS G3 327681 12) ≤ 120 := hCG3.1.v (j := 12) (by decide : cde 327681 = 501) al5 (by rw [hk4]; exact Nat.le_of_ble_eq_true rfl)
  refine s_getf (ci := 6) (k := 12) (C := RX5) (T := TX5) (N := 18) (n := 327681) (L := 0) (t := 0) dX5_addLeaf_15 rfl wi_73 m_658 (Nat.le_of_ble_eq_true rfl) rfl rfl hk4 rfl ?_
  refine s_iload_n dX5_addLeaf_18 rfl ?_
  have hk8 : gK G3 (327702) = (1, 120) := ((hXG3).k ap02k (by decide))
  refine s_iast dX5_addLeaf_19 hk8 (by omega) (by omega) ?_
  generalize eG9r : gset G3 327702 ((gS G3 327681 12 : Int).toNat) x = G9
  have eG9 := eG9r.symm
  have hCG9 : CI a b G9 := by rw [eG9]; exact hCG3.exprPut (by decide) (by decide) (by rw [hA81G3]; omega) (True.intro)
  have hXG9 : KX G3 G9 := KX.set KX.rf eG9
  have hFG9 : WX (fun x => x = 327681 ∨ (327701 ≤ x ∧ x ≤ 327707)) G G9 := WX.set hFG3 eG9 (by show _; omega)
  have hfG9 : WX (fun x => x = 327702 % 1048576) G3 G9 := WX.set WX.rf eG9 rfl
  have hA81G9 : gS G9 327681 = gS G 327681 := (gset_o eG9 (x := 327681) (by decide)).trans hA81G3
  have hE12G9 : gS G9 327681 12 = gS G 327681 12 := (congrFun (gset_o eG9 (x := 327681) (by decide)) 12).trans hE12G3
  show WP kX5_addLeaf X 20 [some (2, ((327681 : Nat) : Int)), some (0, k), some (0, x)] [] G9
  refine s_aload_n dX5_addLeaf_20 rfl (Int.natCast_nonneg _) ?_
  have hk10 : gK G9 (327681) = (14, 0) := ((hXG9).k hk4 (by decide))
  refine s_alv (327681) (by simp) (fun al11 => ?_)
  have hv12 : gS G9 327681 7 = ((327703 : Nat) : Int) := by have h9 : (gS G9 327681 7) = 327703 := hCG9.1.v (j := 7) (by decide : cde 327681 = 501) al11 (by rw [hk10]; exact Nat.le_of_ble_eq_true rfl); omega
  refine s_getf (ci := 6) (k := 7) (C := RX5) (T := TX5) (N := 18) (n := 327681) (L := 0) (t := 2) dX5_addLeaf_21 rfl wi_73 m_649 (Nat.le_of_ble_eq_true rfl) rfl rfl hk10 hv12 ?_
  refine s_aload_n dX5_addLeaf_24 rfl (Int.natCast_nonneg _) ?_
  have hv13 : 0 ≤ (gS G9 327681 12) ∧ (gS G9 327681 12) ≤ 120 := hCG9.1.v (j := 12) (by decide : cde 327681 = 501) al11 (by rw [hk10]; exact Nat.le_of_ble_eq_true rfl)
  refine s_getf (ci := 6) (k := 12) (C := RX5) (T := TX5) (N := 18) (n := 327681) (L := 0) (t := 0) dX5_addLeaf_25 rfl wi_73 m_658 (Nat.le_of_ble_eq_true rfl) rfl rfl hk10 rfl ?_
  refine s_iconst dX5_addLeaf_28 (by decide) ?_
  have hk14 : gK G9 (327703) = (1, 120) := ((hXG9).k ((hXG3).k ap03k (by decide)) (by decide))
  refine s_iast dX5_addLeaf_29 hk14 (by omega) (by omega) ?_
  generalize eG15r : gset G9 327703 ((gS G9 327681 12 : Int).toNat) ((-1)) = G15
  have eG15 := eG15r.symm
  have hCG15 : CI a b G15 := by rw [eG15]; exact hCG9.exprPut (by decide) (by decide) (by rw [hA81G9]; omega) (show (-1 : Int) ≤ -1 ∧ (-1 : Int) ≤ 119 by omega)
  have hXG15 : KX G9 G15 := KX.set KX.rf eG15
  have hFG15 : WX (fun x => x = 327681 ∨ (327701 ≤ x ∧ x ≤ 327707)) G G15 := WX.set hFG9 eG15 (by show _; omega)
  have hfG15 : WX (fun x => x = 327703 % 1048576) G9 G15 := WX.set WX.rf eG15 rfl
  have hA81G15 : gS G15 327681 = gS G 327681 := (gset_o eG15 (x := 327681) (by decide)).trans hA81G9
  have hE12G15 : gS G15 327681 12 = gS G 327681 12 := (congrFun (gset_o eG15 (x := 327681) (by decide)) 12).trans hE12G9
  show WP kX5_addLeaf X 30 [some (2, ((327681 : Nat) : Int)), some (0, k), some (0, x)] [] G15
  refine s_aload_n dX5_addLeaf_30 rfl (Int.natCast_nonneg _) ?_
  have hk16 : gK G15 (327681) = (14, 0) := ((hXG15).k hk10 (by decide))
  refine s_alv (327681) (by simp) (fun al17 => ?_)
  have hv18 : gS G15 327681 8 = ((327704 : Nat) : Int) := by have h9 : (gS G15 327681 8) = 327704 := hCG15.1.v (j := 8) (by decide : cde 327681 = 501) al17 (by rw [hk16]; exact Nat.le_of_ble_eq_true rfl); omega
  refine s_getf (ci := 6) (k := 8) (C := RX5) (T := TX5) (N := 18) (n := 327681) (L := 0) (t := 2) dX5_addLeaf_31 rfl wi_73 m_650 (Nat.le_of_ble_eq_true rfl) rfl rfl hk16 hv18 ?_
  refine s_aload_n dX5_addLeaf_34 rfl (Int.natCast_nonneg _) ?_
  have hv19 : 0 ≤ (gS G15 327681 12) ∧ (gS G15 327681 12) ≤ 120 := hCG15.1.v (j := 12) (by decide : cde 327681 = 501) al17 (by rw [hk16]; exact Nat.le_of_ble_eq_true rfl)
  refine s_getf (ci := 6) (k := 12) (C := RX5) (T := TX5) (N := 18) (n := 327681) (L := 0) (t := 0) dX5_addLeaf_35 rfl wi_73 m_658 (Nat.le_of_ble_eq_true rfl) rfl rfl hk16 rfl ?_
  refine s_iconst dX5_addLeaf_38 (by decide) ?_
  have hk20 : gK G15 (327704) = (1, 120) := ((hXG15).k ((hXG9).k ((hXG3).k ap04k (by decide)) (by decide)) (by decide))
  refine s_iast dX5_addLeaf_39 hk20 (by omega) (by omega) ?_
  generalize eG21r : gset G15 327704 ((gS G15 327681 12 : Int).toNat) ((-1)) = G21
  have eG21 := eG21r.symm
  have hCG21 : CI a b G21 := by rw [eG21]; exact hCG15.exprPut (by decide) (by decide) (by rw [hA81G15]; omega) (show (-1 : Int) ≤ -1 ∧ (-1 : Int) ≤ 119 by omega)
  have hXG21 : KX G15 G21 := KX.set KX.rf eG21
  have hFG21 : WX (fun x => x = 327681 ∨ (327701 ≤ x ∧ x ≤ 327707)) G G21 := WX.set hFG15 eG21 (by show _; omega)
  have hfG21 : WX (fun x => x = 327704 % 1048576) G15 G21 := WX.set WX.rf eG21 rfl
  have hA81G21 : gS G21 327681 = gS G 327681 := (gset_o eG21 (x := 327681) (by decide)).trans hA81G15
  have hE12G21 : gS G21 327681 12 = gS G 327681 12 := (congrFun (gset_o eG21 (x := 327681) (by decide)) 12).trans hE12G15
  show WP kX5_addLeaf X 40 [some (2, ((327681 : Nat) : Int)), some (0, k), some (0, x)] [] G21
  refine s_aload_n dX5_addLeaf_40 rfl (Int.natCast_nonneg _) ?_
  have hk22 : gK G21 (327681) = (14, 0) := ((hXG21).k hk16 (by decide))
  refine s_alv (327681) (by simp) (fun al23 => ?_)
  have hv24 : gS G21 327681 9 = ((327705 : Nat) : Int) := by have h9 : (gS G21 327681 9) = 327705 := hCG21.1.v (j := 9) (by decide : cde 327681 = 501) al23 (by rw [hk22]; exact Nat.le_of_ble_eq_true rfl); omega
  refine s_getf (ci := 6) (k := 9) (C := RX5) (T := TX5) (N := 18) (n := 327681) (L := 0) (t := 2) dX5_addLeaf_41 rfl wi_73 m_651 (Nat.le_of_ble_eq_true rfl) rfl rfl hk22 hv24 ?_
  refine s_aload_n dX5_addLeaf_44 rfl (Int.natCast_nonneg _) ?_
  have hv25 : 0 ≤ (gS G21 327681 12) ∧ (gS G21 327681 12) ≤ 120 := hCG21.1.v (j := 12) (by decide : cde 327681 = 501) al23 (by rw [hk22]; exact Nat.le_of_ble_eq_true rfl)
  refine s_getf (ci := 6) (k := 12) (C := RX5) (T := TX5) (N := 18) (n := 327681) (L := 0) (t := 0) dX5_addLeaf_45 rfl wi_73 m_658 (Nat.le_of_ble_eq_true rfl) rfl rfl hk22 rfl ?_
  refine s_iconst dX5_addLeaf_48 (by decide) ?_
  have hk26 : gK G21 (327705) = (1, 120) := ((hXG21).k ((hXG15).k ((hXG9).k ((hXG3).k ap05k (by decide)) (by decide)) (by decide)) (by decide))
  refine s_iast dX5_addLeaf_49 hk26 (by omega) (by omega) ?_
  generalize eG27r : gset G21 327705 ((gS G21 327681 12 : Int).toNat) 1 = G27
  have eG27 := eG27r.symm
  have hCG27 : CI a b G27 := by rw [eG27]; exact hCG21.exprPut (by decide) (by decide) (by rw [hA81G21]; omega) (show (0 : Int) ≤ 1 ∧ (1 : Int) ≤ 12 by omega)
  have hXG27 : KX G21 G27 := KX.set KX.rf eG27
  have hFG27 : WX (fun x => x = 327681 ∨ (327701 ≤ x ∧ x ≤ 327707)) G G27 := WX.set hFG21 eG27 (by show _; omega)
  have hfG27 : WX (fun x => x = 327705 % 1048576) G21 G27 := WX.set WX.rf eG27 rfl
  have hA81G27 : gS G27 327681 = gS G 327681 := (gset_o eG27 (x := 327681) (by decide)).trans hA81G21
  have hE12G27 : gS G27 327681 12 = gS G 327681 12 := (congrFun (gset_o eG27 (x := 327681) (by decide)) 12).trans hE12G21
  show WP kX5_addLeaf X 50 [some (2, ((327681 : Nat) : Int)), some (0, k), some (0, x)] [] G27
  refine s_aload_n dX5_addLeaf_50 rfl (Int.natCast_nonneg _) ?_
  have hk28 : gK G27 (327681) = (14, 0) := ((hXG27).k hk22 (by decide))
  refine s_alv (327681) (by simp) (fun al29 => ?_)
  have hv30 : gS G27 327681 10 = ((327706 : Nat) : Int) := by have h9 : (gS G27 327681 10) = 327706 := hCG27.1.v (j := 10) (by decide : cde 327681 = 501) al29 (by rw [hk28]; exact Nat.le_of_ble_eq_true rfl); omega
  refine s_getf (ci := 6) (k := 10) (C := RX5) (T := TX5) (N := 18) (n := 327681) (L := 0) (t := 2) dX5_addLeaf_51 rfl wi_73 m_652 (Nat.le_of_ble_eq_true rfl) rfl rfl hk28 hv30 ?_
  refine s_aload_n dX5_addLeaf_54 rfl (Int.natCast_nonneg _) ?_
  have hv31 : 0 ≤ (gS G27 327681 12) ∧ (gS G27 327681 12) ≤ 120 := hCG27.1.v (j := 12) (by decide : cde 327681 = 501) al29 (by rw [hk28]; exact Nat.le_of_ble_eq_true rfl)
  refine s_getf (ci := 6) (k := 12) (C := RX5) (T := TX5) (N := 18) (n := 327681) (L := 0) (t := 0) dX5_addLeaf_55 rfl wi_73 m_658 (Nat.le_of_ble_eq_true rfl) rfl rfl hk28 rfl ?_
  refine s_iload_n dX5_addLeaf_58 rfl ?_
  refine s_bipush dX5_addLeaf_59 rfl (by decide) ?_
  have J33 : ∀ z32 : Int, ((¬ k = ((6 : Int))) ∧ z32 = 0) ∨ ((k = ((6 : Int))) ∧ z32 = i_shl 1 x) → WP kX5_addLeaf X 71 [some (2, ((327681 : Nat) : Int)), some (0, k), some (0, x)] [(0, z32), (0, gS G27 327681 12), (2, ((327706 : Nat) : Int))] G27 := by
    intro z32 hz32
    have hk34 : gK G27 (327706) = (1, 120) := ((hXG27).k ((hXG21).k ((hXG15).k ((hXG9).k ((hXG3).k ap06k (by decide)) (by decide)) (by decide)) (by decide)) (by decide))
    refine s_iast dX5_addLeaf_71 hk34 (by omega) (by omega) ?_
    generalize eG35r : gset G27 327706 ((gS G27 327681 12 : Int).toNat) z32 = G35
    have eG35 := eG35r.symm
    have hCG35 : CI a b G35 := by rw [eG35]; exact hCG27.set (by rw [(by decide : cde 327706 = 526)]; rfl) (by rw [(by decide : cde 327706 = 526)]; exact trivial)
    have hXG35 : KX G27 G35 := KX.set KX.rf eG35
    have hFG35 : WX (fun x => x = 327681 ∨ (327701 ≤ x ∧ x ≤ 327707)) G G35 := WX.set hFG27 eG35 (by show _; omega)
    have hfG35 : WX (fun x => x = 327706 % 1048576) G27 G35 := WX.set WX.rf eG35 rfl
    have hA81G35 : gS G35 327681 = gS G 327681 := (gset_o eG35 (x := 327681) (by decide)).trans hA81G27
    have hE12G35 : gS G35 327681 12 = gS G 327681 12 := (congrFun (gset_o eG35 (x := 327681) (by decide)) 12).trans hE12G27
    show WP kX5_addLeaf X 72 [some (2, ((327681 : Nat) : Int)), some (0, k), some (0, x)] [] G35
    have q01 : gS G35 327701 (gS G 327681 12).toNat = k := by have h9 := gsaE eG3; exact ((((((congrFun (gset_o eG35 (x := 327701) (by decide)) _).trans (congrFun (gset_o eG27 (x := 327701) (by decide)) _)).trans (congrFun (gset_o eG21 (x := 327701) (by decide)) _)).trans (congrFun (gset_o eG15 (x := 327701) (by decide)) _)).trans (congrFun (gset_o eG9 (x := 327701) (by decide)) _)).trans h9)
    have q02 : gS G35 327702 (gS G 327681 12).toNat = x := by have h9 := gsaE eG9; rw [hA81G3] at h9; exact (((((congrFun (gset_o eG35 (x := 327702) (by decide)) _).trans (congrFun (gset_o eG27 (x := 327702) (by decide)) _)).trans (congrFun (gset_o eG21 (x := 327702) (by decide)) _)).trans (congrFun (gset_o eG15 (x := 327702) (by decide)) _)).trans h9)
    have q03 : gS G35 327703 (gS G 327681 12).toNat = (-1) := by have h9 := gsaE eG15; rw [hA81G9] at h9; exact ((((congrFun (gset_o eG35 (x := 327703) (by decide)) _).trans (congrFun (gset_o eG27 (x := 327703) (by decide)) _)).trans (congrFun (gset_o eG21 (x := 327703) (by decide)) _)).trans h9)
    have q04 : gS G35 327704 (gS G 327681 12).toNat = (-1) := by have h9 := gsaE eG21; rw [hA81G15] at h9; exact (((congrFun (gset_o eG35 (x := 327704) (by decide)) _).trans (congrFun (gset_o eG27 (x := 327704) (by decide)) _)).trans h9)
    have q05 : gS G35 327705 (gS G 327681 12).toNat = 1 := by have h9 := gsaE eG27; rw [hA81G21] at h9; exact ((congrFun (gset_o eG35 (x := 327705) (by decide)) _).trans h9)
    have q81 := hA81G35
    refine s_aload_n dX5_addLeaf_72 rfl (Int.natCast_nonneg _) ?_
    have hk38 : gK G35 (327681) = (14, 0) := ((hXG35).k hk28 (by decide))
    refine s_callV (as := []) (rest := []) (n := 327681) (ci := 6) gX5_endExpression dX5_addLeaf_73 m_1402 m_979 m_1705 m_719 m_327 ⟨by decide, by decide, show (parseMethodDescriptor yX5_endExpression.desc).map (fun d => d.parameters.length) = some 0 from by decide +kernel⟩ (Nat.le_of_ble_eq_true rfl) (by rw [hcf]; exact Nat.le_of_ble_eq_true rfl) hk38 rfl rfl (Nat.le_of_ble_eq_true rfl) ⟨a, b, rfl, hCG35, hab, (by rw [q81]; omega), (by rw [q81, q01, q02, q03, q04, q05]; refine ⟨by omega, by omega, by omega, by omega, by omega, fun z => absurd z (by omega), by omega⟩), fun rr37 G36 hCG36 hXG36 hfG36 hpG36 => ?_⟩
    have hFG36 : WX (fun x => x = 327681 ∨ (327701 ≤ x ∧ x ≤ 327707)) G G36 := WX.trans hFG35 (KX.trans (KX.trans (KX.trans (KX.trans (KX.trans hXG3 hXG9) hXG15) hXG21) hXG27) hXG35) (WX.mono hfG36 (fun x hx => by omega))
    show WP kX5_addLeaf X 76 [some (2, ((327681 : Nat) : Int)), some (0, k), some (0, x)] [(0, rr37)] G36
    exact s_iret hR dX5_addLeaf_76 rfl (hQ rr37 G36 hCG36 (KX.trans (KX.trans (KX.trans (KX.trans (KX.trans (KX.trans hXG3 hXG9) hXG15) hXG21) hXG27) hXG35) hXG36) hFG36 ⟨by have h9 := hpG36.1; rw [q81] at h9; exact h9, by have h9 := hpG36.2; rw [q81] at h9; exact h9⟩)
  refine s_icmp_ne (tgt := 70) dX5_addLeaf_61 (by decide) (fun c39 => ?_) (fun c39 => ?_)
  · -- 61 to 70
    refine s_iconst dX5_addLeaf_70 (by decide) ?_
    exact J33 0 (Or.inl ⟨c39, rfl⟩)
  · -- 61 to 64
    refine s_iconst dX5_addLeaf_64 (by decide) ?_
    refine s_iload_n dX5_addLeaf_65 rfl ?_
    refine s_ishl dX5_addLeaf_66 ?_
    refine s_goto (tgt := 71) dX5_addLeaf_67 (by decide) ?_
    exact J33 _ (Or.inr (⟨c39, rfl⟩))

abbrev kX5_addExpression : KD := (RX5, cX5_addExpression, 6, (some .int), [])
def TX5_addExpression : TR := fun as G Qr => ∃ (k x y z : Int) (a b : Nat), as = [(2, ((327681 : Nat) : Int)), (0, k), (0, x), (0, y), (0, z)] ∧ CI a b G ∧ (a ≤ 2840000 ∧ b ≤ 590000) ∧ (0 ≤ k ∧ k ≤ 4) ∧ (0 ≤ x ∧ x < gS G 327681 12) ∧ (-1 ≤ y ∧ y < gS G 327681 12) ∧ (-1 ≤ z ∧ z < gS G 327681 12) ∧ (¬ k = 2 → ¬ k = 3 → 0 ≤ y) ∧ (k = 4 → 0 ≤ z) ∧ (gS G 327681 12 < 120) ∧ (1 + gS G 327705 x.toNat + (if y < 0 then 0 else gS G 327705 y.toNat) + (if z < 0 then 0 else gS G 327705 z.toNat) ≤ 12) ∧ ∀ (r : Int) (G' : LG), CI a b G' → KX G G' → WX (fun x => x = 327681 ∨ (327701 ≤ x ∧ x ≤ 327707)) G G' → (r = gS G 327681 12 ∧ gS G' 327681 12 = gS G 327681 12 + 1) → Qr (.inl (some (0, r))) G'
set_option maxHeartbeats 4000000 in
set_option maxRecDepth 100000 in
theorem gX5_addExpression : Good kX5_addExpression yX5_addExpression 1 TX5_addExpression := by
  refine good_of (by decide) rfl rfl (fun as G Qr h => ?_) (fun X as G Qr hcf hR hT oa => ?_)
  · obtain ⟨k, x, y, z, a, b, rfl, -⟩ := h; exact Nat.le_of_ble_eq_true rfl
  obtain ⟨k, x, y, z, a, b, rfl, hC, hab, hk, hx, hy, hz, hyk, hzk, hc, hw, hQ⟩ := hT
  show WP kX5_addExpression X 0 [some (2, ((327681 : Nat) : Int)), some (0, k), some (0, x), some (0, y), some (0, z), none] [] G
  have hr_k : inR k := okv_R (oa _ (by simp))
  have hr_x : inR x := okv_R (oa _ (by simp))
  have hr_y : inR y := okv_R (oa _ (by simp))
  have hr_z : inR z := okv_R (oa _ (by simp))
  have hw9 := fun (_ : Unit) => hw
  clear hw
  have hyk9 := fun (_ : Unit) => hyk
  clear hyk
  have hzk9 := fun (_ : Unit) => hzk
  clear hzk
  refine s_alvl 327681 (k := 0) rfl (fun alp => ?_)
  have kp : gK G 327681 = (14, 0) := hC.1.k (c := 501) (by decide) alp
  have hc4 : 0 ≤ gS G 327681 4 ∧ gS G 327681 4 ≤ 60 := hC.1.v (c := 501) (j := 4) (by decide) alp (by rw [kp]; exact Nat.le_of_ble_eq_true rfl)
  have hc12 : 0 ≤ gS G 327681 12 ∧ gS G 327681 12 ≤ 120 := hC.1.v (c := 501) (j := 12) (by decide) alp (by rw [kp]; exact Nat.le_of_ble_eq_true rfl)
  have hA81 : gS G 327681 = gS G 327681 := rfl
  have hE12 : gS G 327681 12 = gS G 327681 12 := rfl
  have hL7 : gS G 327707 = gS G 327707 := rfl
  refine s_alh (327681) 5 alp (by rw [kp]; exact Nat.le_of_ble_eq_true rfl) (by rw [kp]; rfl) (fun ap01x => ?_)
  have ap01v : gS G 327681 5 = ((327701 : Nat) : Int) := by have h9 : (gS G 327681 5) = 327701 := hC.1.v (j := 5) (by decide : cde 327681 = 501) alp (by rw [kp]; exact Nat.le_of_ble_eq_true rfl); omega
  have ap01 : (gK G (327701)).1 ≠ 0 := by have h9 := ap01x (by omega); rw [ap01v, Int.toNat_natCast] at h9; exact h9
  have ap01k : gK G (327701) = (1, 120) := hC.1.k (by decide : cde 327701 = 521) ap01
  refine s_alh (327681) 6 alp (by rw [kp]; exact Nat.le_of_ble_eq_true rfl) (by rw [kp]; rfl) (fun ap02x => ?_)
  have ap02v : gS G 327681 6 = ((327702 : Nat) : Int) := by have h9 : (gS G 327681 6) = 327702 := hC.1.v (j := 6) (by decide : cde 327681 = 501) alp (by rw [kp]; exact Nat.le_of_ble_eq_true rfl); omega
  have ap02 : (gK G (327702)).1 ≠ 0 := by have h9 := ap02x (by omega); rw [ap02v, Int.toNat_natCast] at h9; exact h9
  have ap02k : gK G (327702) = (1, 120) := hC.1.k (by decide : cde 327702 = 522) ap02
  refine s_alh (327681) 7 alp (by rw [kp]; exact Nat.le_of_ble_eq_true rfl) (by rw [kp]; rfl) (fun ap03x => ?_)
  have ap03v : gS G 327681 7 = ((327703 : Nat) : Int) := by have h9 : (gS G 327681 7) = 327703 := hC.1.v (j := 7) (by decide : cde 327681 = 501) alp (by rw [kp]; exact Nat.le_of_ble_eq_true rfl); omega
  have ap03 : (gK G (327703)).1 ≠ 0 := by have h9 := ap03x (by omega); rw [ap03v, Int.toNat_natCast] at h9; exact h9
  have ap03k : gK G (327703) = (1, 120) := hC.1.k (by decide : cde 327703 = 523) ap03
  refine s_alh (327681) 8 alp (by rw [kp]; exact Nat.le_of_ble_eq_true rfl) (by rw [kp]; rfl) (fun ap04x => ?_)
  have ap04v : gS G 327681 8 = ((327704 : Nat) : Int) := by have h9 : (gS G 327681 8) = 327704 := hC.1.v (j := 8) (by decide : cde 327681 = 501) alp (by rw [kp]; exact Nat.le_of_ble_eq_true rfl); omega
  have ap04 : (gK G (327704)).1 ≠ 0 := by have h9 := ap04x (by omega); rw [ap04v, Int.toNat_natCast] at h9; exact h9
  have ap04k : gK G (327704) = (1, 120) := hC.1.k (by decide : cde 327704 = 524) ap04
  refine s_alh (327681) 9 alp (by rw [kp]; exact Nat.le_of_ble_eq_true rfl) (by rw [kp]; rfl) (fun ap05x => ?_)
  have ap05v : gS G 327681 9 = ((327705 : Nat) : Int) := by have h9 : (gS G 327681 9) = 327705 := hC.1.v (j := 9) (by decide : cde 327681 = 501) alp (by rw [kp]; exact Nat.le_of_ble_eq_true rfl); omega
  have ap05 : (gK G (327705)).1 ≠ 0 := by have h9 := ap05x (by omega); rw [ap05v, Int.toNat_natCast] at h9; exact h9
  have ap05k : gK G (327705) = (1, 120) := hC.1.k (by decide : cde 327705 = 525) ap05
  refine s_alh (327681) 10 alp (by rw [kp]; exact Nat.le_of_ble_eq_true rfl) (by rw [kp]; rfl) (fun ap06x => ?_)
  have ap06v : gS G 327681 10 = ((327706 : Nat) : Int) := by have h9 : (gS G 327681 10) = 327706 := hC.1.v (j := 10) (by decide : cde 327681 = 501) alp (by rw [kp]; exact Nat.le_of_ble_eq_true rfl); omega
  have ap06 : (gK G (327706)).1 ≠ 0 := by have h9 := ap06x (by omega); rw [ap06v, Int.toNat_natCast] at h9; exact h9
  have ap06k : gK G (327706) = (1, 120) := hC.1.k (by decide : cde 327706 = 526) ap06
  refine s_alh (327681) 11 alp (by rw [kp]; exact Nat.le_of_ble_eq_true rfl) (by rw [kp]; rfl) (fun ap07x => ?_)
  have ap07v : gS G 327681 11 = ((327707 : Nat) : Int) := by have h9 : (gS G 327681 11) = 327707 := hC.1.v (j := 11) (by decide : cde 327681 = 501) alp (by rw [kp]; exact Nat.le_of_ble_eq_true rfl); omega
  have ap07 : (gK G (327707)).1 ≠ 0 := by have h9 := ap07x (by omega); rw [ap07v, Int.toNat_natCast] at h9; exact h9
  have ap07k : gK G (327707) = (1, 120) := hC.1.k (by decide : cde 327707 = 527) ap07
  refine s_aload_n dX5_addExpression_0 rfl (Int.natCast_nonneg _) ?_
  have hv1 : 0 ≤ (gS G 327681 12) ∧ (gS G 327681 12) ≤ 120 := hC.1.v (j := 12) (by decide : cde 327681 = 501) alp (by rw [kp]; exact Nat.le_of_ble_eq_true rfl)
  refine s_getf (ci := 6) (k := 12) (C := RX5) (T := TX5) (N := 18) (n := 327681) (L := 0) (t := 0) dX5_addExpression_1 rfl wi_73 m_658 (Nat.le_of_ble_eq_true rfl) rfl rfl kp rfl ?_
  refine s_istore dX5_addExpression_4 (by decide) (lv' := [some (2, ((327681 : Nat) : Int)), some (0, k), some (0, x), some (0, y), some (0, z), some (0, gS G 327681 12)]) rfl ?_
  have hx6 := (hC.2.2.2.2.2.2.1 x (by omega) (by omega)).2.2.2.2.2.2.2
  have hlx := (hC.1.v (c := 527) (j := x.toNat) (by decide) ap07 (by rw [hC.1.k (c := 527) (by decide) ap07]; show x.toNat < 120; omega) : 0 ≤ gS G 327707 x.toNat ∧ gS G 327707 x.toNat ≤ 119)
  have hy6 : ∀ (_ : Unit), 0 ≤ y → (gS G 327707 y.toNat ≤ y ∧ gS G 327705 (gS G 327707 y.toNat).toNat = gS G 327705 y.toNat) ∧ (0 ≤ gS G 327707 y.toNat ∧ gS G 327707 y.toNat ≤ 119) := fun _ w => ⟨(hC.2.2.2.2.2.2.1 y w (by omega)).2.2.2.2.2.2.2, (hC.1.v (c := 527) (j := y.toNat) (by decide) ap07 (by rw [hC.1.k (c := 527) (by decide) ap07]; show y.toNat < 120; omega) : 0 ≤ gS G 327707 y.toNat ∧ gS G 327707 y.toNat ≤ 119)⟩
  have hz6 : ∀ (_ : Unit), 0 ≤ z → (gS G 327707 z.toNat ≤ z ∧ gS G 327705 (gS G 327707 z.toNat).toNat = gS G 327705 z.toNat) ∧ (0 ≤ gS G 327707 z.toNat ∧ gS G 327707 z.toNat ≤ 119) := fun _ w => ⟨(hC.2.2.2.2.2.2.1 z w (by omega)).2.2.2.2.2.2.2, (hC.1.v (c := 527) (j := z.toNat) (by decide) ap07 (by rw [hC.1.k (c := 527) (by decide) ap07]; show z.toNat < 120; omega) : 0 ≤ gS G 327707 z.toNat ∧ gS G 327707 z.toNat ≤ 119)⟩
  refine s_aload_n dX5_addExpression_6 rfl (Int.natCast_nonneg _) ?_
  have hv2 : gS G 327681 5 = ((327701 : Nat) : Int) := by have h9 : (gS G 327681 5) = 327701 := hC.1.v (j := 5) (by decide : cde 327681 = 501) alp (by rw [kp]; exact Nat.le_of_ble_eq_true rfl); omega
  refine s_getf (ci := 6) (k := 5) (C := RX5) (T := TX5) (N := 18) (n := 327681) (L := 0) (t := 2) dX5_addExpression_7 rfl wi_73 m_647 (Nat.le_of_ble_eq_true rfl) rfl rfl kp hv2 ?_
  refine s_iload dX5_addExpression_10 rfl ?_
  refine s_iload_n dX5_addExpression_12 rfl ?_
  refine s_iast dX5_addExpression_13 ap01k (by omega) (by omega) ?_
  generalize eG3r : gset G 327701 ((gS G 327681 12 : Int).toNat) k = G3
  have eG3 := eG3r.symm
  have hCG3 : CI a b G3 := by rw [eG3]; exact hC.exprPut (by decide) (by decide) (by rw [hA81]; omega) (show (0 : Int) ≤ k ∧ k ≤ 6 by omega)
  have hXG3 : KX G G3 := KX.set KX.rf eG3
  have hFG3 : WX (fun x => x = 327681 ∨ (327701 ≤ x ∧ x ≤ 327707)) G G3 := WX.set WX.rf eG3 (by show _; omega)
  have hfG3 : WX (fun x => x = 327701 % 1048576) G G3 := WX.set WX.rf eG3 rfl
  have hA81G3 : gS G3 327681 = gS G 327681 := (gset_o eG3 (x := 327681) (by decide)).trans hA81
  have hE12G3 : gS G3 327681 12 = gS G 327681 12 := (congrFun (gset_o eG3 (x := 327681) (by decide)) 12).trans hE12
  have hL7G3 : gS G3 327707 = gS G 327707 := (gset_o eG3 (x := 327707) (by decide)).trans hL7
  show WP kX5_addExpression X 14 [some (2, ((327681 : Nat) : Int)), some (0, k), some (0, x), some (0, y), some (0, z), some (0, gS G 327681 12)] [] G3
  refine s_aload_n dX5_addExpression_14 rfl (Int.natCast_nonneg _) ?_
  have hk4 : gK G3 (327681) = (14, 0) := ((hXG3).k kp (by decide))
  refine s_alv (327681) (by simp) (fun al5 => ?_)
  have hv6 : gS G3 327681 6 = ((327702 : Nat) : Int) := by have h9 : (gS G3 327681 6) = 327702 := hCG3.1.v (j := 6) (by decide : cde 327681 = 501) al5 (by rw [hk4]; exact Nat.le_of_ble_eq_true rfl); omega
  refine s_getf (ci := 6) (k := 6) (C := RX5) (T := TX5) (N := 18) (n := 327681) (L := 0) (t := 2) dX5_addExpression_15 rfl wi_73 m_648 (Nat.le_of_ble_eq_true rfl) rfl rfl hk4 hv6 ?_
  have e7x : gS G3 327707 (x : Int).toNat = gS G 327707 x.toNat := by rw [hL7G3]
  refine s_iload dX5_addExpression_18 rfl ?_
  refine s_aload_n dX5_addExpression_20 rfl (Int.natCast_nonneg _) ?_
  have hv7 : gS G3 327681 11 = ((327707 : Nat) : Int) := by have h9 : (gS G3 327681 11) = 327707 := hCG3.1.v (j := 11) (by decide : cde 327681 = 501) al5 (by rw [hk4]; exact Nat.le_of_ble_eq_true rfl); omega
  refine s_getf (ci := 6) (k := 11) (C := RX5) (T := TX5) (N := 18) (n := 327681) (L := 0) (t := 2) dX5_addExpression_21 rfl wi_73 m_653 (Nat.le_of_ble_eq_true rfl) rfl rfl hk4 hv7 ?_
  refine s_iload_n dX5_addExpression_24 rfl ?_
  have hk8 : gK G3 (327707) = (1, 120) := ((hXG3).k ap07k (by decide))
  refine s_alv (327707) (by simp) (fun al9 => ?_)
  have hv10 : 0 ≤ (gS G3 327707 (x : Int).toNat) ∧ (gS G3 327707 (x : Int).toNat) ≤ 119 := hCG3.1.v (j := (x : Int).toNat) (by decide : cde 327707 = 527) al9 (by rw [hk8]; show (x : Int).toNat < 120; omega)
  refine s_iald dX5_addExpression_25 hk8 (by omega) (by omega) rfl ?_
  have hk11 : gK G3 (327702) = (1, 120) := ((hXG3).k ap02k (by decide))
  refine s_iast dX5_addExpression_26 hk11 (by omega) (by omega) ?_
  generalize eG12r : gset G3 327702 ((gS G 327681 12 : Int).toNat) (gS G3 327707 ((x : Int).toNat)) = G12
  have eG12 := eG12r.symm
  have hCG12 : CI a b G12 := by rw [eG12]; exact hCG3.exprPut (by decide) (by decide) (by rw [hA81G3]; omega) (True.intro)
  have hXG12 : KX G3 G12 := KX.set KX.rf eG12
  have hFG12 : WX (fun x => x = 327681 ∨ (327701 ≤ x ∧ x ≤ 327707)) G G12 := WX.set hFG3 eG12 (by show _; omega)
  have hfG12 : WX (fun x => x = 327702 % 1048576) G3 G12 := WX.set WX.rf eG12 rfl
  have hA81G12 : gS G12 327681 = gS G 327681 := (gset_o eG12 (x := 327681) (by decide)).trans hA81G3
  have hE12G12 : gS G12 327681 12 = gS G 327681 12 := (congrFun (gset_o eG12 (x := 327681) (by decide)) 12).trans hE12G3
  have hL7G12 : gS G12 327707 = gS G 327707 := (gset_o eG12 (x := 327707) (by decide)).trans hL7G3
  show WP kX5_addExpression X 27 [some (2, ((327681 : Nat) : Int)), some (0, k), some (0, x), some (0, y), some (0, z), some (0, gS G 327681 12)] [] G12
  refine s_aload_n dX5_addExpression_27 rfl (Int.natCast_nonneg _) ?_
  have hk13 : gK G12 (327681) = (14, 0) := ((hXG12).k hk4 (by decide))
  refine s_alv (327681) (by simp) (fun al14 => ?_)
  have hv15 : gS G12 327681 7 = ((327703 : Nat) : Int) := by have h9 : (gS G12 327681 7) = 327703 := hCG12.1.v (j := 7) (by decide : cde 327681 = 501) al14 (by rw [hk13]; exact Nat.le_of_ble_eq_true rfl); omega
  refine s_getf (ci := 6) (k := 7) (C := RX5) (T := TX5) (N := 18) (n := 327681) (L := 0) (t := 2) dX5_addExpression_28 rfl wi_73 m_649 (Nat.le_of_ble_eq_true rfl) rfl rfl hk13 hv15 ?_
  refine s_iload dX5_addExpression_31 rfl ?_
  refine s_iload_n dX5_addExpression_33 rfl ?_
  have J21 : ∀ z20 : Int, ((0 ≤ y) ∧ z20 = gS G12 327707 ((y : Int).toNat)) ∨ ((¬ 0 ≤ y) ∧ z20 = (-1)) → WP kX5_addExpression X 47 [some (2, ((327681 : Nat) : Int)), some (0, k), some (0, x), some (0, y), some (0, z), some (0, gS G 327681 12)] [(0, z20), (0, gS G 327681 12), (2, ((327703 : Nat) : Int))] G12 := by
    intro z20 hz20
    have e7y : gS G12 327707 y.toNat = gS G 327707 y.toNat := by rw [hL7G12]
    have hsy : (-1 ≤ z20 ∧ z20 ≤ 119) ∧ (z20 < 0 ↔ y < 0) := by by_cases w : y < 0; (focus (have e : z20 = -1 := by omega); omega); (focus (have e : z20 = gS G 327707 y.toNat := by omega); have h9 := hy6 () (by omega); omega)
    have hk22 : gK G12 (327703) = (1, 120) := ((hXG12).k ((hXG3).k ap03k (by decide)) (by decide))
    refine s_iast dX5_addExpression_47 hk22 (by omega) (by omega) ?_
    generalize eG23r : gset G12 327703 ((gS G 327681 12 : Int).toNat) z20 = G23
    have eG23 := eG23r.symm
    have hCG23 : CI a b G23 := by rw [eG23]; exact hCG12.exprPut (by decide) (by decide) (by rw [hA81G12]; omega) (show (-1 : Int) ≤ z20 ∧ z20 ≤ 119 by omega)
    have hXG23 : KX G12 G23 := KX.set KX.rf eG23
    have hFG23 : WX (fun x => x = 327681 ∨ (327701 ≤ x ∧ x ≤ 327707)) G G23 := WX.set hFG12 eG23 (by show _; omega)
    have hfG23 : WX (fun x => x = 327703 % 1048576) G12 G23 := WX.set WX.rf eG23 rfl
    have hA81G23 : gS G23 327681 = gS G 327681 := (gset_o eG23 (x := 327681) (by decide)).trans hA81G12
    have hE12G23 : gS G23 327681 12 = gS G 327681 12 := (congrFun (gset_o eG23 (x := 327681) (by decide)) 12).trans hE12G12
    have hL7G23 : gS G23 327707 = gS G 327707 := (gset_o eG23 (x := 327707) (by decide)).trans hL7G12
    show WP kX5_addExpression X 48 [some (2, ((327681 : Nat) : Int)), some (0, k), some (0, x), some (0, y), some (0, z), some (0, gS G 327681 12)] [] G23
    refine s_aload_n dX5_addExpression_48 rfl (Int.natCast_nonneg _) ?_
    have hk24 : gK G23 (327681) = (14, 0) := ((hXG23).k hk13 (by decide))
    refine s_alv (327681) (by simp) (fun al25 => ?_)
    have hv26 : gS G23 327681 8 = ((327704 : Nat) : Int) := by have h9 : (gS G23 327681 8) = 327704 := hCG23.1.v (j := 8) (by decide : cde 327681 = 501) al25 (by rw [hk24]; exact Nat.le_of_ble_eq_true rfl); omega
    refine s_getf (ci := 6) (k := 8) (C := RX5) (T := TX5) (N := 18) (n := 327681) (L := 0) (t := 2) dX5_addExpression_49 rfl wi_73 m_650 (Nat.le_of_ble_eq_true rfl) rfl rfl hk24 hv26 ?_
    refine s_iload dX5_addExpression_52 rfl ?_
    refine s_iload dX5_addExpression_54 rfl ?_
    have J32 : ∀ z31 : Int, ((0 ≤ z) ∧ z31 = gS G23 327707 ((z : Int).toNat)) ∨ ((¬ 0 ≤ z) ∧ z31 = (-1)) → WP kX5_addExpression X 70 [some (2, ((327681 : Nat) : Int)), some (0, k), some (0, x), some (0, y), some (0, z), some (0, gS G 327681 12)] [(0, z31), (0, gS G 327681 12), (2, ((327704 : Nat) : Int))] G23 := by
      intro z31 hz31
      have e7z : gS G23 327707 z.toNat = gS G 327707 z.toNat := by rw [hL7G23]
      have hsz : (-1 ≤ z31 ∧ z31 ≤ 119) ∧ (z31 < 0 ↔ z < 0) := by by_cases w : z < 0; (focus (have e : z31 = -1 := by omega); omega); (focus (have e : z31 = gS G 327707 z.toNat := by omega); have h9 := hz6 () (by omega); omega)
      have hk33 : gK G23 (327704) = (1, 120) := ((hXG23).k ((hXG12).k ((hXG3).k ap04k (by decide)) (by decide)) (by decide))
      refine s_iast dX5_addExpression_70 hk33 (by omega) (by omega) ?_
      generalize eG34r : gset G23 327704 ((gS G 327681 12 : Int).toNat) z31 = G34
      have eG34 := eG34r.symm
      have hCG34 : CI a b G34 := by rw [eG34]; exact hCG23.exprPut (by decide) (by decide) (by rw [hA81G23]; omega) (show (-1 : Int) ≤ z31 ∧ z31 ≤ 119 by omega)
      have hXG34 : KX G23 G34 := KX.set KX.rf eG34
      have hFG34 : WX (fun x => x = 327681 ∨ (327701 ≤ x ∧ x ≤ 327707)) G G34 := WX.set hFG23 eG34 (by show _; omega)
      have hfG34 : WX (fun x => x = 327704 % 1048576) G23 G34 := WX.set WX.rf eG34 rfl
      have hA81G34 : gS G34 327681 = gS G 327681 := (gset_o eG34 (x := 327681) (by decide)).trans hA81G23
      have hE12G34 : gS G34 327681 12 = gS G 327681 12 := (congrFun (gset_o eG34 (x := 327681) (by decide)) 12).trans hE12G23
      have hL7G34 : gS G34 327707 = gS G 327707 := (gset_o eG34 (x := 327707) (by decide)).trans hL7G23
      show WP kX5_addExpression X 71 [some (2, ((327681 : Nat) : Int)), some (0, k), some (0, x), some (0, y), some (0, z), some (0, gS G 327681 12)] [] G34
      refine s_aload_n dX5_addExpression_71 rfl (Int.natCast_nonneg _) ?_
      have hk35 : gK G34 (327681) = (14, 0) := ((hXG34).k hk24 (by decide))
      refine s_alv (327681) (by simp) (fun al36 => ?_)
      have hv37 : gS G34 327681 9 = ((327705 : Nat) : Int) := by have h9 : (gS G34 327681 9) = 327705 := hCG34.1.v (j := 9) (by decide : cde 327681 = 501) al36 (by rw [hk35]; exact Nat.le_of_ble_eq_true rfl); omega
      refine s_getf (ci := 6) (k := 9) (C := RX5) (T := TX5) (N := 18) (n := 327681) (L := 0) (t := 2) dX5_addExpression_72 rfl wi_73 m_651 (Nat.le_of_ble_eq_true rfl) rfl rfl hk35 hv37 ?_
      refine s_iload dX5_addExpression_75 rfl ?_
      refine s_aload_n dX5_addExpression_77 rfl (Int.natCast_nonneg _) ?_
      refine s_iload_n dX5_addExpression_78 rfl ?_
      refine s_iload_n dX5_addExpression_79 rfl ?_
      refine s_iload dX5_addExpression_80 rfl ?_
      refine s_callV (as := [(0, x), (0, y), (0, z)]) (rest := [(0, gS G 327681 12), (2, ((327705 : Nat) : Int))]) (n := 327681) (ci := 6) gX5_weightOf dX5_addExpression_82 m_1403 m_985 m_1710 m_719 m_333 ⟨by decide, by decide, show (parseMethodDescriptor yX5_weightOf.desc).map (fun d => d.parameters.length) = some 3 from by decide +kernel⟩ (Nat.le_of_ble_eq_true rfl) (by rw [hcf]; exact Nat.le_of_ble_eq_true rfl) hk35 rfl rfl (Nat.le_of_ble_eq_true rfl) ⟨x, y, z, a, b, rfl, hCG34, hab, (by omega), (by omega), (by omega), fun rr38 hp39 => ?_⟩
      show WP kX5_addExpression X 85 [some (2, ((327681 : Nat) : Int)), some (0, k), some (0, x), some (0, y), some (0, z), some (0, gS G 327681 12)] [(0, rr38), (0, gS G 327681 12), (2, ((327705 : Nat) : Int))] G34
      have h05 : gS G34 327705 = gS G 327705 := ((((gset_o eG34 (x := 327705) (by decide)).trans (gset_o eG23 (x := 327705) (by decide))).trans (gset_o eG12 (x := 327705) (by decide))).trans (gset_o eG3 (x := 327705) (by decide)))
      have hr9 := hp39
      rw [h05] at hr9
      have hw0 := hw9 ()
      have hr12 : rr38 ≤ 12 := by rw [hr9]; exact hw0
      have hwx := (hC.2.2.2.2.2.2.1 x (by omega) (by omega)).2.2.2.2.2.2.1
      have hr1 : 1 ≤ rr38 := by rw [hr9]; have y9 : 0 ≤ (if y < 0 then (0 : Int) else gS G 327705 y.toNat) := (by split; omega; (have := (hC.2.2.2.2.2.2.1 y (by omega) (by omega)).2.2.2.2.2.2.1; omega)); have z9 : 0 ≤ (if z < 0 then (0 : Int) else gS G 327705 z.toNat) := (by split; omega; (have := (hC.2.2.2.2.2.2.1 z (by omega) (by omega)).2.2.2.2.2.2.1; omega)); omega
      clear hw0
      have hk40 : gK G34 (327705) = (1, 120) := ((hXG34).k ((hXG23).k ((hXG12).k ((hXG3).k ap05k (by decide)) (by decide)) (by decide)) (by decide))
      refine s_iast dX5_addExpression_85 hk40 (by omega) (by omega) ?_
      generalize eG41r : gset G34 327705 ((gS G 327681 12 : Int).toNat) rr38 = G41
      have eG41 := eG41r.symm
      have hCG41 : CI a b G41 := by rw [eG41]; exact hCG34.exprPut (by decide) (by decide) (by rw [hA81G34]; omega) (show (0 : Int) ≤ rr38 ∧ rr38 ≤ 12 by omega)
      have hXG41 : KX G34 G41 := KX.set KX.rf eG41
      have hFG41 : WX (fun x => x = 327681 ∨ (327701 ≤ x ∧ x ≤ 327707)) G G41 := WX.set hFG34 eG41 (by show _; omega)
      have hfG41 : WX (fun x => x = 327705 % 1048576) G34 G41 := WX.set WX.rf eG41 rfl
      have hA81G41 : gS G41 327681 = gS G 327681 := (gset_o eG41 (x := 327681) (by decide)).trans hA81G34
      have hE12G41 : gS G41 327681 12 = gS G 327681 12 := (congrFun (gset_o eG41 (x := 327681) (by decide)) 12).trans hE12G34
      have hL7G41 : gS G41 327707 = gS G 327707 := (gset_o eG41 (x := 327707) (by decide)).trans hL7G34
      show WP kX5_addExpression X 86 [some (2, ((327681 : Nat) : Int)), some (0, k), some (0, x), some (0, y), some (0, z), some (0, gS G 327681 12)] [] G41
      refine s_aload_n dX5_addExpression_86 rfl (Int.natCast_nonneg _) ?_
      have hk42 : gK G41 (327681) = (14, 0) := ((hXG41).k hk35 (by decide))
      refine s_alv (327681) (by simp) (fun al43 => ?_)
      have hv44 : gS G41 327681 10 = ((327706 : Nat) : Int) := by have h9 : (gS G41 327681 10) = 327706 := hCG41.1.v (j := 10) (by decide : cde 327681 = 501) al43 (by rw [hk42]; exact Nat.le_of_ble_eq_true rfl); omega
      refine s_getf (ci := 6) (k := 10) (C := RX5) (T := TX5) (N := 18) (n := 327681) (L := 0) (t := 2) dX5_addExpression_87 rfl wi_73 m_652 (Nat.le_of_ble_eq_true rfl) rfl rfl hk42 hv44 ?_
      refine s_iload dX5_addExpression_90 rfl ?_
      refine s_aload_n dX5_addExpression_92 rfl (Int.natCast_nonneg _) ?_
      have hv45 : gS G41 327681 10 = ((327706 : Nat) : Int) := by have h9 : (gS G41 327681 10) = 327706 := hCG41.1.v (j := 10) (by decide : cde 327681 = 501) al43 (by rw [hk42]; exact Nat.le_of_ble_eq_true rfl); omega
      refine s_getf (ci := 6) (k := 10) (C := RX5) (T := TX5) (N := 18) (n := 327681) (L := 0) (t := 2) dX5_addExpression_93 rfl wi_73 m_652 (Nat.le_of_ble_eq_true rfl) rfl rfl hk42 hv45 ?_
      refine s_iload_n dX5_addExpression_96 rfl ?_
      have hk46 : gK G41 (327706) = (1, 120) := ((hXG41).k ((hXG34).k ((hXG23).k ((hXG12).k ((hXG3).k ap06k (by decide)) (by decide)) (by decide)) (by decide)) (by decide))
      refine s_iald dX5_addExpression_97 hk46 (by omega) (by omega) rfl ?_
      refine s_iload_n dX5_addExpression_98 rfl ?_
      have J49 : ∀ z48 : Int, ((0 ≤ y) ∧ z48 = gS G41 327706 ((y : Int).toNat)) ∨ ((¬ 0 ≤ y) ∧ z48 = 0) → WP kX5_addExpression X 112 [some (2, ((327681 : Nat) : Int)), some (0, k), some (0, x), some (0, y), some (0, z), some (0, gS G 327681 12)] [(0, z48), (0, gS G41 327706 ((x : Int).toNat)), (0, gS G 327681 12), (2, ((327706 : Nat) : Int))] G41 := by
        intro z48 hz48
        refine s_ior dX5_addExpression_112 ?_
        refine s_iload dX5_addExpression_113 rfl ?_
        have J52 : ∀ z51 : Int, ((0 ≤ z) ∧ z51 = gS G41 327706 ((z : Int).toNat)) ∨ ((¬ 0 ≤ z) ∧ z51 = 0) → WP kX5_addExpression X 129 [some (2, ((327681 : Nat) : Int)), some (0, k), some (0, x), some (0, y), some (0, z), some (0, gS G 327681 12)] [(0, z51), (0, i_or (gS G41 327706 ((x : Int).toNat)) z48), (0, gS G 327681 12), (2, ((327706 : Nat) : Int))] G41 := by
          intro z51 hz51
          refine s_ior dX5_addExpression_129 ?_
          refine s_iast dX5_addExpression_130 hk46 (by omega) (by omega) ?_
          generalize eG53r : gset G41 327706 ((gS G 327681 12 : Int).toNat) (i_or (i_or (gS G41 327706 ((x : Int).toNat)) z48) z51) = G53
          have eG53 := eG53r.symm
          have hCG53 : CI a b G53 := by rw [eG53]; exact hCG41.set (by rw [(by decide : cde 327706 = 526)]; rfl) (by rw [(by decide : cde 327706 = 526)]; exact trivial)
          have hXG53 : KX G41 G53 := KX.set KX.rf eG53
          have hFG53 : WX (fun x => x = 327681 ∨ (327701 ≤ x ∧ x ≤ 327707)) G G53 := WX.set hFG41 eG53 (by show _; omega)
          have hfG53 : WX (fun x => x = 327706 % 1048576) G41 G53 := WX.set WX.rf eG53 rfl
          have hA81G53 : gS G53 327681 = gS G 327681 := (gset_o eG53 (x := 327681) (by decide)).trans hA81G41
          have hE12G53 : gS G53 327681 12 = gS G 327681 12 := (congrFun (gset_o eG53 (x := 327681) (by decide)) 12).trans hE12G41
          have hL7G53 : gS G53 327707 = gS G 327707 := (gset_o eG53 (x := 327707) (by decide)).trans hL7G41
          show WP kX5_addExpression X 131 [some (2, ((327681 : Nat) : Int)), some (0, k), some (0, x), some (0, y), some (0, z), some (0, gS G 327681 12)] [] G53
          have q01 : gS G53 327701 (gS G 327681 12).toNat = k := by have h9 := gsaE eG3; exact ((((((congrFun (gset_o eG53 (x := 327701) (by decide)) _).trans (congrFun (gset_o eG41 (x := 327701) (by decide)) _)).trans (congrFun (gset_o eG34 (x := 327701) (by decide)) _)).trans (congrFun (gset_o eG23 (x := 327701) (by decide)) _)).trans (congrFun (gset_o eG12 (x := 327701) (by decide)) _)).trans h9)
          have q02 : gS G53 327702 (gS G 327681 12).toNat = gS G3 327707 ((x : Int).toNat) := by have h9 := gsaE eG12; exact (((((congrFun (gset_o eG53 (x := 327702) (by decide)) _).trans (congrFun (gset_o eG41 (x := 327702) (by decide)) _)).trans (congrFun (gset_o eG34 (x := 327702) (by decide)) _)).trans (congrFun (gset_o eG23 (x := 327702) (by decide)) _)).trans h9)
          have q03 : gS G53 327703 (gS G 327681 12).toNat = z20 := by have h9 := gsaE eG23; exact ((((congrFun (gset_o eG53 (x := 327703) (by decide)) _).trans (congrFun (gset_o eG41 (x := 327703) (by decide)) _)).trans (congrFun (gset_o eG34 (x := 327703) (by decide)) _)).trans h9)
          have q04 : gS G53 327704 (gS G 327681 12).toNat = z31 := by have h9 := gsaE eG34; exact (((congrFun (gset_o eG53 (x := 327704) (by decide)) _).trans (congrFun (gset_o eG41 (x := 327704) (by decide)) _)).trans h9)
          have q05 : gS G53 327705 (gS G 327681 12).toNat = rr38 := by have h9 := gsaE eG41; exact ((congrFun (gset_o eG53 (x := 327705) (by decide)) _).trans h9)
          have q81 := hA81G53
          rw [e7x] at q02
          have u5 : ∀ i, i ≠ (gS G 327681 12).toNat → gS G53 327705 i = gS G 327705 i := fun i hi => by rw [gset_o eG53 (x := 327705) (by decide)]; rw [eG41, gset_ne _ _ (fun q => hi q.2)]; rw [gset_o eG34 (x := 327705) (by decide)]; rw [gset_o eG23 (x := 327705) (by decide)]; rw [gset_o eG12 (x := 327705) (by decide)]; rw [gset_o eG3 (x := 327705) (by decide)]
          have sy : (if z20 < 0 then (0 : Int) else gS G53 327705 (z20 : Int).toNat) = (if y < 0 then 0 else gS G 327705 y.toNat) := by by_cases w : y < 0; (focus (rw [if_pos w, if_pos (by omega)])); (focus (have h9 := hy6 () (by omega); have e : z20 = gS G 327707 y.toNat := by omega); rw [if_neg w, if_neg (by omega), e, u5 _ (by omega)]; exact h9.1.2)
          have sz : (if z31 < 0 then (0 : Int) else gS G53 327705 (z31 : Int).toNat) = (if z < 0 then 0 else gS G 327705 z.toNat) := by by_cases w : z < 0; (focus (rw [if_pos w, if_pos (by omega)])); (focus (have h9 := hz6 () (by omega); have e : z31 = gS G 327707 z.toNat := by omega); rw [if_neg w, if_neg (by omega), e, u5 _ (by omega)]; exact h9.1.2)
          refine s_aload_n dX5_addExpression_131 rfl (Int.natCast_nonneg _) ?_
          have hk56 : gK G53 (327681) = (14, 0) := ((hXG53).k hk42 (by decide))
          refine s_callV (as := []) (rest := []) (n := 327681) (ci := 6) gX5_endExpression dX5_addExpression_132 m_1402 m_979 m_1705 m_719 m_327 ⟨by decide, by decide, show (parseMethodDescriptor yX5_endExpression.desc).map (fun d => d.parameters.length) = some 0 from by decide +kernel⟩ (Nat.le_of_ble_eq_true rfl) (by rw [hcf]; exact Nat.le_of_ble_eq_true rfl) hk56 rfl rfl (Nat.le_of_ble_eq_true rfl) ⟨a, b, rfl, hCG53, hab, (by rw [q81]; omega), (by rw [q81, q01, q02, q03, q04, q05]; refine ⟨fun h => absurd h (by omega), fun _ => ?_, fun h => ?_, fun h => ?_, fun h => absurd h (by omega), fun _ => ?_, by omega⟩; (focus (have h1 := hy6 (); have h2 := hz6 (); omega)); (focus (have := hyk9 (); omega)); (focus (have := hzk9 (); omega)); (focus (rw [u5 _ (by omega), sy, sz, hx6.2]; exact hr9))), fun rr55 G54 hCG54 hXG54 hfG54 hpG54 => ?_⟩
          have hFG54 : WX (fun x => x = 327681 ∨ (327701 ≤ x ∧ x ≤ 327707)) G G54 := WX.trans hFG53 (KX.trans (KX.trans (KX.trans (KX.trans (KX.trans hXG3 hXG12) hXG23) hXG34) hXG41) hXG53) (WX.mono hfG54 (fun x hx => by omega))
          show WP kX5_addExpression X 135 [some (2, ((327681 : Nat) : Int)), some (0, k), some (0, x), some (0, y), some (0, z), some (0, gS G 327681 12)] [(0, rr55)] G54
          exact s_iret hR dX5_addExpression_135 rfl (hQ rr55 G54 hCG54 (KX.trans (KX.trans (KX.trans (KX.trans (KX.trans (KX.trans hXG3 hXG12) hXG23) hXG34) hXG41) hXG53) hXG54) hFG54 ⟨by have h9 := hpG54.1; rw [q81] at h9; exact h9, by have h9 := hpG54.2; rw [q81] at h9; exact h9⟩)
        refine s_if_ge (tgt := 122) dX5_addExpression_115 (by decide) (fun c57 => ?_) (fun c57 => ?_)
        · -- 115 to 122
          refine s_aload_n dX5_addExpression_122 rfl (Int.natCast_nonneg _) ?_
          have hv58 : gS G41 327681 10 = ((327706 : Nat) : Int) := by have h9 : (gS G41 327681 10) = 327706 := hCG41.1.v (j := 10) (by decide : cde 327681 = 501) al43 (by rw [hk42]; exact Nat.le_of_ble_eq_true rfl); omega
          refine s_getf (ci := 6) (k := 10) (C := RX5) (T := TX5) (N := 18) (n := 327681) (L := 0) (t := 2) dX5_addExpression_123 rfl wi_73 m_652 (Nat.le_of_ble_eq_true rfl) rfl rfl hk42 hv58 ?_
          refine s_iload dX5_addExpression_126 rfl ?_
          refine s_iald dX5_addExpression_128 hk46 (by omega) (by omega) rfl ?_
          exact J52 _ (Or.inl ⟨c57, rfl⟩)
        · -- 115 to 118
          refine s_iconst dX5_addExpression_118 (by decide) ?_
          refine s_goto (tgt := 129) dX5_addExpression_119 (by decide) ?_
          exact J52 0 (Or.inr (⟨c57, rfl⟩))
      refine s_if_ge (tgt := 106) dX5_addExpression_99 (by decide) (fun c59 => ?_) (fun c59 => ?_)
      · -- 99 to 106
        refine s_aload_n dX5_addExpression_106 rfl (Int.natCast_nonneg _) ?_
        have hv60 : gS G41 327681 10 = ((327706 : Nat) : Int) := by have h9 : (gS G41 327681 10) = 327706 := hCG41.1.v (j := 10) (by decide : cde 327681 = 501) al43 (by rw [hk42]; exact Nat.le_of_ble_eq_true rfl); omega
        refine s_getf (ci := 6) (k := 10) (C := RX5) (T := TX5) (N := 18) (n := 327681) (L := 0) (t := 2) dX5_addExpression_107 rfl wi_73 m_652 (Nat.le_of_ble_eq_true rfl) rfl rfl hk42 hv60 ?_
        refine s_iload_n dX5_addExpression_110 rfl ?_
        refine s_iald dX5_addExpression_111 hk46 (by omega) (by omega) rfl ?_
        exact J49 _ (Or.inl ⟨c59, rfl⟩)
      · -- 99 to 102
        refine s_iconst dX5_addExpression_102 (by decide) ?_
        refine s_goto (tgt := 112) dX5_addExpression_103 (by decide) ?_
        exact J49 0 (Or.inr (⟨c59, rfl⟩))
    refine s_if_ge (tgt := 63) dX5_addExpression_56 (by decide) (fun c61 => ?_) (fun c61 => ?_)
    · -- 56 to 63
      refine s_aload_n dX5_addExpression_63 rfl (Int.natCast_nonneg _) ?_
      have hv62 : gS G23 327681 11 = ((327707 : Nat) : Int) := by have h9 : (gS G23 327681 11) = 327707 := hCG23.1.v (j := 11) (by decide : cde 327681 = 501) al25 (by rw [hk24]; exact Nat.le_of_ble_eq_true rfl); omega
      refine s_getf (ci := 6) (k := 11) (C := RX5) (T := TX5) (N := 18) (n := 327681) (L := 0) (t := 2) dX5_addExpression_64 rfl wi_73 m_653 (Nat.le_of_ble_eq_true rfl) rfl rfl hk24 hv62 ?_
      refine s_iload dX5_addExpression_67 rfl ?_
      have hk63 : gK G23 (327707) = (1, 120) := ((hXG23).k ((hXG12).k hk8 (by decide)) (by decide))
      refine s_alv (327707) (by simp) (fun al64 => ?_)
      have hv65 : 0 ≤ (gS G23 327707 (z : Int).toNat) ∧ (gS G23 327707 (z : Int).toNat) ≤ 119 := hCG23.1.v (j := (z : Int).toNat) (by decide : cde 327707 = 527) al64 (by rw [hk63]; show (z : Int).toNat < 120; omega)
      refine s_iald dX5_addExpression_69 hk63 (by omega) (by omega) rfl ?_
      exact J32 _ (Or.inl ⟨c61, rfl⟩)
    · -- 56 to 59
      refine s_iconst dX5_addExpression_59 (by decide) ?_
      refine s_goto (tgt := 70) dX5_addExpression_60 (by decide) ?_
      exact J32 ((-1)) (Or.inr (⟨c61, rfl⟩))
  refine s_if_ge (tgt := 41) dX5_addExpression_34 (by decide) (fun c66 => ?_) (fun c66 => ?_)
  · -- 34 to 41
    refine s_aload_n dX5_addExpression_41 rfl (Int.natCast_nonneg _) ?_
    have hv67 : gS G12 327681 11 = ((327707 : Nat) : Int) := by have h9 : (gS G12 327681 11) = 327707 := hCG12.1.v (j := 11) (by decide : cde 327681 = 501) al14 (by rw [hk13]; exact Nat.le_of_ble_eq_true rfl); omega
    refine s_getf (ci := 6) (k := 11) (C := RX5) (T := TX5) (N := 18) (n := 327681) (L := 0) (t := 2) dX5_addExpression_42 rfl wi_73 m_653 (Nat.le_of_ble_eq_true rfl) rfl rfl hk13 hv67 ?_
    refine s_iload_n dX5_addExpression_45 rfl ?_
    have hk68 : gK G12 (327707) = (1, 120) := ((hXG12).k hk8 (by decide))
    refine s_alv (327707) (by simp) (fun al69 => ?_)
    have hv70 : 0 ≤ (gS G12 327707 (y : Int).toNat) ∧ (gS G12 327707 (y : Int).toNat) ≤ 119 := hCG12.1.v (j := (y : Int).toNat) (by decide : cde 327707 = 527) al69 (by rw [hk68]; show (y : Int).toNat < 120; omega)
    refine s_iald dX5_addExpression_46 hk68 (by omega) (by omega) rfl ?_
    exact J21 _ (Or.inl ⟨c66, rfl⟩)
  · -- 34 to 37
    refine s_iconst dX5_addExpression_37 (by decide) ?_
    refine s_goto (tgt := 47) dX5_addExpression_38 (by decide) ?_
    exact J21 ((-1)) (Or.inr (⟨c66, rfl⟩))
