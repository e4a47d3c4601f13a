abbrev kX5_endType : KD := (RX5, cX5_endType, 4, (some .int), [])
def TX5_endType : TR := fun as G Qr => ∃ (p : Int) (a b : Nat), as = [(2, ((327681 : Nat) : Int)), (0, p)] ∧ CI a b G ∧ (a ≤ 2840000 ∧ b ≤ 590000) ∧ (1 ≤ p ∧ p ≤ 12) ∧ (gS G 327681 4 < 60) ∧ ∀ (r : Int) (G' : LG), CI a b G' → KX G G' → WX (fun x => x = 327681 ∨ x = 327697 ∨ x = 327699) G G' → (r = gS G 327681 4 ∧ gS G' 327681 4 = gS G 327681 4 + 1 ∧ gS G' 327697 (gS G 327681 4).toNat = p ∧ ∀ j : Nat, j ≠ (gS G 327681 4).toNat → gS G' 327697 j = gS G 327697 j) → Qr (.inl (some (0, r))) G'
set_option maxHeartbeats 4000000 in
set_option maxRecDepth 100000 in
theorem gX5_endType : Good kX5_endType yX5_endType 2 TX5_endType := by
  refine good_of (by decide) rfl rfl (fun as G Qr h => ?_) (fun X as G Qr hcf hR hT oa => ?_)
  · obtain ⟨p, a, b, rfl, -⟩ := h; exact Nat.le_of_ble_eq_true rfl
  obtain ⟨p, a, b, rfl, hC, hab, hp, hc, hQ⟩ := hT
  show WP kX5_endType X 0 [some (2, ((327681 : Nat) : Int)), some (0, p), none, none] [] G
  have hr_p : inR p := okv_R (oa _ (by simp))
  refine s_alvl 327681 (k := 0) rfl (fun alp => ?_)
  have kp : gK G 327681 = (14, 0) := hC.1.k (c := 501) (by decide) alp
  have hc4 : 0 ≤ gS G 327681 4 ∧ gS G 327681 4 ≤ 60 := hC.1.v (c := 501) (j := 4) (by decide) alp (by rw [kp]; exact Nat.le_of_ble_eq_true rfl)
  have hc12 : 0 ≤ gS G 327681 12 ∧ gS G 327681 12 ≤ 120 := hC.1.v (c := 501) (j := 12) (by decide) alp (by rw [kp]; exact Nat.le_of_ble_eq_true rfl)
  have hct : gS G 327681 4 = gS G 327681 4 := rfl
  refine s_alh (327681) 1 alp (by rw [kp]; exact Nat.le_of_ble_eq_true rfl) (by rw [kp]; rfl) (fun ap97x => ?_)
  have ap97v : gS G 327681 1 = ((327697 : Nat) : Int) := by have h9 : (gS G 327681 1) = 327697 := hC.1.v (j := 1) (by decide : cde 327681 = 501) alp (by rw [kp]; exact Nat.le_of_ble_eq_true rfl); omega
  have ap97 : (gK G (327697)).1 ≠ 0 := by have h9 := ap97x (by omega); rw [ap97v, Int.toNat_natCast] at h9; exact h9
  have ap97k : gK G (327697) = (1, 60) := hC.1.k (by decide : cde 327697 = 517) ap97
  refine s_alh (327681) 3 alp (by rw [kp]; exact Nat.le_of_ble_eq_true rfl) (by rw [kp]; rfl) (fun ap99x => ?_)
  have ap99v : gS G 327681 3 = ((327699 : Nat) : Int) := by have h9 : (gS G 327681 3) = 327699 := hC.1.v (j := 3) (by decide : cde 327681 = 501) alp (by rw [kp]; exact Nat.le_of_ble_eq_true rfl); omega
  have ap99 : (gK G (327699)).1 ≠ 0 := by have h9 := ap99x (by omega); rw [ap99v, Int.toNat_natCast] at h9; exact h9
  have ap99k : gK G (327699) = (1, 60) := hC.1.k (by decide : cde 327699 = 519) ap99
  refine s_aload_n dX5_endType_0 rfl (Int.natCast_nonneg _) ?_
  have hv1 : 0 ≤ (gS G 327681 4) ∧ (gS G 327681 4) ≤ 60 := hC.1.v (j := 4) (by decide : cde 327681 = 501) alp (by rw [kp]; exact Nat.le_of_ble_eq_true rfl)
  refine s_getf (ci := 6) (k := 4) (C := RX5) (T := TX5) (N := 18) (n := 327681) (L := 0) (t := 0) dX5_endType_1 rfl wi_73 m_657 (Nat.le_of_ble_eq_true rfl) rfl rfl kp rfl ?_
  refine s_istore_n dX5_endType_4 (by decide) (lv' := [some (2, ((327681 : Nat) : Int)), some (0, p), some (0, gS G 327681 4), none]) rfl ?_
  refine s_aload_n dX5_endType_5 rfl (Int.natCast_nonneg _) ?_
  have hv2 : gS G 327681 1 = ((327697 : Nat) : Int) := by have h9 : (gS G 327681 1) = 327697 := hC.1.v (j := 1) (by decide : cde 327681 = 501) alp (by rw [kp]; exact Nat.le_of_ble_eq_true rfl); omega
  refine s_getf (ci := 6) (k := 1) (C := RX5) (T := TX5) (N := 18) (n := 327681) (L := 0) (t := 2) dX5_endType_6 rfl wi_73 m_644 (Nat.le_of_ble_eq_true rfl) rfl rfl kp hv2 ?_
  refine s_iload_n dX5_endType_9 rfl ?_
  refine s_iload_n dX5_endType_10 rfl ?_
  refine s_iast dX5_endType_11 ap97k (by omega) (by omega) ?_
  generalize eG3r : gset G 327697 ((gS G 327681 4 : Int).toNat) p = G3
  have eG3 := eG3r.symm
  have hCG3 : CI a b G3 := by rw [eG3]; exact hC.typePut (by omega) (by omega)
  have hXG3 : KX G G3 := KX.set KX.rf eG3
  have hFG3 : WX (fun x => x = 327681 ∨ x = 327697 ∨ x = 327699) G G3 := WX.set WX.rf eG3 (by show _; omega)
  have hfG3 : WX (fun x => x = 327697 % 1048576) G G3 := WX.set WX.rf eG3 rfl
  have hctG3 : gS G3 327681 4 = gS G 327681 4 := (congrFun (gset_o eG3 (x := 327681) (by decide)) 4).trans hct
  show WP kX5_endType X 12 [some (2, ((327681 : Nat) : Int)), some (0, p), some (0, gS G 327681 4), none] [] G3
  have hszG3 : gS G3 327697 (gS G 327681 4).toNat = p ∧ ∀ j : Nat, j ≠ (gS G 327681 4).toNat → gS G3 327697 j = gS G 327697 j := ⟨gsaE eG3, fun j hj => by rw [eG3, gset_ne _ _ (fun q => hj q.2)]⟩
  refine s_aload_n dX5_endType_12 rfl (Int.natCast_nonneg _) ?_
  have hk4 : gK G3 (327681) = (14, 0) := ((hXG3).k kp (by decide))
  refine s_alv (327681) (by simp) (fun al5 => ?_)
  have hv6 : gS G3 327681 3 = ((327699 : Nat) : Int) := by have h9 : (gS G3 327681 3) = 327699 := hCG3.1.v (j := 3) (by decide : cde 327681 = 501) al5 (by rw [hk4]; exact Nat.le_of_ble_eq_true rfl); omega
  refine s_getf (ci := 6) (k := 3) (C := RX5) (T := TX5) (N := 18) (n := 327681) (L := 0) (t := 2) dX5_endType_13 rfl wi_73 m_646 (Nat.le_of_ble_eq_true rfl) rfl rfl hk4 hv6 ?_
  refine s_iload_n dX5_endType_16 rfl ?_
  refine s_iload_n dX5_endType_17 rfl ?_
  have hk7 : gK G3 (327699) = (1, 60) := ((hXG3).k ap99k (by decide))
  refine s_iast dX5_endType_18 hk7 (by omega) (by omega) ?_
  generalize eG8r : gset G3 327699 ((gS G 327681 4 : Int).toNat) (gS G 327681 4) = G8
  have eG8 := eG8r.symm
  have hCG8 : CI a b G8 := by rw [eG8]; exact hCG3.set (by rw [(by decide : cde 327699 = 519)]; rfl) (by rw [(by decide : cde 327699 = 519)]; exact trivial)
  have hXG8 : KX G3 G8 := KX.set KX.rf eG8
  have hFG8 : WX (fun x => x = 327681 ∨ x = 327697 ∨ x = 327699) G G8 := WX.set hFG3 eG8 (by show _; omega)
  have hfG8 : WX (fun x => x = 327699 % 1048576) G3 G8 := WX.set WX.rf eG8 rfl
  have hctG8 : gS G8 327681 4 = gS G 327681 4 := (congrFun (gset_o eG8 (x := 327681) (by decide)) 4).trans hctG3
  have hszG8 : gS G8 327697 (gS G 327681 4).toNat = p ∧ ∀ j : Nat, j ≠ (gS G 327681 4).toNat → gS G8 327697 j = gS G 327697 j := by rw [gset_o eG8 (x := 327697) (by decide)]; exact hszG3
  show WP kX5_endType X 19 [some (2, ((327681 : Nat) : Int)), some (0, p), some (0, gS G 327681 4), none] [] G8
  refine s_iconst dX5_endType_19 (by decide) ?_
  refine s_istore_n dX5_endType_20 (by decide) (lv' := [some (2, ((327681 : Nat) : Int)), some (0, p), some (0, gS G 327681 4), some (0, 0)]) rfl ?_
  have L9 : ∀ (n9 : Nat) (i9 : Int) (G9 : LG), CI a b G9 → KX G8 G9 → WX (fun x => x = 327681 ∨ x = 327697 ∨ x = 327699) G G9 → ((0 ≤ i9 ∧ i9 ≤ gS G 327681 4) ∧ (gS G9 327681 4 = gS G 327681 4) ∧ (gS G9 327697 (gS G 327681 4).toNat = p ∧ ∀ j : Nat, j ≠ (gS G 327681 4).toNat → gS G9 327697 j = gS G 327697 j)) → (gS G 327681 4 - i9).toNat < n9 → WP kX5_endType X 21 [some (2, ((327681 : Nat) : Int)), some (0, p), some (0, gS G 327681 4), some (0, i9)] [] G9 := by
    intro n9
    induction n9 with
    | zero => intro i9 G9 hCG9 hXG9 hFG9 hi9 hm9; exact absurd hm9 (Nat.not_lt_zero _)
    | succ n9 ih9 =>
      intro i9 G9 hCG9 hXG9 hFG9 hi9 hm9
      obtain ⟨ii9, hctG9, hszG9⟩ := hi9
      refine s_iload_n dX5_endType_21 rfl ?_
      refine s_iload_n dX5_endType_22 rfl ?_
      refine s_icmp_ge (tgt := 74) dX5_endType_23 (by decide) (fun c10 => ?_) (fun c10 => ?_)
      · -- 23 to 74
        refine s_aload_n dX5_endType_74 rfl (Int.natCast_nonneg _) ?_
        refine s_dup dX5_endType_75 (show (2 : Nat) ≠ 1 by decide) ?_
        have hk11 : gK G9 (327681) = (14, 0) := ((hXG9).k ((hXG8).k hk4 (by decide)) (by decide))
        refine s_alv (327681) (by simp) (fun al13 => ?_)
        have hv12 : 0 ≤ (gS G9 327681 4) ∧ (gS G9 327681 4) ≤ 60 := hCG9.1.v (j := 4) (by decide : cde 327681 = 501) al13 (by rw [hk11]; exact Nat.le_of_ble_eq_true rfl)
        refine s_getf (ci := 6) (k := 4) (C := RX5) (T := TX5) (N := 18) (n := 327681) (L := 0) (t := 0) dX5_endType_76 rfl wi_73 m_657 (Nat.le_of_ble_eq_true rfl) rfl rfl hk11 rfl ?_
        refine s_iconst dX5_endType_79 (by decide) ?_
        refine s_iadd dX5_endType_80 (by omega) ?_
        refine s_putf (ci := 6) (k := 4) (C := RX5) (T := TX5) (N := 18) (n := 327681) (L := 0) dX5_endType_81 rfl wi_73 m_657 (Nat.le_of_ble_eq_true rfl) rfl rfl tyX5_ok nmX5 rfl (Or.inl rfl) hk11 ?_
        generalize eG14r : gset G9 327681 4 ((gS G9 327681 4) + 1) = G14
        have eG14 := eG14r.symm
        have hCG14 : CI a b G14 := by rw [eG14]; have hcc : gS G9 327681 4 = gS G 327681 4 := (by omega); rw [hcc]; exact hCG9.typeEnd (by omega) (by omega) (by have h9 := hszG9.1; omega)
        have hXG14 : KX G9 G14 := KX.set KX.rf eG14
        have hFG14 : WX (fun x => x = 327681 ∨ x = 327697 ∨ x = 327699) G G14 := WX.set hFG9 eG14 (by show _; omega)
        have hfG14 : WX (fun x => x = 327681 % 1048576) G9 G14 := WX.set WX.rf eG14 rfl
        have hszG14 : gS G14 327697 (gS G 327681 4).toNat = p ∧ ∀ j : Nat, j ≠ (gS G 327681 4).toNat → gS G14 327697 j = gS G 327697 j := by rw [gset_o eG14 (x := 327697) (by decide)]; exact hszG9
        show WP kX5_endType X 84 [some (2, ((327681 : Nat) : Int)), some (0, p), some (0, gS G 327681 4), some (0, i9)] [] G14
        refine s_iload_n dX5_endType_84 rfl ?_
        exact s_iret hR dX5_endType_85 rfl (hQ (gS G 327681 4) G14 hCG14 (KX.trans (KX.trans (KX.trans hXG3 hXG8) hXG9) hXG14) hFG14 ⟨by omega, (gsaE eG14).trans (by omega), hszG14⟩)
      · -- 23 to 26
        refine s_aload_n dX5_endType_26 rfl (Int.natCast_nonneg _) ?_
        have hk15 : gK G9 (327681) = (14, 0) := ((hXG9).k ((hXG8).k hk4 (by decide)) (by decide))
        refine s_alv (327681) (by simp) (fun al16 => ?_)
        have hv17 : gS G9 327681 3 = ((327699 : Nat) : Int) := by have h9 : (gS G9 327681 3) = 327699 := hCG9.1.v (j := 3) (by decide : cde 327681 = 501) al16 (by rw [hk15]; exact Nat.le_of_ble_eq_true rfl); omega
        refine s_getf (ci := 6) (k := 3) (C := RX5) (T := TX5) (N := 18) (n := 327681) (L := 0) (t := 2) dX5_endType_27 rfl wi_73 m_646 (Nat.le_of_ble_eq_true rfl) rfl rfl hk15 hv17 ?_
        refine s_iload_n dX5_endType_30 rfl ?_
        have hk18 : gK G9 (327699) = (1, 60) := ((hXG9).k ((hXG8).k hk7 (by decide)) (by decide))
        refine s_iald dX5_endType_31 hk18 (by omega) (by omega) rfl ?_
        refine s_iload_n dX5_endType_32 rfl ?_
        refine s_icmp_ne (tgt := 74) dX5_endType_33 (by decide) (fun c19 => ?_) (fun c19 => ?_)
        · -- 33 to 74
          refine s_aload_n dX5_endType_74 rfl (Int.natCast_nonneg _) ?_
          refine s_dup dX5_endType_75 (show (2 : Nat) ≠ 1 by decide) ?_
          have hv20 : 0 ≤ (gS G9 327681 4) ∧ (gS G9 327681 4) ≤ 60 := hCG9.1.v (j := 4) (by decide : cde 327681 = 501) al16 (by rw [hk15]; exact Nat.le_of_ble_eq_true rfl)
          refine s_getf (ci := 6) (k := 4) (C := RX5) (T := TX5) (N := 18) (n := 327681) (L := 0) (t := 0) dX5_endType_76 rfl wi_73 m_657 (Nat.le_of_ble_eq_true rfl) rfl rfl hk15 rfl ?_
          refine s_iconst dX5_endType_79 (by decide) ?_
          refine s_iadd dX5_endType_80 (by omega) ?_
          refine s_putf (ci := 6) (k := 4) (C := RX5) (T := TX5) (N := 18) (n := 327681) (L := 0) dX5_endType_81 rfl wi_73 m_657 (Nat.le_of_ble_eq_true rfl) rfl rfl tyX5_ok nmX5 rfl (Or.inl rfl) hk15 ?_
          generalize eG21r : gset G9 327681 4 ((gS G9 327681 4) + 1) = G21
          have eG21 := eG21r.symm
          have hCG21 : CI a b G21 := by rw [eG21]; have hcc : gS G9 327681 4 = gS G 327681 4 := (by omega); rw [hcc]; exact hCG9.typeEnd (by omega) (by omega) (by have h9 := hszG9.1; omega)
          have hXG21 : KX G9 G21 := KX.set KX.rf eG21
          have hFG21 : WX (fun x => x = 327681 ∨ x = 327697 ∨ x = 327699) G G21 := WX.set hFG9 eG21 (by show _; omega)
          have hfG21 : WX (fun x => x = 327681 % 1048576) G9 G21 := WX.set WX.rf eG21 rfl
          have hszG21 : gS G21 327697 (gS G 327681 4).toNat = p ∧ ∀ j : Nat, j ≠ (gS G 327681 4).toNat → gS G21 327697 j = gS G 327697 j := by rw [gset_o eG21 (x := 327697) (by decide)]; exact hszG9
          show WP kX5_endType X 84 [some (2, ((327681 : Nat) : Int)), some (0, p), some (0, gS G 327681 4), some (0, i9)] [] G21
          refine s_iload_n dX5_endType_84 rfl ?_
          exact s_iret hR dX5_endType_85 rfl (hQ (gS G 327681 4) G21 hCG21 (KX.trans (KX.trans (KX.trans hXG3 hXG8) hXG9) hXG21) hFG21 ⟨by omega, (gsaE eG21).trans (by omega), hszG21⟩)
        · -- 33 to 36
          refine s_aload_n dX5_endType_36 rfl (Int.natCast_nonneg _) ?_
          have hv22 : gS G9 327681 0 = ((327696 : Nat) : Int) := by have h9 : (gS G9 327681 0) = 327696 := hCG9.1.v (j := 0) (by decide : cde 327681 = 501) al16 (by rw [hk15]; exact Nat.le_of_ble_eq_true rfl); omega
          refine s_getf (ci := 6) (k := 0) (C := RX5) (T := TX5) (N := 18) (n := 327681) (L := 0) (t := 2) dX5_endType_37 rfl wi_73 m_637 (Nat.le_of_ble_eq_true rfl) rfl rfl hk15 hv22 ?_
          refine s_iload_n dX5_endType_40 rfl ?_
          refine s_alv (327696) (by simp) (fun al23 => ?_)
          have hk24 : gK G9 (327696) = (4, 60) := hCG9.1.k (by decide : cde 327696 = 516) al23
          have hv26b : (gS G9 327696 (i9 : Int).toNat) = ((393216 + ((i9 : Int).toNat) : Nat) : Int) := hCG9.1.v (j := (i9 : Int).toNat) (by decide : cde 327696 = 516) al23 (by rw [hk24]; show (i9 : Int).toNat < 60; omega)
          obtain ⟨q25, hv26⟩ : ∃ q : Nat, gS G9 327696 (i9 : Int).toNat = (q : Int) := ⟨(gS G9 327696 (i9 : Int).toNat).toNat, by omega⟩
          rw [hv26] at hv26b
          refine s_aald4 dX5_endType_41 hk24 (by omega) (by omega) hv26 ?_
          refine s_aload_n dX5_endType_42 rfl (Int.natCast_nonneg _) ?_
          have hv27 : gS G9 327681 1 = ((327697 : Nat) : Int) := by have h9 : (gS G9 327681 1) = 327697 := hCG9.1.v (j := 1) (by decide : cde 327681 = 501) al16 (by rw [hk15]; exact Nat.le_of_ble_eq_true rfl); omega
          refine s_getf (ci := 6) (k := 1) (C := RX5) (T := TX5) (N := 18) (n := 327681) (L := 0) (t := 2) dX5_endType_43 rfl wi_73 m_644 (Nat.le_of_ble_eq_true rfl) rfl rfl hk15 hv27 ?_
          refine s_iload_n dX5_endType_46 rfl ?_
          have hk28 : gK G9 (327697) = (1, 60) := ((hXG9).k ((hXG8).k ((hXG3).k ap97k (by decide)) (by decide)) (by decide))
          refine s_alv (327697) (by simp) (fun al29 => ?_)
          have hv30 : 0 ≤ (gS G9 327697 (i9 : Int).toNat) ∧ (gS G9 327697 (i9 : Int).toNat) ≤ 12 := hCG9.1.v (j := (i9 : Int).toNat) (by decide : cde 327697 = 517) al29 (by rw [hk28]; show (i9 : Int).toNat < 60; omega)
          refine s_iald dX5_endType_47 hk28 (by omega) (by omega) rfl ?_
          refine s_aload_n dX5_endType_48 rfl (Int.natCast_nonneg _) ?_
          have hv31 : gS G9 327681 0 = ((327696 : Nat) : Int) := by have h9 : (gS G9 327681 0) = 327696 := hCG9.1.v (j := 0) (by decide : cde 327681 = 501) al16 (by rw [hk15]; exact Nat.le_of_ble_eq_true rfl); omega
          refine s_getf (ci := 6) (k := 0) (C := RX5) (T := TX5) (N := 18) (n := 327681) (L := 0) (t := 2) dX5_endType_49 rfl wi_73 m_637 (Nat.le_of_ble_eq_true rfl) rfl rfl hk15 hv31 ?_
          refine s_iload_n dX5_endType_52 rfl ?_
          have hv33b : (gS G9 327696 (gS G 327681 4 : Int).toNat) = ((393216 + ((gS G 327681 4 : Int).toNat) : Nat) : Int) := hCG9.1.v (j := (gS G 327681 4 : Int).toNat) (by decide : cde 327696 = 516) al23 (by rw [hk24]; show (gS G 327681 4 : Int).toNat < 60; omega)
          obtain ⟨q32, hv33⟩ : ∃ q : Nat, gS G9 327696 (gS G 327681 4 : Int).toNat = (q : Int) := ⟨(gS G9 327696 (gS G 327681 4 : Int).toNat).toNat, by omega⟩
          rw [hv33] at hv33b
          refine s_aald4 dX5_endType_53 hk24 (by omega) (by omega) hv33 ?_
          refine s_iload_n dX5_endType_54 rfl ?_
          refine s_alv (q25) (by simp) (fun al34 => ?_)
          have hk35 : gK G9 (q25) = (1, 12) := hCG9.1.k (cde_t (by omega) : cde q25 = 600) al34
          refine s_alv (q32) (by simp) (fun al36 => ?_)
          have hk37 : gK G9 (q32) = (1, 12) := hCG9.1.k (cde_t (by omega) : cde q32 = 600) al36
          refine s_callSN (own := RX5) rfl (by decide +kernel) (as := [(2, ((q25 : Nat) : Int)), (0, gS G9 327697 ((i9 : Int).toNat)), (2, ((q32 : Nat) : Int)), (0, p)]) (rest := []) gX11_isSameRow dX5_endType_55 m_1778 m_714 m_98 ⟨by decide, by decide, show (parseMethodDescriptor yX11_isSameRow.desc).map (fun d => d.parameters.length) = some 4 from by decide +kernel⟩ (Nat.le_of_ble_eq_true rfl) (by rw [hcf]; exact Nat.le_of_ble_eq_true rfl) rfl (Nat.le_of_ble_eq_true rfl) ⟨q25, 12, gS G9 327697 ((i9 : Int).toNat), q32, 12, p, rfl, hk35, (by first | assumption | omega), hk37, (by first | assumption | omega), fun rr38 hp39 => ?_⟩
          show WP kX5_endType X 58 [some (2, ((327681 : Nat) : Int)), some (0, p), some (0, gS G 327681 4), some (0, i9)] [(0, rr38)] G9
          refine s_if_eq (tgt := 68) dX5_endType_58 (by decide) (fun c40 => ?_) (fun c40 => ?_)
          · -- 58 to 68
            refine s_iinc dX5_endType_68 (v := i9) rfl (by omega) (by decide) (lv' := [some (2, ((327681 : Nat) : Int)), some (0, p), some (0, gS G 327681 4), some (0, i9 + 1)]) rfl ?_
            refine s_goto (tgt := 21) dX5_endType_71 (by decide) ?_
            exact ih9 (i9 + 1) G9 hCG9 hXG9 hFG9 (⟨(by omega), (by exact hctG9), (by exact hszG9)⟩) (by omega)
          · -- 58 to 61
            refine s_aload_n dX5_endType_61 rfl (Int.natCast_nonneg _) ?_
            have hv41 : gS G9 327681 3 = ((327699 : Nat) : Int) := by have h9 : (gS G9 327681 3) = 327699 := hCG9.1.v (j := 3) (by decide : cde 327681 = 501) al16 (by rw [hk15]; exact Nat.le_of_ble_eq_true rfl); omega
            refine s_getf (ci := 6) (k := 3) (C := RX5) (T := TX5) (N := 18) (n := 327681) (L := 0) (t := 2) dX5_endType_62 rfl wi_73 m_646 (Nat.le_of_ble_eq_true rfl) rfl rfl hk15 hv41 ?_
            refine s_iload_n dX5_endType_65 rfl ?_
            refine s_iload_n dX5_endType_66 rfl ?_
            refine s_iast dX5_endType_67 hk18 (by omega) (by omega) ?_
            generalize eG42r : gset G9 327699 ((gS G 327681 4 : Int).toNat) i9 = G42
            have eG42 := eG42r.symm
            have hCG42 : CI a b G42 := by rw [eG42]; exact hCG9.set (by rw [(by decide : cde 327699 = 519)]; rfl) (by rw [(by decide : cde 327699 = 519)]; exact trivial)
            have hXG42 : KX G9 G42 := KX.set KX.rf eG42
            have hFG42 : WX (fun x => x = 327681 ∨ x = 327697 ∨ x = 327699) G G42 := WX.set hFG9 eG42 (by show _; omega)
            have hfG42 : WX (fun x => x = 327699 % 1048576) G9 G42 := WX.set WX.rf eG42 rfl
            have hctG42 : gS G42 327681 4 = gS G 327681 4 := (congrFun (gset_o eG42 (x := 327681) (by decide)) 4).trans hctG9
            have hszG42 : gS G42 327697 (gS G 327681 4).toNat = p ∧ ∀ j : Nat, j ≠ (gS G 327681 4).toNat → gS G42 327697 j = gS G 327697 j := by rw [gset_o eG42 (x := 327697) (by decide)]; exact hszG9
            show WP kX5_endType X 68 [some (2, ((327681 : Nat) : Int)), some (0, p), some (0, gS G 327681 4), some (0, i9)] [] G42
            refine s_iinc dX5_endType_68 (v := i9) rfl (by omega) (by decide) (lv' := [some (2, ((327681 : Nat) : Int)), some (0, p), some (0, gS G 327681 4), some (0, i9 + 1)]) rfl ?_
            refine s_goto (tgt := 21) dX5_endType_71 (by decide) ?_
            exact ih9 (i9 + 1) G42 hCG42 (KX.trans hXG9 hXG42) hFG42 (⟨(by omega), (by exact hctG42), (by exact hszG42)⟩) (by omega)
  exact L9 _ 0 G8 hCG8 KX.rf hFG8 (⟨(by omega), (by exact hctG8), (by exact hszG8)⟩) (Nat.lt_succ_self _)

abbrev kX5_addSmallType : KD := (RX5, cX5_addSmallType, 2, (some .int), [])
def TX5_addSmallType : TR := fun as G Qr => ∃ (x : Int) (a b : Nat), as = [(2, ((327681 : Nat) : Int)), (0, x)] ∧ CI a b G ∧ (a ≤ 2840000 ∧ b ≤ 590000) ∧ (0 ≤ x ∧ x ≤ 7) ∧ (gS G 327681 4 < 60) ∧ ∀ (r : Int) (G' : LG), CI a b G' → KX G G' → WX (fun x => x = 327681 ∨ (327697 ≤ x ∧ x ≤ 327699) ∨ (393216 ≤ x ∧ x < 393276)) G G' → (r = gS G 327681 4 ∧ gS G' 327681 4 = gS G 327681 4 + 1 ∧ gS G' 327697 (gS G 327681 4).toNat = 1 ∧ ∀ j : Nat, j ≠ (gS G 327681 4).toNat → gS G' 327697 j = gS G 327697 j) → Qr (.inl (some (0, r))) G'
set_option maxHeartbeats 4000000 in
set_option maxRecDepth 100000 in
theorem gX5_addSmallType : Good kX5_addSmallType yX5_addSmallType 3 TX5_addSmallType := by
  refine good_of (by decide) rfl rfl (fun as G Qr h => ?_) (fun X as G Qr hcf hR hT oa => ?_)
  · obtain ⟨x, a, b, rfl, -⟩ := h; exact Nat.le_of_ble_eq_true rfl
  obtain ⟨x, a, b, rfl, hC, hab, hx, hc, hQ⟩ := hT
  show WP kX5_addSmallType X 0 [some (2, ((327681 : Nat) : Int)), some (0, x)] [] G
  have hr_x : inR x := okv_R (oa _ (by simp))
  refine s_alvl 327681 (k := 0) rfl (fun alp => ?_)
  have kp : gK G 327681 = (14, 0) := hC.1.k (c := 501) (by decide) alp
  have hc4 : 0 ≤ gS G 327681 4 ∧ gS G 327681 4 ≤ 60 := hC.1.v (c := 501) (j := 4) (by decide) alp (by rw [kp]; exact Nat.le_of_ble_eq_true rfl)
  have hc12 : 0 ≤ gS G 327681 12 ∧ gS G 327681 12 ≤ 120 := hC.1.v (c := 501) (j := 12) (by decide) alp (by rw [kp]; exact Nat.le_of_ble_eq_true rfl)
  refine s_alh (327681) 2 alp (by rw [kp]; exact Nat.le_of_ble_eq_true rfl) (by rw [kp]; rfl) (fun ap98x => ?_)
  have ap98v : gS G 327681 2 = ((327698 : Nat) : Int) := by have h9 : (gS G 327681 2) = 327698 := hC.1.v (j := 2) (by decide : cde 327681 = 501) alp (by rw [kp]; exact Nat.le_of_ble_eq_true rfl); omega
  have ap98 : (gK G (327698)).1 ≠ 0 := by have h9 := ap98x (by omega); rw [ap98v, Int.toNat_natCast] at h9; exact h9
  have ap98k : gK G (327698) = (1, 60) := hC.1.k (by decide : cde 327698 = 518) ap98
  refine s_aload_n dX5_addSmallType_0 rfl (Int.natCast_nonneg _) ?_
  have hv1 : gS G 327681 0 = ((327696 : Nat) : Int) := by have h9 : (gS G 327681 0) = 327696 := hC.1.v (j := 0) (by decide : cde 327681 = 501) alp (by rw [kp]; exact Nat.le_of_ble_eq_true rfl); omega
  refine s_getf (ci := 6) (k := 0) (C := RX5) (T := TX5) (N := 18) (n := 327681) (L := 0) (t := 2) dX5_addSmallType_1 rfl wi_73 m_637 (Nat.le_of_ble_eq_true rfl) rfl rfl kp hv1 ?_
  refine s_aload_n dX5_addSmallType_4 rfl (Int.natCast_nonneg _) ?_
  have hv2 : 0 ≤ (gS G 327681 4) ∧ (gS G 327681 4) ≤ 60 := hC.1.v (j := 4) (by decide : cde 327681 = 501) alp (by rw [kp]; exact Nat.le_of_ble_eq_true rfl)
  refine s_getf (ci := 6) (k := 4) (C := RX5) (T := TX5) (N := 18) (n := 327681) (L := 0) (t := 0) dX5_addSmallType_5 rfl wi_73 m_657 (Nat.le_of_ble_eq_true rfl) rfl rfl kp rfl ?_
  refine s_alv (327696) (by simp) (fun al3 => ?_)
  have hk4 : gK G (327696) = (4, 60) := hC.1.k (by decide : cde 327696 = 516) al3
  have hv6b : (gS G 327696 (gS G 327681 4 : Int).toNat) = ((393216 + ((gS G 327681 4 : Int).toNat) : Nat) : Int) := hC.1.v (j := (gS G 327681 4 : Int).toNat) (by decide : cde 327696 = 516) al3 (by rw [hk4]; show (gS G 327681 4 : Int).toNat < 60; omega)
  obtain ⟨q5, hv6⟩ : ∃ q : Nat, gS G 327696 (gS G 327681 4 : Int).toNat = (q : Int) := ⟨(gS G 327696 (gS G 327681 4 : Int).toNat).toNat, by omega⟩
  rw [hv6] at hv6b
  refine s_aald4 dX5_addSmallType_8 hk4 (by omega) (by omega) hv6 ?_
  refine s_iconst dX5_addSmallType_9 (by decide) ?_
  refine s_iload_n dX5_addSmallType_10 rfl ?_
  refine s_alv (q5) (by simp) (fun al7 => ?_)
  have hk8 : gK G (q5) = (1, 12) := hC.1.k (cde_t (by omega) : cde q5 = 600) al7
  refine s_iast dX5_addSmallType_11 hk8 (by omega) (by omega) ?_
  generalize eG9r : gset G q5 ((0 : Int).toNat) x = G9
  have eG9 := eG9r.symm
  have hCG9 : CI a b G9 := by rw [eG9]; exact hC.set (by rw [(cde_t (by omega) : cde q5 = 600)]; rfl) (by rw [(cde_t (by omega) : cde q5 = 600)]; exact (show 0 ≤ x ∧ x ≤ 7 from by omega))
  have hXG9 : KX G G9 := KX.set KX.rf eG9
  have hFG9 : WX (fun x => x = 327681 ∨ (327697 ≤ x ∧ x ≤ 327699) ∨ (393216 ≤ x ∧ x < 393276)) G G9 := WX.set WX.rf eG9 (by show _; omega)
  show WP kX5_addSmallType X 12 [some (2, ((327681 : Nat) : Int)), some (0, x)] [] G9
  have hc8 : gS G9 327681 4 = gS G 327681 4 := congrFun (gset_o eG9 (x := 327681) (by omega)) 4
  refine s_aload_n dX5_addSmallType_12 rfl (Int.natCast_nonneg _) ?_
  have hk10 : gK G9 (327681) = (14, 0) := ((hXG9).k kp (by decide))
  refine s_alv (327681) (by simp) (fun al11 => ?_)
  have hv12 : gS G9 327681 2 = ((327698 : Nat) : Int) := by have h9 : (gS G9 327681 2) = 327698 := hCG9.1.v (j := 2) (by decide : cde 327681 = 501) al11 (by rw [hk10]; exact Nat.le_of_ble_eq_true rfl); omega
  refine s_getf (ci := 6) (k := 2) (C := RX5) (T := TX5) (N := 18) (n := 327681) (L := 0) (t := 2) dX5_addSmallType_13 rfl wi_73 m_645 (Nat.le_of_ble_eq_true rfl) rfl rfl hk10 hv12 ?_
  refine s_aload_n dX5_addSmallType_16 rfl (Int.natCast_nonneg _) ?_
  have hv13 : 0 ≤ (gS G9 327681 4) ∧ (gS G9 327681 4) ≤ 60 := hCG9.1.v (j := 4) (by decide : cde 327681 = 501) al11 (by rw [hk10]; exact Nat.le_of_ble_eq_true rfl)
  refine s_getf (ci := 6) (k := 4) (C := RX5) (T := TX5) (N := 18) (n := 327681) (L := 0) (t := 0) dX5_addSmallType_17 rfl wi_73 m_657 (Nat.le_of_ble_eq_true rfl) rfl rfl hk10 rfl ?_
  refine s_iload_n dX5_addSmallType_20 rfl ?_
  have J15 : ∀ z14 : Int, ((¬ x = 0) ∧ z14 = i_shl 1 (x - 2)) ∨ ((x = 0) ∧ z14 = 0) → WP kX5_addSmallType X 33 [some (2, ((327681 : Nat) : Int)), some (0, x)] [(0, z14), (0, gS G9 327681 4), (2, ((327698 : Nat) : Int))] G9 := by
    intro z14 hz14
    have hk16 : gK G9 (327698) = (1, 60) := ((hXG9).k ap98k (by decide))
    refine s_iast dX5_addSmallType_33 hk16 (by omega) (by omega) ?_
    generalize eG17r : gset G9 327698 ((gS G9 327681 4 : Int).toNat) z14 = G17
    have eG17 := eG17r.symm
    have hCG17 : CI a b G17 := by rw [eG17]; exact hCG9.set (by rw [(by decide : cde 327698 = 518)]; rfl) (by rw [(by decide : cde 327698 = 518)]; exact trivial)
    have hXG17 : KX G9 G17 := KX.set KX.rf eG17
    have hFG17 : WX (fun x => x = 327681 ∨ (327697 ≤ x ∧ x ≤ 327699) ∨ (393216 ≤ x ∧ x < 393276)) G G17 := WX.set hFG9 eG17 (by show _; omega)
    show WP kX5_addSmallType X 34 [some (2, ((327681 : Nat) : Int)), some (0, x)] [] G17
    have hc9 : gS G17 327681 4 = gS G 327681 4 := (congrFun (gset_o eG17 (x := 327681) (by decide)) 4).trans (congrFun (gset_o eG9 (x := 327681) (by omega)) 4)
    have hs9 : gS G17 327697 = gS G 327697 := (gset_o eG17 (x := 327697) (by decide)).trans (gset_o eG9 (x := 327697) (by omega))
    refine s_aload_n dX5_addSmallType_34 rfl (Int.natCast_nonneg _) ?_
    refine s_iconst dX5_addSmallType_35 (by decide) ?_
    have hk20 : gK G17 (327681) = (14, 0) := ((hXG17).k hk10 (by decide))
    refine s_callV (as := [(0, 1)]) (rest := []) (n := 327681) (ci := 6) gX5_endType dX5_addSmallType_36 m_1400 m_980 m_1706 m_719 m_328 ⟨by decide, by decide, show (parseMethodDescriptor yX5_endType.desc).map (fun d => d.parameters.length) = some 1 from by decide +kernel⟩ (Nat.le_of_ble_eq_true rfl) (by rw [hcf]; exact Nat.le_of_ble_eq_true rfl) hk20 rfl rfl (Nat.le_of_ble_eq_true rfl) ⟨1, a, b, rfl, hCG17, hab, (by omega), (by omega), fun rr19 G18 hCG18 hXG18 hfG18 hpG18 => ?_⟩
    have hFG18 : WX (fun x => x = 327681 ∨ (327697 ≤ x ∧ x ≤ 327699) ∨ (393216 ≤ x ∧ x < 393276)) G G18 := WX.trans hFG17 (KX.trans hXG9 hXG17) (WX.mono hfG18 (fun x hx => by omega))
    show WP kX5_addSmallType X 39 [some (2, ((327681 : Nat) : Int)), some (0, x)] [(0, rr19)] G18
    exact s_iret hR dX5_addSmallType_39 rfl (hQ rr19 G18 hCG18 (KX.trans (KX.trans hXG9 hXG17) hXG18) hFG18 ⟨by omega, by omega, by have h9 := hpG18.2.2.1; rw [hc9] at h9; exact h9, fun j hj => by have h9 := hpG18.2.2.2 j (by rw [hc9]; exact hj); rw [h9, hs9]⟩)
  refine s_if_ne (tgt := 28) dX5_addSmallType_21 (by decide) (fun c21 => ?_) (fun c21 => ?_)
  · -- 21 to 28
    refine s_iconst dX5_addSmallType_28 (by decide) ?_
    refine s_iload_n dX5_addSmallType_29 rfl ?_
    refine s_iconst dX5_addSmallType_30 (by decide) ?_
    refine s_isub dX5_addSmallType_31 (by omega) ?_
    refine s_ishl dX5_addSmallType_32 ?_
    exact J15 _ (Or.inl ⟨c21, rfl⟩)
  · -- 21 to 24
    refine s_iconst dX5_addSmallType_24 (by decide) ?_
    refine s_goto (tgt := 33) dX5_addSmallType_25 (by decide) ?_
    exact J15 0 (Or.inr (⟨c21, rfl⟩))
