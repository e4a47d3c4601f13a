abbrev kX11_startsWith : KD := (RX11, cX11_startsWith, 6, (some .boolean), [])
def TX11_startsWith : TR := fun as G Qr => ∃ (r1 N : Nat) (f e : Int) (r2 M : Nat) (n : Int), as = [(2, ((r1 : Nat) : Int)), (0, f), (0, e), (2, ((r2 : Nat) : Int)), (0, n)] ∧ (gK G r1 = (1, N)) ∧ (N ≤ 1000000) ∧ (gK G r2 = (1, M)) ∧ (M ≤ 1000000) ∧ (f ≤ 1000000 ∧ (f = 0 ∨ 0 ≤ e)) ∧ ∀ (r : Int), (r = 0 ∨ r = 1) → Qr (.inl (some (0, r))) G
set_option maxHeartbeats 4000000 in
set_option maxRecDepth 100000 in
theorem gX11_startsWith : Good kX11_startsWith yX11_startsWith 0 TX11_startsWith := by
  refine good_of (by decide) rfl rfl (fun as G Qr h => ?_) (fun X as G Qr hcf hR hT oa => ?_)
  · obtain ⟨r1, N, f, e, r2, M, n, rfl, -⟩ := h; exact Nat.le_of_ble_eq_true rfl
  obtain ⟨r1, N, f, e, r2, M, n, rfl, hkr, hN, hkt, hM, hf, hQ⟩ := hT
  show WP kX11_startsWith X 0 [some (2, ((r1 : Nat) : Int)), some (0, f), some (0, e), some (2, ((r2 : Nat) : Int)), some (0, n), none] [] G
  have hr_f : inR f := okv_R (oa _ (by simp))
  have hr_e : inR e := okv_R (oa _ (by simp))
  have hr_n : inR n := okv_R (oa _ (by simp))
  refine s_iload_n dX11_startsWith_0 rfl ?_
  refine s_if_lt (tgt := 25) dX11_startsWith_1 (by decide) (fun c1 => ?_) (fun c1 => ?_)
  · -- 1 to 25
    refine s_iconst dX11_startsWith_25 (by decide) ?_
    exact s_zret hR dX11_startsWith_26 rfl (by first | exact Or.inl rfl | exact Or.inr rfl | omega) (hQ 0 (by omega))
  · -- 1 to 4
    refine s_iload_n dX11_startsWith_4 rfl ?_
    refine s_aload_n dX11_startsWith_5 rfl (Int.natCast_nonneg _) ?_
    refine s_alen dX11_startsWith_6 hkr (by decide) (by omega) ?_
    refine s_icmp_gt (tgt := 25) dX11_startsWith_7 (by decide) (fun c2 => ?_) (fun c2 => ?_)
    · -- 7 to 25
      refine s_iconst dX11_startsWith_25 (by decide) ?_
      exact s_zret hR dX11_startsWith_26 rfl (by first | exact Or.inl rfl | exact Or.inr rfl | omega) (hQ 0 (by omega))
    · -- 7 to 10
      refine s_iload dX11_startsWith_10 rfl ?_
      refine s_iload_n dX11_startsWith_12 rfl ?_
      refine s_iload_n dX11_startsWith_13 rfl ?_
      refine s_isub dX11_startsWith_14 (by omega) ?_
      refine s_icmp_gt (tgt := 25) dX11_startsWith_15 (by decide) (fun c3 => ?_) (fun c3 => ?_)
      · -- 15 to 25
        refine s_iconst dX11_startsWith_25 (by decide) ?_
        exact s_zret hR dX11_startsWith_26 rfl (by first | exact Or.inl rfl | exact Or.inr rfl | omega) (hQ 0 (by omega))
      · -- 15 to 18
        refine s_iload dX11_startsWith_18 rfl ?_
        refine s_aload_n dX11_startsWith_20 rfl (Int.natCast_nonneg _) ?_
        refine s_alen dX11_startsWith_21 hkt (by decide) (by omega) ?_
        refine s_icmp_le (tgt := 27) dX11_startsWith_22 (by decide) (fun c4 => ?_) (fun c4 => ?_)
        · -- 22 to 27
          refine s_iconst dX11_startsWith_27 (by decide) ?_
          refine s_istore dX11_startsWith_28 (by decide) (lv' := [some (2, ((r1 : Nat) : Int)), some (0, f), some (0, e), some (2, ((r2 : Nat) : Int)), some (0, n), some (0, 0)]) rfl ?_
          have L5 : ∀ (n5 : Nat) (k5 : Int), ((0 ≤ k5)) → (n - k5).toNat < n5 → WP kX11_startsWith X 30 [some (2, ((r1 : Nat) : Int)), some (0, f), some (0, e), some (2, ((r2 : Nat) : Int)), some (0, n), some (0, k5)] [] G := by
            intro n5
            induction n5 with
            | zero => intro k5 hi5 hm5; exact absurd hm5 (Nat.not_lt_zero _)
            | succ n5 ih5 =>
              intro k5 hi5 hm5
              have ik5 := hi5
              refine s_iload dX11_startsWith_30 rfl ?_
              refine s_iload dX11_startsWith_32 rfl ?_
              refine s_icmp_ge (tgt := 58) dX11_startsWith_34 (by decide) (fun c6 => ?_) (fun c6 => ?_)
              · -- 34 to 58
                refine s_iconst dX11_startsWith_58 (by decide) ?_
                exact s_zret hR dX11_startsWith_59 rfl (by first | exact Or.inl rfl | exact Or.inr rfl | omega) (hQ 1 (by omega))
              · -- 34 to 37
                refine s_aload_n dX11_startsWith_37 rfl (Int.natCast_nonneg _) ?_
                refine s_iload_n dX11_startsWith_38 rfl ?_
                refine s_iload dX11_startsWith_39 rfl ?_
                refine s_iadd dX11_startsWith_41 (by omega) ?_
                refine s_iald dX11_startsWith_42 hkr (by omega) (by omega) rfl ?_
                refine s_aload_n dX11_startsWith_43 rfl (Int.natCast_nonneg _) ?_
                refine s_iload dX11_startsWith_44 rfl ?_
                refine s_iald dX11_startsWith_46 hkt (by omega) (by omega) rfl ?_
                refine s_icmp_eq (tgt := 52) dX11_startsWith_47 (by decide) (fun c7 => ?_) (fun c7 => ?_)
                · -- 47 to 52
                  refine s_iinc dX11_startsWith_52 (v := k5) rfl (by omega) (by decide) (lv' := [some (2, ((r1 : Nat) : Int)), some (0, f), some (0, e), some (2, ((r2 : Nat) : Int)), some (0, n), some (0, k5 + 1)]) rfl ?_
                  refine s_goto (tgt := 30) dX11_startsWith_55 (by decide) ?_
                  exact ih5 (k5 + 1) ((by omega)) (by omega)
                · -- 47 to 50
                  refine s_iconst dX11_startsWith_50 (by decide) ?_
                  exact s_zret hR dX11_startsWith_51 rfl (by first | exact Or.inl rfl | exact Or.inr rfl | omega) (hQ 0 (by omega))
          exact L5 _ 0 ((by omega)) (Nat.lt_succ_self _)
        · -- 22 to 25
          refine s_iconst dX11_startsWith_25 (by decide) ?_
          exact s_zret hR dX11_startsWith_26 rfl (by first | exact Or.inl rfl | exact Or.inr rfl | omega) (hQ 0 (by omega))

abbrev kX11_isSameRow : KD := (RX11, cX11_isSameRow, 4, (some .boolean), [])
def TX11_isSameRow : TR := fun as G Qr => ∃ (r1 N : Nat) (n : Int) (r2 M : Nat) (m : Int), as = [(2, ((r1 : Nat) : Int)), (0, n), (2, ((r2 : Nat) : Int)), (0, m)] ∧ (gK G r1 = (1, N)) ∧ (N ≤ 1000000) ∧ (gK G r2 = (1, M)) ∧ (M ≤ 1000000) ∧ ∀ (r : Int), (r = 0 ∨ r = 1) → Qr (.inl (some (0, r))) G
set_option maxHeartbeats 4000000 in
set_option maxRecDepth 100000 in
theorem gX11_isSameRow : Good kX11_isSameRow yX11_isSameRow 1 TX11_isSameRow := by
  refine good_of (by decide) rfl rfl (fun as G Qr h => ?_) (fun X as G Qr hcf hR hT oa => ?_)
  · obtain ⟨r1, N, n, r2, M, m, rfl, -⟩ := h; exact Nat.le_of_ble_eq_true rfl
  obtain ⟨r1, N, n, r2, M, m, rfl, hkr, hN, hkt, hM, hQ⟩ := hT
  show WP kX11_isSameRow X 0 [some (2, ((r1 : Nat) : Int)), some (0, n), some (2, ((r2 : Nat) : Int)), some (0, m)] [] G
  have hr_n : inR n := okv_R (oa _ (by simp))
  have hr_m : inR m := okv_R (oa _ (by simp))
  refine s_iload_n dX11_isSameRow_0 rfl ?_
  refine s_iload_n dX11_isSameRow_1 rfl ?_
  refine s_icmp_ne (tgt := 20) dX11_isSameRow_2 (by decide) (fun c1 => ?_) (fun c1 => ?_)
  · -- 2 to 20
    refine s_iconst dX11_isSameRow_20 (by decide) ?_
    exact s_zret hR dX11_isSameRow_21 rfl (by first | exact Or.inl rfl | exact Or.inr rfl | omega) (hQ 0 (by omega))
  · -- 2 to 5
    refine s_aload_n dX11_isSameRow_5 rfl (Int.natCast_nonneg _) ?_
    refine s_iconst dX11_isSameRow_6 (by decide) ?_
    refine s_iload_n dX11_isSameRow_7 rfl ?_
    refine s_aload_n dX11_isSameRow_8 rfl (Int.natCast_nonneg _) ?_
    refine s_iload_n dX11_isSameRow_9 rfl ?_
    refine s_callS2 (as := [(2, ((r1 : Nat) : Int)), (0, 0), (0, n), (2, ((r2 : Nat) : Int)), (0, n)]) (rest := []) gX11_startsWith dX11_isSameRow_10 m_1192 m_1782 m_714 m_122 ⟨by decide, by decide, show (parseMethodDescriptor yX11_startsWith.desc).map (fun d => d.parameters.length) = some 5 from by decide +kernel⟩ (Nat.le_of_ble_eq_true rfl) (by rw [hcf]; exact Nat.le_of_ble_eq_true rfl) rfl (Nat.le_of_ble_eq_true rfl) ⟨r1, N, 0, n, r2, M, n, rfl, hkr, (by first | assumption | omega), hkt, (by first | assumption | omega), (by first | assumption | omega), fun rr2 hp3 => ?_⟩
    show WP kX11_isSameRow X 13 [some (2, ((r1 : Nat) : Int)), some (0, n), some (2, ((r2 : Nat) : Int)), some (0, m)] [(0, rr2)] G
    have J5 : ∀ z4 : Int, ((rr2 = 0) ∧ z4 = 0) ∨ ((¬ rr2 = 0) ∧ z4 = 1) → WP kX11_isSameRow X 21 [some (2, ((r1 : Nat) : Int)), some (0, n), some (2, ((r2 : Nat) : Int)), some (0, m)] [(0, z4)] G := by
      intro z4 hz4
      exact s_zret hR dX11_isSameRow_21 rfl (by first | exact Or.inl rfl | exact Or.inr rfl | omega) (hQ z4 (by omega))
    refine s_if_eq (tgt := 20) dX11_isSameRow_13 (by decide) (fun c6 => ?_) (fun c6 => ?_)
    · -- 13 to 20
      refine s_iconst dX11_isSameRow_20 (by decide) ?_
      exact J5 0 (Or.inl ⟨c6, rfl⟩)
    · -- 13 to 16
      refine s_iconst dX11_isSameRow_16 (by decide) ?_
      refine s_goto (tgt := 21) dX11_isSameRow_17 (by decide) ?_
      exact J5 1 (Or.inr (⟨c6, rfl⟩))

abbrev kX0_copy : KD := (RX0, cX0_copy, 3, none, [])
def TX0_copy : TR := fun as G Qr => ∃ (o o2 : Nat) (a b : Nat), as = [(2, ((o : Nat) : Int)), (2, ((o2 : Nat) : Int))] ∧ CI a b G ∧ (a ≤ 2840000 ∧ b ≤ 590000) ∧ (isFc o) ∧ (isFc o2) ∧ (o ≠ o2) ∧ ((gK G (o + 3)).1 ≠ 0) ∧ ((gK G (o + 4)).1 ≠ 0) ∧ ((gK G (o2 + 3)).1 ≠ 0) ∧ ((gK G (o2 + 4)).1 ≠ 0) ∧ ∀ (G' : LG), CI a b G' → KX G G' → WX (fun x => o + 1 ≤ x ∧ x ≤ o + 22) G G' → (∀ P : Int → Prop, FPa P G o2 → FPa P G' o) → Qr (.inl none) G'
set_option maxHeartbeats 4000000 in
set_option maxRecDepth 100000 in
theorem gX0_copy : Good kX0_copy yX0_copy 4 TX0_copy := by
  refine good_of (by decide) rfl rfl (fun as G Qr h => ?_) (fun X as G Qr hcf hR hT oa => ?_)
  · obtain ⟨o, o2, a, b, rfl, -⟩ := h; exact Nat.le_of_ble_eq_true rfl
  obtain ⟨o, o2, a, b, rfl, hC, hab, ho, ho2, hoo, h3al, h4al, b3al, b4al, hQ⟩ := hT
  show WP kX0_copy X 0 [some (2, ((o : Nat) : Int)), some (2, ((o2 : Nat) : Int)), none] [] G
  refine s_iconst dX0_copy_0 (by decide) ?_
  refine s_istore_n dX0_copy_1 (by decide) (lv' := [some (2, ((o : Nat) : Int)), some (2, ((o2 : Nat) : Int)), some (0, 0)]) rfl ?_
  have L1 : ∀ (n1 : Nat) (k1 : Int) (G1 : LG), CI a b G1 → KX G G1 → WX (fun x => o + 1 ≤ x ∧ x ≤ o + 22) G G1 → ((0 ≤ k1 ∧ k1 ≤ 6) ∧ (∀ (P : Int → Prop) (p : Nat), (p : Int) < k1 → FPo P G o2 p → FPo P G1 o p)) → (6 - k1).toNat < n1 → WP kX0_copy X 2 [some (2, ((o : Nat) : Int)), some (2, ((o2 : Nat) : Int)), some (0, k1)] [] G1 := by
    intro n1
    induction n1 with
    | zero => intro k1 G1 hCG1 hXG1 hFG1 hi1 hm1; exact absurd hm1 (Nat.not_lt_zero _)
    | succ n1 ih1 =>
      intro k1 G1 hCG1 hXG1 hFG1 hi1 hm1
      obtain ⟨ik1, ic1⟩ := hi1
      refine s_iload_n dX0_copy_2 rfl ?_
      refine s_bipush dX0_copy_3 rfl (by decide) ?_
      refine s_icmp_ge (tgt := 43) dX0_copy_5 (by decide) (fun c2 => ?_) (fun c2 => ?_)
      · -- 5 to 43
        refine s_iconst dX0_copy_43 (by decide) ?_
        refine s_istore_n dX0_copy_44 (by decide) (lv' := [some (2, ((o : Nat) : Int)), some (2, ((o2 : Nat) : Int)), some (0, 0)]) rfl ?_
        have L3 : ∀ (n3 : Nat) (m3 : Int) (G3 : LG), CI a b G3 → KX G1 G3 → WX (fun x => o + 1 ≤ x ∧ x ≤ o + 22) G G3 → ((0 ≤ m3 ∧ m3 ≤ 10) ∧ (∀ (P : Int → Prop) (p : Nat), (p : Int) < 6 + m3 → FPo P G o2 p → FPo P G3 o p)) → (10 - m3).toNat < n3 → WP kX0_copy X 45 [some (2, ((o : Nat) : Int)), some (2, ((o2 : Nat) : Int)), some (0, m3)] [] G3 := by
          intro n3
          induction n3 with
          | zero => intro m3 G3 hCG3 hXG3 hFG3 hi3 hm3; exact absurd hm3 (Nat.not_lt_zero _)
          | succ n3 ih3 =>
            intro m3 G3 hCG3 hXG3 hFG3 hi3 hm3
            obtain ⟨im3, id3⟩ := hi3
            refine s_iload_n dX0_copy_45 rfl ?_
            refine s_bipush dX0_copy_46 rfl (by decide) ?_
            refine s_icmp_ge (tgt := 64) dX0_copy_48 (by decide) (fun c4 => ?_) (fun c4 => ?_)
            · -- 48 to 64
              exact s_vret hR dX0_copy_64 rfl (hQ G3 hCG3 (KX.trans hXG1 hXG3) hFG3 (fun P hF p hp => id3 P p (by omega) (hF p hp)))
            · -- 48 to 51
              refine s_aload_n dX0_copy_51 rfl (Int.natCast_nonneg _) ?_
              refine s_iload_n dX0_copy_52 rfl ?_
              refine s_aload_n dX0_copy_53 rfl (Int.natCast_nonneg _) ?_
              refine s_iload_n dX0_copy_54 rfl ?_
              refine s_alv (o) (by simp) (fun al7 => ?_)
              have hk8 : gK G3 (o) = (9, 0) := hCG3.1.k (by rw [cde_n (by omega) (by omega)]; omega : cde o = 101) al7
              refine s_callV (as := [(0, m3), (2, ((o2 : Nat) : Int)), (0, m3)]) (rest := []) (n := o) (ci := 1) gX0_copyValue dX0_copy_55 m_1140 m_737 m_1471 m_711 m_64 ⟨by decide, by decide, show (parseMethodDescriptor yX0_copyValue.desc).map (fun d => d.parameters.length) = some 3 from by decide +kernel⟩ (Nat.le_of_ble_eq_true rfl) (by rw [hcf]; exact Nat.le_of_ble_eq_true rfl) hk8 rfl rfl (Nat.le_of_ble_eq_true rfl) ⟨o, m3, o2, m3, a, b, rfl, hCG3, hab, (by first | assumption | omega), (by first | assumption | omega), (by first | assumption | omega), (by first | assumption | omega), (by first | assumption | omega), (by rw [(KX.trans hXG1 hXG3) _ h3al]; exact h3al), (by rw [(KX.trans hXG1 hXG3) _ h4al]; exact h4al), fun G5 hCG5 hXG5 hfG5 hpG5 => ?_⟩
              have hFG5 : WX (fun x => o + 1 ≤ x ∧ x ≤ o + 22) G G5 := WX.trans hFG3 (KX.trans hXG1 hXG3) (WX.mono hfG5 (fun x hx => by omega))
              show WP kX0_copy X 58 [some (2, ((o : Nat) : Int)), some (2, ((o2 : Nat) : Int)), some (0, m3)] [] G5
              refine s_iinc dX0_copy_58 (v := m3) rfl (by omega) (by decide) (lv' := [some (2, ((o : Nat) : Int)), some (2, ((o2 : Nat) : Int)), some (0, m3 + 1)]) rfl ?_
              refine s_goto (tgt := 45) dX0_copy_61 (by decide) ?_
              exact ih3 (m3 + 1) G5 hCG5 (KX.trans hXG3 hXG5) hFG5 (⟨(by omega), (by intro P p hp hF; by_cases e : p = (6 + m3).toNat; (focus (rw [e] at hF ⊢; exact hpG5.1 P (hF.wo (KX.trans hXG1 hXG3) hFG3 (by show ¬ _; omega) (by show ¬ _; omega) (by show ¬ _; omega) b3al b4al))); exact FPo.wx (id3 P p (by omega) hF) hXG5 hfG5 (by show ¬ _; omega) (hpG5.2 p e).1 (hpG5.2 p e).2)⟩) (by omega)
        exact L3 _ 0 G1 hCG1 KX.rf hFG1 (⟨(by omega), (by intro P p hp hF; exact ic1 P p (by omega) hF)⟩) (Nat.lt_succ_self _)
      · -- 5 to 8
        refine s_aload_n dX0_copy_8 rfl (Int.natCast_nonneg _) ?_
        refine s_alv (o) (by simp) (fun al9 => ?_)
        have hk10 : gK G1 (o) = (9, 0) := hCG1.1.k (by rw [cde_n (by omega) (by omega)]; omega : cde o = 101) al9
        have hv11 : gS G1 o 1 = ((o + 1 : Nat) : Int) := by have h9 : (gS G1 o 1) = (((o % 1048576) + 1 : Nat) : Int) := hCG1.1.v (j := 1) (by rw [cde_n (by omega) (by omega)]; omega : cde o = 101) al9 (by rw [hk10]; exact Nat.le_of_ble_eq_true rfl); omega
        refine s_getf (ci := 1) (k := 1) (C := RX0) (T := TX0) (N := 7) (n := o) (L := 0) (t := 2) dX0_copy_9 rfl wi_65 m_409 (Nat.le_of_ble_eq_true rfl) rfl rfl hk10 hv11 ?_
        refine s_iload_n dX0_copy_12 rfl ?_
        refine s_aload_n dX0_copy_13 rfl (Int.natCast_nonneg _) ?_
        refine s_alv (o2) (by simp) (fun al12 => ?_)
        have hk13 : gK G1 (o2) = (9, 0) := hCG1.1.k (by rw [cde_n (by omega) (by omega)]; omega : cde o2 = 101) al12
        have hv14 : gS G1 o2 1 = ((o2 + 1 : Nat) : Int) := by have h9 : (gS G1 o2 1) = (((o2 % 1048576) + 1 : Nat) : Int) := hCG1.1.v (j := 1) (by rw [cde_n (by omega) (by omega)]; omega : cde o2 = 101) al12 (by rw [hk13]; exact Nat.le_of_ble_eq_true rfl); omega
        refine s_getf (ci := 1) (k := 1) (C := RX0) (T := TX0) (N := 7) (n := o2) (L := 0) (t := 2) dX0_copy_14 rfl wi_65 m_409 (Nat.le_of_ble_eq_true rfl) rfl rfl hk13 hv14 ?_
        refine s_iload_n dX0_copy_17 rfl ?_
        refine s_alv (o2 + 1) (by simp) (fun al15 => ?_)
        have hk16 : gK G1 (o2 + 1) = (1, 6) := hCG1.1.k (by rw [cde_n (by omega) (by omega)]; omega : cde (o2 + 1) = 102) al15
        refine s_iald dX0_copy_18 hk16 (by omega) (by omega) rfl ?_
        refine s_alv (o + 1) (by simp) (fun al17 => ?_)
        have hk18 : gK G1 (o + 1) = (1, 6) := hCG1.1.k (by rw [cde_n (by omega) (by omega)]; omega : cde (o + 1) = 102) al17
        refine s_iast dX0_copy_19 hk18 (by omega) (by omega) ?_
        generalize eG19r : gset G1 (o + 1) ((k1 : Int).toNat) (gS G1 (o2 + 1) ((k1 : Int).toNat)) = G19
        have eG19 := eG19r.symm
        have hCG19 : CI a b G19 := by rw [eG19]; exact hCG1.set (by rw [(by rw [cde_n (by omega) (by omega)]; omega : cde (o + 1) = 102)]; rfl) (by rw [(by rw [cde_n (by omega) (by omega)]; omega : cde (o + 1) = 102)]; exact trivial)
        have hXG19 : KX G1 G19 := KX.set KX.rf eG19
        have hFG19 : WX (fun x => o + 1 ≤ x ∧ x ≤ o + 22) G G19 := WX.set hFG1 eG19 (by show _; omega)
        show WP kX0_copy X 20 [some (2, ((o : Nat) : Int)), some (2, ((o2 : Nat) : Int)), some (0, k1)] [] G19
        refine s_aload_n dX0_copy_20 rfl (Int.natCast_nonneg _) ?_
        refine s_iload_n dX0_copy_21 rfl ?_
        refine s_aload_n dX0_copy_22 rfl (Int.natCast_nonneg _) ?_
        have hk20 : gK G19 (o2) = (9, 0) := ((hXG19).k hk13 (by decide))
        refine s_alv (o2) (by simp) (fun al21 => ?_)
        have hv22 : gS G19 o2 3 = ((o2 + 3 : Nat) : Int) := by have h9 : (gS G19 o2 3) = (((o2 % 1048576) + 3 : Nat) : Int) := hCG19.1.v (j := 3) (by rw [cde_n (by omega) (by omega)]; omega : cde o2 = 101) al21 (by rw [hk20]; exact Nat.le_of_ble_eq_true rfl); omega
        refine s_getf (ci := 1) (k := 3) (C := RX0) (T := TX0) (N := 7) (n := o2) (L := 0) (t := 2) dX0_copy_23 rfl wi_65 m_405 (Nat.le_of_ble_eq_true rfl) rfl rfl hk20 hv22 ?_
        refine s_iload_n dX0_copy_26 rfl ?_
        refine s_alv (o2 + 3) (by simp) (fun al23 => ?_)
        have hk24 : gK G19 (o2 + 3) = (4, 16) := hCG19.1.k (by rw [cde_n (by omega) (by omega)]; omega : cde (o2 + 3) = 104) al23
        have hv26b : 0 ≤ (gS G19 (o2 + 3) (k1 : Int).toNat) ∧ (gS G19 (o2 + 3) (k1 : Int).toNat) % 1048576 = ((((o2 + 3) % 1048576) + 4 + ((k1 : Int).toNat) : Nat) : Int) := hCG19.1.v (j := (k1 : Int).toNat) (by rw [cde_n (by omega) (by omega)]; omega : cde (o2 + 3) = 104) al23 (by rw [hk24]; show (k1 : Int).toNat < 16; omega)
        obtain ⟨q25, hv26⟩ : ∃ q : Nat, gS G19 (o2 + 3) (k1 : Int).toNat = (q : Int) := ⟨(gS G19 (o2 + 3) (k1 : Int).toNat).toNat, by omega⟩
        rw [hv26] at hv26b
        refine s_aald4 dX0_copy_27 hk24 (by omega) (by omega) hv26 ?_
        refine s_aload_n dX0_copy_28 rfl (Int.natCast_nonneg _) ?_
        have hv27 : gS G19 o2 4 = ((o2 + 4 : Nat) : Int) := by have h9 : (gS G19 o2 4) = (((o2 % 1048576) + 4 : Nat) : Int) := hCG19.1.v (j := 4) (by rw [cde_n (by omega) (by omega)]; omega : cde o2 = 101) al21 (by rw [hk20]; exact Nat.le_of_ble_eq_true rfl); omega
        refine s_getf (ci := 1) (k := 4) (C := RX0) (T := TX0) (N := 7) (n := o2) (L := 0) (t := 2) dX0_copy_29 rfl wi_65 m_406 (Nat.le_of_ble_eq_true rfl) rfl rfl hk20 hv27 ?_
        refine s_iload_n dX0_copy_32 rfl ?_
        refine s_alv (o2 + 4) (by simp) (fun al28 => ?_)
        have hk29 : gK G19 (o2 + 4) = (1, 16) := hCG19.1.k (by rw [cde_n (by omega) (by omega)]; omega : cde (o2 + 4) = 105) al28
        have hv30 : 0 ≤ (gS G19 (o2 + 4) (k1 : Int).toNat) ∧ (gS G19 (o2 + 4) (k1 : Int).toNat) ≤ 200 := hCG19.1.v (j := (k1 : Int).toNat) (by rw [cde_n (by omega) (by omega)]; omega : cde (o2 + 4) = 105) al28 (by rw [hk29]; show (k1 : Int).toNat < 16; omega)
        refine s_iald dX0_copy_33 hk29 (by omega) (by omega) rfl ?_
        refine s_alv (q25) (by simp) (fun al31 => ?_)
        obtain ⟨L33, hk32, hL33a, hL33b⟩ := hCG19.1.kr (show 108 ≤ cde q25 ∧ cde q25 < 124 from by rw [cde_n (by omega) (by omega)]; omega) al31
        have hk36 : gK G19 (o) = (9, 0) := ((hXG19).k hk10 (by decide))
        refine s_callV (as := [(0, k1), (2, ((q25 : Nat) : Int)), (0, gS G19 (o2 + 4) ((k1 : Int).toNat))]) (rest := []) (n := o) (ci := 1) gX0_putRow dX0_copy_34 m_1138 m_746 m_1479 m_711 m_73 ⟨by decide, by decide, show (parseMethodDescriptor yX0_putRow.desc).map (fun d => d.parameters.length) = some 3 from by decide +kernel⟩ (Nat.le_of_ble_eq_true rfl) (by rw [hcf]; exact Nat.le_of_ble_eq_true rfl) hk36 rfl rfl (Nat.le_of_ble_eq_true rfl) ⟨o, k1, q25, L33, gS G19 (o2 + 4) ((k1 : Int).toNat), a, b, rfl, hCG19, hab, (by first | assumption | omega), (by first | assumption | omega), hk32, (by first | assumption | omega), (by first | assumption | omega), (by first | assumption | omega), fun G34 hCG34 hXG34 hfG34 hpG34 => ?_⟩
        have hFG34 : WX (fun x => o + 1 ≤ x ∧ x ≤ o + 22) G G34 := WX.trans hFG19 (KX.trans hXG1 hXG19) (WX.mono hfG34 (fun x hx => by omega))
        show WP kX0_copy X 37 [some (2, ((o : Nat) : Int)), some (2, ((o2 : Nat) : Int)), some (0, k1)] [] G34
        refine s_iinc dX0_copy_37 (v := k1) rfl (by omega) (by decide) (lv' := [some (2, ((o : Nat) : Int)), some (2, ((o2 : Nat) : Int)), some (0, k1 + 1)]) rfl ?_
        refine s_goto (tgt := 2) dX0_copy_40 (by decide) ?_
        exact ih1 (k1 + 1) G34 hCG34 (KX.trans (KX.trans hXG1 hXG19) hXG34) hFG34 (⟨(by omega), (by intro P p hp hF; by_cases e : p = (k1).toNat; (focus (rw [e] at hF ⊢; exact PRW.fo hpG34 (hF.wo (KX.trans hXG1 hXG19) hFG19 (by show ¬ _; omega) (by show ¬ _; omega) (by show ¬ _; omega) b3al b4al) hv26 rfl hk32)); exact PRW.other hpG34 (FPo.set (ic1 P p (by omega) hF) eG19 (by omega) (by omega) (by omega)) hXG34 hfG34 (by show ¬ _; omega) e)⟩) (by omega)
  exact L1 _ 0 G hC KX.rf WX.rf (⟨(by omega), (by intro P p hp; omega)⟩) (Nat.lt_succ_self _)
