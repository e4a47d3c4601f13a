abbrev kX11_startsWith : KD := (RX11, cX11_startsWith, 6, (some .boolean), [])
def TX11_startsWith : TR := fun as G Qr => ∃ (r1 N : Nat) (f e : Int) (r2 M : Nat) (n : Int), as = [(2, ((r1 : Nat) : Int)), (0, f), (0, e), (2, ((r2 : Nat) : Int)), (0, n)] ∧ (gK G r1 = (1, N)) ∧ (N ≤ 1000000) ∧ (gK G r2 = (1, M)) ∧ (M ≤ 1000000) ∧ (f ≤ 1000000 ∧ (f = 0 ∨ 0 ≤ e)) ∧ ∀ (r : Int), (r = 0 ∨ r = 1) → Qr (.inl (some (0, r))) G
set_option maxHeartbeats 4000000 in
set_option maxRecDepth 100000 in
theorem gX11_startsWith : Good kX11_startsWith yX11_startsWith 0 TX11_startsWith := by
  refine good_of (by decide) rfl rfl (fun as G Qr h => ?_) (fun X as G Qr hcf hR hT oa => ?_)
  · obtain ⟨r1, N, f, e, r2, M, n, rfl, -⟩ := h; exact Nat.le_of_ble_eq_true rfl
  obtain ⟨r1, N, f, e, r2, M, n, rfl, hkr, hN, hkt, hM, hf, hQ⟩ := hT
  show WP kX11_startsWith X 0 [some (2, ((r1 : Nat) : Int)), some (0, f), some (0, e), some (2, ((r2 : Nat) : Int)), some (0, n), none] [] G
  have hr_f : inR f := okv_R (oa _ (by simp))
  have hr_e : inR e := okv_R (oa _ (by simp))
  have hr_n : inR n := okv_R (oa _ (by simp))
  refine s_iload_n dX11_startsWith_0 rfl ?_
  refine s_if_lt (tgt := 25) dX11_startsWith_1 (by decide) (fun c1 => ?_) (fun c1 => ?_)
  · -- 1 to 25
    refine s_iconst dX11_startsWith_25 (by decide) ?_
    exact s_zret hR dX11_startsWith_26 rfl (by first | exact Or.inl rfl | exact Or.inr rfl | omega) (hQ 0 (by omega))
  · -- 1 to 4
    refine s_iload_n dX11_startsWith_4 rfl ?_
    refine s_aload_n dX11_startsWith_5 rfl (Int.natCast_nonneg _) ?_
    refine s_alen dX11_startsWith_6 hkr (by decide) (by omega) ?_
    refine s_icmp_gt (tgt := 25) dX11_startsWith_7 (by decide) (fun c2 => ?_) (fun c2 => ?_)
    · -- 7 to 25
      refine s_iconst dX11_startsWith_25 (by decide) ?_
      exact s_zret hR dX11_startsWith_26 rfl (by first | exact Or.inl rfl | exact Or.inr rfl | omega) (hQ 0 (by omega))
    · -- 7 to 10
      refine s_iload dX11_startsWith_10 rfl ?_
      refine s_iload_n dX11_startsWith_12 rfl ?_
      refine s_iload_n dX11_startsWith_13 rfl ?_
      refine s_isub dX11_startsWith_14 (by omega) ?_
      refine s_icmp_gt (tgt := 25) dX11_startsWith_15 (by decide) (fun c3 => ?_) (fun c3 => ?_)
      · -- 15 to 25
        refine s_iconst dX11_startsWith_25 (by decide) ?_
        exact s_zret hR dX11_startsWith_26 rfl (by first | exact Or.inl rfl | exact Or.inr rfl | omega) (hQ 0 (by omega))
      · -- 15 to 18
        refine s_iload dX11_startsWith_18 rfl ?_
        refine s_aload_n dX11_startsWith_20 rfl (Int.natCast_nonneg _) ?_
        refine s_alen dX11_startsWith_21 hkt (by decide) (by omega) ?_
        refine s_icmp_le (tgt := 27) dX11_startsWith_22 (by decide) (fun c4 => ?_) (fun c4 => ?_)
        · -- 22 to 27
          refine s_iconst dX11_startsWith_27 (by decide) ?_
          refine s_istore dX11_startsWith_28 (by decide) (lv' := [some (2, ((r1 : Nat) : Int)), some (0, f), some (0, e), some (2, ((r2 : Nat) : Int)), some (0, n), some (0, 0)]) rfl ?_
          have L5 : ∀ (n5 : Nat) (k5 : Int), ((0 ≤ k5)) → (n - k5).toNat < n5 → WP kX11_startsWith X 30 [some (2, ((r1 : Nat) : Int)), some (0, f), some (0, e), some (2, ((r2 : Nat) : Int)), some (0, n), some (0, k5)] [] G := by
            intro n5
            induction n5 with
            | zero => intro k5 hi5 hm5; exact absurd hm5 (Nat.not_lt_zero _)
            | succ n5 ih5 =>
              intro k5 hi5 hm5
              have ik5 := hi5
              refine s_iload dX11_startsWith_30 rfl ?_
              refine s_iload dX11_startsWith_32 rfl ?_
              refine s_icmp_ge (tgt := 58) dX11_startsWith_34 (by decide) (fun c6 => ?_) (fun c6 => ?_)
              · -- 34 to 58
                refine s_iconst dX11_startsWith_58 (by decide) ?_
                exact s_zret hR dX11_startsWith_59 rfl (by first | exact Or.inl rfl | exact Or.inr rfl | omega) (hQ 1 (by omega))
              · -- 34 to 37
                refine s_aload_n dX11_startsWith_37 rfl (Int.natCast_nonneg _) ?_
                refine s_iload_n dX11_startsWith_38 rfl ?_
                refine s_iload dX11_startsWith_39 rfl ?_
                refine s_iadd dX11_startsWith_41 (by omega) ?_
                refine s_iald dX11_startsWith_42 hkr (by omega) (by omega) rfl ?_
                refine s_aload_n dX11_startsWith_43 rfl (Int.natCast_nonneg _) ?_
                refine s_iload dX11_startsWith_44 rfl ?_
                refine s_iald dX11_startsWith_46 hkt (by omega) (by omega) rfl ?_
                refine s_icmp_eq (tgt := 52) dX11_startsWith_47 (by decide) (fun c7 => ?_) (fun c7 => ?_)
                · -- 47 to 52
                  refine s_iinc dX11_startsWith_52 (v := k5) rfl (by omega) (by decide) (lv' := [some (2, ((r1 : Nat) : Int)), some (0, f), some (0, e), some (2, ((r2 : Nat) : Int)), some (0, n), some (0, k5 + 1)]) rfl ?_
                  refine s_goto (tgt := 30) dX11_startsWith_55 (by decide) ?_
                  exact ih5 (k5 + 1) ((by omega)) (by omega)
                · -- 47 to 50
                  refine s_iconst dX11_startsWith_50 (by decide) ?_
                  exact s_zret hR dX11_startsWith_51 rfl (by first | exact Or.inl rfl | exact Or.inr rfl | omega) (hQ 0 (by omega))
          exact L5 _ 0 ((by omega)) (Nat.lt_succ_self _)
        · -- 22 to 25
          refine s_iconst dX11_startsWith_25 (by decide) ?_
          exact s_zret hR dX11_startsWith_26 rfl (by first | exact Or.inl rfl | exact Or.inr rfl | omega) (hQ 0 (by omega))

abbrev kX11_isSameRow : KD := (RX11, cX11_isSameRow, 4, (some .boolean), [])
def TX11_isSameRow : TR := fun as G Qr => ∃ (r1 N : Nat) (n : Int) (r2 M : Nat) (m : Int), as = [(2, ((r1 : Nat) : Int)), (0, n), (2, ((r2 : Nat) : Int)), (0, m)] ∧ (gK G r1 = (1, N)) ∧ (N ≤ 1000000) ∧ (gK G r2 = (1, M)) ∧ (M ≤ 1000000) ∧ ∀ (r : Int), (r = 0 ∨ r = 1) → Qr (.inl (some (0, r))) G
set_option maxHeartbeats 4000000 in
set_option maxRecDepth 100000 in
theorem gX11_isSameRow : Good kX11_isSameRow yX11_isSameRow 1 TX11_isSameRow := by
  refine good_of (by decide) rfl rfl (fun as G Qr h => ?_) (fun X as G Qr hcf hR hT oa => ?_)
  · obtain ⟨r1, N, n, r2, M, m, rfl, -⟩ := h; exact Nat.le_of_ble_eq_true rfl
  obtain ⟨r1, N, n, r2, M, m, rfl, hkr, hN, hkt, hM, hQ⟩ := hT
  show WP kX11_isSameRow X 0 [some (2, ((r1 : Nat) : Int)), some (0, n), some (2, ((r2 : Nat) : Int)), some (0, m)] [] G
  have hr_n : inR n := okv_R (oa _ (by simp))
  have hr_m : inR m := okv_R (oa _ (by simp))
  refine s_iload_n dX11_isSameRow_0 rfl ?_
  refine s_iload_n dX11_isSameRow_1 rfl ?_
  refine s_icmp_ne (tgt := 20) dX11_isSameRow_2 (by decide) (fun c1 => ?_) (fun c1 => ?_)
  · -- 2 to 20
    refine s_iconst dX11_isSameRow_20 (by decide) ?_
    exact s_zret hR dX11_isSameRow_21 rfl (by first | exact Or.inl rfl | exact Or.inr rfl | omega) (hQ 0 (by omega))
  · -- 2 to 5
    refine s_aload_n dX11_isSameRow_5 rfl (Int.natCast_nonneg _) ?_
    refine s_iconst dX11_isSameRow_6 (by decide) ?_
    refine s_iload_n dX11_isSameRow_7 rfl ?_
    refine s_aload_n dX11_isSameRow_8 rfl (Int.natCast_nonneg _) ?_
    refine s_iload_n dX11_isSameRow_9 rfl ?_
    refine s_callS2 (as := [(2, ((r1 : Nat) : Int)), (0, 0), (0, n), (2, ((r2 : Nat) : Int)), (0, n)]) (rest := []) gX11_startsWith dX11_isSameRow_10 m_1192 m_1782 m_714 m_122 ⟨by decide, by decide, show (parseMethodDescriptor yX11_startsWith.desc).map (fun d => d.parameters.length) = some 5 from by decide +kernel⟩ (Nat.le_of_ble_eq_true rfl) (by rw [hcf]; exact Nat.le_of_ble_eq_true rfl) rfl (Nat.le_of_ble_eq_true rfl) ⟨r1, N, 0, n, r2, M, n, rfl, hkr, (by first | assumption | omega), hkt, (by first | assumption | omega), (by first | assumption | omega), fun rr2 hp3 => ?_⟩
    show WP kX11_isSameRow X 13 [some (2, ((r1 : Nat) : Int)), some (0, n), some (2, ((r2 : Nat) : Int)), some (0, m)] [(0, rr2)] G
    have J5 : ∀ z4 : Int, ((rr2 = 0) ∧ z4 = 0) ∨ ((¬ rr2 = 0) ∧ z4 = 1) → WP kX11_isSameRow X 21 [some (2, ((r1 : Nat) : Int)), some (0, n), some (2, ((r2 : Nat) : Int)), some (0, m)] [(0, z4)] G := by
      intro z4 hz4
      exact s_zret hR dX11_isSameRow_21 rfl (by first | exact Or.inl rfl | exact Or.inr rfl | omega) (hQ z4 (by omega))
    refine s_if_eq (tgt := 20) dX11_isSameRow_13 (by decide) (fun c6 => ?_) (fun c6 => ?_)
    · -- 13 to 20
      refine s_iconst dX11_isSameRow_20 (by decide) ?_
      exact J5 0 (Or.inl ⟨c6, rfl⟩)
    · -- 13 to 16
      refine s_iconst dX11_isSameRow_16 (by decide) ?_
      refine s_goto (tgt := 21) dX11_isSameRow_17 (by decide) ?_
      exact J5 1 (Or.inr (⟨c6, rfl⟩))
