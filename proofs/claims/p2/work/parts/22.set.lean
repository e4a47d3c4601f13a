def TX12_goes : TR := fun as G Qr => ∃ (a b c : Int), as = [(2, ((1000 : Nat) : Int)), (0, a), (0, b), (0, c)] ∧ MG G ∧ ∀ (r : Int) (G' : LG), MG G' → (G' = gset G 1000 25 ((if a = 0 then 1 else if b = 0 then 2 else if c = 0 then 3 else 0)) ∧ (r = b2i (¬ a = 0 ∧ ¬ b = 0 ∧ ¬ c = 0))) → Qr (.inl (some (0, r))) G'
set_option maxHeartbeats 4000000 in
set_option maxRecDepth 100000 in
theorem gX12_goes : Good kX12_goes yX12_goes 0 TX12_goes := by
  refine good_of (by decide) rfl rfl (fun as G Qr h => ?_) (fun X as G Qr hcf hR hT oa => ?_)
  · obtain ⟨a, b, c, rfl, -⟩ := h; exact Nat.le_of_ble_eq_true rfl
  obtain ⟨a, b, c, rfl, hM, hQ⟩ := hT
  show WP kX12_goes X 0 [some (2, ((1000 : Nat) : Int)), some (0, a), some (0, b), some (0, c)] [] G
  have hr_a : inR a := okv_R (oa _ (by simp))
  have hr_b : inR b := okv_R (oa _ (by simp))
  have hr_c : inR c := okv_R (oa _ (by simp))
  refine s_aload_n dX12_goes_0 rfl (Int.natCast_nonneg _) ?_
  refine s_iload_n dX12_goes_1 rfl ?_
  have J2 : ∀ z1 : Int, ((¬ a = 0) ∧ (¬ b = 0) ∧ (¬ c = 0) ∧ z1 = 0) ∨ ((¬ a = 0) ∧ (¬ b = 0) ∧ (c = 0) ∧ z1 = 3) ∨ ((¬ a = 0) ∧ (b = 0) ∧ z1 = 2) ∨ ((a = 0) ∧ z1 = 1) → WP kX12_goes X 26 [some (2, ((1000 : Nat) : Int)), some (0, a), some (0, b), some (0, c)] [(0, z1), (2, ((1000 : Nat) : Int))] G := by
    intro z1 hz1
    refine pf_thrown rfl dX12_goes_26 hM (fun G3 eG3 hMG3 => ?_)
    refine s_aload_n dX12_goes_29 rfl (Int.natCast_nonneg _) ?_
    refine gf_thrown rfl dX12_goes_30 hMG3 (gsaE eG3) ?_
    have J5 : ∀ z4 : Int, ((¬ z1 = 0) ∧ z4 = 0) ∨ ((z1 = 0) ∧ z4 = 1) → WP kX12_goes X 41 [some (2, ((1000 : Nat) : Int)), some (0, a), some (0, b), some (0, c)] [(0, z4)] G3 := by
      intro z4 hz4
      exact s_zret hR dX12_goes_41 rfl (by first | exact Or.inl rfl | exact Or.inr rfl | exact b2i_01 | omega) (hQ _ G3 hMG3 (⟨by rw [eG3]; congr 1; split <;> omega, by by_cases hb : ¬ a = 0 ∧ ¬ b = 0 ∧ ¬ c = 0; (focus (rw [b2i_t hb]; omega)); (rw [b2i_f hb]; omega)⟩))
    refine s_if_ne (tgt := 40) dX12_goes_33 (by decide) (fun c6 => ?_) (fun c6 => ?_)
    · -- 33 to 40
      refine s_iconst dX12_goes_40 (by decide) ?_
      exact J5 0 (Or.inl ⟨c6, rfl⟩)
    · -- 33 to 36
      refine s_iconst dX12_goes_36 (by decide) ?_
      refine s_goto (tgt := 41) dX12_goes_37 (by decide) ?_
      exact J5 1 (Or.inr (⟨c6, rfl⟩))
  refine s_if_ne (tgt := 9) dX12_goes_2 (by decide) (fun c7 => ?_) (fun c7 => ?_)
  · -- 2 to 9
    refine s_iload_n dX12_goes_9 rfl ?_
    refine s_if_ne (tgt := 17) dX12_goes_10 (by decide) (fun c8 => ?_) (fun c8 => ?_)
    · -- 10 to 17
      refine s_iload_n dX12_goes_17 rfl ?_
      refine s_if_ne (tgt := 25) dX12_goes_18 (by decide) (fun c9 => ?_) (fun c9 => ?_)
      · -- 18 to 25
        refine s_iconst dX12_goes_25 (by decide) ?_
        exact J2 0 (Or.inl ⟨c7, c8, c9, rfl⟩)
      · -- 18 to 21
        refine s_iconst dX12_goes_21 (by decide) ?_
        refine s_goto (tgt := 26) dX12_goes_22 (by decide) ?_
        exact J2 3 (Or.inr (Or.inl ⟨c7, c8, c9, rfl⟩))
    · -- 10 to 13
      refine s_iconst dX12_goes_13 (by decide) ?_
      refine s_goto (tgt := 26) dX12_goes_14 (by decide) ?_
      exact J2 2 (Or.inr (Or.inr (Or.inl ⟨c7, c8, rfl⟩)))
  · -- 2 to 5
    refine s_iconst dX12_goes_5 (by decide) ?_
    refine s_goto (tgt := 26) dX12_goes_6 (by decide) ?_
    exact J2 1 (Or.inr (Or.inr (Or.inr (⟨c7, rfl⟩))))

def TX12_tells : TR := fun as G Qr => ∃ (v : Int), as = [(2, ((1000 : Nat) : Int)), (0, v)] ∧ MG G ∧ ∀ (r : Int) (G' : LG), MG G' → (G' = gset G 1000 25 0 ∧ (r = v)) → Qr (.inl (some (0, r))) G'
set_option maxHeartbeats 4000000 in
set_option maxRecDepth 100000 in
theorem gX12_tells : Good kX12_tells yX12_tells 0 TX12_tells := by
  refine good_of (by decide) rfl rfl (fun as G Qr h => ?_) (fun X as G Qr hcf hR hT oa => ?_)
  · obtain ⟨v, rfl, -⟩ := h; exact Nat.le_of_ble_eq_true rfl
  obtain ⟨v, rfl, hM, hQ⟩ := hT
  show WP kX12_tells X 0 [some (2, ((1000 : Nat) : Int)), some (0, v)] [] G
  have hr_v : inR v := okv_R (oa _ (by simp))
  refine s_aload_n dX12_tells_0 rfl (Int.natCast_nonneg _) ?_
  refine s_iconst dX12_tells_1 (by decide) ?_
  refine pf_thrown rfl dX12_tells_2 hM (fun G1 eG1 hMG1 => ?_)
  refine s_iload_n dX12_tells_5 rfl ?_
  exact s_iret hR dX12_tells_6 rfl (hQ _ G1 hMG1 (⟨eG1, by rfl⟩))

def TX12_shows : TR := fun as G Qr => ∃ (s k t g n : Int), as = [(2, ((1000 : Nat) : Int)), (0, s), (0, k), (0, t), (0, g), (0, n)] ∧ MG G ∧ (0 ≤ s ∧ s < 43) ∧ (0 ≤ k ∧ k < 10) ∧ ∀ G' : LG, MG G' → (∃ G1 G2 : LG, G1 = gset G a_sValue ((10 * s + k).toNat) t ∧ G2 = gset G1 a_sFlags ((10 * s + k).toNat) g ∧ G' = gset G2 a_sNumber ((10 * s + k).toNat) n ∧ (True)) → Qr (.inl none) G'
set_option maxHeartbeats 4000000 in
set_option maxRecDepth 100000 in
theorem gX12_shows : Good kX12_shows yX12_shows 0 TX12_shows := by
  refine good_of (by decide) rfl rfl (fun as G Qr h => ?_) (fun X as G Qr hcf hR hT oa => ?_)
  · obtain ⟨s, k, t, g, n, rfl, -⟩ := h; exact Nat.le_of_ble_eq_true rfl
  obtain ⟨s, k, t, g, n, rfl, hM, hs, hk, hQ⟩ := hT
  show WP kX12_shows X 0 [some (2, ((1000 : Nat) : Int)), some (0, s), some (0, k), some (0, t), some (0, g), some (0, n)] [] G
  have hr_s : inR s := okv_R (oa _ (by simp))
  have hr_k : inR k := okv_R (oa _ (by simp))
  have hr_t : inR t := okv_R (oa _ (by simp))
  have hr_g : inR g := okv_R (oa _ (by simp))
  have hr_n : inR n := okv_R (oa _ (by simp))
  refine s_aload_n dX12_shows_0 rfl (Int.natCast_nonneg _) ?_
  refine gf_sValue rfl dX12_shows_1 hM ?_
  refine s_bipush dX12_shows_4 rfl (by decide) ?_
  refine s_iload_n dX12_shows_6 rfl ?_
  refine s_imul dX12_shows_7 (by omega) ?_
  refine s_iload_n dX12_shows_8 rfl ?_
  refine s_iadd dX12_shows_9 (by omega) ?_
  refine s_iload_n dX12_shows_10 rfl ?_
  refine r_iast dX12_shows_11 hM (mg_a_sValue hM) (by decide) (by omega) (by omega) (fun G1 eG1 hMG1 => ?_)
  show WP kX12_shows X 12 [some (2, ((1000 : Nat) : Int)), some (0, s), some (0, k), some (0, t), some (0, g), some (0, n)] [] G1
  refine s_aload_n dX12_shows_12 rfl (Int.natCast_nonneg _) ?_
  refine gf_sFlags rfl dX12_shows_13 hMG1 ?_
  refine s_bipush dX12_shows_16 rfl (by decide) ?_
  refine s_iload_n dX12_shows_18 rfl ?_
  refine s_imul dX12_shows_19 (by omega) ?_
  refine s_iload_n dX12_shows_20 rfl ?_
  refine s_iadd dX12_shows_21 (by omega) ?_
  refine s_iload dX12_shows_22 rfl ?_
  refine r_iast dX12_shows_24 hMG1 (mg_a_sFlags hMG1) (by decide) (by omega) (by omega) (fun G2 eG2 hMG2 => ?_)
  show WP kX12_shows X 25 [some (2, ((1000 : Nat) : Int)), some (0, s), some (0, k), some (0, t), some (0, g), some (0, n)] [] G2
  refine s_aload_n dX12_shows_25 rfl (Int.natCast_nonneg _) ?_
  refine gf_sNumber rfl dX12_shows_26 hMG2 ?_
  refine s_bipush dX12_shows_29 rfl (by decide) ?_
  refine s_iload_n dX12_shows_31 rfl ?_
  refine s_imul dX12_shows_32 (by omega) ?_
  refine s_iload_n dX12_shows_33 rfl ?_
  refine s_iadd dX12_shows_34 (by omega) ?_
  refine s_iload dX12_shows_35 rfl ?_
  refine r_iast dX12_shows_37 hMG2 (mg_a_sNumber hMG2) (by decide) (by omega) (by omega) (fun G3 eG3 hMG3 => ?_)
  show WP kX12_shows X 38 [some (2, ((1000 : Nat) : Int)), some (0, s), some (0, k), some (0, t), some (0, g), some (0, n)] [] G3
  exact s_vret hR dX12_shows_38 rfl (hQ G3 hMG3 (⟨G1, G2, eG1, eG2, eG3, trivial⟩))

def TX12_moves : TR := fun as G Qr => ∃ (s k t l : Int), as = [(2, ((1000 : Nat) : Int)), (0, s), (0, k), (0, t), (0, l)] ∧ MG G ∧ (0 ≤ s ∧ s < 43) ∧ (0 ≤ k ∧ k < 10) ∧ (0 ≤ t ∧ t < 43) ∧ (0 ≤ l ∧ l < 10) ∧ ∀ G' : LG, MG G' → (∃ G1 G2 : LG, G1 = gset G a_sValue ((10 * t + l).toNat) ((gS G a_sValue (10 * s + k).toNat)) ∧ G2 = gset G1 a_sFlags ((10 * t + l).toNat) ((gS G a_sFlags (10 * s + k).toNat)) ∧ G' = gset G2 a_sNumber ((10 * t + l).toNat) ((gS G a_sNumber (10 * s + k).toNat)) ∧ (True)) → Qr (.inl none) G'
set_option maxHeartbeats 4000000 in
set_option maxRecDepth 100000 in
theorem gX12_moves : Good kX12_moves yX12_moves 0 TX12_moves := by
  refine good_of (by decide) rfl rfl (fun as G Qr h => ?_) (fun X as G Qr hcf hR hT oa => ?_)
  · obtain ⟨s, k, t, l, rfl, -⟩ := h; exact Nat.le_of_ble_eq_true rfl
  obtain ⟨s, k, t, l, rfl, hM, hs, hk, ht, hl, hQ⟩ := hT
  show WP kX12_moves X 0 [some (2, ((1000 : Nat) : Int)), some (0, s), some (0, k), some (0, t), some (0, l)] [] G
  have hr_s : inR s := okv_R (oa _ (by simp))
  have hr_k : inR k := okv_R (oa _ (by simp))
  have hr_t : inR t := okv_R (oa _ (by simp))
  have hr_l : inR l := okv_R (oa _ (by simp))
  refine s_aload_n dX12_moves_0 rfl (Int.natCast_nonneg _) ?_
  refine gf_sValue rfl dX12_moves_1 hM ?_
  refine s_bipush dX12_moves_4 rfl (by decide) ?_
  refine s_iload_n dX12_moves_6 rfl ?_
  refine s_imul dX12_moves_7 (by omega) ?_
  refine s_iload dX12_moves_8 rfl ?_
  refine s_iadd dX12_moves_10 (by omega) ?_
  refine s_aload_n dX12_moves_11 rfl (Int.natCast_nonneg _) ?_
  refine gf_sValue rfl dX12_moves_12 hM ?_
  refine s_bipush dX12_moves_15 rfl (by decide) ?_
  refine s_iload_n dX12_moves_17 rfl ?_
  refine s_imul dX12_moves_18 (by omega) ?_
  refine s_iload_n dX12_moves_19 rfl ?_
  refine s_iadd dX12_moves_20 (by omega) ?_
  refine s_iald dX12_moves_21 (mg_a_sValue hM) (by omega) (by omega) rfl ?_
  refine r_iast dX12_moves_22 hM (mg_a_sValue hM) (by decide) (by omega) (by omega) (fun G1 eG1 hMG1 => ?_)
  show WP kX12_moves X 23 [some (2, ((1000 : Nat) : Int)), some (0, s), some (0, k), some (0, t), some (0, l)] [] G1
  refine s_aload_n dX12_moves_23 rfl (Int.natCast_nonneg _) ?_
  refine gf_sFlags rfl dX12_moves_24 hMG1 ?_
  refine s_bipush dX12_moves_27 rfl (by decide) ?_
  refine s_iload_n dX12_moves_29 rfl ?_
  refine s_imul dX12_moves_30 (by omega) ?_
  refine s_iload dX12_moves_31 rfl ?_
  refine s_iadd dX12_moves_33 (by omega) ?_
  refine s_aload_n dX12_moves_34 rfl (Int.natCast_nonneg _) ?_
  refine gf_sFlags rfl dX12_moves_35 hMG1 ?_
  refine s_bipush dX12_moves_38 rfl (by decide) ?_
  refine s_iload_n dX12_moves_40 rfl ?_
  refine s_imul dX12_moves_41 (by omega) ?_
  refine s_iload_n dX12_moves_42 rfl ?_
  refine s_iadd dX12_moves_43 (by omega) ?_
  refine s_iald dX12_moves_44 (mg_a_sFlags hMG1) (by omega) (by omega) (gsnE eG1 (by decide)) ?_
  refine r_iast dX12_moves_45 hMG1 (mg_a_sFlags hMG1) (by decide) (by omega) (by omega) (fun G2 eG2 hMG2 => ?_)
  show WP kX12_moves X 46 [some (2, ((1000 : Nat) : Int)), some (0, s), some (0, k), some (0, t), some (0, l)] [] G2
  refine s_aload_n dX12_moves_46 rfl (Int.natCast_nonneg _) ?_
  refine gf_sNumber rfl dX12_moves_47 hMG2 ?_
  refine s_bipush dX12_moves_50 rfl (by decide) ?_
  refine s_iload_n dX12_moves_52 rfl ?_
  refine s_imul dX12_moves_53 (by omega) ?_
  refine s_iload dX12_moves_54 rfl ?_
  refine s_iadd dX12_moves_56 (by omega) ?_
  refine s_aload_n dX12_moves_57 rfl (Int.natCast_nonneg _) ?_
  refine gf_sNumber rfl dX12_moves_58 hMG2 ?_
  refine s_bipush dX12_moves_61 rfl (by decide) ?_
  refine s_iload_n dX12_moves_63 rfl ?_
  refine s_imul dX12_moves_64 (by omega) ?_
  refine s_iload_n dX12_moves_65 rfl ?_
  refine s_iadd dX12_moves_66 (by omega) ?_
  refine s_iald dX12_moves_67 (mg_a_sNumber hMG2) (by omega) (by omega) (Eq.trans (gsnE eG2 (by decide)) (gsnE eG1 (by decide))) ?_
  refine r_iast dX12_moves_68 hMG2 (mg_a_sNumber hMG2) (by decide) (by omega) (by omega) (fun G3 eG3 hMG3 => ?_)
  show WP kX12_moves X 69 [some (2, ((1000 : Nat) : Int)), some (0, s), some (0, k), some (0, t), some (0, l)] [] G3
  exact s_vret hR dX12_moves_69 rfl (hQ G3 hMG3 (⟨G1, G2, eG1, eG2, eG3, trivial⟩))

def TX12_work : TR := fun as G Qr => ∃ (n p : Int), as = [(2, ((1000 : Nat) : Int)), (0, n), (0, p)] ∧ MG G ∧ (0 ≤ (gS G 1000 73) ∧ (gS G 1000 73) < 200) ∧ ∀ G' : LG, MG G' → (∃ G1 G2 : LG, G1 = gset G a_workOn (((gS G 1000 73)).toNat) n ∧ G2 = gset G1 a_workPhase (((gS G 1000 73)).toNat) p ∧ G' = gset G2 1000 73 ((gS G 1000 73) + 1) ∧ (True)) → Qr (.inl none) G'
set_option maxHeartbeats 4000000 in
set_option maxRecDepth 100000 in
theorem gX12_work : Good kX12_work yX12_work 0 TX12_work := by
  refine good_of (by decide) rfl rfl (fun as G Qr h => ?_) (fun X as G Qr hcf hR hT oa => ?_)
  · obtain ⟨n, p, rfl, -⟩ := h; exact Nat.le_of_ble_eq_true rfl
  obtain ⟨n, p, rfl, hM, hw, hQ⟩ := hT
  show WP kX12_work X 0 [some (2, ((1000 : Nat) : Int)), some (0, n), some (0, p)] [] G
  have hr_n : inR n := okv_R (oa _ (by simp))
  have hr_p : inR p := okv_R (oa _ (by simp))
  refine s_aload_n dX12_work_0 rfl (Int.natCast_nonneg _) ?_
  refine gf_workOn rfl dX12_work_1 hM ?_
  refine s_aload_n dX12_work_4 rfl (Int.natCast_nonneg _) ?_
  refine gf_works rfl dX12_work_5 hM rfl ?_
  refine s_iload_n dX12_work_8 rfl ?_
  refine r_iast dX12_work_9 hM (mg_a_workOn hM) (by decide) (by omega) (by omega) (fun G1 eG1 hMG1 => ?_)
  show WP kX12_work X 10 [some (2, ((1000 : Nat) : Int)), some (0, n), some (0, p)] [] G1
  refine s_aload_n dX12_work_10 rfl (Int.natCast_nonneg _) ?_
  refine gf_workPhase rfl dX12_work_11 hMG1 ?_
  refine s_aload_n dX12_work_14 rfl (Int.natCast_nonneg _) ?_
  refine gf_works rfl dX12_work_15 hMG1 (gsnE eG1 (by decide)) ?_
  refine s_iload_n dX12_work_18 rfl ?_
  refine r_iast dX12_work_19 hMG1 (mg_a_workPhase hMG1) (by decide) (by omega) (by omega) (fun G2 eG2 hMG2 => ?_)
  show WP kX12_work X 20 [some (2, ((1000 : Nat) : Int)), some (0, n), some (0, p)] [] G2
  refine s_aload_n dX12_work_20 rfl (Int.natCast_nonneg _) ?_
  refine s_dup dX12_work_21 (by decide) ?_
  refine gf_works rfl dX12_work_22 hMG2 (Eq.trans (gsnE eG2 (by decide)) (gsnE eG1 (by decide))) ?_
  refine s_iconst dX12_work_25 (by decide) ?_
  refine s_iadd dX12_work_26 (by omega) ?_
  refine pf_works rfl dX12_work_27 hMG2 (fun G3 eG3 hMG3 => ?_)
  exact s_vret hR dX12_work_30 rfl (hQ G3 hMG3 (⟨G1, G2, eG1, eG2, eG3, trivial⟩))

def TX12_act : TR := fun as G Qr => ∃ (a p c : Int), as = [(2, ((1000 : Nat) : Int)), (0, a), (0, p), (0, c)] ∧ MG G ∧ (0 ≤ (gS G 1000 84) ∧ (gS G 1000 84) < 4000) ∧ ∀ G' : LG, MG G' → (∃ G1 G2 G3 : LG, G1 = gset G a_actOn (((gS G 1000 84)).toNat) a ∧ G2 = gset G1 a_actPhase (((gS G 1000 84)).toNat) p ∧ G3 = gset G2 a_actFor (((gS G 1000 84)).toNat) c ∧ G' = gset G3 1000 84 ((gS G 1000 84) + 1) ∧ (True)) → Qr (.inl none) G'
set_option maxHeartbeats 4000000 in
set_option maxRecDepth 100000 in
theorem gX12_act : Good kX12_act yX12_act 0 TX12_act := by
  refine good_of (by decide) rfl rfl (fun as G Qr h => ?_) (fun X as G Qr hcf hR hT oa => ?_)
  · obtain ⟨a, p, c, rfl, -⟩ := h; exact Nat.le_of_ble_eq_true rfl
  obtain ⟨a, p, c, rfl, hM, hw, hQ⟩ := hT
  show WP kX12_act X 0 [some (2, ((1000 : Nat) : Int)), some (0, a), some (0, p), some (0, c)] [] G
  have hr_a : inR a := okv_R (oa _ (by simp))
  have hr_p : inR p := okv_R (oa _ (by simp))
  have hr_c : inR c := okv_R (oa _ (by simp))
  refine s_aload_n dX12_act_0 rfl (Int.natCast_nonneg _) ?_
  refine gf_actOn rfl dX12_act_1 hM ?_
  refine s_aload_n dX12_act_4 rfl (Int.natCast_nonneg _) ?_
  refine gf_acts rfl dX12_act_5 hM rfl ?_
  refine s_iload_n dX12_act_8 rfl ?_
  refine r_iast dX12_act_9 hM (mg_a_actOn hM) (by decide) (by omega) (by omega) (fun G1 eG1 hMG1 => ?_)
  show WP kX12_act X 10 [some (2, ((1000 : Nat) : Int)), some (0, a), some (0, p), some (0, c)] [] G1
  refine s_aload_n dX12_act_10 rfl (Int.natCast_nonneg _) ?_
  refine gf_actPhase rfl dX12_act_11 hMG1 ?_
  refine s_aload_n dX12_act_14 rfl (Int.natCast_nonneg _) ?_
  refine gf_acts rfl dX12_act_15 hMG1 (gsnE eG1 (by decide)) ?_
  refine s_iload_n dX12_act_18 rfl ?_
  refine r_iast dX12_act_19 hMG1 (mg_a_actPhase hMG1) (by decide) (by omega) (by omega) (fun G2 eG2 hMG2 => ?_)
  show WP kX12_act X 20 [some (2, ((1000 : Nat) : Int)), some (0, a), some (0, p), some (0, c)] [] G2
  refine s_aload_n dX12_act_20 rfl (Int.natCast_nonneg _) ?_
  refine gf_actFor rfl dX12_act_21 hMG2 ?_
  refine s_aload_n dX12_act_24 rfl (Int.natCast_nonneg _) ?_
  refine gf_acts rfl dX12_act_25 hMG2 (Eq.trans (gsnE eG2 (by decide)) (gsnE eG1 (by decide))) ?_
  refine s_iload_n dX12_act_28 rfl ?_
  refine r_iast dX12_act_29 hMG2 (mg_a_actFor hMG2) (by decide) (by omega) (by omega) (fun G3 eG3 hMG3 => ?_)
  show WP kX12_act X 30 [some (2, ((1000 : Nat) : Int)), some (0, a), some (0, p), some (0, c)] [] G3
  refine s_aload_n dX12_act_30 rfl (Int.natCast_nonneg _) ?_
  refine s_dup dX12_act_31 (by decide) ?_
  refine gf_acts rfl dX12_act_32 hMG3 (Eq.trans (gsnE eG3 (by decide)) (Eq.trans (gsnE eG2 (by decide)) (gsnE eG1 (by decide)))) ?_
  refine s_iconst dX12_act_35 (by decide) ?_
  refine s_iadd dX12_act_36 (by omega) ?_
  refine pf_acts rfl dX12_act_37 hMG3 (fun G4 eG4 hMG4 => ?_)
  exact s_vret hR dX12_act_40 rfl (hQ G4 hMG4 (⟨G1, G2, G3, eG1, eG2, eG3, eG4, trivial⟩))

def TX12_gives : TR := fun as G Qr => ∃ (v : Int), as = [(2, ((1000 : Nat) : Int)), (0, v)] ∧ MG G ∧ (0 ≤ (gS G 1000 88) ∧ (gS G 1000 88) < 4000) ∧ ∀ G' : LG, MG G' → (∃ G1 : LG, G1 = gset G a_give (((gS G 1000 88)).toNat) v ∧ G' = gset G1 1000 88 ((gS G 1000 88) + 1) ∧ (True)) → Qr (.inl none) G'
set_option maxHeartbeats 4000000 in
set_option maxRecDepth 100000 in
theorem gX12_gives : Good kX12_gives yX12_gives 0 TX12_gives := by
  refine good_of (by decide) rfl rfl (fun as G Qr h => ?_) (fun X as G Qr hcf hR hT oa => ?_)
  · obtain ⟨v, rfl, -⟩ := h; exact Nat.le_of_ble_eq_true rfl
  obtain ⟨v, rfl, hM, hw, hQ⟩ := hT
  show WP kX12_gives X 0 [some (2, ((1000 : Nat) : Int)), some (0, v)] [] G
  have hr_v : inR v := okv_R (oa _ (by simp))
  refine s_aload_n dX12_gives_0 rfl (Int.natCast_nonneg _) ?_
  refine gf_give rfl dX12_gives_1 hM ?_
  refine s_aload_n dX12_gives_4 rfl (Int.natCast_nonneg _) ?_
  refine gf_given rfl dX12_gives_5 hM rfl ?_
  refine s_iload_n dX12_gives_8 rfl ?_
  refine r_iast dX12_gives_9 hM (mg_a_give hM) (by decide) (by omega) (by omega) (fun G1 eG1 hMG1 => ?_)
  show WP kX12_gives X 10 [some (2, ((1000 : Nat) : Int)), some (0, v)] [] G1
  refine s_aload_n dX12_gives_10 rfl (Int.natCast_nonneg _) ?_
  refine s_dup dX12_gives_11 (by decide) ?_
  refine gf_given rfl dX12_gives_12 hMG1 (gsnE eG1 (by decide)) ?_
  refine s_iconst dX12_gives_15 (by decide) ?_
  refine s_iadd dX12_gives_16 (by omega) ?_
  refine pf_given rfl dX12_gives_17 hMG1 (fun G2 eG2 hMG2 => ?_)
  exact s_vret hR dX12_gives_20 rfl (hQ G2 hMG2 (⟨G1, eG1, eG2, trivial⟩))

def TX12_tellsOf : TR := fun as G Qr => ∃ (v : Int), as = [(2, ((1000 : Nat) : Int)), (0, v)] ∧ MG G ∧ (0 ≤ (gS G 1000 102) ∧ (gS G 1000 102) < 11000) ∧ ∀ G' : LG, MG G' → (∃ G1 : LG, G1 = gset G a_build (((gS G 1000 102)).toNat) v ∧ G' = gset G1 1000 102 ((gS G 1000 102) + 1) ∧ (True)) → Qr (.inl none) G'
set_option maxHeartbeats 4000000 in
set_option maxRecDepth 100000 in
theorem gX12_tellsOf : Good kX12_tellsOf yX12_tellsOf 0 TX12_tellsOf := by
  refine good_of (by decide) rfl rfl (fun as G Qr h => ?_) (fun X as G Qr hcf hR hT oa => ?_)
  · obtain ⟨v, rfl, -⟩ := h; exact Nat.le_of_ble_eq_true rfl
  obtain ⟨v, rfl, hM, hw, hQ⟩ := hT
  show WP kX12_tellsOf X 0 [some (2, ((1000 : Nat) : Int)), some (0, v)] [] G
  have hr_v : inR v := okv_R (oa _ (by simp))
  refine s_aload_n dX12_tellsOf_0 rfl (Int.natCast_nonneg _) ?_
  refine gf_build rfl dX12_tellsOf_1 hM ?_
  refine s_aload_n dX12_tellsOf_4 rfl (Int.natCast_nonneg _) ?_
  refine gf_built rfl dX12_tellsOf_5 hM rfl ?_
  refine s_iload_n dX12_tellsOf_8 rfl ?_
  refine r_iast dX12_tellsOf_9 hM (mg_a_build hM) (by decide) (by omega) (by omega) (fun G1 eG1 hMG1 => ?_)
  show WP kX12_tellsOf X 10 [some (2, ((1000 : Nat) : Int)), some (0, v)] [] G1
  refine s_aload_n dX12_tellsOf_10 rfl (Int.natCast_nonneg _) ?_
  refine s_dup dX12_tellsOf_11 (by decide) ?_
  refine gf_built rfl dX12_tellsOf_12 hMG1 (gsnE eG1 (by decide)) ?_
  refine s_iconst dX12_tellsOf_15 (by decide) ?_
  refine s_iadd dX12_tellsOf_16 (by omega) ?_
  refine pf_built rfl dX12_tellsOf_17 hMG1 (fun G2 eG2 hMG2 => ?_)
  exact s_vret hR dX12_tellsOf_20 rfl (hQ G2 hMG2 (⟨G1, eG1, eG2, trivial⟩))

def TX12_made : TR := fun as G Qr => ∃ (k a b c w : Int), as = [(2, ((1000 : Nat) : Int)), (0, k), (0, a), (0, b), (0, c), (0, w)] ∧ MG G ∧ (0 ≤ (gS G 1000 6) ∧ (gS G 1000 6) < 120) ∧ ∀ (r : Int) (G' : LG), MG G' → (∃ G1 G2 G3 G4 G5 : LG, G1 = gset G a_eKind (((gS G 1000 6)).toNat) k ∧ G2 = gset G1 a_eFirst (((gS G 1000 6)).toNat) a ∧ G3 = gset G2 a_eSecond (((gS G 1000 6)).toNat) b ∧ G4 = gset G3 a_eThird (((gS G 1000 6)).toNat) c ∧ G5 = gset G4 a_eWeight (((gS G 1000 6)).toNat) w ∧ G' = gset G5 1000 6 ((gS G 1000 6) + 1) ∧ (r = (gS G 1000 6))) → Qr (.inl (some (0, r))) G'
set_option maxHeartbeats 4000000 in
set_option maxRecDepth 100000 in
theorem gX12_made : Good kX12_made yX12_made 0 TX12_made := by
  refine good_of (by decide) rfl rfl (fun as G Qr h => ?_) (fun X as G Qr hcf hR hT oa => ?_)
  · obtain ⟨k, a, b, c, w, rfl, -⟩ := h; exact Nat.le_of_ble_eq_true rfl
  obtain ⟨k, a, b, c, w, rfl, hM, hw, hQ⟩ := hT
  show WP kX12_made X 0 [some (2, ((1000 : Nat) : Int)), some (0, k), some (0, a), some (0, b), some (0, c), some (0, w)] [] G
  have hr_k : inR k := okv_R (oa _ (by simp))
  have hr_a : inR a := okv_R (oa _ (by simp))
  have hr_b : inR b := okv_R (oa _ (by simp))
  have hr_c : inR c := okv_R (oa _ (by simp))
  have hr_w : inR w := okv_R (oa _ (by simp))
  refine s_aload_n dX12_made_0 rfl (Int.natCast_nonneg _) ?_
  refine gf_eKind rfl dX12_made_1 hM ?_
  refine s_aload_n dX12_made_4 rfl (Int.natCast_nonneg _) ?_
  refine gf_expressions rfl dX12_made_5 hM rfl ?_
  refine s_iload_n dX12_made_8 rfl ?_
  refine r_iast dX12_made_9 hM (mg_a_eKind hM) (by decide) (by omega) (by omega) (fun G1 eG1 hMG1 => ?_)
  show WP kX12_made X 10 [some (2, ((1000 : Nat) : Int)), some (0, k), some (0, a), some (0, b), some (0, c), some (0, w)] [] G1
  refine s_aload_n dX12_made_10 rfl (Int.natCast_nonneg _) ?_
  refine gf_eFirst rfl dX12_made_11 hMG1 ?_
  refine s_aload_n dX12_made_14 rfl (Int.natCast_nonneg _) ?_
  refine gf_expressions rfl dX12_made_15 hMG1 (gsnE eG1 (by decide)) ?_
  refine s_iload_n dX12_made_18 rfl ?_
  refine r_iast dX12_made_19 hMG1 (mg_a_eFirst hMG1) (by decide) (by omega) (by omega) (fun G2 eG2 hMG2 => ?_)
  show WP kX12_made X 20 [some (2, ((1000 : Nat) : Int)), some (0, k), some (0, a), some (0, b), some (0, c), some (0, w)] [] G2
  refine s_aload_n dX12_made_20 rfl (Int.natCast_nonneg _) ?_
  refine gf_eSecond rfl dX12_made_21 hMG2 ?_
  refine s_aload_n dX12_made_24 rfl (Int.natCast_nonneg _) ?_
  refine gf_expressions rfl dX12_made_25 hMG2 (Eq.trans (gsnE eG2 (by decide)) (gsnE eG1 (by decide))) ?_
  refine s_iload_n dX12_made_28 rfl ?_
  refine r_iast dX12_made_29 hMG2 (mg_a_eSecond hMG2) (by decide) (by omega) (by omega) (fun G3 eG3 hMG3 => ?_)
  show WP kX12_made X 30 [some (2, ((1000 : Nat) : Int)), some (0, k), some (0, a), some (0, b), some (0, c), some (0, w)] [] G3
  refine s_aload_n dX12_made_30 rfl (Int.natCast_nonneg _) ?_
  refine gf_eThird rfl dX12_made_31 hMG3 ?_
  refine s_aload_n dX12_made_34 rfl (Int.natCast_nonneg _) ?_
  refine gf_expressions rfl dX12_made_35 hMG3 (Eq.trans (gsnE eG3 (by decide)) (Eq.trans (gsnE eG2 (by decide)) (gsnE eG1 (by decide)))) ?_
  refine s_iload dX12_made_38 rfl ?_
  refine r_iast dX12_made_40 hMG3 (mg_a_eThird hMG3) (by decide) (by omega) (by omega) (fun G4 eG4 hMG4 => ?_)
  show WP kX12_made X 41 [some (2, ((1000 : Nat) : Int)), some (0, k), some (0, a), some (0, b), some (0, c), some (0, w)] [] G4
  refine s_aload_n dX12_made_41 rfl (Int.natCast_nonneg _) ?_
  refine gf_eWeight rfl dX12_made_42 hMG4 ?_
  refine s_aload_n dX12_made_45 rfl (Int.natCast_nonneg _) ?_
  refine gf_expressions rfl dX12_made_46 hMG4 (Eq.trans (gsnE eG4 (by decide)) (Eq.trans (gsnE eG3 (by decide)) (Eq.trans (gsnE eG2 (by decide)) (gsnE eG1 (by decide))))) ?_
  refine s_iload dX12_made_49 rfl ?_
  refine r_iast dX12_made_51 hMG4 (mg_a_eWeight hMG4) (by decide) (by omega) (by omega) (fun G5 eG5 hMG5 => ?_)
  show WP kX12_made X 52 [some (2, ((1000 : Nat) : Int)), some (0, k), some (0, a), some (0, b), some (0, c), some (0, w)] [] G5
  refine s_aload_n dX12_made_52 rfl (Int.natCast_nonneg _) ?_
  refine s_dup dX12_made_53 (by decide) ?_
  refine gf_expressions rfl dX12_made_54 hMG5 (Eq.trans (gsnE eG5 (by decide)) (Eq.trans (gsnE eG4 (by decide)) (Eq.trans (gsnE eG3 (by decide)) (Eq.trans (gsnE eG2 (by decide)) (gsnE eG1 (by decide)))))) ?_
  refine s_iconst dX12_made_57 (by decide) ?_
  refine s_iadd dX12_made_58 (by omega) ?_
  refine pf_expressions rfl dX12_made_59 hMG5 (fun G6 eG6 hMG6 => ?_)
  refine s_aload_n dX12_made_62 rfl (Int.natCast_nonneg _) ?_
  refine gf_expressions rfl dX12_made_63 hMG6 (gsaE eG6) ?_
  refine s_iconst dX12_made_66 (by decide) ?_
  refine s_isub dX12_made_67 (by omega) ?_
  exact s_iret hR dX12_made_68 rfl (hQ _ G6 hMG6 (⟨G1, G2, G3, G4, G5, eG1, eG2, eG3, eG4, eG5, eG6, by omega⟩))

def TX12_nodeOf : TR := fun as G Qr => ∃ (k a b c w g : Int), as = [(2, ((1000 : Nat) : Int)), (0, k), (0, a), (0, b), (0, c), (0, w), (0, g)] ∧ MG G ∧ (0 ≤ (gS G 1000 18) ∧ (gS G 1000 18) < 40) ∧ (g = 0 ∨ g = 1) ∧ ∀ (r : Int) (G' : LG), MG G' → (∃ G1 G2 G3 G4 G5 G6 : LG, G1 = gset G a_nKind (((gS G 1000 18)).toNat) k ∧ G2 = gset G1 a_nFirst (((gS G 1000 18)).toNat) a ∧ G3 = gset G2 a_nSecond (((gS G 1000 18)).toNat) b ∧ G4 = gset G3 a_nThird (((gS G 1000 18)).toNat) c ∧ G5 = gset G4 a_nWeight (((gS G 1000 18)).toNat) w ∧ G6 = gset G5 a_isGenerative (((gS G 1000 18)).toNat) g ∧ G' = gset G6 1000 18 ((gS G 1000 18) + 1) ∧ (r = (gS G 1000 18))) → Qr (.inl (some (0, r))) G'
set_option maxHeartbeats 4000000 in
set_option maxRecDepth 100000 in
theorem gX12_nodeOf : Good kX12_nodeOf yX12_nodeOf 0 TX12_nodeOf := by
  refine good_of (by decide) rfl rfl (fun as G Qr h => ?_) (fun X as G Qr hcf hR hT oa => ?_)
  · obtain ⟨k, a, b, c, w, g, rfl, -⟩ := h; exact Nat.le_of_ble_eq_true rfl
  obtain ⟨k, a, b, c, w, g, rfl, hM, hw, hg, hQ⟩ := hT
  show WP kX12_nodeOf X 0 [some (2, ((1000 : Nat) : Int)), some (0, k), some (0, a), some (0, b), some (0, c), some (0, w), some (0, g)] [] G
  have hr_k : inR k := okv_R (oa _ (by simp))
  have hr_a : inR a := okv_R (oa _ (by simp))
  have hr_b : inR b := okv_R (oa _ (by simp))
  have hr_c : inR c := okv_R (oa _ (by simp))
  have hr_w : inR w := okv_R (oa _ (by simp))
  have hr_g : inR g := okv_R (oa _ (by simp))
  refine s_aload_n dX12_nodeOf_0 rfl (Int.natCast_nonneg _) ?_
  refine gf_nKind rfl dX12_nodeOf_1 hM ?_
  refine s_aload_n dX12_nodeOf_4 rfl (Int.natCast_nonneg _) ?_
  refine gf_nodes rfl dX12_nodeOf_5 hM rfl ?_
  refine s_iload_n dX12_nodeOf_8 rfl ?_
  refine r_iast dX12_nodeOf_9 hM (mg_a_nKind hM) (by decide) (by omega) (by omega) (fun G1 eG1 hMG1 => ?_)
  show WP kX12_nodeOf X 10 [some (2, ((1000 : Nat) : Int)), some (0, k), some (0, a), some (0, b), some (0, c), some (0, w), some (0, g)] [] G1
  refine s_aload_n dX12_nodeOf_10 rfl (Int.natCast_nonneg _) ?_
  refine gf_nFirst rfl dX12_nodeOf_11 hMG1 ?_
  refine s_aload_n dX12_nodeOf_14 rfl (Int.natCast_nonneg _) ?_
  refine gf_nodes rfl dX12_nodeOf_15 hMG1 (gsnE eG1 (by decide)) ?_
  refine s_iload_n dX12_nodeOf_18 rfl ?_
  refine r_iast dX12_nodeOf_19 hMG1 (mg_a_nFirst hMG1) (by decide) (by omega) (by omega) (fun G2 eG2 hMG2 => ?_)
  show WP kX12_nodeOf X 20 [some (2, ((1000 : Nat) : Int)), some (0, k), some (0, a), some (0, b), some (0, c), some (0, w), some (0, g)] [] G2
  refine s_aload_n dX12_nodeOf_20 rfl (Int.natCast_nonneg _) ?_
  refine gf_nSecond rfl dX12_nodeOf_21 hMG2 ?_
  refine s_aload_n dX12_nodeOf_24 rfl (Int.natCast_nonneg _) ?_
  refine gf_nodes rfl dX12_nodeOf_25 hMG2 (Eq.trans (gsnE eG2 (by decide)) (gsnE eG1 (by decide))) ?_
  refine s_iload_n dX12_nodeOf_28 rfl ?_
  refine r_iast dX12_nodeOf_29 hMG2 (mg_a_nSecond hMG2) (by decide) (by omega) (by omega) (fun G3 eG3 hMG3 => ?_)
  show WP kX12_nodeOf X 30 [some (2, ((1000 : Nat) : Int)), some (0, k), some (0, a), some (0, b), some (0, c), some (0, w), some (0, g)] [] G3
  refine s_aload_n dX12_nodeOf_30 rfl (Int.natCast_nonneg _) ?_
  refine gf_nThird rfl dX12_nodeOf_31 hMG3 ?_
  refine s_aload_n dX12_nodeOf_34 rfl (Int.natCast_nonneg _) ?_
  refine gf_nodes rfl dX12_nodeOf_35 hMG3 (Eq.trans (gsnE eG3 (by decide)) (Eq.trans (gsnE eG2 (by decide)) (gsnE eG1 (by decide)))) ?_
  refine s_iload dX12_nodeOf_38 rfl ?_
  refine r_iast dX12_nodeOf_40 hMG3 (mg_a_nThird hMG3) (by decide) (by omega) (by omega) (fun G4 eG4 hMG4 => ?_)
  show WP kX12_nodeOf X 41 [some (2, ((1000 : Nat) : Int)), some (0, k), some (0, a), some (0, b), some (0, c), some (0, w), some (0, g)] [] G4
  refine s_aload_n dX12_nodeOf_41 rfl (Int.natCast_nonneg _) ?_
  refine gf_nWeight rfl dX12_nodeOf_42 hMG4 ?_
  refine s_aload_n dX12_nodeOf_45 rfl (Int.natCast_nonneg _) ?_
  refine gf_nodes rfl dX12_nodeOf_46 hMG4 (Eq.trans (gsnE eG4 (by decide)) (Eq.trans (gsnE eG3 (by decide)) (Eq.trans (gsnE eG2 (by decide)) (gsnE eG1 (by decide))))) ?_
  refine s_iload dX12_nodeOf_49 rfl ?_
  refine r_iast dX12_nodeOf_51 hMG4 (mg_a_nWeight hMG4) (by decide) (by omega) (by omega) (fun G5 eG5 hMG5 => ?_)
  show WP kX12_nodeOf X 52 [some (2, ((1000 : Nat) : Int)), some (0, k), some (0, a), some (0, b), some (0, c), some (0, w), some (0, g)] [] G5
  refine s_aload_n dX12_nodeOf_52 rfl (Int.natCast_nonneg _) ?_
  refine gf_isGenerative rfl dX12_nodeOf_53 hMG5 ?_
  refine s_aload_n dX12_nodeOf_56 rfl (Int.natCast_nonneg _) ?_
  refine gf_nodes rfl dX12_nodeOf_57 hMG5 (Eq.trans (gsnE eG5 (by decide)) (Eq.trans (gsnE eG4 (by decide)) (Eq.trans (gsnE eG3 (by decide)) (Eq.trans (gsnE eG2 (by decide)) (gsnE eG1 (by decide)))))) ?_
  refine s_iload dX12_nodeOf_60 rfl ?_
  refine r_bast dX12_nodeOf_62 hMG5 (mg_a_isGenerative hMG5) (by decide) (by omega) (by omega) (by omega) (fun G6 eG6 hMG6 => ?_)
  show WP kX12_nodeOf X 63 [some (2, ((1000 : Nat) : Int)), some (0, k), some (0, a), some (0, b), some (0, c), some (0, w), some (0, g)] [] G6
  refine s_aload_n dX12_nodeOf_63 rfl (Int.natCast_nonneg _) ?_
  refine s_dup dX12_nodeOf_64 (by decide) ?_
  refine gf_nodes rfl dX12_nodeOf_65 hMG6 (Eq.trans (gsnE eG6 (by decide)) (Eq.trans (gsnE eG5 (by decide)) (Eq.trans (gsnE eG4 (by decide)) (Eq.trans (gsnE eG3 (by decide)) (Eq.trans (gsnE eG2 (by decide)) (gsnE eG1 (by decide))))))) ?_
  refine s_iconst dX12_nodeOf_68 (by decide) ?_
  refine s_iadd dX12_nodeOf_69 (by omega) ?_
  refine pf_nodes rfl dX12_nodeOf_70 hMG6 (fun G7 eG7 hMG7 => ?_)
  refine s_aload_n dX12_nodeOf_73 rfl (Int.natCast_nonneg _) ?_
  refine gf_nodes rfl dX12_nodeOf_74 hMG7 (gsaE eG7) ?_
  refine s_iconst dX12_nodeOf_77 (by decide) ?_
  refine s_isub dX12_nodeOf_78 (by omega) ?_
  exact s_iret hR dX12_nodeOf_79 rfl (hQ _ G7 hMG7 (⟨G1, G2, G3, G4, G5, G6, eG1, eG2, eG3, eG4, eG5, eG6, eG7, by omega⟩))
