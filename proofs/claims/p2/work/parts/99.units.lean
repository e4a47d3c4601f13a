abbrev nX12_unit : List Nat := [a_versions]
abbrev jX12_unit : List Nat := [12, 25]
def TX12_unit : TR := fun as G Qr => ∃ (Hs : List (Int → Int)), as = [(2, ((1000 : Nat) : Int))] ∧ MG G ∧ (UV G) ∧ (TH G Hs) ∧ (UZ G) ∧ ∀ (r : Int) (G' : LG), MG G' → (Fr nX12_unit jX12_unit G G' ∧ (UNT G r G' ∧ UV G' ∧ TH G' Hs ∧ UZ G' ∧ cur G' = cur G)) → Qr (.inl (some (0, r))) G'
set_option maxHeartbeats 4000000 in
set_option maxRecDepth 100000 in
theorem gX12_unit : Good kX12_unit yX12_unit 1 TX12_unit := by
  refine good_of (by decide) rfl rfl (fun as G Qr h => ?_) (fun X as G Qr hcf hR hT oa => ?_)
  · obtain ⟨Hs, rfl, -⟩ := h; exact Nat.le_of_ble_eq_true rfl
  obtain ⟨Hs, rfl, hM, hUV, hTH, hUZ, hQ⟩ := hT
  show WP kX12_unit X 0 [some (2, ((1000 : Nat) : Int))] [] G
  have huu := hUV.1
  refine s_aload_n dX12_unit_0 rfl (Int.natCast_nonneg _) ?_
  refine s_aload_n dX12_unit_1 rfl (Int.natCast_nonneg _) ?_
  refine gf_units rfl dX12_unit_2 hM rfl ?_
  refine s_bipush dX12_unit_5 rfl (by decide) ?_
  have J2 : ∀ z1 : Int, ((8 ≤ (gS G 1000 12)) ∧ z1 = 0) ∨ ((¬ 8 ≤ (gS G 1000 12)) ∧ z1 = 1) → WP kX12_unit X 15 [some (2, ((1000 : Nat) : Int))] [(0, z1), (2, ((1000 : Nat) : Int))] G := by
    intro z1 hz1
    refine s_iconst dX12_unit_15 (by decide) ?_
    refine s_iconst dX12_unit_16 (by decide) ?_
    refine cv_X12_298 rfl gX12_goes dX12_unit_17 hM (by rw [hcf]; decide) (as := [(0, z1), (0, 1), (0, 1)]) rfl (Nat.le_of_ble_eq_true rfl) ⟨z1, 1, 1, rfl, hM, fun r4 G3 hMG3 hpG3 => ?_⟩
    obtain ⟨eG3, hpG3⟩ := hpG3
    have hFG3 : Fr nX12_unit jX12_unit G G3 := Fr.setF Fr.rf eG3 (by decide)
    show WP kX12_unit X 20 [some (2, ((1000 : Nat) : Int))] [(0, r4)] G3
    refine s_if_ne (tgt := 25) dX12_unit_20 (by decide) (fun c5 => ?_) (fun c5 => ?_)
    · -- 20 to 25
      have hg9 := goes_r hpG3 (by assumption)
      have hn9 : (gS G 1000 12) < 8 := by omega
      refine s_aload_n dX12_unit_25 rfl (Int.natCast_nonneg _) ?_
      refine gf_versions rfl dX12_unit_26 hMG3 ?_
      refine s_aload_n dX12_unit_29 rfl (Int.natCast_nonneg _) ?_
      refine gf_units rfl dX12_unit_30 hMG3 (gsjE eG3 (by decide)) ?_
      refine s_iconst dX12_unit_33 (by decide) ?_
      refine r_iast dX12_unit_34 hMG3 (mg_a_versions hMG3) (by decide) (by omega) (by omega) (fun G6 eG6 hMG6 => ?_)
      have hFG6 : Fr nX12_unit jX12_unit G G6 := Fr.setA hFG3 eG6 (by decide)
      show WP kX12_unit X 35 [some (2, ((1000 : Nat) : Int))] [] G6
      refine s_aload_n dX12_unit_35 rfl (Int.natCast_nonneg _) ?_
      refine s_dup dX12_unit_36 (by decide) ?_
      refine gf_units rfl dX12_unit_37 hMG6 (Eq.trans (gsnE eG6 (by decide)) (gsjE eG3 (by decide))) ?_
      refine s_iconst dX12_unit_40 (by decide) ?_
      refine s_iadd dX12_unit_41 (by omega) ?_
      refine pf_units rfl dX12_unit_42 hMG6 (fun G7 eG7 hMG7 => ?_)
      have hFG7 : Fr nX12_unit jX12_unit G G7 := Fr.setF hFG6 eG7 (by decide)
      refine s_aload_n dX12_unit_45 rfl (Int.natCast_nonneg _) ?_
      refine gf_units rfl dX12_unit_46 hMG7 (gsaE eG7) ?_
      refine s_iconst dX12_unit_49 (by decide) ?_
      refine s_isub dX12_unit_50 (by omega) ?_
      exact s_iret hR dX12_unit_51 rfl (hQ _ G7 hMG7 (⟨hFG7, (have u1 : ∀ j : Nat, gS G7 a_versions j = if j = ((gS G 1000 12)).toNat then 1 else gS G a_versions j := (fun j => by rw [gsnE eG7 (by decide), g_upd eG6, gsnE eG3 (by decide)]); have u0 : (gS G7 1000 12) = (gS G 1000 12) + 1 := ((gsaE eG7)); have hf9 : Fr [a_versions] [12, 25] G G7 := hFG7; have hnd9 : ND G7 := hTH.2.2.2.1.vs (by omega) (fun u x0 x1 => (by rw [g_ne u1 (by omega)]; exact Int.le_refl _)) (hf9.agr (by decide) (by decide) (by decide)); ⟨⟨(by rw [(Eq.trans (gsjE eG7 (by decide)) (Eq.trans (gsnE eG6 (by decide)) (gsaE eG3))), if_pos hn9, if_neg hg9.1, if_neg hg9.2.1, if_neg hg9.2.2]), fun q => absurd hn9 q, fun _ => ⟨by omega, u0, u1⟩⟩, hUV.un hn9 u0 u1 (hf9.agr (by decide) (by decide) (by decide)), hTH.tn (TN.agr (hf9.agr (by decide) (by decide) (by decide))) (hf9.agr (by decide) (by decide) (by decide)) (by rw [hf9.atF (j := 18) (by decide) (by decide)]; exact Int.le_refl _) hnd9 hTH.2.2.1 (fun v q => q), hUZ.un hUV.1.1 u0 u1, cur.un hUZ hUV.1.1 u1⟩)⟩))
    · -- 20 to 23
      have hr0 := goes_0 hpG3 (by omega)
      have hn9 : ¬ (gS G 1000 12) < 8 := by omega
      refine s_iconst dX12_unit_23 (by decide) ?_
      exact s_iret hR dX12_unit_24 rfl (hQ _ G3 hMG3 (⟨hFG3, ⟨⟨(by rw [(gsaE eG3), if_neg hn9]; (repeat' split) <;> omega), fun _ => ⟨rfl, (Fr.setF Fr.rf eG3 (by decide) : Fr [] [25] G G3)⟩, fun q => absurd q hn9⟩, hUV.agr ((Fr.setF Fr.rf eG3 (by decide) : Fr [] [25] G G3).agr (by decide) (by decide) (by decide)), hTH.agr ((Fr.setF Fr.rf eG3 (by decide) : Fr [] [25] G G3).agr (by decide) (by decide) (by decide)), (fun j hj => (by rw [(Fr.setF Fr.rf eG3 (by decide) : Fr [] [25] G G3).atF (j := 12) (by decide) (by decide)] at hj; rw [(Fr.setF Fr.rf eG3 (by decide) : Fr [] [25] G G3).atA (by decide) (by decide)]; exact hUZ j hj)), (TX.agr ((Fr.setF Fr.rf eG3 (by decide) : Fr [] [25] G G3).agr (by decide) (by decide) (by decide))).cur⟩⟩))
  refine s_icmp_ge (tgt := 14) dX12_unit_7 (by decide) (fun c8 => ?_) (fun c8 => ?_)
  · -- 7 to 14
    refine s_iconst dX12_unit_14 (by decide) ?_
    exact J2 0 (Or.inl ⟨c8, rfl⟩)
  · -- 7 to 10
    refine s_iconst dX12_unit_10 (by decide) ?_
    refine s_goto (tgt := 15) dX12_unit_11 (by decide) ?_
    exact J2 1 (Or.inr (⟨c8, rfl⟩))

abbrev nX12_setType : List Nat := [a_typeOf]
abbrev jX12_setType : List Nat := [25]
def TX12_setType : TR := fun as G Qr => ∃ (u k t : Int), as = [(2, ((1000 : Nat) : Int)), (0, u), (0, k), (0, t)] ∧ MG G ∧ (UV G) ∧ (TB G) ∧ ∀ G' : LG, MG G' → (Fr nX12_setType jX12_setType G G' ∧ ((gS G' 1000 25) = stT G u k t ∧ UV G' ∧ (¬ stT G u k t = 0 → Fr [] [25] G G'))) → Qr (.inl none) G'
set_option maxHeartbeats 4000000 in
set_option maxRecDepth 100000 in
theorem gX12_setType : Good kX12_setType yX12_setType 2 TX12_setType := by
  refine good_of (by decide) rfl rfl (fun as G Qr h => ?_) (fun X as G Qr hcf hR hT oa => ?_)
  · obtain ⟨u, k, t, rfl, -⟩ := h; exact Nat.le_of_ble_eq_true rfl
  obtain ⟨u, k, t, rfl, hM, hUV, hTB, hQ⟩ := hT
  show WP kX12_setType X 0 [some (2, ((1000 : Nat) : Int)), some (0, u), some (0, k), some (0, t)] [] G
  have hr_u : inR u := okv_R (oa _ (by simp))
  have hr_k : inR k := okv_R (oa _ (by simp))
  have hr_t : inR t := okv_R (oa _ (by simp))
  have huu := hUV.1
  have hty := hTB.1
  have hb9 : (b2i (0 ≤ k ∧ k ≤ 5) = 1 ∧ (0 ≤ k ∧ k ≤ 5)) ∨ (b2i (0 ≤ k ∧ k ≤ 5) = 0 ∧ ¬ (0 ≤ k ∧ k ≤ 5)) := by (by_cases q : 0 ≤ k ∧ k ≤ 5; exact Or.inl ⟨b2i_t q, q⟩; exact Or.inr ⟨b2i_f q, q⟩)
  refine s_aload_n dX12_setType_0 rfl (Int.natCast_nonneg _) ?_
  refine s_aload_n dX12_setType_1 rfl (Int.natCast_nonneg _) ?_
  refine s_iload_n dX12_setType_2 rfl ?_
  refine cv_X12_320 rfl gX12_isUnit dX12_setType_3 hM (by rw [hcf]; decide) (as := [(0, u)]) rfl (Nat.le_of_ble_eq_true rfl) ⟨u, rfl, hM, (by first | assumption | omega), ?_⟩
  show WP kX12_setType X 6 [some (2, ((1000 : Nat) : Int)), some (0, u), some (0, k), some (0, t)] [(0, b2i (0 ≤ u ∧ u < (gS G 1000 12))), (2, ((1000 : Nat) : Int))] G
  have J2 : ∀ z1 : Int, ((¬ (0 ≤ u ∧ u < (gS G 1000 12))) ∧ z1 = 0) ∨ ((0 ≤ u ∧ u < (gS G 1000 12)) ∧ (t = ((-1))) ∧ z1 = 1) ∨ ((0 ≤ u ∧ u < (gS G 1000 12)) ∧ (¬ t = ((-1))) ∧ (t = ((-2))) ∧ z1 = 1) ∨ ((0 ≤ u ∧ u < (gS G 1000 12)) ∧ (¬ t = ((-1))) ∧ (¬ t = ((-2))) ∧ (¬ (0 ≤ t ∧ t < (gS G 1000 0))) ∧ z1 = 0) ∨ ((0 ≤ u ∧ u < (gS G 1000 12)) ∧ (¬ t = ((-1))) ∧ (¬ t = ((-2))) ∧ (0 ≤ t ∧ t < (gS G 1000 0)) ∧ z1 = 1) → WP kX12_setType X 33 [some (2, ((1000 : Nat) : Int)), some (0, u), some (0, k), some (0, t)] [(0, z1), (2, ((1000 : Nat) : Int))] G := by
    intro z1 hz1
    refine s_iload_n dX12_setType_33 rfl ?_
    refine cs_X12_291 rfl gX12_isName dX12_setType_34 (by rw [hcf]; decide) (as := [(0, k)]) rfl (Nat.le_of_ble_eq_true rfl) ⟨k, rfl, ?_⟩
    show WP kX12_setType X 37 [some (2, ((1000 : Nat) : Int)), some (0, u), some (0, k), some (0, t)] [(0, b2i (0 ≤ k ∧ k ≤ 5)), (0, z1), (2, ((1000 : Nat) : Int))] G
    refine s_iconst dX12_setType_37 (by decide) ?_
    refine cv_X12_298 rfl gX12_goes dX12_setType_38 hM (by rw [hcf]; decide) (as := [(0, z1), (0, b2i (0 ≤ k ∧ k ≤ 5)), (0, 1)]) rfl (Nat.le_of_ble_eq_true rfl) ⟨z1, b2i (0 ≤ k ∧ k ≤ 5), 1, rfl, hM, fun r4 G3 hMG3 hpG3 => ?_⟩
    obtain ⟨eG3, hpG3⟩ := hpG3
    have hFG3 : Fr nX12_setType jX12_setType G G3 := Fr.setF Fr.rf eG3 (by decide)
    show WP kX12_setType X 41 [some (2, ((1000 : Nat) : Int)), some (0, u), some (0, k), some (0, t)] [(0, r4)] G3
    refine s_if_eq (tgt := 60) dX12_setType_41 (by decide) (fun c5 => ?_) (fun c5 => ?_)
    · -- 41 to 60
      have hr0 := goes_0 hpG3 (by omega)
      have ht9 : (if z1 = 0 then 1 else if (b2i (0 ≤ k ∧ k ≤ 5)) = 0 then 2 else if 1 = 0 then 3 else 0) = stT G u k t := by unfold stT; (repeat' split) <;> omega
      have hn9 : ¬ stT G u k t = 0 := by rw [← ht9]; (repeat' split) <;> omega
      exact s_vret hR dX12_setType_60 rfl (hQ G3 hMG3 (⟨hFG3, ⟨((gsaE eG3)).trans ht9, hUV.agr ((Fr.setF Fr.rf eG3 (by decide) : Fr [] [25] G G3).agr (by decide) (by decide) (by decide)), fun _ => (Fr.setF Fr.rf eG3 (by decide) : Fr [] [25] G G3)⟩⟩))
    · -- 41 to 44
      have hg9 := goes_r hpG3 (by assumption)
      have hu9 : 0 ≤ u ∧ u < (gS G 1000 12) := by omega
      have hv8 := hUV.2.1 u (by omega) (by omega)
      have hv9 := hUV.2.2.1 u (by omega) (by omega)
      have hve9 : (gS G3 a_versions (u).toNat) = (gS G a_versions (u).toNat) := hFG3.atA (by decide) (by decide)
      have hkk9 := b2i_n hg9.2.1
      have ht9 : (if z1 = 0 then 1 else if (b2i (0 ≤ k ∧ k ≤ 5)) = 0 then 2 else if 1 = 0 then 3 else 0) = stT G u k t := by unfold stT; (repeat' split) <;> omega
      have hn9 : stT G u k t = 0 := by unfold stT; (repeat' split) <;> omega
      refine s_aload_n dX12_setType_44 rfl (Int.natCast_nonneg _) ?_
      refine gf_typeOf rfl dX12_setType_45 hMG3 ?_
      refine s_bipush dX12_setType_48 rfl (by decide) ?_
      refine s_aload_n dX12_setType_50 rfl (Int.natCast_nonneg _) ?_
      refine s_iload_n dX12_setType_51 rfl ?_
      refine cv_X12_323 rfl gX12_latest dX12_setType_52 hMG3 (by rw [hcf]; decide) (as := [(0, u)]) rfl (Nat.le_of_ble_eq_true rfl) ⟨u, rfl, hMG3, (by first | assumption | omega), (by first | assumption | omega), ?_⟩
      show WP kX12_setType X 55 [some (2, ((1000 : Nat) : Int)), some (0, u), some (0, k), some (0, t)] [(0, 5 * u + ((gS G3 a_versions (u).toNat) - 1)), (0, 6), (2, ((a_typeOf : Nat) : Int))] G3
      refine s_imul dX12_setType_55 (by omega) ?_
      refine s_iload_n dX12_setType_56 rfl ?_
      refine s_iadd dX12_setType_57 (by omega) ?_
      refine s_iload_n dX12_setType_58 rfl ?_
      refine r_iast dX12_setType_59 hMG3 (mg_a_typeOf hMG3) (by decide) (by omega) (by omega) (fun G6 eG6 hMG6 => ?_)
      have hFG6 : Fr nX12_setType jX12_setType G G6 := Fr.setA hFG3 eG6 (by decide)
      show WP kX12_setType X 60 [some (2, ((1000 : Nat) : Int)), some (0, u), some (0, k), some (0, t)] [] G6
      exact s_vret hR dX12_setType_60 rfl (hQ G6 hMG6 (⟨hFG6, ⟨((Eq.trans (gsnE eG6 (by decide)) (gsaE eG3))).trans ht9, hUV.st (i := ((6 * (5 * u + ((gS G3 a_versions (u).toNat) - 1))) + k).toNat) (t := t) (by omega) (fun j => by rw [g_upd eG6, gsnE eG3 (by decide), gsnE eG3 (by decide)]) ((hFG6 : Fr [a_typeOf] [25] G G6).agr (by decide) (by decide) (by decide)), fun q => absurd hn9 q⟩⟩))
  refine s_if_eqB (tgt := 32) dX12_setType_6 (by decide) (fun c7 => ?_) (fun c7 => ?_)
  · -- 6 to 32
    refine s_iconst dX12_setType_32 (by decide) ?_
    exact J2 0 (Or.inl ⟨c7, rfl⟩)
  · -- 6 to 9
    refine s_iload_n dX12_setType_9 rfl ?_
    refine s_iconst dX12_setType_10 (by decide) ?_
    refine s_icmp_eq (tgt := 28) dX12_setType_11 (by decide) (fun c8 => ?_) (fun c8 => ?_)
    · -- 11 to 28
      refine s_iconst dX12_setType_28 (by decide) ?_
      refine s_goto (tgt := 33) dX12_setType_29 (by decide) ?_
      exact J2 1 (Or.inr (Or.inl ⟨c7, c8, rfl⟩))
    · -- 11 to 14
      refine s_iload_n dX12_setType_14 rfl ?_
      refine s_bipush dX12_setType_15 rfl (by decide) ?_
      refine s_icmp_eq (tgt := 28) dX12_setType_17 (by decide) (fun c9 => ?_) (fun c9 => ?_)
      · -- 17 to 28
        refine s_iconst dX12_setType_28 (by decide) ?_
        refine s_goto (tgt := 33) dX12_setType_29 (by decide) ?_
        exact J2 1 (Or.inr (Or.inr (Or.inl ⟨c7, c8, c9, rfl⟩)))
      · -- 17 to 20
        refine s_aload_n dX12_setType_20 rfl (Int.natCast_nonneg _) ?_
        refine s_iload_n dX12_setType_21 rfl ?_
        refine cv_X12_295 rfl gX12_isType dX12_setType_22 hM (by rw [hcf]; decide) (as := [(0, t)]) rfl (Nat.le_of_ble_eq_true rfl) ⟨t, rfl, hM, (by first | assumption | omega), ?_⟩
        show WP kX12_setType X 25 [some (2, ((1000 : Nat) : Int)), some (0, u), some (0, k), some (0, t)] [(0, b2i (0 ≤ t ∧ t < (gS G 1000 0))), (2, ((1000 : Nat) : Int))] G
        refine s_if_eqB (tgt := 32) dX12_setType_25 (by decide) (fun c10 => ?_) (fun c10 => ?_)
        · -- 25 to 32
          refine s_iconst dX12_setType_32 (by decide) ?_
          exact J2 0 (Or.inr (Or.inr (Or.inr (Or.inl ⟨c7, c8, c9, c10, rfl⟩))))
        · -- 25 to 28
          refine s_iconst dX12_setType_28 (by decide) ?_
          refine s_goto (tgt := 33) dX12_setType_29 (by decide) ?_
          exact J2 1 (Or.inr (Or.inr (Or.inr (Or.inr (⟨c7, c8, c9, c10, rfl⟩)))))
