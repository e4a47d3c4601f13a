abbrev nX12_unitNode : List Nat := [a_nKind, a_nFirst, a_nSecond, a_nThird, a_nWeight, a_isGenerative]
abbrev jX12_unitNode : List Nat := [18, 25]
def TX12_unitNode : TR := fun as G Qr => ∃ (u v : Int) (Hs : List (Int → Int)), as = [(2, ((1000 : Nat) : Int)), (0, u), (0, v)] ∧ MG G ∧ (TH G Hs) ∧ (UV G) ∧ ∀ (r : Int) (G' : LG), MG G' → (Fr nX12_unitNode jX12_unitNode G G' ∧ (NDP G (unT G u v) (1) r G' ∧ TH G' Hs)) → Qr (.inl (some (0, r))) G'
set_option maxHeartbeats 4000000 in
set_option maxRecDepth 100000 in
theorem gX12_unitNode : Good kX12_unitNode yX12_unitNode 2 TX12_unitNode := by
  refine good_of (by decide) rfl rfl (fun as G Qr h => ?_) (fun X as G Qr hcf hR hT oa => ?_)
  · obtain ⟨u, v, Hs, rfl, -⟩ := h; exact Nat.le_of_ble_eq_true rfl
  obtain ⟨u, v, Hs, rfl, hM, hTH, hUV, hQ⟩ := hT
  show WP kX12_unitNode X 0 [some (2, ((1000 : Nat) : Int)), some (0, u), some (0, v), none] [] G
  have hr_u : inR u := okv_R (oa _ (by simp))
  have hr_v : inR v := okv_R (oa _ (by simp))
  have hnd := hTH.2.2.2.1
  have hnn := hTH.2.2.2.1.1
  have huu := hUV.1
  refine s_aload_n dX12_unitNode_0 rfl (Int.natCast_nonneg _) ?_
  refine s_iload_n dX12_unitNode_1 rfl ?_
  refine cv_X12_320 rfl gX12_isUnit dX12_unitNode_2 hM (by rw [hcf]; decide) (as := [(0, u)]) rfl (Nat.le_of_ble_eq_true rfl) ⟨u, rfl, hM, (by first | assumption | omega), ?_⟩
  show WP kX12_unitNode X 5 [some (2, ((1000 : Nat) : Int)), some (0, u), some (0, v), none] [(0, b2i (0 ≤ u ∧ u < (gS G 1000 12)))] G
  have J2 : ∀ z1 : Int, ((¬ (0 ≤ u ∧ u < (gS G 1000 12))) ∧ z1 = 0) ∨ ((0 ≤ u ∧ u < (gS G 1000 12)) ∧ (v = ((-1))) ∧ z1 = 1) ∨ ((0 ≤ u ∧ u < (gS G 1000 12)) ∧ (¬ v = ((-1))) ∧ (¬ (0 ≤ v ∧ v ≤ ((gS G a_versions ((u).toNat)) - 1))) ∧ z1 = 0) ∨ ((0 ≤ u ∧ u < (gS G 1000 12)) ∧ (¬ v = ((-1))) ∧ (0 ≤ v ∧ v ≤ ((gS G a_versions ((u).toNat)) - 1)) ∧ z1 = 1) → WP kX12_unitNode X 34 [some (2, ((1000 : Nat) : Int)), some (0, u), some (0, v), none] [(0, z1)] G := by
    intro z1 hz1
    refine s_istore_n dX12_unitNode_34 (by decide) (lv' := [some (2, ((1000 : Nat) : Int)), some (0, u), some (0, v), some (0, z1)]) rfl ?_
    refine s_aload_n dX12_unitNode_35 rfl (Int.natCast_nonneg _) ?_
    refine s_iload_n dX12_unitNode_36 rfl ?_
    refine s_aload_n dX12_unitNode_37 rfl (Int.natCast_nonneg _) ?_
    refine gf_nodes rfl dX12_unitNode_38 hM rfl ?_
    refine s_bipush dX12_unitNode_41 rfl (by decide) ?_
    have J4 : ∀ z3 : Int, ((40 ≤ (gS G 1000 18)) ∧ z3 = 0) ∨ ((¬ 40 ≤ (gS G 1000 18)) ∧ z3 = 1) → WP kX12_unitNode X 51 [some (2, ((1000 : Nat) : Int)), some (0, u), some (0, v), some (0, z1)] [(0, z3), (0, z1), (2, ((1000 : Nat) : Int))] G := by
      intro z3 hz3
      refine s_iconst dX12_unitNode_51 (by decide) ?_
      refine cv_X12_298 rfl gX12_goes dX12_unitNode_52 hM (by rw [hcf]; decide) (as := [(0, z1), (0, z3), (0, 1)]) rfl (Nat.le_of_ble_eq_true rfl) ⟨z1, z3, 1, rfl, hM, fun r6 G5 hMG5 hpG5 => ?_⟩
      obtain ⟨eG5, hpG5⟩ := hpG5
      have hFG5 : Fr nX12_unitNode jX12_unitNode G G5 := Fr.setF Fr.rf eG5 (by decide)
      show WP kX12_unitNode X 55 [some (2, ((1000 : Nat) : Int)), some (0, u), some (0, v), some (0, z1)] [(0, r6)] G5
      refine s_if_eq (tgt := 71) dX12_unitNode_55 (by decide) (fun c7 => ?_) (fun c7 => ?_)
      · -- 55 to 71
        have hr0 := goes_0 hpG5 (by omega)
        have ht9 : (if z1 = 0 then 1 else if z3 = 0 then 2 else if 1 = 0 then 3 else 0) = unT G u v := by unfold unT; (repeat' split) <;> omega
        have hn9 : ¬ unT G u v = 0 := by rw [← ht9]; (repeat' split) <;> omega
        refine s_iconst dX12_unitNode_71 (by decide) ?_
        exact s_iret hR dX12_unitNode_72 rfl (hQ _ G5 hMG5 (⟨hFG5, ⟨⟨((gsaE eG5)).trans ht9, fun _ => ⟨rfl, (Fr.setF Fr.rf eG5 (by decide) : Fr [] [25] G G5)⟩, fun q => absurd q hn9⟩, hTH.agr ((Fr.setF Fr.rf eG5 (by decide) : Fr [] [25] G G5).agr (by decide) (by decide) (by decide))⟩⟩))
      · -- 55 to 58
        have hg9 := goes_r hpG5 (by assumption)
        have ht9 : (if z1 = 0 then 1 else if z3 = 0 then 2 else if 1 = 0 then 3 else 0) = unT G u v := by unfold unT; (repeat' split) <;> omega
        have hn9 : unT G u v = 0 := by unfold unT; (repeat' split) <;> omega
        have hie9 : (gS G5 1000 18) = (gS G 1000 18) := (gsjE eG5 (by decide))
        have hv8 := hUV.2.1 u (by omega) (by omega)
        refine s_aload_n dX12_unitNode_58 rfl (Int.natCast_nonneg _) ?_
        refine s_iconst dX12_unitNode_59 (by decide) ?_
        refine s_iload_n dX12_unitNode_60 rfl ?_
        refine s_iload_n dX12_unitNode_61 rfl ?_
        refine s_iconst dX12_unitNode_62 (by decide) ?_
        refine s_iconst dX12_unitNode_63 (by decide) ?_
        refine s_iconst dX12_unitNode_64 (by decide) ?_
        refine cv_X12_326 rfl gX12_nodeOf dX12_unitNode_65 hMG5 (by rw [hcf]; decide) (as := [(0, 0), (0, u), (0, v), (0, 0), (0, 1), (0, 0)]) rfl (Nat.le_of_ble_eq_true rfl) ⟨0, u, v, 0, 1, 0, rfl, hMG5, (by first | assumption | omega), (by first | assumption | omega), fun r9 G8 hMG8 hpG8 => ?_⟩
        obtain ⟨G10, G11, G12, G13, G14, G15, eG10, eG11, eG12, eG13, eG14, eG15, eG8, hpG8⟩ := hpG8
        have hFG10 : Fr nX12_unitNode jX12_unitNode G G10 := Fr.setA hFG5 eG10 (by decide)
        have hFG11 : Fr nX12_unitNode jX12_unitNode G G11 := Fr.setA hFG10 eG11 (by decide)
        have hFG12 : Fr nX12_unitNode jX12_unitNode G G12 := Fr.setA hFG11 eG12 (by decide)
        have hFG13 : Fr nX12_unitNode jX12_unitNode G G13 := Fr.setA hFG12 eG13 (by decide)
        have hFG14 : Fr nX12_unitNode jX12_unitNode G G14 := Fr.setA hFG13 eG14 (by decide)
        have hFG15 : Fr nX12_unitNode jX12_unitNode G G15 := Fr.setA hFG14 eG15 (by decide)
        have hFG8 : Fr nX12_unitNode jX12_unitNode G G8 := Fr.setF hFG15 eG8 (by decide)
        show WP kX12_unitNode X 68 [some (2, ((1000 : Nat) : Int)), some (0, u), some (0, v), some (0, z1)] [(0, r9)] G8
        refine s_goto (tgt := 72) dX12_unitNode_68 (by decide) ?_
        exact s_iret hR dX12_unitNode_72 rfl (hQ _ G8 hMG8 (⟨hFG8, (have u1 : ∀ j : Nat, gS G8 a_nKind j = if j = (gS G 1000 18).toNat then 0 else gS G a_nKind j := ((fun j => by rw [gsnE eG8 (by decide), gsnE eG15 (by decide), gsnE eG14 (by decide), gsnE eG13 (by decide), gsnE eG12 (by decide), gsnE eG11 (by decide), g_upd eG10, show gS G5 1000 18 = gS G 1000 18 from (gsjE eG5 (by decide)), gsnE eG5 (by decide)])); have u2 : ∀ j : Nat, gS G8 a_nFirst j = if j = (gS G 1000 18).toNat then u else gS G a_nFirst j := ((fun j => by rw [gsnE eG8 (by decide), gsnE eG15 (by decide), gsnE eG14 (by decide), gsnE eG13 (by decide), gsnE eG12 (by decide), g_upd eG11, gsnE eG10 (by decide), show gS G5 1000 18 = gS G 1000 18 from (gsjE eG5 (by decide)), gsnE eG5 (by decide)])); have u3 : ∀ j : Nat, gS G8 a_nSecond j = if j = (gS G 1000 18).toNat then v else gS G a_nSecond j := ((fun j => by rw [gsnE eG8 (by decide), gsnE eG15 (by decide), gsnE eG14 (by decide), gsnE eG13 (by decide), g_upd eG12, gsnE eG11 (by decide), gsnE eG10 (by decide), show gS G5 1000 18 = gS G 1000 18 from (gsjE eG5 (by decide)), gsnE eG5 (by decide)])); have u4 : ∀ j : Nat, gS G8 a_nThird j = if j = (gS G 1000 18).toNat then 0 else gS G a_nThird j := ((fun j => by rw [gsnE eG8 (by decide), gsnE eG15 (by decide), gsnE eG14 (by decide), g_upd eG13, gsnE eG12 (by decide), gsnE eG11 (by decide), gsnE eG10 (by decide), show gS G5 1000 18 = gS G 1000 18 from (gsjE eG5 (by decide)), gsnE eG5 (by decide)])); have u5 : ∀ j : Nat, gS G8 a_nWeight j = if j = (gS G 1000 18).toNat then 1 else gS G a_nWeight j := ((fun j => by rw [gsnE eG8 (by decide), gsnE eG15 (by decide), g_upd eG14, gsnE eG13 (by decide), gsnE eG12 (by decide), gsnE eG11 (by decide), gsnE eG10 (by decide), show gS G5 1000 18 = gS G 1000 18 from (gsjE eG5 (by decide)), gsnE eG5 (by decide)])); have u6 : ∀ j : Nat, gS G8 a_isGenerative j = if j = (gS G 1000 18).toNat then 0 else gS G a_isGenerative j := ((fun j => by rw [gsnE eG8 (by decide), g_upd eG15, gsnE eG14 (by decide), gsnE eG13 (by decide), gsnE eG12 (by decide), gsnE eG11 (by decide), gsnE eG10 (by decide), show gS G5 1000 18 = gS G 1000 18 from (gsjE eG5 (by decide)), gsnE eG5 (by decide)])); have u0 : gS G8 1000 18 = gS G 1000 18 + 1 := ((gsaE eG8)).trans (by rw [(gsjE eG5 (by decide))]); have hf9 : Fr [a_nKind, a_nFirst, a_nSecond, a_nThird, a_nWeight, a_isGenerative] [18, 25] G G8 := hFG8; have hnd9 : ND G8 := hTH.2.2.2.1.add (by omega) u0 u1 u2 u3 u4 u5 (hf9.agr (by decide) (by decide) (by decide)) (by omega) (by omega) (by omega) (by omega) (by omega) (by omega) (by omega) (by omega) (by omega) (by omega) (by omega) (by omega); ⟨⟨((Eq.trans (gsjE eG8 (by decide)) (Eq.trans (gsnE eG15 (by decide)) (Eq.trans (gsnE eG14 (by decide)) (Eq.trans (gsnE eG13 (by decide)) (Eq.trans (gsnE eG12 (by decide)) (Eq.trans (gsnE eG11 (by decide)) (Eq.trans (gsnE eG10 (by decide)) (gsaE eG5))))))))).trans ht9, fun q => absurd hn9 q, fun _ => ⟨hpG8.trans ((gsjE eG5 (by decide))), u0, u5⟩⟩, hTH.tn (TN.add u1 u2 u3 u4 u6 (hf9.agr (by decide) (by decide) (by decide))) (hf9.agr (by decide) (by decide) (by decide)) (by omega) hnd9 hTH.2.2.1 (fun v q => q)⟩)⟩))
    refine s_icmp_ge (tgt := 50) dX12_unitNode_43 (by decide) (fun c16 => ?_) (fun c16 => ?_)
    · -- 43 to 50
      refine s_iconst dX12_unitNode_50 (by decide) ?_
      exact J4 0 (Or.inl ⟨c16, rfl⟩)
    · -- 43 to 46
      refine s_iconst dX12_unitNode_46 (by decide) ?_
      refine s_goto (tgt := 51) dX12_unitNode_47 (by decide) ?_
      exact J4 1 (Or.inr (⟨c16, rfl⟩))
  refine s_if_eqB (tgt := 33) dX12_unitNode_5 (by decide) (fun c17 => ?_) (fun c17 => ?_)
  · -- 5 to 33
    refine s_iconst dX12_unitNode_33 (by decide) ?_
    exact J2 0 (Or.inl ⟨c17, rfl⟩)
  · -- 5 to 8
    refine s_iload_n dX12_unitNode_8 rfl ?_
    refine s_iconst dX12_unitNode_9 (by decide) ?_
    refine s_icmp_eq (tgt := 29) dX12_unitNode_10 (by decide) (fun c18 => ?_) (fun c18 => ?_)
    · -- 10 to 29
      refine s_iconst dX12_unitNode_29 (by decide) ?_
      refine s_goto (tgt := 34) dX12_unitNode_30 (by decide) ?_
      exact J2 1 (Or.inr (Or.inl ⟨c17, c18, rfl⟩))
    · -- 10 to 13
      have hv8 := hUV.2.1 u (by omega) (by omega)
      refine s_iload_n dX12_unitNode_13 rfl ?_
      refine s_iconst dX12_unitNode_14 (by decide) ?_
      refine s_aload_n dX12_unitNode_15 rfl (Int.natCast_nonneg _) ?_
      refine gf_versions rfl dX12_unitNode_16 hM ?_
      refine s_iload_n dX12_unitNode_19 rfl ?_
      refine s_iald dX12_unitNode_20 (mg_a_versions hM) (by omega) (by omega) rfl ?_
      refine s_iconst dX12_unitNode_21 (by decide) ?_
      refine s_isub dX12_unitNode_22 (by omega) ?_
      refine cs_X12_278 rfl gX12_in dX12_unitNode_23 (by rw [hcf]; decide) (as := [(0, v), (0, 0), (0, (gS G a_versions ((u).toNat)) - 1)]) rfl (Nat.le_of_ble_eq_true rfl) ⟨v, 0, (gS G a_versions ((u).toNat)) - 1, rfl, ?_⟩
      show WP kX12_unitNode X 26 [some (2, ((1000 : Nat) : Int)), some (0, u), some (0, v), none] [(0, b2i (0 ≤ v ∧ v ≤ ((gS G a_versions ((u).toNat)) - 1)))] G
      refine s_if_eqB (tgt := 33) dX12_unitNode_26 (by decide) (fun c19 => ?_) (fun c19 => ?_)
      · -- 26 to 33
        refine s_iconst dX12_unitNode_33 (by decide) ?_
        exact J2 0 (Or.inr (Or.inr (Or.inl ⟨c17, c18, c19, rfl⟩)))
      · -- 26 to 29
        refine s_iconst dX12_unitNode_29 (by decide) ?_
        refine s_goto (tgt := 34) dX12_unitNode_30 (by decide) ?_
        exact J2 1 (Or.inr (Or.inr (Or.inr (⟨c17, c18, c19, rfl⟩))))

abbrev nX12_node : List Nat := [a_nKind, a_nFirst, a_nSecond, a_nThird, a_nWeight, a_isGenerative]
abbrev jX12_node : List Nat := [18, 25]
def TX12_node : TR := fun as G Qr => ∃ (k a b g : Int) (Hs : List (Int → Int)), as = [(2, ((1000 : Nat) : Int)), (0, k), (0, a), (0, b), (0, g)] ∧ MG G ∧ (TH G Hs) ∧ ∀ (r : Int) (G' : LG), MG G' → (Fr nX12_node jX12_node G G' ∧ (NDP G (noT G k a b) (1 + (gS G a_nWeight (a).toNat) + (gS G a_nWeight (b).toNat)) r G' ∧ TH G' Hs)) → Qr (.inl (some (0, r))) G'
set_option maxHeartbeats 4000000 in
set_option maxRecDepth 100000 in
theorem gX12_node : Good kX12_node yX12_node 2 TX12_node := by
  refine good_of (by decide) rfl rfl (fun as G Qr h => ?_) (fun X as G Qr hcf hR hT oa => ?_)
  · obtain ⟨k, a, b, g, Hs, rfl, -⟩ := h; exact Nat.le_of_ble_eq_true rfl
  obtain ⟨k, a, b, g, Hs, rfl, hM, hTH, hQ⟩ := hT
  show WP kX12_node X 0 [some (2, ((1000 : Nat) : Int)), some (0, k), some (0, a), some (0, b), some (0, g), none, none] [] G
  have hr_k : inR k := okv_R (oa _ (by simp))
  have hr_a : inR a := okv_R (oa _ (by simp))
  have hr_b : inR b := okv_R (oa _ (by simp))
  have hr_g : inR g := okv_R (oa _ (by simp))
  have hnd := hTH.2.2.2.1
  have hnn := hTH.2.2.2.1.1
  have hb9 : (b2i (0 ≤ k ∧ k ≤ 2) = 1 ∧ (0 ≤ k ∧ k ≤ 2)) ∨ (b2i (0 ≤ k ∧ k ≤ 2) = 0 ∧ ¬ (0 ≤ k ∧ k ≤ 2)) := by (by_cases q : 0 ≤ k ∧ k ≤ 2; exact Or.inl ⟨b2i_t q, q⟩; exact Or.inr ⟨b2i_f q, q⟩)
  refine s_aload_n dX12_node_0 rfl (Int.natCast_nonneg _) ?_
  refine s_iload_n dX12_node_1 rfl ?_
  refine cv_X12_330 rfl gX12_isNode dX12_node_2 hM (by rw [hcf]; decide) (as := [(0, a)]) rfl (Nat.le_of_ble_eq_true rfl) ⟨a, rfl, hM, (by first | assumption | omega), ?_⟩
  show WP kX12_node X 5 [some (2, ((1000 : Nat) : Int)), some (0, k), some (0, a), some (0, b), some (0, g), none, none] [(0, b2i (0 ≤ a ∧ a < (gS G 1000 18)))] G
  have J2 : ∀ z1 : Int, ((¬ (0 ≤ a ∧ a < (gS G 1000 18))) ∧ z1 = 0) ∨ ((0 ≤ a ∧ a < (gS G 1000 18)) ∧ (¬ (0 ≤ b ∧ b < (gS G 1000 18))) ∧ z1 = 0) ∨ ((0 ≤ a ∧ a < (gS G 1000 18)) ∧ (0 ≤ b ∧ b < (gS G 1000 18)) ∧ z1 = 1) → WP kX12_node X 21 [some (2, ((1000 : Nat) : Int)), some (0, k), some (0, a), some (0, b), some (0, g), none, none] [(0, z1)] G := by
    intro z1 hz1
    refine s_istore dX12_node_21 (by decide) (lv' := [some (2, ((1000 : Nat) : Int)), some (0, k), some (0, a), some (0, b), some (0, g), some (0, z1), none]) rfl ?_
    refine s_iload dX12_node_23 rfl ?_
    have J4 : ∀ z3 : Int, ((z1 = 0) ∧ z3 = 1) ∨ ((¬ z1 = 0) ∧ z3 = (1 + (gS G a_nWeight ((a).toNat))) + (gS G a_nWeight ((b).toNat))) → WP kX12_node X 47 [some (2, ((1000 : Nat) : Int)), some (0, k), some (0, a), some (0, b), some (0, g), some (0, z1), none] [(0, z3)] G := by
      intro z3 hz3
      refine s_istore dX12_node_47 (by decide) (lv' := [some (2, ((1000 : Nat) : Int)), some (0, k), some (0, a), some (0, b), some (0, g), some (0, z1), some (0, z3)]) rfl ?_
      refine s_aload_n dX12_node_49 rfl (Int.natCast_nonneg _) ?_
      refine s_iload_n dX12_node_50 rfl ?_
      refine s_iconst dX12_node_51 (by decide) ?_
      refine s_iconst dX12_node_52 (by decide) ?_
      refine cs_X12_278 rfl gX12_in dX12_node_53 (by rw [hcf]; decide) (as := [(0, k), (0, 0), (0, 2)]) rfl (Nat.le_of_ble_eq_true rfl) ⟨k, 0, 2, rfl, ?_⟩
      show WP kX12_node X 56 [some (2, ((1000 : Nat) : Int)), some (0, k), some (0, a), some (0, b), some (0, g), some (0, z1), some (0, z3)] [(0, b2i (0 ≤ k ∧ k ≤ 2)), (2, ((1000 : Nat) : Int))] G
      refine s_iload dX12_node_56 rfl ?_
      refine s_aload_n dX12_node_58 rfl (Int.natCast_nonneg _) ?_
      refine gf_nodes rfl dX12_node_59 hM rfl ?_
      refine s_bipush dX12_node_62 rfl (by decide) ?_
      have J6 : ∀ z5 : Int, ((40 ≤ (gS G 1000 18)) ∧ z5 = 0) ∨ ((¬ 40 ≤ (gS G 1000 18)) ∧ (24 < z3) ∧ z5 = 0) ∨ ((¬ 40 ≤ (gS G 1000 18)) ∧ (¬ 24 < z3) ∧ z5 = 1) → WP kX12_node X 79 [some (2, ((1000 : Nat) : Int)), some (0, k), some (0, a), some (0, b), some (0, g), some (0, z1), some (0, z3)] [(0, z5), (0, z1), (0, b2i (0 ≤ k ∧ k ≤ 2)), (2, ((1000 : Nat) : Int))] G := by
        intro z5 hz5
        refine cv_X12_298 rfl gX12_goes dX12_node_79 hM (by rw [hcf]; decide) (as := [(0, b2i (0 ≤ k ∧ k ≤ 2)), (0, z1), (0, z5)]) rfl (Nat.le_of_ble_eq_true rfl) ⟨b2i (0 ≤ k ∧ k ≤ 2), z1, z5, rfl, hM, fun r8 G7 hMG7 hpG7 => ?_⟩
        obtain ⟨eG7, hpG7⟩ := hpG7
        have hFG7 : Fr nX12_node jX12_node G G7 := Fr.setF Fr.rf eG7 (by decide)
        show WP kX12_node X 82 [some (2, ((1000 : Nat) : Int)), some (0, k), some (0, a), some (0, b), some (0, g), some (0, z1), some (0, z3)] [(0, r8)] G7
        refine s_if_ne (tgt := 87) dX12_node_82 (by decide) (fun c9 => ?_) (fun c9 => ?_)
        · -- 82 to 87
          have hg9 := goes_r hpG7 (by assumption)
          have ht9 : (if (b2i (0 ≤ k ∧ k ≤ 2)) = 0 then 1 else if z1 = 0 then 2 else if z5 = 0 then 3 else 0) = noT G k a b := by unfold noT; (repeat' split) <;> omega
          have hn9 : noT G k a b = 0 := by unfold noT; (repeat' split) <;> omega
          have hie9 : (gS G7 1000 18) = (gS G 1000 18) := (gsjE eG7 (by decide))
          have hwa := (hnd.w (n := a) (by omega) (by omega)).2.1
          have hwb := (hnd.w (n := b) (by omega) (by omega)).2.1
          have hww9 : z3 = 1 + (gS G a_nWeight (a).toNat) + (gS G a_nWeight (b).toNat) := by omega
          refine s_aload_n dX12_node_87 rfl (Int.natCast_nonneg _) ?_
          refine s_iload_n dX12_node_88 rfl ?_
          refine s_iconst dX12_node_89 (by decide) ?_
          refine s_iadd dX12_node_90 (by omega) ?_
          refine s_iload_n dX12_node_91 rfl ?_
          refine s_iload_n dX12_node_92 rfl ?_
          refine s_iconst dX12_node_93 (by decide) ?_
          refine s_iload dX12_node_94 rfl ?_
          refine s_iload dX12_node_96 rfl ?_
          have J11 : ∀ z10 : Int, ((g = 0) ∧ z10 = 0) ∨ ((¬ g = 0) ∧ (k ≤ 0) ∧ z10 = 0) ∨ ((¬ g = 0) ∧ (¬ k ≤ 0) ∧ z10 = 1) → WP kX12_node X 110 [some (2, ((1000 : Nat) : Int)), some (0, k), some (0, a), some (0, b), some (0, g), some (0, z1), some (0, z3)] [(0, z10), (0, z3), (0, 0), (0, b), (0, a), (0, k + 1), (2, ((1000 : Nat) : Int))] G7 := by
            intro z10 hz10
            refine cv_X12_326 rfl gX12_nodeOf dX12_node_110 hMG7 (by rw [hcf]; decide) (as := [(0, k + 1), (0, a), (0, b), (0, 0), (0, z3), (0, z10)]) rfl (Nat.le_of_ble_eq_true rfl) ⟨k + 1, a, b, 0, z3, z10, rfl, hMG7, (by first | assumption | omega), (by first | assumption | omega), fun r13 G12 hMG12 hpG12 => ?_⟩
            obtain ⟨G14, G15, G16, G17, G18, G19, eG14, eG15, eG16, eG17, eG18, eG19, eG12, hpG12⟩ := hpG12
            have hFG14 : Fr nX12_node jX12_node G G14 := Fr.setA hFG7 eG14 (by decide)
            have hFG15 : Fr nX12_node jX12_node G G15 := Fr.setA hFG14 eG15 (by decide)
            have hFG16 : Fr nX12_node jX12_node G G16 := Fr.setA hFG15 eG16 (by decide)
            have hFG17 : Fr nX12_node jX12_node G G17 := Fr.setA hFG16 eG17 (by decide)
            have hFG18 : Fr nX12_node jX12_node G G18 := Fr.setA hFG17 eG18 (by decide)
            have hFG19 : Fr nX12_node jX12_node G G19 := Fr.setA hFG18 eG19 (by decide)
            have hFG12 : Fr nX12_node jX12_node G G12 := Fr.setF hFG19 eG12 (by decide)
            show WP kX12_node X 113 [some (2, ((1000 : Nat) : Int)), some (0, k), some (0, a), some (0, b), some (0, g), some (0, z1), some (0, z3)] [(0, r13)] G12
            exact s_iret hR dX12_node_113 rfl (hQ _ G12 hMG12 (⟨hFG12, (have u1 : ∀ j : Nat, gS G12 a_nKind j = if j = (gS G 1000 18).toNat then (k + 1) else gS G a_nKind j := ((fun j => by rw [gsnE eG12 (by decide), gsnE eG19 (by decide), gsnE eG18 (by decide), gsnE eG17 (by decide), gsnE eG16 (by decide), gsnE eG15 (by decide), g_upd eG14, show gS G7 1000 18 = gS G 1000 18 from (gsjE eG7 (by decide)), gsnE eG7 (by decide)])); have u2 : ∀ j : Nat, gS G12 a_nFirst j = if j = (gS G 1000 18).toNat then a else gS G a_nFirst j := ((fun j => by rw [gsnE eG12 (by decide), gsnE eG19 (by decide), gsnE eG18 (by decide), gsnE eG17 (by decide), gsnE eG16 (by decide), g_upd eG15, gsnE eG14 (by decide), show gS G7 1000 18 = gS G 1000 18 from (gsjE eG7 (by decide)), gsnE eG7 (by decide)])); have u3 : ∀ j : Nat, gS G12 a_nSecond j = if j = (gS G 1000 18).toNat then b else gS G a_nSecond j := ((fun j => by rw [gsnE eG12 (by decide), gsnE eG19 (by decide), gsnE eG18 (by decide), gsnE eG17 (by decide), g_upd eG16, gsnE eG15 (by decide), gsnE eG14 (by decide), show gS G7 1000 18 = gS G 1000 18 from (gsjE eG7 (by decide)), gsnE eG7 (by decide)])); have u4 : ∀ j : Nat, gS G12 a_nThird j = if j = (gS G 1000 18).toNat then 0 else gS G a_nThird j := ((fun j => by rw [gsnE eG12 (by decide), gsnE eG19 (by decide), gsnE eG18 (by decide), g_upd eG17, gsnE eG16 (by decide), gsnE eG15 (by decide), gsnE eG14 (by decide), show gS G7 1000 18 = gS G 1000 18 from (gsjE eG7 (by decide)), gsnE eG7 (by decide)])); have u5 : ∀ j : Nat, gS G12 a_nWeight j = if j = (gS G 1000 18).toNat then z3 else gS G a_nWeight j := ((fun j => by rw [gsnE eG12 (by decide), gsnE eG19 (by decide), g_upd eG18, gsnE eG17 (by decide), gsnE eG16 (by decide), gsnE eG15 (by decide), gsnE eG14 (by decide), show gS G7 1000 18 = gS G 1000 18 from (gsjE eG7 (by decide)), gsnE eG7 (by decide)])); have u6 : ∀ j : Nat, gS G12 a_isGenerative j = if j = (gS G 1000 18).toNat then z10 else gS G a_isGenerative j := ((fun j => by rw [gsnE eG12 (by decide), g_upd eG19, gsnE eG18 (by decide), gsnE eG17 (by decide), gsnE eG16 (by decide), gsnE eG15 (by decide), gsnE eG14 (by decide), show gS G7 1000 18 = gS G 1000 18 from (gsjE eG7 (by decide)), gsnE eG7 (by decide)])); have u0 : gS G12 1000 18 = gS G 1000 18 + 1 := ((gsaE eG12)).trans (by rw [(gsjE eG7 (by decide))]); have hf9 : Fr [a_nKind, a_nFirst, a_nSecond, a_nThird, a_nWeight, a_isGenerative] [18, 25] G G12 := hFG12; have hnd9 : ND G12 := hTH.2.2.2.1.add (by omega) u0 u1 u2 u3 u4 u5 (hf9.agr (by decide) (by decide) (by decide)) (by omega) (by omega) (by omega) (by omega) (by omega) (by omega) (by omega) (by omega) (by omega) (by omega) (by omega) (by omega); ⟨⟨((Eq.trans (gsjE eG12 (by decide)) (Eq.trans (gsnE eG19 (by decide)) (Eq.trans (gsnE eG18 (by decide)) (Eq.trans (gsnE eG17 (by decide)) (Eq.trans (gsnE eG16 (by decide)) (Eq.trans (gsnE eG15 (by decide)) (Eq.trans (gsnE eG14 (by decide)) (gsaE eG7))))))))).trans ht9, fun q => absurd hn9 q, fun _ => ⟨hpG12.trans ((gsjE eG7 (by decide))), u0, (by rw [← hww9]; exact u5)⟩⟩, hTH.tn (TN.add u1 u2 u3 u4 u6 (hf9.agr (by decide) (by decide) (by decide))) (hf9.agr (by decide) (by decide) (by decide)) (by omega) hnd9 hTH.2.2.1 (fun v q => q)⟩)⟩))
          refine s_if_eq (tgt := 109) dX12_node_98 (by decide) (fun c20 => ?_) (fun c20 => ?_)
          · -- 98 to 109
            refine s_iconst dX12_node_109 (by decide) ?_
            exact J11 0 (Or.inl ⟨c20, rfl⟩)
          · -- 98 to 101
            refine s_iload_n dX12_node_101 rfl ?_
            refine s_if_le (tgt := 109) dX12_node_102 (by decide) (fun c21 => ?_) (fun c21 => ?_)
            · -- 102 to 109
              refine s_iconst dX12_node_109 (by decide) ?_
              exact J11 0 (Or.inr (Or.inl ⟨c20, c21, rfl⟩))
            · -- 102 to 105
              refine s_iconst dX12_node_105 (by decide) ?_
              refine s_goto (tgt := 110) dX12_node_106 (by decide) ?_
              exact J11 1 (Or.inr (Or.inr (⟨c20, c21, rfl⟩)))
        · -- 82 to 85
          have hr0 := goes_0 hpG7 (by omega)
          have ht9 : (if (b2i (0 ≤ k ∧ k ≤ 2)) = 0 then 1 else if z1 = 0 then 2 else if z5 = 0 then 3 else 0) = noT G k a b := by unfold noT; (repeat' split) <;> omega
          have hn9 : ¬ noT G k a b = 0 := by rw [← ht9]; (repeat' split) <;> omega
          refine s_iconst dX12_node_85 (by decide) ?_
          exact s_iret hR dX12_node_86 rfl (hQ _ G7 hMG7 (⟨hFG7, ⟨⟨((gsaE eG7)).trans ht9, fun _ => ⟨rfl, (Fr.setF Fr.rf eG7 (by decide) : Fr [] [25] G G7)⟩, fun q => absurd q hn9⟩, hTH.agr ((Fr.setF Fr.rf eG7 (by decide) : Fr [] [25] G G7).agr (by decide) (by decide) (by decide))⟩⟩))
      refine s_icmp_ge (tgt := 78) dX12_node_64 (by decide) (fun c22 => ?_) (fun c22 => ?_)
      · -- 64 to 78
        refine s_iconst dX12_node_78 (by decide) ?_
        exact J6 0 (Or.inl ⟨c22, rfl⟩)
      · -- 64 to 67
        refine s_iload dX12_node_67 rfl ?_
        refine s_bipush dX12_node_69 rfl (by decide) ?_
        refine s_icmp_gt (tgt := 78) dX12_node_71 (by decide) (fun c23 => ?_) (fun c23 => ?_)
        · -- 71 to 78
          refine s_iconst dX12_node_78 (by decide) ?_
          exact J6 0 (Or.inr (Or.inl ⟨c22, c23, rfl⟩))
        · -- 71 to 74
          refine s_iconst dX12_node_74 (by decide) ?_
          refine s_goto (tgt := 79) dX12_node_75 (by decide) ?_
          exact J6 1 (Or.inr (Or.inr (⟨c22, c23, rfl⟩)))
    refine s_if_eq (tgt := 46) dX12_node_25 (by decide) (fun c24 => ?_) (fun c24 => ?_)
    · -- 25 to 46
      refine s_iconst dX12_node_46 (by decide) ?_
      exact J4 1 (Or.inl ⟨c24, rfl⟩)
    · -- 25 to 28
      have hwa := (hnd.w (n := a) (by omega) (by omega)).2.1
      have hwb := (hnd.w (n := b) (by omega) (by omega)).2.1
      refine s_iconst dX12_node_28 (by decide) ?_
      refine s_aload_n dX12_node_29 rfl (Int.natCast_nonneg _) ?_
      refine gf_nWeight rfl dX12_node_30 hM ?_
      refine s_iload_n dX12_node_33 rfl ?_
      refine s_iald dX12_node_34 (mg_a_nWeight hM) (by omega) (by omega) rfl ?_
      refine s_iadd dX12_node_35 (by omega) ?_
      refine s_aload_n dX12_node_36 rfl (Int.natCast_nonneg _) ?_
      refine gf_nWeight rfl dX12_node_37 hM ?_
      refine s_iload_n dX12_node_40 rfl ?_
      refine s_iald dX12_node_41 (mg_a_nWeight hM) (by omega) (by omega) rfl ?_
      refine s_iadd dX12_node_42 (by omega) ?_
      refine s_goto (tgt := 47) dX12_node_43 (by decide) ?_
      exact J4 _ (Or.inr (⟨c24, rfl⟩))
  refine s_if_eqB (tgt := 20) dX12_node_5 (by decide) (fun c25 => ?_) (fun c25 => ?_)
  · -- 5 to 20
    refine s_iconst dX12_node_20 (by decide) ?_
    exact J2 0 (Or.inl ⟨c25, rfl⟩)
  · -- 5 to 8
    refine s_aload_n dX12_node_8 rfl (Int.natCast_nonneg _) ?_
    refine s_iload_n dX12_node_9 rfl ?_
    refine cv_X12_330 rfl gX12_isNode dX12_node_10 hM (by rw [hcf]; decide) (as := [(0, b)]) rfl (Nat.le_of_ble_eq_true rfl) ⟨b, rfl, hM, (by first | assumption | omega), ?_⟩
    show WP kX12_node X 13 [some (2, ((1000 : Nat) : Int)), some (0, k), some (0, a), some (0, b), some (0, g), none, none] [(0, b2i (0 ≤ b ∧ b < (gS G 1000 18)))] G
    refine s_if_eqB (tgt := 20) dX12_node_13 (by decide) (fun c26 => ?_) (fun c26 => ?_)
    · -- 13 to 20
      refine s_iconst dX12_node_20 (by decide) ?_
      exact J2 0 (Or.inr (Or.inl ⟨c25, c26, rfl⟩))
    · -- 13 to 16
      refine s_iconst dX12_node_16 (by decide) ?_
      refine s_goto (tgt := 21) dX12_node_17 (by decide) ?_
      exact J2 1 (Or.inr (Or.inr (⟨c25, c26, rfl⟩)))

abbrev nX12_choose : List Nat := [a_nKind, a_nFirst, a_nSecond, a_nThird, a_nWeight, a_isGenerative]
abbrev jX12_choose : List Nat := [18, 25]
def TX12_choose : TR := fun as G Qr => ∃ (a b c : Int) (Hs : List (Int → Int)), as = [(2, ((1000 : Nat) : Int)), (0, a), (0, b), (0, c)] ∧ MG G ∧ (TH G Hs) ∧ ∀ (r : Int) (G' : LG), MG G' → (Fr nX12_choose jX12_choose G G' ∧ (NDP G (chT G a b c) (1 + (gS G a_nWeight (a).toNat) + (gS G a_nWeight (b).toNat) + (gS G a_nWeight (c).toNat)) r G' ∧ TH G' Hs)) → Qr (.inl (some (0, r))) G'
set_option maxHeartbeats 4000000 in
set_option maxRecDepth 100000 in
theorem gX12_choose : Good kX12_choose yX12_choose 2 TX12_choose := by
  refine good_of (by decide) rfl rfl (fun as G Qr h => ?_) (fun X as G Qr hcf hR hT oa => ?_)
  · obtain ⟨a, b, c, Hs, rfl, -⟩ := h; exact Nat.le_of_ble_eq_true rfl
  obtain ⟨a, b, c, Hs, rfl, hM, hTH, hQ⟩ := hT
  show WP kX12_choose X 0 [some (2, ((1000 : Nat) : Int)), some (0, a), some (0, b), some (0, c), none, none] [] G
  have hr_a : inR a := okv_R (oa _ (by simp))
  have hr_b : inR b := okv_R (oa _ (by simp))
  have hr_c : inR c := okv_R (oa _ (by simp))
  have hnd := hTH.2.2.2.1
  have hnn := hTH.2.2.2.1.1
  refine s_aload_n dX12_choose_0 rfl (Int.natCast_nonneg _) ?_
  refine s_iload_n dX12_choose_1 rfl ?_
  refine cv_X12_330 rfl gX12_isNode dX12_choose_2 hM (by rw [hcf]; decide) (as := [(0, a)]) rfl (Nat.le_of_ble_eq_true rfl) ⟨a, rfl, hM, (by first | assumption | omega), ?_⟩
  show WP kX12_choose X 5 [some (2, ((1000 : Nat) : Int)), some (0, a), some (0, b), some (0, c), none, none] [(0, b2i (0 ≤ a ∧ a < (gS G 1000 18)))] G
  have J2 : ∀ z1 : Int, ((¬ (0 ≤ a ∧ a < (gS G 1000 18))) ∧ z1 = 0) ∨ ((0 ≤ a ∧ a < (gS G 1000 18)) ∧ (¬ (0 ≤ b ∧ b < (gS G 1000 18))) ∧ z1 = 0) ∨ ((0 ≤ a ∧ a < (gS G 1000 18)) ∧ (0 ≤ b ∧ b < (gS G 1000 18)) ∧ (¬ (0 ≤ c ∧ c < (gS G 1000 18))) ∧ z1 = 0) ∨ ((0 ≤ a ∧ a < (gS G 1000 18)) ∧ (0 ≤ b ∧ b < (gS G 1000 18)) ∧ (0 ≤ c ∧ c < (gS G 1000 18)) ∧ z1 = 1) → WP kX12_choose X 29 [some (2, ((1000 : Nat) : Int)), some (0, a), some (0, b), some (0, c), none, none] [(0, z1)] G := by
    intro z1 hz1
    refine s_istore dX12_choose_29 (by decide) (lv' := [some (2, ((1000 : Nat) : Int)), some (0, a), some (0, b), some (0, c), some (0, z1), none]) rfl ?_
    refine s_iload dX12_choose_31 rfl ?_
    have J4 : ∀ z3 : Int, ((z1 = 0) ∧ z3 = 1) ∨ ((¬ z1 = 0) ∧ z3 = ((1 + (gS G a_nWeight ((a).toNat))) + (gS G a_nWeight ((b).toNat))) + (gS G a_nWeight ((c).toNat))) → WP kX12_choose X 62 [some (2, ((1000 : Nat) : Int)), some (0, a), some (0, b), some (0, c), some (0, z1), none] [(0, z3)] G := by
      intro z3 hz3
      refine s_istore dX12_choose_62 (by decide) (lv' := [some (2, ((1000 : Nat) : Int)), some (0, a), some (0, b), some (0, c), some (0, z1), some (0, z3)]) rfl ?_
      refine s_aload_n dX12_choose_64 rfl (Int.natCast_nonneg _) ?_
      refine s_iload dX12_choose_65 rfl ?_
      refine s_aload_n dX12_choose_67 rfl (Int.natCast_nonneg _) ?_
      refine gf_nodes rfl dX12_choose_68 hM rfl ?_
      refine s_bipush dX12_choose_71 rfl (by decide) ?_
      have J6 : ∀ z5 : Int, ((40 ≤ (gS G 1000 18)) ∧ z5 = 0) ∨ ((¬ 40 ≤ (gS G 1000 18)) ∧ (24 < z3) ∧ z5 = 0) ∨ ((¬ 40 ≤ (gS G 1000 18)) ∧ (¬ 24 < z3) ∧ z5 = 1) → WP kX12_choose X 88 [some (2, ((1000 : Nat) : Int)), some (0, a), some (0, b), some (0, c), some (0, z1), some (0, z3)] [(0, z5), (0, z1), (2, ((1000 : Nat) : Int))] G := by
        intro z5 hz5
        refine s_iconst dX12_choose_88 (by decide) ?_
        refine cv_X12_298 rfl gX12_goes dX12_choose_89 hM (by rw [hcf]; decide) (as := [(0, z1), (0, z5), (0, 1)]) rfl (Nat.le_of_ble_eq_true rfl) ⟨z1, z5, 1, rfl, hM, fun r8 G7 hMG7 hpG7 => ?_⟩
        obtain ⟨eG7, hpG7⟩ := hpG7
        have hFG7 : Fr nX12_choose jX12_choose G G7 := Fr.setF Fr.rf eG7 (by decide)
        show WP kX12_choose X 92 [some (2, ((1000 : Nat) : Int)), some (0, a), some (0, b), some (0, c), some (0, z1), some (0, z3)] [(0, r8)] G7
        refine s_if_eq (tgt := 109) dX12_choose_92 (by decide) (fun c9 => ?_) (fun c9 => ?_)
        · -- 92 to 109
          have hr0 := goes_0 hpG7 (by omega)
          have ht9 : (if z1 = 0 then 1 else if z5 = 0 then 2 else if 1 = 0 then 3 else 0) = chT G a b c := by unfold chT; (repeat' split) <;> omega
          have hn9 : ¬ chT G a b c = 0 := by rw [← ht9]; (repeat' split) <;> omega
          refine s_iconst dX12_choose_109 (by decide) ?_
          exact s_iret hR dX12_choose_110 rfl (hQ _ G7 hMG7 (⟨hFG7, ⟨⟨((gsaE eG7)).trans ht9, fun _ => ⟨rfl, (Fr.setF Fr.rf eG7 (by decide) : Fr [] [25] G G7)⟩, fun q => absurd q hn9⟩, hTH.agr ((Fr.setF Fr.rf eG7 (by decide) : Fr [] [25] G G7).agr (by decide) (by decide) (by decide))⟩⟩))
        · -- 92 to 95
          have hg9 := goes_r hpG7 (by assumption)
          have ht9 : (if z1 = 0 then 1 else if z5 = 0 then 2 else if 1 = 0 then 3 else 0) = chT G a b c := by unfold chT; (repeat' split) <;> omega
          have hn9 : chT G a b c = 0 := by unfold chT; (repeat' split) <;> omega
          have hie9 : (gS G7 1000 18) = (gS G 1000 18) := (gsjE eG7 (by decide))
          have hwa := (hnd.w (n := a) (by omega) (by omega)).2.1
          have hwb := (hnd.w (n := b) (by omega) (by omega)).2.1
          have hwc := (hnd.w (n := c) (by omega) (by omega)).2.1
          have hww9 : z3 = 1 + (gS G a_nWeight (a).toNat) + (gS G a_nWeight (b).toNat) + (gS G a_nWeight (c).toNat) := by omega
          refine s_aload_n dX12_choose_95 rfl (Int.natCast_nonneg _) ?_
          refine s_iconst dX12_choose_96 (by decide) ?_
          refine s_iload_n dX12_choose_97 rfl ?_
          refine s_iload_n dX12_choose_98 rfl ?_
          refine s_iload_n dX12_choose_99 rfl ?_
          refine s_iload dX12_choose_100 rfl ?_
          refine s_iconst dX12_choose_102 (by decide) ?_
          refine cv_X12_326 rfl gX12_nodeOf dX12_choose_103 hMG7 (by rw [hcf]; decide) (as := [(0, 4), (0, a), (0, b), (0, c), (0, z3), (0, 0)]) rfl (Nat.le_of_ble_eq_true rfl) ⟨4, a, b, c, z3, 0, rfl, hMG7, (by first | assumption | omega), (by first | assumption | omega), fun r11 G10 hMG10 hpG10 => ?_⟩
          obtain ⟨G12, G13, G14, G15, G16, G17, eG12, eG13, eG14, eG15, eG16, eG17, eG10, hpG10⟩ := hpG10
          have hFG12 : Fr nX12_choose jX12_choose G G12 := Fr.setA hFG7 eG12 (by decide)
          have hFG13 : Fr nX12_choose jX12_choose G G13 := Fr.setA hFG12 eG13 (by decide)
          have hFG14 : Fr nX12_choose jX12_choose G G14 := Fr.setA hFG13 eG14 (by decide)
          have hFG15 : Fr nX12_choose jX12_choose G G15 := Fr.setA hFG14 eG15 (by decide)
          have hFG16 : Fr nX12_choose jX12_choose G G16 := Fr.setA hFG15 eG16 (by decide)
          have hFG17 : Fr nX12_choose jX12_choose G G17 := Fr.setA hFG16 eG17 (by decide)
          have hFG10 : Fr nX12_choose jX12_choose G G10 := Fr.setF hFG17 eG10 (by decide)
          show WP kX12_choose X 106 [some (2, ((1000 : Nat) : Int)), some (0, a), some (0, b), some (0, c), some (0, z1), some (0, z3)] [(0, r11)] G10
          refine s_goto (tgt := 110) dX12_choose_106 (by decide) ?_
          exact s_iret hR dX12_choose_110 rfl (hQ _ G10 hMG10 (⟨hFG10, (have u1 : ∀ j : Nat, gS G10 a_nKind j = if j = (gS G 1000 18).toNat then 4 else gS G a_nKind j := ((fun j => by rw [gsnE eG10 (by decide), gsnE eG17 (by decide), gsnE eG16 (by decide), gsnE eG15 (by decide), gsnE eG14 (by decide), gsnE eG13 (by decide), g_upd eG12, show gS G7 1000 18 = gS G 1000 18 from (gsjE eG7 (by decide)), gsnE eG7 (by decide)])); have u2 : ∀ j : Nat, gS G10 a_nFirst j = if j = (gS G 1000 18).toNat then a else gS G a_nFirst j := ((fun j => by rw [gsnE eG10 (by decide), gsnE eG17 (by decide), gsnE eG16 (by decide), gsnE eG15 (by decide), gsnE eG14 (by decide), g_upd eG13, gsnE eG12 (by decide), show gS G7 1000 18 = gS G 1000 18 from (gsjE eG7 (by decide)), gsnE eG7 (by decide)])); have u3 : ∀ j : Nat, gS G10 a_nSecond j = if j = (gS G 1000 18).toNat then b else gS G a_nSecond j := ((fun j => by rw [gsnE eG10 (by decide), gsnE eG17 (by decide), gsnE eG16 (by decide), gsnE eG15 (by decide), g_upd eG14, gsnE eG13 (by decide), gsnE eG12 (by decide), show gS G7 1000 18 = gS G 1000 18 from (gsjE eG7 (by decide)), gsnE eG7 (by decide)])); have u4 : ∀ j : Nat, gS G10 a_nThird j = if j = (gS G 1000 18).toNat then c else gS G a_nThird j := ((fun j => by rw [gsnE eG10 (by decide), gsnE eG17 (by decide), gsnE eG16 (by decide), g_upd eG15, gsnE eG14 (by decide), gsnE eG13 (by decide), gsnE eG12 (by decide), show gS G7 1000 18 = gS G 1000 18 from (gsjE eG7 (by decide)), gsnE eG7 (by decide)])); have u5 : ∀ j : Nat, gS G10 a_nWeight j = if j = (gS G 1000 18).toNat then z3 else gS G a_nWeight j := ((fun j => by rw [gsnE eG10 (by decide), gsnE eG17 (by decide), g_upd eG16, gsnE eG15 (by decide), gsnE eG14 (by decide), gsnE eG13 (by decide), gsnE eG12 (by decide), show gS G7 1000 18 = gS G 1000 18 from (gsjE eG7 (by decide)), gsnE eG7 (by decide)])); have u6 : ∀ j : Nat, gS G10 a_isGenerative j = if j = (gS G 1000 18).toNat then 0 else gS G a_isGenerative j := ((fun j => by rw [gsnE eG10 (by decide), g_upd eG17, gsnE eG16 (by decide), gsnE eG15 (by decide), gsnE eG14 (by decide), gsnE eG13 (by decide), gsnE eG12 (by decide), show gS G7 1000 18 = gS G 1000 18 from (gsjE eG7 (by decide)), gsnE eG7 (by decide)])); have u0 : gS G10 1000 18 = gS G 1000 18 + 1 := ((gsaE eG10)).trans (by rw [(gsjE eG7 (by decide))]); have hf9 : Fr [a_nKind, a_nFirst, a_nSecond, a_nThird, a_nWeight, a_isGenerative] [18, 25] G G10 := hFG10; have hnd9 : ND G10 := hTH.2.2.2.1.add (by omega) u0 u1 u2 u3 u4 u5 (hf9.agr (by decide) (by decide) (by decide)) (by omega) (by omega) (by omega) (by omega) (by omega) (by omega) (by omega) (by omega) (by omega) (by omega) (by omega) (by omega); ⟨⟨((Eq.trans (gsjE eG10 (by decide)) (Eq.trans (gsnE eG17 (by decide)) (Eq.trans (gsnE eG16 (by decide)) (Eq.trans (gsnE eG15 (by decide)) (Eq.trans (gsnE eG14 (by decide)) (Eq.trans (gsnE eG13 (by decide)) (Eq.trans (gsnE eG12 (by decide)) (gsaE eG7))))))))).trans ht9, fun q => absurd hn9 q, fun _ => ⟨hpG10.trans ((gsjE eG7 (by decide))), u0, (by rw [← hww9]; exact u5)⟩⟩, hTH.tn (TN.add u1 u2 u3 u4 u6 (hf9.agr (by decide) (by decide) (by decide))) (hf9.agr (by decide) (by decide) (by decide)) (by omega) hnd9 hTH.2.2.1 (fun v q => q)⟩)⟩))
      refine s_icmp_ge (tgt := 87) dX12_choose_73 (by decide) (fun c18 => ?_) (fun c18 => ?_)
      · -- 73 to 87
        refine s_iconst dX12_choose_87 (by decide) ?_
        exact J6 0 (Or.inl ⟨c18, rfl⟩)
      · -- 73 to 76
        refine s_iload dX12_choose_76 rfl ?_
        refine s_bipush dX12_choose_78 rfl (by decide) ?_
        refine s_icmp_gt (tgt := 87) dX12_choose_80 (by decide) (fun c19 => ?_) (fun c19 => ?_)
        · -- 80 to 87
          refine s_iconst dX12_choose_87 (by decide) ?_
          exact J6 0 (Or.inr (Or.inl ⟨c18, c19, rfl⟩))
        · -- 80 to 83
          refine s_iconst dX12_choose_83 (by decide) ?_
          refine s_goto (tgt := 88) dX12_choose_84 (by decide) ?_
          exact J6 1 (Or.inr (Or.inr (⟨c18, c19, rfl⟩)))
    refine s_if_eq (tgt := 61) dX12_choose_33 (by decide) (fun c20 => ?_) (fun c20 => ?_)
    · -- 33 to 61
      refine s_iconst dX12_choose_61 (by decide) ?_
      exact J4 1 (Or.inl ⟨c20, rfl⟩)
    · -- 33 to 36
      have hwa := (hnd.w (n := a) (by omega) (by omega)).2.1
      have hwb := (hnd.w (n := b) (by omega) (by omega)).2.1
      have hwc := (hnd.w (n := c) (by omega) (by omega)).2.1
      refine s_iconst dX12_choose_36 (by decide) ?_
      refine s_aload_n dX12_choose_37 rfl (Int.natCast_nonneg _) ?_
      refine gf_nWeight rfl dX12_choose_38 hM ?_
      refine s_iload_n dX12_choose_41 rfl ?_
      refine s_iald dX12_choose_42 (mg_a_nWeight hM) (by omega) (by omega) rfl ?_
      refine s_iadd dX12_choose_43 (by omega) ?_
      refine s_aload_n dX12_choose_44 rfl (Int.natCast_nonneg _) ?_
      refine gf_nWeight rfl dX12_choose_45 hM ?_
      refine s_iload_n dX12_choose_48 rfl ?_
      refine s_iald dX12_choose_49 (mg_a_nWeight hM) (by omega) (by omega) rfl ?_
      refine s_iadd dX12_choose_50 (by omega) ?_
      refine s_aload_n dX12_choose_51 rfl (Int.natCast_nonneg _) ?_
      refine gf_nWeight rfl dX12_choose_52 hM ?_
      refine s_iload_n dX12_choose_55 rfl ?_
      refine s_iald dX12_choose_56 (mg_a_nWeight hM) (by omega) (by omega) rfl ?_
      refine s_iadd dX12_choose_57 (by omega) ?_
      refine s_goto (tgt := 62) dX12_choose_58 (by decide) ?_
      exact J4 _ (Or.inr (⟨c20, rfl⟩))
  refine s_if_eqB (tgt := 28) dX12_choose_5 (by decide) (fun c21 => ?_) (fun c21 => ?_)
  · -- 5 to 28
    refine s_iconst dX12_choose_28 (by decide) ?_
    exact J2 0 (Or.inl ⟨c21, rfl⟩)
  · -- 5 to 8
    refine s_aload_n dX12_choose_8 rfl (Int.natCast_nonneg _) ?_
    refine s_iload_n dX12_choose_9 rfl ?_
    refine cv_X12_330 rfl gX12_isNode dX12_choose_10 hM (by rw [hcf]; decide) (as := [(0, b)]) rfl (Nat.le_of_ble_eq_true rfl) ⟨b, rfl, hM, (by first | assumption | omega), ?_⟩
    show WP kX12_choose X 13 [some (2, ((1000 : Nat) : Int)), some (0, a), some (0, b), some (0, c), none, none] [(0, b2i (0 ≤ b ∧ b < (gS G 1000 18)))] G
    refine s_if_eqB (tgt := 28) dX12_choose_13 (by decide) (fun c22 => ?_) (fun c22 => ?_)
    · -- 13 to 28
      refine s_iconst dX12_choose_28 (by decide) ?_
      exact J2 0 (Or.inr (Or.inl ⟨c21, c22, rfl⟩))
    · -- 13 to 16
      refine s_aload_n dX12_choose_16 rfl (Int.natCast_nonneg _) ?_
      refine s_iload_n dX12_choose_17 rfl ?_
      refine cv_X12_330 rfl gX12_isNode dX12_choose_18 hM (by rw [hcf]; decide) (as := [(0, c)]) rfl (Nat.le_of_ble_eq_true rfl) ⟨c, rfl, hM, (by first | assumption | omega), ?_⟩
      show WP kX12_choose X 21 [some (2, ((1000 : Nat) : Int)), some (0, a), some (0, b), some (0, c), none, none] [(0, b2i (0 ≤ c ∧ c < (gS G 1000 18)))] G
      refine s_if_eqB (tgt := 28) dX12_choose_21 (by decide) (fun c23 => ?_) (fun c23 => ?_)
      · -- 21 to 28
        refine s_iconst dX12_choose_28 (by decide) ?_
        exact J2 0 (Or.inr (Or.inr (Or.inl ⟨c21, c22, c23, rfl⟩)))
      · -- 21 to 24
        refine s_iconst dX12_choose_24 (by decide) ?_
        refine s_goto (tgt := 29) dX12_choose_25 (by decide) ?_
        exact J2 1 (Or.inr (Or.inr (Or.inr (⟨c21, c22, c23, rfl⟩))))

abbrev nX12_rename : List Nat := [a_nKind, a_nFirst, a_nSecond, a_nThird, a_nWeight, a_isGenerative]
abbrev jX12_rename : List Nat := [18, 25]
def TX12_rename : TR := fun as G Qr => ∃ (n k t : Int) (Hs : List (Int → Int)), as = [(2, ((1000 : Nat) : Int)), (0, n), (0, k), (0, t)] ∧ MG G ∧ (TH G Hs) ∧ ∀ (r : Int) (G' : LG), MG G' → (Fr nX12_rename jX12_rename G G' ∧ (NDP G (rnT G n k t) (1 + (gS G a_nWeight (n).toNat)) r G' ∧ TH G' Hs)) → Qr (.inl (some (0, r))) G'
set_option maxHeartbeats 4000000 in
set_option maxRecDepth 100000 in
theorem gX12_rename : Good kX12_rename yX12_rename 2 TX12_rename := by
  refine good_of (by decide) rfl rfl (fun as G Qr h => ?_) (fun X as G Qr hcf hR hT oa => ?_)
  · obtain ⟨n, k, t, Hs, rfl, -⟩ := h; exact Nat.le_of_ble_eq_true rfl
  obtain ⟨n, k, t, Hs, rfl, hM, hTH, hQ⟩ := hT
  show WP kX12_rename X 0 [some (2, ((1000 : Nat) : Int)), some (0, n), some (0, k), some (0, t), none, none, none] [] G
  have hr_n : inR n := okv_R (oa _ (by simp))
  have hr_k : inR k := okv_R (oa _ (by simp))
  have hr_t : inR t := okv_R (oa _ (by simp))
  have hnd := hTH.2.2.2.1
  have hnn := hTH.2.2.2.1.1
  have hb9 : (b2i (0 ≤ n ∧ n < (gS G 1000 18)) = 1 ∧ (0 ≤ n ∧ n < (gS G 1000 18))) ∨ (b2i (0 ≤ n ∧ n < (gS G 1000 18)) = 0 ∧ ¬ (0 ≤ n ∧ n < (gS G 1000 18))) := by (by_cases q : 0 ≤ n ∧ n < (gS G 1000 18); exact Or.inl ⟨b2i_t q, q⟩; exact Or.inr ⟨b2i_f q, q⟩)
  refine s_aload_n dX12_rename_0 rfl (Int.natCast_nonneg _) ?_
  refine s_iload_n dX12_rename_1 rfl ?_
  refine cv_X12_330 rfl gX12_isNode dX12_rename_2 hM (by rw [hcf]; decide) (as := [(0, n)]) rfl (Nat.le_of_ble_eq_true rfl) ⟨n, rfl, hM, (by first | assumption | omega), ?_⟩
  show WP kX12_rename X 5 [some (2, ((1000 : Nat) : Int)), some (0, n), some (0, k), some (0, t), none, none, none] [(0, b2i (0 ≤ n ∧ n < (gS G 1000 18)))] G
  refine s_istore dX12_rename_5 (by decide) (lv' := [some (2, ((1000 : Nat) : Int)), some (0, n), some (0, k), some (0, t), some (0, b2i (0 ≤ n ∧ n < (gS G 1000 18))), none, none]) rfl ?_
  refine s_iload_n dX12_rename_7 rfl ?_
  refine cs_X12_302 rfl gX12_isValue dX12_rename_8 (by rw [hcf]; decide) (as := [(0, k)]) rfl (Nat.le_of_ble_eq_true rfl) ⟨k, rfl, ?_⟩
  show WP kX12_rename X 11 [some (2, ((1000 : Nat) : Int)), some (0, n), some (0, k), some (0, t), some (0, b2i (0 ≤ n ∧ n < (gS G 1000 18))), none, none] [(0, b2i (0 ≤ k ∧ k ≤ 9))] G
  have J2 : ∀ z1 : Int, ((¬ (0 ≤ k ∧ k ≤ 9)) ∧ z1 = 0) ∨ ((0 ≤ k ∧ k ≤ 9) ∧ (t = ((-1))) ∧ (k = t) ∧ z1 = 0) ∨ ((0 ≤ k ∧ k ≤ 9) ∧ (t = ((-1))) ∧ (¬ k = t) ∧ z1 = 1) ∨ ((0 ≤ k ∧ k ≤ 9) ∧ (¬ t = ((-1))) ∧ (¬ (0 ≤ t ∧ t ≤ 9)) ∧ z1 = 0) ∨ ((0 ≤ k ∧ k ≤ 9) ∧ (¬ t = ((-1))) ∧ (0 ≤ t ∧ t ≤ 9) ∧ (k = t) ∧ z1 = 0) ∨ ((0 ≤ k ∧ k ≤ 9) ∧ (¬ t = ((-1))) ∧ (0 ≤ t ∧ t ≤ 9) ∧ (¬ k = t) ∧ z1 = 1) → WP kX12_rename X 36 [some (2, ((1000 : Nat) : Int)), some (0, n), some (0, k), some (0, t), some (0, b2i (0 ≤ n ∧ n < (gS G 1000 18))), none, none] [(0, z1)] G := by
    intro z1 hz1
    refine s_istore dX12_rename_36 (by decide) (lv' := [some (2, ((1000 : Nat) : Int)), some (0, n), some (0, k), some (0, t), some (0, b2i (0 ≤ n ∧ n < (gS G 1000 18))), some (0, z1), none]) rfl ?_
    refine s_iload dX12_rename_38 rfl ?_
    have J4 : ∀ z3 : Int, ((¬ (0 ≤ n ∧ n < (gS G 1000 18))) ∧ z3 = 1) ∨ ((0 ≤ n ∧ n < (gS G 1000 18)) ∧ z3 = 1 + (gS G a_nWeight ((n).toNat))) → WP kX12_rename X 55 [some (2, ((1000 : Nat) : Int)), some (0, n), some (0, k), some (0, t), some (0, b2i (0 ≤ n ∧ n < (gS G 1000 18))), some (0, z1), none] [(0, z3)] G := by
      intro z3 hz3
      refine s_istore dX12_rename_55 (by decide) (lv' := [some (2, ((1000 : Nat) : Int)), some (0, n), some (0, k), some (0, t), some (0, b2i (0 ≤ n ∧ n < (gS G 1000 18))), some (0, z1), some (0, z3)]) rfl ?_
      refine s_aload_n dX12_rename_57 rfl (Int.natCast_nonneg _) ?_
      refine s_iload dX12_rename_58 rfl ?_
      refine s_iload dX12_rename_60 rfl ?_
      refine s_aload_n dX12_rename_62 rfl (Int.natCast_nonneg _) ?_
      refine gf_nodes rfl dX12_rename_63 hM rfl ?_
      refine s_bipush dX12_rename_66 rfl (by decide) ?_
      have J6 : ∀ z5 : Int, ((40 ≤ (gS G 1000 18)) ∧ z5 = 0) ∨ ((¬ 40 ≤ (gS G 1000 18)) ∧ (24 < z3) ∧ z5 = 0) ∨ ((¬ 40 ≤ (gS G 1000 18)) ∧ (¬ 24 < z3) ∧ z5 = 1) → WP kX12_rename X 83 [some (2, ((1000 : Nat) : Int)), some (0, n), some (0, k), some (0, t), some (0, b2i (0 ≤ n ∧ n < (gS G 1000 18))), some (0, z1), some (0, z3)] [(0, z5), (0, z1), (0, b2i (0 ≤ n ∧ n < (gS G 1000 18))), (2, ((1000 : Nat) : Int))] G := by
        intro z5 hz5
        refine cv_X12_298 rfl gX12_goes dX12_rename_83 hM (by rw [hcf]; decide) (as := [(0, b2i (0 ≤ n ∧ n < (gS G 1000 18))), (0, z1), (0, z5)]) rfl (Nat.le_of_ble_eq_true rfl) ⟨b2i (0 ≤ n ∧ n < (gS G 1000 18)), z1, z5, rfl, hM, fun r8 G7 hMG7 hpG7 => ?_⟩
        obtain ⟨eG7, hpG7⟩ := hpG7
        have hFG7 : Fr nX12_rename jX12_rename G G7 := Fr.setF Fr.rf eG7 (by decide)
        show WP kX12_rename X 86 [some (2, ((1000 : Nat) : Int)), some (0, n), some (0, k), some (0, t), some (0, b2i (0 ≤ n ∧ n < (gS G 1000 18))), some (0, z1), some (0, z3)] [(0, r8)] G7
        refine s_if_ne (tgt := 91) dX12_rename_86 (by decide) (fun c9 => ?_) (fun c9 => ?_)
        · -- 86 to 91
          have hg9 := goes_r hpG7 (by assumption)
          have ht9 : (if (b2i (0 ≤ n ∧ n < (gS G 1000 18))) = 0 then 1 else if z1 = 0 then 2 else if z5 = 0 then 3 else 0) = rnT G n k t := by unfold rnT; (repeat' split) <;> omega
          have hn9 : rnT G n k t = 0 := by unfold rnT; (repeat' split) <;> omega
          have hie9 : (gS G7 1000 18) = (gS G 1000 18) := (gsjE eG7 (by decide))
          have hwn := (hnd.w (n := n) (by omega) (by omega)).2.1
          have hww9 : z3 = 1 + (gS G a_nWeight (n).toNat) := by omega
          refine s_aload_n dX12_rename_91 rfl (Int.natCast_nonneg _) ?_
          refine s_iload_n dX12_rename_92 rfl ?_
          refine s_iconst dX12_rename_93 (by decide) ?_
          have J11 : ∀ z10 : Int, ((¬ t = ((-1))) ∧ z10 = 5) ∨ ((t = ((-1))) ∧ z10 = 6) → WP kX12_rename X 103 [some (2, ((1000 : Nat) : Int)), some (0, n), some (0, k), some (0, t), some (0, b2i (0 ≤ n ∧ n < (gS G 1000 18))), some (0, z1), some (0, z3)] [(0, z10), (2, ((1000 : Nat) : Int))] G7 := by
            intro z10 hz10
            refine s_iload_n dX12_rename_103 rfl ?_
            refine s_iload_n dX12_rename_104 rfl ?_
            refine s_iload_n dX12_rename_105 rfl ?_
            refine s_iload dX12_rename_106 rfl ?_
            refine s_iconst dX12_rename_108 (by decide) ?_
            refine cv_X12_326 rfl gX12_nodeOf dX12_rename_109 hMG7 (by rw [hcf]; decide) (as := [(0, z10), (0, n), (0, k), (0, t), (0, z3), (0, 0)]) rfl (Nat.le_of_ble_eq_true rfl) ⟨z10, n, k, t, z3, 0, rfl, hMG7, (by first | assumption | omega), (by first | assumption | omega), fun r13 G12 hMG12 hpG12 => ?_⟩
            obtain ⟨G14, G15, G16, G17, G18, G19, eG14, eG15, eG16, eG17, eG18, eG19, eG12, hpG12⟩ := hpG12
            have hFG14 : Fr nX12_rename jX12_rename G G14 := Fr.setA hFG7 eG14 (by decide)
            have hFG15 : Fr nX12_rename jX12_rename G G15 := Fr.setA hFG14 eG15 (by decide)
            have hFG16 : Fr nX12_rename jX12_rename G G16 := Fr.setA hFG15 eG16 (by decide)
            have hFG17 : Fr nX12_rename jX12_rename G G17 := Fr.setA hFG16 eG17 (by decide)
            have hFG18 : Fr nX12_rename jX12_rename G G18 := Fr.setA hFG17 eG18 (by decide)
            have hFG19 : Fr nX12_rename jX12_rename G G19 := Fr.setA hFG18 eG19 (by decide)
            have hFG12 : Fr nX12_rename jX12_rename G G12 := Fr.setF hFG19 eG12 (by decide)
            show WP kX12_rename X 112 [some (2, ((1000 : Nat) : Int)), some (0, n), some (0, k), some (0, t), some (0, b2i (0 ≤ n ∧ n < (gS G 1000 18))), some (0, z1), some (0, z3)] [(0, r13)] G12
            exact s_iret hR dX12_rename_112 rfl (hQ _ G12 hMG12 (⟨hFG12, (have u1 : ∀ j : Nat, gS G12 a_nKind j = if j = (gS G 1000 18).toNat then z10 else gS G a_nKind j := ((fun j => by rw [gsnE eG12 (by decide), gsnE eG19 (by decide), gsnE eG18 (by decide), gsnE eG17 (by decide), gsnE eG16 (by decide), gsnE eG15 (by decide), g_upd eG14, show gS G7 1000 18 = gS G 1000 18 from (gsjE eG7 (by decide)), gsnE eG7 (by decide)])); have u2 : ∀ j : Nat, gS G12 a_nFirst j = if j = (gS G 1000 18).toNat then n else gS G a_nFirst j := ((fun j => by rw [gsnE eG12 (by decide), gsnE eG19 (by decide), gsnE eG18 (by decide), gsnE eG17 (by decide), gsnE eG16 (by decide), g_upd eG15, gsnE eG14 (by decide), show gS G7 1000 18 = gS G 1000 18 from (gsjE eG7 (by decide)), gsnE eG7 (by decide)])); have u3 : ∀ j : Nat, gS G12 a_nSecond j = if j = (gS G 1000 18).toNat then k else gS G a_nSecond j := ((fun j => by rw [gsnE eG12 (by decide), gsnE eG19 (by decide), gsnE eG18 (by decide), gsnE eG17 (by decide), g_upd eG16, gsnE eG15 (by decide), gsnE eG14 (by decide), show gS G7 1000 18 = gS G 1000 18 from (gsjE eG7 (by decide)), gsnE eG7 (by decide)])); have u4 : ∀ j : Nat, gS G12 a_nThird j = if j = (gS G 1000 18).toNat then t else gS G a_nThird j := ((fun j => by rw [gsnE eG12 (by decide), gsnE eG19 (by decide), gsnE eG18 (by decide), g_upd eG17, gsnE eG16 (by decide), gsnE eG15 (by decide), gsnE eG14 (by decide), show gS G7 1000 18 = gS G 1000 18 from (gsjE eG7 (by decide)), gsnE eG7 (by decide)])); have u5 : ∀ j : Nat, gS G12 a_nWeight j = if j = (gS G 1000 18).toNat then z3 else gS G a_nWeight j := ((fun j => by rw [gsnE eG12 (by decide), gsnE eG19 (by decide), g_upd eG18, gsnE eG17 (by decide), gsnE eG16 (by decide), gsnE eG15 (by decide), gsnE eG14 (by decide), show gS G7 1000 18 = gS G 1000 18 from (gsjE eG7 (by decide)), gsnE eG7 (by decide)])); have u6 : ∀ j : Nat, gS G12 a_isGenerative j = if j = (gS G 1000 18).toNat then 0 else gS G a_isGenerative j := ((fun j => by rw [gsnE eG12 (by decide), g_upd eG19, gsnE eG18 (by decide), gsnE eG17 (by decide), gsnE eG16 (by decide), gsnE eG15 (by decide), gsnE eG14 (by decide), show gS G7 1000 18 = gS G 1000 18 from (gsjE eG7 (by decide)), gsnE eG7 (by decide)])); have u0 : gS G12 1000 18 = gS G 1000 18 + 1 := ((gsaE eG12)).trans (by rw [(gsjE eG7 (by decide))]); have hf9 : Fr [a_nKind, a_nFirst, a_nSecond, a_nThird, a_nWeight, a_isGenerative] [18, 25] G G12 := hFG12; have hnd9 : ND G12 := hTH.2.2.2.1.add (by omega) u0 u1 u2 u3 u4 u5 (hf9.agr (by decide) (by decide) (by decide)) (by omega) (by omega) (by omega) (by omega) (by omega) (by omega) (by omega) (by omega) (by omega) (by omega) (by omega) (by omega); ⟨⟨((Eq.trans (gsjE eG12 (by decide)) (Eq.trans (gsnE eG19 (by decide)) (Eq.trans (gsnE eG18 (by decide)) (Eq.trans (gsnE eG17 (by decide)) (Eq.trans (gsnE eG16 (by decide)) (Eq.trans (gsnE eG15 (by decide)) (Eq.trans (gsnE eG14 (by decide)) (gsaE eG7))))))))).trans ht9, fun q => absurd hn9 q, fun _ => ⟨hpG12.trans ((gsjE eG7 (by decide))), u0, (by rw [← hww9]; exact u5)⟩⟩, hTH.tn (TN.add u1 u2 u3 u4 u6 (hf9.agr (by decide) (by decide) (by decide))) (hf9.agr (by decide) (by decide) (by decide)) (by omega) hnd9 hTH.2.2.1 (fun v q => q)⟩)⟩))
          refine s_icmp_ne (tgt := 102) dX12_rename_94 (by decide) (fun c20 => ?_) (fun c20 => ?_)
          · -- 94 to 102
            refine s_iconst dX12_rename_102 (by decide) ?_
            exact J11 5 (Or.inl ⟨c20, rfl⟩)
          · -- 94 to 97
            refine s_bipush dX12_rename_97 rfl (by decide) ?_
            refine s_goto (tgt := 103) dX12_rename_99 (by decide) ?_
            exact J11 6 (Or.inr (⟨c20, rfl⟩))
        · -- 86 to 89
          have hr0 := goes_0 hpG7 (by omega)
          have ht9 : (if (b2i (0 ≤ n ∧ n < (gS G 1000 18))) = 0 then 1 else if z1 = 0 then 2 else if z5 = 0 then 3 else 0) = rnT G n k t := by unfold rnT; (repeat' split) <;> omega
          have hn9 : ¬ rnT G n k t = 0 := by rw [← ht9]; (repeat' split) <;> omega
          refine s_iconst dX12_rename_89 (by decide) ?_
          exact s_iret hR dX12_rename_90 rfl (hQ _ G7 hMG7 (⟨hFG7, ⟨⟨((gsaE eG7)).trans ht9, fun _ => ⟨rfl, (Fr.setF Fr.rf eG7 (by decide) : Fr [] [25] G G7)⟩, fun q => absurd q hn9⟩, hTH.agr ((Fr.setF Fr.rf eG7 (by decide) : Fr [] [25] G G7).agr (by decide) (by decide) (by decide))⟩⟩))
      refine s_icmp_ge (tgt := 82) dX12_rename_68 (by decide) (fun c21 => ?_) (fun c21 => ?_)
      · -- 68 to 82
        refine s_iconst dX12_rename_82 (by decide) ?_
        exact J6 0 (Or.inl ⟨c21, rfl⟩)
      · -- 68 to 71
        refine s_iload dX12_rename_71 rfl ?_
        refine s_bipush dX12_rename_73 rfl (by decide) ?_
        refine s_icmp_gt (tgt := 82) dX12_rename_75 (by decide) (fun c22 => ?_) (fun c22 => ?_)
        · -- 75 to 82
          refine s_iconst dX12_rename_82 (by decide) ?_
          exact J6 0 (Or.inr (Or.inl ⟨c21, c22, rfl⟩))
        · -- 75 to 78
          refine s_iconst dX12_rename_78 (by decide) ?_
          refine s_goto (tgt := 83) dX12_rename_79 (by decide) ?_
          exact J6 1 (Or.inr (Or.inr (⟨c21, c22, rfl⟩)))
    refine s_if_eqB (tgt := 54) dX12_rename_40 (by decide) (fun c23 => ?_) (fun c23 => ?_)
    · -- 40 to 54
      refine s_iconst dX12_rename_54 (by decide) ?_
      exact J4 1 (Or.inl ⟨c23, rfl⟩)
    · -- 40 to 43
      have hwn := (hnd.w (n := n) (by omega) (by omega)).2.1
      refine s_iconst dX12_rename_43 (by decide) ?_
      refine s_aload_n dX12_rename_44 rfl (Int.natCast_nonneg _) ?_
      refine gf_nWeight rfl dX12_rename_45 hM ?_
      refine s_iload_n dX12_rename_48 rfl ?_
      refine s_iald dX12_rename_49 (mg_a_nWeight hM) (by omega) (by omega) rfl ?_
      refine s_iadd dX12_rename_50 (by omega) ?_
      refine s_goto (tgt := 55) dX12_rename_51 (by decide) ?_
      exact J4 _ (Or.inr (⟨c23, rfl⟩))
  refine s_if_eqB (tgt := 35) dX12_rename_11 (by decide) (fun c24 => ?_) (fun c24 => ?_)
  · -- 11 to 35
    refine s_iconst dX12_rename_35 (by decide) ?_
    exact J2 0 (Or.inl ⟨c24, rfl⟩)
  · -- 11 to 14
    refine s_iload_n dX12_rename_14 rfl ?_
    refine s_iconst dX12_rename_15 (by decide) ?_
    refine s_icmp_eq (tgt := 26) dX12_rename_16 (by decide) (fun c25 => ?_) (fun c25 => ?_)
    · -- 16 to 26
      refine s_iload_n dX12_rename_26 rfl ?_
      refine s_iload_n dX12_rename_27 rfl ?_
      refine s_icmp_eq (tgt := 35) dX12_rename_28 (by decide) (fun c26 => ?_) (fun c26 => ?_)
      · -- 28 to 35
        refine s_iconst dX12_rename_35 (by decide) ?_
        exact J2 0 (Or.inr (Or.inl ⟨c24, c25, c26, rfl⟩))
      · -- 28 to 31
        refine s_iconst dX12_rename_31 (by decide) ?_
        refine s_goto (tgt := 36) dX12_rename_32 (by decide) ?_
        exact J2 1 (Or.inr (Or.inr (Or.inl ⟨c24, c25, c26, rfl⟩)))
    · -- 16 to 19
      refine s_iload_n dX12_rename_19 rfl ?_
      refine cs_X12_302 rfl gX12_isValue dX12_rename_20 (by rw [hcf]; decide) (as := [(0, t)]) rfl (Nat.le_of_ble_eq_true rfl) ⟨t, rfl, ?_⟩
      show WP kX12_rename X 23 [some (2, ((1000 : Nat) : Int)), some (0, n), some (0, k), some (0, t), some (0, b2i (0 ≤ n ∧ n < (gS G 1000 18))), none, none] [(0, b2i (0 ≤ t ∧ t ≤ 9))] G
      refine s_if_eqB (tgt := 35) dX12_rename_23 (by decide) (fun c27 => ?_) (fun c27 => ?_)
      · -- 23 to 35
        refine s_iconst dX12_rename_35 (by decide) ?_
        exact J2 0 (Or.inr (Or.inr (Or.inr (Or.inl ⟨c24, c25, c27, rfl⟩))))
      · -- 23 to 26
        refine s_iload_n dX12_rename_26 rfl ?_
        refine s_iload_n dX12_rename_27 rfl ?_
        refine s_icmp_eq (tgt := 35) dX12_rename_28 (by decide) (fun c28 => ?_) (fun c28 => ?_)
        · -- 28 to 35
          refine s_iconst dX12_rename_35 (by decide) ?_
          exact J2 0 (Or.inr (Or.inr (Or.inr (Or.inr (Or.inl ⟨c24, c25, c27, c28, rfl⟩)))))
        · -- 28 to 31
          refine s_iconst dX12_rename_31 (by decide) ?_
          refine s_goto (tgt := 36) dX12_rename_32 (by decide) ?_
          exact J2 1 (Or.inr (Or.inr (Or.inr (Or.inr (Or.inr (⟨c24, c25, c27, c28, rfl⟩))))))
