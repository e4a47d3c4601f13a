abbrev nX12_unitNode : List Nat := [a_nKind, a_nFirst, a_nSecond, a_nThird, a_nWeight, a_isGenerative]
abbrev jX12_unitNode : List Nat := [18, 25]
def TX12_unitNode : TR := fun as G Qr => ∃ (u v : Int) (Hs : List (Int → Int)), as = [(2, ((1000 : Nat) : Int)), (0, u), (0, v)] ∧ MG G ∧ (TH G Hs) ∧ (UV G) ∧ ∀ (r : Int) (G' : LG), MG G' → (Fr nX12_unitNode jX12_unitNode G G' ∧ (NDP G (unT G u v) (1) r G' ∧ TH G' Hs)) → Qr (.inl (some (0, r))) G'
set_option maxHeartbeats 4000000 in
set_option maxRecDepth 100000 in
theorem gX12_unitNode : Good kX12_unitNode yX12_unitNode 2 TX12_unitNode := by
  refine good_of (by decide) rfl rfl (fun as G Qr h => ?_) (fun X as G Qr hcf hR hT oa => ?_)
  · obtain ⟨u, v, Hs, rfl, -⟩ := h; exact Nat.le_of_ble_eq_true rfl
  obtain ⟨u, v, Hs, rfl, hM, hTH, hUV, hQ⟩ := hT
  show WP kX12_unitNode X 0 [some (2, ((1000 : Nat) : Int)), some (0, u), some (0, v), none] [] G
  have hr_u : inR u := okv_R (oa _ (by simp))
  have hr_v : inR v := okv_R (oa _ (by simp))
  have hnd := hTH.2.2.2.1
  have hnn := hTH.2.2.2.1.1
  have huu := hUV.1
  refine s_aload_n dX12_unitNode_0 rfl (Int.natCast_nonneg _) ?_
  refine s_iload_n dX12_unitNode_1 rfl ?_
  refine cv_X12_320 rfl gX12_isUnit dX12_unitNode_2 hM (by rw [hcf]; decide) (as := [(0, u)]) rfl (Nat.le_of_ble_eq_true rfl) ⟨u, rfl, hM, (by first | assumption | omega), ?_⟩
  show WP kX12_unitNode X 5 [some (2, ((1000 : Nat) : Int)), some (0, u), some (0, v), none] [(0, b2i (0 ≤ u ∧ u < (gS G 1000 12)))] G
  have J2 : ∀ z1 : Int, ((¬ (0 ≤ u ∧ u < (gS G 1000 12))) ∧ z1 = 0) ∨ ((0 ≤ u ∧ u < (gS G 1000 12)) ∧ (v = ((-1))) ∧ z1 = 1) ∨ ((0 ≤ u ∧ u < (gS G 1000 12)) ∧ (¬ v = ((-1))) ∧ (¬ (0 ≤ v ∧ v ≤ ((gS G a_versions ((u).toNat)) - 1))) ∧ z1 = 0) ∨ ((0 ≤ u ∧ u < (gS G 1000 12)) ∧ (¬ v = ((-1))) ∧ (0 ≤ v ∧ v ≤ ((gS G a_versions ((u).toNat)) - 1)) ∧ z1 = 1) → WP kX12_unitNode X 34 [some (2, ((1000 : Nat) : Int)), some (0, u), some (0, v), none] [(0, z1)] G := by
    intro z1 hz1
    refine s_istore_n dX12_unitNode_34 (by decide) (lv' := [some (2, ((1000 : Nat) : Int)), some (0, u), some (0, v), some (0, z1)]) rfl ?_
    refine s_aload_n dX12_unitNode_35 rfl (Int.natCast_nonneg _) ?_
    refine s_iload_n dX12_unitNode_36 rfl ?_
    refine s_aload_n dX12_unitNode_37 rfl (Int.natCast_nonneg _) ?_
    refine gf_nodes rfl dX12_unitNode_38 hM rfl ?_
    refine s_bipush dX12_unitNode_41 rfl (by decide) ?_
    have J4 : ∀ z3 : Int, ((40 ≤ (gS G 1000 18)) ∧ z3 = 0) ∨ ((¬ 40 ≤ (gS G 1000 18)) ∧ z3 = 1) → WP kX12_unitNode X 51 [some (2, ((1000 : Nat) : Int)), some (0, u), some (0, v), some (0, z1)] [(0, z3), (0, z1), (2, ((1000 : Nat) : Int))] G := by
      intro z3 hz3
      refine s_iconst dX12_unitNode_51 (by decide) ?_
      refine cv_X12_298 rfl gX12_goes dX12_unitNode_52 hM (by rw [hcf]; decide) (as := [(0, z1), (0, z3), (0, 1)]) rfl (Nat.le_of_ble_eq_true rfl) ⟨z1, z3, 1, rfl, hM, fun r6 G5 hMG5 hpG5 => ?_⟩
      obtain ⟨eG5, hpG5⟩ := hpG5
      have hFG5 : Fr nX12_unitNode jX12_unitNode G G5 := Fr.setF Fr.rf eG5 (by decide)
      show WP kX12_unitNode X 55 [some (2, ((1000 : Nat) : Int)), some (0, u), some (0, v), some (0, z1)] [(0, r6)] G5
      refine s_if_eq (tgt := 71) dX12_unitNode_55 (by decide) (fun c7 => ?_) (fun c7 => ?_)
      · -- 55 to 71
        have hr0 := goes_0 hpG5 (by omega)
        have ht9 : (if z1 = 0 then 1 else if z3 = 0 then 2 else if 1 = 0 then 3 else 0) = unT G u v := by unfold unT; (repeat' split) <;> omega
        have hn9 : ¬ unT G u v = 0 := by rw [← ht9]; (repeat' split) <;> omega
        refine s_iconst dX12_unitNode_71 (by decide) ?_
        exact s_iret hR dX12_unitNode_72 rfl (hQ _ G5 hMG5 (⟨hFG5, ⟨⟨((gsaE eG5)).trans ht9, fun _ => ⟨rfl, (Fr.setF Fr.rf eG5 (by decide) : Fr [] [25] G G5)⟩, fun q => absurd q hn9⟩, hTH.agr ((Fr.setF Fr.rf eG5 (by decide) : Fr [] [25] G G5).agr (by decide) (by decide) (by decide))⟩⟩))
      · -- 55 to 58
        have hg9 := goes_r hpG5 (by assumption)
        have ht9 : (if z1 = 0 then 1 else if z3 = 0 then 2 else if 1 = 0 then 3 else 0) = unT G u v := by unfold unT; (repeat' split) <;> omega
        have hn9 : unT G u v = 0 := by unfold unT; (repeat' split) <;> omega
        have hie9 : (gS G5 1000 18) = (gS G 1000 18) := (gsjE eG5 (by decide))
        refine s_aload_n dX12_unitNode_58 rfl (Int.natCast_nonneg _) ?_
        refine s_iconst dX12_unitNode_59 (by decide) ?_
        refine s_iload_n dX12_unitNode_60 rfl ?_
        refine s_iload_n dX12_unitNode_61 rfl ?_
        refine s_iconst dX12_unitNode_62 (by decide) ?_
        refine s_iconst dX12_unitNode_63 (by decide) ?_
        refine s_iconst dX12_unitNode_64 (by decide) ?_
        refine cv_X12_326 rfl gX12_nodeOf dX12_unitNode_65 hMG5 (by rw [hcf]; decide) (as := [(0, 0), (0, u), (0, v), (0, 0), (0, 1), (0, 0)]) rfl (Nat.le_of_ble_eq_true rfl) ⟨0, u, v, 0, 1, 0, rfl, hMG5, (by first | assumption | omega), (by first | assumption | omega), fun r9 G8 hMG8 hpG8 => ?_⟩
        obtain ⟨G10, G11, G12, G13, G14, G15, eG10, eG11, eG12, eG13, eG14, eG15, eG8, hpG8⟩ := hpG8
        have hFG10 : Fr nX12_unitNode jX12_unitNode G G10 := Fr.setA hFG5 eG10 (by decide)
        have hFG11 : Fr nX12_unitNode jX12_unitNode G G11 := Fr.setA hFG10 eG11 (by decide)
        have hFG12 : Fr nX12_unitNode jX12_unitNode G G12 := Fr.setA hFG11 eG12 (by decide)
        have hFG13 : Fr nX12_unitNode jX12_unitNode G G13 := Fr.setA hFG12 eG13 (by decide)
        have hFG14 : Fr nX12_unitNode jX12_unitNode G G14 := Fr.setA hFG13 eG14 (by decide)
        have hFG15 : Fr nX12_unitNode jX12_unitNode G G15 := Fr.setA hFG14 eG15 (by decide)
        have hFG8 : Fr nX12_unitNode jX12_unitNode G G8 := Fr.setF hFG15 eG8 (by decide)
        show WP kX12_unitNode X 68 [some (2, ((1000 : Nat) : Int)), some (0, u), some (0, v), some (0, z1)] [(0, r9)] G8
        refine s_goto (tgt := 72) dX12_unitNode_68 (by decide) ?_
        exact s_iret hR dX12_unitNode_72 rfl (hQ _ G8 hMG8 (⟨hFG8, (have u1 : ∀ j : Nat, gS G8 a_nKind j = if j = (gS G 1000 18).toNat then 0 else gS G a_nKind j := ((fun j => by rw [gsnE eG8 (by decide), gsnE eG15 (by decide), gsnE eG14 (by decide), gsnE eG13 (by decide), gsnE eG12 (by decide), gsnE eG11 (by decide), g_upd eG10, show gS G5 1000 18 = gS G 1000 18 from (gsjE eG5 (by decide)), gsnE eG5 (by decide)])); have u2 : ∀ j : Nat, gS G8 a_nFirst j = if j = (gS G 1000 18).toNat then u else gS G a_nFirst j := ((fun j => by rw [gsnE eG8 (by decide), gsnE eG15 (by decide), gsnE eG14 (by decide), gsnE eG13 (by decide), gsnE eG12 (by decide), g_upd eG11, gsnE eG10 (by decide), show gS G5 1000 18 = gS G 1000 18 from (gsjE eG5 (by decide)), gsnE eG5 (by decide)])); have u3 : ∀ j : Nat, gS G8 a_nSecond j = if j = (gS G 1000 18).toNat then v else gS G a_nSecond j := ((fun j => by rw [gsnE eG8 (by decide), gsnE eG15 (by decide), gsnE eG14 (by decide), gsnE eG13 (by decide), g_upd eG12, gsnE eG11 (by decide), gsnE eG10 (by decide), show gS G5 1000 18 = gS G 1000 18 from (gsjE eG5 (by decide)), gsnE eG5 (by decide)])); have u4 : ∀ j : Nat, gS G8 a_nThird j = if j = (gS G 1000 18).toNat then 0 else gS G a_nThird j := ((fun j => by rw [gsnE eG8 (by decide), gsnE eG15 (by decide), gsnE eG14 (by decide), g_upd eG13, gsnE eG12 (by decide), gsnE eG11 (by decide), gsnE eG10 (by decide), show gS G5 1000 18 = gS G 1000 18 from (gsjE eG5 (by decide)), gsnE eG5 (by decide)])); have u5 : ∀ j : Nat, gS G8 a_nWeight j = if j = (gS G 1000 18).toNat then 1 else gS G a_nWeight j := ((fun j => by rw [gsnE eG8 (by decide), gsnE eG15 (by decide), g_upd eG14, gsnE eG13 (by decide), gsnE eG12 (by decide), gsnE eG11 (by decide), gsnE eG10 (by decide), show gS G5 1000 18 = gS G 1000 18 from (gsjE eG5 (by decide)), gsnE eG5 (by decide)])); have u6 : ∀ j : Nat, gS G8 a_isGenerative j = if j = (gS G 1000 18).toNat then 0 else gS G a_isGenerative j := ((fun j => by rw [gsnE eG8 (by decide), g_upd eG15, gsnE eG14 (by decide), gsnE eG13 (by decide), gsnE eG12 (by decide), gsnE eG11 (by decide), gsnE eG10 (by decide), show gS G5 1000 18 = gS G 1000 18 from (gsjE eG5 (by decide)), gsnE eG5 (by decide)])); have u0 : gS G8 1000 18 = gS G 1000 18 + 1 := ((gsaE eG8)).trans (by rw [(gsjE eG5 (by decide))]); have hf9 : Fr [a_nKind, a_nFirst, a_nSecond, a_nThird, a_nWeight, a_isGenerative] [18, 25] G G8 := hFG8; have hnd9 : ND G8 := hTH.2.2.2.1.add (by omega) u0 u1 u2 u3 u4 u5 (hf9.agr (by decide) (by decide) (by decide)) (by omega) (by omega) (by omega) (by omega) (by omega) (by omega) (by omega) (by omega) (by omega) (by omega) (by omega) (by omega); ⟨⟨((Eq.trans (gsjE eG8 (by decide)) (Eq.trans (gsnE eG15 (by decide)) (Eq.trans (gsnE eG14 (by decide)) (Eq.trans (gsnE eG13 (by decide)) (Eq.trans (gsnE eG12 (by decide)) (Eq.trans (gsnE eG11 (by decide)) (Eq.trans (gsnE eG10 (by decide)) (gsaE eG5))))))))).trans ht9, fun q => absurd hn9 q, fun _ => ⟨hpG8.trans ((gsjE eG5 (by decide))), u0, u5⟩⟩, hTH.tn (TN.add u1 u2 u3 u4 u6 (hf9.agr (by decide) (by decide) (by decide))) (hf9.agr (by decide) (by decide) (by decide)) (by omega) hnd9 hTH.2.2.1 (fun v q => q)⟩)⟩))
    refine s_icmp_ge (tgt := 50) dX12_unitNode_43 (by decide) (fun c16 => ?_) (fun c16 => ?_)
    · -- 43 to 50
      refine s_iconst dX12_unitNode_50 (by decide) ?_
      exact J4 0 (Or.inl ⟨c16, rfl⟩)
    · -- 43 to 46
      refine s_iconst dX12_unitNode_46 (by decide) ?_
      refine s_goto (tgt := 51) dX12_unitNode_47 (by decide) ?_
      exact J4 1 (Or.inr (⟨c16, rfl⟩))
  refine s_if_eqB (tgt := 33) dX12_unitNode_5 (by decide) (fun c17 => ?_) (fun c17 => ?_)
  · -- 5 to 33
    refine s_iconst dX12_unitNode_33 (by decide) ?_
    exact J2 0 (Or.inl ⟨c17, rfl⟩)
  · -- 5 to 8
    refine s_iload_n dX12_unitNode_8 rfl ?_
    refine s_iconst dX12_unitNode_9 (by decide) ?_
    refine s_icmp_eq (tgt := 29) dX12_unitNode_10 (by decide) (fun c18 => ?_) (fun c18 => ?_)
    · -- 10 to 29
      refine s_iconst dX12_unitNode_29 (by decide) ?_
      refine s_goto (tgt := 34) dX12_unitNode_30 (by decide) ?_
      exact J2 1 (Or.inr (Or.inl ⟨c17, c18, rfl⟩))
    · -- 10 to 13
      have hv8 := hUV.2.1 u (by omega) (by omega)
      refine s_iload_n dX12_unitNode_13 rfl ?_
      refine s_iconst dX12_unitNode_14 (by decide) ?_
      refine s_aload_n dX12_unitNode_15 rfl (Int.natCast_nonneg _) ?_
      refine gf_versions rfl dX12_unitNode_16 hM ?_
      refine s_iload_n dX12_unitNode_19 rfl ?_
      refine s_iald dX12_unitNode_20 (mg_a_versions hM) (by omega) (by omega) rfl ?_
      refine s_iconst dX12_unitNode_21 (by decide) ?_
      refine s_isub dX12_unitNode_22 (by omega) ?_
      refine cs_X12_278 rfl gX12_in dX12_unitNode_23 (by rw [hcf]; decide) (as := [(0, v), (0, 0), (0, (gS G a_versions ((u).toNat)) - 1)]) rfl (Nat.le_of_ble_eq_true rfl) ⟨v, 0, (gS G a_versions ((u).toNat)) - 1, rfl, ?_⟩
      show WP kX12_unitNode X 26 [some (2, ((1000 : Nat) : Int)), some (0, u), some (0, v), none] [(0, b2i (0 ≤ v ∧ v ≤ ((gS G a_versions ((u).toNat)) - 1)))] G
      refine s_if_eqB (tgt := 33) dX12_unitNode_26 (by decide) (fun c19 => ?_) (fun c19 => ?_)
      · -- 26 to 33
        refine s_iconst dX12_unitNode_33 (by decide) ?_
        exact J2 0 (Or.inr (Or.inr (Or.inl ⟨c17, c18, c19, rfl⟩)))
      · -- 26 to 29
        refine s_iconst dX12_unitNode_29 (by decide) ?_
        refine s_goto (tgt := 34) dX12_unitNode_30 (by decide) ?_
        exact J2 1 (Or.inr (Or.inr (Or.inr (⟨c17, c18, c19, rfl⟩))))
