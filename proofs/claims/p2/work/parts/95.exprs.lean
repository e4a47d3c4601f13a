abbrev nX12_leaf : List Nat := [a_eKind, a_eFirst, a_eSecond, a_eThird, a_eWeight]
abbrev jX12_leaf : List Nat := [6, 25]
def TX12_leaf : TR := fun as G Qr => ∃ (i n : Int), as = [(2, ((1000 : Nat) : Int)), (0, i), (0, n)] ∧ MG G ∧ (EX G) ∧ ∀ (r : Int) (G' : LG), MG G' → (Fr nX12_leaf jX12_leaf G G' ∧ (EXP G (leT G i n) 1 r G' ∧ EX G')) → Qr (.inl (some (0, r))) G'
set_option maxHeartbeats 4000000 in
set_option maxRecDepth 100000 in
theorem gX12_leaf : Good kX12_leaf yX12_leaf 2 TX12_leaf := by
  refine good_of (by decide) rfl rfl (fun as G Qr h => ?_) (fun X as G Qr hcf hR hT oa => ?_)
  · obtain ⟨i, n, rfl, -⟩ := h; exact Nat.le_of_ble_eq_true rfl
  obtain ⟨i, n, rfl, hM, hEX, hQ⟩ := hT
  show WP kX12_leaf X 0 [some (2, ((1000 : Nat) : Int)), some (0, i), some (0, n)] [] G
  have hr_i : inR i := okv_R (oa _ (by simp))
  have hr_n : inR n := okv_R (oa _ (by simp))
  have hexx := hEX.1
  refine s_aload_n dX12_leaf_0 rfl (Int.natCast_nonneg _) ?_
  refine s_iload_n dX12_leaf_1 rfl ?_
  have J2 : ∀ z1 : Int, ((i = 0) ∧ z1 = 1) ∨ ((¬ i = 0) ∧ (¬ (0 ≤ n ∧ n ≤ 9)) ∧ z1 = 0) ∨ ((¬ i = 0) ∧ (0 ≤ n ∧ n ≤ 9) ∧ z1 = 1) → WP kX12_leaf X 17 [some (2, ((1000 : Nat) : Int)), some (0, i), some (0, n)] [(0, z1), (2, ((1000 : Nat) : Int))] G := by
    intro z1 hz1
    refine s_aload_n dX12_leaf_17 rfl (Int.natCast_nonneg _) ?_
    refine gf_expressions rfl dX12_leaf_18 hM rfl ?_
    refine s_bipush dX12_leaf_21 rfl (by decide) ?_
    have J4 : ∀ z3 : Int, ((120 ≤ (gS G 1000 6)) ∧ z3 = 0) ∨ ((¬ 120 ≤ (gS G 1000 6)) ∧ z3 = 1) → WP kX12_leaf X 31 [some (2, ((1000 : Nat) : Int)), some (0, i), some (0, n)] [(0, z3), (0, z1), (2, ((1000 : Nat) : Int))] G := by
      intro z3 hz3
      refine s_iconst dX12_leaf_31 (by decide) ?_
      refine cv_X12_298 rfl gX12_goes dX12_leaf_32 hM (by rw [hcf]; decide) (as := [(0, z1), (0, z3), (0, 1)]) rfl (Nat.le_of_ble_eq_true rfl) ⟨z1, z3, 1, rfl, hM, fun r6 G5 hMG5 hpG5 => ?_⟩
      obtain ⟨eG5, hpG5⟩ := hpG5
      have hFG5 : Fr nX12_leaf jX12_leaf G G5 := Fr.setF Fr.rf eG5 (by decide)
      show WP kX12_leaf X 35 [some (2, ((1000 : Nat) : Int)), some (0, i), some (0, n)] [(0, r6)] G5
      refine s_if_eq (tgt := 58) dX12_leaf_35 (by decide) (fun c7 => ?_) (fun c7 => ?_)
      · -- 35 to 58
        have hr0 := goes_0 hpG5 (by omega)
        have ht9 : (if z1 = 0 then 1 else if z3 = 0 then 2 else if 1 = 0 then 3 else 0) = leT G i n := by unfold leT; repeat' split <;> omega
        have hn9 : ¬ leT G i n = 0 := by rw [← ht9]; repeat' split <;> omega
        refine s_iconst dX12_leaf_58 (by decide) ?_
        exact s_iret hR dX12_leaf_59 rfl (hQ _ G5 hMG5 (⟨hFG5, ⟨⟨((gsaE eG5)).trans ht9, fun _ => ⟨rfl, (Fr.setF Fr.rf eG5 (by decide) : Fr [] [25] G G5)⟩, fun q => absurd q hn9⟩, hEX.agr ((Fr.setF Fr.rf eG5 (by decide) : Fr [] [25] G G5).agr (by decide) (by decide) (by decide))⟩⟩))
      · -- 35 to 38
        have hie9 : (gS G5 1000 6) = (gS G 1000 6) := (gsjE eG5 (by decide))
        have hg9 := goes_r hpG5 (by assumption)
        have hn9 : leT G i n = 0 := by unfold leT; repeat' split <;> omega
        have hw9 : (1 : Int) = 1 := rfl
        refine s_aload_n dX12_leaf_38 rfl (Int.natCast_nonneg _) ?_
        refine s_iload_n dX12_leaf_39 rfl ?_
        have J9 : ∀ z8 : Int, ((i = 0) ∧ z8 = 0) ∨ ((¬ i = 0) ∧ z8 = 1) → WP kX12_leaf X 48 [some (2, ((1000 : Nat) : Int)), some (0, i), some (0, n)] [(0, z8), (2, ((1000 : Nat) : Int))] G5 := by
          intro z8 hz8
          refine s_iload_n dX12_leaf_48 rfl ?_
          refine s_iconst dX12_leaf_49 (by decide) ?_
          refine s_iconst dX12_leaf_50 (by decide) ?_
          refine s_iconst dX12_leaf_51 (by decide) ?_
          refine cv_X12_305 rfl gX12_made dX12_leaf_52 hMG5 (by rw [hcf]; decide) (as := [(0, z8), (0, n), (0, 0), (0, 0), (0, 1)]) rfl (Nat.le_of_ble_eq_true rfl) ⟨z8, n, 0, 0, 1, rfl, hMG5, (by first | assumption | omega), fun r11 G10 hMG10 hpG10 => ?_⟩
          obtain ⟨G12, G13, G14, G15, G16, eG12, eG13, eG14, eG15, eG16, eG10, hpG10⟩ := hpG10
          have hFG12 : Fr nX12_leaf jX12_leaf G G12 := Fr.setA hFG5 eG12 (by decide)
          have hFG13 : Fr nX12_leaf jX12_leaf G G13 := Fr.setA hFG12 eG13 (by decide)
          have hFG14 : Fr nX12_leaf jX12_leaf G G14 := Fr.setA hFG13 eG14 (by decide)
          have hFG15 : Fr nX12_leaf jX12_leaf G G15 := Fr.setA hFG14 eG15 (by decide)
          have hFG16 : Fr nX12_leaf jX12_leaf G G16 := Fr.setA hFG15 eG16 (by decide)
          have hFG10 : Fr nX12_leaf jX12_leaf G G10 := Fr.setF hFG16 eG10 (by decide)
          show WP kX12_leaf X 55 [some (2, ((1000 : Nat) : Int)), some (0, i), some (0, n)] [(0, r11)] G10
          refine s_goto (tgt := 59) dX12_leaf_55 (by decide) ?_
          exact s_iret hR dX12_leaf_59 rfl (hQ _ G10 hMG10 (⟨hFG10, ⟨⟨(by rw [hn9, (Eq.trans (gsjE eG10 (by decide)) (Eq.trans (gsnE eG16 (by decide)) (Eq.trans (gsnE eG15 (by decide)) (Eq.trans (gsnE eG14 (by decide)) (Eq.trans (gsnE eG13 (by decide)) (Eq.trans (gsnE eG12 (by decide)) (gsaE eG5))))))), if_neg hg9.1, if_neg hg9.2.1, if_neg hg9.2.2]), fun q => absurd hn9 q, fun _ => ⟨hpG10.trans ((gsjE eG5 (by decide))), ((gsaE eG10)).trans (by rw [(gsjE eG5 (by decide))]), (by rw [← hw9]; exact (fun j => by rw [gsnE eG10 (by decide), g_upd eG16, gsnE eG15 (by decide), gsnE eG14 (by decide), gsnE eG13 (by decide), gsnE eG12 (by decide), show (gS G5 1000 6) = (gS G 1000 6) from (gsjE eG5 (by decide)), gsnE eG5 (by decide)]))⟩⟩, hEX.add (by omega) (((gsaE eG10)).trans (by rw [(gsjE eG5 (by decide))])) (fun j => by rw [gsnE eG10 (by decide), gsnE eG16 (by decide), gsnE eG15 (by decide), gsnE eG14 (by decide), gsnE eG13 (by decide), g_upd eG12, show (gS G5 1000 6) = (gS G 1000 6) from (gsjE eG5 (by decide)), gsnE eG5 (by decide)]) (fun j => by rw [gsnE eG10 (by decide), gsnE eG16 (by decide), gsnE eG15 (by decide), gsnE eG14 (by decide), g_upd eG13, gsnE eG12 (by decide), show (gS G5 1000 6) = (gS G 1000 6) from (gsjE eG5 (by decide)), gsnE eG5 (by decide)]) (fun j => by rw [gsnE eG10 (by decide), gsnE eG16 (by decide), gsnE eG15 (by decide), g_upd eG14, gsnE eG13 (by decide), gsnE eG12 (by decide), show (gS G5 1000 6) = (gS G 1000 6) from (gsjE eG5 (by decide)), gsnE eG5 (by decide)]) (fun j => by rw [gsnE eG10 (by decide), gsnE eG16 (by decide), g_upd eG15, gsnE eG14 (by decide), gsnE eG13 (by decide), gsnE eG12 (by decide), show (gS G5 1000 6) = (gS G 1000 6) from (gsjE eG5 (by decide)), gsnE eG5 (by decide)]) (fun j => by rw [gsnE eG10 (by decide), g_upd eG16, gsnE eG15 (by decide), gsnE eG14 (by decide), gsnE eG13 (by decide), gsnE eG12 (by decide), show (gS G5 1000 6) = (gS G 1000 6) from (gsjE eG5 (by decide)), gsnE eG5 (by decide)]) (by omega) (by omega) (by omega) (by omega) (by omega) (by omega) (by omega) (by omega) (by omega)⟩⟩))
        refine s_if_eq (tgt := 47) dX12_leaf_40 (by decide) (fun c17 => ?_) (fun c17 => ?_)
        · -- 40 to 47
          refine s_iconst dX12_leaf_47 (by decide) ?_
          exact J9 0 (Or.inl ⟨c17, rfl⟩)
        · -- 40 to 43
          refine s_iconst dX12_leaf_43 (by decide) ?_
          refine s_goto (tgt := 48) dX12_leaf_44 (by decide) ?_
          exact J9 1 (Or.inr (⟨c17, rfl⟩))
    refine s_icmp_ge (tgt := 30) dX12_leaf_23 (by decide) (fun c18 => ?_) (fun c18 => ?_)
    · -- 23 to 30
      refine s_iconst dX12_leaf_30 (by decide) ?_
      exact J4 0 (Or.inl ⟨c18, rfl⟩)
    · -- 23 to 26
      refine s_iconst dX12_leaf_26 (by decide) ?_
      refine s_goto (tgt := 31) dX12_leaf_27 (by decide) ?_
      exact J4 1 (Or.inr (⟨c18, rfl⟩))
  refine s_if_eq (tgt := 12) dX12_leaf_2 (by decide) (fun c19 => ?_) (fun c19 => ?_)
  · -- 2 to 12
    refine s_iconst dX12_leaf_12 (by decide) ?_
    refine s_goto (tgt := 17) dX12_leaf_13 (by decide) ?_
    exact J2 1 (Or.inl ⟨c19, rfl⟩)
  · -- 2 to 5
    refine s_iload_n dX12_leaf_5 rfl ?_
    refine cs_X12_302 rfl gX12_isValue dX12_leaf_6 (by rw [hcf]; decide) (as := [(0, n)]) rfl (Nat.le_of_ble_eq_true rfl) ⟨n, rfl, ?_⟩
    show WP kX12_leaf X 9 [some (2, ((1000 : Nat) : Int)), some (0, i), some (0, n)] [(0, b2i (0 ≤ n ∧ n ≤ 9)), (2, ((1000 : Nat) : Int))] G
    refine s_if_eqB (tgt := 16) dX12_leaf_9 (by decide) (fun c20 => ?_) (fun c20 => ?_)
    · -- 9 to 16
      refine s_iconst dX12_leaf_16 (by decide) ?_
      exact J2 0 (Or.inr (Or.inl ⟨c19, c20, rfl⟩))
    · -- 9 to 12
      refine s_iconst dX12_leaf_12 (by decide) ?_
      refine s_goto (tgt := 17) dX12_leaf_13 (by decide) ?_
      exact J2 1 (Or.inr (Or.inr (⟨c19, c20, rfl⟩)))
