abbrev nX12_setValue : List Nat := [a_valueType, a_valueBy, a_valueFlags]
abbrev jX12_setValue : List Nat := [25]
def TX12_setValue : TR := fun as G Qr => ∃ (u k t e f : Int), as = [(2, ((1000 : Nat) : Int)), (0, u), (0, k), (0, t), (0, e), (0, f)] ∧ MG G ∧ (UV G) ∧ (TB G) ∧ (EX G) ∧ ∀ G' : LG, MG G' → (Fr nX12_setValue jX12_setValue G G' ∧ ((gS G' 1000 25) = svT G u k t e f ∧ UV G' ∧ (¬ svT G u k t e f = 0 → Fr [] [25] G G') ∧ (svT G u k t e f = 0 → ∀ j : Nat, gS G' a_valueType j = if j = (vAt G u k).toNat then t else gS G a_valueType j))) → Qr (.inl none) G'
set_option maxHeartbeats 4000000 in
set_option maxRecDepth 100000 in
theorem gX12_setValue : Good kX12_setValue yX12_setValue 2 TX12_setValue := by
  refine good_of (by decide) rfl rfl (fun as G Qr h => ?_) (fun X as G Qr hcf hR hT oa => ?_)
  · obtain ⟨u, k, t, e, f, rfl, -⟩ := h; exact Nat.le_of_ble_eq_true rfl
  obtain ⟨u, k, t, e, f, rfl, hM, hUV, hTB, hEX, hQ⟩ := hT
  show WP kX12_setValue X 0 [some (2, ((1000 : Nat) : Int)), some (0, u), some (0, k), some (0, t), some (0, e), some (0, f), none, none, none] [] G
  have hr_u : inR u := okv_R (oa _ (by simp))
  have hr_k : inR k := okv_R (oa _ (by simp))
  have hr_t : inR t := okv_R (oa _ (by simp))
  have hr_e : inR e := okv_R (oa _ (by simp))
  have hr_f : inR f := okv_R (oa _ (by simp))
  have huu := hUV.1
  have hty := hTB.1
  have hexx := hEX.1
  refine s_aload_n dX12_setValue_0 rfl (Int.natCast_nonneg _) ?_
  refine s_iload_n dX12_setValue_1 rfl ?_
  refine cv_X12_320 rfl gX12_isUnit dX12_setValue_2 hM (by rw [hcf]; decide) (as := [(0, u)]) rfl (Nat.le_of_ble_eq_true rfl) ⟨u, rfl, hM, (by first | assumption | omega), ?_⟩
  show WP kX12_setValue X 5 [some (2, ((1000 : Nat) : Int)), some (0, u), some (0, k), some (0, t), some (0, e), some (0, f), none, none, none] [(0, b2i (0 ≤ u ∧ u < (gS G 1000 12)))] G
  have J2 : ∀ z1 : Int, ((¬ (0 ≤ u ∧ u < (gS G 1000 12))) ∧ z1 = 0) ∨ ((0 ≤ u ∧ u < (gS G 1000 12)) ∧ (¬ (0 ≤ t ∧ t < (gS G 1000 0))) ∧ z1 = 0) ∨ ((0 ≤ u ∧ u < (gS G 1000 12)) ∧ (0 ≤ t ∧ t < (gS G 1000 0)) ∧ (e = ((-1))) ∧ z1 = 1) ∨ ((0 ≤ u ∧ u < (gS G 1000 12)) ∧ (0 ≤ t ∧ t < (gS G 1000 0)) ∧ (¬ e = ((-1))) ∧ (¬ (0 ≤ e ∧ e < (gS G 1000 6))) ∧ z1 = 0) ∨ ((0 ≤ u ∧ u < (gS G 1000 12)) ∧ (0 ≤ t ∧ t < (gS G 1000 0)) ∧ (¬ e = ((-1))) ∧ (0 ≤ e ∧ e < (gS G 1000 6)) ∧ z1 = 1) → WP kX12_setValue X 36 [some (2, ((1000 : Nat) : Int)), some (0, u), some (0, k), some (0, t), some (0, e), some (0, f), none, none, none] [(0, z1)] G := by
    intro z1 hz1
    refine s_istore dX12_setValue_36 (by decide) (lv' := [some (2, ((1000 : Nat) : Int)), some (0, u), some (0, k), some (0, t), some (0, e), some (0, f), some (0, z1), none, none]) rfl ?_
    refine s_iload_n dX12_setValue_38 rfl ?_
    refine cs_X12_302 rfl gX12_isValue dX12_setValue_39 (by rw [hcf]; decide) (as := [(0, k)]) rfl (Nat.le_of_ble_eq_true rfl) ⟨k, rfl, ?_⟩
    show WP kX12_setValue X 42 [some (2, ((1000 : Nat) : Int)), some (0, u), some (0, k), some (0, t), some (0, e), some (0, f), some (0, z1), none, none] [(0, b2i (0 ≤ k ∧ k ≤ 9))] G
    have J4 : ∀ z3 : Int, ((¬ (0 ≤ k ∧ k ≤ 9)) ∧ z3 = 0) ∨ ((0 ≤ k ∧ k ≤ 9) ∧ (¬ (0 ≤ f ∧ f ≤ 7)) ∧ z3 = 0) ∨ ((0 ≤ k ∧ k ≤ 9) ∧ (0 ≤ f ∧ f ≤ 7) ∧ (¬ e = ((-1))) ∧ z3 = 1) ∨ ((0 ≤ k ∧ k ≤ 9) ∧ (0 ≤ f ∧ f ≤ 7) ∧ (e = ((-1))) ∧ (f = 0) ∧ z3 = 1) ∨ ((0 ≤ k ∧ k ≤ 9) ∧ (0 ≤ f ∧ f ≤ 7) ∧ (e = ((-1))) ∧ (¬ f = 0) ∧ (¬ f = 4) ∧ z3 = 0) ∨ ((0 ≤ k ∧ k ≤ 9) ∧ (0 ≤ f ∧ f ≤ 7) ∧ (e = ((-1))) ∧ (¬ f = 0) ∧ (f = 4) ∧ z3 = 1) → WP kX12_setValue X 78 [some (2, ((1000 : Nat) : Int)), some (0, u), some (0, k), some (0, t), some (0, e), some (0, f), some (0, z1), none, none] [(0, z3)] G := by
      intro z3 hz3
      refine s_istore dX12_setValue_78 (by decide) (lv' := [some (2, ((1000 : Nat) : Int)), some (0, u), some (0, k), some (0, t), some (0, e), some (0, f), some (0, z1), some (0, z3), none]) rfl ?_
      refine s_aload_n dX12_setValue_80 rfl (Int.natCast_nonneg _) ?_
      refine s_iload dX12_setValue_81 rfl ?_
      refine s_iload dX12_setValue_83 rfl ?_
      refine s_iconst dX12_setValue_85 (by decide) ?_
      refine cv_X12_298 rfl gX12_goes dX12_setValue_86 hM (by rw [hcf]; decide) (as := [(0, z1), (0, z3), (0, 1)]) rfl (Nat.le_of_ble_eq_true rfl) ⟨z1, z3, 1, rfl, hM, fun r6 G5 hMG5 hpG5 => ?_⟩
      obtain ⟨eG5, hpG5⟩ := hpG5
      have hFG5 : Fr nX12_setValue jX12_setValue G G5 := Fr.setF Fr.rf eG5 (by decide)
      show WP kX12_setValue X 89 [some (2, ((1000 : Nat) : Int)), some (0, u), some (0, k), some (0, t), some (0, e), some (0, f), some (0, z1), some (0, z3), none] [(0, r6)] G5
      refine s_if_eq (tgt := 130) dX12_setValue_89 (by decide) (fun c7 => ?_) (fun c7 => ?_)
      · -- 89 to 130
        have hr0 := goes_0 hpG5 (by omega)
        have ht9 : (if z1 = 0 then 1 else if z3 = 0 then 2 else if 1 = 0 then 3 else 0) = svT G u k t e f := by unfold svT; (repeat' split) <;> omega
        have hn9 : ¬ svT G u k t e f = 0 := by rw [← ht9]; (repeat' split) <;> omega
        exact s_vret hR dX12_setValue_130 rfl (hQ G5 hMG5 (⟨hFG5, ⟨((gsaE eG5)).trans ht9, hUV.agr ((Fr.setF Fr.rf eG5 (by decide) : Fr [] [25] G G5).agr (by decide) (by decide) (by decide)), fun _ => (Fr.setF Fr.rf eG5 (by decide) : Fr [] [25] G G5), fun q => absurd q hn9⟩⟩))
      · -- 89 to 92
        have hg9 := goes_r hpG5 (by assumption)
        have hu9 : 0 ≤ u ∧ u < (gS G 1000 12) := by omega
        have hv8 := hUV.2.1 u (by omega) (by omega)
        have hv9 := hUV.2.2.1 u (by omega) (by omega)
        have hve9 : (gS G5 a_versions (u).toNat) = (gS G a_versions (u).toNat) := hFG5.atA (by decide) (by decide)
        have ht9 : (if z1 = 0 then 1 else if z3 = 0 then 2 else if 1 = 0 then 3 else 0) = svT G u k t e f := by unfold svT; (repeat' split) <;> omega
        have hn9 : svT G u k t e f = 0 := by unfold svT; (repeat' split) <;> omega
        refine s_bipush dX12_setValue_92 rfl (by decide) ?_
        refine s_aload_n dX12_setValue_94 rfl (Int.natCast_nonneg _) ?_
        refine s_iload_n dX12_setValue_95 rfl ?_
        refine cv_X12_323 rfl gX12_latest dX12_setValue_96 hMG5 (by rw [hcf]; decide) (as := [(0, u)]) rfl (Nat.le_of_ble_eq_true rfl) ⟨u, rfl, hMG5, (by first | assumption | omega), (by first | assumption | omega), ?_⟩
        show WP kX12_setValue X 99 [some (2, ((1000 : Nat) : Int)), some (0, u), some (0, k), some (0, t), some (0, e), some (0, f), some (0, z1), some (0, z3), none] [(0, 5 * u + ((gS G5 a_versions (u).toNat) - 1)), (0, 10)] G5
        refine s_imul dX12_setValue_99 (by omega) ?_
        refine s_iload_n dX12_setValue_100 rfl ?_
        refine s_iadd dX12_setValue_101 (by omega) ?_
        refine s_istore dX12_setValue_102 (by decide) (lv' := [some (2, ((1000 : Nat) : Int)), some (0, u), some (0, k), some (0, t), some (0, e), some (0, f), some (0, z1), some (0, z3), some (0, (10 * (5 * u + ((gS G5 a_versions (u).toNat) - 1))) + k)]) rfl ?_
        have hi9 : (10 * (5 * u + ((gS G5 a_versions (u).toNat) - 1))) + k = vAt G u k := by unfold vAt; rw [hve9]
        have hir9 : 0 ≤ (10 * (5 * u + ((gS G5 a_versions (u).toNat) - 1))) + k ∧ (10 * (5 * u + ((gS G5 a_versions (u).toNat) - 1))) + k < 400 := by omega
        generalize hI9 : (10 * (5 * u + ((gS G5 a_versions (u).toNat) - 1))) + k = I9 at *
        refine s_aload_n dX12_setValue_104 rfl (Int.natCast_nonneg _) ?_
        refine gf_valueType rfl dX12_setValue_105 hMG5 ?_
        refine s_iload dX12_setValue_108 rfl ?_
        refine s_iload_n dX12_setValue_110 rfl ?_
        refine r_iast dX12_setValue_111 hMG5 (mg_a_valueType hMG5) (by decide) (by omega) (by omega) (fun G8 eG8 hMG8 => ?_)
        have hFG8 : Fr nX12_setValue jX12_setValue G G8 := Fr.setA hFG5 eG8 (by decide)
        show WP kX12_setValue X 112 [some (2, ((1000 : Nat) : Int)), some (0, u), some (0, k), some (0, t), some (0, e), some (0, f), some (0, z1), some (0, z3), some (0, I9)] [] G8
        refine s_aload_n dX12_setValue_112 rfl (Int.natCast_nonneg _) ?_
        refine gf_valueBy rfl dX12_setValue_113 hMG8 ?_
        refine s_iload dX12_setValue_116 rfl ?_
        refine s_iload dX12_setValue_118 rfl ?_
        refine r_iast dX12_setValue_120 hMG8 (mg_a_valueBy hMG8) (by decide) (by omega) (by omega) (fun G9 eG9 hMG9 => ?_)
        have hFG9 : Fr nX12_setValue jX12_setValue G G9 := Fr.setA hFG8 eG9 (by decide)
        show WP kX12_setValue X 121 [some (2, ((1000 : Nat) : Int)), some (0, u), some (0, k), some (0, t), some (0, e), some (0, f), some (0, z1), some (0, z3), some (0, I9)] [] G9
        refine s_aload_n dX12_setValue_121 rfl (Int.natCast_nonneg _) ?_
        refine gf_valueFlags rfl dX12_setValue_122 hMG9 ?_
        refine s_iload dX12_setValue_125 rfl ?_
        refine s_iload dX12_setValue_127 rfl ?_
        refine r_iast dX12_setValue_129 hMG9 (mg_a_valueFlags hMG9) (by decide) (by omega) (by omega) (fun G10 eG10 hMG10 => ?_)
        have hFG10 : Fr nX12_setValue jX12_setValue G G10 := Fr.setA hFG9 eG10 (by decide)
        show WP kX12_setValue X 130 [some (2, ((1000 : Nat) : Int)), some (0, u), some (0, k), some (0, t), some (0, e), some (0, f), some (0, z1), some (0, z3), some (0, I9)] [] G10
        exact s_vret hR dX12_setValue_130 rfl (hQ G10 hMG10 (⟨hFG10, ⟨((Eq.trans (gsnE eG10 (by decide)) (Eq.trans (gsnE eG9 (by decide)) (Eq.trans (gsnE eG8 (by decide)) (gsaE eG5))))).trans ht9, hUV.sv (i := (I9).toNat) (t := t) (e := e) (f := f) (by omega) (fun _ => by omega) (fun j => by rw [gsnE eG10 (by decide), gsnE eG9 (by decide), g_upd eG8, gsnE eG5 (by decide)]) (fun j _ => ((fun j => by rw [gsnE eG10 (by decide), g_upd eG9, gsnE eG8 (by decide), gsnE eG5 (by decide)])) j) (fun j _ => ((fun j => by rw [g_upd eG10, gsnE eG9 (by decide), gsnE eG8 (by decide), gsnE eG5 (by decide)])) j) (fun q => by omega) ((hFG10 : Fr [a_valueType, a_valueBy, a_valueFlags] [25] G G10).agr (by decide) (by decide) (by decide)), fun q => absurd hn9 q, fun _ => by rw [← hi9]; exact (fun j => by rw [gsnE eG10 (by decide), gsnE eG9 (by decide), g_upd eG8, gsnE eG5 (by decide)])⟩⟩))
    refine s_if_eqB (tgt := 77) dX12_setValue_42 (by decide) (fun c11 => ?_) (fun c11 => ?_)
    · -- 42 to 77
      refine s_iconst dX12_setValue_77 (by decide) ?_
      exact J4 0 (Or.inl ⟨c11, rfl⟩)
    · -- 42 to 45
      refine s_iload dX12_setValue_45 rfl ?_
      refine s_iconst dX12_setValue_47 (by decide) ?_
      refine s_bipush dX12_setValue_48 rfl (by decide) ?_
      refine cs_X12_278 rfl gX12_in dX12_setValue_50 (by rw [hcf]; decide) (as := [(0, f), (0, 0), (0, 7)]) rfl (Nat.le_of_ble_eq_true rfl) ⟨f, 0, 7, rfl, ?_⟩
      show WP kX12_setValue X 53 [some (2, ((1000 : Nat) : Int)), some (0, u), some (0, k), some (0, t), some (0, e), some (0, f), some (0, z1), none, none] [(0, b2i (0 ≤ f ∧ f ≤ 7))] G
      refine s_if_eqB (tgt := 77) dX12_setValue_53 (by decide) (fun c12 => ?_) (fun c12 => ?_)
      · -- 53 to 77
        refine s_iconst dX12_setValue_77 (by decide) ?_
        exact J4 0 (Or.inr (Or.inl ⟨c11, c12, rfl⟩))
      · -- 53 to 56
        refine s_iload dX12_setValue_56 rfl ?_
        refine s_iconst dX12_setValue_58 (by decide) ?_
        refine s_icmp_ne (tgt := 73) dX12_setValue_59 (by decide) (fun c13 => ?_) (fun c13 => ?_)
        · -- 59 to 73
          refine s_iconst dX12_setValue_73 (by decide) ?_
          refine s_goto (tgt := 78) dX12_setValue_74 (by decide) ?_
          exact J4 1 (Or.inr (Or.inr (Or.inl ⟨c11, c12, c13, rfl⟩)))
        · -- 59 to 62
          refine s_iload dX12_setValue_62 rfl ?_
          refine s_if_eq (tgt := 73) dX12_setValue_64 (by decide) (fun c14 => ?_) (fun c14 => ?_)
          · -- 64 to 73
            refine s_iconst dX12_setValue_73 (by decide) ?_
            refine s_goto (tgt := 78) dX12_setValue_74 (by decide) ?_
            exact J4 1 (Or.inr (Or.inr (Or.inr (Or.inl ⟨c11, c12, c13, c14, rfl⟩))))
          · -- 64 to 67
            refine s_iload dX12_setValue_67 rfl ?_
            refine s_iconst dX12_setValue_69 (by decide) ?_
            refine s_icmp_ne (tgt := 77) dX12_setValue_70 (by decide) (fun c15 => ?_) (fun c15 => ?_)
            · -- 70 to 77
              refine s_iconst dX12_setValue_77 (by decide) ?_
              exact J4 0 (Or.inr (Or.inr (Or.inr (Or.inr (Or.inl ⟨c11, c12, c13, c14, c15, rfl⟩)))))
            · -- 70 to 73
              refine s_iconst dX12_setValue_73 (by decide) ?_
              refine s_goto (tgt := 78) dX12_setValue_74 (by decide) ?_
              exact J4 1 (Or.inr (Or.inr (Or.inr (Or.inr (Or.inr (⟨c11, c12, c13, c14, c15, rfl⟩))))))
  refine s_if_eqB (tgt := 35) dX12_setValue_5 (by decide) (fun c16 => ?_) (fun c16 => ?_)
  · -- 5 to 35
    refine s_iconst dX12_setValue_35 (by decide) ?_
    exact J2 0 (Or.inl ⟨c16, rfl⟩)
  · -- 5 to 8
    refine s_aload_n dX12_setValue_8 rfl (Int.natCast_nonneg _) ?_
    refine s_iload_n dX12_setValue_9 rfl ?_
    refine cv_X12_295 rfl gX12_isType dX12_setValue_10 hM (by rw [hcf]; decide) (as := [(0, t)]) rfl (Nat.le_of_ble_eq_true rfl) ⟨t, rfl, hM, (by first | assumption | omega), ?_⟩
    show WP kX12_setValue X 13 [some (2, ((1000 : Nat) : Int)), some (0, u), some (0, k), some (0, t), some (0, e), some (0, f), none, none, none] [(0, b2i (0 ≤ t ∧ t < (gS G 1000 0)))] G
    refine s_if_eqB (tgt := 35) dX12_setValue_13 (by decide) (fun c17 => ?_) (fun c17 => ?_)
    · -- 13 to 35
      refine s_iconst dX12_setValue_35 (by decide) ?_
      exact J2 0 (Or.inr (Or.inl ⟨c16, c17, rfl⟩))
    · -- 13 to 16
      refine s_iload dX12_setValue_16 rfl ?_
      refine s_iconst dX12_setValue_18 (by decide) ?_
      refine s_icmp_eq (tgt := 31) dX12_setValue_19 (by decide) (fun c18 => ?_) (fun c18 => ?_)
      · -- 19 to 31
        refine s_iconst dX12_setValue_31 (by decide) ?_
        refine s_goto (tgt := 36) dX12_setValue_32 (by decide) ?_
        exact J2 1 (Or.inr (Or.inr (Or.inl ⟨c16, c17, c18, rfl⟩)))
      · -- 19 to 22
        refine s_aload_n dX12_setValue_22 rfl (Int.natCast_nonneg _) ?_
        refine s_iload dX12_setValue_23 rfl ?_
        refine cv_X12_313 rfl gX12_isExpression dX12_setValue_25 hM (by rw [hcf]; decide) (as := [(0, e)]) rfl (Nat.le_of_ble_eq_true rfl) ⟨e, rfl, hM, (by first | assumption | omega), ?_⟩
        show WP kX12_setValue X 28 [some (2, ((1000 : Nat) : Int)), some (0, u), some (0, k), some (0, t), some (0, e), some (0, f), none, none, none] [(0, b2i (0 ≤ e ∧ e < (gS G 1000 6)))] G
        refine s_if_eqB (tgt := 35) dX12_setValue_28 (by decide) (fun c19 => ?_) (fun c19 => ?_)
        · -- 28 to 35
          refine s_iconst dX12_setValue_35 (by decide) ?_
          exact J2 0 (Or.inr (Or.inr (Or.inr (Or.inl ⟨c16, c17, c18, c19, rfl⟩))))
        · -- 28 to 31
          refine s_iconst dX12_setValue_31 (by decide) ?_
          refine s_goto (tgt := 36) dX12_setValue_32 (by decide) ?_
          exact J2 1 (Or.inr (Or.inr (Or.inr (Or.inr (⟨c16, c17, c18, c19, rfl⟩)))))

abbrev nX12_remove : List Nat := [a_valueType]
abbrev jX12_remove : List Nat := [25]
def TX12_remove : TR := fun as G Qr => ∃ (u k : Int), as = [(2, ((1000 : Nat) : Int)), (0, u), (0, k)] ∧ MG G ∧ (UV G) ∧ (TB G) ∧ ∀ (r : Int) (G' : LG), MG G' → (Fr nX12_remove jX12_remove G G' ∧ ((gS G' 1000 25) = rmT G u k ∧ UV G' ∧ (¬ rmT G u k = 0 → r = 0 ∧ Fr [] [25] G G') ∧ (rmT G u k = 0 → r = (if (gS G a_valueType (vAt G u k).toNat) = -1 then 0 else 1) ∧ ∀ j : Nat, gS G' a_valueType j = if j = (vAt G u k).toNat then -1 else gS G a_valueType j))) → Qr (.inl (some (0, r))) G'
set_option maxHeartbeats 4000000 in
set_option maxRecDepth 100000 in
theorem gX12_remove : Good kX12_remove yX12_remove 2 TX12_remove := by
  refine good_of (by decide) rfl rfl (fun as G Qr h => ?_) (fun X as G Qr hcf hR hT oa => ?_)
  · obtain ⟨u, k, rfl, -⟩ := h; exact Nat.le_of_ble_eq_true rfl
  obtain ⟨u, k, rfl, hM, hUV, hTB, hQ⟩ := hT
  show WP kX12_remove X 0 [some (2, ((1000 : Nat) : Int)), some (0, u), some (0, k), none, none] [] G
  have hr_u : inR u := okv_R (oa _ (by simp))
  have hr_k : inR k := okv_R (oa _ (by simp))
  have huu := hUV.1
  have hty := hTB.1
  have hb8 : (b2i (0 ≤ u ∧ u < (gS G 1000 12)) = 1 ∧ (0 ≤ u ∧ u < (gS G 1000 12))) ∨ (b2i (0 ≤ u ∧ u < (gS G 1000 12)) = 0 ∧ ¬ (0 ≤ u ∧ u < (gS G 1000 12))) := by (by_cases q : 0 ≤ u ∧ u < (gS G 1000 12); exact Or.inl ⟨b2i_t q, q⟩; exact Or.inr ⟨b2i_f q, q⟩)
  have hb9 : (b2i (0 ≤ k ∧ k ≤ 9) = 1 ∧ (0 ≤ k ∧ k ≤ 9)) ∨ (b2i (0 ≤ k ∧ k ≤ 9) = 0 ∧ ¬ (0 ≤ k ∧ k ≤ 9)) := by (by_cases q : 0 ≤ k ∧ k ≤ 9; exact Or.inl ⟨b2i_t q, q⟩; exact Or.inr ⟨b2i_f q, q⟩)
  refine s_aload_n dX12_remove_0 rfl (Int.natCast_nonneg _) ?_
  refine s_aload_n dX12_remove_1 rfl (Int.natCast_nonneg _) ?_
  refine s_iload_n dX12_remove_2 rfl ?_
  refine cv_X12_320 rfl gX12_isUnit dX12_remove_3 hM (by rw [hcf]; decide) (as := [(0, u)]) rfl (Nat.le_of_ble_eq_true rfl) ⟨u, rfl, hM, (by first | assumption | omega), ?_⟩
  show WP kX12_remove X 6 [some (2, ((1000 : Nat) : Int)), some (0, u), some (0, k), none, none] [(0, b2i (0 ≤ u ∧ u < (gS G 1000 12))), (2, ((1000 : Nat) : Int))] G
  refine s_iload_n dX12_remove_6 rfl ?_
  refine cs_X12_302 rfl gX12_isValue dX12_remove_7 (by rw [hcf]; decide) (as := [(0, k)]) rfl (Nat.le_of_ble_eq_true rfl) ⟨k, rfl, ?_⟩
  show WP kX12_remove X 10 [some (2, ((1000 : Nat) : Int)), some (0, u), some (0, k), none, none] [(0, b2i (0 ≤ k ∧ k ≤ 9)), (0, b2i (0 ≤ u ∧ u < (gS G 1000 12))), (2, ((1000 : Nat) : Int))] G
  refine s_iconst dX12_remove_10 (by decide) ?_
  refine cv_X12_298 rfl gX12_goes dX12_remove_11 hM (by rw [hcf]; decide) (as := [(0, b2i (0 ≤ u ∧ u < (gS G 1000 12))), (0, b2i (0 ≤ k ∧ k ≤ 9)), (0, 1)]) rfl (Nat.le_of_ble_eq_true rfl) ⟨b2i (0 ≤ u ∧ u < (gS G 1000 12)), b2i (0 ≤ k ∧ k ≤ 9), 1, rfl, hM, fun r2 G1 hMG1 hpG1 => ?_⟩
  obtain ⟨eG1, hpG1⟩ := hpG1
  have hFG1 : Fr nX12_remove jX12_remove G G1 := Fr.setF Fr.rf eG1 (by decide)
  show WP kX12_remove X 14 [some (2, ((1000 : Nat) : Int)), some (0, u), some (0, k), none, none] [(0, r2)] G1
  refine s_if_ne (tgt := 19) dX12_remove_14 (by decide) (fun c3 => ?_) (fun c3 => ?_)
  · -- 14 to 19
    have hg9 := goes_r hpG1 (by assumption)
    have ht9 : (if (b2i (0 ≤ u ∧ u < (gS G 1000 12))) = 0 then 1 else if (b2i (0 ≤ k ∧ k ≤ 9)) = 0 then 2 else if 1 = 0 then 3 else 0) = rmT G u k := by unfold rmT; (repeat' split) <;> omega
    have hn9 : rmT G u k = 0 := by unfold rmT; (repeat' split) <;> omega
    have hu9 : 0 ≤ u ∧ u < (gS G 1000 12) := by omega
    have hv8 := hUV.2.1 u (by omega) (by omega)
    have hv9 := hUV.2.2.1 u (by omega) (by omega)
    have hve9 : (gS G1 a_versions (u).toNat) = (gS G a_versions (u).toNat) := hFG1.atA (by decide) (by decide)
    refine s_bipush dX12_remove_19 rfl (by decide) ?_
    refine s_aload_n dX12_remove_21 rfl (Int.natCast_nonneg _) ?_
    refine s_iload_n dX12_remove_22 rfl ?_
    refine cv_X12_323 rfl gX12_latest dX12_remove_23 hMG1 (by rw [hcf]; decide) (as := [(0, u)]) rfl (Nat.le_of_ble_eq_true rfl) ⟨u, rfl, hMG1, (by first | assumption | omega), (by first | assumption | omega), ?_⟩
    show WP kX12_remove X 26 [some (2, ((1000 : Nat) : Int)), some (0, u), some (0, k), none, none] [(0, 5 * u + ((gS G1 a_versions (u).toNat) - 1)), (0, 10)] G1
    refine s_imul dX12_remove_26 (by omega) ?_
    refine s_iload_n dX12_remove_27 rfl ?_
    refine s_iadd dX12_remove_28 (by omega) ?_
    refine s_istore_n dX12_remove_29 (by decide) (lv' := [some (2, ((1000 : Nat) : Int)), some (0, u), some (0, k), some (0, (10 * (5 * u + ((gS G1 a_versions (u).toNat) - 1))) + k), none]) rfl ?_
    have hi9 : (10 * (5 * u + ((gS G1 a_versions (u).toNat) - 1))) + k = vAt G u k := by unfold vAt; rw [hve9]
    have hir9 : 0 ≤ (10 * (5 * u + ((gS G1 a_versions (u).toNat) - 1))) + k ∧ (10 * (5 * u + ((gS G1 a_versions (u).toNat) - 1))) + k < 400 := by omega
    generalize hI9 : (10 * (5 * u + ((gS G1 a_versions (u).toNat) - 1))) + k = I9 at *
    refine s_aload_n dX12_remove_30 rfl (Int.natCast_nonneg _) ?_
    refine gf_valueType rfl dX12_remove_31 hMG1 ?_
    refine s_iload_n dX12_remove_34 rfl ?_
    refine s_iald dX12_remove_35 (mg_a_valueType hMG1) (by omega) (by omega) (gsnE eG1 (by decide)) ?_
    refine s_iconst dX12_remove_36 (by decide) ?_
    have J5 : ∀ z4 : Int, (((gS G a_valueType ((I9).toNat)) = ((-1))) ∧ z4 = 0) ∨ ((¬ (gS G a_valueType ((I9).toNat)) = ((-1))) ∧ z4 = 1) → WP kX12_remove X 45 [some (2, ((1000 : Nat) : Int)), some (0, u), some (0, k), some (0, I9), none] [(0, z4)] G1 := by
      intro z4 hz4
      refine s_istore dX12_remove_45 (by decide) (lv' := [some (2, ((1000 : Nat) : Int)), some (0, u), some (0, k), some (0, I9), some (0, z4)]) rfl ?_
      refine s_aload_n dX12_remove_47 rfl (Int.natCast_nonneg _) ?_
      refine gf_valueType rfl dX12_remove_48 hMG1 ?_
      refine s_iload_n dX12_remove_51 rfl ?_
      refine s_iconst dX12_remove_52 (by decide) ?_
      refine r_iast dX12_remove_53 hMG1 (mg_a_valueType hMG1) (by decide) (by omega) (by omega) (fun G6 eG6 hMG6 => ?_)
      have hFG6 : Fr nX12_remove jX12_remove G G6 := Fr.setA hFG1 eG6 (by decide)
      show WP kX12_remove X 54 [some (2, ((1000 : Nat) : Int)), some (0, u), some (0, k), some (0, I9), some (0, z4)] [] G6
      refine s_iload dX12_remove_54 rfl ?_
      exact s_zret hR dX12_remove_56 rfl (by first | exact Or.inl rfl | exact Or.inr rfl | exact b2i_01 | omega) (hQ _ G6 hMG6 (⟨hFG6, ⟨((Eq.trans (gsnE eG6 (by decide)) (gsaE eG1))).trans ht9, hUV.sv (i := (I9).toNat) (t := -1) (e := 0) (f := 0) (by omega) (fun q => absurd rfl q) (fun j => by rw [g_upd eG6, gsnE eG1 (by decide)]) (fun _ q => absurd rfl q) (fun _ q => absurd rfl q) (fun _ j => ⟨(Fr.setA (Fr.setF (Fr.rf) eG1 (by decide)) eG6 (by decide) : Fr [a_valueType] [25] G G6).atA (by decide) (by decide), (Fr.setA (Fr.setF (Fr.rf) eG1 (by decide)) eG6 (by decide) : Fr [a_valueType] [25] G G6).atA (by decide) (by decide)⟩) ((hFG6 : Fr [a_valueType] [25] G G6).agr (by decide) (by decide) (by decide)), fun q => absurd hn9 q, fun _ => ⟨(by rw [← hi9]; split <;> omega), (by rw [← hi9]; exact (fun j => by rw [g_upd eG6, gsnE eG1 (by decide)]))⟩⟩⟩))
    refine s_icmp_eq (tgt := 44) dX12_remove_37 (by decide) (fun c7 => ?_) (fun c7 => ?_)
    · -- 37 to 44
      refine s_iconst dX12_remove_44 (by decide) ?_
      exact J5 0 (Or.inl ⟨c7, rfl⟩)
    · -- 37 to 40
      refine s_iconst dX12_remove_40 (by decide) ?_
      refine s_goto (tgt := 45) dX12_remove_41 (by decide) ?_
      exact J5 1 (Or.inr (⟨c7, rfl⟩))
  · -- 14 to 17
    have hr0 := goes_0 hpG1 (by omega)
    have ht9 : (if (b2i (0 ≤ u ∧ u < (gS G 1000 12))) = 0 then 1 else if (b2i (0 ≤ k ∧ k ≤ 9)) = 0 then 2 else if 1 = 0 then 3 else 0) = rmT G u k := by unfold rmT; (repeat' split) <;> omega
    have hn9 : ¬ rmT G u k = 0 := by rw [← ht9]; (repeat' split) <;> omega
    refine s_iconst dX12_remove_17 (by decide) ?_
    exact s_zret hR dX12_remove_18 rfl (by first | exact Or.inl rfl | exact Or.inr rfl | exact b2i_01 | omega) (hQ _ G1 hMG1 (⟨hFG1, ⟨((gsaE eG1)).trans ht9, hUV.agr ((Fr.setF Fr.rf eG1 (by decide) : Fr [] [25] G G1).agr (by decide) (by decide) (by decide)), fun _ => ⟨rfl, (Fr.setF Fr.rf eG1 (by decide) : Fr [] [25] G G1)⟩, fun q => absurd q hn9⟩⟩))
