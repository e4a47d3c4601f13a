abbrev nX12_isRight : List Nat := [a_fHead, a_raw, a_error, a_ident, a_byStamp, a_equation, a_uses, a_reaches, a_solved, a_by, a_fKind, a_fA, a_fB, a_fSize, a_fNext, a_fMark, a_thingKind, a_thingA, a_thingB, a_thingC, a_thingNext, a_thingHead, a_stackOf, a_fMemo, a_sType, a_sValue, a_sFlags, a_sNumber, a_todo, a_phase, a_found]
abbrev jX12_isRight : List Nat := [26, 42, 35, 36, 40, 41]
def TX12_isRight : TR := fun as G Qr => ∃ (n : Int) (Hs : List (Int → Int)) (vv : Int → Int), as = [(2, ((1000 : Nat) : Int)), (0, n)] ∧ MG G ∧ (TH G Hs) ∧ (vv ∈ Hs) ∧ (vv = cur G) ∧ (TB G) ∧ (EX G) ∧ (UV G) ∧ (0 ≤ (gS G 1000 35) ∧ (gS G 1000 35) ≤ 1700000000) ∧ (0 ≤ n ∧ n < (gS G 1000 18)) ∧ ∀ (r : Int) (G' : LG), MG G' → (Fr nX12_isRight jX12_isRight G G' ∧ (FP G G' Hs vv (l_shl 1 n) ∧ r = b2i ((gS G' a_error (n).toNat) = 0))) → Qr (.inl (some (0, r))) G'
set_option maxHeartbeats 4000000 in
set_option maxRecDepth 100000 in
theorem gX12_isRight : Good kX12_isRight yX12_isRight 10 TX12_isRight := by
  refine good_of (by decide) rfl rfl (fun as G Qr h => ?_) (fun X as G Qr hcf hR hT oa => ?_)
  · obtain ⟨n, Hs, vv, rfl, -⟩ := h; exact Nat.le_of_ble_eq_true rfl
  obtain ⟨n, Hs, vv, rfl, hM, hTH, hvv, hcu, hTB, hEX, hUV, hm, hn, hQ⟩ := hT
  show WP kX12_isRight X 0 [some (2, ((1000 : Nat) : Int)), some (0, n)] [] G
  have hr_n : inR n := okv_R (oa _ (by simp))
  have hnd := hTH.2.2.2.1.1
  refine s_aload_n dX12_isRight_0 rfl (Int.natCast_nonneg _) ?_
  refine s_lconst dX12_isRight_1 ?_
  show WP kX12_isRight X 2 [some (2, ((1000 : Nat) : Int)), some (0, n)] [(1, 1), (2, ((1000 : Nat) : Int))] G
  refine s_iload_n dX12_isRight_2 rfl ?_
  refine s_lshl dX12_isRight_3 ?_
  refine cv_X12_477 rfl gX12_faces dX12_isRight_4 hM (by rw [hcf]; decide) (as := [(1, l_shl 1 n)]) rfl (Nat.le_of_ble_eq_true rfl) ⟨l_shl 1 n, Hs, vv, n, n, rfl, hM, (by exact hTH), (by exact hvv), (by exact hcu), (by exact hTB), (by exact hEX), (by exact hUV), (by exact hm), (by exact hn), (by exact hn), (by intro m m0 m1 q; exact Or.inl ((bitL_shl (by omega) (by omega) m0 m1).mp q)), fun G1 hMG1 hpG1 => ?_⟩
  obtain ⟨hfG1, hpG1⟩ := hpG1
  have hFG1 : Fr nX12_isRight jX12_isRight G G1 := Fr.call Fr.rf hfG1 (by decide) (by decide)
  show WP kX12_isRight X 7 [some (2, ((1000 : Nat) : Int)), some (0, n)] [] G1
  refine s_aload_n dX12_isRight_7 rfl (Int.natCast_nonneg _) ?_
  refine gf_error rfl dX12_isRight_8 hMG1 ?_
  refine s_iload_n dX12_isRight_11 rfl ?_
  refine s_iald dX12_isRight_12 (mg_a_error hMG1) (by omega) (by omega) rfl ?_
  have J4 : ∀ z3 : Int, ((¬ (gS G1 a_error ((n).toNat)) = 0) ∧ z3 = 0) ∨ (((gS G1 a_error ((n).toNat)) = 0) ∧ z3 = 1) → WP kX12_isRight X 21 [some (2, ((1000 : Nat) : Int)), some (0, n)] [(0, z3)] G1 := by
    intro z3 hz3
    exact s_zret hR dX12_isRight_21 rfl (by first | exact Or.inl rfl | exact Or.inr rfl | exact b2i_01 | omega) (hQ _ G1 hMG1 (⟨hFG1, ⟨hpG1, by by_cases q : (gS G1 a_error (n).toNat) = 0; (rw [b2i_t q]; omega); (rw [b2i_f q]; omega)⟩⟩))
  refine s_if_ne (tgt := 20) dX12_isRight_13 (by decide) (fun c5 => ?_) (fun c5 => ?_)
  · -- 13 to 20
    refine s_iconst dX12_isRight_20 (by decide) ?_
    exact J4 0 (Or.inl ⟨c5, rfl⟩)
  · -- 13 to 16
    refine s_iconst dX12_isRight_16 (by decide) ?_
    refine s_goto (tgt := 21) dX12_isRight_17 (by decide) ?_
    exact J4 1 (Or.inr (⟨c5, rfl⟩))

abbrev nX12_error : List Nat := [a_fHead, a_raw, a_error, a_ident, a_byStamp, a_equation, a_uses, a_reaches, a_solved, a_by, a_fKind, a_fA, a_fB, a_fSize, a_fNext, a_fMark, a_thingKind, a_thingA, a_thingB, a_thingC, a_thingNext, a_thingHead, a_stackOf, a_fMemo, a_sType, a_sValue, a_sFlags, a_sNumber, a_todo, a_phase, a_found]
abbrev jX12_error : List Nat := [26, 42, 35, 36, 40, 41, 25]
def TX12_error : TR := fun as G Qr => ∃ (n : Int) (Hs : List (Int → Int)) (vv : Int → Int), as = [(2, ((1000 : Nat) : Int)), (0, n)] ∧ MG G ∧ (TH G Hs) ∧ (vv ∈ Hs) ∧ (vv = cur G) ∧ (TB G) ∧ (EX G) ∧ (UV G) ∧ (0 ≤ (gS G 1000 35) ∧ (gS G 1000 35) ≤ 1700000000) ∧ ∀ (r : Int) (G' : LG), MG G' → (Fr nX12_error jX12_error G G' ∧ (QP G G' Hs)) → Qr (.inl (some (0, r))) G'
set_option maxHeartbeats 4000000 in
set_option maxRecDepth 100000 in
theorem gX12_error : Good kX12_error yX12_error 10 TX12_error := by
  refine good_of (by decide) rfl rfl (fun as G Qr h => ?_) (fun X as G Qr hcf hR hT oa => ?_)
  · obtain ⟨n, Hs, vv, rfl, -⟩ := h; exact Nat.le_of_ble_eq_true rfl
  obtain ⟨n, Hs, vv, rfl, hM, hTH, hvv, hcu, hTB, hEX, hUV, hm, hQ⟩ := hT
  show WP kX12_error X 0 [some (2, ((1000 : Nat) : Int)), some (0, n)] [] G
  have hr_n : inR n := okv_R (oa _ (by simp))
  have hnd := hTH.2.2.2.1.1
  refine s_aload_n dX12_error_0 rfl (Int.natCast_nonneg _) ?_
  refine s_aload_n dX12_error_1 rfl (Int.natCast_nonneg _) ?_
  refine s_iload_n dX12_error_2 rfl ?_
  refine cv_X12_330 rfl gX12_isNode dX12_error_3 hM (by rw [hcf]; decide) (as := [(0, n)]) rfl (Nat.le_of_ble_eq_true rfl) ⟨n, rfl, hM, (by first | assumption | omega), ?_⟩
  show WP kX12_error X 6 [some (2, ((1000 : Nat) : Int)), some (0, n)] [(0, b2i (0 ≤ n ∧ n < (gS G 1000 18))), (2, ((1000 : Nat) : Int))] G
  refine s_iconst dX12_error_6 (by decide) ?_
  refine s_iconst dX12_error_7 (by decide) ?_
  refine cv_X12_298 rfl gX12_goes dX12_error_8 hM (by rw [hcf]; decide) (as := [(0, b2i (0 ≤ n ∧ n < (gS G 1000 18))), (0, 1), (0, 1)]) rfl (Nat.le_of_ble_eq_true rfl) ⟨b2i (0 ≤ n ∧ n < (gS G 1000 18)), 1, 1, rfl, hM, fun r2 G1 hMG1 hpG1 => ?_⟩
  obtain ⟨eG1, hpG1⟩ := hpG1
  have hFG1 : Fr nX12_error jX12_error G G1 := Fr.setF Fr.rf eG1 (by decide)
  show WP kX12_error X 11 [some (2, ((1000 : Nat) : Int)), some (0, n)] [(0, r2)] G1
  refine s_if_ne (tgt := 16) dX12_error_11 (by decide) (fun c3 => ?_) (fun c3 => ?_)
  · -- 11 to 16
    have hg := b2i_n (goes_r hpG1 (by assumption)).1
    have hn9 : 0 ≤ n ∧ n < (gS G1 1000 18) := by rw [(Fr.setF (Fr.rf) eG1 (by decide) : Fr [] [25] G G1).atF (by decide) (by decide)]; exact hg
    refine s_aload_n dX12_error_16 rfl (Int.natCast_nonneg _) ?_
    refine s_lconst dX12_error_17 ?_
    show WP kX12_error X 18 [some (2, ((1000 : Nat) : Int)), some (0, n)] [(1, 1), (2, ((1000 : Nat) : Int))] G1
    refine s_iload_n dX12_error_18 rfl ?_
    refine s_lshl dX12_error_19 ?_
    refine cv_X12_477 rfl gX12_faces dX12_error_20 hMG1 (by rw [hcf]; decide) (as := [(1, l_shl 1 n)]) rfl (Nat.le_of_ble_eq_true rfl) ⟨l_shl 1 n, Hs, vv, n, n, rfl, hMG1, (by exact hTH.agr ((Fr.setF (Fr.rf) eG1 (by decide) : Fr [] [25] G G1).agr (by decide) (by decide) (by decide))), (by exact hvv), (by rw [(TX.agr ((Fr.setF (Fr.rf) eG1 (by decide) : Fr [] [25] G G1).agr (by decide) (by decide) (by decide))).cur]; exact hcu), (by exact hTB.agr ((Fr.setF (Fr.rf) eG1 (by decide) : Fr [] [25] G G1).agr (by decide) (by decide) (by decide))), (by exact hEX.agr ((Fr.setF (Fr.rf) eG1 (by decide) : Fr [] [25] G G1).agr (by decide) (by decide) (by decide))), (by exact hUV.agr ((Fr.setF (Fr.rf) eG1 (by decide) : Fr [] [25] G G1).agr (by decide) (by decide) (by decide))), (by rw [(Fr.setF (Fr.rf) eG1 (by decide) : Fr [] [25] G G1).atF (by decide) (by decide)]; exact hm), (by exact hn9), (by exact hn9), (by intro m m0 m1 q; exact Or.inl ((bitL_shl (by omega) (by omega) m0 m1).mp q)), fun G4 hMG4 hpG4 => ?_⟩
    obtain ⟨hfG4, hpG4⟩ := hpG4
    have hFG4 : Fr nX12_error jX12_error G G4 := Fr.call hFG1 hfG4 (by decide) (by decide)
    show WP kX12_error X 23 [some (2, ((1000 : Nat) : Int)), some (0, n)] [] G4
    refine s_aload_n dX12_error_23 rfl (Int.natCast_nonneg _) ?_
    refine gf_error rfl dX12_error_24 hMG4 ?_
    refine s_iload_n dX12_error_27 rfl ?_
    refine s_iald dX12_error_28 (mg_a_error hMG4) (by omega) (by omega) rfl ?_
    exact s_iret hR dX12_error_29 rfl (hQ _ G4 hMG4 (⟨hFG4, (QP.trans0 ((((QP.rf hTH : QP G G Hs)).fr (Fr.setF Fr.rf eG1 (by decide) : Fr [] [25] G G1) (by decide) (by decide) (by decide) (by decide))) ((Fr.setF (Fr.rf) eG1 (by decide) : Fr [] [25] G G1).atF (by decide) (by decide)) (hpG4.qp))⟩))
  · -- 11 to 14
    refine s_iconst dX12_error_14 (by decide) ?_
    exact s_iret hR dX12_error_15 rfl (hQ _ G1 hMG1 (⟨hFG1, (((QP.rf hTH : QP G G Hs)).fr (Fr.setF Fr.rf eG1 (by decide) : Fr [] [25] G G1) (by decide) (by decide) (by decide) (by decide))⟩))

abbrev nX12_asks : List Nat := [a_fHead, a_raw, a_error, a_ident, a_byStamp, a_equation, a_uses, a_reaches, a_solved, a_by, a_fKind, a_fA, a_fB, a_fSize, a_fNext, a_fMark, a_thingKind, a_thingA, a_thingB, a_thingC, a_thingNext, a_thingHead, a_stackOf, a_fMemo, a_sType, a_sValue, a_sFlags, a_sNumber, a_todo, a_phase, a_found]
abbrev jX12_asks : List Nat := [26, 42, 35, 36, 40, 41, 25]
def TX12_asks : TR := fun as G Qr => ∃ (n b : Int) (Hs : List (Int → Int)) (vv : Int → Int), as = [(2, ((1000 : Nat) : Int)), (0, n), (0, b)] ∧ MG G ∧ (TH G Hs) ∧ (vv ∈ Hs) ∧ (vv = cur G) ∧ (TB G) ∧ (EX G) ∧ (UV G) ∧ (0 ≤ (gS G 1000 35) ∧ (gS G 1000 35) ≤ 1700000000) ∧ ∀ (r : Int) (G' : LG), MG G' → (Fr nX12_asks jX12_asks G G' ∧ (QP G G' Hs ∧ (r = 0 ∨ r = 1) ∧ (¬ r = 0 → (0 ≤ n ∧ n < (gS G 1000 18)) ∧ ¬ b = 0 ∧ FU G' ∧ RT G' (stN G' vv n) n ∧ RV G' (stN G' vv n) n))) → Qr (.inl (some (0, r))) G'
set_option maxHeartbeats 4000000 in
set_option maxRecDepth 100000 in
theorem gX12_asks : Good kX12_asks yX12_asks 11 TX12_asks := by
  refine good_of (by decide) rfl rfl (fun as G Qr h => ?_) (fun X as G Qr hcf hR hT oa => ?_)
  · obtain ⟨n, b, Hs, vv, rfl, -⟩ := h; exact Nat.le_of_ble_eq_true rfl
  obtain ⟨n, b, Hs, vv, rfl, hM, hTH, hvv, hcu, hTB, hEX, hUV, hm, hQ⟩ := hT
  show WP kX12_asks X 0 [some (2, ((1000 : Nat) : Int)), some (0, n), some (0, b), none] [] G
  have hr_n : inR n := okv_R (oa _ (by simp))
  have hr_b : inR b := okv_R (oa _ (by simp))
  have hnd := hTH.2.2.2.1.1
  have hND := hTH.2.2.2.1
  refine s_aload_n dX12_asks_0 rfl (Int.natCast_nonneg _) ?_
  refine s_iload_n dX12_asks_1 rfl ?_
  refine cv_X12_330 rfl gX12_isNode dX12_asks_2 hM (by rw [hcf]; decide) (as := [(0, n)]) rfl (Nat.le_of_ble_eq_true rfl) ⟨n, rfl, hM, (by first | assumption | omega), ?_⟩
  show WP kX12_asks X 5 [some (2, ((1000 : Nat) : Int)), some (0, n), some (0, b), none] [(0, b2i (0 ≤ n ∧ n < (gS G 1000 18)))] G
  refine s_istore_n dX12_asks_5 (by decide) (lv' := [some (2, ((1000 : Nat) : Int)), some (0, n), some (0, b), some (0, b2i (0 ≤ n ∧ n < (gS G 1000 18)))]) rfl ?_
  refine s_aload_n dX12_asks_6 rfl (Int.natCast_nonneg _) ?_
  refine s_iload_n dX12_asks_7 rfl ?_
  refine s_iload_n dX12_asks_8 rfl ?_
  refine s_iload_n dX12_asks_9 rfl ?_
  refine s_if_eqB (tgt := 25) dX12_asks_10 (by decide) (fun c1 => ?_) (fun c1 => ?_)
  · -- 10 to 25
    refine s_iconst dX12_asks_25 (by decide) ?_
    refine cv_X12_298 rfl gX12_goes dX12_asks_26 hM (by rw [hcf]; decide) (as := [(0, b2i (0 ≤ n ∧ n < (gS G 1000 18))), (0, b), (0, 0)]) rfl (Nat.le_of_ble_eq_true rfl) ⟨b2i (0 ≤ n ∧ n < (gS G 1000 18)), b, 0, rfl, hM, fun r3 G2 hMG2 hpG2 => ?_⟩
    obtain ⟨eG2, hpG2⟩ := hpG2
    have hFG2 : Fr nX12_asks jX12_asks G G2 := Fr.setF Fr.rf eG2 (by decide)
    show WP kX12_asks X 29 [some (2, ((1000 : Nat) : Int)), some (0, n), some (0, b), some (0, b2i (0 ≤ n ∧ n < (gS G 1000 18)))] [(0, r3)] G2
    exact s_zret hR dX12_asks_29 rfl (by rw [hpG2]; exact b2i_01) (hQ _ G2 hMG2 (⟨hFG2, ⟨(((QP.rf hTH : QP G G Hs)).fr (Fr.setF Fr.rf eG2 (by decide) : Fr [] [25] G G2) (by decide) (by decide) (by decide) (by decide)), by rcases (b2i_01 (p := _)) with z | z; (exact Or.inl (hpG2.trans z)); (exact Or.inr (hpG2.trans z)), fun q => by have hz := goes_r hpG2 q; have hg := b2i_n hz.1; exfalso; omega⟩⟩))
  · -- 10 to 13
    refine s_aload_n dX12_asks_13 rfl (Int.natCast_nonneg _) ?_
    refine s_iload_n dX12_asks_14 rfl ?_
    refine cv_X12_481 rfl gX12_isRight dX12_asks_15 hM (by rw [hcf]; decide) (as := [(0, n)]) rfl (Nat.le_of_ble_eq_true rfl) ⟨n, Hs, vv, rfl, hM, (by exact hTH), (by exact hvv), (by exact hcu), (by exact hTB), (by exact hEX), (by exact hUV), (by exact hm), (by omega), fun r5 G4 hMG4 hpG4 => ?_⟩
    obtain ⟨hfG4, hpG4⟩ := hpG4
    have hFG4 : Fr nX12_asks jX12_asks G G4 := Fr.call Fr.rf hfG4 (by decide) (by decide)
    show WP kX12_asks X 18 [some (2, ((1000 : Nat) : Int)), some (0, n), some (0, b), some (0, b2i (0 ≤ n ∧ n < (gS G 1000 18)))] [(0, r5), (0, b), (0, b2i (0 ≤ n ∧ n < (gS G 1000 18))), (2, ((1000 : Nat) : Int))] G4
    have J7 : ∀ z6 : Int, ((r5 = 0) ∧ z6 = 0) ∨ ((¬ r5 = 0) ∧ z6 = 1) → WP kX12_asks X 26 [some (2, ((1000 : Nat) : Int)), some (0, n), some (0, b), some (0, b2i (0 ≤ n ∧ n < (gS G 1000 18)))] [(0, z6), (0, b), (0, b2i (0 ≤ n ∧ n < (gS G 1000 18))), (2, ((1000 : Nat) : Int))] G4 := by
      intro z6 hz6
      refine cv_X12_298 rfl gX12_goes dX12_asks_26 hMG4 (by rw [hcf]; decide) (as := [(0, b2i (0 ≤ n ∧ n < (gS G 1000 18))), (0, b), (0, z6)]) rfl (Nat.le_of_ble_eq_true rfl) ⟨b2i (0 ≤ n ∧ n < (gS G 1000 18)), b, z6, rfl, hMG4, fun r9 G8 hMG8 hpG8 => ?_⟩
      obtain ⟨eG8, hpG8⟩ := hpG8
      have hFG8 : Fr nX12_asks jX12_asks G G8 := Fr.setF hFG4 eG8 (by decide)
      show WP kX12_asks X 29 [some (2, ((1000 : Nat) : Int)), some (0, n), some (0, b), some (0, b2i (0 ≤ n ∧ n < (gS G 1000 18)))] [(0, r9)] G8
      exact s_zret hR dX12_asks_29 rfl (by rw [hpG8]; exact b2i_01) (hQ _ G8 hMG8 (⟨hFG8, ⟨((hpG4.1.qp).fr (Fr.setF Fr.rf eG8 (by decide) : Fr [] [25] G4 G8) (by decide) (by decide) (by decide) (by decide)), by rcases (b2i_01 (p := _)) with z | z; (exact Or.inl (hpG8.trans z)); (exact Or.inr (hpG8.trans z)), fun q => by have hz := goes_r hpG8 q; have hg := b2i_n hz.1; have hfd := hpG4.1.at hND hg.1 hg.2 (bitL_self hg.1 (by omega)); have he9 := b2i_n (p := (gS G4 a_error (n).toNat) = 0) (by rw [← hpG4.2]; omega); have hrt := hfd.1.2 he9; exact ⟨hg, hz.2.1, hpG4.1.1.agr ((Fr.setF (Fr.rf) eG8 (by decide) : Fr [] [25] G4 G8).agr (by decide) (by decide) (by decide)) (by rw [(Fr.setF (Fr.rf) eG8 (by decide) : Fr [] [25] G4 G8).atF (j := 42) (by decide) (by decide)]; exact Int.le_refl _), (hrt.1.fx (FX.agf (Fr.setF (Fr.rf) eG8 (by decide) : Fr [] [25] G4 G8) (by decide) (by decide) (by decide)) hpG4.1.1 (fun j _ _ => (Fr.setF (Fr.rf) eG8 (by decide) : Fr [] [25] G4 G8).atA (by decide) (by decide))).mono (fun t z => (TX.agr ((Fr.setF (Fr.rf) eG8 (by decide) : Fr [] [25] G4 G8).agr (by decide) (by decide) (by decide))).stN z), (hrt.2.fx (FX.agf (Fr.setF (Fr.rf) eG8 (by decide) : Fr [] [25] G4 G8) (by decide) (by decide) (by decide)) hpG4.1.1 (fun j _ _ => (Fr.setF (Fr.rf) eG8 (by decide) : Fr [] [25] G4 G8).atA (by decide) (by decide))).mono (fun t z => (TX.agr ((Fr.setF (Fr.rf) eG8 (by decide) : Fr [] [25] G4 G8).agr (by decide) (by decide) (by decide))).stN z)⟩⟩⟩))
    refine s_if_eq (tgt := 25) dX12_asks_18 (by decide) (fun c10 => ?_) (fun c10 => ?_)
    · -- 18 to 25
      refine s_iconst dX12_asks_25 (by decide) ?_
      exact J7 0 (Or.inl ⟨c10, rfl⟩)
    · -- 18 to 21
      refine s_iconst dX12_asks_21 (by decide) ?_
      refine s_goto (tgt := 26) dX12_asks_22 (by decide) ?_
      exact J7 1 (Or.inr (⟨c10, rfl⟩))

abbrev nX12_typeOf : List Nat := [a_fHead, a_raw, a_error, a_ident, a_byStamp, a_equation, a_uses, a_reaches, a_solved, a_by, a_fKind, a_fA, a_fB, a_fSize, a_fNext, a_fMark, a_thingKind, a_thingA, a_thingB, a_thingC, a_thingNext, a_thingHead, a_stackOf, a_fMemo, a_sType, a_sValue, a_sFlags, a_sNumber, a_todo, a_phase, a_found]
abbrev jX12_typeOf : List Nat := [26, 42, 35, 36, 40, 41, 25]
def TX12_typeOf : TR := fun as G Qr => ∃ (n k : Int) (Hs : List (Int → Int)) (vv : Int → Int), as = [(2, ((1000 : Nat) : Int)), (0, n), (0, k)] ∧ MG G ∧ (TH G Hs) ∧ (vv ∈ Hs) ∧ (vv = cur G) ∧ (TB G) ∧ (EX G) ∧ (UV G) ∧ (0 ≤ (gS G 1000 35) ∧ (gS G 1000 35) ≤ 1700000000) ∧ ∀ (r : Int) (G' : LG), MG G' → (Fr nX12_typeOf jX12_typeOf G G' ∧ (QP G G' Hs)) → Qr (.inl (some (0, r))) G'
set_option maxHeartbeats 4000000 in
set_option maxRecDepth 100000 in
theorem gX12_typeOf : Good kX12_typeOf yX12_typeOf 12 TX12_typeOf := by
  refine good_of (by decide) rfl rfl (fun as G Qr h => ?_) (fun X as G Qr hcf hR hT oa => ?_)
  · obtain ⟨n, k, Hs, vv, rfl, -⟩ := h; exact Nat.le_of_ble_eq_true rfl
  obtain ⟨n, k, Hs, vv, rfl, hM, hTH, hvv, hcu, hTB, hEX, hUV, hm, hQ⟩ := hT
  show WP kX12_typeOf X 0 [some (2, ((1000 : Nat) : Int)), some (0, n), some (0, k), none] [] G
  have hr_n : inR n := okv_R (oa _ (by simp))
  have hr_k : inR k := okv_R (oa _ (by simp))
  have hnd := hTH.2.2.2.1.1
  refine s_aload_n dX12_typeOf_0 rfl (Int.natCast_nonneg _) ?_
  refine s_iload_n dX12_typeOf_1 rfl ?_
  refine s_iload_n dX12_typeOf_2 rfl ?_
  refine cs_X12_291 rfl gX12_isName dX12_typeOf_3 (by rw [hcf]; decide) (as := [(0, k)]) rfl (Nat.le_of_ble_eq_true rfl) ⟨k, rfl, ?_⟩
  show WP kX12_typeOf X 6 [some (2, ((1000 : Nat) : Int)), some (0, n), some (0, k), none] [(0, b2i (0 ≤ k ∧ k ≤ 5)), (0, n), (2, ((1000 : Nat) : Int))] G
  refine cv_X12_484 rfl gX12_asks dX12_typeOf_6 hM (by rw [hcf]; decide) (as := [(0, n), (0, b2i (0 ≤ k ∧ k ≤ 5))]) rfl (Nat.le_of_ble_eq_true rfl) ⟨n, b2i (0 ≤ k ∧ k ≤ 5), Hs, vv, rfl, hM, (by exact hTH), (by exact hvv), (by exact hcu), (by exact hTB), (by exact hEX), (by exact hUV), (by exact hm), fun r2 G1 hMG1 hpG1 => ?_⟩
  obtain ⟨hfG1, hpG1⟩ := hpG1
  have hFG1 : Fr nX12_typeOf jX12_typeOf G G1 := Fr.call Fr.rf hfG1 (by decide) (by decide)
  show WP kX12_typeOf X 9 [some (2, ((1000 : Nat) : Int)), some (0, n), some (0, k), none] [(0, r2)] G1
  refine s_if_ne (tgt := 14) dX12_typeOf_9 (by decide) (fun c3 => ?_) (fun c3 => ?_)
  · -- 9 to 14
    have ha9 := hpG1.2.2 (by assumption)
    have hnn9 := ha9.1
    have hkk9 := b2i_n ha9.2.1
    have hff9 := ha9.2.2.1.f
    refine s_aload_n dX12_typeOf_14 rfl (Int.natCast_nonneg _) ?_
    refine s_iload_n dX12_typeOf_15 rfl ?_
    refine s_iload_n dX12_typeOf_16 rfl ?_
    refine cv_X12_413 rfl gX12_isType_ dX12_typeOf_17 hMG1 (by rw [hcf]; decide) (as := [(0, n), (0, k)]) rfl (Nat.le_of_ble_eq_true rfl) ⟨n, k, rfl, hMG1, (by first | assumption | omega), (by first | assumption | omega), ?_⟩
    show WP kX12_typeOf X 20 [some (2, ((1000 : Nat) : Int)), some (0, n), some (0, k), none] [(0, (gS G1 a_sType (6 * n + k).toNat))] G1
    have hrt := ha9.2.2.2.1 k (by omega) (by omega)
    have hrt1 := hrt.1
    refine s_istore_n dX12_typeOf_20 (by decide) (lv' := [some (2, ((1000 : Nat) : Int)), some (0, n), some (0, k), some (0, (gS G1 a_sType (6 * n + k).toNat))]) rfl ?_
    refine s_iload_n dX12_typeOf_21 rfl ?_
    refine s_bipush dX12_typeOf_22 rfl (by decide) ?_
    have J5 : ∀ z4 : Int, ((¬ ((gS G1 a_sType (6 * n + k).toNat)) = ((-2))) ∧ (¬ ((gS G1 a_sType (6 * n + k).toNat)) = ((-1))) ∧ (¬ (gS G1 a_fKind (((gS G1 a_sType (6 * n + k).toNat)).toNat)) = 2) ∧ z4 = 2) ∨ ((¬ ((gS G1 a_sType (6 * n + k).toNat)) = ((-2))) ∧ (¬ ((gS G1 a_sType (6 * n + k).toNat)) = ((-1))) ∧ ((gS G1 a_fKind (((gS G1 a_sType (6 * n + k).toNat)).toNat)) = 2) ∧ z4 = 3) ∨ ((¬ ((gS G1 a_sType (6 * n + k).toNat)) = ((-2))) ∧ (((gS G1 a_sType (6 * n + k).toNat)) = ((-1))) ∧ z4 = 1) ∨ ((((gS G1 a_sType (6 * n + k).toNat)) = ((-2))) ∧ z4 = 0) → WP kX12_typeOf X 55 [some (2, ((1000 : Nat) : Int)), some (0, n), some (0, k), some (0, (gS G1 a_sType (6 * n + k).toNat))] [(0, z4)] G1 := by
      intro z4 hz4
      exact s_iret hR dX12_typeOf_55 rfl (hQ _ G1 hMG1 (⟨hFG1, hpG1.1⟩))
    refine s_icmp_ne (tgt := 31) dX12_typeOf_24 (by decide) (fun c6 => ?_) (fun c6 => ?_)
    · -- 24 to 31
      refine s_iload_n dX12_typeOf_31 rfl ?_
      refine s_iconst dX12_typeOf_32 (by decide) ?_
      refine s_icmp_ne (tgt := 40) dX12_typeOf_33 (by decide) (fun c7 => ?_) (fun c7 => ?_)
      · -- 33 to 40
        refine s_aload_n dX12_typeOf_40 rfl (Int.natCast_nonneg _) ?_
        refine gf_fKind rfl dX12_typeOf_41 hMG1 ?_
        refine s_iload_n dX12_typeOf_44 rfl ?_
        refine s_iald dX12_typeOf_45 (mg_a_fKind hMG1) (by omega) (by omega) rfl ?_
        refine s_iconst dX12_typeOf_46 (by decide) ?_
        refine s_icmp_ne (tgt := 54) dX12_typeOf_47 (by decide) (fun c8 => ?_) (fun c8 => ?_)
        · -- 47 to 54
          refine s_iconst dX12_typeOf_54 (by decide) ?_
          exact J5 2 (Or.inl ⟨c6, c7, c8, rfl⟩)
        · -- 47 to 50
          refine s_iconst dX12_typeOf_50 (by decide) ?_
          refine s_goto (tgt := 55) dX12_typeOf_51 (by decide) ?_
          exact J5 3 (Or.inr (Or.inl ⟨c6, c7, c8, rfl⟩))
      · -- 33 to 36
        refine s_iconst dX12_typeOf_36 (by decide) ?_
        refine s_goto (tgt := 55) dX12_typeOf_37 (by decide) ?_
        exact J5 1 (Or.inr (Or.inr (Or.inl ⟨c6, c7, rfl⟩)))
    · -- 24 to 27
      refine s_iconst dX12_typeOf_27 (by decide) ?_
      refine s_goto (tgt := 55) dX12_typeOf_28 (by decide) ?_
      exact J5 0 (Or.inr (Or.inr (Or.inr (⟨c6, rfl⟩))))
  · -- 9 to 12
    refine s_iconst dX12_typeOf_12 (by decide) ?_
    exact s_iret hR dX12_typeOf_13 rfl (hQ _ G1 hMG1 (⟨hFG1, hpG1.1⟩))

abbrev nX12_valueOf : List Nat := [a_fHead, a_raw, a_error, a_ident, a_byStamp, a_equation, a_uses, a_reaches, a_solved, a_by, a_fKind, a_fA, a_fB, a_fSize, a_fNext, a_fMark, a_thingKind, a_thingA, a_thingB, a_thingC, a_thingNext, a_thingHead, a_stackOf, a_fMemo, a_sType, a_sValue, a_sFlags, a_sNumber, a_todo, a_phase, a_found]
abbrev jX12_valueOf : List Nat := [26, 42, 35, 36, 40, 41, 25]
def TX12_valueOf : TR := fun as G Qr => ∃ (n k : Int) (Hs : List (Int → Int)) (vv : Int → Int), as = [(2, ((1000 : Nat) : Int)), (0, n), (0, k)] ∧ MG G ∧ (TH G Hs) ∧ (vv ∈ Hs) ∧ (vv = cur G) ∧ (TB G) ∧ (EX G) ∧ (UV G) ∧ (0 ≤ (gS G 1000 35) ∧ (gS G 1000 35) ≤ 1700000000) ∧ ∀ (r : Int) (G' : LG), MG G' → (Fr nX12_valueOf jX12_valueOf G G' ∧ (QP G G' Hs)) → Qr (.inl (some (0, r))) G'
set_option maxHeartbeats 4000000 in
set_option maxRecDepth 100000 in
theorem gX12_valueOf : Good kX12_valueOf yX12_valueOf 12 TX12_valueOf := by
  refine good_of (by decide) rfl rfl (fun as G Qr h => ?_) (fun X as G Qr hcf hR hT oa => ?_)
  · obtain ⟨n, k, Hs, vv, rfl, -⟩ := h; exact Nat.le_of_ble_eq_true rfl
  obtain ⟨n, k, Hs, vv, rfl, hM, hTH, hvv, hcu, hTB, hEX, hUV, hm, hQ⟩ := hT
  show WP kX12_valueOf X 0 [some (2, ((1000 : Nat) : Int)), some (0, n), some (0, k)] [] G
  have hr_n : inR n := okv_R (oa _ (by simp))
  have hr_k : inR k := okv_R (oa _ (by simp))
  have hnd := hTH.2.2.2.1.1
  refine s_aload_n dX12_valueOf_0 rfl (Int.natCast_nonneg _) ?_
  refine s_iload_n dX12_valueOf_1 rfl ?_
  refine s_iload_n dX12_valueOf_2 rfl ?_
  refine cs_X12_302 rfl gX12_isValue dX12_valueOf_3 (by rw [hcf]; decide) (as := [(0, k)]) rfl (Nat.le_of_ble_eq_true rfl) ⟨k, rfl, ?_⟩
  show WP kX12_valueOf X 6 [some (2, ((1000 : Nat) : Int)), some (0, n), some (0, k)] [(0, b2i (0 ≤ k ∧ k ≤ 9)), (0, n), (2, ((1000 : Nat) : Int))] G
  refine cv_X12_484 rfl gX12_asks dX12_valueOf_6 hM (by rw [hcf]; decide) (as := [(0, n), (0, b2i (0 ≤ k ∧ k ≤ 9))]) rfl (Nat.le_of_ble_eq_true rfl) ⟨n, b2i (0 ≤ k ∧ k ≤ 9), Hs, vv, rfl, hM, (by exact hTH), (by exact hvv), (by exact hcu), (by exact hTB), (by exact hEX), (by exact hUV), (by exact hm), fun r2 G1 hMG1 hpG1 => ?_⟩
  obtain ⟨hfG1, hpG1⟩ := hpG1
  have hFG1 : Fr nX12_valueOf jX12_valueOf G G1 := Fr.call Fr.rf hfG1 (by decide) (by decide)
  show WP kX12_valueOf X 9 [some (2, ((1000 : Nat) : Int)), some (0, n), some (0, k)] [(0, r2)] G1
  refine s_if_eq (tgt := 22) dX12_valueOf_9 (by decide) (fun c3 => ?_) (fun c3 => ?_)
  · -- 9 to 22
    refine s_iconst dX12_valueOf_22 (by decide) ?_
    exact s_iret hR dX12_valueOf_23 rfl (hQ _ G1 hMG1 (⟨hFG1, hpG1.1⟩))
  · -- 9 to 12
    have ha9 := hpG1.2.2 (by assumption)
    have hnn9 := ha9.1
    have hkk9 := b2i_n ha9.2.1
    have hff9 := ha9.2.2.1.f
    refine s_aload_n dX12_valueOf_12 rfl (Int.natCast_nonneg _) ?_
    refine s_iload_n dX12_valueOf_13 rfl ?_
    refine s_iload_n dX12_valueOf_14 rfl ?_
    refine cv_X12_388 rfl gX12_isOf dX12_valueOf_15 hMG1 (by rw [hcf]; decide) (as := [(0, n), (0, k)]) rfl (Nat.le_of_ble_eq_true rfl) ⟨n, k, rfl, hMG1, (by first | assumption | omega), (by first | assumption | omega), ?_⟩
    show WP kX12_valueOf X 18 [some (2, ((1000 : Nat) : Int)), some (0, n), some (0, k)] [(0, (gS G1 a_sValue (10 * n + k).toNat))] G1
    refine s_iconst dX12_valueOf_18 (by decide) ?_
    refine s_icmp_ne (tgt := 24) dX12_valueOf_19 (by decide) (fun c4 => ?_) (fun c4 => ?_)
    · -- 19 to 24
      refine s_aload_n dX12_valueOf_24 rfl (Int.natCast_nonneg _) ?_
      refine s_iload_n dX12_valueOf_25 rfl ?_
      refine s_iload_n dX12_valueOf_26 rfl ?_
      refine cv_X12_398 rfl gX12_isHole dX12_valueOf_27 hMG1 (by rw [hcf]; decide) (as := [(0, n), (0, k)]) rfl (Nat.le_of_ble_eq_true rfl) ⟨n, k, rfl, hMG1, (by first | assumption | omega), (by first | assumption | omega), ?_⟩
      show WP kX12_valueOf X 30 [some (2, ((1000 : Nat) : Int)), some (0, n), some (0, k)] [(0, b2i (¬ i_and (gS G1 a_sFlags (10 * n + k).toNat) 1 = 0))] G1
      have J6 : ∀ z5 : Int, ((¬ (¬ i_and (gS G1 a_sFlags (10 * n + k).toNat) 1 = 0)) ∧ z5 = 2) ∨ ((¬ i_and (gS G1 a_sFlags (10 * n + k).toNat) 1 = 0) ∧ z5 = 1) → WP kX12_valueOf X 38 [some (2, ((1000 : Nat) : Int)), some (0, n), some (0, k)] [(0, z5)] G1 := by
        intro z5 hz5
        refine s_aload_n dX12_valueOf_38 rfl (Int.natCast_nonneg _) ?_
        refine s_iload_n dX12_valueOf_39 rfl ?_
        refine s_iload_n dX12_valueOf_40 rfl ?_
        refine cv_X12_410 rfl gX12_isGhost dX12_valueOf_41 hMG1 (by rw [hcf]; decide) (as := [(0, n), (0, k)]) rfl (Nat.le_of_ble_eq_true rfl) ⟨n, k, rfl, hMG1, (by first | assumption | omega), (by first | assumption | omega), ?_⟩
        show WP kX12_valueOf X 44 [some (2, ((1000 : Nat) : Int)), some (0, n), some (0, k)] [(0, b2i (¬ i_and (gS G1 a_sFlags (10 * n + k).toNat) 2 = 0)), (0, z5)] G1
        have J8 : ∀ z7 : Int, ((¬ (¬ i_and (gS G1 a_sFlags (10 * n + k).toNat) 2 = 0)) ∧ z7 = 0) ∨ ((¬ i_and (gS G1 a_sFlags (10 * n + k).toNat) 2 = 0) ∧ z7 = 4) → WP kX12_valueOf X 52 [some (2, ((1000 : Nat) : Int)), some (0, n), some (0, k)] [(0, z7), (0, z5)] G1 := by
          intro z7 hz7
          refine s_iadd dX12_valueOf_52 (by omega) ?_
          exact s_iret hR dX12_valueOf_53 rfl (hQ _ G1 hMG1 (⟨hFG1, hpG1.1⟩))
        refine s_if_eqB (tgt := 51) dX12_valueOf_44 (by decide) (fun c9 => ?_) (fun c9 => ?_)
        · -- 44 to 51
          refine s_iconst dX12_valueOf_51 (by decide) ?_
          exact J8 0 (Or.inl ⟨c9, rfl⟩)
        · -- 44 to 47
          refine s_iconst dX12_valueOf_47 (by decide) ?_
          refine s_goto (tgt := 52) dX12_valueOf_48 (by decide) ?_
          exact J8 4 (Or.inr (⟨c9, rfl⟩))
      refine s_if_eqB (tgt := 37) dX12_valueOf_30 (by decide) (fun c10 => ?_) (fun c10 => ?_)
      · -- 30 to 37
        refine s_iconst dX12_valueOf_37 (by decide) ?_
        exact J6 2 (Or.inl ⟨c10, rfl⟩)
      · -- 30 to 33
        refine s_iconst dX12_valueOf_33 (by decide) ?_
        refine s_goto (tgt := 38) dX12_valueOf_34 (by decide) ?_
        exact J6 1 (Or.inr (⟨c10, rfl⟩))
    · -- 19 to 22
      refine s_iconst dX12_valueOf_22 (by decide) ?_
      exact s_iret hR dX12_valueOf_23 rfl (hQ _ G1 hMG1 (⟨hFG1, hpG1.1⟩))

abbrev nX12_size : List Nat := [a_fHead, a_raw, a_error, a_ident, a_byStamp, a_equation, a_uses, a_reaches, a_solved, a_by, a_fKind, a_fA, a_fB, a_fSize, a_fNext, a_fMark, a_thingKind, a_thingA, a_thingB, a_thingC, a_thingNext, a_thingHead, a_stackOf, a_fMemo, a_sType, a_sValue, a_sFlags, a_sNumber, a_todo, a_phase, a_found]
abbrev jX12_size : List Nat := [26, 42, 35, 36, 40, 41, 25]
def TX12_size : TR := fun as G Qr => ∃ (n k : Int) (Hs : List (Int → Int)) (vv : Int → Int), as = [(2, ((1000 : Nat) : Int)), (0, n), (0, k)] ∧ MG G ∧ (TH G Hs) ∧ (vv ∈ Hs) ∧ (vv = cur G) ∧ (TB G) ∧ (EX G) ∧ (UV G) ∧ (0 ≤ (gS G 1000 35) ∧ (gS G 1000 35) ≤ 1700000000) ∧ ∀ (r : Int) (G' : LG), MG G' → (Fr nX12_size jX12_size G G' ∧ (QP G G' Hs)) → Qr (.inl (some (0, r))) G'
set_option maxHeartbeats 4000000 in
set_option maxRecDepth 100000 in
theorem gX12_size : Good kX12_size yX12_size 12 TX12_size := by
  refine good_of (by decide) rfl rfl (fun as G Qr h => ?_) (fun X as G Qr hcf hR hT oa => ?_)
  · obtain ⟨n, k, Hs, vv, rfl, -⟩ := h; exact Nat.le_of_ble_eq_true rfl
  obtain ⟨n, k, Hs, vv, rfl, hM, hTH, hvv, hcu, hTB, hEX, hUV, hm, hQ⟩ := hT
  show WP kX12_size X 0 [some (2, ((1000 : Nat) : Int)), some (0, n), some (0, k)] [] G
  have hr_n : inR n := okv_R (oa _ (by simp))
  have hr_k : inR k := okv_R (oa _ (by simp))
  have hnd := hTH.2.2.2.1.1
  refine s_aload_n dX12_size_0 rfl (Int.natCast_nonneg _) ?_
  refine s_iload_n dX12_size_1 rfl ?_
  refine s_iload_n dX12_size_2 rfl ?_
  refine cs_X12_302 rfl gX12_isValue dX12_size_3 (by rw [hcf]; decide) (as := [(0, k)]) rfl (Nat.le_of_ble_eq_true rfl) ⟨k, rfl, ?_⟩
  show WP kX12_size X 6 [some (2, ((1000 : Nat) : Int)), some (0, n), some (0, k)] [(0, b2i (0 ≤ k ∧ k ≤ 9)), (0, n), (2, ((1000 : Nat) : Int))] G
  refine cv_X12_484 rfl gX12_asks dX12_size_6 hM (by rw [hcf]; decide) (as := [(0, n), (0, b2i (0 ≤ k ∧ k ≤ 9))]) rfl (Nat.le_of_ble_eq_true rfl) ⟨n, b2i (0 ≤ k ∧ k ≤ 9), Hs, vv, rfl, hM, (by exact hTH), (by exact hvv), (by exact hcu), (by exact hTB), (by exact hEX), (by exact hUV), (by exact hm), fun r2 G1 hMG1 hpG1 => ?_⟩
  obtain ⟨hfG1, hpG1⟩ := hpG1
  have hFG1 : Fr nX12_size jX12_size G G1 := Fr.call Fr.rf hfG1 (by decide) (by decide)
  show WP kX12_size X 9 [some (2, ((1000 : Nat) : Int)), some (0, n), some (0, k)] [(0, r2)] G1
  have J4 : ∀ z3 : Int, ((r2 = 0) ∧ z3 = 0) ∨ ((¬ r2 = 0) ∧ (¬ ((gS G1 a_sValue (10 * n + k).toNat)) = ((-1))) ∧ z3 = gS G1 a_fSize (((gS G1 a_sValue (10 * n + k).toNat)).toNat)) ∨ ((¬ r2 = 0) ∧ (((gS G1 a_sValue (10 * n + k).toNat)) = ((-1))) ∧ z3 = 0) → WP kX12_size X 37 [some (2, ((1000 : Nat) : Int)), some (0, n), some (0, k)] [(0, z3)] G1 := by
    intro z3 hz3
    exact s_iret hR dX12_size_37 rfl (hQ _ G1 hMG1 (⟨hFG1, hpG1.1⟩))
  refine s_if_eq (tgt := 22) dX12_size_9 (by decide) (fun c5 => ?_) (fun c5 => ?_)
  · -- 9 to 22
    refine s_iconst dX12_size_22 (by decide) ?_
    refine s_goto (tgt := 37) dX12_size_23 (by decide) ?_
    exact J4 0 (Or.inl ⟨c5, rfl⟩)
  · -- 9 to 12
    have ha9 := hpG1.2.2 (by assumption)
    have hnn9 := ha9.1
    have hkk9 := b2i_n ha9.2.1
    have hff9 := ha9.2.2.1.f
    refine s_aload_n dX12_size_12 rfl (Int.natCast_nonneg _) ?_
    refine s_iload_n dX12_size_13 rfl ?_
    refine s_iload_n dX12_size_14 rfl ?_
    refine cv_X12_388 rfl gX12_isOf dX12_size_15 hMG1 (by rw [hcf]; decide) (as := [(0, n), (0, k)]) rfl (Nat.le_of_ble_eq_true rfl) ⟨n, k, rfl, hMG1, (by first | assumption | omega), (by first | assumption | omega), ?_⟩
    show WP kX12_size X 18 [some (2, ((1000 : Nat) : Int)), some (0, n), some (0, k)] [(0, (gS G1 a_sValue (10 * n + k).toNat))] G1
    refine s_iconst dX12_size_18 (by decide) ?_
    refine s_icmp_ne (tgt := 26) dX12_size_19 (by decide) (fun c6 => ?_) (fun c6 => ?_)
    · -- 19 to 26
      have hrv := ha9.2.2.2.2 k (by omega) (by omega)
      have hrv1 := hrv.1
      refine s_aload_n dX12_size_26 rfl (Int.natCast_nonneg _) ?_
      refine gf_fSize rfl dX12_size_27 hMG1 ?_
      refine s_aload_n dX12_size_30 rfl (Int.natCast_nonneg _) ?_
      refine s_iload_n dX12_size_31 rfl ?_
      refine s_iload_n dX12_size_32 rfl ?_
      refine cv_X12_388 rfl gX12_isOf dX12_size_33 hMG1 (by rw [hcf]; decide) (as := [(0, n), (0, k)]) rfl (Nat.le_of_ble_eq_true rfl) ⟨n, k, rfl, hMG1, (by first | assumption | omega), (by first | assumption | omega), ?_⟩
      show WP kX12_size X 36 [some (2, ((1000 : Nat) : Int)), some (0, n), some (0, k)] [(0, (gS G1 a_sValue (10 * n + k).toNat)), (2, ((a_fSize : Nat) : Int))] G1
      refine s_iald dX12_size_36 (mg_a_fSize hMG1) (by omega) (by omega) rfl ?_
      exact J4 _ (Or.inr (Or.inl ⟨c5, c6, rfl⟩))
    · -- 19 to 22
      refine s_iconst dX12_size_22 (by decide) ?_
      refine s_goto (tgt := 37) dX12_size_23 (by decide) ?_
      exact J4 0 (Or.inr (Or.inr (⟨c5, c6, rfl⟩)))

abbrev nX12_isSameType : List Nat := [a_fHead, a_raw, a_error, a_ident, a_byStamp, a_equation, a_uses, a_reaches, a_solved, a_by, a_fKind, a_fA, a_fB, a_fSize, a_fNext, a_fMark, a_thingKind, a_thingA, a_thingB, a_thingC, a_thingNext, a_thingHead, a_stackOf, a_fMemo, a_sType, a_sValue, a_sFlags, a_sNumber, a_todo, a_phase, a_found]
abbrev jX12_isSameType : List Nat := [26, 42, 35, 36, 40, 41, 25]
def TX12_isSameType : TR := fun as G Qr => ∃ (n k m l : Int) (Hs : List (Int → Int)) (vv : Int → Int), as = [(2, ((1000 : Nat) : Int)), (0, n), (0, k), (0, m), (0, l)] ∧ MG G ∧ (TH G Hs) ∧ (vv ∈ Hs) ∧ (vv = cur G) ∧ (TB G) ∧ (EX G) ∧ (UV G) ∧ (0 ≤ (gS G 1000 35) ∧ (gS G 1000 35) ≤ 1700000000) ∧ ∀ (r : Int) (G' : LG), MG G' → (Fr nX12_isSameType jX12_isSameType G G' ∧ (QP G G' Hs)) → Qr (.inl (some (0, r))) G'
set_option maxHeartbeats 4000000 in
set_option maxRecDepth 100000 in
theorem gX12_isSameType : Good kX12_isSameType yX12_isSameType 10 TX12_isSameType := by
  refine good_of (by decide) rfl rfl (fun as G Qr h => ?_) (fun X as G Qr hcf hR hT oa => ?_)
  · obtain ⟨n, k, m, l, Hs, vv, rfl, -⟩ := h; exact Nat.le_of_ble_eq_true rfl
  obtain ⟨n, k, m, l, Hs, vv, rfl, hM, hTH, hvv, hcu, hTB, hEX, hUV, hm, hQ⟩ := hT
  show WP kX12_isSameType X 0 [some (2, ((1000 : Nat) : Int)), some (0, n), some (0, k), some (0, m), some (0, l), none] [] G
  have hr_n : inR n := okv_R (oa _ (by simp))
  have hr_k : inR k := okv_R (oa _ (by simp))
  have hr_m : inR m := okv_R (oa _ (by simp))
  have hr_l : inR l := okv_R (oa _ (by simp))
  have hnd := hTH.2.2.2.1.1
  refine s_aload_n dX12_isSameType_0 rfl (Int.natCast_nonneg _) ?_
  refine s_iload_n dX12_isSameType_1 rfl ?_
  refine cv_X12_330 rfl gX12_isNode dX12_isSameType_2 hM (by rw [hcf]; decide) (as := [(0, n)]) rfl (Nat.le_of_ble_eq_true rfl) ⟨n, rfl, hM, (by first | assumption | omega), ?_⟩
  show WP kX12_isSameType X 5 [some (2, ((1000 : Nat) : Int)), some (0, n), some (0, k), some (0, m), some (0, l), none] [(0, b2i (0 ≤ n ∧ n < (gS G 1000 18)))] G
  have J2 : ∀ z1 : Int, ((¬ (0 ≤ n ∧ n < (gS G 1000 18))) ∧ z1 = 0) ∨ ((0 ≤ n ∧ n < (gS G 1000 18)) ∧ (¬ (0 ≤ m ∧ m < (gS G 1000 18))) ∧ z1 = 0) ∨ ((0 ≤ n ∧ n < (gS G 1000 18)) ∧ (0 ≤ m ∧ m < (gS G 1000 18)) ∧ z1 = 1) → WP kX12_isSameType X 21 [some (2, ((1000 : Nat) : Int)), some (0, n), some (0, k), some (0, m), some (0, l), none] [(0, z1)] G := by
    intro z1 hz1
    refine s_istore dX12_isSameType_21 (by decide) (lv' := [some (2, ((1000 : Nat) : Int)), some (0, n), some (0, k), some (0, m), some (0, l), some (0, z1)]) rfl ?_
    refine s_iload dX12_isSameType_23 rfl ?_
    refine s_if_eq (tgt := 39) dX12_isSameType_25 (by decide) (fun c3 => ?_) (fun c3 => ?_)
    · -- 25 to 39
      refine s_aload_n dX12_isSameType_39 rfl (Int.natCast_nonneg _) ?_
      refine s_iload dX12_isSameType_40 rfl ?_
      refine s_iload_n dX12_isSameType_42 rfl ?_
      refine cs_X12_291 rfl gX12_isName dX12_isSameType_43 (by rw [hcf]; decide) (as := [(0, k)]) rfl (Nat.le_of_ble_eq_true rfl) ⟨k, rfl, ?_⟩
      show WP kX12_isSameType X 46 [some (2, ((1000 : Nat) : Int)), some (0, n), some (0, k), some (0, m), some (0, l), some (0, z1)] [(0, b2i (0 ≤ k ∧ k ≤ 5)), (0, z1), (2, ((1000 : Nat) : Int))] G
      have J5 : ∀ z4 : Int, ((¬ (0 ≤ k ∧ k ≤ 5)) ∧ z4 = 0) ∨ ((0 ≤ k ∧ k ≤ 5) ∧ (¬ (0 ≤ l ∧ l ≤ 5)) ∧ z4 = 0) ∨ ((0 ≤ k ∧ k ≤ 5) ∧ (0 ≤ l ∧ l ≤ 5) ∧ z4 = 1) → WP kX12_isSameType X 62 [some (2, ((1000 : Nat) : Int)), some (0, n), some (0, k), some (0, m), some (0, l), some (0, z1)] [(0, z4), (0, z1), (2, ((1000 : Nat) : Int))] G := by
        intro z4 hz4
        refine s_iload dX12_isSameType_62 rfl ?_
        have J7 : ∀ z6 : Int, ((z1 = 0) ∧ z6 = 0) ∨ ((¬ z1 = 0) ∧ (¬ (gS G a_error ((n).toNat)) = 0) ∧ z6 = 0) ∨ ((¬ z1 = 0) ∧ ((gS G a_error ((n).toNat)) = 0) ∧ (¬ (gS G a_error ((m).toNat)) = 0) ∧ z6 = 0) ∨ ((¬ z1 = 0) ∧ ((gS G a_error ((n).toNat)) = 0) ∧ ((gS G a_error ((m).toNat)) = 0) ∧ z6 = 1) → WP kX12_isSameType X 90 [some (2, ((1000 : Nat) : Int)), some (0, n), some (0, k), some (0, m), some (0, l), some (0, z1)] [(0, z6), (0, z4), (0, z1), (2, ((1000 : Nat) : Int))] G := by
          intro z6 hz6
          refine cv_X12_298 rfl gX12_goes dX12_isSameType_90 hM (by rw [hcf]; decide) (as := [(0, z1), (0, z4), (0, z6)]) rfl (Nat.le_of_ble_eq_true rfl) ⟨z1, z4, z6, rfl, hM, fun r9 G8 hMG8 hpG8 => ?_⟩
          obtain ⟨eG8, hpG8⟩ := hpG8
          have hFG8 : Fr nX12_isSameType jX12_isSameType G G8 := Fr.setF Fr.rf eG8 (by decide)
          show WP kX12_isSameType X 93 [some (2, ((1000 : Nat) : Int)), some (0, n), some (0, k), some (0, m), some (0, l), some (0, z1)] [(0, r9)] G8
          refine s_if_ne (tgt := 98) dX12_isSameType_93 (by decide) (fun c10 => ?_) (fun c10 => ?_)
          · -- 93 to 98
            have hg9 := goes_r hpG8 (by assumption)
            refine s_aload_n dX12_isSameType_98 rfl (Int.natCast_nonneg _) ?_
            refine s_iload_n dX12_isSameType_99 rfl ?_
            refine s_iload_n dX12_isSameType_100 rfl ?_
            refine cv_X12_413 rfl gX12_isType_ dX12_isSameType_101 hMG8 (by rw [hcf]; decide) (as := [(0, n), (0, k)]) rfl (Nat.le_of_ble_eq_true rfl) ⟨n, k, rfl, hMG8, (by first | assumption | omega), (by first | assumption | omega), ?_⟩
            show WP kX12_isSameType X 104 [some (2, ((1000 : Nat) : Int)), some (0, n), some (0, k), some (0, m), some (0, l), some (0, z1)] [(0, (gS G8 a_sType (6 * n + k).toNat))] G8
            have J12 : ∀ z11 : Int, ((((gS G8 a_sType (6 * n + k).toNat)) < 0) ∧ z11 = 0) ∨ ((¬ ((gS G8 a_sType (6 * n + k).toNat)) < 0) ∧ (¬ ((gS G8 a_sType (6 * n + k).toNat)) = ((gS G8 a_sType (6 * m + l).toNat))) ∧ z11 = 0) ∨ ((¬ ((gS G8 a_sType (6 * n + k).toNat)) < 0) ∧ (((gS G8 a_sType (6 * n + k).toNat)) = ((gS G8 a_sType (6 * m + l).toNat))) ∧ z11 = 1) → WP kX12_isSameType X 128 [some (2, ((1000 : Nat) : Int)), some (0, n), some (0, k), some (0, m), some (0, l), some (0, z1)] [(0, z11)] G8 := by
              intro z11 hz11
              exact s_zret hR dX12_isSameType_128 rfl (by first | exact Or.inl rfl | exact Or.inr rfl | exact b2i_01 | omega) (hQ _ G8 hMG8 (⟨hFG8, (((QP.rf hTH : QP G G Hs)).fr (Fr.setF Fr.rf eG8 (by decide) : Fr [] [25] G G8) (by decide) (by decide) (by decide) (by decide))⟩))
            refine s_if_lt (tgt := 127) dX12_isSameType_104 (by decide) (fun c13 => ?_) (fun c13 => ?_)
            · -- 104 to 127
              refine s_iconst dX12_isSameType_127 (by decide) ?_
              exact J12 0 (Or.inl ⟨c13, rfl⟩)
            · -- 104 to 107
              refine s_aload_n dX12_isSameType_107 rfl (Int.natCast_nonneg _) ?_
              refine s_iload_n dX12_isSameType_108 rfl ?_
              refine s_iload_n dX12_isSameType_109 rfl ?_
              refine cv_X12_413 rfl gX12_isType_ dX12_isSameType_110 hMG8 (by rw [hcf]; decide) (as := [(0, n), (0, k)]) rfl (Nat.le_of_ble_eq_true rfl) ⟨n, k, rfl, hMG8, (by first | assumption | omega), (by first | assumption | omega), ?_⟩
              show WP kX12_isSameType X 113 [some (2, ((1000 : Nat) : Int)), some (0, n), some (0, k), some (0, m), some (0, l), some (0, z1)] [(0, (gS G8 a_sType (6 * n + k).toNat))] G8
              refine s_aload_n dX12_isSameType_113 rfl (Int.natCast_nonneg _) ?_
              refine s_iload_n dX12_isSameType_114 rfl ?_
              refine s_iload dX12_isSameType_115 rfl ?_
              refine cv_X12_413 rfl gX12_isType_ dX12_isSameType_117 hMG8 (by rw [hcf]; decide) (as := [(0, m), (0, l)]) rfl (Nat.le_of_ble_eq_true rfl) ⟨m, l, rfl, hMG8, (by first | assumption | omega), (by first | assumption | omega), ?_⟩
              show WP kX12_isSameType X 120 [some (2, ((1000 : Nat) : Int)), some (0, n), some (0, k), some (0, m), some (0, l), some (0, z1)] [(0, (gS G8 a_sType (6 * m + l).toNat)), (0, (gS G8 a_sType (6 * n + k).toNat))] G8
              refine s_icmp_ne (tgt := 127) dX12_isSameType_120 (by decide) (fun c14 => ?_) (fun c14 => ?_)
              · -- 120 to 127
                refine s_iconst dX12_isSameType_127 (by decide) ?_
                exact J12 0 (Or.inr (Or.inl ⟨c13, c14, rfl⟩))
              · -- 120 to 123
                refine s_iconst dX12_isSameType_123 (by decide) ?_
                refine s_goto (tgt := 128) dX12_isSameType_124 (by decide) ?_
                exact J12 1 (Or.inr (Or.inr (⟨c13, c14, rfl⟩)))
          · -- 93 to 96
            refine s_iconst dX12_isSameType_96 (by decide) ?_
            exact s_zret hR dX12_isSameType_97 rfl (by first | exact Or.inl rfl | exact Or.inr rfl | exact b2i_01 | omega) (hQ _ G8 hMG8 (⟨hFG8, (((QP.rf hTH : QP G G Hs)).fr (Fr.setF Fr.rf eG8 (by decide) : Fr [] [25] G G8) (by decide) (by decide) (by decide) (by decide))⟩))
        refine s_if_eq (tgt := 89) dX12_isSameType_64 (by decide) (fun c15 => ?_) (fun c15 => ?_)
        · -- 64 to 89
          refine s_iconst dX12_isSameType_89 (by decide) ?_
          exact J7 0 (Or.inl ⟨c15, rfl⟩)
        · -- 64 to 67
          refine s_aload_n dX12_isSameType_67 rfl (Int.natCast_nonneg _) ?_
          refine gf_error rfl dX12_isSameType_68 hM ?_
          refine s_iload_n dX12_isSameType_71 rfl ?_
          refine s_iald dX12_isSameType_72 (mg_a_error hM) (by omega) (by omega) rfl ?_
          refine s_if_ne (tgt := 89) dX12_isSameType_73 (by decide) (fun c16 => ?_) (fun c16 => ?_)
          · -- 73 to 89
            refine s_iconst dX12_isSameType_89 (by decide) ?_
            exact J7 0 (Or.inr (Or.inl ⟨c15, c16, rfl⟩))
          · -- 73 to 76
            refine s_aload_n dX12_isSameType_76 rfl (Int.natCast_nonneg _) ?_
            refine gf_error rfl dX12_isSameType_77 hM ?_
            refine s_iload_n dX12_isSameType_80 rfl ?_
            refine s_iald dX12_isSameType_81 (mg_a_error hM) (by omega) (by omega) rfl ?_
            refine s_if_ne (tgt := 89) dX12_isSameType_82 (by decide) (fun c17 => ?_) (fun c17 => ?_)
            · -- 82 to 89
              refine s_iconst dX12_isSameType_89 (by decide) ?_
              exact J7 0 (Or.inr (Or.inr (Or.inl ⟨c15, c16, c17, rfl⟩)))
            · -- 82 to 85
              refine s_iconst dX12_isSameType_85 (by decide) ?_
              refine s_goto (tgt := 90) dX12_isSameType_86 (by decide) ?_
              exact J7 1 (Or.inr (Or.inr (Or.inr (⟨c15, c16, c17, rfl⟩))))
      refine s_if_eqB (tgt := 61) dX12_isSameType_46 (by decide) (fun c18 => ?_) (fun c18 => ?_)
      · -- 46 to 61
        refine s_iconst dX12_isSameType_61 (by decide) ?_
        exact J5 0 (Or.inl ⟨c18, rfl⟩)
      · -- 46 to 49
        refine s_iload dX12_isSameType_49 rfl ?_
        refine cs_X12_291 rfl gX12_isName dX12_isSameType_51 (by rw [hcf]; decide) (as := [(0, l)]) rfl (Nat.le_of_ble_eq_true rfl) ⟨l, rfl, ?_⟩
        show WP kX12_isSameType X 54 [some (2, ((1000 : Nat) : Int)), some (0, n), some (0, k), some (0, m), some (0, l), some (0, z1)] [(0, b2i (0 ≤ l ∧ l ≤ 5)), (0, z1), (2, ((1000 : Nat) : Int))] G
        refine s_if_eqB (tgt := 61) dX12_isSameType_54 (by decide) (fun c19 => ?_) (fun c19 => ?_)
        · -- 54 to 61
          refine s_iconst dX12_isSameType_61 (by decide) ?_
          exact J5 0 (Or.inr (Or.inl ⟨c18, c19, rfl⟩))
        · -- 54 to 57
          refine s_iconst dX12_isSameType_57 (by decide) ?_
          refine s_goto (tgt := 62) dX12_isSameType_58 (by decide) ?_
          exact J5 1 (Or.inr (Or.inr (⟨c18, c19, rfl⟩)))
    · -- 25 to 28
      refine s_aload_n dX12_isSameType_28 rfl (Int.natCast_nonneg _) ?_
      refine s_lconst dX12_isSameType_29 ?_
      show WP kX12_isSameType X 30 [some (2, ((1000 : Nat) : Int)), some (0, n), some (0, k), some (0, m), some (0, l), some (0, z1)] [(1, 1), (2, ((1000 : Nat) : Int))] G
      refine s_iload_n dX12_isSameType_30 rfl ?_
      refine s_lshl dX12_isSameType_31 ?_
      refine s_lconst dX12_isSameType_32 ?_
      show WP kX12_isSameType X 33 [some (2, ((1000 : Nat) : Int)), some (0, n), some (0, k), some (0, m), some (0, l), some (0, z1)] [(1, 1), (1, l_shl 1 n), (2, ((1000 : Nat) : Int))] G
      refine s_iload_n dX12_isSameType_33 rfl ?_
      refine s_lshl dX12_isSameType_34 ?_
      refine s_lor dX12_isSameType_35 ?_
      refine cv_X12_477 rfl gX12_faces dX12_isSameType_36 hM (by rw [hcf]; decide) (as := [(1, l_or (l_shl 1 n) (l_shl 1 m))]) rfl (Nat.le_of_ble_eq_true rfl) ⟨l_or (l_shl 1 n) (l_shl 1 m), Hs, vv, n, m, rfl, hM, (by exact hTH), (by exact hvv), (by exact hcu), (by exact hTB), (by exact hEX), (by exact hUV), (by exact hm), (by omega), (by omega), (by intro m m0 m1 q; exact ((bitL_or m0 m1).mp q).imp (fun z => (bitL_shl (by omega) (by omega) m0 m1).mp z) (fun z => (bitL_shl (by omega) (by omega) m0 m1).mp z)), fun G20 hMG20 hpG20 => ?_⟩
      obtain ⟨hfG20, hpG20⟩ := hpG20
      have hFG20 : Fr nX12_isSameType jX12_isSameType G G20 := Fr.call Fr.rf hfG20 (by decide) (by decide)
      show WP kX12_isSameType X 39 [some (2, ((1000 : Nat) : Int)), some (0, n), some (0, k), some (0, m), some (0, l), some (0, z1)] [] G20
      refine s_aload_n dX12_isSameType_39 rfl (Int.natCast_nonneg _) ?_
      refine s_iload dX12_isSameType_40 rfl ?_
      refine s_iload_n dX12_isSameType_42 rfl ?_
      refine cs_X12_291 rfl gX12_isName dX12_isSameType_43 (by rw [hcf]; decide) (as := [(0, k)]) rfl (Nat.le_of_ble_eq_true rfl) ⟨k, rfl, ?_⟩
      show WP kX12_isSameType X 46 [some (2, ((1000 : Nat) : Int)), some (0, n), some (0, k), some (0, m), some (0, l), some (0, z1)] [(0, b2i (0 ≤ k ∧ k ≤ 5)), (0, z1), (2, ((1000 : Nat) : Int))] G20
      have J23 : ∀ z22 : Int, ((¬ (0 ≤ k ∧ k ≤ 5)) ∧ z22 = 0) ∨ ((0 ≤ k ∧ k ≤ 5) ∧ (¬ (0 ≤ l ∧ l ≤ 5)) ∧ z22 = 0) ∨ ((0 ≤ k ∧ k ≤ 5) ∧ (0 ≤ l ∧ l ≤ 5) ∧ z22 = 1) → WP kX12_isSameType X 62 [some (2, ((1000 : Nat) : Int)), some (0, n), some (0, k), some (0, m), some (0, l), some (0, z1)] [(0, z22), (0, z1), (2, ((1000 : Nat) : Int))] G20 := by
        intro z22 hz22
        refine s_iload dX12_isSameType_62 rfl ?_
        have J25 : ∀ z24 : Int, ((z1 = 0) ∧ z24 = 0) ∨ ((¬ z1 = 0) ∧ (¬ (gS G20 a_error ((n).toNat)) = 0) ∧ z24 = 0) ∨ ((¬ z1 = 0) ∧ ((gS G20 a_error ((n).toNat)) = 0) ∧ (¬ (gS G20 a_error ((m).toNat)) = 0) ∧ z24 = 0) ∨ ((¬ z1 = 0) ∧ ((gS G20 a_error ((n).toNat)) = 0) ∧ ((gS G20 a_error ((m).toNat)) = 0) ∧ z24 = 1) → WP kX12_isSameType X 90 [some (2, ((1000 : Nat) : Int)), some (0, n), some (0, k), some (0, m), some (0, l), some (0, z1)] [(0, z24), (0, z22), (0, z1), (2, ((1000 : Nat) : Int))] G20 := by
          intro z24 hz24
          refine cv_X12_298 rfl gX12_goes dX12_isSameType_90 hMG20 (by rw [hcf]; decide) (as := [(0, z1), (0, z22), (0, z24)]) rfl (Nat.le_of_ble_eq_true rfl) ⟨z1, z22, z24, rfl, hMG20, fun r27 G26 hMG26 hpG26 => ?_⟩
          obtain ⟨eG26, hpG26⟩ := hpG26
          have hFG26 : Fr nX12_isSameType jX12_isSameType G G26 := Fr.setF hFG20 eG26 (by decide)
          show WP kX12_isSameType X 93 [some (2, ((1000 : Nat) : Int)), some (0, n), some (0, k), some (0, m), some (0, l), some (0, z1)] [(0, r27)] G26
          refine s_if_ne (tgt := 98) dX12_isSameType_93 (by decide) (fun c28 => ?_) (fun c28 => ?_)
          · -- 93 to 98
            have hg9 := goes_r hpG26 (by assumption)
            refine s_aload_n dX12_isSameType_98 rfl (Int.natCast_nonneg _) ?_
            refine s_iload_n dX12_isSameType_99 rfl ?_
            refine s_iload_n dX12_isSameType_100 rfl ?_
            refine cv_X12_413 rfl gX12_isType_ dX12_isSameType_101 hMG26 (by rw [hcf]; decide) (as := [(0, n), (0, k)]) rfl (Nat.le_of_ble_eq_true rfl) ⟨n, k, rfl, hMG26, (by first | assumption | omega), (by first | assumption | omega), ?_⟩
            show WP kX12_isSameType X 104 [some (2, ((1000 : Nat) : Int)), some (0, n), some (0, k), some (0, m), some (0, l), some (0, z1)] [(0, (gS G26 a_sType (6 * n + k).toNat))] G26
            have J30 : ∀ z29 : Int, ((((gS G26 a_sType (6 * n + k).toNat)) < 0) ∧ z29 = 0) ∨ ((¬ ((gS G26 a_sType (6 * n + k).toNat)) < 0) ∧ (¬ ((gS G26 a_sType (6 * n + k).toNat)) = ((gS G26 a_sType (6 * m + l).toNat))) ∧ z29 = 0) ∨ ((¬ ((gS G26 a_sType (6 * n + k).toNat)) < 0) ∧ (((gS G26 a_sType (6 * n + k).toNat)) = ((gS G26 a_sType (6 * m + l).toNat))) ∧ z29 = 1) → WP kX12_isSameType X 128 [some (2, ((1000 : Nat) : Int)), some (0, n), some (0, k), some (0, m), some (0, l), some (0, z1)] [(0, z29)] G26 := by
              intro z29 hz29
              exact s_zret hR dX12_isSameType_128 rfl (by first | exact Or.inl rfl | exact Or.inr rfl | exact b2i_01 | omega) (hQ _ G26 hMG26 (⟨hFG26, ((hpG20.qp).fr (Fr.setF Fr.rf eG26 (by decide) : Fr [] [25] G20 G26) (by decide) (by decide) (by decide) (by decide))⟩))
            refine s_if_lt (tgt := 127) dX12_isSameType_104 (by decide) (fun c31 => ?_) (fun c31 => ?_)
            · -- 104 to 127
              refine s_iconst dX12_isSameType_127 (by decide) ?_
              exact J30 0 (Or.inl ⟨c31, rfl⟩)
            · -- 104 to 107
              refine s_aload_n dX12_isSameType_107 rfl (Int.natCast_nonneg _) ?_
              refine s_iload_n dX12_isSameType_108 rfl ?_
              refine s_iload_n dX12_isSameType_109 rfl ?_
              refine cv_X12_413 rfl gX12_isType_ dX12_isSameType_110 hMG26 (by rw [hcf]; decide) (as := [(0, n), (0, k)]) rfl (Nat.le_of_ble_eq_true rfl) ⟨n, k, rfl, hMG26, (by first | assumption | omega), (by first | assumption | omega), ?_⟩
              show WP kX12_isSameType X 113 [some (2, ((1000 : Nat) : Int)), some (0, n), some (0, k), some (0, m), some (0, l), some (0, z1)] [(0, (gS G26 a_sType (6 * n + k).toNat))] G26
              refine s_aload_n dX12_isSameType_113 rfl (Int.natCast_nonneg _) ?_
              refine s_iload_n dX12_isSameType_114 rfl ?_
              refine s_iload dX12_isSameType_115 rfl ?_
              refine cv_X12_413 rfl gX12_isType_ dX12_isSameType_117 hMG26 (by rw [hcf]; decide) (as := [(0, m), (0, l)]) rfl (Nat.le_of_ble_eq_true rfl) ⟨m, l, rfl, hMG26, (by first | assumption | omega), (by first | assumption | omega), ?_⟩
              show WP kX12_isSameType X 120 [some (2, ((1000 : Nat) : Int)), some (0, n), some (0, k), some (0, m), some (0, l), some (0, z1)] [(0, (gS G26 a_sType (6 * m + l).toNat)), (0, (gS G26 a_sType (6 * n + k).toNat))] G26
              refine s_icmp_ne (tgt := 127) dX12_isSameType_120 (by decide) (fun c32 => ?_) (fun c32 => ?_)
              · -- 120 to 127
                refine s_iconst dX12_isSameType_127 (by decide) ?_
                exact J30 0 (Or.inr (Or.inl ⟨c31, c32, rfl⟩))
              · -- 120 to 123
                refine s_iconst dX12_isSameType_123 (by decide) ?_
                refine s_goto (tgt := 128) dX12_isSameType_124 (by decide) ?_
                exact J30 1 (Or.inr (Or.inr (⟨c31, c32, rfl⟩)))
          · -- 93 to 96
            refine s_iconst dX12_isSameType_96 (by decide) ?_
            exact s_zret hR dX12_isSameType_97 rfl (by first | exact Or.inl rfl | exact Or.inr rfl | exact b2i_01 | omega) (hQ _ G26 hMG26 (⟨hFG26, ((hpG20.qp).fr (Fr.setF Fr.rf eG26 (by decide) : Fr [] [25] G20 G26) (by decide) (by decide) (by decide) (by decide))⟩))
        refine s_if_eq (tgt := 89) dX12_isSameType_64 (by decide) (fun c33 => ?_) (fun c33 => ?_)
        · -- 64 to 89
          refine s_iconst dX12_isSameType_89 (by decide) ?_
          exact J25 0 (Or.inl ⟨c33, rfl⟩)
        · -- 64 to 67
          refine s_aload_n dX12_isSameType_67 rfl (Int.natCast_nonneg _) ?_
          refine gf_error rfl dX12_isSameType_68 hMG20 ?_
          refine s_iload_n dX12_isSameType_71 rfl ?_
          refine s_iald dX12_isSameType_72 (mg_a_error hMG20) (by omega) (by omega) rfl ?_
          refine s_if_ne (tgt := 89) dX12_isSameType_73 (by decide) (fun c34 => ?_) (fun c34 => ?_)
          · -- 73 to 89
            refine s_iconst dX12_isSameType_89 (by decide) ?_
            exact J25 0 (Or.inr (Or.inl ⟨c33, c34, rfl⟩))
          · -- 73 to 76
            refine s_aload_n dX12_isSameType_76 rfl (Int.natCast_nonneg _) ?_
            refine gf_error rfl dX12_isSameType_77 hMG20 ?_
            refine s_iload_n dX12_isSameType_80 rfl ?_
            refine s_iald dX12_isSameType_81 (mg_a_error hMG20) (by omega) (by omega) rfl ?_
            refine s_if_ne (tgt := 89) dX12_isSameType_82 (by decide) (fun c35 => ?_) (fun c35 => ?_)
            · -- 82 to 89
              refine s_iconst dX12_isSameType_89 (by decide) ?_
              exact J25 0 (Or.inr (Or.inr (Or.inl ⟨c33, c34, c35, rfl⟩)))
            · -- 82 to 85
              refine s_iconst dX12_isSameType_85 (by decide) ?_
              refine s_goto (tgt := 90) dX12_isSameType_86 (by decide) ?_
              exact J25 1 (Or.inr (Or.inr (Or.inr (⟨c33, c34, c35, rfl⟩))))
      refine s_if_eqB (tgt := 61) dX12_isSameType_46 (by decide) (fun c36 => ?_) (fun c36 => ?_)
      · -- 46 to 61
        refine s_iconst dX12_isSameType_61 (by decide) ?_
        exact J23 0 (Or.inl ⟨c36, rfl⟩)
      · -- 46 to 49
        refine s_iload dX12_isSameType_49 rfl ?_
        refine cs_X12_291 rfl gX12_isName dX12_isSameType_51 (by rw [hcf]; decide) (as := [(0, l)]) rfl (Nat.le_of_ble_eq_true rfl) ⟨l, rfl, ?_⟩
        show WP kX12_isSameType X 54 [some (2, ((1000 : Nat) : Int)), some (0, n), some (0, k), some (0, m), some (0, l), some (0, z1)] [(0, b2i (0 ≤ l ∧ l ≤ 5)), (0, z1), (2, ((1000 : Nat) : Int))] G20
        refine s_if_eqB (tgt := 61) dX12_isSameType_54 (by decide) (fun c37 => ?_) (fun c37 => ?_)
        · -- 54 to 61
          refine s_iconst dX12_isSameType_61 (by decide) ?_
          exact J23 0 (Or.inr (Or.inl ⟨c36, c37, rfl⟩))
        · -- 54 to 57
          refine s_iconst dX12_isSameType_57 (by decide) ?_
          refine s_goto (tgt := 62) dX12_isSameType_58 (by decide) ?_
          exact J23 1 (Or.inr (Or.inr (⟨c36, c37, rfl⟩)))
  refine s_if_eqB (tgt := 20) dX12_isSameType_5 (by decide) (fun c38 => ?_) (fun c38 => ?_)
  · -- 5 to 20
    refine s_iconst dX12_isSameType_20 (by decide) ?_
    exact J2 0 (Or.inl ⟨c38, rfl⟩)
  · -- 5 to 8
    refine s_aload_n dX12_isSameType_8 rfl (Int.natCast_nonneg _) ?_
    refine s_iload_n dX12_isSameType_9 rfl ?_
    refine cv_X12_330 rfl gX12_isNode dX12_isSameType_10 hM (by rw [hcf]; decide) (as := [(0, m)]) rfl (Nat.le_of_ble_eq_true rfl) ⟨m, rfl, hM, (by first | assumption | omega), ?_⟩
    show WP kX12_isSameType X 13 [some (2, ((1000 : Nat) : Int)), some (0, n), some (0, k), some (0, m), some (0, l), none] [(0, b2i (0 ≤ m ∧ m < (gS G 1000 18)))] G
    refine s_if_eqB (tgt := 20) dX12_isSameType_13 (by decide) (fun c39 => ?_) (fun c39 => ?_)
    · -- 13 to 20
      refine s_iconst dX12_isSameType_20 (by decide) ?_
      exact J2 0 (Or.inr (Or.inl ⟨c38, c39, rfl⟩))
    · -- 13 to 16
      refine s_iconst dX12_isSameType_16 (by decide) ?_
      refine s_goto (tgt := 21) dX12_isSameType_17 (by decide) ?_
      exact J2 1 (Or.inr (Or.inr (⟨c38, c39, rfl⟩)))
