def TX12_versionOf : TR := fun as G Qr => ∃ (n : Int), as = [(2, ((1000 : Nat) : Int)), (0, n)] ∧ MG G ∧ (0 ≤ n ∧ n < 40) ∧ (0 ≤ (gS G a_nFirst (n).toNat) ∧ (gS G a_nFirst (n).toNat) < 8) ∧ (-1 ≤ (gS G a_nSecond (n).toNat) ∧ (gS G a_nSecond (n).toNat) ≤ 5) ∧ (0 ≤ (gS G a_versions ((gS G a_nFirst (n).toNat)).toNat) ∧ (gS G a_versions ((gS G a_nFirst (n).toNat)).toNat) ≤ 5) ∧ Qr (.inl (some (0, (if (gS G a_nSecond (n).toNat) = -1 then 5 * (gS G a_nFirst (n).toNat) + ((gS G a_versions ((gS G a_nFirst (n).toNat)).toNat) - 1) else 5 * (gS G a_nFirst (n).toNat) + (gS G a_nSecond (n).toNat))))) G
set_option maxHeartbeats 4000000 in
set_option maxRecDepth 100000 in
theorem gX12_versionOf : Good kX12_versionOf yX12_versionOf 2 TX12_versionOf := by
  refine good_of (by decide) rfl rfl (fun as G Qr h => ?_) (fun X as G Qr hcf hR hT oa => ?_)
  · obtain ⟨n, rfl, -⟩ := h; exact Nat.le_of_ble_eq_true rfl
  obtain ⟨n, rfl, hM, hn, h1, h2, h3, hQ⟩ := hT
  show WP kX12_versionOf X 0 [some (2, ((1000 : Nat) : Int)), some (0, n)] [] G
  have hr_n : inR n := okv_R (oa _ (by simp))
  refine s_aload_n dX12_versionOf_0 rfl (Int.natCast_nonneg _) ?_
  refine gf_nSecond rfl dX12_versionOf_1 hM ?_
  refine s_iload_n dX12_versionOf_4 rfl ?_
  refine s_iald dX12_versionOf_5 (mg_a_nSecond hM) (by omega) (by omega) rfl ?_
  refine s_iconst dX12_versionOf_6 (by decide) ?_
  have J2 : ∀ z1 : Int, ((¬ (gS G a_nSecond ((n).toNat)) = ((-1))) ∧ z1 = 5 * (gS G a_nFirst ((n).toNat)) + (gS G a_nSecond ((n).toNat))) ∨ (((gS G a_nSecond ((n).toNat)) = ((-1))) ∧ z1 = 5 * (gS G a_nFirst ((n).toNat)) + ((gS G a_versions ((gS G a_nFirst ((n).toNat))).toNat) - 1)) → WP kX12_versionOf X 38 [some (2, ((1000 : Nat) : Int)), some (0, n)] [(0, z1)] G := by
    intro z1 hz1
    exact s_iret hR dX12_versionOf_38 rfl (by rw [show z1 = (if (gS G a_nSecond (n).toNat) = -1 then 5 * (gS G a_nFirst (n).toNat) + ((gS G a_versions ((gS G a_nFirst (n).toNat)).toNat) - 1) else 5 * (gS G a_nFirst (n).toNat) + (gS G a_nSecond (n).toNat)) from (by split <;> omega)]; exact hQ)
  refine s_icmp_ne (tgt := 23) dX12_versionOf_7 (by decide) (fun c3 => ?_) (fun c3 => ?_)
  · -- 7 to 23
    refine s_aload_n dX12_versionOf_23 rfl (Int.natCast_nonneg _) ?_
    refine gf_nFirst rfl dX12_versionOf_24 hM ?_
    refine s_iload_n dX12_versionOf_27 rfl ?_
    refine s_iald dX12_versionOf_28 (mg_a_nFirst hM) (by omega) (by omega) rfl ?_
    refine s_aload_n dX12_versionOf_29 rfl (Int.natCast_nonneg _) ?_
    refine gf_nSecond rfl dX12_versionOf_30 hM ?_
    refine s_iload_n dX12_versionOf_33 rfl ?_
    refine s_iald dX12_versionOf_34 (mg_a_nSecond hM) (by omega) (by omega) rfl ?_
    refine cs_X12_316 rfl gX12_at dX12_versionOf_35 (by rw [hcf]; decide) (as := [(0, gS G a_nFirst ((n).toNat)), (0, gS G a_nSecond ((n).toNat))]) rfl (Nat.le_of_ble_eq_true rfl) ⟨gS G a_nFirst ((n).toNat), gS G a_nSecond ((n).toNat), rfl, (by first | assumption | omega), (by first | assumption | omega), ?_⟩
    show WP kX12_versionOf X 38 [some (2, ((1000 : Nat) : Int)), some (0, n)] [(0, 5 * (gS G a_nFirst ((n).toNat)) + (gS G a_nSecond ((n).toNat)))] G
    exact J2 _ (Or.inl ⟨c3, rfl⟩)
  · -- 7 to 10
    refine s_aload_n dX12_versionOf_10 rfl (Int.natCast_nonneg _) ?_
    refine s_aload_n dX12_versionOf_11 rfl (Int.natCast_nonneg _) ?_
    refine gf_nFirst rfl dX12_versionOf_12 hM ?_
    refine s_iload_n dX12_versionOf_15 rfl ?_
    refine s_iald dX12_versionOf_16 (mg_a_nFirst hM) (by omega) (by omega) rfl ?_
    refine cv_X12_323 rfl gX12_latest dX12_versionOf_17 hM (by rw [hcf]; decide) (as := [(0, gS G a_nFirst ((n).toNat))]) rfl (Nat.le_of_ble_eq_true rfl) ⟨gS G a_nFirst ((n).toNat), rfl, hM, (by first | assumption | omega), (by first | assumption | omega), ?_⟩
    show WP kX12_versionOf X 20 [some (2, ((1000 : Nat) : Int)), some (0, n)] [(0, 5 * (gS G a_nFirst ((n).toNat)) + ((gS G a_versions ((gS G a_nFirst ((n).toNat))).toNat) - 1))] G
    refine s_goto (tgt := 38) dX12_versionOf_20 (by decide) ?_
    exact J2 _ (Or.inr (⟨c3, rfl⟩))

abbrev nX12_identOf : List Nat := [a_thingKind, a_thingA, a_thingB, a_thingC, a_thingNext, a_thingHead]
abbrev jX12_identOf : List Nat := [42]
def TX12_identOf : TR := fun as G Qr => ∃ (n : Int) (Hs : List (Int → Int)) (vv : Int → Int), as = [(2, ((1000 : Nat) : Int)), (0, n)] ∧ MG G ∧ (TH G Hs) ∧ (vv ∈ Hs) ∧ (vv = cur G) ∧ (UV G) ∧ (0 ≤ n ∧ n < (gS G 1000 18)) ∧ (1 ≤ (gS G a_nKind (n).toNat) → idN G vv ((gS G a_nFirst (n).toNat)) ((gS G a_ident ((gS G a_nFirst (n).toNat)).toNat))) ∧ (1 ≤ (gS G a_nKind (n).toNat) ∧ (gS G a_nKind (n).toNat) ≤ 4 → idN G vv ((gS G a_nSecond (n).toNat)) ((gS G a_ident ((gS G a_nSecond (n).toNat)).toNat))) ∧ ∀ (r : Int) (G' : LG), MG G' → (Fr nX12_identOf jX12_identOf G G' ∧ (TH G' Hs ∧ TX G G' ∧ idN G' vv n r ∧ (gS G' 1000 42) ≤ (gS G 1000 42) + 1)) → Qr (.inl (some (0, r))) G'
set_option maxHeartbeats 4000000 in
set_option maxRecDepth 100000 in
theorem gX12_identOf : Good kX12_identOf yX12_identOf 3 TX12_identOf := by
  refine good_of (by decide) rfl rfl (fun as G Qr h => ?_) (fun X as G Qr hcf hR hT oa => ?_)
  · obtain ⟨n, Hs, vv, rfl, -⟩ := h; exact Nat.le_of_ble_eq_true rfl
  obtain ⟨n, Hs, vv, rfl, hM, hTH, hvv, hcu, hU, hn, hi1, hi2, hQ⟩ := hT
  show WP kX12_identOf X 0 [some (2, ((1000 : Nat) : Int)), some (0, n), none, none] [] G
  have hr_n : inR n := okv_R (oa _ (by simp))
  have hND := hTH.2.2.2.1
  have hnd := hND.2 n hn.1 hn.2
  have hn4 := hND.1
  have hnd1 := hnd.1
  have hnd2 := hnd.2.1
  have hnd3 := hnd.2.2.1
  have hnd4 := hnd.2.2.2.1
  have hU1 := hU.1
  have hvr : (gS G a_nKind (n).toNat) = 0 → 1 ≤ (gS G a_versions ((gS G a_nFirst (n).toNat)).toNat) ∧ (gS G a_versions ((gS G a_nFirst (n).toNat)).toNat) ≤ 5 := fun q => by have z9 := hnd2 q; exact ⟨hU.2.2.1 _ z9.1 z9.2.1, (hU.2.1 _ z9.1 (by omega)).2⟩
  refine s_aload_n dX12_identOf_0 rfl (Int.natCast_nonneg _) ?_
  refine gf_nKind rfl dX12_identOf_1 hM ?_
  refine s_iload_n dX12_identOf_4 rfl ?_
  refine s_iald dX12_identOf_5 (mg_a_nKind hM) (by omega) (by omega) rfl ?_
  refine s_istore_n dX12_identOf_6 (by decide) (lv' := [some (2, ((1000 : Nat) : Int)), some (0, n), some (0, gS G a_nKind ((n).toNat)), none]) rfl ?_
  refine s_iload_n dX12_identOf_7 rfl ?_
  refine s_if_ne (tgt := 24) dX12_identOf_8 (by decide) (fun c1 => ?_) (fun c1 => ?_)
  · -- 8 to 24
    refine s_iload_n dX12_identOf_24 rfl ?_
    refine s_iconst dX12_identOf_25 (by decide) ?_
    refine s_icmp_eq (tgt := 38) dX12_identOf_26 (by decide) (fun c2 => ?_) (fun c2 => ?_)
    · -- 26 to 38
      refine s_aload_n dX12_identOf_38 rfl (Int.natCast_nonneg _) ?_
      refine s_iconst dX12_identOf_39 (by decide) ?_
      refine s_iload_n dX12_identOf_40 rfl ?_
      refine s_iconst dX12_identOf_41 (by decide) ?_
      refine s_iconst dX12_identOf_42 (by decide) ?_
      refine cv_X12_363 rfl gX12_thing dX12_identOf_43 hM (by rw [hcf]; decide) (as := [(0, 0), (0, n), (0, 0), (0, 0)]) rfl (Nat.le_of_ble_eq_true rfl) ⟨0, n, 0, 0, Hs, vv, rfl, hM, (by exact hTH), (by exact hvv), (by intro G9 h9 t9 k9; have e0 := h9.nd (n := a_nKind) (by decide) (n).toNat; have e1 := h9.nd (n := a_nFirst) (by decide) (n).toNat; have e2 := h9.nd (n := a_nSecond) (by decide) (n).toNat; have e3 := h9.nd (n := a_nThird) (by decide) (n).toNat; have e4 := h9.nd (n := a_isGenerative) (by decide) (n).toNat; exact ⟨n, ⟨hn.1, by rw [h9.2.1]; exact hn.2⟩, Or.inl (idN.s (by rw [e0]; omega) (by unfold selfN; rw [e0, e4]; omega) k9)⟩), fun r4 G3 hMG3 hpG3 => ?_⟩
      obtain ⟨hfG3, hpG3⟩ := hpG3
      have hFG3 : Fr nX12_identOf jX12_identOf G G3 := Fr.call Fr.rf hfG3 (by decide) (by decide)
      show WP kX12_identOf X 46 [some (2, ((1000 : Nat) : Int)), some (0, n), some (0, gS G a_nKind ((n).toNat)), none] [(0, r4)] G3
      exact s_iret hR dX12_identOf_46 rfl (hQ _ G3 hMG3 (⟨hFG3, ⟨hpG3.1, hpG3.2.1, by have h9 := hpG3.2.1; have k9 := hpG3.2.2.1; have e0 := h9.nd (n := a_nKind) (by decide) (n).toNat; have e1 := h9.nd (n := a_nFirst) (by decide) (n).toNat; have e2 := h9.nd (n := a_nSecond) (by decide) (n).toNat; have e3 := h9.nd (n := a_nThird) (by decide) (n).toNat; have e4 := h9.nd (n := a_isGenerative) (by decide) (n).toNat; exact idN.s (by rw [e0]; omega) (by unfold selfN; rw [e0, e4]; omega) k9, hpG3.2.2.2⟩⟩))
    · -- 26 to 29
      refine s_aload_n dX12_identOf_29 rfl (Int.natCast_nonneg _) ?_
      refine gf_isGenerative rfl dX12_identOf_30 hM ?_
      refine s_iload_n dX12_identOf_33 rfl ?_
      refine s_bald dX12_identOf_34 (mg_a_isGenerative hM) (by omega) (by omega) rfl ?_
      refine s_if_eq (tgt := 47) dX12_identOf_35 (by decide) (fun c5 => ?_) (fun c5 => ?_)
      · -- 35 to 47
        have hf3 := hnd3 (by omega)
        refine s_aload_n dX12_identOf_47 rfl (Int.natCast_nonneg _) ?_
        refine gf_ident rfl dX12_identOf_48 hM ?_
        refine s_aload_n dX12_identOf_51 rfl (Int.natCast_nonneg _) ?_
        refine gf_nFirst rfl dX12_identOf_52 hM ?_
        refine s_iload_n dX12_identOf_55 rfl ?_
        refine s_iald dX12_identOf_56 (mg_a_nFirst hM) (by omega) (by omega) rfl ?_
        refine s_iald dX12_identOf_57 (mg_a_ident hM) (by omega) (by omega) rfl ?_
        refine s_istore_n dX12_identOf_58 (by decide) (lv' := [some (2, ((1000 : Nat) : Int)), some (0, n), some (0, gS G a_nKind ((n).toNat)), some (0, gS G a_ident ((gS G a_nFirst ((n).toNat)).toNat))]) rfl ?_
        refine s_iload_n dX12_identOf_59 rfl ?_
        refine s_iconst dX12_identOf_60 (by decide) ?_
        refine s_icmp_lt (tgt := 96) dX12_identOf_61 (by decide) (fun c6 => ?_) (fun c6 => ?_)
        · -- 61 to 96
          have hs3 := hnd4 (by omega)
          refine s_aload_n dX12_identOf_96 rfl (Int.natCast_nonneg _) ?_
          refine s_iconst dX12_identOf_97 (by decide) ?_
          refine s_iload_n dX12_identOf_98 rfl ?_
          refine s_iadd dX12_identOf_99 (by omega) ?_
          refine s_iload_n dX12_identOf_100 rfl ?_
          refine s_aload_n dX12_identOf_101 rfl (Int.natCast_nonneg _) ?_
          refine gf_ident rfl dX12_identOf_102 hM ?_
          refine s_aload_n dX12_identOf_105 rfl (Int.natCast_nonneg _) ?_
          refine gf_nSecond rfl dX12_identOf_106 hM ?_
          refine s_iload_n dX12_identOf_109 rfl ?_
          refine s_iald dX12_identOf_110 (mg_a_nSecond hM) (by omega) (by omega) rfl ?_
          refine s_iald dX12_identOf_111 (mg_a_ident hM) (by omega) (by omega) rfl ?_
          refine s_iconst dX12_identOf_112 (by decide) ?_
          refine cv_X12_363 rfl gX12_thing dX12_identOf_113 hM (by rw [hcf]; decide) (as := [(0, 2 + (gS G a_nKind ((n).toNat))), (0, gS G a_ident ((gS G a_nFirst ((n).toNat)).toNat)), (0, gS G a_ident ((gS G a_nSecond ((n).toNat)).toNat)), (0, 0)]) rfl (Nat.le_of_ble_eq_true rfl) ⟨2 + (gS G a_nKind ((n).toNat)), gS G a_ident ((gS G a_nFirst ((n).toNat)).toNat), gS G a_ident ((gS G a_nSecond ((n).toNat)).toNat), 0, Hs, vv, rfl, hM, (by exact hTH), (by exact hvv), (by intro G9 h9 t9 k9; have e0 := h9.nd (n := a_nKind) (by decide) (n).toNat; have e1 := h9.nd (n := a_nFirst) (by decide) (n).toNat; have e2 := h9.nd (n := a_nSecond) (by decide) (n).toNat; have e3 := h9.nd (n := a_nThird) (by decide) (n).toNat; have e4 := h9.nd (n := a_isGenerative) (by decide) (n).toNat; exact ⟨n, ⟨hn.1, by rw [h9.2.1]; exact hn.2⟩, Or.inl (idN.b (by rw [e0]; omega) (by unfold selfN; rw [e0, e4]; omega) (by rw [e1]; exact h9.idN (hi1 (by omega))) (by rw [e2]; exact h9.idN (hi2 (by omega))) (by rw [e0]; exact k9))⟩), fun r8 G7 hMG7 hpG7 => ?_⟩
          obtain ⟨hfG7, hpG7⟩ := hpG7
          have hFG7 : Fr nX12_identOf jX12_identOf G G7 := Fr.call Fr.rf hfG7 (by decide) (by decide)
          show WP kX12_identOf X 116 [some (2, ((1000 : Nat) : Int)), some (0, n), some (0, gS G a_nKind ((n).toNat)), some (0, gS G a_ident ((gS G a_nFirst ((n).toNat)).toNat))] [(0, r8)] G7
          exact s_iret hR dX12_identOf_116 rfl (hQ _ G7 hMG7 (⟨hFG7, ⟨hpG7.1, hpG7.2.1, by have h9 := hpG7.2.1; have k9 := hpG7.2.2.1; have e0 := h9.nd (n := a_nKind) (by decide) (n).toNat; have e1 := h9.nd (n := a_nFirst) (by decide) (n).toNat; have e2 := h9.nd (n := a_nSecond) (by decide) (n).toNat; have e3 := h9.nd (n := a_nThird) (by decide) (n).toNat; have e4 := h9.nd (n := a_isGenerative) (by decide) (n).toNat; exact idN.b (by rw [e0]; omega) (by unfold selfN; rw [e0, e4]; omega) (by rw [e1]; exact h9.idN (hi1 (by omega))) (by rw [e2]; exact h9.idN (hi2 (by omega))) (by rw [e0]; exact k9), hpG7.2.2.2⟩⟩))
        · -- 61 to 64
          refine s_aload_n dX12_identOf_64 rfl (Int.natCast_nonneg _) ?_
          refine s_iconst dX12_identOf_65 (by decide) ?_
          refine s_iload_n dX12_identOf_66 rfl ?_
          refine s_iadd dX12_identOf_67 (by omega) ?_
          refine s_iload_n dX12_identOf_68 rfl ?_
          refine s_aload_n dX12_identOf_69 rfl (Int.natCast_nonneg _) ?_
          refine gf_nSecond rfl dX12_identOf_70 hM ?_
          refine s_iload_n dX12_identOf_73 rfl ?_
          refine s_iald dX12_identOf_74 (mg_a_nSecond hM) (by omega) (by omega) rfl ?_
          refine s_iload_n dX12_identOf_75 rfl ?_
          refine s_iconst dX12_identOf_76 (by decide) ?_
          have J10 : ∀ z9 : Int, ((¬ (gS G a_nKind ((n).toNat)) = 5) ∧ z9 = 0) ∨ (((gS G a_nKind ((n).toNat)) = 5) ∧ z9 = gS G a_nThird ((n).toNat)) → WP kX12_identOf X 90 [some (2, ((1000 : Nat) : Int)), some (0, n), some (0, gS G a_nKind ((n).toNat)), some (0, gS G a_ident ((gS G a_nFirst ((n).toNat)).toNat))] [(0, z9), (0, gS G a_nSecond ((n).toNat)), (0, gS G a_ident ((gS G a_nFirst ((n).toNat)).toNat)), (0, 2 + (gS G a_nKind ((n).toNat))), (2, ((1000 : Nat) : Int))] G := by
            intro z9 hz9
            refine cv_X12_363 rfl gX12_thing dX12_identOf_90 hM (by rw [hcf]; decide) (as := [(0, 2 + (gS G a_nKind ((n).toNat))), (0, gS G a_ident ((gS G a_nFirst ((n).toNat)).toNat)), (0, gS G a_nSecond ((n).toNat)), (0, z9)]) rfl (Nat.le_of_ble_eq_true rfl) ⟨2 + (gS G a_nKind ((n).toNat)), gS G a_ident ((gS G a_nFirst ((n).toNat)).toNat), gS G a_nSecond ((n).toNat), z9, Hs, vv, rfl, hM, (by exact hTH), (by exact hvv), (by intro G9 h9 t9 k9; have e0 := h9.nd (n := a_nKind) (by decide) (n).toNat; have e1 := h9.nd (n := a_nFirst) (by decide) (n).toNat; have e2 := h9.nd (n := a_nSecond) (by decide) (n).toNat; have e3 := h9.nd (n := a_nThird) (by decide) (n).toNat; have e4 := h9.nd (n := a_isGenerative) (by decide) (n).toNat; exact ⟨n, ⟨hn.1, by rw [h9.2.1]; exact hn.2⟩, Or.inl (idN.r (by rw [e0]; omega) (by unfold selfN; rw [e0, e4]; omega) (by rw [e1]; exact h9.idN (hi1 (by omega))) (by rw [e0, e2, e3]; have z9 := k9; rcases hz9 with ⟨q1, q2⟩ | ⟨q1, q2⟩; (rw [q2] at z9; first | (rw [if_pos q1]; exact z9) | (rw [if_neg q1]; exact z9)); (rw [q2] at z9; first | (rw [if_pos q1]; exact z9) | (rw [if_neg q1]; exact z9))))⟩), fun r12 G11 hMG11 hpG11 => ?_⟩
            obtain ⟨hfG11, hpG11⟩ := hpG11
            have hFG11 : Fr nX12_identOf jX12_identOf G G11 := Fr.call Fr.rf hfG11 (by decide) (by decide)
            show WP kX12_identOf X 93 [some (2, ((1000 : Nat) : Int)), some (0, n), some (0, gS G a_nKind ((n).toNat)), some (0, gS G a_ident ((gS G a_nFirst ((n).toNat)).toNat))] [(0, r12)] G11
            refine s_goto (tgt := 116) dX12_identOf_93 (by decide) ?_
            exact s_iret hR dX12_identOf_116 rfl (hQ _ G11 hMG11 (⟨hFG11, ⟨hpG11.1, hpG11.2.1, by have h9 := hpG11.2.1; have k9 := hpG11.2.2.1; have e0 := h9.nd (n := a_nKind) (by decide) (n).toNat; have e1 := h9.nd (n := a_nFirst) (by decide) (n).toNat; have e2 := h9.nd (n := a_nSecond) (by decide) (n).toNat; have e3 := h9.nd (n := a_nThird) (by decide) (n).toNat; have e4 := h9.nd (n := a_isGenerative) (by decide) (n).toNat; exact idN.r (by rw [e0]; omega) (by unfold selfN; rw [e0, e4]; omega) (by rw [e1]; exact h9.idN (hi1 (by omega))) (by rw [e0, e2, e3]; have z9 := k9; rcases hz9 with ⟨q1, q2⟩ | ⟨q1, q2⟩; (rw [q2] at z9; first | (rw [if_pos q1]; exact z9) | (rw [if_neg q1]; exact z9)); (rw [q2] at z9; first | (rw [if_pos q1]; exact z9) | (rw [if_neg q1]; exact z9))), hpG11.2.2.2⟩⟩))
          refine s_icmp_ne (tgt := 89) dX12_identOf_77 (by decide) (fun c13 => ?_) (fun c13 => ?_)
          · -- 77 to 89
            refine s_iconst dX12_identOf_89 (by decide) ?_
            exact J10 0 (Or.inl ⟨c13, rfl⟩)
          · -- 77 to 80
            refine s_aload_n dX12_identOf_80 rfl (Int.natCast_nonneg _) ?_
            refine gf_nThird rfl dX12_identOf_81 hM ?_
            refine s_iload_n dX12_identOf_84 rfl ?_
            refine s_iald dX12_identOf_85 (mg_a_nThird hM) (by omega) (by omega) rfl ?_
            refine s_goto (tgt := 90) dX12_identOf_86 (by decide) ?_
            exact J10 _ (Or.inr (⟨c13, rfl⟩))
      · -- 35 to 38
        refine s_aload_n dX12_identOf_38 rfl (Int.natCast_nonneg _) ?_
        refine s_iconst dX12_identOf_39 (by decide) ?_
        refine s_iload_n dX12_identOf_40 rfl ?_
        refine s_iconst dX12_identOf_41 (by decide) ?_
        refine s_iconst dX12_identOf_42 (by decide) ?_
        refine cv_X12_363 rfl gX12_thing dX12_identOf_43 hM (by rw [hcf]; decide) (as := [(0, 0), (0, n), (0, 0), (0, 0)]) rfl (Nat.le_of_ble_eq_true rfl) ⟨0, n, 0, 0, Hs, vv, rfl, hM, (by exact hTH), (by exact hvv), (by intro G9 h9 t9 k9; have e0 := h9.nd (n := a_nKind) (by decide) (n).toNat; have e1 := h9.nd (n := a_nFirst) (by decide) (n).toNat; have e2 := h9.nd (n := a_nSecond) (by decide) (n).toNat; have e3 := h9.nd (n := a_nThird) (by decide) (n).toNat; have e4 := h9.nd (n := a_isGenerative) (by decide) (n).toNat; exact ⟨n, ⟨hn.1, by rw [h9.2.1]; exact hn.2⟩, Or.inl (idN.s (by rw [e0]; omega) (by unfold selfN; rw [e0, e4]; omega) k9)⟩), fun r15 G14 hMG14 hpG14 => ?_⟩
        obtain ⟨hfG14, hpG14⟩ := hpG14
        have hFG14 : Fr nX12_identOf jX12_identOf G G14 := Fr.call Fr.rf hfG14 (by decide) (by decide)
        show WP kX12_identOf X 46 [some (2, ((1000 : Nat) : Int)), some (0, n), some (0, gS G a_nKind ((n).toNat)), none] [(0, r15)] G14
        exact s_iret hR dX12_identOf_46 rfl (hQ _ G14 hMG14 (⟨hFG14, ⟨hpG14.1, hpG14.2.1, by have h9 := hpG14.2.1; have k9 := hpG14.2.2.1; have e0 := h9.nd (n := a_nKind) (by decide) (n).toNat; have e1 := h9.nd (n := a_nFirst) (by decide) (n).toNat; have e2 := h9.nd (n := a_nSecond) (by decide) (n).toNat; have e3 := h9.nd (n := a_nThird) (by decide) (n).toNat; have e4 := h9.nd (n := a_isGenerative) (by decide) (n).toNat; exact idN.s (by rw [e0]; omega) (by unfold selfN; rw [e0, e4]; omega) k9, hpG14.2.2.2⟩⟩))
  · -- 8 to 11
    have hve := (hvr (by omega)).1
    have hvs := hvr (by omega)
    have hv2 := hnd2 (by omega)
    refine s_aload_n dX12_identOf_11 rfl (Int.natCast_nonneg _) ?_
    refine s_iconst dX12_identOf_12 (by decide) ?_
    refine s_aload_n dX12_identOf_13 rfl (Int.natCast_nonneg _) ?_
    refine s_iload_n dX12_identOf_14 rfl ?_
    refine cv_X12_440 rfl gX12_versionOf dX12_identOf_15 hM (by rw [hcf]; decide) (as := [(0, n)]) rfl (Nat.le_of_ble_eq_true rfl) ⟨n, rfl, hM, (by first | assumption | omega), (by first | assumption | omega), (by first | assumption | omega), (by first | assumption | omega), ?_⟩
    show WP kX12_identOf X 18 [some (2, ((1000 : Nat) : Int)), some (0, n), some (0, gS G a_nKind ((n).toNat)), none] [(0, (if (gS G a_nSecond (n).toNat) = -1 then 5 * (gS G a_nFirst (n).toNat) + ((gS G a_versions ((gS G a_nFirst (n).toNat)).toNat) - 1) else 5 * (gS G a_nFirst (n).toNat) + (gS G a_nSecond (n).toNat))), (0, 1), (2, ((1000 : Nat) : Int))] G
    refine s_iconst dX12_identOf_18 (by decide) ?_
    refine s_iconst dX12_identOf_19 (by decide) ?_
    refine cv_X12_363 rfl gX12_thing dX12_identOf_20 hM (by rw [hcf]; decide) (as := [(0, 1), (0, (if (gS G a_nSecond (n).toNat) = -1 then 5 * (gS G a_nFirst (n).toNat) + ((gS G a_versions ((gS G a_nFirst (n).toNat)).toNat) - 1) else 5 * (gS G a_nFirst (n).toNat) + (gS G a_nSecond (n).toNat))), (0, 0), (0, 0)]) rfl (Nat.le_of_ble_eq_true rfl) ⟨1, (if (gS G a_nSecond (n).toNat) = -1 then 5 * (gS G a_nFirst (n).toNat) + ((gS G a_versions ((gS G a_nFirst (n).toNat)).toNat) - 1) else 5 * (gS G a_nFirst (n).toNat) + (gS G a_nSecond (n).toNat)), 0, 0, Hs, vv, rfl, hM, (by exact hTH), (by exact hvv), (by intro G9 h9 t9 k9; have e0 := h9.nd (n := a_nKind) (by decide) (n).toNat; have e1 := h9.nd (n := a_nFirst) (by decide) (n).toNat; have e2 := h9.nd (n := a_nSecond) (by decide) (n).toNat; have e3 := h9.nd (n := a_nThird) (by decide) (n).toNat; have e4 := h9.nd (n := a_isGenerative) (by decide) (n).toNat; exact ⟨n, ⟨hn.1, by rw [h9.2.1]; exact hn.2⟩, Or.inl (idN.u (by rw [e0]; omega) (by rw [show verOf G9 vv n = verC G n from (by have q9 := verC.eq (G := G) (n := n) hve; rw [← hcu] at q9; rw [← q9]; unfold verOf; rw [e1, e2])]; exact k9))⟩), fun r17 G16 hMG16 hpG16 => ?_⟩
    obtain ⟨hfG16, hpG16⟩ := hpG16
    have hFG16 : Fr nX12_identOf jX12_identOf G G16 := Fr.call Fr.rf hfG16 (by decide) (by decide)
    show WP kX12_identOf X 23 [some (2, ((1000 : Nat) : Int)), some (0, n), some (0, gS G a_nKind ((n).toNat)), none] [(0, r17)] G16
    exact s_iret hR dX12_identOf_23 rfl (hQ _ G16 hMG16 (⟨hFG16, ⟨hpG16.1, hpG16.2.1, by have h9 := hpG16.2.1; have k9 := hpG16.2.2.1; have e0 := h9.nd (n := a_nKind) (by decide) (n).toNat; have e1 := h9.nd (n := a_nFirst) (by decide) (n).toNat; have e2 := h9.nd (n := a_nSecond) (by decide) (n).toNat; have e3 := h9.nd (n := a_nThird) (by decide) (n).toNat; have e4 := h9.nd (n := a_isGenerative) (by decide) (n).toNat; exact idN.u (by rw [e0]; omega) (by rw [show verOf G16 vv n = verC G n from (by have q9 := verC.eq (G := G) (n := n) hve; rw [← hcu] at q9; rw [← q9]; unfold verOf; rw [e1, e2])]; exact k9), hpG16.2.2.2⟩⟩))

abbrev nX12_renames : List Nat := [a_sType, a_sValue, a_sFlags, a_sNumber]
abbrev jX12_renames : List Nat := []
def TX12_renames : TR := fun as G Qr => ∃ (n a : Int) (Hs : List (Int → Int)) (vv : Int → Int), as = [(2, ((1000 : Nat) : Int)), (0, n), (0, a)] ∧ MG G ∧ (FU G) ∧ (TH G Hs) ∧ (0 ≤ n ∧ n < 40) ∧ (5 ≤ (gS G a_nKind (n).toNat)) ∧ (a = (gS G a_nFirst (n).toNat)) ∧ (0 ≤ a ∧ a < n) ∧ (0 ≤ (gS G a_nSecond (n).toNat) ∧ (gS G a_nSecond (n).toNat) ≤ 9) ∧ ((gS G a_nKind (n).toNat) = 5 → 0 ≤ (gS G a_nThird (n).toNat) ∧ (gS G a_nThird (n).toNat) ≤ 9) ∧ (RT G (stN G vv a) a) ∧ (RV G (stN G vv a) a) ∧ (RT G NF n) ∧ (RV G NF n) ∧ ∀ (r : Int) (G' : LG), MG G' → (Fr nX12_renames jX12_renames G G' ∧ (FE G G' Hs 0 0 ∧ SlotFr n G G' ∧ RT G' (stN G' vv n) n ∧ RV G' (stN G' vv n) n ∧ (r = 0 → ∀ j : Int, 0 ≤ j → j < 10 → ¬ (gS G' a_sValue (10 * n + j).toNat) = -1 → ¬ j = (gS G a_nSecond (n).toNat) ∧ ((gS G a_nKind (n).toNat) = 5 → j = (gS G a_nThird (n).toNat) → ¬ (gS G a_sValue (10 * a + (gS G a_nSecond (n).toNat)).toNat) = -1) ∧ (((gS G a_nKind (n).toNat) = 5 → ¬ j = (gS G a_nThird (n).toNat)) → ¬ (gS G a_sValue (10 * a + j).toNat) = -1)))) → Qr (.inl (some (0, r))) G'
set_option maxHeartbeats 4000000 in
set_option maxRecDepth 100000 in
theorem gX12_renames : Good kX12_renames yX12_renames 2 TX12_renames := by
  refine good_of (by decide) rfl rfl (fun as G Qr h => ?_) (fun X as G Qr hcf hR hT oa => ?_)
  · obtain ⟨n, a, Hs, vv, rfl, -⟩ := h; exact Nat.le_of_ble_eq_true rfl
  obtain ⟨n, a, Hs, vv, rfl, hM, hFU, hTH, hn, hkd, ha, hA, h2, h3, hRTa, hRVa, hRTs, hRVs, hQ⟩ := hT
  show WP kX12_renames X 0 [some (2, ((1000 : Nat) : Int)), some (0, n), some (0, a), none, none, none] [] G
  have hr_n : inR n := okv_R (oa _ (by simp))
  have hr_a : inR a := okv_R (oa _ (by simp))
  have hFE0 := FE.rf hFU hTH
  refine s_aload_n dX12_renames_0 rfl (Int.natCast_nonneg _) ?_
  refine gf_nSecond rfl dX12_renames_1 hM ?_
  refine s_iload_n dX12_renames_4 rfl ?_
  refine s_iald dX12_renames_5 (mg_a_nSecond hM) (by omega) (by omega) rfl ?_
  refine s_istore_n dX12_renames_6 (by decide) (lv' := [some (2, ((1000 : Nat) : Int)), some (0, n), some (0, a), some (0, gS G a_nSecond ((n).toNat)), none, none]) rfl ?_
  refine s_aload_n dX12_renames_7 rfl (Int.natCast_nonneg _) ?_
  refine gf_nThird rfl dX12_renames_8 hM ?_
  refine s_iload_n dX12_renames_11 rfl ?_
  refine s_iald dX12_renames_12 (mg_a_nThird hM) (by omega) (by omega) rfl ?_
  refine s_istore dX12_renames_13 (by decide) (lv' := [some (2, ((1000 : Nat) : Int)), some (0, n), some (0, a), some (0, gS G a_nSecond ((n).toNat)), some (0, gS G a_nThird ((n).toNat)), none]) rfl ?_
  refine s_aload_n dX12_renames_15 rfl (Int.natCast_nonneg _) ?_
  refine gf_nKind rfl dX12_renames_16 hM ?_
  refine s_iload_n dX12_renames_19 rfl ?_
  refine s_iald dX12_renames_20 (mg_a_nKind hM) (by omega) (by omega) rfl ?_
  refine s_iconst dX12_renames_21 (by decide) ?_
  have J2 : ∀ z1 : Int, ((¬ (gS G a_nKind ((n).toNat)) = 5) ∧ z1 = 0) ∨ (((gS G a_nKind ((n).toNat)) = 5) ∧ z1 = 1) → WP kX12_renames X 30 [some (2, ((1000 : Nat) : Int)), some (0, n), some (0, a), some (0, gS G a_nSecond ((n).toNat)), some (0, gS G a_nThird ((n).toNat)), none] [(0, z1)] G := by
    intro z1 hz1
    refine s_istore dX12_renames_30 (by decide) (lv' := [some (2, ((1000 : Nat) : Int)), some (0, n), some (0, a), some (0, gS G a_nSecond ((n).toNat)), some (0, gS G a_nThird ((n).toNat)), some (0, z1)]) rfl ?_
    refine s_aload_n dX12_renames_32 rfl (Int.natCast_nonneg _) ?_
    refine s_iload_n dX12_renames_33 rfl ?_
    refine s_iload_n dX12_renames_34 rfl ?_
    refine cv_X12_388 rfl gX12_isOf dX12_renames_35 hM (by rw [hcf]; decide) (as := [(0, a), (0, gS G a_nSecond ((n).toNat))]) rfl (Nat.le_of_ble_eq_true rfl) ⟨a, gS G a_nSecond ((n).toNat), rfl, hM, (by first | assumption | omega), (by first | assumption | omega), ?_⟩
    show WP kX12_renames X 38 [some (2, ((1000 : Nat) : Int)), some (0, n), some (0, a), some (0, gS G a_nSecond ((n).toNat)), some (0, gS G a_nThird ((n).toNat)), some (0, z1)] [(0, (gS G a_sValue (10 * a + (gS G a_nSecond ((n).toNat))).toNat))] G
    refine s_iconst dX12_renames_38 (by decide) ?_
    refine s_icmp_ne (tgt := 48) dX12_renames_39 (by decide) (fun c3 => ?_) (fun c3 => ?_)
    · -- 39 to 48
      refine s_iload dX12_renames_48 rfl ?_
      refine s_if_eq (tgt := 71) dX12_renames_50 (by decide) (fun c4 => ?_) (fun c4 => ?_)
      · -- 50 to 71
        refine s_iload dX12_renames_71 rfl ?_
        refine s_if_ne (tgt := 91) dX12_renames_73 (by decide) (fun c5 => ?_) (fun c5 => ?_)
        · -- 73 to 91
          refine s_aload_n dX12_renames_91 rfl (Int.natCast_nonneg _) ?_
          refine s_iload_n dX12_renames_92 rfl ?_
          refine s_iload_n dX12_renames_93 rfl ?_
          refine cv_X12_424 rfl gX12_copies dX12_renames_94 hM (by rw [hcf]; decide) (as := [(0, a), (0, n)]) rfl (Nat.le_of_ble_eq_true rfl) ⟨a, n, rfl, hM, (by first | assumption | omega), (by first | assumption | omega), (by first | assumption | omega), fun G6 hMG6 hpG6 => ?_⟩
          obtain ⟨hfG6, hpG6⟩ := hpG6
          have hFG6 : Fr nX12_renames jX12_renames G G6 := Fr.call Fr.rf hfG6 (by decide) (by decide)
          show WP kX12_renames X 97 [some (2, ((1000 : Nat) : Int)), some (0, n), some (0, a), some (0, gS G a_nSecond ((n).toNat)), some (0, gS G a_nThird ((n).toNat)), some (0, z1)] [] G6
          refine s_iload dX12_renames_97 rfl ?_
          refine s_if_eq (tgt := 111) dX12_renames_99 (by decide) (fun c8 => ?_) (fun c8 => ?_)
          · -- 99 to 111
            refine s_aload_n dX12_renames_111 rfl (Int.natCast_nonneg _) ?_
            refine s_iload_n dX12_renames_112 rfl ?_
            refine s_iload_n dX12_renames_113 rfl ?_
            refine s_iconst dX12_renames_114 (by decide) ?_
            refine s_iconst dX12_renames_115 (by decide) ?_
            refine s_iconst dX12_renames_116 (by decide) ?_
            refine cv_X12_394 rfl gX12_shows dX12_renames_117 hMG6 (by rw [hcf]; decide) (as := [(0, n), (0, gS G a_nSecond ((n).toNat)), (0, (-1)), (0, 0), (0, 0)]) rfl (Nat.le_of_ble_eq_true rfl) ⟨n, gS G a_nSecond ((n).toNat), (-1), 0, 0, rfl, hMG6, (by first | assumption | omega), (by first | assumption | omega), fun G9 hMG9 hpG9 => ?_⟩
            obtain ⟨G11, G12, eG11, eG12, eG9, hpG9⟩ := hpG9
            have hFG11 : Fr nX12_renames jX12_renames G G11 := Fr.setA hFG6 eG11 (by decide)
            have hFG12 : Fr nX12_renames jX12_renames G G12 := Fr.setA hFG11 eG12 (by decide)
            have hFG9 : Fr nX12_renames jX12_renames G G9 := Fr.setA hFG12 eG9 (by decide)
            show WP kX12_renames X 120 [some (2, ((1000 : Nat) : Int)), some (0, n), some (0, a), some (0, gS G a_nSecond ((n).toNat)), some (0, gS G a_nThird ((n).toNat)), some (0, z1)] [] G9
            refine s_iconst dX12_renames_120 (by decide) ?_
            obtain ⟨u1, u2, u3, u4⟩ := va3 eG11 eG12 eG9
            have hrv := fun (j : Int) (j0 : 0 ≤ j) (j1 : j < 10) => (hpG6.1.rv hA.1 (by omega) j j0 j1).1
            have hv9 : ∀ j : Int, 0 ≤ j → j < 10 → (j = (gS G a_nSecond (n).toNat) → (gS G9 a_sValue (10 * n + j).toNat) = -1) ∧ (¬ j = (gS G a_nSecond (n).toNat) → ((gS G a_nKind (n).toNat) = 5 ∧ j = (gS G a_nThird (n).toNat)) → (gS G9 a_sValue (10 * n + j).toNat) = (gS G a_sValue (10 * a + (gS G a_nSecond (n).toNat)).toNat)) ∧ (¬ j = (gS G a_nSecond (n).toNat) → ¬ ((gS G a_nKind (n).toNat) = 5 ∧ j = (gS G a_nThird (n).toNat)) → (gS G9 a_sValue (10 * n + j).toNat) = (gS G a_sValue (10 * a + j).toNat)) := by
              intro j j0 j1; refine ⟨fun q => ?_, fun q z => ?_, fun q z => ?_⟩
              · subst q; exact g_at u1
              · exfalso; omega
              · rw [g_ne u1 (by omega)]; exact (hpG6.2.2 j j0 j1).1
            have hEf : FE G G9 Hs 0 0 := hFE0.fr (Fr.setA (Fr.setA (Fr.setA (Fr.call (Fr.rf) hfG6 (by decide) (by decide)) eG11 (by decide)) eG12 (by decide)) eG9 (by decide) : Fr [a_sType, a_sValue, a_sFlags, a_sNumber] [] G G9) (by decide) (by decide) (by decide)
            exact s_iret hR dX12_renames_121 rfl (hQ _ G9 hMG9 (⟨hFG9, ⟨hEf, (hpG6.1.trans (SlotFr.va (k := (gS G a_nSecond (n).toNat)) ⟨by omega, by omega⟩ hn.1 eG11 eG12 eG9)), fun j j0 j1 => by rw [u4]; have z9 := hpG6.2.1 j j0 j1; rw [z9]; exact (GT.fx (hRTa j j0 j1) hEf.2.1 hFU).mono (fun t z => stN.r (by rw [hEf.2.2.2.1.nd (n := a_nKind) (by decide)]; omega) (by rw [hEf.2.2.2.1.nd (n := a_nFirst) (by decide), ← ha]; exact hEf.2.2.2.1.stN z)), fun j j0 j1 => by have z9 := hv9 j j0 j1; by_cases q : j = (gS G a_nSecond (n).toNat); (rw [z9.1 q]; exact GT.none hEf.1 (by omega) (by omega)); (by_cases y : (gS G a_nKind (n).toNat) = 5 ∧ j = (gS G a_nThird (n).toNat); (rw [z9.2.1 q y]; exact (GT.fx (lo := -1) (hRVa _ (by omega) (by omega)) hEf.2.1 hFU).mono (fun t z => stN.r (by rw [hEf.2.2.2.1.nd (n := a_nKind) (by decide)]; omega) (by rw [hEf.2.2.2.1.nd (n := a_nFirst) (by decide), ← ha]; exact hEf.2.2.2.1.stN z))); (rw [z9.2.2 q y]; exact (GT.fx (lo := -1) (hRVa j j0 j1) hEf.2.1 hFU).mono (fun t z => stN.r (by rw [hEf.2.2.2.1.nd (n := a_nKind) (by decide)]; omega) (by rw [hEf.2.2.2.1.nd (n := a_nFirst) (by decide), ← ha]; exact hEf.2.2.2.1.stN z)))), fun _ j j0 j1 q => by have z9 := hv9 j j0 j1; have q9 : ¬ j = (gS G a_nSecond (n).toNat) := (fun z => q (z9.1 z)); refine ⟨q9, fun z0 z1 => ?_, fun z => ?_⟩; (rw [z9.2.1 q9 ⟨z0, z1⟩] at q; exact q); (rw [z9.2.2 q9 (fun y => z y.1 y.2)] at q; exact q)⟩⟩))
          · -- 99 to 102
            refine s_aload_n dX12_renames_102 rfl (Int.natCast_nonneg _) ?_
            refine s_iload_n dX12_renames_103 rfl ?_
            refine s_iload_n dX12_renames_104 rfl ?_
            refine s_iload_n dX12_renames_105 rfl ?_
            refine s_iload dX12_renames_106 rfl ?_
            refine cv_X12_381 rfl gX12_moves dX12_renames_108 hMG6 (by rw [hcf]; decide) (as := [(0, a), (0, gS G a_nSecond ((n).toNat)), (0, n), (0, gS G a_nThird ((n).toNat))]) rfl (Nat.le_of_ble_eq_true rfl) ⟨a, gS G a_nSecond ((n).toNat), n, gS G a_nThird ((n).toNat), rfl, hMG6, (by first | assumption | omega), (by first | assumption | omega), (by first | assumption | omega), (by first | assumption | omega), fun G13 hMG13 hpG13 => ?_⟩
            obtain ⟨G15, G16, eG15, eG16, eG13, hpG13⟩ := hpG13
            have hFG15 : Fr nX12_renames jX12_renames G G15 := Fr.setA hFG6 eG15 (by decide)
            have hFG16 : Fr nX12_renames jX12_renames G G16 := Fr.setA hFG15 eG16 (by decide)
            have hFG13 : Fr nX12_renames jX12_renames G G13 := Fr.setA hFG16 eG13 (by decide)
            show WP kX12_renames X 111 [some (2, ((1000 : Nat) : Int)), some (0, n), some (0, a), some (0, gS G a_nSecond ((n).toNat)), some (0, gS G a_nThird ((n).toNat)), some (0, z1)] [] G13
            refine s_aload_n dX12_renames_111 rfl (Int.natCast_nonneg _) ?_
            refine s_iload_n dX12_renames_112 rfl ?_
            refine s_iload_n dX12_renames_113 rfl ?_
            refine s_iconst dX12_renames_114 (by decide) ?_
            refine s_iconst dX12_renames_115 (by decide) ?_
            refine s_iconst dX12_renames_116 (by decide) ?_
            refine cv_X12_394 rfl gX12_shows dX12_renames_117 hMG13 (by rw [hcf]; decide) (as := [(0, n), (0, gS G a_nSecond ((n).toNat)), (0, (-1)), (0, 0), (0, 0)]) rfl (Nat.le_of_ble_eq_true rfl) ⟨n, gS G a_nSecond ((n).toNat), (-1), 0, 0, rfl, hMG13, (by first | assumption | omega), (by first | assumption | omega), fun G17 hMG17 hpG17 => ?_⟩
            obtain ⟨G19, G20, eG19, eG20, eG17, hpG17⟩ := hpG17
            have hFG19 : Fr nX12_renames jX12_renames G G19 := Fr.setA hFG13 eG19 (by decide)
            have hFG20 : Fr nX12_renames jX12_renames G G20 := Fr.setA hFG19 eG20 (by decide)
            have hFG17 : Fr nX12_renames jX12_renames G G17 := Fr.setA hFG20 eG17 (by decide)
            show WP kX12_renames X 120 [some (2, ((1000 : Nat) : Int)), some (0, n), some (0, a), some (0, gS G a_nSecond ((n).toNat)), some (0, gS G a_nThird ((n).toNat)), some (0, z1)] [] G17
            refine s_iconst dX12_renames_120 (by decide) ?_
            obtain ⟨u1, u2, u3, u4⟩ := va3 eG19 eG20 eG17
            obtain ⟨m1, m2, m3, m4⟩ := va3 eG15 eG16 eG13
            have hrv := fun (j : Int) (j0 : 0 ≤ j) (j1 : j < 10) => (hpG6.1.rv hA.1 (by omega) j j0 j1).1
            have hv9 : ∀ j : Int, 0 ≤ j → j < 10 → (j = (gS G a_nSecond (n).toNat) → (gS G17 a_sValue (10 * n + j).toNat) = -1) ∧ (¬ j = (gS G a_nSecond (n).toNat) → ((gS G a_nKind (n).toNat) = 5 ∧ j = (gS G a_nThird (n).toNat)) → (gS G17 a_sValue (10 * n + j).toNat) = (gS G a_sValue (10 * a + (gS G a_nSecond (n).toNat)).toNat)) ∧ (¬ j = (gS G a_nSecond (n).toNat) → ¬ ((gS G a_nKind (n).toNat) = 5 ∧ j = (gS G a_nThird (n).toNat)) → (gS G17 a_sValue (10 * n + j).toNat) = (gS G a_sValue (10 * a + j).toNat)) := by
              intro j j0 j1; refine ⟨fun q => ?_, fun q z => ?_, fun q z => ?_⟩
              · subst q; exact g_at u1
              · obtain ⟨z0, z1⟩ := z; rw [g_ne u1 (by omega)]; subst z1; rw [g_at m1]; exact hrv _ (by omega) (by omega)
              · rw [g_ne u1 (by omega), g_ne m1 (by omega)]; exact (hpG6.2.2 j j0 j1).1
            have hEf : FE G G17 Hs 0 0 := hFE0.fr (Fr.setA (Fr.setA (Fr.setA (Fr.setA (Fr.setA (Fr.setA (Fr.call (Fr.rf) hfG6 (by decide) (by decide)) eG15 (by decide)) eG16 (by decide)) eG13 (by decide)) eG19 (by decide)) eG20 (by decide)) eG17 (by decide) : Fr [a_sType, a_sValue, a_sFlags, a_sNumber] [] G G17) (by decide) (by decide) (by decide)
            exact s_iret hR dX12_renames_121 rfl (hQ _ G17 hMG17 (⟨hFG17, ⟨hEf, ((hpG6.1.trans (SlotFr.va (k := (gS G a_nThird (n).toNat)) ⟨by omega, by omega⟩ hn.1 eG15 eG16 eG13)).trans (SlotFr.va (k := (gS G a_nSecond (n).toNat)) ⟨by omega, by omega⟩ hn.1 eG19 eG20 eG17)), fun j j0 j1 => by rw [u4, m4]; have z9 := hpG6.2.1 j j0 j1; rw [z9]; exact (GT.fx (hRTa j j0 j1) hEf.2.1 hFU).mono (fun t z => stN.r (by rw [hEf.2.2.2.1.nd (n := a_nKind) (by decide)]; omega) (by rw [hEf.2.2.2.1.nd (n := a_nFirst) (by decide), ← ha]; exact hEf.2.2.2.1.stN z)), fun j j0 j1 => by have z9 := hv9 j j0 j1; by_cases q : j = (gS G a_nSecond (n).toNat); (rw [z9.1 q]; exact GT.none hEf.1 (by omega) (by omega)); (by_cases y : (gS G a_nKind (n).toNat) = 5 ∧ j = (gS G a_nThird (n).toNat); (rw [z9.2.1 q y]; exact (GT.fx (lo := -1) (hRVa _ (by omega) (by omega)) hEf.2.1 hFU).mono (fun t z => stN.r (by rw [hEf.2.2.2.1.nd (n := a_nKind) (by decide)]; omega) (by rw [hEf.2.2.2.1.nd (n := a_nFirst) (by decide), ← ha]; exact hEf.2.2.2.1.stN z))); (rw [z9.2.2 q y]; exact (GT.fx (lo := -1) (hRVa j j0 j1) hEf.2.1 hFU).mono (fun t z => stN.r (by rw [hEf.2.2.2.1.nd (n := a_nKind) (by decide)]; omega) (by rw [hEf.2.2.2.1.nd (n := a_nFirst) (by decide), ← ha]; exact hEf.2.2.2.1.stN z)))), fun _ j j0 j1 q => by have z9 := hv9 j j0 j1; have q9 : ¬ j = (gS G a_nSecond (n).toNat) := (fun z => q (z9.1 z)); refine ⟨q9, fun z0 z1 => ?_, fun z => ?_⟩; (rw [z9.2.1 q9 ⟨z0, z1⟩] at q; exact q); (rw [z9.2.2 q9 (fun y => z y.1 y.2)] at q; exact q)⟩⟩))
        · -- 73 to 76
          refine s_aload_n dX12_renames_76 rfl (Int.natCast_nonneg _) ?_
          refine s_iload_n dX12_renames_77 rfl ?_
          refine s_iload_n dX12_renames_78 rfl ?_
          refine cv_X12_398 rfl gX12_isHole dX12_renames_79 hM (by rw [hcf]; decide) (as := [(0, a), (0, gS G a_nSecond ((n).toNat))]) rfl (Nat.le_of_ble_eq_true rfl) ⟨a, gS G a_nSecond ((n).toNat), rfl, hM, (by first | assumption | omega), (by first | assumption | omega), ?_⟩
          show WP kX12_renames X 82 [some (2, ((1000 : Nat) : Int)), some (0, n), some (0, a), some (0, gS G a_nSecond ((n).toNat)), some (0, gS G a_nThird ((n).toNat)), some (0, z1)] [(0, b2i (¬ i_and (gS G a_sFlags (10 * a + (gS G a_nSecond ((n).toNat))).toNat) 1 = 0))] G
          refine s_if_eqB (tgt := 91) dX12_renames_82 (by decide) (fun c21 => ?_) (fun c21 => ?_)
          · -- 82 to 91
            refine s_aload_n dX12_renames_91 rfl (Int.natCast_nonneg _) ?_
            refine s_iload_n dX12_renames_92 rfl ?_
            refine s_iload_n dX12_renames_93 rfl ?_
            refine cv_X12_424 rfl gX12_copies dX12_renames_94 hM (by rw [hcf]; decide) (as := [(0, a), (0, n)]) rfl (Nat.le_of_ble_eq_true rfl) ⟨a, n, rfl, hM, (by first | assumption | omega), (by first | assumption | omega), (by first | assumption | omega), fun G22 hMG22 hpG22 => ?_⟩
            obtain ⟨hfG22, hpG22⟩ := hpG22
            have hFG22 : Fr nX12_renames jX12_renames G G22 := Fr.call Fr.rf hfG22 (by decide) (by decide)
            show WP kX12_renames X 97 [some (2, ((1000 : Nat) : Int)), some (0, n), some (0, a), some (0, gS G a_nSecond ((n).toNat)), some (0, gS G a_nThird ((n).toNat)), some (0, z1)] [] G22
            refine s_iload dX12_renames_97 rfl ?_
            refine s_if_eq (tgt := 111) dX12_renames_99 (by decide) (fun c24 => ?_) (fun c24 => ?_)
            · -- 99 to 111
              refine s_aload_n dX12_renames_111 rfl (Int.natCast_nonneg _) ?_
              refine s_iload_n dX12_renames_112 rfl ?_
              refine s_iload_n dX12_renames_113 rfl ?_
              refine s_iconst dX12_renames_114 (by decide) ?_
              refine s_iconst dX12_renames_115 (by decide) ?_
              refine s_iconst dX12_renames_116 (by decide) ?_
              refine cv_X12_394 rfl gX12_shows dX12_renames_117 hMG22 (by rw [hcf]; decide) (as := [(0, n), (0, gS G a_nSecond ((n).toNat)), (0, (-1)), (0, 0), (0, 0)]) rfl (Nat.le_of_ble_eq_true rfl) ⟨n, gS G a_nSecond ((n).toNat), (-1), 0, 0, rfl, hMG22, (by first | assumption | omega), (by first | assumption | omega), fun G25 hMG25 hpG25 => ?_⟩
              obtain ⟨G27, G28, eG27, eG28, eG25, hpG25⟩ := hpG25
              have hFG27 : Fr nX12_renames jX12_renames G G27 := Fr.setA hFG22 eG27 (by decide)
              have hFG28 : Fr nX12_renames jX12_renames G G28 := Fr.setA hFG27 eG28 (by decide)
              have hFG25 : Fr nX12_renames jX12_renames G G25 := Fr.setA hFG28 eG25 (by decide)
              show WP kX12_renames X 120 [some (2, ((1000 : Nat) : Int)), some (0, n), some (0, a), some (0, gS G a_nSecond ((n).toNat)), some (0, gS G a_nThird ((n).toNat)), some (0, z1)] [] G25
              refine s_iconst dX12_renames_120 (by decide) ?_
              obtain ⟨u1, u2, u3, u4⟩ := va3 eG27 eG28 eG25
              have hrv := fun (j : Int) (j0 : 0 ≤ j) (j1 : j < 10) => (hpG22.1.rv hA.1 (by omega) j j0 j1).1
              have hv9 : ∀ j : Int, 0 ≤ j → j < 10 → (j = (gS G a_nSecond (n).toNat) → (gS G25 a_sValue (10 * n + j).toNat) = -1) ∧ (¬ j = (gS G a_nSecond (n).toNat) → ((gS G a_nKind (n).toNat) = 5 ∧ j = (gS G a_nThird (n).toNat)) → (gS G25 a_sValue (10 * n + j).toNat) = (gS G a_sValue (10 * a + (gS G a_nSecond (n).toNat)).toNat)) ∧ (¬ j = (gS G a_nSecond (n).toNat) → ¬ ((gS G a_nKind (n).toNat) = 5 ∧ j = (gS G a_nThird (n).toNat)) → (gS G25 a_sValue (10 * n + j).toNat) = (gS G a_sValue (10 * a + j).toNat)) := by
                intro j j0 j1; refine ⟨fun q => ?_, fun q z => ?_, fun q z => ?_⟩
                · subst q; exact g_at u1
                · exfalso; omega
                · rw [g_ne u1 (by omega)]; exact (hpG22.2.2 j j0 j1).1
              have hEf : FE G G25 Hs 0 0 := hFE0.fr (Fr.setA (Fr.setA (Fr.setA (Fr.call (Fr.rf) hfG22 (by decide) (by decide)) eG27 (by decide)) eG28 (by decide)) eG25 (by decide) : Fr [a_sType, a_sValue, a_sFlags, a_sNumber] [] G G25) (by decide) (by decide) (by decide)
              exact s_iret hR dX12_renames_121 rfl (hQ _ G25 hMG25 (⟨hFG25, ⟨hEf, (hpG22.1.trans (SlotFr.va (k := (gS G a_nSecond (n).toNat)) ⟨by omega, by omega⟩ hn.1 eG27 eG28 eG25)), fun j j0 j1 => by rw [u4]; have z9 := hpG22.2.1 j j0 j1; rw [z9]; exact (GT.fx (hRTa j j0 j1) hEf.2.1 hFU).mono (fun t z => stN.r (by rw [hEf.2.2.2.1.nd (n := a_nKind) (by decide)]; omega) (by rw [hEf.2.2.2.1.nd (n := a_nFirst) (by decide), ← ha]; exact hEf.2.2.2.1.stN z)), fun j j0 j1 => by have z9 := hv9 j j0 j1; by_cases q : j = (gS G a_nSecond (n).toNat); (rw [z9.1 q]; exact GT.none hEf.1 (by omega) (by omega)); (by_cases y : (gS G a_nKind (n).toNat) = 5 ∧ j = (gS G a_nThird (n).toNat); (rw [z9.2.1 q y]; exact (GT.fx (lo := -1) (hRVa _ (by omega) (by omega)) hEf.2.1 hFU).mono (fun t z => stN.r (by rw [hEf.2.2.2.1.nd (n := a_nKind) (by decide)]; omega) (by rw [hEf.2.2.2.1.nd (n := a_nFirst) (by decide), ← ha]; exact hEf.2.2.2.1.stN z))); (rw [z9.2.2 q y]; exact (GT.fx (lo := -1) (hRVa j j0 j1) hEf.2.1 hFU).mono (fun t z => stN.r (by rw [hEf.2.2.2.1.nd (n := a_nKind) (by decide)]; omega) (by rw [hEf.2.2.2.1.nd (n := a_nFirst) (by decide), ← ha]; exact hEf.2.2.2.1.stN z)))), fun _ j j0 j1 q => by have z9 := hv9 j j0 j1; have q9 : ¬ j = (gS G a_nSecond (n).toNat) := (fun z => q (z9.1 z)); refine ⟨q9, fun z0 z1 => ?_, fun z => ?_⟩; (rw [z9.2.1 q9 ⟨z0, z1⟩] at q; exact q); (rw [z9.2.2 q9 (fun y => z y.1 y.2)] at q; exact q)⟩⟩))
            · -- 99 to 102
              refine s_aload_n dX12_renames_102 rfl (Int.natCast_nonneg _) ?_
              refine s_iload_n dX12_renames_103 rfl ?_
              refine s_iload_n dX12_renames_104 rfl ?_
              refine s_iload_n dX12_renames_105 rfl ?_
              refine s_iload dX12_renames_106 rfl ?_
              refine cv_X12_381 rfl gX12_moves dX12_renames_108 hMG22 (by rw [hcf]; decide) (as := [(0, a), (0, gS G a_nSecond ((n).toNat)), (0, n), (0, gS G a_nThird ((n).toNat))]) rfl (Nat.le_of_ble_eq_true rfl) ⟨a, gS G a_nSecond ((n).toNat), n, gS G a_nThird ((n).toNat), rfl, hMG22, (by first | assumption | omega), (by first | assumption | omega), (by first | assumption | omega), (by first | assumption | omega), fun G29 hMG29 hpG29 => ?_⟩
              obtain ⟨G31, G32, eG31, eG32, eG29, hpG29⟩ := hpG29
              have hFG31 : Fr nX12_renames jX12_renames G G31 := Fr.setA hFG22 eG31 (by decide)
              have hFG32 : Fr nX12_renames jX12_renames G G32 := Fr.setA hFG31 eG32 (by decide)
              have hFG29 : Fr nX12_renames jX12_renames G G29 := Fr.setA hFG32 eG29 (by decide)
              show WP kX12_renames X 111 [some (2, ((1000 : Nat) : Int)), some (0, n), some (0, a), some (0, gS G a_nSecond ((n).toNat)), some (0, gS G a_nThird ((n).toNat)), some (0, z1)] [] G29
              refine s_aload_n dX12_renames_111 rfl (Int.natCast_nonneg _) ?_
              refine s_iload_n dX12_renames_112 rfl ?_
              refine s_iload_n dX12_renames_113 rfl ?_
              refine s_iconst dX12_renames_114 (by decide) ?_
              refine s_iconst dX12_renames_115 (by decide) ?_
              refine s_iconst dX12_renames_116 (by decide) ?_
              refine cv_X12_394 rfl gX12_shows dX12_renames_117 hMG29 (by rw [hcf]; decide) (as := [(0, n), (0, gS G a_nSecond ((n).toNat)), (0, (-1)), (0, 0), (0, 0)]) rfl (Nat.le_of_ble_eq_true rfl) ⟨n, gS G a_nSecond ((n).toNat), (-1), 0, 0, rfl, hMG29, (by first | assumption | omega), (by first | assumption | omega), fun G33 hMG33 hpG33 => ?_⟩
              obtain ⟨G35, G36, eG35, eG36, eG33, hpG33⟩ := hpG33
              have hFG35 : Fr nX12_renames jX12_renames G G35 := Fr.setA hFG29 eG35 (by decide)
              have hFG36 : Fr nX12_renames jX12_renames G G36 := Fr.setA hFG35 eG36 (by decide)
              have hFG33 : Fr nX12_renames jX12_renames G G33 := Fr.setA hFG36 eG33 (by decide)
              show WP kX12_renames X 120 [some (2, ((1000 : Nat) : Int)), some (0, n), some (0, a), some (0, gS G a_nSecond ((n).toNat)), some (0, gS G a_nThird ((n).toNat)), some (0, z1)] [] G33
              refine s_iconst dX12_renames_120 (by decide) ?_
              obtain ⟨u1, u2, u3, u4⟩ := va3 eG35 eG36 eG33
              obtain ⟨m1, m2, m3, m4⟩ := va3 eG31 eG32 eG29
              have hrv := fun (j : Int) (j0 : 0 ≤ j) (j1 : j < 10) => (hpG22.1.rv hA.1 (by omega) j j0 j1).1
              have hv9 : ∀ j : Int, 0 ≤ j → j < 10 → (j = (gS G a_nSecond (n).toNat) → (gS G33 a_sValue (10 * n + j).toNat) = -1) ∧ (¬ j = (gS G a_nSecond (n).toNat) → ((gS G a_nKind (n).toNat) = 5 ∧ j = (gS G a_nThird (n).toNat)) → (gS G33 a_sValue (10 * n + j).toNat) = (gS G a_sValue (10 * a + (gS G a_nSecond (n).toNat)).toNat)) ∧ (¬ j = (gS G a_nSecond (n).toNat) → ¬ ((gS G a_nKind (n).toNat) = 5 ∧ j = (gS G a_nThird (n).toNat)) → (gS G33 a_sValue (10 * n + j).toNat) = (gS G a_sValue (10 * a + j).toNat)) := by
                intro j j0 j1; refine ⟨fun q => ?_, fun q z => ?_, fun q z => ?_⟩
                · subst q; exact g_at u1
                · obtain ⟨z0, z1⟩ := z; rw [g_ne u1 (by omega)]; subst z1; rw [g_at m1]; exact hrv _ (by omega) (by omega)
                · rw [g_ne u1 (by omega), g_ne m1 (by omega)]; exact (hpG22.2.2 j j0 j1).1
              have hEf : FE G G33 Hs 0 0 := hFE0.fr (Fr.setA (Fr.setA (Fr.setA (Fr.setA (Fr.setA (Fr.setA (Fr.call (Fr.rf) hfG22 (by decide) (by decide)) eG31 (by decide)) eG32 (by decide)) eG29 (by decide)) eG35 (by decide)) eG36 (by decide)) eG33 (by decide) : Fr [a_sType, a_sValue, a_sFlags, a_sNumber] [] G G33) (by decide) (by decide) (by decide)
              exact s_iret hR dX12_renames_121 rfl (hQ _ G33 hMG33 (⟨hFG33, ⟨hEf, ((hpG22.1.trans (SlotFr.va (k := (gS G a_nThird (n).toNat)) ⟨by omega, by omega⟩ hn.1 eG31 eG32 eG29)).trans (SlotFr.va (k := (gS G a_nSecond (n).toNat)) ⟨by omega, by omega⟩ hn.1 eG35 eG36 eG33)), fun j j0 j1 => by rw [u4, m4]; have z9 := hpG22.2.1 j j0 j1; rw [z9]; exact (GT.fx (hRTa j j0 j1) hEf.2.1 hFU).mono (fun t z => stN.r (by rw [hEf.2.2.2.1.nd (n := a_nKind) (by decide)]; omega) (by rw [hEf.2.2.2.1.nd (n := a_nFirst) (by decide), ← ha]; exact hEf.2.2.2.1.stN z)), fun j j0 j1 => by have z9 := hv9 j j0 j1; by_cases q : j = (gS G a_nSecond (n).toNat); (rw [z9.1 q]; exact GT.none hEf.1 (by omega) (by omega)); (by_cases y : (gS G a_nKind (n).toNat) = 5 ∧ j = (gS G a_nThird (n).toNat); (rw [z9.2.1 q y]; exact (GT.fx (lo := -1) (hRVa _ (by omega) (by omega)) hEf.2.1 hFU).mono (fun t z => stN.r (by rw [hEf.2.2.2.1.nd (n := a_nKind) (by decide)]; omega) (by rw [hEf.2.2.2.1.nd (n := a_nFirst) (by decide), ← ha]; exact hEf.2.2.2.1.stN z))); (rw [z9.2.2 q y]; exact (GT.fx (lo := -1) (hRVa j j0 j1) hEf.2.1 hFU).mono (fun t z => stN.r (by rw [hEf.2.2.2.1.nd (n := a_nKind) (by decide)]; omega) (by rw [hEf.2.2.2.1.nd (n := a_nFirst) (by decide), ← ha]; exact hEf.2.2.2.1.stN z)))), fun _ j j0 j1 q => by have z9 := hv9 j j0 j1; have q9 : ¬ j = (gS G a_nSecond (n).toNat) := (fun z => q (z9.1 z)); refine ⟨q9, fun z0 z1 => ?_, fun z => ?_⟩; (rw [z9.2.1 q9 ⟨z0, z1⟩] at q; exact q); (rw [z9.2.2 q9 (fun y => z y.1 y.2)] at q; exact q)⟩⟩))
          · -- 82 to 85
            refine s_sipush dX12_renames_85 rfl (by decide) ?_
            refine s_iload_n dX12_renames_88 rfl ?_
            refine s_iadd dX12_renames_89 (by omega) ?_
            exact s_iret hR dX12_renames_90 rfl (hQ _ G hM (⟨Fr.rf, ⟨hFE0, SlotFr.rf, hRTs.mono (fun _ z => z.elim), hRVs.mono (fun _ z => z.elim), fun q => by omega⟩⟩))
      · -- 50 to 53
        refine s_aload_n dX12_renames_53 rfl (Int.natCast_nonneg _) ?_
        refine s_iload_n dX12_renames_54 rfl ?_
        refine s_iload dX12_renames_55 rfl ?_
        refine cv_X12_388 rfl gX12_isOf dX12_renames_57 hM (by rw [hcf]; decide) (as := [(0, a), (0, gS G a_nThird ((n).toNat))]) rfl (Nat.le_of_ble_eq_true rfl) ⟨a, gS G a_nThird ((n).toNat), rfl, hM, (by first | assumption | omega), (by first | assumption | omega), ?_⟩
        show WP kX12_renames X 60 [some (2, ((1000 : Nat) : Int)), some (0, n), some (0, a), some (0, gS G a_nSecond ((n).toNat)), some (0, gS G a_nThird ((n).toNat)), some (0, z1)] [(0, (gS G a_sValue (10 * a + (gS G a_nThird ((n).toNat))).toNat))] G
        refine s_iconst dX12_renames_60 (by decide) ?_
        refine s_icmp_eq (tgt := 71) dX12_renames_61 (by decide) (fun c37 => ?_) (fun c37 => ?_)
        · -- 61 to 71
          refine s_iload dX12_renames_71 rfl ?_
          refine s_if_ne (tgt := 91) dX12_renames_73 (by decide) (fun c38 => ?_) (fun c38 => ?_)
          · -- 73 to 91
            refine s_aload_n dX12_renames_91 rfl (Int.natCast_nonneg _) ?_
            refine s_iload_n dX12_renames_92 rfl ?_
            refine s_iload_n dX12_renames_93 rfl ?_
            refine cv_X12_424 rfl gX12_copies dX12_renames_94 hM (by rw [hcf]; decide) (as := [(0, a), (0, n)]) rfl (Nat.le_of_ble_eq_true rfl) ⟨a, n, rfl, hM, (by first | assumption | omega), (by first | assumption | omega), (by first | assumption | omega), fun G39 hMG39 hpG39 => ?_⟩
            obtain ⟨hfG39, hpG39⟩ := hpG39
            have hFG39 : Fr nX12_renames jX12_renames G G39 := Fr.call Fr.rf hfG39 (by decide) (by decide)
            show WP kX12_renames X 97 [some (2, ((1000 : Nat) : Int)), some (0, n), some (0, a), some (0, gS G a_nSecond ((n).toNat)), some (0, gS G a_nThird ((n).toNat)), some (0, z1)] [] G39
            refine s_iload dX12_renames_97 rfl ?_
            refine s_if_eq (tgt := 111) dX12_renames_99 (by decide) (fun c41 => ?_) (fun c41 => ?_)
            · -- 99 to 111
              refine s_aload_n dX12_renames_111 rfl (Int.natCast_nonneg _) ?_
              refine s_iload_n dX12_renames_112 rfl ?_
              refine s_iload_n dX12_renames_113 rfl ?_
              refine s_iconst dX12_renames_114 (by decide) ?_
              refine s_iconst dX12_renames_115 (by decide) ?_
              refine s_iconst dX12_renames_116 (by decide) ?_
              refine cv_X12_394 rfl gX12_shows dX12_renames_117 hMG39 (by rw [hcf]; decide) (as := [(0, n), (0, gS G a_nSecond ((n).toNat)), (0, (-1)), (0, 0), (0, 0)]) rfl (Nat.le_of_ble_eq_true rfl) ⟨n, gS G a_nSecond ((n).toNat), (-1), 0, 0, rfl, hMG39, (by first | assumption | omega), (by first | assumption | omega), fun G42 hMG42 hpG42 => ?_⟩
              obtain ⟨G44, G45, eG44, eG45, eG42, hpG42⟩ := hpG42
              have hFG44 : Fr nX12_renames jX12_renames G G44 := Fr.setA hFG39 eG44 (by decide)
              have hFG45 : Fr nX12_renames jX12_renames G G45 := Fr.setA hFG44 eG45 (by decide)
              have hFG42 : Fr nX12_renames jX12_renames G G42 := Fr.setA hFG45 eG42 (by decide)
              show WP kX12_renames X 120 [some (2, ((1000 : Nat) : Int)), some (0, n), some (0, a), some (0, gS G a_nSecond ((n).toNat)), some (0, gS G a_nThird ((n).toNat)), some (0, z1)] [] G42
              refine s_iconst dX12_renames_120 (by decide) ?_
              obtain ⟨u1, u2, u3, u4⟩ := va3 eG44 eG45 eG42
              have hrv := fun (j : Int) (j0 : 0 ≤ j) (j1 : j < 10) => (hpG39.1.rv hA.1 (by omega) j j0 j1).1
              have hv9 : ∀ j : Int, 0 ≤ j → j < 10 → (j = (gS G a_nSecond (n).toNat) → (gS G42 a_sValue (10 * n + j).toNat) = -1) ∧ (¬ j = (gS G a_nSecond (n).toNat) → ((gS G a_nKind (n).toNat) = 5 ∧ j = (gS G a_nThird (n).toNat)) → (gS G42 a_sValue (10 * n + j).toNat) = (gS G a_sValue (10 * a + (gS G a_nSecond (n).toNat)).toNat)) ∧ (¬ j = (gS G a_nSecond (n).toNat) → ¬ ((gS G a_nKind (n).toNat) = 5 ∧ j = (gS G a_nThird (n).toNat)) → (gS G42 a_sValue (10 * n + j).toNat) = (gS G a_sValue (10 * a + j).toNat)) := by
                intro j j0 j1; refine ⟨fun q => ?_, fun q z => ?_, fun q z => ?_⟩
                · subst q; exact g_at u1
                · exfalso; omega
                · rw [g_ne u1 (by omega)]; exact (hpG39.2.2 j j0 j1).1
              have hEf : FE G G42 Hs 0 0 := hFE0.fr (Fr.setA (Fr.setA (Fr.setA (Fr.call (Fr.rf) hfG39 (by decide) (by decide)) eG44 (by decide)) eG45 (by decide)) eG42 (by decide) : Fr [a_sType, a_sValue, a_sFlags, a_sNumber] [] G G42) (by decide) (by decide) (by decide)
              exact s_iret hR dX12_renames_121 rfl (hQ _ G42 hMG42 (⟨hFG42, ⟨hEf, (hpG39.1.trans (SlotFr.va (k := (gS G a_nSecond (n).toNat)) ⟨by omega, by omega⟩ hn.1 eG44 eG45 eG42)), fun j j0 j1 => by rw [u4]; have z9 := hpG39.2.1 j j0 j1; rw [z9]; exact (GT.fx (hRTa j j0 j1) hEf.2.1 hFU).mono (fun t z => stN.r (by rw [hEf.2.2.2.1.nd (n := a_nKind) (by decide)]; omega) (by rw [hEf.2.2.2.1.nd (n := a_nFirst) (by decide), ← ha]; exact hEf.2.2.2.1.stN z)), fun j j0 j1 => by have z9 := hv9 j j0 j1; by_cases q : j = (gS G a_nSecond (n).toNat); (rw [z9.1 q]; exact GT.none hEf.1 (by omega) (by omega)); (by_cases y : (gS G a_nKind (n).toNat) = 5 ∧ j = (gS G a_nThird (n).toNat); (rw [z9.2.1 q y]; exact (GT.fx (lo := -1) (hRVa _ (by omega) (by omega)) hEf.2.1 hFU).mono (fun t z => stN.r (by rw [hEf.2.2.2.1.nd (n := a_nKind) (by decide)]; omega) (by rw [hEf.2.2.2.1.nd (n := a_nFirst) (by decide), ← ha]; exact hEf.2.2.2.1.stN z))); (rw [z9.2.2 q y]; exact (GT.fx (lo := -1) (hRVa j j0 j1) hEf.2.1 hFU).mono (fun t z => stN.r (by rw [hEf.2.2.2.1.nd (n := a_nKind) (by decide)]; omega) (by rw [hEf.2.2.2.1.nd (n := a_nFirst) (by decide), ← ha]; exact hEf.2.2.2.1.stN z)))), fun _ j j0 j1 q => by have z9 := hv9 j j0 j1; have q9 : ¬ j = (gS G a_nSecond (n).toNat) := (fun z => q (z9.1 z)); refine ⟨q9, fun z0 z1 => ?_, fun z => ?_⟩; (rw [z9.2.1 q9 ⟨z0, z1⟩] at q; exact q); (rw [z9.2.2 q9 (fun y => z y.1 y.2)] at q; exact q)⟩⟩))
            · -- 99 to 102
              refine s_aload_n dX12_renames_102 rfl (Int.natCast_nonneg _) ?_
              refine s_iload_n dX12_renames_103 rfl ?_
              refine s_iload_n dX12_renames_104 rfl ?_
              refine s_iload_n dX12_renames_105 rfl ?_
              refine s_iload dX12_renames_106 rfl ?_
              refine cv_X12_381 rfl gX12_moves dX12_renames_108 hMG39 (by rw [hcf]; decide) (as := [(0, a), (0, gS G a_nSecond ((n).toNat)), (0, n), (0, gS G a_nThird ((n).toNat))]) rfl (Nat.le_of_ble_eq_true rfl) ⟨a, gS G a_nSecond ((n).toNat), n, gS G a_nThird ((n).toNat), rfl, hMG39, (by first | assumption | omega), (by first | assumption | omega), (by first | assumption | omega), (by first | assumption | omega), fun G46 hMG46 hpG46 => ?_⟩
              obtain ⟨G48, G49, eG48, eG49, eG46, hpG46⟩ := hpG46
              have hFG48 : Fr nX12_renames jX12_renames G G48 := Fr.setA hFG39 eG48 (by decide)
              have hFG49 : Fr nX12_renames jX12_renames G G49 := Fr.setA hFG48 eG49 (by decide)
              have hFG46 : Fr nX12_renames jX12_renames G G46 := Fr.setA hFG49 eG46 (by decide)
              show WP kX12_renames X 111 [some (2, ((1000 : Nat) : Int)), some (0, n), some (0, a), some (0, gS G a_nSecond ((n).toNat)), some (0, gS G a_nThird ((n).toNat)), some (0, z1)] [] G46
              refine s_aload_n dX12_renames_111 rfl (Int.natCast_nonneg _) ?_
              refine s_iload_n dX12_renames_112 rfl ?_
              refine s_iload_n dX12_renames_113 rfl ?_
              refine s_iconst dX12_renames_114 (by decide) ?_
              refine s_iconst dX12_renames_115 (by decide) ?_
              refine s_iconst dX12_renames_116 (by decide) ?_
              refine cv_X12_394 rfl gX12_shows dX12_renames_117 hMG46 (by rw [hcf]; decide) (as := [(0, n), (0, gS G a_nSecond ((n).toNat)), (0, (-1)), (0, 0), (0, 0)]) rfl (Nat.le_of_ble_eq_true rfl) ⟨n, gS G a_nSecond ((n).toNat), (-1), 0, 0, rfl, hMG46, (by first | assumption | omega), (by first | assumption | omega), fun G50 hMG50 hpG50 => ?_⟩
              obtain ⟨G52, G53, eG52, eG53, eG50, hpG50⟩ := hpG50
              have hFG52 : Fr nX12_renames jX12_renames G G52 := Fr.setA hFG46 eG52 (by decide)
              have hFG53 : Fr nX12_renames jX12_renames G G53 := Fr.setA hFG52 eG53 (by decide)
              have hFG50 : Fr nX12_renames jX12_renames G G50 := Fr.setA hFG53 eG50 (by decide)
              show WP kX12_renames X 120 [some (2, ((1000 : Nat) : Int)), some (0, n), some (0, a), some (0, gS G a_nSecond ((n).toNat)), some (0, gS G a_nThird ((n).toNat)), some (0, z1)] [] G50
              refine s_iconst dX12_renames_120 (by decide) ?_
              obtain ⟨u1, u2, u3, u4⟩ := va3 eG52 eG53 eG50
              obtain ⟨m1, m2, m3, m4⟩ := va3 eG48 eG49 eG46
              have hrv := fun (j : Int) (j0 : 0 ≤ j) (j1 : j < 10) => (hpG39.1.rv hA.1 (by omega) j j0 j1).1
              have hv9 : ∀ j : Int, 0 ≤ j → j < 10 → (j = (gS G a_nSecond (n).toNat) → (gS G50 a_sValue (10 * n + j).toNat) = -1) ∧ (¬ j = (gS G a_nSecond (n).toNat) → ((gS G a_nKind (n).toNat) = 5 ∧ j = (gS G a_nThird (n).toNat)) → (gS G50 a_sValue (10 * n + j).toNat) = (gS G a_sValue (10 * a + (gS G a_nSecond (n).toNat)).toNat)) ∧ (¬ j = (gS G a_nSecond (n).toNat) → ¬ ((gS G a_nKind (n).toNat) = 5 ∧ j = (gS G a_nThird (n).toNat)) → (gS G50 a_sValue (10 * n + j).toNat) = (gS G a_sValue (10 * a + j).toNat)) := by
                intro j j0 j1; refine ⟨fun q => ?_, fun q z => ?_, fun q z => ?_⟩
                · subst q; exact g_at u1
                · obtain ⟨z0, z1⟩ := z; rw [g_ne u1 (by omega)]; subst z1; rw [g_at m1]; exact hrv _ (by omega) (by omega)
                · rw [g_ne u1 (by omega), g_ne m1 (by omega)]; exact (hpG39.2.2 j j0 j1).1
              have hEf : FE G G50 Hs 0 0 := hFE0.fr (Fr.setA (Fr.setA (Fr.setA (Fr.setA (Fr.setA (Fr.setA (Fr.call (Fr.rf) hfG39 (by decide) (by decide)) eG48 (by decide)) eG49 (by decide)) eG46 (by decide)) eG52 (by decide)) eG53 (by decide)) eG50 (by decide) : Fr [a_sType, a_sValue, a_sFlags, a_sNumber] [] G G50) (by decide) (by decide) (by decide)
              exact s_iret hR dX12_renames_121 rfl (hQ _ G50 hMG50 (⟨hFG50, ⟨hEf, ((hpG39.1.trans (SlotFr.va (k := (gS G a_nThird (n).toNat)) ⟨by omega, by omega⟩ hn.1 eG48 eG49 eG46)).trans (SlotFr.va (k := (gS G a_nSecond (n).toNat)) ⟨by omega, by omega⟩ hn.1 eG52 eG53 eG50)), fun j j0 j1 => by rw [u4, m4]; have z9 := hpG39.2.1 j j0 j1; rw [z9]; exact (GT.fx (hRTa j j0 j1) hEf.2.1 hFU).mono (fun t z => stN.r (by rw [hEf.2.2.2.1.nd (n := a_nKind) (by decide)]; omega) (by rw [hEf.2.2.2.1.nd (n := a_nFirst) (by decide), ← ha]; exact hEf.2.2.2.1.stN z)), fun j j0 j1 => by have z9 := hv9 j j0 j1; by_cases q : j = (gS G a_nSecond (n).toNat); (rw [z9.1 q]; exact GT.none hEf.1 (by omega) (by omega)); (by_cases y : (gS G a_nKind (n).toNat) = 5 ∧ j = (gS G a_nThird (n).toNat); (rw [z9.2.1 q y]; exact (GT.fx (lo := -1) (hRVa _ (by omega) (by omega)) hEf.2.1 hFU).mono (fun t z => stN.r (by rw [hEf.2.2.2.1.nd (n := a_nKind) (by decide)]; omega) (by rw [hEf.2.2.2.1.nd (n := a_nFirst) (by decide), ← ha]; exact hEf.2.2.2.1.stN z))); (rw [z9.2.2 q y]; exact (GT.fx (lo := -1) (hRVa j j0 j1) hEf.2.1 hFU).mono (fun t z => stN.r (by rw [hEf.2.2.2.1.nd (n := a_nKind) (by decide)]; omega) (by rw [hEf.2.2.2.1.nd (n := a_nFirst) (by decide), ← ha]; exact hEf.2.2.2.1.stN z)))), fun _ j j0 j1 q => by have z9 := hv9 j j0 j1; have q9 : ¬ j = (gS G a_nSecond (n).toNat) := (fun z => q (z9.1 z)); refine ⟨q9, fun z0 z1 => ?_, fun z => ?_⟩; (rw [z9.2.1 q9 ⟨z0, z1⟩] at q; exact q); (rw [z9.2.2 q9 (fun y => z y.1 y.2)] at q; exact q)⟩⟩))
          · -- 73 to 76
            refine s_aload_n dX12_renames_76 rfl (Int.natCast_nonneg _) ?_
            refine s_iload_n dX12_renames_77 rfl ?_
            refine s_iload_n dX12_renames_78 rfl ?_
            refine cv_X12_398 rfl gX12_isHole dX12_renames_79 hM (by rw [hcf]; decide) (as := [(0, a), (0, gS G a_nSecond ((n).toNat))]) rfl (Nat.le_of_ble_eq_true rfl) ⟨a, gS G a_nSecond ((n).toNat), rfl, hM, (by first | assumption | omega), (by first | assumption | omega), ?_⟩
            show WP kX12_renames X 82 [some (2, ((1000 : Nat) : Int)), some (0, n), some (0, a), some (0, gS G a_nSecond ((n).toNat)), some (0, gS G a_nThird ((n).toNat)), some (0, z1)] [(0, b2i (¬ i_and (gS G a_sFlags (10 * a + (gS G a_nSecond ((n).toNat))).toNat) 1 = 0))] G
            refine s_if_eqB (tgt := 91) dX12_renames_82 (by decide) (fun c54 => ?_) (fun c54 => ?_)
            · -- 82 to 91
              refine s_aload_n dX12_renames_91 rfl (Int.natCast_nonneg _) ?_
              refine s_iload_n dX12_renames_92 rfl ?_
              refine s_iload_n dX12_renames_93 rfl ?_
              refine cv_X12_424 rfl gX12_copies dX12_renames_94 hM (by rw [hcf]; decide) (as := [(0, a), (0, n)]) rfl (Nat.le_of_ble_eq_true rfl) ⟨a, n, rfl, hM, (by first | assumption | omega), (by first | assumption | omega), (by first | assumption | omega), fun G55 hMG55 hpG55 => ?_⟩
              obtain ⟨hfG55, hpG55⟩ := hpG55
              have hFG55 : Fr nX12_renames jX12_renames G G55 := Fr.call Fr.rf hfG55 (by decide) (by decide)
              show WP kX12_renames X 97 [some (2, ((1000 : Nat) : Int)), some (0, n), some (0, a), some (0, gS G a_nSecond ((n).toNat)), some (0, gS G a_nThird ((n).toNat)), some (0, z1)] [] G55
              refine s_iload dX12_renames_97 rfl ?_
              refine s_if_eq (tgt := 111) dX12_renames_99 (by decide) (fun c57 => ?_) (fun c57 => ?_)
              · -- 99 to 111
                refine s_aload_n dX12_renames_111 rfl (Int.natCast_nonneg _) ?_
                refine s_iload_n dX12_renames_112 rfl ?_
                refine s_iload_n dX12_renames_113 rfl ?_
                refine s_iconst dX12_renames_114 (by decide) ?_
                refine s_iconst dX12_renames_115 (by decide) ?_
                refine s_iconst dX12_renames_116 (by decide) ?_
                refine cv_X12_394 rfl gX12_shows dX12_renames_117 hMG55 (by rw [hcf]; decide) (as := [(0, n), (0, gS G a_nSecond ((n).toNat)), (0, (-1)), (0, 0), (0, 0)]) rfl (Nat.le_of_ble_eq_true rfl) ⟨n, gS G a_nSecond ((n).toNat), (-1), 0, 0, rfl, hMG55, (by first | assumption | omega), (by first | assumption | omega), fun G58 hMG58 hpG58 => ?_⟩
                obtain ⟨G60, G61, eG60, eG61, eG58, hpG58⟩ := hpG58
                have hFG60 : Fr nX12_renames jX12_renames G G60 := Fr.setA hFG55 eG60 (by decide)
                have hFG61 : Fr nX12_renames jX12_renames G G61 := Fr.setA hFG60 eG61 (by decide)
                have hFG58 : Fr nX12_renames jX12_renames G G58 := Fr.setA hFG61 eG58 (by decide)
                show WP kX12_renames X 120 [some (2, ((1000 : Nat) : Int)), some (0, n), some (0, a), some (0, gS G a_nSecond ((n).toNat)), some (0, gS G a_nThird ((n).toNat)), some (0, z1)] [] G58
                refine s_iconst dX12_renames_120 (by decide) ?_
                obtain ⟨u1, u2, u3, u4⟩ := va3 eG60 eG61 eG58
                have hrv := fun (j : Int) (j0 : 0 ≤ j) (j1 : j < 10) => (hpG55.1.rv hA.1 (by omega) j j0 j1).1
                have hv9 : ∀ j : Int, 0 ≤ j → j < 10 → (j = (gS G a_nSecond (n).toNat) → (gS G58 a_sValue (10 * n + j).toNat) = -1) ∧ (¬ j = (gS G a_nSecond (n).toNat) → ((gS G a_nKind (n).toNat) = 5 ∧ j = (gS G a_nThird (n).toNat)) → (gS G58 a_sValue (10 * n + j).toNat) = (gS G a_sValue (10 * a + (gS G a_nSecond (n).toNat)).toNat)) ∧ (¬ j = (gS G a_nSecond (n).toNat) → ¬ ((gS G a_nKind (n).toNat) = 5 ∧ j = (gS G a_nThird (n).toNat)) → (gS G58 a_sValue (10 * n + j).toNat) = (gS G a_sValue (10 * a + j).toNat)) := by
                  intro j j0 j1; refine ⟨fun q => ?_, fun q z => ?_, fun q z => ?_⟩
                  · subst q; exact g_at u1
                  · exfalso; omega
                  · rw [g_ne u1 (by omega)]; exact (hpG55.2.2 j j0 j1).1
                have hEf : FE G G58 Hs 0 0 := hFE0.fr (Fr.setA (Fr.setA (Fr.setA (Fr.call (Fr.rf) hfG55 (by decide) (by decide)) eG60 (by decide)) eG61 (by decide)) eG58 (by decide) : Fr [a_sType, a_sValue, a_sFlags, a_sNumber] [] G G58) (by decide) (by decide) (by decide)
                exact s_iret hR dX12_renames_121 rfl (hQ _ G58 hMG58 (⟨hFG58, ⟨hEf, (hpG55.1.trans (SlotFr.va (k := (gS G a_nSecond (n).toNat)) ⟨by omega, by omega⟩ hn.1 eG60 eG61 eG58)), fun j j0 j1 => by rw [u4]; have z9 := hpG55.2.1 j j0 j1; rw [z9]; exact (GT.fx (hRTa j j0 j1) hEf.2.1 hFU).mono (fun t z => stN.r (by rw [hEf.2.2.2.1.nd (n := a_nKind) (by decide)]; omega) (by rw [hEf.2.2.2.1.nd (n := a_nFirst) (by decide), ← ha]; exact hEf.2.2.2.1.stN z)), fun j j0 j1 => by have z9 := hv9 j j0 j1; by_cases q : j = (gS G a_nSecond (n).toNat); (rw [z9.1 q]; exact GT.none hEf.1 (by omega) (by omega)); (by_cases y : (gS G a_nKind (n).toNat) = 5 ∧ j = (gS G a_nThird (n).toNat); (rw [z9.2.1 q y]; exact (GT.fx (lo := -1) (hRVa _ (by omega) (by omega)) hEf.2.1 hFU).mono (fun t z => stN.r (by rw [hEf.2.2.2.1.nd (n := a_nKind) (by decide)]; omega) (by rw [hEf.2.2.2.1.nd (n := a_nFirst) (by decide), ← ha]; exact hEf.2.2.2.1.stN z))); (rw [z9.2.2 q y]; exact (GT.fx (lo := -1) (hRVa j j0 j1) hEf.2.1 hFU).mono (fun t z => stN.r (by rw [hEf.2.2.2.1.nd (n := a_nKind) (by decide)]; omega) (by rw [hEf.2.2.2.1.nd (n := a_nFirst) (by decide), ← ha]; exact hEf.2.2.2.1.stN z)))), fun _ j j0 j1 q => by have z9 := hv9 j j0 j1; have q9 : ¬ j = (gS G a_nSecond (n).toNat) := (fun z => q (z9.1 z)); refine ⟨q9, fun z0 z1 => ?_, fun z => ?_⟩; (rw [z9.2.1 q9 ⟨z0, z1⟩] at q; exact q); (rw [z9.2.2 q9 (fun y => z y.1 y.2)] at q; exact q)⟩⟩))
              · -- 99 to 102
                refine s_aload_n dX12_renames_102 rfl (Int.natCast_nonneg _) ?_
                refine s_iload_n dX12_renames_103 rfl ?_
                refine s_iload_n dX12_renames_104 rfl ?_
                refine s_iload_n dX12_renames_105 rfl ?_
                refine s_iload dX12_renames_106 rfl ?_
                refine cv_X12_381 rfl gX12_moves dX12_renames_108 hMG55 (by rw [hcf]; decide) (as := [(0, a), (0, gS G a_nSecond ((n).toNat)), (0, n), (0, gS G a_nThird ((n).toNat))]) rfl (Nat.le_of_ble_eq_true rfl) ⟨a, gS G a_nSecond ((n).toNat), n, gS G a_nThird ((n).toNat), rfl, hMG55, (by first | assumption | omega), (by first | assumption | omega), (by first | assumption | omega), (by first | assumption | omega), fun G62 hMG62 hpG62 => ?_⟩
                obtain ⟨G64, G65, eG64, eG65, eG62, hpG62⟩ := hpG62
                have hFG64 : Fr nX12_renames jX12_renames G G64 := Fr.setA hFG55 eG64 (by decide)
                have hFG65 : Fr nX12_renames jX12_renames G G65 := Fr.setA hFG64 eG65 (by decide)
                have hFG62 : Fr nX12_renames jX12_renames G G62 := Fr.setA hFG65 eG62 (by decide)
                show WP kX12_renames X 111 [some (2, ((1000 : Nat) : Int)), some (0, n), some (0, a), some (0, gS G a_nSecond ((n).toNat)), some (0, gS G a_nThird ((n).toNat)), some (0, z1)] [] G62
                refine s_aload_n dX12_renames_111 rfl (Int.natCast_nonneg _) ?_
                refine s_iload_n dX12_renames_112 rfl ?_
                refine s_iload_n dX12_renames_113 rfl ?_
                refine s_iconst dX12_renames_114 (by decide) ?_
                refine s_iconst dX12_renames_115 (by decide) ?_
                refine s_iconst dX12_renames_116 (by decide) ?_
                refine cv_X12_394 rfl gX12_shows dX12_renames_117 hMG62 (by rw [hcf]; decide) (as := [(0, n), (0, gS G a_nSecond ((n).toNat)), (0, (-1)), (0, 0), (0, 0)]) rfl (Nat.le_of_ble_eq_true rfl) ⟨n, gS G a_nSecond ((n).toNat), (-1), 0, 0, rfl, hMG62, (by first | assumption | omega), (by first | assumption | omega), fun G66 hMG66 hpG66 => ?_⟩
                obtain ⟨G68, G69, eG68, eG69, eG66, hpG66⟩ := hpG66
                have hFG68 : Fr nX12_renames jX12_renames G G68 := Fr.setA hFG62 eG68 (by decide)
                have hFG69 : Fr nX12_renames jX12_renames G G69 := Fr.setA hFG68 eG69 (by decide)
                have hFG66 : Fr nX12_renames jX12_renames G G66 := Fr.setA hFG69 eG66 (by decide)
                show WP kX12_renames X 120 [some (2, ((1000 : Nat) : Int)), some (0, n), some (0, a), some (0, gS G a_nSecond ((n).toNat)), some (0, gS G a_nThird ((n).toNat)), some (0, z1)] [] G66
                refine s_iconst dX12_renames_120 (by decide) ?_
                obtain ⟨u1, u2, u3, u4⟩ := va3 eG68 eG69 eG66
                obtain ⟨m1, m2, m3, m4⟩ := va3 eG64 eG65 eG62
                have hrv := fun (j : Int) (j0 : 0 ≤ j) (j1 : j < 10) => (hpG55.1.rv hA.1 (by omega) j j0 j1).1
                have hv9 : ∀ j : Int, 0 ≤ j → j < 10 → (j = (gS G a_nSecond (n).toNat) → (gS G66 a_sValue (10 * n + j).toNat) = -1) ∧ (¬ j = (gS G a_nSecond (n).toNat) → ((gS G a_nKind (n).toNat) = 5 ∧ j = (gS G a_nThird (n).toNat)) → (gS G66 a_sValue (10 * n + j).toNat) = (gS G a_sValue (10 * a + (gS G a_nSecond (n).toNat)).toNat)) ∧ (¬ j = (gS G a_nSecond (n).toNat) → ¬ ((gS G a_nKind (n).toNat) = 5 ∧ j = (gS G a_nThird (n).toNat)) → (gS G66 a_sValue (10 * n + j).toNat) = (gS G a_sValue (10 * a + j).toNat)) := by
                  intro j j0 j1; refine ⟨fun q => ?_, fun q z => ?_, fun q z => ?_⟩
                  · subst q; exact g_at u1
                  · obtain ⟨z0, z1⟩ := z; rw [g_ne u1 (by omega)]; subst z1; rw [g_at m1]; exact hrv _ (by omega) (by omega)
                  · rw [g_ne u1 (by omega), g_ne m1 (by omega)]; exact (hpG55.2.2 j j0 j1).1
                have hEf : FE G G66 Hs 0 0 := hFE0.fr (Fr.setA (Fr.setA (Fr.setA (Fr.setA (Fr.setA (Fr.setA (Fr.call (Fr.rf) hfG55 (by decide) (by decide)) eG64 (by decide)) eG65 (by decide)) eG62 (by decide)) eG68 (by decide)) eG69 (by decide)) eG66 (by decide) : Fr [a_sType, a_sValue, a_sFlags, a_sNumber] [] G G66) (by decide) (by decide) (by decide)
                exact s_iret hR dX12_renames_121 rfl (hQ _ G66 hMG66 (⟨hFG66, ⟨hEf, ((hpG55.1.trans (SlotFr.va (k := (gS G a_nThird (n).toNat)) ⟨by omega, by omega⟩ hn.1 eG64 eG65 eG62)).trans (SlotFr.va (k := (gS G a_nSecond (n).toNat)) ⟨by omega, by omega⟩ hn.1 eG68 eG69 eG66)), fun j j0 j1 => by rw [u4, m4]; have z9 := hpG55.2.1 j j0 j1; rw [z9]; exact (GT.fx (hRTa j j0 j1) hEf.2.1 hFU).mono (fun t z => stN.r (by rw [hEf.2.2.2.1.nd (n := a_nKind) (by decide)]; omega) (by rw [hEf.2.2.2.1.nd (n := a_nFirst) (by decide), ← ha]; exact hEf.2.2.2.1.stN z)), fun j j0 j1 => by have z9 := hv9 j j0 j1; by_cases q : j = (gS G a_nSecond (n).toNat); (rw [z9.1 q]; exact GT.none hEf.1 (by omega) (by omega)); (by_cases y : (gS G a_nKind (n).toNat) = 5 ∧ j = (gS G a_nThird (n).toNat); (rw [z9.2.1 q y]; exact (GT.fx (lo := -1) (hRVa _ (by omega) (by omega)) hEf.2.1 hFU).mono (fun t z => stN.r (by rw [hEf.2.2.2.1.nd (n := a_nKind) (by decide)]; omega) (by rw [hEf.2.2.2.1.nd (n := a_nFirst) (by decide), ← ha]; exact hEf.2.2.2.1.stN z))); (rw [z9.2.2 q y]; exact (GT.fx (lo := -1) (hRVa j j0 j1) hEf.2.1 hFU).mono (fun t z => stN.r (by rw [hEf.2.2.2.1.nd (n := a_nKind) (by decide)]; omega) (by rw [hEf.2.2.2.1.nd (n := a_nFirst) (by decide), ← ha]; exact hEf.2.2.2.1.stN z)))), fun _ j j0 j1 q => by have z9 := hv9 j j0 j1; have q9 : ¬ j = (gS G a_nSecond (n).toNat) := (fun z => q (z9.1 z)); refine ⟨q9, fun z0 z1 => ?_, fun z => ?_⟩; (rw [z9.2.1 q9 ⟨z0, z1⟩] at q; exact q); (rw [z9.2.2 q9 (fun y => z y.1 y.2)] at q; exact q)⟩⟩))
            · -- 82 to 85
              refine s_sipush dX12_renames_85 rfl (by decide) ?_
              refine s_iload_n dX12_renames_88 rfl ?_
              refine s_iadd dX12_renames_89 (by omega) ?_
              exact s_iret hR dX12_renames_90 rfl (hQ _ G hM (⟨Fr.rf, ⟨hFE0, SlotFr.rf, hRTs.mono (fun _ z => z.elim), hRVs.mono (fun _ z => z.elim), fun q => by omega⟩⟩))
        · -- 61 to 64
          refine s_sipush dX12_renames_64 rfl (by decide) ?_
          refine s_iload dX12_renames_67 rfl ?_
          refine s_iadd dX12_renames_69 (by omega) ?_
          exact s_iret hR dX12_renames_70 rfl (hQ _ G hM (⟨Fr.rf, ⟨hFE0, SlotFr.rf, hRTs.mono (fun _ z => z.elim), hRVs.mono (fun _ z => z.elim), fun q => by omega⟩⟩))
    · -- 39 to 42
      refine s_sipush dX12_renames_42 rfl (by decide) ?_
      refine s_iload_n dX12_renames_45 rfl ?_
      refine s_iadd dX12_renames_46 (by omega) ?_
      exact s_iret hR dX12_renames_47 rfl (hQ _ G hM (⟨Fr.rf, ⟨hFE0, SlotFr.rf, hRTs.mono (fun _ z => z.elim), hRVs.mono (fun _ z => z.elim), fun q => by omega⟩⟩))
  refine s_icmp_ne (tgt := 29) dX12_renames_22 (by decide) (fun c70 => ?_) (fun c70 => ?_)
  · -- 22 to 29
    refine s_iconst dX12_renames_29 (by decide) ?_
    exact J2 0 (Or.inl ⟨c70, rfl⟩)
  · -- 22 to 25
    refine s_iconst dX12_renames_25 (by decide) ?_
    refine s_goto (tgt := 30) dX12_renames_26 (by decide) ?_
    exact J2 1 (Or.inr (⟨c70, rfl⟩))
