abbrev nX12_applies : List Nat := [a_equation, a_uses, a_reaches, a_solved, a_by, a_fKind, a_fA, a_fB, a_fSize, a_fNext, a_fHead, a_fMark, a_thingKind, a_thingA, a_thingB, a_thingC, a_thingNext, a_thingHead, a_stackOf, a_fMemo, a_sType, a_sValue, a_sFlags, a_sNumber]
abbrev jX12_applies : List Nat := [26, 42, 35, 36, 40, 41]
def TX12_applies : TR := fun as G Qr => ∃ (n a b s : Int) (Hs : List (Int → Int)) (vv : Int → Int), as = [(2, ((1000 : Nat) : Int)), (0, n), (0, a), (0, b), (0, s)] ∧ MG G ∧ (FU G) ∧ (TH G Hs) ∧ (vv ∈ Hs) ∧ (0 ≤ n ∧ n < (gS G 1000 18)) ∧ (s = n) ∧ ((gS G a_nKind (n).toNat) = 3) ∧ (a = (gS G a_nFirst (n).toNat)) ∧ (b = (gS G a_nSecond (n).toNat)) ∧ (0 ≤ a ∧ a < n ∧ 0 ≤ b ∧ b < n ∧ n < 40) ∧ (idN G vv b ((gS G a_ident (b).toNat))) ∧ (RT G (stN G vv a) a) ∧ (RV G (stN G vv a) a) ∧ (RT G (stN G vv b) b) ∧ (RV G (stN G vv b) b) ∧ (RT G NF s) ∧ (RV G NF s) ∧ (∀ j : Int, 0 ≤ j → j < 10 → (gS G a_sValue (10 * s + j).toNat) = -1) ∧ ((gS G 1000 26) + 6368 < 150000) ∧ ((gS G 1000 35) ≤ 1800000000) ∧ ∀ (r : Int) (G' : LG), MG G' → (Fr nX12_applies jX12_applies G G' ∧ (FE G G' Hs 6368 90 ∧ SlotFa s G G' ∧ RT G' (stN G' vv n) s ∧ RV G' (stN G' vv n) s ∧ (r = 0 → ∀ j : Int, 0 ≤ j → j < 10 → ¬ (gS G' a_sValue (10 * s + j).toNat) = -1 → ¬ (gS G a_sValue (10 * a + j).toNat) = -1))) → Qr (.inl (some (0, r))) G'
set_option maxHeartbeats 4000000 in
set_option maxRecDepth 100000 in
theorem gX12_applies : Good kX12_applies yX12_applies 7 TX12_applies := by
  refine good_of (by decide) rfl rfl (fun as G Qr h => ?_) (fun X as G Qr hcf hR hT oa => ?_)
  · obtain ⟨n, a, b, s, Hs, vv, rfl, -⟩ := h; exact Nat.le_of_ble_eq_true rfl
  obtain ⟨n, a, b, s, Hs, vv, rfl, hM, hFU, hTH, hvv, hn, hsn, hkd, ha, hb, hA, hid, hRTa, hRVa, hRTb, hRVb, hRTs, hRVs, hcl, hc, hm, hQ⟩ := hT
  show WP kX12_applies X 0 [some (2, ((1000 : Nat) : Int)), some (0, n), some (0, a), some (0, b), some (0, s), none, none] [] G
  have hr_n : inR n := okv_R (oa _ (by simp))
  have hr_a : inR a := okv_R (oa _ (by simp))
  have hr_b : inR b := okv_R (oa _ (by simp))
  have hr_s : inR s := okv_R (oa _ (by simp))
  have hFE0 := FE.rf hFU hTH
  have hff0 := hFU.f
  have hmk0 := hFU.2.1
  have hs0 : 0 ≤ s ∧ s < 40 := by omega
  refine s_aload_n dX12_applies_0 rfl (Int.natCast_nonneg _) ?_
  refine s_aload_n dX12_applies_1 rfl (Int.natCast_nonneg _) ?_
  refine gf_isGenerative rfl dX12_applies_2 hM ?_
  refine s_iload_n dX12_applies_5 rfl ?_
  refine s_bald dX12_applies_6 (mg_a_isGenerative hM) (by omega) (by omega) rfl ?_
  have J2 : ∀ z1 : Int, (((gS G a_isGenerative ((n).toNat)) = 0) ∧ z1 = 13) ∨ ((¬ (gS G a_isGenerative ((n).toNat)) = 0) ∧ z1 = 12) → WP kX12_applies X 17 [some (2, ((1000 : Nat) : Int)), some (0, n), some (0, a), some (0, b), some (0, s), none, none] [(0, z1), (2, ((1000 : Nat) : Int))] G := by
    intro z1 hz1
    refine pf_stampKind rfl dX12_applies_17 hM (fun G3 eG3 hMG3 => ?_)
    have hFG3 : Fr nX12_applies jX12_applies G G3 := Fr.setF Fr.rf eG3 (by decide)
    refine s_aload_n dX12_applies_20 rfl (Int.natCast_nonneg _) ?_
    refine s_aload_n dX12_applies_21 rfl (Int.natCast_nonneg _) ?_
    refine gf_isGenerative rfl dX12_applies_22 hMG3 ?_
    refine s_iload_n dX12_applies_25 rfl ?_
    refine s_bald dX12_applies_26 (mg_a_isGenerative hMG3) (by omega) (by omega) (gsnE eG3 (by decide)) ?_
    have J5 : ∀ z4 : Int, (((gS G a_isGenerative ((n).toNat)) = 0) ∧ z4 = gS G a_ident ((gS G a_nSecond ((n).toNat)).toNat)) ∨ ((¬ (gS G a_isGenerative ((n).toNat)) = 0) ∧ z4 = n) → WP kX12_applies X 45 [some (2, ((1000 : Nat) : Int)), some (0, n), some (0, a), some (0, b), some (0, s), none, none] [(0, z4), (2, ((1000 : Nat) : Int))] G3 := by
      intro z4 hz4
      refine pf_stampOf rfl dX12_applies_45 hMG3 (fun G6 eG6 hMG6 => ?_)
      have hFG6 : Fr nX12_applies jX12_applies G G6 := Fr.setF hFG3 eG6 (by decide)
      have hib : (gS G a_ident ((gS G a_nSecond (n).toNat)).toNat) = (gS G a_ident (b).toNat) := by rw [← hb]
      have hSK : SKO G vv n z1 z4 := by unfold SKO; rw [← hb]; rcases (show (¬ (gS G a_isGenerative (n).toNat) = 0 ∧ z1 = 12 ∧ z4 = n) ∨ ((gS G a_isGenerative (n).toNat) = 0 ∧ z1 = 13 ∧ z4 = (gS G a_ident (b).toNat)) by omega) with q | ⟨q1, q2, q3⟩; (exact Or.inl q); (exact Or.inr ⟨q1, q2, by rw [q3]; exact hid⟩)
      have hEk : FE G G6 Hs 0 0 := hFE0.fr (Fr.setF (Fr.setF (Fr.rf) eG3 (by decide)) eG6 (by decide) : Fr [] [40, 41] G G6) (by decide) (by decide) (by decide)
      have hfk := (Fr.setF (Fr.setF (Fr.rf) eG3 (by decide)) eG6 (by decide) : Fr [] [40, 41] G G6)
      have hk1 : (gS G6 1000 40) = z1 := (Eq.trans (gsjE eG6 (by decide)) (gsaE eG3))
      have hk2 : (gS G6 1000 41) = z4 := (gsaE eG6)
      have hrk : RowsEq G G6 := RowsEq.agr (hfk.agr (by decide) (by decide) (by decide))
      refine s_aload_n dX12_applies_48 rfl (Int.natCast_nonneg _) ?_
      refine s_iload_n dX12_applies_49 rfl ?_
      refine s_bipush dX12_applies_50 rfl (by decide) ?_
      refine cv_X12_424 rfl gX12_copies dX12_applies_52 hMG6 (by rw [hcf]; decide) (as := [(0, a), (0, 40)]) rfl (Nat.le_of_ble_eq_true rfl) ⟨a, 40, rfl, hMG6, (by first | assumption | omega), (by first | assumption | omega), (by first | assumption | omega), fun G7 hMG7 hpG7 => ?_⟩
      obtain ⟨hfG7, hpG7⟩ := hpG7
      have hFG7 : Fr nX12_applies jX12_applies G G7 := Fr.call hFG6 hfG7 (by decide) (by decide)
      show WP kX12_applies X 55 [some (2, ((1000 : Nat) : Int)), some (0, n), some (0, a), some (0, b), some (0, s), none, none] [] G7
      refine s_aload_n dX12_applies_55 rfl (Int.natCast_nonneg _) ?_
      refine s_iload_n dX12_applies_56 rfl ?_
      refine s_bipush dX12_applies_57 rfl (by decide) ?_
      refine cv_X12_424 rfl gX12_copies dX12_applies_59 hMG7 (by rw [hcf]; decide) (as := [(0, b), (0, 41)]) rfl (Nat.le_of_ble_eq_true rfl) ⟨b, 41, rfl, hMG7, (by first | assumption | omega), (by first | assumption | omega), (by first | assumption | omega), fun G9 hMG9 hpG9 => ?_⟩
      obtain ⟨hfG9, hpG9⟩ := hpG9
      have hFG9 : Fr nX12_applies jX12_applies G G9 := Fr.call hFG7 hfG9 (by decide) (by decide)
      show WP kX12_applies X 62 [some (2, ((1000 : Nat) : Int)), some (0, n), some (0, a), some (0, b), some (0, s), none, none] [] G9
      have hrc : RowsEq G G9 := (hrk.trans (RowsEq.slot hpG7.1 (by omega))).trans (RowsEq.slot hpG9.1 (by omega))
      have hEc : FE G G9 Hs 0 0 := (hEk.fr hfG7 (by decide) (by decide) (by decide)).fr hfG9 (by decide) (by decide) (by decide)
      have h40 : ∀ j : Int, 0 ≤ j → j < 10 → (gS G9 a_sValue (400 + j).toNat) = (gS G a_sValue (10 * a + j).toNat) := fun j j0 j1 => by have z9 := (hpG9.1.rv (b := 40) (by omega) (by omega) j j0 j1).1; have z8 := (hpG7.2.2 j j0 j1).1; have z7 := (hrk.rv ⟨hA.1, by omega⟩ j j0 j1).1; rw [show (400 + j : Int) = 10 * 40 + j by omega, z9, z8, z7]
      have hrr : RowsEq G G7 := hrk.trans (RowsEq.slot hpG7.1 (by omega))
      have h41 : RT G9 (stN G vv b) 41 := fun j j0 j1 => by have z9 := hpG9.2.1 j j0 j1; rw [z9, hrr.rt ⟨hA.2.2.1, by omega⟩ j j0 j1]; exact GT.fx (hRTb j j0 j1) hEc.2.1 hFU
      have h41v : RV G9 (stN G vv b) 41 := fun j j0 j1 => by have z9 := (hpG9.2.2 j j0 j1).1; rw [z9, (hrr.rv ⟨hA.2.2.1, by omega⟩ j j0 j1).1]; exact GT.fx (hRVb j j0 j1) hEc.2.1 hFU
      have hfc2 := (Fr.call (Fr.call (Fr.setF (Fr.setF (Fr.rf) eG3 (by decide)) eG6 (by decide)) hfG7 (by decide) (by decide)) hfG9 (by decide) (by decide) : Fr [a_sType, a_sValue, a_sFlags, a_sNumber] [40, 41] G G9)
      have hkc1 : (gS G9 1000 40) = z1 := ((hfG9.atF (by decide) (by decide)).trans (hfG7.atF (by decide) (by decide))).trans hk1
      have hkc2 : (gS G9 1000 41) = z4 := ((hfG9.atF (by decide) (by decide)).trans (hfG7.atF (by decide) (by decide))).trans hk2
      refine s_iconst dX12_applies_62 (by decide) ?_
      refine s_istore dX12_applies_63 (by decide) (lv' := [some (2, ((1000 : Nat) : Int)), some (0, n), some (0, a), some (0, b), some (0, s), some (0, 0), none]) rfl ?_
      have L11 : ∀ (n11 : Nat) (k11 : Int) (G11 : LG), MG G11 → Fr nX12_applies jX12_applies G G11 → ((0 ≤ k11 ∧ k11 ≤ 6) ∧ (FE G G11 Hs (200 * k11) k11) ∧ (RowsEq G G11) ∧ ((gS G11 1000 40) = z1 ∧ (gS G11 1000 41) = z4) ∧ (∀ j : Int, 0 ≤ j → j < k11 → GT G11 (stN G11 vv n) (-2) (gS G11 a_sType (240 + j).toNat)) ∧ (RT G11 (stN G vv b) 41) ∧ (RV G11 (stN G vv b) 41) ∧ (∀ j : Int, 0 ≤ j → j < 10 → (gS G11 a_sValue (400 + j).toNat) = (gS G a_sValue (10 * a + j).toNat))) → (6 - k11).toNat < n11 → WP kX12_applies X 65 [some (2, ((1000 : Nat) : Int)), some (0, n), some (0, a), some (0, b), some (0, s), some (0, k11), none] [] G11 := by
        intro n11
        induction n11 with
        | zero => intro k11 G11 hMG11 hFG11 hi11 hm11; exact absurd hm11 (Nat.not_lt_zero _)
        | succ n11 ih11 =>
          intro k11 G11 hMG11 hFG11 hi11 hm11
          have hj11 := hi11
          obtain ⟨ik11, iE11, iR11, iN11, i411, i111, iV11, i4011⟩ := hi11
          have hff11 := iE11.1.f
          refine s_iload dX12_applies_65 rfl ?_
          refine s_bipush dX12_applies_67 rfl (by decide) ?_
          refine s_icmp_ge (tgt := 121) dX12_applies_69 (by decide) (fun c12 => ?_) (fun c12 => ?_)
          · -- 69 to 121
            refine s_iconst dX12_applies_121 (by decide) ?_
            refine s_istore dX12_applies_122 (by decide) (lv' := [some (2, ((1000 : Nat) : Int)), some (0, n), some (0, a), some (0, b), some (0, s), some (0, 0), none]) rfl ?_
            have L13 : ∀ (n13 : Nat) (k13 : Int) (G13 : LG), MG G13 → Fr nX12_applies jX12_applies G G13 → ((0 ≤ k13 ∧ k13 ≤ 10) ∧ (FE G G13 Hs (1200 + 200 * k13) (6 + k13)) ∧ (RowsEq G G13) ∧ ((gS G13 1000 40) = z1 ∧ (gS G13 1000 41) = z4) ∧ (∀ j : Int, 0 ≤ j → j < 6 → GT G13 (stN G13 vv n) (-2) (gS G13 a_sType (240 + j).toNat)) ∧ (RT G13 (stN G vv b) 41) ∧ (RV G13 (stN G vv b) 41) ∧ (∀ j : Int, 0 ≤ j → j < 10 → (j < k13 → GT G13 (stN G13 vv n) (-1) (gS G13 a_sValue (400 + j).toNat)) ∧ (k13 ≤ j → (gS G13 a_sValue (400 + j).toNat) = (gS G a_sValue (10 * a + j).toNat)))) → (10 - k13).toNat < n13 → WP kX12_applies X 124 [some (2, ((1000 : Nat) : Int)), some (0, n), some (0, a), some (0, b), some (0, s), some (0, k13), none] [] G13 := by
              intro n13
              induction n13 with
              | zero => intro k13 G13 hMG13 hFG13 hi13 hm13; exact absurd hm13 (Nat.not_lt_zero _)
              | succ n13 ih13 =>
                intro k13 G13 hMG13 hFG13 hi13 hm13
                have hj13 := hi13
                obtain ⟨ik13, iE13, iR13, iN13, i413, i113, iV13, i513⟩ := hi13
                have hff13 := iE13.1.f
                refine s_iload dX12_applies_124 rfl ?_
                refine s_bipush dX12_applies_126 rfl (by decide) ?_
                refine s_icmp_ge (tgt := 186) dX12_applies_128 (by decide) (fun c14 => ?_) (fun c14 => ?_)
                · -- 128 to 186
                  have hEp := iE13
                  have hRp := iR13
                  have hk6 : k11 = 6 := by omega
                  have hk10 : k13 = 10 := by omega
                  refine s_aload_n dX12_applies_186 rfl (Int.natCast_nonneg _) ?_
                  refine s_bipush dX12_applies_187 rfl (by decide) ?_
                  refine cv_X12_428 rfl gX12_clears dX12_applies_189 hMG13 (by rw [hcf]; decide) (as := [(0, 42)]) rfl (Nat.le_of_ble_eq_true rfl) ⟨42, rfl, hMG13, (by first | assumption | omega), fun G15 hMG15 hpG15 => ?_⟩
                  obtain ⟨hfG15, hpG15⟩ := hpG15
                  have hFG15 : Fr nX12_applies jX12_applies G G15 := Fr.call hFG13 hfG15 (by decide) (by decide)
                  show WP kX12_applies X 192 [some (2, ((1000 : Nat) : Int)), some (0, n), some (0, a), some (0, b), some (0, s), some (0, k13), none] [] G15
                  have hEl : FE G G15 Hs 3200 16 := hEp.fr hfG15 (by decide) (by decide) (by decide) |>.weak (by omega) (by omega)
                  have hX1 : FX G13 G15 := FX.agf hfG15 (by decide) (by decide) (by decide)
                  have hRl : RowsEq G G15 := hRp.trans (RowsEq.slot hpG15.1 (by omega))
                  have hT40 : RT G15 (stN G13 vv n) 40 := fun j j0 j1 => by have z9 := hpG15.1.rt (b := 40) (by omega) (by omega) j j0 j1; rw [z9]; have z8 := i413 j j0 j1; exact z8.fx hX1 hEp.1
                  have hV40 : RV G15 (stN G13 vv n) 40 := fun j j0 j1 => by have z9 := (hpG15.1.rv (b := 40) (by omega) (by omega) j j0 j1).1; rw [z9]; have z8 := (i513 j j0 j1).1 (by omega); exact z8.fx hX1 hEp.1
                  have hT41 : RT G15 (stN G13 vv n) 41 := fun j j0 j1 => by have z9 := hpG15.1.rt (b := 41) (by omega) (by omega) j j0 j1; rw [z9]; have z8 := i113 j j0 j1; exact (GT.fx z8 hX1 hEp.1).mono (fun t z => stN.a2 (by rw [hEp.2.2.2.1.nd (n := a_nKind) (by decide)]; exact hkd) (by rw [hEp.2.2.2.1.nd (n := a_nSecond) (by decide), ← hb]; exact hEp.2.2.2.1.stN z))
                  have hV41 : RV G15 (stN G13 vv n) 41 := fun j j0 j1 => by have z9 := (hpG15.1.rv (b := 41) (by omega) (by omega) j j0 j1).1; rw [z9]; have z8 := iV13 j j0 j1; exact (GT.fx z8 hX1 hEp.1).mono (fun t z => stN.a2 (by rw [hEp.2.2.2.1.nd (n := a_nKind) (by decide)]; exact hkd) (by rw [hEp.2.2.2.1.nd (n := a_nSecond) (by decide), ← hb]; exact hEp.2.2.2.1.stN z))
                  have hT42 : RT G15 (stN G13 vv n) 42 := fun j j0 j1 => by rw [hpG15.2.1 j j0 j1]; exact GT.none hEl.1 (by omega) (by omega)
                  have hV42 : RV G15 (stN G13 vv n) 42 := fun j j0 j1 => by rw [hpG15.2.2 j j0 j1]; exact GT.none hEl.1 (by omega) (by omega)
                  have hcl42 : ∀ j : Int, 0 ≤ j → j < 10 → (gS G15 a_sValue (10 * 42 + j).toNat) = -1 := hpG15.2.2
                  have hfl := hEl.2.2.2.2
                  refine s_aload_n dX12_applies_192 rfl (Int.natCast_nonneg _) ?_
                  refine s_bipush dX12_applies_193 rfl (by decide) ?_
                  refine s_bipush dX12_applies_195 rfl (by decide) ?_
                  refine s_bipush dX12_applies_197 rfl (by decide) ?_
                  refine cv_X12_431 rfl gX12_links dX12_applies_199 hMG15 (by rw [hcf]; decide) (as := [(0, 40), (0, 41), (0, 42)]) rfl (Nat.le_of_ble_eq_true rfl) ⟨40, 41, 42, Hs, vv, (stN G13 vv n), rfl, hMG15, (by exact hEl.1), (by exact hEl.2.2.1), (by exact hvv), (by omega), (by omega), (by omega), (by omega), (by omega), (by exact hT40), (by exact hT41), (by exact hT42), (by exact hV40), (by exact hV41), (by exact hV42), (by exact hcl42), (by omega), (by omega), fun r18 G17 hMG17 hpG17 => ?_⟩
                  obtain ⟨hfG17, hpG17⟩ := hpG17
                  have hFG17 : Fr nX12_applies jX12_applies G G17 := Fr.call hFG15 hfG17 (by decide) (by decide)
                  show WP kX12_applies X 202 [some (2, ((1000 : Nat) : Int)), some (0, n), some (0, a), some (0, b), some (0, s), some (0, k13), none] [(0, r18)] G17
                  have hEr : FE G G17 Hs 6368 90 := hEl.trans hpG17.1 (by omega) (by omega)
                  have hRr : RowsEq G G17 := hRl.trans (RowsEq.slot hpG17.2.1 (by omega))
                  have hXp : TX G13 G17 := (TX.agr (hfG15.agr (by decide) (by decide) (by decide))).trans hpG17.1.2.2.2.1
                  have hTr : RT G17 (stN G13 vv n) 42 := hpG17.2.2.1
                  have hVr : RV G17 (stN G13 vv n) 42 := hpG17.2.2.2.1
                  have hTs : RT G17 NF s := hRTs.fx hEr.2.1 hFU (fun j j0 j1 => hRr.rt hs0 j j0 j1)
                  have hVs : RV G17 NF s := hRVs.fx hEr.2.1 hFU (fun j j0 j1 => (hRr.rv hs0 j j0 j1).1)
                  have hffr := hEr.1.f
                  refine s_istore dX12_applies_202 (by decide) (lv' := [some (2, ((1000 : Nat) : Int)), some (0, n), some (0, a), some (0, b), some (0, s), some (0, r18), none]) rfl ?_
                  refine s_iload dX12_applies_204 rfl ?_
                  refine s_if_eq (tgt := 212) dX12_applies_206 (by decide) (fun c19 => ?_) (fun c19 => ?_)
                  · -- 206 to 212
                    refine s_iconst dX12_applies_212 (by decide) ?_
                    refine s_istore dX12_applies_213 (by decide) (lv' := [some (2, ((1000 : Nat) : Int)), some (0, n), some (0, a), some (0, b), some (0, s), some (0, r18), some (0, 0)]) rfl ?_
                    have L20 : ∀ (n20 : Nat) (k20 : Int), ((0 ≤ k20 ∧ k20 ≤ 6)) → (6 - k20).toNat < n20 → WP kX12_applies X 215 [some (2, ((1000 : Nat) : Int)), some (0, n), some (0, a), some (0, b), some (0, s), some (0, r18), some (0, k20)] [] G17 := by
                      intro n20
                      induction n20 with
                      | zero => intro k20 hi20 hm20; exact absurd hm20 (Nat.not_lt_zero _)
                      | succ n20 ih20 =>
                        intro k20 hi20 hm20
                        have hj20 := hi20
                        obtain ⟨ik20⟩ := hi20
                        refine s_iload dX12_applies_215 rfl ?_
                        refine s_bipush dX12_applies_217 rfl (by decide) ?_
                        refine s_icmp_ge (tgt := 256) dX12_applies_219 (by decide) (fun c21 => ?_) (fun c21 => ?_)
                        · -- 219 to 256
                          refine s_iconst dX12_applies_256 (by decide) ?_
                          refine s_istore dX12_applies_257 (by decide) (lv' := [some (2, ((1000 : Nat) : Int)), some (0, n), some (0, a), some (0, b), some (0, s), some (0, r18), some (0, 0)]) rfl ?_
                          have L22 : ∀ (n22 : Nat) (k22 : Int), ((0 ≤ k22 ∧ k22 ≤ 10)) → (10 - k22).toNat < n22 → WP kX12_applies X 259 [some (2, ((1000 : Nat) : Int)), some (0, n), some (0, a), some (0, b), some (0, s), some (0, r18), some (0, k22)] [] G17 := by
                            intro n22
                            induction n22 with
                            | zero => intro k22 hi22 hm22; exact absurd hm22 (Nat.not_lt_zero _)
                            | succ n22 ih22 =>
                              intro k22 hi22 hm22
                              have hj22 := hi22
                              obtain ⟨ik22⟩ := hi22
                              refine s_iload dX12_applies_259 rfl ?_
                              refine s_bipush dX12_applies_261 rfl (by decide) ?_
                              refine s_icmp_ge (tgt := 321) dX12_applies_263 (by decide) (fun c23 => ?_) (fun c23 => ?_)
                              · -- 263 to 321
                                refine s_iconst dX12_applies_321 (by decide) ?_
                                refine s_istore dX12_applies_322 (by decide) (lv' := [some (2, ((1000 : Nat) : Int)), some (0, n), some (0, a), some (0, b), some (0, s), some (0, r18), some (0, 0)]) rfl ?_
                                have L24 : ∀ (n24 : Nat) (k24 : Int) (G24 : LG), MG G24 → Fr nX12_applies jX12_applies G G24 → ((0 ≤ k24 ∧ k24 ≤ 6) ∧ (Fr [a_sType] [] G17 G24) ∧ (SlotFr s G17 G24) ∧ (RT G24 (stN G13 vv n) s)) → (6 - k24).toNat < n24 → WP kX12_applies X 324 [some (2, ((1000 : Nat) : Int)), some (0, n), some (0, a), some (0, b), some (0, s), some (0, r18), some (0, k24)] [] G24 := by
                                  intro n24
                                  induction n24 with
                                  | zero => intro k24 G24 hMG24 hFG24 hi24 hm24; exact absurd hm24 (Nat.not_lt_zero _)
                                  | succ n24 ih24 =>
                                    intro k24 G24 hMG24 hFG24 hi24 hm24
                                    have hj24 := hi24
                                    obtain ⟨ik24, ir24, is24, iT24⟩ := hi24
                                    refine s_iload dX12_applies_324 rfl ?_
                                    refine s_bipush dX12_applies_326 rfl (by decide) ?_
                                    refine s_icmp_ge (tgt := 375) dX12_applies_328 (by decide) (fun c25 => ?_) (fun c25 => ?_)
                                    · -- 328 to 375
                                      have hEm : FE G G24 Hs 6368 90 := hEr.fr ir24 (by decide) (by decide) (by decide)
                                      have hsm := is24
                                      have hXm : TX G13 G24 := hXp.trans (TX.agr (ir24.agr (by decide) (by decide) (by decide)))
                                      have hTm : RT G24 (stN G13 vv n) s := iT24
                                      have hVm : RV G24 (stN G13 vv n) s := (hVs.fx (FX.agf ir24 (by decide) (by decide) (by decide)) hEr.1 (fun j _ _ => ir24.atA (by decide) (by decide))).mono (fun _ z => z.elim)
                                      have hVr2 : RV G24 (stN G13 vv n) 42 := hVr.fx (FX.agf ir24 (by decide) (by decide) (by decide)) hEr.1 (fun j _ _ => ir24.atA (by decide) (by decide))
                                      have hirm := ir24
                                      refine s_iconst dX12_applies_375 (by decide) ?_
                                      refine s_istore dX12_applies_376 (by decide) (lv' := [some (2, ((1000 : Nat) : Int)), some (0, n), some (0, a), some (0, b), some (0, s), some (0, r18), some (0, 0)]) rfl ?_
                                      have L26 : ∀ (n26 : Nat) (k26 : Int) (G26 : LG), MG G26 → Fr nX12_applies jX12_applies G G26 → ((0 ≤ k26 ∧ k26 ≤ 10) ∧ (Fr [a_sValue, a_sFlags, a_sNumber] [] G24 G26) ∧ (SlotFr s G24 G26) ∧ (RT G26 (stN G13 vv n) s) ∧ (RV G26 (stN G13 vv n) s) ∧ (∀ j : Int, 0 ≤ j → j < 10 → ¬ (gS G26 a_sValue (10 * s + j).toNat) = -1 → ¬ (gS G a_sValue (10 * a + j).toNat) = -1)) → (10 - k26).toNat < n26 → WP kX12_applies X 378 [some (2, ((1000 : Nat) : Int)), some (0, n), some (0, a), some (0, b), some (0, s), some (0, r18), some (0, k26)] [] G26 := by
                                        intro n26
                                        induction n26 with
                                        | zero => intro k26 G26 hMG26 hFG26 hi26 hm26; exact absurd hm26 (Nat.not_lt_zero _)
                                        | succ n26 ih26 =>
                                          intro k26 G26 hMG26 hFG26 hi26 hm26
                                          have hj26 := hi26
                                          obtain ⟨ik26, ir26, is26, iT26, iV26, iD26⟩ := hi26
                                          refine s_iload dX12_applies_378 rfl ?_
                                          refine s_bipush dX12_applies_380 rfl (by decide) ?_
                                          refine s_icmp_ge (tgt := 414) dX12_applies_382 (by decide) (fun c27 => ?_) (fun c27 => ?_)
                                          · -- 382 to 414
                                            refine s_iconst dX12_applies_414 (by decide) ?_
                                            exact s_iret hR dX12_applies_415 rfl (hQ _ G26 hMG26 (⟨hFG26, ⟨hEm.fr ir26 (by decide) (by decide) (by decide), ((hRr.fa).trans hsm.fa).trans is26.fa, iT26.mono (fun t z => (hXm.trans (TX.agr (ir26.agr (by decide) (by decide) (by decide)))).stN z), iV26.mono (fun t z => (hXm.trans (TX.agr (ir26.agr (by decide) (by decide) (by decide)))).stN z), fun _ => iD26⟩⟩))
                                          · -- 382 to 385
                                            refine s_aload_n dX12_applies_385 rfl (Int.natCast_nonneg _) ?_
                                            refine s_iload_n dX12_applies_386 rfl ?_
                                            refine s_iload dX12_applies_387 rfl ?_
                                            refine cv_X12_388 rfl gX12_isOf dX12_applies_389 hMG26 (by rw [hcf]; decide) (as := [(0, a), (0, k26)]) rfl (Nat.le_of_ble_eq_true rfl) ⟨a, k26, rfl, hMG26, (by first | assumption | omega), (by first | assumption | omega), ?_⟩
                                            show WP kX12_applies X 392 [some (2, ((1000 : Nat) : Int)), some (0, n), some (0, a), some (0, b), some (0, s), some (0, r18), some (0, k26)] [(0, (gS G26 a_sValue (10 * a + k26).toNat))] G26
                                            refine s_iconst dX12_applies_392 (by decide) ?_
                                            refine s_icmp_eq (tgt := 408) dX12_applies_393 (by decide) (fun c28 => ?_) (fun c28 => ?_)
                                            · -- 393 to 408
                                              refine s_iinc dX12_applies_408 (v := k26) rfl (by omega) (by decide) (lv' := [some (2, ((1000 : Nat) : Int)), some (0, n), some (0, a), some (0, b), some (0, s), some (0, r18), some (0, k26 + 1)]) rfl ?_
                                              refine s_goto (tgt := 378) dX12_applies_411 (by decide) ?_
                                              exact ih26 (k26 + 1) G26 hMG26 hFG26 (⟨(by omega), (by exact ir26), (by exact is26), (by exact iT26), (by exact iV26), (by intro j j0 j1 q; exact iD26 j j0 j1 q)⟩) (by omega)
                                            · -- 393 to 396
                                              refine s_aload_n dX12_applies_396 rfl (Int.natCast_nonneg _) ?_
                                              refine s_bipush dX12_applies_397 rfl (by decide) ?_
                                              refine s_iload dX12_applies_399 rfl ?_
                                              refine s_iload dX12_applies_401 rfl ?_
                                              refine s_iload dX12_applies_403 rfl ?_
                                              refine cv_X12_381 rfl gX12_moves dX12_applies_405 hMG26 (by rw [hcf]; decide) (as := [(0, 42), (0, k26), (0, s), (0, k26)]) rfl (Nat.le_of_ble_eq_true rfl) ⟨42, k26, s, k26, rfl, hMG26, (by first | assumption | omega), (by first | assumption | omega), (by first | assumption | omega), (by first | assumption | omega), fun G29 hMG29 hpG29 => ?_⟩
                                              obtain ⟨G31, G32, eG31, eG32, eG29, hpG29⟩ := hpG29
                                              have hFG31 : Fr nX12_applies jX12_applies G G31 := Fr.setA hFG26 eG31 (by decide)
                                              have hFG32 : Fr nX12_applies jX12_applies G G32 := Fr.setA hFG31 eG32 (by decide)
                                              have hFG29 : Fr nX12_applies jX12_applies G G29 := Fr.setA hFG32 eG29 (by decide)
                                              show WP kX12_applies X 408 [some (2, ((1000 : Nat) : Int)), some (0, n), some (0, a), some (0, b), some (0, s), some (0, r18), some (0, k26)] [] G29
                                              refine s_iinc dX12_applies_408 (v := k26) rfl (by omega) (by decide) (lv' := [some (2, ((1000 : Nat) : Int)), some (0, n), some (0, a), some (0, b), some (0, s), some (0, r18), some (0, k26 + 1)]) rfl ?_
                                              refine s_goto (tgt := 378) dX12_applies_411 (by decide) ?_
                                              exact ih26 (k26 + 1) G29 hMG29 hFG29 (⟨(by omega), (by exact Fr.call ir26 (Fr.setA (Fr.setA (Fr.setA (Fr.rf) eG31 (by decide)) eG32 (by decide)) eG29 (by decide) : Fr [a_sValue, a_sFlags, a_sNumber] [] G26 G29) (by decide) (by decide)), (by exact is26.trans (SlotFr.va (k := k26) ⟨by omega, by omega⟩ hs0.1 eG31 eG32 eG29)), (by exact iT26.fx (FX.agf (Fr.setA (Fr.setA (Fr.setA (Fr.rf) eG31 (by decide)) eG32 (by decide)) eG29 (by decide) : Fr [a_sValue, a_sFlags, a_sNumber] [] G26 G29) (by decide) (by decide) (by decide)) (hEm.fr ir26 (by decide) (by decide) (by decide)).1 (fun j _ _ => (Fr.setA (Fr.setA (Fr.setA (Fr.rf) eG31 (by decide)) eG32 (by decide)) eG29 (by decide) : Fr [a_sValue, a_sFlags, a_sNumber] [] G26 G29).atA (by decide) (by decide))), (by refine RV.set iV26 hs0.1 ⟨by omega, by omega⟩ eG31 eG32 eG29 ?_ (hEm.fr ir26 (by decide) (by decide) (by decide)).1; have z9 := GT.fx (hVr2 k26 (by omega) (by omega)) (FX.agf ir26 (by decide) (by decide) (by decide)) hEm.1; rw [← (is26.rv (b := 42) (by omega) (by omega) k26 (by omega) (by omega)).1] at z9; exact z9), (by obtain ⟨u1, u2, u3, u4⟩ := va3 eG31 eG32 eG29; intro j j0 j1 q; by_cases hj : j = k26; (subst hj; have z9 := (is26.rv (b := a) hA.1 (by omega) _ j0 j1).1; have z8 := (hsm.rv (b := a) hA.1 (by omega) _ j0 j1).1; have z7 := (hRr.rv ⟨hA.1, by omega⟩ _ j0 j1).1; omega); (rw [g_ne u1 (by omega)] at q; exact iD26 j j0 j1 q))⟩) (by omega)
                                      exact L26 _ 0 G24 hMG24 hFG24 (⟨(by omega), (by exact Fr.rf), (by exact SlotFr.rf), (by exact hTm), (by exact hVm), (by intro j j0 j1 q; rw [hirm.atA (by decide) (by decide), (hRr.rv hs0 j j0 j1).1] at q; exact absurd (hcl j j0 j1) q)⟩) (Nat.lt_succ_self _)
                                    · -- 328 to 331
                                      refine s_aload_n dX12_applies_331 rfl (Int.natCast_nonneg _) ?_
                                      refine gf_sType rfl dX12_applies_332 hMG24 ?_
                                      refine s_bipush dX12_applies_335 rfl (by decide) ?_
                                      refine s_iload dX12_applies_337 rfl ?_
                                      refine s_imul dX12_applies_339 (by omega) ?_
                                      refine s_iload dX12_applies_340 rfl ?_
                                      refine s_iadd dX12_applies_342 (by omega) ?_
                                      refine s_aload_n dX12_applies_343 rfl (Int.natCast_nonneg _) ?_
                                      refine s_iload_n dX12_applies_344 rfl ?_
                                      refine s_iload dX12_applies_345 rfl ?_
                                      refine cv_X12_413 rfl gX12_isType_ dX12_applies_347 hMG24 (by rw [hcf]; decide) (as := [(0, a), (0, k24)]) rfl (Nat.le_of_ble_eq_true rfl) ⟨a, k24, rfl, hMG24, (by first | assumption | omega), (by first | assumption | omega), ?_⟩
                                      show WP kX12_applies X 350 [some (2, ((1000 : Nat) : Int)), some (0, n), some (0, a), some (0, b), some (0, s), some (0, r18), some (0, k24)] [(0, (gS G24 a_sType (6 * a + k24).toNat)), (0, (6 * s) + k24), (2, ((a_sType : Nat) : Int))] G24
                                      refine s_bipush dX12_applies_350 rfl (by decide) ?_
                                      have J34 : ∀ z33 : Int, ((¬ ((gS G24 a_sType (6 * a + k24).toNat)) = ((-2))) ∧ z33 = (gS G24 a_sType (6 * 42 + k24).toNat)) ∨ ((((gS G24 a_sType (6 * a + k24).toNat)) = ((-2))) ∧ z33 = (-2)) → WP kX12_applies X 368 [some (2, ((1000 : Nat) : Int)), some (0, n), some (0, a), some (0, b), some (0, s), some (0, r18), some (0, k24)] [(0, z33), (0, (6 * s) + k24), (2, ((a_sType : Nat) : Int))] G24 := by
                                        intro z33 hz33
                                        refine r_iast dX12_applies_368 hMG24 (mg_a_sType hMG24) (by decide) (by omega) (by omega) (fun G35 eG35 hMG35 => ?_)
                                        have hFG35 : Fr nX12_applies jX12_applies G G35 := Fr.setA hFG24 eG35 (by decide)
                                        show WP kX12_applies X 369 [some (2, ((1000 : Nat) : Int)), some (0, n), some (0, a), some (0, b), some (0, s), some (0, r18), some (0, k24)] [] G35
                                        refine s_iinc dX12_applies_369 (v := k24) rfl (by omega) (by decide) (lv' := [some (2, ((1000 : Nat) : Int)), some (0, n), some (0, a), some (0, b), some (0, s), some (0, r18), some (0, k24 + 1)]) rfl ?_
                                        refine s_goto (tgt := 324) dX12_applies_372 (by decide) ?_
                                        exact ih24 (k24 + 1) G35 hMG35 hFG35 (⟨(by omega), (by exact Fr.setA ir24 eG35 (by decide)), (by exact is24.trans (SlotFr.ty (k := k24) ⟨by omega, by omega⟩ hs0.1 eG35)), (by refine RT.set iT24 hs0.1 ⟨by omega, by omega⟩ eG35 ?_ (hEr.fr ir24 (by decide) (by decide) (by decide)).1; have z9 := GT.fx (hTr k24 (by omega) (by omega)) (FX.agf ir24 (by decide) (by decide) (by decide)) hEr.1; rw [← is24.rt (b := 42) (by omega) (by omega) k24 (by omega) (by omega)] at z9; rcases hz33 with ⟨q1, q2⟩ | ⟨q1, q2⟩; (rw [q2]; first | exact z9 | exact GT.none (hEr.fr ir24 (by decide) (by decide) (by decide)).1 (by omega) (by omega)); (rw [q2]; first | exact GT.none (hEr.fr ir24 (by decide) (by decide) (by decide)).1 (by omega) (by omega) | exact z9))⟩) (by omega)
                                      refine s_icmp_ne (tgt := 360) dX12_applies_352 (by decide) (fun c36 => ?_) (fun c36 => ?_)
                                      · -- 352 to 360
                                        refine s_aload_n dX12_applies_360 rfl (Int.natCast_nonneg _) ?_
                                        refine s_bipush dX12_applies_361 rfl (by decide) ?_
                                        refine s_iload dX12_applies_363 rfl ?_
                                        refine cv_X12_413 rfl gX12_isType_ dX12_applies_365 hMG24 (by rw [hcf]; decide) (as := [(0, 42), (0, k24)]) rfl (Nat.le_of_ble_eq_true rfl) ⟨42, k24, rfl, hMG24, (by first | assumption | omega), (by first | assumption | omega), ?_⟩
                                        show WP kX12_applies X 368 [some (2, ((1000 : Nat) : Int)), some (0, n), some (0, a), some (0, b), some (0, s), some (0, r18), some (0, k24)] [(0, (gS G24 a_sType (6 * 42 + k24).toNat)), (0, (6 * s) + k24), (2, ((a_sType : Nat) : Int))] G24
                                        exact J34 _ (Or.inl ⟨c36, rfl⟩)
                                      · -- 352 to 355
                                        refine s_bipush dX12_applies_355 rfl (by decide) ?_
                                        refine s_goto (tgt := 368) dX12_applies_357 (by decide) ?_
                                        exact J34 ((-2)) (Or.inr (⟨c36, rfl⟩))
                                exact L24 _ 0 G17 hMG17 hFG17 (⟨(by omega), (by exact Fr.rf), (by exact SlotFr.rf), (by exact hTs.mono (fun _ z => z.elim))⟩) (Nat.lt_succ_self _)
                              · -- 263 to 266
                                refine s_aload_n dX12_applies_266 rfl (Int.natCast_nonneg _) ?_
                                refine s_iload_n dX12_applies_267 rfl ?_
                                refine s_iload dX12_applies_268 rfl ?_
                                refine cv_X12_388 rfl gX12_isOf dX12_applies_270 hMG17 (by rw [hcf]; decide) (as := [(0, a), (0, k22)]) rfl (Nat.le_of_ble_eq_true rfl) ⟨a, k22, rfl, hMG17, (by first | assumption | omega), (by first | assumption | omega), ?_⟩
                                show WP kX12_applies X 273 [some (2, ((1000 : Nat) : Int)), some (0, n), some (0, a), some (0, b), some (0, s), some (0, r18), some (0, k22)] [(0, (gS G17 a_sValue (10 * a + k22).toNat))] G17
                                refine s_iconst dX12_applies_273 (by decide) ?_
                                refine s_icmp_eq (tgt := 315) dX12_applies_274 (by decide) (fun c37 => ?_) (fun c37 => ?_)
                                · -- 274 to 315
                                  refine s_iinc dX12_applies_315 (v := k22) rfl (by omega) (by decide) (lv' := [some (2, ((1000 : Nat) : Int)), some (0, n), some (0, a), some (0, b), some (0, s), some (0, r18), some (0, k22 + 1)]) rfl ?_
                                  refine s_goto (tgt := 259) dX12_applies_318 (by decide) ?_
                                  exact ih22 (k22 + 1) ((by omega)) (by omega)
                                · -- 274 to 277
                                  refine s_aload_n dX12_applies_277 rfl (Int.natCast_nonneg _) ?_
                                  refine s_iload_n dX12_applies_278 rfl ?_
                                  refine s_iload dX12_applies_279 rfl ?_
                                  refine cv_X12_398 rfl gX12_isHole dX12_applies_281 hMG17 (by rw [hcf]; decide) (as := [(0, a), (0, k22)]) rfl (Nat.le_of_ble_eq_true rfl) ⟨a, k22, rfl, hMG17, (by first | assumption | omega), (by first | assumption | omega), ?_⟩
                                  show WP kX12_applies X 284 [some (2, ((1000 : Nat) : Int)), some (0, n), some (0, a), some (0, b), some (0, s), some (0, r18), some (0, k22)] [(0, b2i (¬ i_and (gS G17 a_sFlags (10 * a + k22).toNat) 1 = 0))] G17
                                  refine s_if_eqB (tgt := 315) dX12_applies_284 (by decide) (fun c38 => ?_) (fun c38 => ?_)
                                  · -- 284 to 315
                                    refine s_iinc dX12_applies_315 (v := k22) rfl (by omega) (by decide) (lv' := [some (2, ((1000 : Nat) : Int)), some (0, n), some (0, a), some (0, b), some (0, s), some (0, r18), some (0, k22 + 1)]) rfl ?_
                                    refine s_goto (tgt := 259) dX12_applies_318 (by decide) ?_
                                    exact ih22 (k22 + 1) ((by omega)) (by omega)
                                  · -- 284 to 287
                                    refine s_aload_n dX12_applies_287 rfl (Int.natCast_nonneg _) ?_
                                    refine s_iload_n dX12_applies_288 rfl ?_
                                    refine s_iload dX12_applies_289 rfl ?_
                                    refine cv_X12_388 rfl gX12_isOf dX12_applies_291 hMG17 (by rw [hcf]; decide) (as := [(0, b), (0, k22)]) rfl (Nat.le_of_ble_eq_true rfl) ⟨b, k22, rfl, hMG17, (by first | assumption | omega), (by first | assumption | omega), ?_⟩
                                    show WP kX12_applies X 294 [some (2, ((1000 : Nat) : Int)), some (0, n), some (0, a), some (0, b), some (0, s), some (0, r18), some (0, k22)] [(0, (gS G17 a_sValue (10 * b + k22).toNat))] G17
                                    refine s_iconst dX12_applies_294 (by decide) ?_
                                    refine s_icmp_eq (tgt := 308) dX12_applies_295 (by decide) (fun c39 => ?_) (fun c39 => ?_)
                                    · -- 295 to 308
                                      refine s_sipush dX12_applies_308 rfl (by decide) ?_
                                      refine s_iload dX12_applies_311 rfl ?_
                                      refine s_iadd dX12_applies_313 (by omega) ?_
                                      exact s_iret hR dX12_applies_314 rfl (hQ _ G17 hMG17 (⟨hFG17, ⟨hEr, hRr.fa, hTs.mono (fun _ z => z.elim), hVs.mono (fun _ z => z.elim), fun q => by omega⟩⟩))
                                    · -- 295 to 298
                                      refine s_aload_n dX12_applies_298 rfl (Int.natCast_nonneg _) ?_
                                      refine s_iload_n dX12_applies_299 rfl ?_
                                      refine s_iload dX12_applies_300 rfl ?_
                                      refine cv_X12_398 rfl gX12_isHole dX12_applies_302 hMG17 (by rw [hcf]; decide) (as := [(0, b), (0, k22)]) rfl (Nat.le_of_ble_eq_true rfl) ⟨b, k22, rfl, hMG17, (by first | assumption | omega), (by first | assumption | omega), ?_⟩
                                      show WP kX12_applies X 305 [some (2, ((1000 : Nat) : Int)), some (0, n), some (0, a), some (0, b), some (0, s), some (0, r18), some (0, k22)] [(0, b2i (¬ i_and (gS G17 a_sFlags (10 * b + k22).toNat) 1 = 0))] G17
                                      refine s_if_eqB (tgt := 315) dX12_applies_305 (by decide) (fun c40 => ?_) (fun c40 => ?_)
                                      · -- 305 to 315
                                        refine s_iinc dX12_applies_315 (v := k22) rfl (by omega) (by decide) (lv' := [some (2, ((1000 : Nat) : Int)), some (0, n), some (0, a), some (0, b), some (0, s), some (0, r18), some (0, k22 + 1)]) rfl ?_
                                        refine s_goto (tgt := 259) dX12_applies_318 (by decide) ?_
                                        exact ih22 (k22 + 1) ((by omega)) (by omega)
                                      · -- 305 to 308
                                        refine s_sipush dX12_applies_308 rfl (by decide) ?_
                                        refine s_iload dX12_applies_311 rfl ?_
                                        refine s_iadd dX12_applies_313 (by omega) ?_
                                        exact s_iret hR dX12_applies_314 rfl (hQ _ G17 hMG17 (⟨hFG17, ⟨hEr, hRr.fa, hTs.mono (fun _ z => z.elim), hVs.mono (fun _ z => z.elim), fun q => by omega⟩⟩))
                          exact L22 _ 0 ((by omega)) (Nat.lt_succ_self _)
                        · -- 219 to 222
                          refine s_aload_n dX12_applies_222 rfl (Int.natCast_nonneg _) ?_
                          refine s_iload_n dX12_applies_223 rfl ?_
                          refine s_iload dX12_applies_224 rfl ?_
                          refine cv_X12_413 rfl gX12_isType_ dX12_applies_226 hMG17 (by rw [hcf]; decide) (as := [(0, a), (0, k20)]) rfl (Nat.le_of_ble_eq_true rfl) ⟨a, k20, rfl, hMG17, (by first | assumption | omega), (by first | assumption | omega), ?_⟩
                          show WP kX12_applies X 229 [some (2, ((1000 : Nat) : Int)), some (0, n), some (0, a), some (0, b), some (0, s), some (0, r18), some (0, k20)] [(0, (gS G17 a_sType (6 * a + k20).toNat))] G17
                          refine s_iconst dX12_applies_229 (by decide) ?_
                          refine s_icmp_ne (tgt := 250) dX12_applies_230 (by decide) (fun c41 => ?_) (fun c41 => ?_)
                          · -- 230 to 250
                            refine s_iinc dX12_applies_250 (v := k20) rfl (by omega) (by decide) (lv' := [some (2, ((1000 : Nat) : Int)), some (0, n), some (0, a), some (0, b), some (0, s), some (0, r18), some (0, k20 + 1)]) rfl ?_
                            refine s_goto (tgt := 215) dX12_applies_253 (by decide) ?_
                            exact ih20 (k20 + 1) ((by omega)) (by omega)
                          · -- 230 to 233
                            refine s_aload_n dX12_applies_233 rfl (Int.natCast_nonneg _) ?_
                            refine s_iload_n dX12_applies_234 rfl ?_
                            refine s_iload dX12_applies_235 rfl ?_
                            refine cv_X12_413 rfl gX12_isType_ dX12_applies_237 hMG17 (by rw [hcf]; decide) (as := [(0, b), (0, k20)]) rfl (Nat.le_of_ble_eq_true rfl) ⟨b, k20, rfl, hMG17, (by first | assumption | omega), (by first | assumption | omega), ?_⟩
                            show WP kX12_applies X 240 [some (2, ((1000 : Nat) : Int)), some (0, n), some (0, a), some (0, b), some (0, s), some (0, r18), some (0, k20)] [(0, (gS G17 a_sType (6 * b + k20).toNat))] G17
                            refine s_if_ge (tgt := 250) dX12_applies_240 (by decide) (fun c42 => ?_) (fun c42 => ?_)
                            · -- 240 to 250
                              refine s_iinc dX12_applies_250 (v := k20) rfl (by omega) (by decide) (lv' := [some (2, ((1000 : Nat) : Int)), some (0, n), some (0, a), some (0, b), some (0, s), some (0, r18), some (0, k20 + 1)]) rfl ?_
                              refine s_goto (tgt := 215) dX12_applies_253 (by decide) ?_
                              exact ih20 (k20 + 1) ((by omega)) (by omega)
                            · -- 240 to 243
                              refine s_sipush dX12_applies_243 rfl (by decide) ?_
                              refine s_iload dX12_applies_246 rfl ?_
                              refine s_iadd dX12_applies_248 (by omega) ?_
                              exact s_iret hR dX12_applies_249 rfl (hQ _ G17 hMG17 (⟨hFG17, ⟨hEr, hRr.fa, hTs.mono (fun _ z => z.elim), hVs.mono (fun _ z => z.elim), fun q => by omega⟩⟩))
                    exact L20 _ 0 ((by omega)) (Nat.lt_succ_self _)
                  · -- 206 to 209
                    refine s_iload dX12_applies_209 rfl ?_
                    exact s_iret hR dX12_applies_211 rfl (hQ _ G17 hMG17 (⟨hFG17, ⟨hEr, hRr.fa, hTs.mono (fun _ z => z.elim), hVs.mono (fun _ z => z.elim), fun q => by omega⟩⟩))
                · -- 128 to 131
                  refine s_aload_n dX12_applies_131 rfl (Int.natCast_nonneg _) ?_
                  refine s_iload_n dX12_applies_132 rfl ?_
                  refine s_iload dX12_applies_133 rfl ?_
                  refine cv_X12_388 rfl gX12_isOf dX12_applies_135 hMG13 (by rw [hcf]; decide) (as := [(0, a), (0, k13)]) rfl (Nat.le_of_ble_eq_true rfl) ⟨a, k13, rfl, hMG13, (by first | assumption | omega), (by first | assumption | omega), ?_⟩
                  show WP kX12_applies X 138 [some (2, ((1000 : Nat) : Int)), some (0, n), some (0, a), some (0, b), some (0, s), some (0, k13), none] [(0, (gS G13 a_sValue (10 * a + k13).toNat))] G13
                  refine s_iconst dX12_applies_138 (by decide) ?_
                  refine s_icmp_eq (tgt := 168) dX12_applies_139 (by decide) (fun c43 => ?_) (fun c43 => ?_)
                  · -- 139 to 168
                    refine s_aload_n dX12_applies_168 rfl (Int.natCast_nonneg _) ?_
                    refine gf_sValue rfl dX12_applies_169 hMG13 ?_
                    refine s_sipush dX12_applies_172 rfl (by decide) ?_
                    refine s_iload dX12_applies_175 rfl ?_
                    refine s_iadd dX12_applies_177 (by omega) ?_
                    refine s_iconst dX12_applies_178 (by decide) ?_
                    refine r_iast dX12_applies_179 hMG13 (mg_a_sValue hMG13) (by decide) (by omega) (by omega) (fun G44 eG44 hMG44 => ?_)
                    have hFG44 : Fr nX12_applies jX12_applies G G44 := Fr.setA hFG13 eG44 (by decide)
                    show WP kX12_applies X 180 [some (2, ((1000 : Nat) : Int)), some (0, n), some (0, a), some (0, b), some (0, s), some (0, k13), none] [] G44
                    refine s_iinc dX12_applies_180 (v := k13) rfl (by omega) (by decide) (lv' := [some (2, ((1000 : Nat) : Int)), some (0, n), some (0, a), some (0, b), some (0, s), some (0, k13 + 1), none]) rfl ?_
                    refine s_goto (tgt := 124) dX12_applies_183 (by decide) ?_
                    have hE9p : FE G13 G13 Hs 0 0 := by have z0 := FE.rf (Hs := Hs) iE13.1 iE13.2.2.1; exact z0
                    have hf9p : Fr [] [] G13 G13 := Fr.rf
                    have hE9 : FE G13 G44 Hs 0 0 := by have z0 := FE.rf (Hs := Hs) iE13.1 iE13.2.2.1; have z1 : FE G13 G44 Hs 0 0 := (by first | exact z0.fr (Fr.setA Fr.rf eG44 (by decide) : Fr [a_sValue] [] G13 G44) (by decide) (by decide) (by decide) | exact (z0.fr (Fr.setA Fr.rf eG44 (by decide) : Fr [a_sValue] [] G13 G44) (by decide) (by decide) (by decide)).weak (by omega) (by omega)); exact z1
                    have hf9 := (Fr.setA (Fr.rf) eG44 (by decide) : Fr [a_sValue] [] G13 G44)
                    exact ih13 (k13 + 1) G44 hMG44 hFG44 (⟨(by omega), (by exact iE13.trans hE9 (by omega) (by omega)), (by exact iR13.trans (RowsEq.va eG44 (by omega))), (by exact ⟨(hf9.atF (by decide) (by decide)).trans iN13.1, (hf9.atF (by decide) (by decide)).trans iN13.2⟩), (by intro j j0 j1; rw [hf9.atA (by decide) (by decide)]; exact ((i413 j j0 j1).fx hE9.2.1 iE13.1).mono (fun t z => hE9.2.2.2.1.stN z)), (by intro j j0 j1; rw [hf9.atA (by decide) (by decide)]; exact GT.fx (i113 j j0 j1) hE9.2.1 iE13.1), (by intro j j0 j1; by_cases hj : j = k13; (subst hj; rw [show (10 * 41 + j : Int).toNat = (410 + j).toNat by omega, g_at (g_upd eG44)]; exact GT.none hE9.1 (by omega) (by omega)); (rw [g_ne (g_upd eG44) (by omega)]; exact GT.fx (iV13 j j0 j1) hE9.2.1 iE13.1)), (by intro j j0 j1; rw [g_ne (g_upd eG44) (by omega)]; by_cases hj : j = k13; (subst hj; refine ⟨fun _ => ?_, fun z => by omega⟩; rw [(i513 _ j0 j1).2 (Int.le_refl _)]; have z9 := (iR13.rv ⟨hA.1, by omega⟩ _ j0 j1).1; exact GT.none hE9.1 (by omega) (by omega)); (exact ⟨fun q => (((i513 j j0 j1).1 (by omega)).fx hE9.2.1 iE13.1).mono (fun t z => hE9.2.2.2.1.stN z), fun q => (i513 j j0 j1).2 (by omega)⟩))⟩) (by omega)
                  · -- 139 to 142
                    refine s_aload_n dX12_applies_142 rfl (Int.natCast_nonneg _) ?_
                    refine gf_sValue rfl dX12_applies_143 hMG13 ?_
                    refine s_sipush dX12_applies_146 rfl (by decide) ?_
                    refine s_iload dX12_applies_149 rfl ?_
                    refine s_iadd dX12_applies_151 (by omega) ?_
                    have hrt13 := hRVa k13 (by omega) (by omega)
                    have hre13 := (iR13.rv ⟨hA.1, by omega⟩ k13 (by omega) (by omega)).1
                    have hrt13 := GT.fx (lo := -1) hrt13 iE13.2.1 hFU
                    rw [← hre13] at hrt13
                    have hrl13 := hrt13.1
                    have hru13 := hrt13.2 (by omega)
                    have hrz13 := hru13.1
                    have hpl13 : pcost 1 ((gS G13 a_fSize ((gS G13 a_sValue (10 * a + k13).toNat)).toNat)) ≤ 200 := by rw [pc_n (by omega)]; omega
                    have hpz13 : pcost 1 ((gS G13 a_fSize ((gS G13 a_sValue (10 * a + k13).toNat)).toNat)) = (gS G13 a_fSize ((gS G13 a_sValue (10 * a + k13).toNat)).toNat) := pc_n (by omega)
                    have hfl13 := iE13.2.2.2.2
                    refine s_aload_n dX12_applies_152 rfl (Int.natCast_nonneg _) ?_
                    refine s_iconst dX12_applies_153 (by decide) ?_
                    refine s_aload_n dX12_applies_154 rfl (Int.natCast_nonneg _) ?_
                    refine s_iload_n dX12_applies_155 rfl ?_
                    refine s_iload dX12_applies_156 rfl ?_
                    refine cv_X12_388 rfl gX12_isOf dX12_applies_158 hMG13 (by rw [hcf]; decide) (as := [(0, a), (0, k13)]) rfl (Nat.le_of_ble_eq_true rfl) ⟨a, k13, rfl, hMG13, (by first | assumption | omega), (by first | assumption | omega), ?_⟩
                    show WP kX12_applies X 161 [some (2, ((1000 : Nat) : Int)), some (0, n), some (0, a), some (0, b), some (0, s), some (0, k13), none] [(0, (gS G13 a_sValue (10 * a + k13).toNat)), (0, 1), (2, ((1000 : Nat) : Int)), (0, 400 + k13), (2, ((a_sValue : Nat) : Int))] G13
                    refine cv_X12_378 rfl gX12_puts dX12_applies_161 hMG13 (by rw [hcf]; decide) (as := [(0, 1), (0, (gS G13 a_sValue (10 * a + k13).toNat))]) rfl (Nat.le_of_ble_eq_true rfl) ⟨1, (gS G13 a_sValue (10 * a + k13).toNat), Hs, vv, (stN G vv a), rfl, hMG13, (by exact iE13.1), (by exact iE13.2.2.1), (by exact hvv), (by omega), (by omega), (by omega), (by omega), (by omega), (by intro q; omega), (by intro q; omega), (by exact fun _ => ⟨hru13.2, hSK.may iE13.2.2.2.1 hn hkd ha iN13.1 iN13.2⟩), fun r46 G45 hMG45 hpG45 => ?_⟩
                    obtain ⟨hfG45, hpG45⟩ := hpG45
                    have hFG45 : Fr nX12_applies jX12_applies G G45 := Fr.call hFG13 hfG45 (by decide) (by decide)
                    show WP kX12_applies X 164 [some (2, ((1000 : Nat) : Int)), some (0, n), some (0, a), some (0, b), some (0, s), some (0, k13), none] [(0, r46), (0, 400 + k13), (2, ((a_sValue : Nat) : Int))] G45
                    refine r_iast dX12_applies_164 hMG45 (mg_a_sValue hMG45) (by decide) (by omega) (by omega) (fun G47 eG47 hMG47 => ?_)
                    have hFG47 : Fr nX12_applies jX12_applies G G47 := Fr.setA hFG45 eG47 (by decide)
                    show WP kX12_applies X 165 [some (2, ((1000 : Nat) : Int)), some (0, n), some (0, a), some (0, b), some (0, s), some (0, k13), none] [] G47
                    refine s_goto (tgt := 180) dX12_applies_165 (by decide) ?_
                    refine s_iinc dX12_applies_180 (v := k13) rfl (by omega) (by decide) (lv' := [some (2, ((1000 : Nat) : Int)), some (0, n), some (0, a), some (0, b), some (0, s), some (0, k13 + 1), none]) rfl ?_
                    refine s_goto (tgt := 124) dX12_applies_183 (by decide) ?_
                    have hE9p : FE G13 G45 Hs 200 1 := by have z0 := FE.rf (Hs := Hs) iE13.1 iE13.2.2.1; have z1 : FE G13 G45 Hs 200 1 := (by first | exact z0.trans (FE.puts hpG45 hpl13) (Int.le_refl _) (Int.le_refl _) | exact (z0.trans (FE.puts hpG45 hpl13) (Int.le_refl _) (Int.le_refl _)).weak (by omega) (by omega)); exact z1
                    have hf9p := (Fr.call (Fr.rf) hfG45 (by decide) (by decide) : Fr [a_fKind, a_fA, a_fB, a_fSize, a_fNext, a_fHead, a_fMark, a_thingKind, a_thingA, a_thingB, a_thingC, a_thingNext, a_thingHead, a_stackOf, a_fMemo] [26, 42, 35, 36] G13 G45)
                    have hE9 : FE G13 G47 Hs 200 1 := by have z0 := FE.rf (Hs := Hs) iE13.1 iE13.2.2.1; have z1 : FE G13 G45 Hs 200 1 := (by first | exact z0.trans (FE.puts hpG45 hpl13) (Int.le_refl _) (Int.le_refl _) | exact (z0.trans (FE.puts hpG45 hpl13) (Int.le_refl _) (Int.le_refl _)).weak (by omega) (by omega)); have z2 : FE G13 G47 Hs 200 1 := (by first | exact z1.fr (Fr.setA Fr.rf eG47 (by decide) : Fr [a_sValue] [] G45 G47) (by decide) (by decide) (by decide) | exact (z1.fr (Fr.setA Fr.rf eG47 (by decide) : Fr [a_sValue] [] G45 G47) (by decide) (by decide) (by decide)).weak (by omega) (by omega)); exact z2
                    have hf9 := (Fr.setA (Fr.call (Fr.rf) hfG45 (by decide) (by decide)) eG47 (by decide) : Fr [a_fKind, a_fA, a_fB, a_fSize, a_fNext, a_fHead, a_fMark, a_thingKind, a_thingA, a_thingB, a_thingC, a_thingNext, a_thingHead, a_stackOf, a_fMemo, a_sValue] [26, 42, 35, 36] G13 G47)
                    exact ih13 (k13 + 1) G47 hMG47 hFG47 (⟨(by omega), (by exact iE13.trans hE9 (by omega) (by omega)), (by exact (iR13.trans (RowsEq.agr (hf9p.agr (by decide) (by decide) (by decide)))).trans (RowsEq.va eG47 (by omega))), (by exact ⟨(hf9.atF (by decide) (by decide)).trans iN13.1, (hf9.atF (by decide) (by decide)).trans iN13.2⟩), (by intro j j0 j1; rw [hf9.atA (by decide) (by decide)]; exact ((i413 j j0 j1).fx hE9.2.1 iE13.1).mono (fun t z => hE9.2.2.2.1.stN z)), (by intro j j0 j1; rw [hf9.atA (by decide) (by decide)]; exact GT.fx (i113 j j0 j1) hE9.2.1 iE13.1), (by intro j j0 j1; rw [g_ne (g_upd eG47) (by omega), hf9p.atA (by decide) (by decide)]; exact GT.fx (iV13 j j0 j1) hE9.2.1 iE13.1), (by intro j j0 j1; by_cases hj : j = k13; (subst hj; rw [g_at (g_upd eG47)]; exact ⟨fun _ => GT.mono (GT.fx (G := G45) (P := stN G45 vv n) (lo := -1) ⟨by have z9 := hpG45.2.2.2.2.1; omega, fun _ => ⟨by have z9 := hpG45.2.2.2.2.2.2.2.2.2.2 (fun q => by omega); omega, (hpG45.2.2.2.2.2.2.2.2.1 rfl).mono (fun t ⟨s, hs, hk⟩ => by rw [iN13.1, iN13.2] at hk; exact hSK.st (iE13.2.2.2.1.trans hE9p.2.2.2.1) hkd ha hs hk)⟩⟩  (FX.agf (Fr.setA (Fr.rf) eG47 (by decide) : Fr [a_sValue] [] G45 G47) (by decide) (by decide) (by decide)) hE9p.1) (fun t z => (TX.agr ((Fr.setA (Fr.rf) eG47 (by decide) : Fr [a_sValue] [] G45 G47).agr (by decide) (by decide) (by decide))).stN z), fun z => by omega⟩); (rw [g_ne (g_upd eG47) (by omega), hf9p.atA (by decide) (by decide)]; exact ⟨fun q => (((i513 j j0 j1).1 (by omega)).fx hE9.2.1 iE13.1).mono (fun t z => hE9.2.2.2.1.stN z), fun q => (i513 j j0 j1).2 (by omega)⟩))⟩) (by omega)
            exact L13 _ 0 G11 hMG11 hFG11 (⟨(by omega), (by exact iE11.weak (by omega) (by omega)), (by exact iR11), (by exact iN11), (by exact fun j j0 j1 => i411 j j0 (by omega)), (by exact i111), (by exact iV11), (by exact fun j j0 j1 => ⟨fun z => by omega, fun _ => i4011 j j0 j1⟩)⟩) (Nat.lt_succ_self _)
          · -- 69 to 72
            refine s_aload_n dX12_applies_72 rfl (Int.natCast_nonneg _) ?_
            refine gf_sType rfl dX12_applies_73 hMG11 ?_
            refine s_sipush dX12_applies_76 rfl (by decide) ?_
            refine s_iload dX12_applies_79 rfl ?_
            refine s_iadd dX12_applies_81 (by omega) ?_
            refine s_aload_n dX12_applies_82 rfl (Int.natCast_nonneg _) ?_
            refine s_iload_n dX12_applies_83 rfl ?_
            refine s_iload dX12_applies_84 rfl ?_
            refine cv_X12_413 rfl gX12_isType_ dX12_applies_86 hMG11 (by rw [hcf]; decide) (as := [(0, a), (0, k11)]) rfl (Nat.le_of_ble_eq_true rfl) ⟨a, k11, rfl, hMG11, (by first | assumption | omega), (by first | assumption | omega), ?_⟩
            show WP kX12_applies X 89 [some (2, ((1000 : Nat) : Int)), some (0, n), some (0, a), some (0, b), some (0, s), some (0, k11), none] [(0, (gS G11 a_sType (6 * a + k11).toNat)), (0, 240 + k11), (2, ((a_sType : Nat) : Int))] G11
            refine s_if_lt (tgt := 107) dX12_applies_89 (by decide) (fun c48 => ?_) (fun c48 => ?_)
            · -- 89 to 107
              refine s_aload_n dX12_applies_107 rfl (Int.natCast_nonneg _) ?_
              refine s_iload_n dX12_applies_108 rfl ?_
              refine s_iload dX12_applies_109 rfl ?_
              refine cv_X12_413 rfl gX12_isType_ dX12_applies_111 hMG11 (by rw [hcf]; decide) (as := [(0, a), (0, k11)]) rfl (Nat.le_of_ble_eq_true rfl) ⟨a, k11, rfl, hMG11, (by first | assumption | omega), (by first | assumption | omega), ?_⟩
              show WP kX12_applies X 114 [some (2, ((1000 : Nat) : Int)), some (0, n), some (0, a), some (0, b), some (0, s), some (0, k11), none] [(0, (gS G11 a_sType (6 * a + k11).toNat)), (0, 240 + k11), (2, ((a_sType : Nat) : Int))] G11
              refine r_iast dX12_applies_114 hMG11 (mg_a_sType hMG11) (by decide) (by omega) (by omega) (fun G49 eG49 hMG49 => ?_)
              have hFG49 : Fr nX12_applies jX12_applies G G49 := Fr.setA hFG11 eG49 (by decide)
              show WP kX12_applies X 115 [some (2, ((1000 : Nat) : Int)), some (0, n), some (0, a), some (0, b), some (0, s), some (0, k11), none] [] G49
              refine s_iinc dX12_applies_115 (v := k11) rfl (by omega) (by decide) (lv' := [some (2, ((1000 : Nat) : Int)), some (0, n), some (0, a), some (0, b), some (0, s), some (0, k11 + 1), none]) rfl ?_
              refine s_goto (tgt := 65) dX12_applies_118 (by decide) ?_
              have hE9p : FE G11 G11 Hs 0 0 := by have z0 := FE.rf (Hs := Hs) iE11.1 iE11.2.2.1; exact z0
              have hf9p : Fr [] [] G11 G11 := Fr.rf
              have hE9 : FE G11 G49 Hs 0 0 := by have z0 := FE.rf (Hs := Hs) iE11.1 iE11.2.2.1; have z1 : FE G11 G49 Hs 0 0 := (by first | exact z0.fr (Fr.setA Fr.rf eG49 (by decide) : Fr [a_sType] [] G11 G49) (by decide) (by decide) (by decide) | exact (z0.fr (Fr.setA Fr.rf eG49 (by decide) : Fr [a_sType] [] G11 G49) (by decide) (by decide) (by decide)).weak (by omega) (by omega)); exact z1
              have hf9 := (Fr.setA (Fr.rf) eG49 (by decide) : Fr [a_sType] [] G11 G49)
              exact ih11 (k11 + 1) G49 hMG49 hFG49 (⟨(by omega), (by exact iE11.trans hE9 (by omega) (by omega)), (by exact iR11.trans (RowsEq.ty eG49 (by omega))), (by exact ⟨(hf9.atF (by decide) (by decide)).trans iN11.1, (hf9.atF (by decide) (by decide)).trans iN11.2⟩), (by intro j j0 j1; by_cases hj : j = k11; (subst hj; rw [g_at (g_upd eG49)]; have z9 := GT.fx (hRTa j j0 (by omega)) iE11.2.1 hFU; rw [← iR11.rt ⟨hA.1, by omega⟩ j j0 (by omega)] at z9; exact GT.none hE9.1 z9.1.1 (by omega)); (rw [g_ne (g_upd eG49) (by omega), hf9p.atA (by decide) (by decide)]; exact ((i411 j j0 (by omega)).fx hE9.2.1 iE11.1).mono (fun t z => hE9.2.2.2.1.stN z))), (by intro j j0 j1; rw [g_ne (g_upd eG49) (by omega)]; exact GT.fx (i111 j j0 j1) hE9.2.1 iE11.1), (by intro j j0 j1; rw [hf9.atA (by decide) (by decide)]; exact GT.fx (iV11 j j0 j1) hE9.2.1 iE11.1), (by intro j j0 j1; rw [hf9.atA (by decide) (by decide)]; exact i4011 j j0 j1)⟩) (by omega)
            · -- 89 to 92
              have hrt11 := hRTa k11 (by omega) (by omega)
              have hre11 := iR11.rt ⟨hA.1, by omega⟩ k11 (by omega) (by omega)
              have hrt11 := GT.fx hrt11 iE11.2.1 hFU
              rw [← hre11] at hrt11
              have hru11 := hrt11.2 (by omega)
              have hrl11 := hrt11.1
              have hrz11 := hru11.1
              have hpl11 : pcost 1 ((gS G11 a_fSize ((gS G11 a_sType (6 * a + k11).toNat)).toNat)) ≤ 200 := by rw [pc_n (by omega)]; omega
              have hpz11 : pcost 1 ((gS G11 a_fSize ((gS G11 a_sType (6 * a + k11).toNat)).toNat)) = (gS G11 a_fSize ((gS G11 a_sType (6 * a + k11).toNat)).toNat) := pc_n (by omega)
              have hfl11 := iE11.2.2.2.2
              refine s_aload_n dX12_applies_92 rfl (Int.natCast_nonneg _) ?_
              refine s_iconst dX12_applies_93 (by decide) ?_
              refine s_aload_n dX12_applies_94 rfl (Int.natCast_nonneg _) ?_
              refine s_iload_n dX12_applies_95 rfl ?_
              refine s_iload dX12_applies_96 rfl ?_
              refine cv_X12_413 rfl gX12_isType_ dX12_applies_98 hMG11 (by rw [hcf]; decide) (as := [(0, a), (0, k11)]) rfl (Nat.le_of_ble_eq_true rfl) ⟨a, k11, rfl, hMG11, (by first | assumption | omega), (by first | assumption | omega), ?_⟩
              show WP kX12_applies X 101 [some (2, ((1000 : Nat) : Int)), some (0, n), some (0, a), some (0, b), some (0, s), some (0, k11), none] [(0, (gS G11 a_sType (6 * a + k11).toNat)), (0, 1), (2, ((1000 : Nat) : Int)), (0, 240 + k11), (2, ((a_sType : Nat) : Int))] G11
              refine cv_X12_378 rfl gX12_puts dX12_applies_101 hMG11 (by rw [hcf]; decide) (as := [(0, 1), (0, (gS G11 a_sType (6 * a + k11).toNat))]) rfl (Nat.le_of_ble_eq_true rfl) ⟨1, (gS G11 a_sType (6 * a + k11).toNat), Hs, vv, (stN G vv a), rfl, hMG11, (by exact iE11.1), (by exact iE11.2.2.1), (by exact hvv), (by omega), (by omega), (by omega), (by omega), (by omega), (by intro q; omega), (by intro q; omega), (by exact fun _ => ⟨hru11.2, hSK.may iE11.2.2.2.1 hn hkd ha iN11.1 iN11.2⟩), fun r51 G50 hMG50 hpG50 => ?_⟩
              obtain ⟨hfG50, hpG50⟩ := hpG50
              have hFG50 : Fr nX12_applies jX12_applies G G50 := Fr.call hFG11 hfG50 (by decide) (by decide)
              show WP kX12_applies X 104 [some (2, ((1000 : Nat) : Int)), some (0, n), some (0, a), some (0, b), some (0, s), some (0, k11), none] [(0, r51), (0, 240 + k11), (2, ((a_sType : Nat) : Int))] G50
              refine s_goto (tgt := 114) dX12_applies_104 (by decide) ?_
              refine r_iast dX12_applies_114 hMG50 (mg_a_sType hMG50) (by decide) (by omega) (by omega) (fun G52 eG52 hMG52 => ?_)
              have hFG52 : Fr nX12_applies jX12_applies G G52 := Fr.setA hFG50 eG52 (by decide)
              show WP kX12_applies X 115 [some (2, ((1000 : Nat) : Int)), some (0, n), some (0, a), some (0, b), some (0, s), some (0, k11), none] [] G52
              refine s_iinc dX12_applies_115 (v := k11) rfl (by omega) (by decide) (lv' := [some (2, ((1000 : Nat) : Int)), some (0, n), some (0, a), some (0, b), some (0, s), some (0, k11 + 1), none]) rfl ?_
              refine s_goto (tgt := 65) dX12_applies_118 (by decide) ?_
              have hE9p : FE G11 G50 Hs 200 1 := by have z0 := FE.rf (Hs := Hs) iE11.1 iE11.2.2.1; have z1 : FE G11 G50 Hs 200 1 := (by first | exact z0.trans (FE.puts hpG50 hpl11) (Int.le_refl _) (Int.le_refl _) | exact (z0.trans (FE.puts hpG50 hpl11) (Int.le_refl _) (Int.le_refl _)).weak (by omega) (by omega)); exact z1
              have hf9p := (Fr.call (Fr.rf) hfG50 (by decide) (by decide) : Fr [a_fKind, a_fA, a_fB, a_fSize, a_fNext, a_fHead, a_fMark, a_thingKind, a_thingA, a_thingB, a_thingC, a_thingNext, a_thingHead, a_stackOf, a_fMemo] [26, 42, 35, 36] G11 G50)
              have hE9 : FE G11 G52 Hs 200 1 := by have z0 := FE.rf (Hs := Hs) iE11.1 iE11.2.2.1; have z1 : FE G11 G50 Hs 200 1 := (by first | exact z0.trans (FE.puts hpG50 hpl11) (Int.le_refl _) (Int.le_refl _) | exact (z0.trans (FE.puts hpG50 hpl11) (Int.le_refl _) (Int.le_refl _)).weak (by omega) (by omega)); have z2 : FE G11 G52 Hs 200 1 := (by first | exact z1.fr (Fr.setA Fr.rf eG52 (by decide) : Fr [a_sType] [] G50 G52) (by decide) (by decide) (by decide) | exact (z1.fr (Fr.setA Fr.rf eG52 (by decide) : Fr [a_sType] [] G50 G52) (by decide) (by decide) (by decide)).weak (by omega) (by omega)); exact z2
              have hf9 := (Fr.setA (Fr.call (Fr.rf) hfG50 (by decide) (by decide)) eG52 (by decide) : Fr [a_fKind, a_fA, a_fB, a_fSize, a_fNext, a_fHead, a_fMark, a_thingKind, a_thingA, a_thingB, a_thingC, a_thingNext, a_thingHead, a_stackOf, a_fMemo, a_sType] [26, 42, 35, 36] G11 G52)
              exact ih11 (k11 + 1) G52 hMG52 hFG52 (⟨(by omega), (by exact iE11.trans hE9 (by omega) (by omega)), (by exact (iR11.trans (RowsEq.agr (hf9p.agr (by decide) (by decide) (by decide)))).trans (RowsEq.ty eG52 (by omega))), (by exact ⟨(hf9.atF (by decide) (by decide)).trans iN11.1, (hf9.atF (by decide) (by decide)).trans iN11.2⟩), (by intro j j0 j1; by_cases hj : j = k11; (subst hj; rw [g_at (g_upd eG52)]; exact GT.mono (GT.fx (G := G50) (P := stN G50 vv n) (lo := -2) ⟨by have z9 := hpG50.2.2.2.2.1; omega, fun _ => ⟨by have z9 := hpG50.2.2.2.2.2.2.2.2.2.2 (fun q => by omega); omega, (hpG50.2.2.2.2.2.2.2.2.1 rfl).mono (fun t ⟨s, hs, hk⟩ => by rw [iN11.1, iN11.2] at hk; exact hSK.st (iE11.2.2.2.1.trans hE9p.2.2.2.1) hkd ha hs hk)⟩⟩  (FX.agf (Fr.setA (Fr.rf) eG52 (by decide) : Fr [a_sType] [] G50 G52) (by decide) (by decide) (by decide)) hE9p.1) (fun t z => (TX.agr ((Fr.setA (Fr.rf) eG52 (by decide) : Fr [a_sType] [] G50 G52).agr (by decide) (by decide) (by decide))).stN z)); (rw [g_ne (g_upd eG52) (by omega), hf9p.atA (by decide) (by decide)]; exact ((i411 j j0 (by omega)).fx hE9.2.1 iE11.1).mono (fun t z => hE9.2.2.2.1.stN z))), (by intro j j0 j1; rw [g_ne (g_upd eG52) (by omega), hf9p.atA (by decide) (by decide)]; exact GT.fx (i111 j j0 j1) hE9.2.1 iE11.1), (by intro j j0 j1; rw [hf9.atA (by decide) (by decide)]; exact GT.fx (iV11 j j0 j1) hE9.2.1 iE11.1), (by intro j j0 j1; rw [hf9.atA (by decide) (by decide)]; exact i4011 j j0 j1)⟩) (by omega)
      exact L11 _ 0 G9 hMG9 hFG9 (⟨(by omega), (by exact hEc.weak (by omega) (by omega)), (by exact hrc), (by exact ⟨hkc1, hkc2⟩), (by intro j j0 j1; omega), (by exact h41), (by exact h41v), (by exact h40)⟩) (Nat.lt_succ_self _)
    refine s_if_eq (tgt := 34) dX12_applies_27 (by decide) (fun c53 => ?_) (fun c53 => ?_)
    · -- 27 to 34
      refine s_aload_n dX12_applies_34 rfl (Int.natCast_nonneg _) ?_
      refine gf_ident rfl dX12_applies_35 hMG3 ?_
      refine s_aload_n dX12_applies_38 rfl (Int.natCast_nonneg _) ?_
      refine gf_nSecond rfl dX12_applies_39 hMG3 ?_
      refine s_iload_n dX12_applies_42 rfl ?_
      refine s_iald dX12_applies_43 (mg_a_nSecond hMG3) (by omega) (by omega) (gsnE eG3 (by decide)) ?_
      refine s_iald dX12_applies_44 (mg_a_ident hMG3) (by omega) (by omega) (gsnE eG3 (by decide)) ?_
      exact J5 _ (Or.inl ⟨c53, rfl⟩)
    · -- 27 to 30
      refine s_iload_n dX12_applies_30 rfl ?_
      refine s_goto (tgt := 45) dX12_applies_31 (by decide) ?_
      exact J5 n (Or.inr (⟨c53, rfl⟩))
  refine s_if_eq (tgt := 15) dX12_applies_7 (by decide) (fun c54 => ?_) (fun c54 => ?_)
  · -- 7 to 15
    refine s_bipush dX12_applies_15 rfl (by decide) ?_
    exact J2 13 (Or.inl ⟨c54, rfl⟩)
  · -- 7 to 10
    refine s_bipush dX12_applies_10 rfl (by decide) ?_
    refine s_goto (tgt := 17) dX12_applies_12 (by decide) ?_
    exact J2 12 (Or.inr (⟨c54, rfl⟩))
