abbrev nX12_seals : List Nat := [a_solved, a_by, a_fKind, a_fA, a_fB, a_fSize, a_fNext, a_fHead, a_fMark, a_thingKind, a_thingA, a_thingB, a_thingC, a_thingNext, a_thingHead, a_stackOf, a_fMemo, a_sType, a_sValue, a_sFlags, a_sNumber]
abbrev jX12_seals : List Nat := [26, 42, 35, 36]
def TX12_seals : TR := fun as G Qr => ∃ (n a b s : Int) (Hs : List (Int → Int)) (vv : Int → Int), as = [(2, ((1000 : Nat) : Int)), (0, n), (0, a), (0, b), (0, s)] ∧ MG G ∧ (FU G) ∧ (TH G Hs) ∧ (vv ∈ Hs) ∧ (0 ≤ n ∧ n < (gS G 1000 18)) ∧ (s = n) ∧ ((gS G a_nKind (n).toNat) = 2) ∧ (a = (gS G a_nFirst (n).toNat)) ∧ (b = (gS G a_nSecond (n).toNat)) ∧ (0 ≤ a ∧ a < n ∧ 0 ≤ b ∧ b < n ∧ n < 40) ∧ (idN G vv a ((gS G a_ident (a).toNat)) ∧ idN G vv b ((gS G a_ident (b).toNat))) ∧ (RT G (fun _ => True) a) ∧ (RT G (stN G vv b) b) ∧ (RV G (stN G vv b) b) ∧ (RT G NF s) ∧ (RV G NF s) ∧ (∀ j : Int, 0 ≤ j → j < 10 → (gS G a_sValue (10 * s + j).toNat) = -1) ∧ ((gS G 1000 26) + 3174 < 150000) ∧ ((gS G 1000 35) ≤ 1900000000) ∧ ∀ (r : Int) (G' : LG), MG G' → (Fr nX12_seals jX12_seals G G' ∧ (FE G G' Hs 3174 32 ∧ SlotFr s G G' ∧ RT G' (stN G' vv n) s ∧ RV G' (stN G' vv n) s ∧ (r = 0 → ∀ j : Int, 0 ≤ j → j < 10 → ¬ (gS G' a_sValue (10 * s + j).toNat) = -1 → ¬ (gS G a_sValue (10 * a + j).toNat) = -1 ∧ ¬ (gS G a_sValue (10 * b + j).toNat) = -1))) → Qr (.inl (some (0, r))) G'
set_option maxHeartbeats 4000000 in
set_option maxRecDepth 100000 in
theorem gX12_seals : Good kX12_seals yX12_seals 5 TX12_seals := by
  refine good_of (by decide) rfl rfl (fun as G Qr h => ?_) (fun X as G Qr hcf hR hT oa => ?_)
  · obtain ⟨n, a, b, s, Hs, vv, rfl, -⟩ := h; exact Nat.le_of_ble_eq_true rfl
  obtain ⟨n, a, b, s, Hs, vv, rfl, hM, hFU, hTH, hvv, hn, hsn, hkd, ha, hb, hA, hid, hRTa, hRTb, hRVb, hRTs, hRVs, hcl, hc, hm, hQ⟩ := hT
  show WP kX12_seals X 0 [some (2, ((1000 : Nat) : Int)), some (0, n), some (0, a), some (0, b), some (0, s), none, none, none] [] G
  have hr_n : inR n := okv_R (oa _ (by simp))
  have hr_a : inR a := okv_R (oa _ (by simp))
  have hr_b : inR b := okv_R (oa _ (by simp))
  have hr_s : inR s := okv_R (oa _ (by simp))
  have hFE0 := FE.rf hFU hTH
  have hff0 := hFU.f
  have hmk0 := hFU.2.1
  have hs0 : 0 ≤ s ∧ s < 43 := by omega
  have hbs : ¬ b = s := by omega
  refine s_iconst dX12_seals_0 (by decide) ?_
  refine s_istore dX12_seals_1 (by decide) (lv' := [some (2, ((1000 : Nat) : Int)), some (0, n), some (0, a), some (0, b), some (0, s), some (0, 0), none, none]) rfl ?_
  refine s_iconst dX12_seals_3 (by decide) ?_
  refine s_istore dX12_seals_4 (by decide) (lv' := [some (2, ((1000 : Nat) : Int)), some (0, n), some (0, a), some (0, b), some (0, s), some (0, 0), some (0, 0), none]) rfl ?_
  have L1 : ∀ (n1 : Nat) (m1 : Int) (k1 : Int) (G1 : LG), MG G1 → Fr nX12_seals jX12_seals G G1 → ((0 ≤ k1 ∧ k1 ≤ 6) ∧ (∀ j : Int, 0 ≤ j → j < 32 → (bitI m1 j ↔ j < k1 ∧ gvn G a b j)) ∧ (∀ j : Int, 0 ≤ j → j < k1 → (gS G1 a_solved (j).toNat) = @ite _ (gvn G a b j) (Classical.propDecidable _) ((gS G a_sType (6 * a + j).toNat)) (-1)) ∧ (Fr [a_solved] [] G G1)) → (6 - k1).toNat < n1 → WP kX12_seals X 6 [some (2, ((1000 : Nat) : Int)), some (0, n), some (0, a), some (0, b), some (0, s), some (0, m1), some (0, k1), none] [] G1 := by
    intro n1
    induction n1 with
    | zero => intro m1 k1 G1 hMG1 hFG1 hi1 hm1; exact absurd hm1 (Nat.not_lt_zero _)
    | succ n1 ih1 =>
      intro m1 k1 G1 hMG1 hFG1 hi1 hm1
      have hj1 := hi1
      obtain ⟨ik1, ia1, iz1, ir1⟩ := hi1
      have hsa1 : (gS G1 a_sType (6 * a + k1).toNat) = (gS G a_sType (6 * a + k1).toNat) := ir1.atA (by decide) (by decide)
      have hsb1 : (gS G1 a_sType (6 * b + k1).toNat) = (gS G a_sType (6 * b + k1).toNat) := ir1.atA (by decide) (by decide)
      refine s_iload dX12_seals_6 rfl ?_
      refine s_bipush dX12_seals_8 rfl (by decide) ?_
      refine s_icmp_ge (tgt := 88) dX12_seals_10 (by decide) (fun c2 => ?_) (fun c2 => ?_)
      · -- 10 to 88
        have hfa := ir1
        have hEa : FE G G1 Hs 0 0 := hFE0.fr hfa (by decide) (by decide) (by decide)
        have hgv : ∀ q : Int, 0 ≤ q → q < 32 → (bitI m1 q ↔ q < 6 ∧ gvn G a b q) := fun q q0 q1 => by have z9 := ia1 q q0 q1; rw [show k1 = 6 by omega] at z9; exact z9
        refine s_aload_n dX12_seals_88 rfl (Int.natCast_nonneg _) ?_
        refine s_iload dX12_seals_89 rfl ?_
        refine cv_X12_374 rfl gX12_setsBy dX12_seals_91 hMG1 (by rw [hcf]; decide) (as := [(0, m1)]) rfl (Nat.le_of_ble_eq_true rfl) ⟨m1, rfl, hMG1, fun G3 hMG3 hpG3 => ?_⟩
        obtain ⟨hfG3, hpG3⟩ := hpG3
        have hFG3 : Fr nX12_seals jX12_seals G G3 := Fr.call hFG1 hfG3 (by decide) (by decide)
        show WP kX12_seals X 94 [some (2, ((1000 : Nat) : Int)), some (0, n), some (0, a), some (0, b), some (0, s), some (0, m1), some (0, k1), none] [] G3
        have hfb := (Fr.call (Fr.rf) hfG3 (by decide) (by decide) : Fr [a_by] [] G1 G3)
        have hEb : FE G G3 Hs 0 0 := hEa.fr hfb (by decide) (by decide) (by decide)
        have hfab := Fr.call (ns := nSe) (js := jSe) (Fr.call Fr.rf hfa (by decide) (by decide)) hfb (by decide) (by decide)
        have hBb : BY G3 (fun _ => True) := fun q q0 q1 => by by_cases qb : bitI m1 q; (rw [(hpG3 q q0 q1).1 qb, iz1 q q0 (by omega)]; have z9 := (hRTa q q0 q1); have z8 := hEb.2.1.1; have z7 := ((hgv q q0 (by omega)).mp qb).2; rw [if_pos z7]; exact ⟨by have := z7.2; omega, fun _ => (z9.2 z7.2).2.fx hEb.2.1 hFU z7.2 z9.1.2⟩); (rw [(hpG3 q q0 q1).2 qb]; have z9 := hEb.1.f; exact ⟨by omega, fun z => by omega⟩)
        refine s_iconst dX12_seals_94 (by decide) ?_
        refine s_istore dX12_seals_95 (by decide) (lv' := [some (2, ((1000 : Nat) : Int)), some (0, n), some (0, a), some (0, b), some (0, s), some (0, m1), some (0, 0), none]) rfl ?_
        have L5 : ∀ (n5 : Nat) (k5 : Int) (G5 : LG), MG G5 → Fr nX12_seals jX12_seals G G5 → ((0 ≤ k5 ∧ k5 ≤ 6) ∧ (FE G G5 Hs (99 * k5) k5) ∧ (BY G5 (fun _ => True)) ∧ (Fr nSe jSe G G5)) → (6 - k5).toNat < n5 → WP kX12_seals X 97 [some (2, ((1000 : Nat) : Int)), some (0, n), some (0, a), some (0, b), some (0, s), some (0, m1), some (0, k5), none] [] G5 := by
          intro n5
          induction n5 with
          | zero => intro k5 G5 hMG5 hFG5 hi5 hm5; exact absurd hm5 (Nat.not_lt_zero _)
          | succ n5 ih5 =>
            intro k5 G5 hMG5 hFG5 hi5 hm5
            have hj5 := hi5
            obtain ⟨ik5, iE5, iB5, ir5⟩ := hi5
            have hsl5 : SlotFr s G G5 := SlotFr.agr (ir5.agr (by decide) (by decide) (by decide))
            have hRb5 : RT G5 (stN G vv b) b := hRTb.fx iE5.2.1 hFU (fun j j0 j1 => ir5.atA (by decide) (by decide))
            have hff5 := iE5.1.f
            have hfm5 := iE5.2.2.2.2
            refine s_iload dX12_seals_97 rfl ?_
            refine s_bipush dX12_seals_99 rfl (by decide) ?_
            refine s_icmp_ge (tgt := 204) dX12_seals_101 (by decide) (fun c6 => ?_) (fun c6 => ?_)
            · -- 101 to 204
              refine s_iconst dX12_seals_204 (by decide) ?_
              refine s_istore dX12_seals_205 (by decide) (lv' := [some (2, ((1000 : Nat) : Int)), some (0, n), some (0, a), some (0, b), some (0, s), some (0, m1), some (0, 0), none]) rfl ?_
              have L7 : ∀ (n7 : Nat) (k7 : Int) (G7 : LG), MG G7 → Fr nX12_seals jX12_seals G G7 → ((0 ≤ k7 ∧ k7 ≤ 10) ∧ (FE G G7 Hs (594 + 99 * k7) (6 + k7)) ∧ (BY G7 (fun _ => True)) ∧ (Fr nSe jSe G G7) ∧ (∀ j : Int, 0 ≤ j → j < k7 → ¬ (gS G a_sValue (10 * b + j).toNat) = -1 → ¬ (gS G a_sValue (10 * a + j).toNat) = -1)) → (10 - k7).toNat < n7 → WP kX12_seals X 207 [some (2, ((1000 : Nat) : Int)), some (0, n), some (0, a), some (0, b), some (0, s), some (0, m1), some (0, k7), none] [] G7 := by
                intro n7
                induction n7 with
                | zero => intro k7 G7 hMG7 hFG7 hi7 hm7; exact absurd hm7 (Nat.not_lt_zero _)
                | succ n7 ih7 =>
                  intro k7 G7 hMG7 hFG7 hi7 hm7
                  have hj7 := hi7
                  obtain ⟨ik7, iE7, iB7, ir7, iD7⟩ := hi7
                  have hff7 := iE7.1.f
                  have hfm7 := iE7.2.2.2.2
                  refine s_iload dX12_seals_207 rfl ?_
                  refine s_bipush dX12_seals_209 rfl (by decide) ?_
                  refine s_icmp_ge (tgt := 249) dX12_seals_211 (by decide) (fun c8 => ?_) (fun c8 => ?_)
                  · -- 211 to 249
                    refine s_iconst dX12_seals_249 (by decide) ?_
                    refine s_istore dX12_seals_250 (by decide) (lv' := [some (2, ((1000 : Nat) : Int)), some (0, n), some (0, a), some (0, b), some (0, s), some (0, m1), some (0, 0), none]) rfl ?_
                    have L9 : ∀ (n9 : Nat) (k9 : Int) (G9 : LG), MG G9 → Fr nX12_seals jX12_seals G G9 → ((0 ≤ k9 ∧ k9 ≤ 6) ∧ (FE G G9 Hs (1584 + k9) 16) ∧ (Fr nSe jSe G G9) ∧ (SG G9 vv n m1 k9)) → (6 - k9).toNat < n9 → WP kX12_seals X 252 [some (2, ((1000 : Nat) : Int)), some (0, n), some (0, a), some (0, b), some (0, s), some (0, m1), some (0, k9), none] [] G9 := by
                      intro n9
                      induction n9 with
                      | zero => intro k9 G9 hMG9 hFG9 hi9 hm9; exact absurd hm9 (Nat.not_lt_zero _)
                      | succ n9 ih9 =>
                        intro k9 G9 hMG9 hFG9 hi9 hm9
                        have hj9 := hi9
                        obtain ⟨ik9, iE9, ir9, iS9⟩ := hi9
                        have hff9 := iE9.1.f
                        have hfm9 := iE9.2.2.2.2
                        refine s_iload dX12_seals_252 rfl ?_
                        refine s_bipush dX12_seals_254 rfl (by decide) ?_
                        refine s_icmp_ge (tgt := 343) dX12_seals_256 (by decide) (fun c10 => ?_) (fun c10 => ?_)
                        · -- 256 to 343
                          have hEq := iE9
                          have hrq := ir9
                          have hXq := iE9.2.2.2.1
                          have hSq : SG G9 vv n m1 6 := by have z9 := iS9; rw [show k9 = 6 by omega] at z9; exact z9
                          have hkq : (gS G9 a_nKind (n).toNat) = 2 := by rw [hXq.nd (n := a_nKind) (by decide)]; exact hkd
                          have hsq : (gS G9 a_nSecond (n).toNat) = b := by rw [hXq.nd (n := a_nSecond) (by decide)]; exact hb.symm
                          have hPb : ∀ t, stN G vv b t → stN G9 vv n t := fun t z => stN.s2 hkq (by rw [hsq]; exact hXq.stN z)
                          have hbD := iD7
                          have hbk : k7 = 10 := by omega
                          refine s_aload_n dX12_seals_343 rfl (Int.natCast_nonneg _) ?_
                          refine s_iload dX12_seals_344 rfl ?_
                          refine cv_X12_374 rfl gX12_setsBy dX12_seals_346 hMG9 (by rw [hcf]; decide) (as := [(0, m1)]) rfl (Nat.le_of_ble_eq_true rfl) ⟨m1, rfl, hMG9, fun G11 hMG11 hpG11 => ?_⟩
                          obtain ⟨hfG11, hpG11⟩ := hpG11
                          have hFG11 : Fr nX12_seals jX12_seals G G11 := Fr.call hFG9 hfG11 (by decide) (by decide)
                          show WP kX12_seals X 349 [some (2, ((1000 : Nat) : Int)), some (0, n), some (0, a), some (0, b), some (0, s), some (0, m1), some (0, k9), none] [] G11
                          obtain ⟨hSO, hBY, hBZ⟩ := hSq.out hEq.1 hfG11 hpG11
                          have hE6 : FE G9 G11 Hs 0 0 := by have z0 := FE.rf (Hs := Hs) hEq.1 hEq.2.2.1; have z1 : FE G9 G11 Hs 0 0 := (by first | exact z0.fr hfG11 (by decide) (by decide) (by decide) | exact (z0.fr hfG11 (by decide) (by decide) (by decide)).weak (by omega) (by omega)); exact z1
                          have hf6 := (Fr.call (Fr.rf) hfG11 (by decide) (by decide) : Fr [a_by] [] G9 G11)
                          have hE6g : FE G G11 Hs 1590 16 := hEq.trans hE6 (by omega) (by omega)
                          have hr6 := Fr.call hrq hf6 (by decide) (by decide)
                          have hRT6 : RT G11 (stN G9 vv n) s := (hRTs.fx hE6g.2.1 hFU (fun j _ _ => hr6.atA (by decide) (by decide))).mono (fun _ z => z.elim)
                          have hRV6 : RV G11 (stN G9 vv n) s := (hRVs.fx hE6g.2.1 hFU (fun j _ _ => hr6.atA (by decide) (by decide))).mono (fun _ z => z.elim)
                          refine s_iconst dX12_seals_349 (by decide) ?_
                          refine s_istore dX12_seals_350 (by decide) (lv' := [some (2, ((1000 : Nat) : Int)), some (0, n), some (0, a), some (0, b), some (0, s), some (0, m1), some (0, 0), none]) rfl ?_
                          have L13 : ∀ (n13 : Nat) (k13 : Int) (G13 : LG), MG G13 → Fr nX12_seals jX12_seals G G13 → ((0 ≤ k13 ∧ k13 ≤ 6) ∧ (FE G G13 Hs (1590 + 99 * k13) (16 + k13)) ∧ (TX G9 G13) ∧ (BY G13 (stN G9 vv n)) ∧ (BZ G13) ∧ (SO G13 (stN G9 vv n) m1) ∧ (RT G13 (stN G9 vv n) s) ∧ (SlotFr s G G13) ∧ (Fr nSt jSe G G13)) → (6 - k13).toNat < n13 → WP kX12_seals X 352 [some (2, ((1000 : Nat) : Int)), some (0, n), some (0, a), some (0, b), some (0, s), some (0, m1), some (0, k13), none] [] G13 := by
                            intro n13
                            induction n13 with
                            | zero => intro k13 G13 hMG13 hFG13 hi13 hm13; exact absurd hm13 (Nat.not_lt_zero _)
                            | succ n13 ih13 =>
                              intro k13 G13 hMG13 hFG13 hi13 hm13
                              have hj13 := hi13
                              obtain ⟨ik13, iE13, iX13, iB13, iZ13, iO13, iT13, is13, ir13⟩ := hi13
                              have hff13 := iE13.1.f
                              have hfm13 := iE13.2.2.2.2
                              have hRb13 : RT G13 (stN G vv b) b := hRTb.fx iE13.2.1 hFU (fun j j0 j1 => is13.rt hA.2.2.1 hbs j j0 j1)
                              refine s_iload dX12_seals_352 rfl ?_
                              refine s_bipush dX12_seals_354 rfl (by decide) ?_
                              refine s_icmp_ge (tgt := 424) dX12_seals_356 (by decide) (fun c14 => ?_) (fun c14 => ?_)
                              · -- 356 to 424
                                have hr5 := ir13
                                have hRV6x : RV G13 (stN G9 vv n) s := (hRVs.fx iE13.2.1 hFU (fun j _ _ => ir13.atA (by decide) (by decide))).mono (fun _ z => z.elim)
                                refine s_iconst dX12_seals_424 (by decide) ?_
                                refine s_istore dX12_seals_425 (by decide) (lv' := [some (2, ((1000 : Nat) : Int)), some (0, n), some (0, a), some (0, b), some (0, s), some (0, m1), some (0, 0), none]) rfl ?_
                                have L15 : ∀ (n15 : Nat) (k15 : Int) (G15 : LG), MG G15 → Fr nX12_seals jX12_seals G G15 → ((0 ≤ k15 ∧ k15 ≤ 10) ∧ (FE G G15 Hs (2184 + 99 * k15) (22 + k15)) ∧ (TX G9 G15) ∧ (BY G15 (stN G9 vv n)) ∧ (BZ G15) ∧ (RT G15 (stN G9 vv n) s) ∧ (RV G15 (stN G9 vv n) s) ∧ (SlotFr s G G15) ∧ (∀ j : Int, 0 ≤ j → j < 10 → ¬ (gS G15 a_sValue (10 * s + j).toNat) = -1 → ¬ (gS G a_sValue (10 * b + j).toNat) = -1)) → (10 - k15).toNat < n15 → WP kX12_seals X 427 [some (2, ((1000 : Nat) : Int)), some (0, n), some (0, a), some (0, b), some (0, s), some (0, m1), some (0, k15), none] [] G15 := by
                                  intro n15
                                  induction n15 with
                                  | zero => intro k15 G15 hMG15 hFG15 hi15 hm15; exact absurd hm15 (Nat.not_lt_zero _)
                                  | succ n15 ih15 =>
                                    intro k15 G15 hMG15 hFG15 hi15 hm15
                                    have hj15 := hi15
                                    obtain ⟨ik15, iE15, iX15, iB15, iZ15, iT15, iV15, is15, iD15⟩ := hi15
                                    have hff15 := iE15.1.f
                                    have hfm15 := iE15.2.2.2.2
                                    refine s_iload dX12_seals_427 rfl ?_
                                    refine s_bipush dX12_seals_429 rfl (by decide) ?_
                                    refine s_icmp_ge (tgt := 503) dX12_seals_431 (by decide) (fun c16 => ?_) (fun c16 => ?_)
                                    · -- 431 to 503
                                      refine s_iconst dX12_seals_503 (by decide) ?_
                                      exact s_iret hR dX12_seals_504 rfl (hQ _ G15 hMG15 (⟨hFG15, ⟨iE15.weak (by omega) (by omega), is15, iT15.mono (fun t z => iX15.stN z), iV15.mono (fun t z => iX15.stN z), fun _ j j0 j1 q => by have z9 := iD15 j j0 j1 q; exact ⟨hbD j j0 (by omega) z9, z9⟩⟩⟩))
                                    · -- 431 to 434
                                      have hve15 := (is15.rv hA.2.2.1 hbs k15 (by omega) (by omega)).1
                                      have hrv15 := hRVb k15 (by omega) (by omega)
                                      refine s_aload_n dX12_seals_434 rfl (Int.natCast_nonneg _) ?_
                                      refine s_iload_n dX12_seals_435 rfl ?_
                                      refine s_iload dX12_seals_436 rfl ?_
                                      refine cv_X12_388 rfl gX12_isOf dX12_seals_438 hMG15 (by rw [hcf]; decide) (as := [(0, b), (0, k15)]) rfl (Nat.le_of_ble_eq_true rfl) ⟨b, k15, rfl, hMG15, (by first | assumption | omega), (by first | assumption | omega), ?_⟩
                                      show WP kX12_seals X 441 [some (2, ((1000 : Nat) : Int)), some (0, n), some (0, a), some (0, b), some (0, s), some (0, m1), some (0, k15), none] [(0, (gS G15 a_sValue (10 * b + k15).toNat))] G15
                                      refine s_iconst dX12_seals_441 (by decide) ?_
                                      refine s_icmp_eq (tgt := 497) dX12_seals_442 (by decide) (fun c17 => ?_) (fun c17 => ?_)
                                      · -- 442 to 497
                                        refine s_iinc dX12_seals_497 (v := k15) rfl (by omega) (by decide) (lv' := [some (2, ((1000 : Nat) : Int)), some (0, n), some (0, a), some (0, b), some (0, s), some (0, m1), some (0, k15 + 1), none]) rfl ?_
                                        refine s_goto (tgt := 427) dX12_seals_500 (by decide) ?_
                                        have hE9 : FE G15 G15 Hs 0 0 := by have z0 := FE.rf (Hs := Hs) iE15.1 iE15.2.2.1; exact z0
                                        have hf9 : Fr [] [] G15 G15 := Fr.rf
                                        exact ih15 (k15 + 1) G15 hMG15 hFG15 (⟨(by omega), (by exact iE15.trans hE9 (by omega) (by omega)), (by exact iX15.trans hE9.2.2.2.1), (by exact iB15.fx hE9.2.1 iE15.1 (fun j => hf9.atA (by decide) (by decide))), (by exact iZ15.fx iB15 hE9.2.1 (fun j => hf9.atA (by decide) (by decide))), (by exact iT15), (by exact iV15), (by exact is15), (by intro j j0 j1 q; exact iD15 j j0 j1 q)⟩) (by omega)
                                      · -- 442 to 445
                                        have hrw15 := hrv15.2 (by omega)
                                        have hrx15 := (iE15.2.1.2 _ (by omega) hrv15.1.2).2.2.2
                                        have hro15 := hrw15.2.fx iE15.2.1 hFU (by omega) hrv15.1.2
                                        rw [← hve15] at hrx15 hrw15 hro15
                                        have hry15 := hrw15.1
                                        have hrt15 := iE15.2.1.1
                                        have hff15 := iE15.1.f
                                        have hpl15 : pcost 0 ((gS G15 a_fSize ((gS G15 a_sValue (10 * b + k15).toNat)).toNat)) ≤ 99 := by rw [pc_0]; omega
                                        refine s_aload_n dX12_seals_445 rfl (Int.natCast_nonneg _) ?_
                                        refine s_iload dX12_seals_446 rfl ?_
                                        refine s_iload dX12_seals_448 rfl ?_
                                        refine s_aload_n dX12_seals_450 rfl (Int.natCast_nonneg _) ?_
                                        refine s_iconst dX12_seals_451 (by decide) ?_
                                        refine s_aload_n dX12_seals_452 rfl (Int.natCast_nonneg _) ?_
                                        refine s_iload_n dX12_seals_453 rfl ?_
                                        refine s_iload dX12_seals_454 rfl ?_
                                        refine cv_X12_388 rfl gX12_isOf dX12_seals_456 hMG15 (by rw [hcf]; decide) (as := [(0, b), (0, k15)]) rfl (Nat.le_of_ble_eq_true rfl) ⟨b, k15, rfl, hMG15, (by first | assumption | omega), (by first | assumption | omega), ?_⟩
                                        show WP kX12_seals X 459 [some (2, ((1000 : Nat) : Int)), some (0, n), some (0, a), some (0, b), some (0, s), some (0, m1), some (0, k15), none] [(0, (gS G15 a_sValue (10 * b + k15).toNat)), (0, 0), (2, ((1000 : Nat) : Int)), (0, k15), (0, s), (2, ((1000 : Nat) : Int))] G15
                                        refine cv_X12_378 rfl gX12_puts dX12_seals_459 hMG15 (by rw [hcf]; decide) (as := [(0, 0), (0, (gS G15 a_sValue (10 * b + k15).toNat))]) rfl (Nat.le_of_ble_eq_true rfl) ⟨0, (gS G15 a_sValue (10 * b + k15).toNat), Hs, vv, fun _ => True, rfl, hMG15, (by exact iE15.1), (by exact iE15.2.2.1), (by exact hvv), (by omega), (by omega), (by omega), (by omega), (by omega), (by exact fun _ q q0 q1 => (iB15 q q0 q1).1), (by intro q; omega), (by intro q; omega), fun r19 G18 hMG18 hpG18 => ?_⟩
                                        obtain ⟨hfG18, hpG18⟩ := hpG18
                                        have hFG18 : Fr nX12_seals jX12_seals G G18 := Fr.call hFG15 hfG18 (by decide) (by decide)
                                        show WP kX12_seals X 462 [some (2, ((1000 : Nat) : Int)), some (0, n), some (0, a), some (0, b), some (0, s), some (0, m1), some (0, k15), none] [(0, r19), (0, k15), (0, s), (2, ((1000 : Nat) : Int))] G18
                                        refine s_aload_n dX12_seals_462 rfl (Int.natCast_nonneg _) ?_
                                        refine s_iload_n dX12_seals_463 rfl ?_
                                        refine s_iload dX12_seals_464 rfl ?_
                                        refine cv_X12_398 rfl gX12_isHole dX12_seals_466 hMG18 (by rw [hcf]; decide) (as := [(0, a), (0, k15)]) rfl (Nat.le_of_ble_eq_true rfl) ⟨a, k15, rfl, hMG18, (by first | assumption | omega), (by first | assumption | omega), ?_⟩
                                        show WP kX12_seals X 469 [some (2, ((1000 : Nat) : Int)), some (0, n), some (0, a), some (0, b), some (0, s), some (0, m1), some (0, k15), none] [(0, b2i (¬ i_and (gS G18 a_sFlags (10 * a + k15).toNat) 1 = 0)), (0, r19), (0, k15), (0, s), (2, ((1000 : Nat) : Int))] G18
                                        have J21 : ∀ z20 : Int, ((¬ (¬ i_and (gS G18 a_sFlags (10 * a + k15).toNat) 1 = 0)) ∧ z20 = 0) ∨ ((¬ i_and (gS G18 a_sFlags (10 * a + k15).toNat) 1 = 0) ∧ z20 = 1) → WP kX12_seals X 477 [some (2, ((1000 : Nat) : Int)), some (0, n), some (0, a), some (0, b), some (0, s), some (0, m1), some (0, k15), none] [(0, z20), (0, r19), (0, k15), (0, s), (2, ((1000 : Nat) : Int))] G18 := by
                                          intro z20 hz20
                                          refine s_aload_n dX12_seals_477 rfl (Int.natCast_nonneg _) ?_
                                          refine s_iload_n dX12_seals_478 rfl ?_
                                          refine s_iload dX12_seals_479 rfl ?_
                                          refine cv_X12_410 rfl gX12_isGhost dX12_seals_481 hMG18 (by rw [hcf]; decide) (as := [(0, b), (0, k15)]) rfl (Nat.le_of_ble_eq_true rfl) ⟨b, k15, rfl, hMG18, (by first | assumption | omega), (by first | assumption | omega), ?_⟩
                                          show WP kX12_seals X 484 [some (2, ((1000 : Nat) : Int)), some (0, n), some (0, a), some (0, b), some (0, s), some (0, m1), some (0, k15), none] [(0, b2i (¬ i_and (gS G18 a_sFlags (10 * b + k15).toNat) 2 = 0)), (0, z20), (0, r19), (0, k15), (0, s), (2, ((1000 : Nat) : Int))] G18
                                          have J23 : ∀ z22 : Int, ((¬ (¬ i_and (gS G18 a_sFlags (10 * b + k15).toNat) 2 = 0)) ∧ z22 = 0) ∨ ((¬ i_and (gS G18 a_sFlags (10 * b + k15).toNat) 2 = 0) ∧ z22 = 2) → WP kX12_seals X 492 [some (2, ((1000 : Nat) : Int)), some (0, n), some (0, a), some (0, b), some (0, s), some (0, m1), some (0, k15), none] [(0, z22), (0, z20), (0, r19), (0, k15), (0, s), (2, ((1000 : Nat) : Int))] G18 := by
                                            intro z22 hz22
                                            refine s_iadd dX12_seals_492 (by omega) ?_
                                            refine s_iconst dX12_seals_493 (by decide) ?_
                                            refine cv_X12_394 rfl gX12_shows dX12_seals_494 hMG18 (by rw [hcf]; decide) (as := [(0, s), (0, k15), (0, r19), (0, z20 + z22), (0, 0)]) rfl (Nat.le_of_ble_eq_true rfl) ⟨s, k15, r19, z20 + z22, 0, rfl, hMG18, (by first | assumption | omega), (by first | assumption | omega), fun G24 hMG24 hpG24 => ?_⟩
                                            obtain ⟨G26, G27, eG26, eG27, eG24, hpG24⟩ := hpG24
                                            have hFG26 : Fr nX12_seals jX12_seals G G26 := Fr.setA hFG18 eG26 (by decide)
                                            have hFG27 : Fr nX12_seals jX12_seals G G27 := Fr.setA hFG26 eG27 (by decide)
                                            have hFG24 : Fr nX12_seals jX12_seals G G24 := Fr.setA hFG27 eG24 (by decide)
                                            show WP kX12_seals X 497 [some (2, ((1000 : Nat) : Int)), some (0, n), some (0, a), some (0, b), some (0, s), some (0, m1), some (0, k15), none] [] G24
                                            refine s_iinc dX12_seals_497 (v := k15) rfl (by omega) (by decide) (lv' := [some (2, ((1000 : Nat) : Int)), some (0, n), some (0, a), some (0, b), some (0, s), some (0, m1), some (0, k15 + 1), none]) rfl ?_
                                            refine s_goto (tgt := 427) dX12_seals_500 (by decide) ?_
                                            have hE9p : FE G15 G18 Hs 99 1 := by have z0 := FE.rf (Hs := Hs) iE15.1 iE15.2.2.1; have z1 : FE G15 G18 Hs 99 1 := (by first | exact z0.trans (FE.puts hpG18 hpl15) (Int.le_refl _) (Int.le_refl _) | exact (z0.trans (FE.puts hpG18 hpl15) (Int.le_refl _) (Int.le_refl _)).weak (by omega) (by omega)); exact z1
                                            have hf9p := (Fr.call (Fr.rf) hfG18 (by decide) (by decide) : Fr [a_fKind, a_fA, a_fB, a_fSize, a_fNext, a_fHead, a_fMark, a_thingKind, a_thingA, a_thingB, a_thingC, a_thingNext, a_thingHead, a_stackOf, a_fMemo] [26, 42, 35, 36] G15 G18)
                                            have hE9 : FE G15 G24 Hs 99 1 := by have z0 := FE.rf (Hs := Hs) iE15.1 iE15.2.2.1; have z1 : FE G15 G18 Hs 99 1 := (by first | exact z0.trans (FE.puts hpG18 hpl15) (Int.le_refl _) (Int.le_refl _) | exact (z0.trans (FE.puts hpG18 hpl15) (Int.le_refl _) (Int.le_refl _)).weak (by omega) (by omega)); have z2 : FE G15 G26 Hs 99 1 := (by first | exact z1.fr (Fr.setA Fr.rf eG26 (by decide) : Fr [a_sValue] [] G18 G26) (by decide) (by decide) (by decide) | exact (z1.fr (Fr.setA Fr.rf eG26 (by decide) : Fr [a_sValue] [] G18 G26) (by decide) (by decide) (by decide)).weak (by omega) (by omega)); have z3 : FE G15 G27 Hs 99 1 := (by first | exact z2.fr (Fr.setA Fr.rf eG27 (by decide) : Fr [a_sFlags] [] G26 G27) (by decide) (by decide) (by decide) | exact (z2.fr (Fr.setA Fr.rf eG27 (by decide) : Fr [a_sFlags] [] G26 G27) (by decide) (by decide) (by decide)).weak (by omega) (by omega)); have z4 : FE G15 G24 Hs 99 1 := (by first | exact z3.fr (Fr.setA Fr.rf eG24 (by decide) : Fr [a_sNumber] [] G27 G24) (by decide) (by decide) (by decide) | exact (z3.fr (Fr.setA Fr.rf eG24 (by decide) : Fr [a_sNumber] [] G27 G24) (by decide) (by decide) (by decide)).weak (by omega) (by omega)); exact z4
                                            have hf9 := (Fr.setA (Fr.setA (Fr.setA (Fr.call (Fr.rf) hfG18 (by decide) (by decide)) eG26 (by decide)) eG27 (by decide)) eG24 (by decide) : Fr [a_fKind, a_fA, a_fB, a_fSize, a_fNext, a_fHead, a_fMark, a_thingKind, a_thingA, a_thingB, a_thingC, a_thingNext, a_thingHead, a_stackOf, a_fMemo, a_sValue, a_sFlags, a_sNumber] [26, 42, 35, 36] G15 G24)
                                            exact ih15 (k15 + 1) G24 hMG24 hFG24 (⟨(by omega), (by exact iE15.trans hE9 (by omega) (by omega)), (by exact iX15.trans hE9.2.2.2.1), (by exact iB15.fx hE9.2.1 iE15.1 (fun j => hf9.atA (by decide) (by decide))), (by exact iZ15.fx iB15 hE9.2.1 (fun j => hf9.atA (by decide) (by decide))), (by exact iT15.fx hE9.2.1 iE15.1 (fun j _ _ => hf9.atA (by decide) (by decide))), (by refine RV.set (iV15.fx hE9p.2.1 iE15.1 (fun j _ _ => hf9p.atA (by decide) (by decide))) hs0.1 ⟨by omega, by omega⟩ eG26 eG27 eG24 ?_ hE9p.1; exact ⟨by have z9 := hpG18.2.2.2.2.1; omega, fun _ => ⟨by have z9 := hpG18.2.2.2.2.2.2.2.2.2.2 (fun _ q q0 q1 => iZ15 q q0 q1); omega, hpG18.2.2.2.2.2.2.2.1 rfl _ (hro15.mono hPb) (fun q q0 q1 qb => (iB15 q q0 q1).2 qb)⟩⟩), (by exact (is15.trans (SlotFr.agr (hf9p.agr (by decide) (by decide) (by decide)))).trans (SlotFr.va (k := k15) ⟨by omega, by omega⟩ hs0.1 eG26 eG27 eG24)), (by obtain ⟨u1, u2, u3, u4⟩ := va3 eG26 eG27 eG24; intro j j0 j1 q; by_cases hj : j = k15; (subst hj; omega); (rw [g_ne u1 (by omega), hf9p.atA (n := a_sValue) (by decide) (by decide)] at q; exact iD15 j j0 j1 q))⟩) (by omega)
                                          refine s_if_eqB (tgt := 491) dX12_seals_484 (by decide) (fun c28 => ?_) (fun c28 => ?_)
                                          · -- 484 to 491
                                            refine s_iconst dX12_seals_491 (by decide) ?_
                                            exact J23 0 (Or.inl ⟨c28, rfl⟩)
                                          · -- 484 to 487
                                            refine s_iconst dX12_seals_487 (by decide) ?_
                                            refine s_goto (tgt := 492) dX12_seals_488 (by decide) ?_
                                            exact J23 2 (Or.inr (⟨c28, rfl⟩))
                                        refine s_if_eqB (tgt := 476) dX12_seals_469 (by decide) (fun c29 => ?_) (fun c29 => ?_)
                                        · -- 469 to 476
                                          refine s_iconst dX12_seals_476 (by decide) ?_
                                          exact J21 0 (Or.inl ⟨c29, rfl⟩)
                                        · -- 469 to 472
                                          refine s_iconst dX12_seals_472 (by decide) ?_
                                          refine s_goto (tgt := 477) dX12_seals_473 (by decide) ?_
                                          exact J21 1 (Or.inr (⟨c29, rfl⟩))
                                exact L15 _ 0 G13 hMG13 hFG13 (⟨(by omega), (by exact iE13.weak (by omega) (by omega)), (by exact iX13), (by exact iB13), (by exact iZ13), (by exact iT13), (by exact hRV6x), (by exact is13), (by intro j j0 j1 q; rw [hr5.atA (by decide) (by decide)] at q; exact absurd (hcl j j0 j1) q)⟩) (Nat.lt_succ_self _)
                              · -- 356 to 359
                                refine s_aload_n dX12_seals_359 rfl (Int.natCast_nonneg _) ?_
                                refine s_iload_n dX12_seals_360 rfl ?_
                                refine s_iload dX12_seals_361 rfl ?_
                                refine cv_X12_413 rfl gX12_isType_ dX12_seals_363 hMG13 (by rw [hcf]; decide) (as := [(0, b), (0, k13)]) rfl (Nat.le_of_ble_eq_true rfl) ⟨b, k13, rfl, hMG13, (by first | assumption | omega), (by first | assumption | omega), ?_⟩
                                show WP kX12_seals X 366 [some (2, ((1000 : Nat) : Int)), some (0, n), some (0, a), some (0, b), some (0, s), some (0, m1), some (0, k13), none] [(0, (gS G13 a_sType (6 * b + k13).toNat))] G13
                                refine s_istore dX12_seals_366 (by decide) (lv' := [some (2, ((1000 : Nat) : Int)), some (0, n), some (0, a), some (0, b), some (0, s), some (0, m1), some (0, k13), some (0, (gS G13 a_sType (6 * b + k13).toNat))]) rfl ?_
                                have hrb13 := hRb13 k13 (by omega) (by omega)
                                refine s_aload_n dX12_seals_368 rfl (Int.natCast_nonneg _) ?_
                                refine gf_sType rfl dX12_seals_369 hMG13 ?_
                                refine s_bipush dX12_seals_372 rfl (by decide) ?_
                                refine s_iload dX12_seals_374 rfl ?_
                                refine s_imul dX12_seals_376 (by omega) ?_
                                refine s_iload dX12_seals_377 rfl ?_
                                refine s_iadd dX12_seals_379 (by omega) ?_
                                refine s_iload dX12_seals_380 rfl ?_
                                refine s_if_lt (tgt := 395) dX12_seals_382 (by decide) (fun c30 => ?_) (fun c30 => ?_)
                                · -- 382 to 395
                                  refine s_iload dX12_seals_395 rfl ?_
                                  refine s_iload dX12_seals_397 rfl ?_
                                  refine cs_X12_367 rfl gX12_has dX12_seals_399 (by rw [hcf]; decide) (as := [(0, m1), (0, k13)]) rfl (Nat.le_of_ble_eq_true rfl) ⟨m1, k13, rfl, ?_⟩
                                  show WP kX12_seals X 402 [some (2, ((1000 : Nat) : Int)), some (0, n), some (0, a), some (0, b), some (0, s), some (0, m1), some (0, k13), some (0, (gS G13 a_sType (6 * b + k13).toNat))] [(0, b2i (bitI m1 k13)), (0, (6 * s) + k13), (2, ((a_sType : Nat) : Int))] G13
                                  have J32 : ∀ z31 : Int, ((¬ (bitI m1 k13)) ∧ z31 = (gS G13 a_sType (6 * b + k13).toNat)) ∨ ((bitI m1 k13) ∧ z31 = gS G13 a_solved ((k13).toNat)) → WP kX12_seals X 417 [some (2, ((1000 : Nat) : Int)), some (0, n), some (0, a), some (0, b), some (0, s), some (0, m1), some (0, k13), some (0, (gS G13 a_sType (6 * b + k13).toNat))] [(0, z31), (0, (6 * s) + k13), (2, ((a_sType : Nat) : Int))] G13 := by
                                    intro z31 hz31
                                    refine r_iast dX12_seals_417 hMG13 (mg_a_sType hMG13) (by decide) (by omega) (by omega) (fun G33 eG33 hMG33 => ?_)
                                    have hFG33 : Fr nX12_seals jX12_seals G G33 := Fr.setA hFG13 eG33 (by decide)
                                    show WP kX12_seals X 418 [some (2, ((1000 : Nat) : Int)), some (0, n), some (0, a), some (0, b), some (0, s), some (0, m1), some (0, k13), some (0, (gS G13 a_sType (6 * b + k13).toNat))] [] G33
                                    refine s_iinc dX12_seals_418 (v := k13) rfl (by omega) (by decide) (lv' := [some (2, ((1000 : Nat) : Int)), some (0, n), some (0, a), some (0, b), some (0, s), some (0, m1), some (0, k13 + 1), some (0, (gS G13 a_sType (6 * b + k13).toNat))]) rfl ?_
                                    refine s_goto (tgt := 352) dX12_seals_421 (by decide) ?_
                                    refine s_mask [true, true, true, true, true, true, true, false] (lv' := [some (2, ((1000 : Nat) : Int)), some (0, n), some (0, a), some (0, b), some (0, s), some (0, m1), some (0, k13 + 1), none]) rfl ?_
                                    have hE9p : FE G13 G13 Hs 0 0 := by have z0 := FE.rf (Hs := Hs) iE13.1 iE13.2.2.1; exact z0
                                    have hf9p : Fr [] [] G13 G13 := Fr.rf
                                    have hE9 : FE G13 G33 Hs 0 0 := by have z0 := FE.rf (Hs := Hs) iE13.1 iE13.2.2.1; have z1 : FE G13 G33 Hs 0 0 := (by first | exact z0.fr (Fr.setA Fr.rf eG33 (by decide) : Fr [a_sType] [] G13 G33) (by decide) (by decide) (by decide) | exact (z0.fr (Fr.setA Fr.rf eG33 (by decide) : Fr [a_sType] [] G13 G33) (by decide) (by decide) (by decide)).weak (by omega) (by omega)); exact z1
                                    have hf9 := (Fr.setA (Fr.rf) eG33 (by decide) : Fr [a_sType] [] G13 G33)
                                    have hEp1 := hE9p.2.1.1
                                    exact ih13 (k13 + 1) G33 hMG33 hFG33 (⟨(by omega), (by exact iE13.trans hE9 (by omega) (by omega)), (by exact iX13.trans hE9.2.2.2.1), (by exact iB13.fx hE9.2.1 iE13.1 (fun j => hf9.atA (by decide) (by decide))), (by exact iZ13.fx iB13 hE9.2.1 (fun j => hf9.atA (by decide) (by decide))), (by exact iO13.fx hE9.2.1 iE13.1 (fun j => hf9.atA (by decide) (by decide))), (by refine RT.set (G := G13) (iT13.fx hE9p.2.1 iE13.1 (fun j _ _ => hf9p.atA (by decide) (by decide))) hs0.1 ⟨by omega, by omega⟩ eG33 ?_ hE9p.1; have z8 := iE13.1.f; rcases hz31 with ⟨q1, q2⟩ | ⟨q1, q2⟩; (have z9 := hrb13.1; exact ⟨by omega, fun z => by omega⟩); (rw [q2]; have z9 := iO13 k13 (by omega) (by omega) q1; exact ⟨by omega, fun _ => z9.2⟩)), (by exact (is13.trans (SlotFr.agr (hf9p.agr (by decide) (by decide) (by decide)))).trans (SlotFr.ty (k := k13) ⟨by omega, by omega⟩ hs0.1 eG33)), (by exact Fr.call ir13 hf9 (by decide) (by decide))⟩) (by omega)
                                  refine s_if_eqB (tgt := 415) dX12_seals_402 (by decide) (fun c34 => ?_) (fun c34 => ?_)
                                  · -- 402 to 415
                                    refine s_iload dX12_seals_415 rfl ?_
                                    exact J32 _ (Or.inl ⟨c34, rfl⟩)
                                  · -- 402 to 405
                                    refine s_aload_n dX12_seals_405 rfl (Int.natCast_nonneg _) ?_
                                    refine gf_solved rfl dX12_seals_406 hMG13 ?_
                                    refine s_iload dX12_seals_409 rfl ?_
                                    refine s_iald dX12_seals_411 (mg_a_solved hMG13) (by omega) (by omega) rfl ?_
                                    refine s_goto (tgt := 417) dX12_seals_412 (by decide) ?_
                                    exact J32 _ (Or.inr (⟨c34, rfl⟩))
                                · -- 382 to 385
                                  have hrc13 := hrb13.2 (by omega)
                                  have hrz13 := hrc13.1
                                  have hpl13 : pcost 0 ((gS G13 a_fSize ((gS G13 a_sType (6 * b + k13).toNat)).toNat)) ≤ 99 := by rw [pc_0]; omega
                                  refine s_aload_n dX12_seals_385 rfl (Int.natCast_nonneg _) ?_
                                  refine s_iconst dX12_seals_386 (by decide) ?_
                                  refine s_iload dX12_seals_387 rfl ?_
                                  refine cv_X12_378 rfl gX12_puts dX12_seals_389 hMG13 (by rw [hcf]; decide) (as := [(0, 0), (0, (gS G13 a_sType (6 * b + k13).toNat))]) rfl (Nat.le_of_ble_eq_true rfl) ⟨0, (gS G13 a_sType (6 * b + k13).toNat), Hs, vv, fun _ => True, rfl, hMG13, (by exact iE13.1), (by exact iE13.2.2.1), (by exact hvv), (by omega), (by omega), (by omega), (by omega), (by omega), (by exact fun _ q q0 q1 => (iB13 q q0 q1).1), (by intro q; omega), (by intro q; omega), fun r36 G35 hMG35 hpG35 => ?_⟩
                                  obtain ⟨hfG35, hpG35⟩ := hpG35
                                  have hFG35 : Fr nX12_seals jX12_seals G G35 := Fr.call hFG13 hfG35 (by decide) (by decide)
                                  show WP kX12_seals X 392 [some (2, ((1000 : Nat) : Int)), some (0, n), some (0, a), some (0, b), some (0, s), some (0, m1), some (0, k13), some (0, (gS G13 a_sType (6 * b + k13).toNat))] [(0, r36), (0, (6 * s) + k13), (2, ((a_sType : Nat) : Int))] G35
                                  refine s_goto (tgt := 417) dX12_seals_392 (by decide) ?_
                                  refine r_iast dX12_seals_417 hMG35 (mg_a_sType hMG35) (by decide) (by omega) (by omega) (fun G37 eG37 hMG37 => ?_)
                                  have hFG37 : Fr nX12_seals jX12_seals G G37 := Fr.setA hFG35 eG37 (by decide)
                                  show WP kX12_seals X 418 [some (2, ((1000 : Nat) : Int)), some (0, n), some (0, a), some (0, b), some (0, s), some (0, m1), some (0, k13), some (0, (gS G13 a_sType (6 * b + k13).toNat))] [] G37
                                  refine s_iinc dX12_seals_418 (v := k13) rfl (by omega) (by decide) (lv' := [some (2, ((1000 : Nat) : Int)), some (0, n), some (0, a), some (0, b), some (0, s), some (0, m1), some (0, k13 + 1), some (0, (gS G13 a_sType (6 * b + k13).toNat))]) rfl ?_
                                  refine s_goto (tgt := 352) dX12_seals_421 (by decide) ?_
                                  refine s_mask [true, true, true, true, true, true, true, false] (lv' := [some (2, ((1000 : Nat) : Int)), some (0, n), some (0, a), some (0, b), some (0, s), some (0, m1), some (0, k13 + 1), none]) rfl ?_
                                  have hE9p : FE G13 G35 Hs 99 1 := by have z0 := FE.rf (Hs := Hs) iE13.1 iE13.2.2.1; have z1 : FE G13 G35 Hs 99 1 := (by first | exact z0.trans (FE.puts hpG35 hpl13) (Int.le_refl _) (Int.le_refl _) | exact (z0.trans (FE.puts hpG35 hpl13) (Int.le_refl _) (Int.le_refl _)).weak (by omega) (by omega)); exact z1
                                  have hf9p := (Fr.call (Fr.rf) hfG35 (by decide) (by decide) : Fr [a_fKind, a_fA, a_fB, a_fSize, a_fNext, a_fHead, a_fMark, a_thingKind, a_thingA, a_thingB, a_thingC, a_thingNext, a_thingHead, a_stackOf, a_fMemo] [26, 42, 35, 36] G13 G35)
                                  have hE9 : FE G13 G37 Hs 99 1 := by have z0 := FE.rf (Hs := Hs) iE13.1 iE13.2.2.1; have z1 : FE G13 G35 Hs 99 1 := (by first | exact z0.trans (FE.puts hpG35 hpl13) (Int.le_refl _) (Int.le_refl _) | exact (z0.trans (FE.puts hpG35 hpl13) (Int.le_refl _) (Int.le_refl _)).weak (by omega) (by omega)); have z2 : FE G13 G37 Hs 99 1 := (by first | exact z1.fr (Fr.setA Fr.rf eG37 (by decide) : Fr [a_sType] [] G35 G37) (by decide) (by decide) (by decide) | exact (z1.fr (Fr.setA Fr.rf eG37 (by decide) : Fr [a_sType] [] G35 G37) (by decide) (by decide) (by decide)).weak (by omega) (by omega)); exact z2
                                  have hf9 := (Fr.setA (Fr.call (Fr.rf) hfG35 (by decide) (by decide)) eG37 (by decide) : Fr [a_fKind, a_fA, a_fB, a_fSize, a_fNext, a_fHead, a_fMark, a_thingKind, a_thingA, a_thingB, a_thingC, a_thingNext, a_thingHead, a_stackOf, a_fMemo, a_sType] [26, 42, 35, 36] G13 G37)
                                  have hEp1 := hE9p.2.1.1
                                  exact ih13 (k13 + 1) G37 hMG37 hFG37 (⟨(by omega), (by exact iE13.trans hE9 (by omega) (by omega)), (by exact iX13.trans hE9.2.2.2.1), (by exact iB13.fx hE9.2.1 iE13.1 (fun j => hf9.atA (by decide) (by decide))), (by exact iZ13.fx iB13 hE9.2.1 (fun j => hf9.atA (by decide) (by decide))), (by exact iO13.fx hE9.2.1 iE13.1 (fun j => hf9.atA (by decide) (by decide))), (by refine RT.set (G := G35) (iT13.fx hE9p.2.1 iE13.1 (fun j _ _ => hf9p.atA (by decide) (by decide))) hs0.1 ⟨by omega, by omega⟩ eG37 ?_ hE9p.1; exact ⟨by have z9 := hpG35.2.2.2.2.1; omega, fun _ => ⟨by have z9 := hpG35.2.2.2.2.2.2.2.2.2.2 (fun _ q q0 q1 => iZ13 q q0 q1); omega, hpG35.2.2.2.2.2.2.2.1 rfl _ (hrc13.2.mono hPb) (fun q q0 q1 qb => (iB13 q q0 q1).2 qb)⟩⟩), (by exact (is13.trans (SlotFr.agr (hf9p.agr (by decide) (by decide) (by decide)))).trans (SlotFr.ty (k := k13) ⟨by omega, by omega⟩ hs0.1 eG37)), (by exact Fr.call ir13 hf9 (by decide) (by decide))⟩) (by omega)
                          exact L13 _ 0 G11 hMG11 hFG11 (⟨(by omega), (by exact hE6g.weak (by omega) (by omega)), (by exact hE6.2.2.2.1), (by exact hBY), (by exact hBZ), (by exact hSO), (by exact hRT6), (by exact SlotFr.agr (hr6.agr (by decide) (by decide) (by decide))), (by exact Fr.call Fr.rf hr6 (by decide) (by decide))⟩) (Nat.lt_succ_self _)
                        · -- 256 to 259
                          refine s_aload_n dX12_seals_259 rfl (Int.natCast_nonneg _) ?_
                          refine gf_solved rfl dX12_seals_260 hMG9 ?_
                          refine s_iload dX12_seals_263 rfl ?_
                          refine s_iload dX12_seals_265 rfl ?_
                          refine s_iload dX12_seals_267 rfl ?_
                          refine cs_X12_367 rfl gX12_has dX12_seals_269 (by rw [hcf]; decide) (as := [(0, m1), (0, k9)]) rfl (Nat.le_of_ble_eq_true rfl) ⟨m1, k9, rfl, ?_⟩
                          show WP kX12_seals X 272 [some (2, ((1000 : Nat) : Int)), some (0, n), some (0, a), some (0, b), some (0, s), some (0, m1), some (0, k9), none] [(0, b2i (bitI m1 k9)), (0, k9), (2, ((a_solved : Nat) : Int))] G9
                          refine s_if_neB (tgt := 279) dX12_seals_272 (by decide) (fun c38 => ?_) (fun c38 => ?_)
                          · -- 272 to 279
                            have hx9 := iE9.2.2.2.1
                            have hg19 : (gS G9 a_isGenerative (n).toNat) = (gS G a_isGenerative (n).toNat) := ir9.atA (by decide) (by decide)
                            have hg29 : (gS G9 a_nFirst (n).toNat) = (gS G a_nFirst (n).toNat) := ir9.atA (by decide) (by decide)
                            have hg39 : (gS G9 a_nSecond (n).toNat) = (gS G a_nSecond (n).toNat) := ir9.atA (by decide) (by decide)
                            have hg49 : (gS G9 a_ident ((gS G9 a_nFirst (n).toNat)).toNat) = (gS G a_ident (a).toNat) := by rw [hg29, ← ha]; exact ir9.atA (by decide) (by decide)
                            have hg59 : (gS G9 a_ident ((gS G9 a_nSecond (n).toNat)).toNat) = (gS G a_ident (b).toNat) := by rw [hg39, ← hb]; exact ir9.atA (by decide) (by decide)
                            refine s_aload_n dX12_seals_279 rfl (Int.natCast_nonneg _) ?_
                            refine s_iconst dX12_seals_280 (by decide) ?_
                            refine s_aload_n dX12_seals_281 rfl (Int.natCast_nonneg _) ?_
                            refine gf_isGenerative rfl dX12_seals_282 hMG9 ?_
                            refine s_iload_n dX12_seals_285 rfl ?_
                            refine s_bald dX12_seals_286 (mg_a_isGenerative hMG9) (by omega) (by omega) rfl ?_
                            refine s_if_eq (tgt := 302) dX12_seals_287 (by decide) (fun c39 => ?_) (fun c39 => ?_)
                            · -- 287 to 302
                              refine s_aload_n dX12_seals_302 rfl (Int.natCast_nonneg _) ?_
                              refine s_bipush dX12_seals_303 rfl (by decide) ?_
                              refine s_aload_n dX12_seals_305 rfl (Int.natCast_nonneg _) ?_
                              refine gf_ident rfl dX12_seals_306 hMG9 ?_
                              refine s_aload_n dX12_seals_309 rfl (Int.natCast_nonneg _) ?_
                              refine gf_nFirst rfl dX12_seals_310 hMG9 ?_
                              refine s_iload_n dX12_seals_313 rfl ?_
                              refine s_iald dX12_seals_314 (mg_a_nFirst hMG9) (by omega) (by omega) rfl ?_
                              refine s_iald dX12_seals_315 (mg_a_ident hMG9) (by omega) (by omega) rfl ?_
                              refine s_aload_n dX12_seals_316 rfl (Int.natCast_nonneg _) ?_
                              refine gf_ident rfl dX12_seals_317 hMG9 ?_
                              refine s_aload_n dX12_seals_320 rfl (Int.natCast_nonneg _) ?_
                              refine gf_nSecond rfl dX12_seals_321 hMG9 ?_
                              refine s_iload_n dX12_seals_324 rfl ?_
                              refine s_iald dX12_seals_325 (mg_a_nSecond hMG9) (by omega) (by omega) rfl ?_
                              refine s_iald dX12_seals_326 (mg_a_ident hMG9) (by omega) (by omega) rfl ?_
                              refine s_iload dX12_seals_327 rfl ?_
                              refine cv_X12_363 rfl gX12_thing dX12_seals_329 hMG9 (by rw [hcf]; decide) (as := [(0, 11), (0, gS G9 a_ident ((gS G9 a_nFirst ((n).toNat)).toNat)), (0, gS G9 a_ident ((gS G9 a_nSecond ((n).toNat)).toNat)), (0, k9)]) rfl (Nat.le_of_ble_eq_true rfl) ⟨11, gS G9 a_ident ((gS G9 a_nFirst ((n).toNat)).toNat), gS G9 a_ident ((gS G9 a_nSecond ((n).toNat)).toNat), k9, Hs, vv, rfl, hMG9, (by exact iE9.2.2.1), (by exact hvv), (by intro G9 h9 t9 k9; rw [hg49, hg59] at k9; exact mkN.s (hx9.trans h9) hn hkd (SK.both (hx9.trans h9) (by omega) ⟨by omega, by omega⟩ (by rw [← ha]; exact hid.1) (by rw [← hb]; exact hid.2) k9)), fun r41 G40 hMG40 hpG40 => ?_⟩
                              obtain ⟨hfG40, hpG40⟩ := hpG40
                              have hFG40 : Fr nX12_seals jX12_seals G G40 := Fr.call hFG9 hfG40 (by decide) (by decide)
                              show WP kX12_seals X 332 [some (2, ((1000 : Nat) : Int)), some (0, n), some (0, a), some (0, b), some (0, s), some (0, m1), some (0, k9), none] [(0, r41), (0, 2), (2, ((1000 : Nat) : Int)), (0, k9), (2, ((a_solved : Nat) : Int))] G40
                              have hkr := hpG40.2.2.1.1
                              have hE7 : FE G9 G40 Hs 0 0 := by have z0 := FE.rf (Hs := Hs) iE9.1 iE9.2.2.1; have z1 : FE G9 G40 Hs 0 0 := (by first | exact z0.trans (FE.thing z0.1 hpG40.1 hpG40.2.1 hfG40 (by decide) (by decide) (by decide)) (Int.le_refl _) (Int.le_refl _) | exact (z0.trans (FE.thing z0.1 hpG40.1 hpG40.2.1 hfG40 (by decide) (by decide) (by decide)) (Int.le_refl _) (Int.le_refl _)).weak (by omega) (by omega)); exact z1
                              have hf7 := (Fr.call (Fr.rf) hfG40 (by decide) (by decide) : Fr [a_thingKind, a_thingA, a_thingB, a_thingC, a_thingNext, a_thingHead] [42] G9 G40)
                              have hfu7 := hE7.2.2.2.2.1
                              have hfi7 := iE9.2.2.2.2.1
                              refine s_iconst dX12_seals_332 (by decide) ?_
                              refine cv_X12_338 rfl gX12_full dX12_seals_333 hMG40 (by rw [hcf]; decide) (as := [(0, 2), (0, r41), (0, 0)]) rfl (Nat.le_of_ble_eq_true rfl) ⟨2, r41, 0, rfl, hMG40, (by exact hE7.1), (by omega), (by omega), (by intro q; omega), (by intro q; exact hkr), (by intro q; omega), fun r43 G42 hMG42 hpG42 => ?_⟩
                              obtain ⟨hfG42, hpG42⟩ := hpG42
                              have hFG42 : Fr nX12_seals jX12_seals G G42 := Fr.call hFG40 hfG42 (by decide) (by decide)
                              show WP kX12_seals X 336 [some (2, ((1000 : Nat) : Int)), some (0, n), some (0, a), some (0, b), some (0, s), some (0, m1), some (0, k9), none] [(0, r43), (0, k9), (2, ((a_solved : Nat) : Int))] G42
                              refine r_iast dX12_seals_336 hMG42 (mg_a_solved hMG42) (by decide) (by omega) (by omega) (fun G44 eG44 hMG44 => ?_)
                              have hFG44 : Fr nX12_seals jX12_seals G G44 := Fr.setA hFG42 eG44 (by decide)
                              show WP kX12_seals X 337 [some (2, ((1000 : Nat) : Int)), some (0, n), some (0, a), some (0, b), some (0, s), some (0, m1), some (0, k9), none] [] G44
                              refine s_iinc dX12_seals_337 (v := k9) rfl (by omega) (by decide) (lv' := [some (2, ((1000 : Nat) : Int)), some (0, n), some (0, a), some (0, b), some (0, s), some (0, m1), some (0, k9 + 1), none]) rfl ?_
                              refine s_goto (tgt := 252) dX12_seals_340 (by decide) ?_
                              have hE9p : FE G9 G42 Hs 1 0 := by have z0 := FE.rf (Hs := Hs) iE9.1 iE9.2.2.1; have z1 : FE G9 G40 Hs 0 0 := (by first | exact z0.trans (FE.thing z0.1 hpG40.1 hpG40.2.1 hfG40 (by decide) (by decide) (by decide)) (Int.le_refl _) (Int.le_refl _) | exact (z0.trans (FE.thing z0.1 hpG40.1 hpG40.2.1 hfG40 (by decide) (by decide) (by decide)) (Int.le_refl _) (Int.le_refl _)).weak (by omega) (by omega)); have z2 : FE G9 G42 Hs 1 0 := (by first | exact z1.trans (FE.full (c := 1) hpG42.1 hpG42.2.2.1 z1.2.2.1 hpG42.2.1.2.2 hfG42 (by decide) (by decide) (by decide) (by decide)) (Int.le_refl _) (Int.le_refl _) | exact (z1.trans (FE.full (c := 1) hpG42.1 hpG42.2.2.1 z1.2.2.1 hpG42.2.1.2.2 hfG42 (by decide) (by decide) (by decide) (by decide)) (Int.le_refl _) (Int.le_refl _)).weak (by omega) (by omega)); exact z2
                              have hf9p := (Fr.call (Fr.call (Fr.rf) hfG40 (by decide) (by decide)) hfG42 (by decide) (by decide) : Fr [a_thingKind, a_thingA, a_thingB, a_thingC, a_thingNext, a_thingHead, a_fKind, a_fA, a_fB, a_fSize, a_fNext, a_fHead, a_fMark] [42, 26] G9 G42)
                              have hE9 : FE G9 G44 Hs 1 0 := by have z0 := FE.rf (Hs := Hs) iE9.1 iE9.2.2.1; have z1 : FE G9 G40 Hs 0 0 := (by first | exact z0.trans (FE.thing z0.1 hpG40.1 hpG40.2.1 hfG40 (by decide) (by decide) (by decide)) (Int.le_refl _) (Int.le_refl _) | exact (z0.trans (FE.thing z0.1 hpG40.1 hpG40.2.1 hfG40 (by decide) (by decide) (by decide)) (Int.le_refl _) (Int.le_refl _)).weak (by omega) (by omega)); have z2 : FE G9 G42 Hs 1 0 := (by first | exact z1.trans (FE.full (c := 1) hpG42.1 hpG42.2.2.1 z1.2.2.1 hpG42.2.1.2.2 hfG42 (by decide) (by decide) (by decide) (by decide)) (Int.le_refl _) (Int.le_refl _) | exact (z1.trans (FE.full (c := 1) hpG42.1 hpG42.2.2.1 z1.2.2.1 hpG42.2.1.2.2 hfG42 (by decide) (by decide) (by decide) (by decide)) (Int.le_refl _) (Int.le_refl _)).weak (by omega) (by omega)); have z3 : FE G9 G44 Hs 1 0 := (by first | exact z2.fr (Fr.setA Fr.rf eG44 (by decide) : Fr [a_solved] [] G42 G44) (by decide) (by decide) (by decide) | exact (z2.fr (Fr.setA Fr.rf eG44 (by decide) : Fr [a_solved] [] G42 G44) (by decide) (by decide) (by decide)).weak (by omega) (by omega)); exact z3
                              have hf9 := (Fr.setA (Fr.call (Fr.call (Fr.rf) hfG40 (by decide) (by decide)) hfG42 (by decide) (by decide)) eG44 (by decide) : Fr [a_thingKind, a_thingA, a_thingB, a_thingC, a_thingNext, a_thingHead, a_fKind, a_fA, a_fB, a_fSize, a_fNext, a_fHead, a_fMark, a_solved] [42, 26] G9 G44)
                              exact ih9 (k9 + 1) G44 hMG44 hFG44 (⟨(by omega), (by exact iE9.trans hE9 (by omega) (by omega)), (by exact Fr.call ir9 hf9 (by decide) (by decide)), (by have hx3 := hx9.trans hpG40.2.1; have z9 := full_st (v := vv) (n := n) hfG42 hpG42 (stN.sk (by rw [hx3.nd (n := a_nKind) (by decide)]; exact hkd) (SK.both (k := k9) (x := (gS G a_ident (a).toNat)) (y := (gS G a_ident (b).toNat)) (hx9.trans hpG40.2.1) (by omega) ⟨by omega, by omega⟩ (by rw [← ha]; exact hid.1) (by rw [← hb]; exact hid.2) (by have z5 := hpG40.2.2.1; rw [hg49, hg59] at z5; exact z5))); exact iS9.set iE9.1 hE9p.2.1 hE9p.2.2.2.1 hE9p.1 (fun j => hf9p.atA (by decide) (by decide)) ⟨by omega, by omega⟩ eG44 (Or.inl ⟨by first | assumption | exact Classical.byContradiction (fun q9 => by contradiction), z9.1, z9.2.1, z9.2.2⟩))⟩) (by omega)
                            · -- 287 to 290
                              refine s_aload_n dX12_seals_290 rfl (Int.natCast_nonneg _) ?_
                              refine s_bipush dX12_seals_291 rfl (by decide) ?_
                              refine s_iload_n dX12_seals_293 rfl ?_
                              refine s_iload dX12_seals_294 rfl ?_
                              refine cv_X12_348 rfl gX12_stamp dX12_seals_296 hMG9 (by rw [hcf]; decide) (as := [(0, 10), (0, n), (0, k9)]) rfl (Nat.le_of_ble_eq_true rfl) ⟨10, n, k9, Hs, vv, rfl, hMG9, (by exact iE9.2.2.1), (by exact hvv), (by intro G9 h9 t9 k9; exact mkN.s (hx9.trans h9) hn hkd (SK.gen (hx9.trans h9) (by omega) ⟨by omega, by omega⟩ k9)), fun r46 G45 hMG45 hpG45 => ?_⟩
                              obtain ⟨hfG45, hpG45⟩ := hpG45
                              have hFG45 : Fr nX12_seals jX12_seals G G45 := Fr.call hFG9 hfG45 (by decide) (by decide)
                              show WP kX12_seals X 299 [some (2, ((1000 : Nat) : Int)), some (0, n), some (0, a), some (0, b), some (0, s), some (0, m1), some (0, k9), none] [(0, r46), (0, 2), (2, ((1000 : Nat) : Int)), (0, k9), (2, ((a_solved : Nat) : Int))] G45
                              refine s_goto (tgt := 332) dX12_seals_299 (by decide) ?_
                              have hkr := hpG45.2.2.1.1
                              have hE7 : FE G9 G45 Hs 0 0 := by have z0 := FE.rf (Hs := Hs) iE9.1 iE9.2.2.1; have z1 : FE G9 G45 Hs 0 0 := (by first | exact z0.trans (FE.thing z0.1 hpG45.1 hpG45.2.1 hfG45 (by decide) (by decide) (by decide)) (Int.le_refl _) (Int.le_refl _) | exact (z0.trans (FE.thing z0.1 hpG45.1 hpG45.2.1 hfG45 (by decide) (by decide) (by decide)) (Int.le_refl _) (Int.le_refl _)).weak (by omega) (by omega)); exact z1
                              have hf7 := (Fr.call (Fr.rf) hfG45 (by decide) (by decide) : Fr [a_thingKind, a_thingA, a_thingB, a_thingC, a_thingNext, a_thingHead] [42] G9 G45)
                              have hfu7 := hE7.2.2.2.2.1
                              have hfi7 := iE9.2.2.2.2.1
                              refine s_iconst dX12_seals_332 (by decide) ?_
                              refine cv_X12_338 rfl gX12_full dX12_seals_333 hMG45 (by rw [hcf]; decide) (as := [(0, 2), (0, r46), (0, 0)]) rfl (Nat.le_of_ble_eq_true rfl) ⟨2, r46, 0, rfl, hMG45, (by exact hE7.1), (by omega), (by omega), (by intro q; omega), (by intro q; exact hkr), (by intro q; omega), fun r48 G47 hMG47 hpG47 => ?_⟩
                              obtain ⟨hfG47, hpG47⟩ := hpG47
                              have hFG47 : Fr nX12_seals jX12_seals G G47 := Fr.call hFG45 hfG47 (by decide) (by decide)
                              show WP kX12_seals X 336 [some (2, ((1000 : Nat) : Int)), some (0, n), some (0, a), some (0, b), some (0, s), some (0, m1), some (0, k9), none] [(0, r48), (0, k9), (2, ((a_solved : Nat) : Int))] G47
                              refine r_iast dX12_seals_336 hMG47 (mg_a_solved hMG47) (by decide) (by omega) (by omega) (fun G49 eG49 hMG49 => ?_)
                              have hFG49 : Fr nX12_seals jX12_seals G G49 := Fr.setA hFG47 eG49 (by decide)
                              show WP kX12_seals X 337 [some (2, ((1000 : Nat) : Int)), some (0, n), some (0, a), some (0, b), some (0, s), some (0, m1), some (0, k9), none] [] G49
                              refine s_iinc dX12_seals_337 (v := k9) rfl (by omega) (by decide) (lv' := [some (2, ((1000 : Nat) : Int)), some (0, n), some (0, a), some (0, b), some (0, s), some (0, m1), some (0, k9 + 1), none]) rfl ?_
                              refine s_goto (tgt := 252) dX12_seals_340 (by decide) ?_
                              have hE9p : FE G9 G47 Hs 1 0 := by have z0 := FE.rf (Hs := Hs) iE9.1 iE9.2.2.1; have z1 : FE G9 G45 Hs 0 0 := (by first | exact z0.trans (FE.thing z0.1 hpG45.1 hpG45.2.1 hfG45 (by decide) (by decide) (by decide)) (Int.le_refl _) (Int.le_refl _) | exact (z0.trans (FE.thing z0.1 hpG45.1 hpG45.2.1 hfG45 (by decide) (by decide) (by decide)) (Int.le_refl _) (Int.le_refl _)).weak (by omega) (by omega)); have z2 : FE G9 G47 Hs 1 0 := (by first | exact z1.trans (FE.full (c := 1) hpG47.1 hpG47.2.2.1 z1.2.2.1 hpG47.2.1.2.2 hfG47 (by decide) (by decide) (by decide) (by decide)) (Int.le_refl _) (Int.le_refl _) | exact (z1.trans (FE.full (c := 1) hpG47.1 hpG47.2.2.1 z1.2.2.1 hpG47.2.1.2.2 hfG47 (by decide) (by decide) (by decide) (by decide)) (Int.le_refl _) (Int.le_refl _)).weak (by omega) (by omega)); exact z2
                              have hf9p := (Fr.call (Fr.call (Fr.rf) hfG45 (by decide) (by decide)) hfG47 (by decide) (by decide) : Fr [a_thingKind, a_thingA, a_thingB, a_thingC, a_thingNext, a_thingHead, a_fKind, a_fA, a_fB, a_fSize, a_fNext, a_fHead, a_fMark] [42, 26] G9 G47)
                              have hE9 : FE G9 G49 Hs 1 0 := by have z0 := FE.rf (Hs := Hs) iE9.1 iE9.2.2.1; have z1 : FE G9 G45 Hs 0 0 := (by first | exact z0.trans (FE.thing z0.1 hpG45.1 hpG45.2.1 hfG45 (by decide) (by decide) (by decide)) (Int.le_refl _) (Int.le_refl _) | exact (z0.trans (FE.thing z0.1 hpG45.1 hpG45.2.1 hfG45 (by decide) (by decide) (by decide)) (Int.le_refl _) (Int.le_refl _)).weak (by omega) (by omega)); have z2 : FE G9 G47 Hs 1 0 := (by first | exact z1.trans (FE.full (c := 1) hpG47.1 hpG47.2.2.1 z1.2.2.1 hpG47.2.1.2.2 hfG47 (by decide) (by decide) (by decide) (by decide)) (Int.le_refl _) (Int.le_refl _) | exact (z1.trans (FE.full (c := 1) hpG47.1 hpG47.2.2.1 z1.2.2.1 hpG47.2.1.2.2 hfG47 (by decide) (by decide) (by decide) (by decide)) (Int.le_refl _) (Int.le_refl _)).weak (by omega) (by omega)); have z3 : FE G9 G49 Hs 1 0 := (by first | exact z2.fr (Fr.setA Fr.rf eG49 (by decide) : Fr [a_solved] [] G47 G49) (by decide) (by decide) (by decide) | exact (z2.fr (Fr.setA Fr.rf eG49 (by decide) : Fr [a_solved] [] G47 G49) (by decide) (by decide) (by decide)).weak (by omega) (by omega)); exact z3
                              have hf9 := (Fr.setA (Fr.call (Fr.call (Fr.rf) hfG45 (by decide) (by decide)) hfG47 (by decide) (by decide)) eG49 (by decide) : Fr [a_thingKind, a_thingA, a_thingB, a_thingC, a_thingNext, a_thingHead, a_fKind, a_fA, a_fB, a_fSize, a_fNext, a_fHead, a_fMark, a_solved] [42, 26] G9 G49)
                              exact ih9 (k9 + 1) G49 hMG49 hFG49 (⟨(by omega), (by exact iE9.trans hE9 (by omega) (by omega)), (by exact Fr.call ir9 hf9 (by decide) (by decide)), (by have hx3 := hx9.trans hpG45.2.1; have z9 := full_st (v := vv) (n := n) hfG47 hpG47 (stN.sk (by rw [hx3.nd (n := a_nKind) (by decide)]; exact hkd) (SK.gen (hx9.trans hpG45.2.1) (by omega) ⟨by omega, by omega⟩ hpG45.2.2.1)); exact iS9.set iE9.1 hE9p.2.1 hE9p.2.2.2.1 hE9p.1 (fun j => hf9p.atA (by decide) (by decide)) ⟨by omega, by omega⟩ eG49 (Or.inl ⟨by first | assumption | exact Classical.byContradiction (fun q9 => by contradiction), z9.1, z9.2.1, z9.2.2⟩))⟩) (by omega)
                          · -- 272 to 275
                            refine s_iconst dX12_seals_275 (by decide) ?_
                            refine s_goto (tgt := 336) dX12_seals_276 (by decide) ?_
                            refine r_iast dX12_seals_336 hMG9 (mg_a_solved hMG9) (by decide) (by omega) (by omega) (fun G50 eG50 hMG50 => ?_)
                            have hFG50 : Fr nX12_seals jX12_seals G G50 := Fr.setA hFG9 eG50 (by decide)
                            show WP kX12_seals X 337 [some (2, ((1000 : Nat) : Int)), some (0, n), some (0, a), some (0, b), some (0, s), some (0, m1), some (0, k9), none] [] G50
                            refine s_iinc dX12_seals_337 (v := k9) rfl (by omega) (by decide) (lv' := [some (2, ((1000 : Nat) : Int)), some (0, n), some (0, a), some (0, b), some (0, s), some (0, m1), some (0, k9 + 1), none]) rfl ?_
                            refine s_goto (tgt := 252) dX12_seals_340 (by decide) ?_
                            have hE9p : FE G9 G9 Hs 0 0 := by have z0 := FE.rf (Hs := Hs) iE9.1 iE9.2.2.1; exact z0
                            have hf9p : Fr [] [] G9 G9 := Fr.rf
                            have hE9 : FE G9 G50 Hs 0 0 := by have z0 := FE.rf (Hs := Hs) iE9.1 iE9.2.2.1; have z1 : FE G9 G50 Hs 0 0 := (by first | exact z0.fr (Fr.setA Fr.rf eG50 (by decide) : Fr [a_solved] [] G9 G50) (by decide) (by decide) (by decide) | exact (z0.fr (Fr.setA Fr.rf eG50 (by decide) : Fr [a_solved] [] G9 G50) (by decide) (by decide) (by decide)).weak (by omega) (by omega)); exact z1
                            have hf9 := (Fr.setA (Fr.rf) eG50 (by decide) : Fr [a_solved] [] G9 G50)
                            exact ih9 (k9 + 1) G50 hMG50 hFG50 (⟨(by omega), (by exact iE9.trans hE9 (by omega) (by omega)), (by exact Fr.call ir9 hf9 (by decide) (by decide)), (by exact iS9.set iE9.1 FX.rf TX.rf iE9.1 (fun _ => rfl) ⟨by omega, by omega⟩ eG50 (Or.inr ⟨by assumption, rfl⟩))⟩) (by omega)
                    exact L9 _ 0 G7 hMG7 hFG7 (⟨(by omega), (by exact iE7.weak (by omega) (by omega)), (by exact ir7), (by intro j j0 j1; omega)⟩) (Nat.lt_succ_self _)
                  · -- 211 to 214
                    have hrv7 := hRVb k7 (by omega) (by omega)
                    have hve7 : (gS G7 a_sValue (10 * b + k7).toNat) = (gS G a_sValue (10 * b + k7).toNat) := ir7.atA (by decide) (by decide)
                    refine s_aload_n dX12_seals_214 rfl (Int.natCast_nonneg _) ?_
                    refine s_iload_n dX12_seals_215 rfl ?_
                    refine s_iload dX12_seals_216 rfl ?_
                    refine cv_X12_388 rfl gX12_isOf dX12_seals_218 hMG7 (by rw [hcf]; decide) (as := [(0, b), (0, k7)]) rfl (Nat.le_of_ble_eq_true rfl) ⟨b, k7, rfl, hMG7, (by first | assumption | omega), (by first | assumption | omega), ?_⟩
                    show WP kX12_seals X 221 [some (2, ((1000 : Nat) : Int)), some (0, n), some (0, a), some (0, b), some (0, s), some (0, m1), some (0, k7), none] [(0, (gS G7 a_sValue (10 * b + k7).toNat))] G7
                    refine s_iconst dX12_seals_221 (by decide) ?_
                    refine s_icmp_eq (tgt := 243) dX12_seals_222 (by decide) (fun c51 => ?_) (fun c51 => ?_)
                    · -- 222 to 243
                      refine s_iinc dX12_seals_243 (v := k7) rfl (by omega) (by decide) (lv' := [some (2, ((1000 : Nat) : Int)), some (0, n), some (0, a), some (0, b), some (0, s), some (0, m1), some (0, k7 + 1), none]) rfl ?_
                      refine s_goto (tgt := 207) dX12_seals_246 (by decide) ?_
                      have hE9 : FE G7 G7 Hs 0 0 := by have z0 := FE.rf (Hs := Hs) iE7.1 iE7.2.2.1; exact z0
                      have hf9 : Fr [] [] G7 G7 := Fr.rf
                      exact ih7 (k7 + 1) G7 hMG7 hFG7 (⟨(by omega), (by exact iE7.trans hE9 (by omega) (by omega)), (by exact iB7), (by exact Fr.call ir7 hf9 (by decide) (by decide)), (by intro j j0 j1 q; by_cases hj : j = k7; (subst hj; exfalso; omega); (exact iD7 j j0 (by omega) q))⟩) (by omega)
                    · -- 222 to 225
                      have hrw7 := hrv7.2 (by omega)
                      have hrx7 := (iE7.2.1.2 _ (by omega) hrv7.1.2).2.2.2
                      rw [← hve7] at hrx7 hrw7
                      have hry7 := hrw7.1
                      have hrt7 := iE7.2.1.1
                      refine s_aload_n dX12_seals_225 rfl (Int.natCast_nonneg _) ?_
                      refine s_iload_n dX12_seals_226 rfl ?_
                      refine s_iload_n dX12_seals_227 rfl ?_
                      refine s_iload dX12_seals_228 rfl ?_
                      refine cv_X12_421 rfl gX12_sealsValue dX12_seals_230 hMG7 (by rw [hcf]; decide) (as := [(0, a), (0, b), (0, k7)]) rfl (Nat.le_of_ble_eq_true rfl) ⟨a, b, k7, Hs, vv, fun _ => True, rfl, hMG7, (by exact iE7.1), (by exact iE7.2.2.1), (by exact hvv), (by omega), (by omega), (by omega), (by exact iB7), (by exact ⟨⟨by omega, by omega⟩, by omega⟩), (by omega), (by omega), fun r53 G52 hMG52 hpG52 => ?_⟩
                      obtain ⟨hfG52, hpG52⟩ := hpG52
                      have hFG52 : Fr nX12_seals jX12_seals G G52 := Fr.call hFG7 hfG52 (by decide) (by decide)
                      show WP kX12_seals X 233 [some (2, ((1000 : Nat) : Int)), some (0, n), some (0, a), some (0, b), some (0, s), some (0, m1), some (0, k7), none] [(0, r53)] G52
                      refine s_istore dX12_seals_233 (by decide) (lv' := [some (2, ((1000 : Nat) : Int)), some (0, n), some (0, a), some (0, b), some (0, s), some (0, m1), some (0, k7), some (0, r53)]) rfl ?_
                      refine s_iload dX12_seals_235 rfl ?_
                      refine s_if_eq (tgt := 243) dX12_seals_237 (by decide) (fun c54 => ?_) (fun c54 => ?_)
                      · -- 237 to 243
                        refine s_iinc dX12_seals_243 (v := k7) rfl (by omega) (by decide) (lv' := [some (2, ((1000 : Nat) : Int)), some (0, n), some (0, a), some (0, b), some (0, s), some (0, m1), some (0, k7 + 1), some (0, r53)]) rfl ?_
                        refine s_goto (tgt := 207) dX12_seals_246 (by decide) ?_
                        refine s_mask [true, true, true, true, true, true, true, false] (lv' := [some (2, ((1000 : Nat) : Int)), some (0, n), some (0, a), some (0, b), some (0, s), some (0, m1), some (0, k7 + 1), none]) rfl ?_
                        have hE9 : FE G7 G52 Hs 99 1 := by have z0 := FE.rf (Hs := Hs) iE7.1 iE7.2.2.1; have z1 : FE G7 G52 Hs 99 1 := (by first | exact z0.trans hpG52.1 (Int.le_refl _) (Int.le_refl _) | exact (z0.trans hpG52.1 (Int.le_refl _) (Int.le_refl _)).weak (by omega) (by omega)); exact z1
                        have hf9 := (Fr.call (Fr.rf) hfG52 (by decide) (by decide) : Fr [a_fKind, a_fA, a_fB, a_fSize, a_fNext, a_fHead, a_fMark, a_thingKind, a_thingA, a_thingB, a_thingC, a_thingNext, a_thingHead, a_stackOf, a_fMemo] [26, 42, 35, 36] G7 G52)
                        exact ih7 (k7 + 1) G52 hMG52 hFG52 (⟨(by omega), (by exact iE7.trans hE9 (by omega) (by omega)), (by exact hpG52.2.1), (by exact Fr.call ir7 hf9 (by decide) (by decide)), (by intro j j0 j1 q; by_cases hj : j = k7; (subst hj; have z9 := hpG52.2.2 (by omega); rw [ir7.atA (by decide) (by decide)] at z9; exact z9); (exact iD7 j j0 (by omega) q))⟩) (by omega)
                      · -- 237 to 240
                        refine s_iload dX12_seals_240 rfl ?_
                        have hE8 : FE G7 G52 Hs 99 1 := by have z0 := FE.rf (Hs := Hs) iE7.1 iE7.2.2.1; have z1 : FE G7 G52 Hs 99 1 := (by first | exact z0.trans hpG52.1 (Int.le_refl _) (Int.le_refl _) | exact (z0.trans hpG52.1 (Int.le_refl _) (Int.le_refl _)).weak (by omega) (by omega)); exact z1
                        have hf8 := (Fr.call (Fr.rf) hfG52 (by decide) (by decide) : Fr [a_fKind, a_fA, a_fB, a_fSize, a_fNext, a_fHead, a_fMark, a_thingKind, a_thingA, a_thingB, a_thingC, a_thingNext, a_thingHead, a_stackOf, a_fMemo] [26, 42, 35, 36] G7 G52)
                        have hfr8 := Fr.call ir7 hf8 (by decide) (by decide)
                        exact s_iret hR dX12_seals_242 rfl (hQ _ G52 hMG52 (⟨hFG52, ⟨iE7.trans hE8 (by omega) (by omega), SlotFr.agr (hfr8.agr (by decide) (by decide) (by decide)), hRTs.fx (iE7.2.1.trans hE8.2.1) hFU (fun j _ _ => hfr8.atA (by decide) (by decide)) |>.mono (fun _ z => z.elim), hRVs.fx (iE7.2.1.trans hE8.2.1) hFU (fun j _ _ => hfr8.atA (by decide) (by decide)) |>.mono (fun _ z => z.elim), fun q => by omega⟩⟩))
              exact L7 _ 0 G5 hMG5 hFG5 (⟨(by omega), (by exact iE5.weak (by omega) (by omega)), (by exact iB5), (by exact ir5), (by intro j j0 j1; omega)⟩) (Nat.lt_succ_self _)
            · -- 101 to 104
              refine s_aload_n dX12_seals_104 rfl (Int.natCast_nonneg _) ?_
              refine s_iload_n dX12_seals_105 rfl ?_
              refine s_iload dX12_seals_106 rfl ?_
              refine cv_X12_413 rfl gX12_isType_ dX12_seals_108 hMG5 (by rw [hcf]; decide) (as := [(0, b), (0, k5)]) rfl (Nat.le_of_ble_eq_true rfl) ⟨b, k5, rfl, hMG5, (by first | assumption | omega), (by first | assumption | omega), ?_⟩
              show WP kX12_seals X 111 [some (2, ((1000 : Nat) : Int)), some (0, n), some (0, a), some (0, b), some (0, s), some (0, m1), some (0, k5), none] [(0, (gS G5 a_sType (6 * b + k5).toNat))] G5
              refine s_bipush dX12_seals_111 rfl (by decide) ?_
              refine s_icmp_eq (tgt := 135) dX12_seals_113 (by decide) (fun c55 => ?_) (fun c55 => ?_)
              · -- 113 to 135
                have hrb5 := hRb5 k5 (by omega) (by omega)
                have hpl5 : 0 ≤ (gS G5 a_sType (6 * b + k5).toNat) → pcost 0 ((gS G5 a_fSize ((gS G5 a_sType (6 * b + k5).toNat)).toNat)) ≤ 99 := fun q => by rw [pc_0]; have := (hrb5.2 q).1; omega
                refine s_aload_n dX12_seals_135 rfl (Int.natCast_nonneg _) ?_
                refine s_iload_n dX12_seals_136 rfl ?_
                refine s_iload dX12_seals_137 rfl ?_
                refine cv_X12_413 rfl gX12_isType_ dX12_seals_139 hMG5 (by rw [hcf]; decide) (as := [(0, b), (0, k5)]) rfl (Nat.le_of_ble_eq_true rfl) ⟨b, k5, rfl, hMG5, (by first | assumption | omega), (by first | assumption | omega), ?_⟩
                show WP kX12_seals X 142 [some (2, ((1000 : Nat) : Int)), some (0, n), some (0, a), some (0, b), some (0, s), some (0, m1), some (0, k5), none] [(0, (gS G5 a_sType (6 * b + k5).toNat))] G5
                refine s_if_lt (tgt := 198) dX12_seals_142 (by decide) (fun c56 => ?_) (fun c56 => ?_)
                · -- 142 to 198
                  refine s_iinc dX12_seals_198 (v := k5) rfl (by omega) (by decide) (lv' := [some (2, ((1000 : Nat) : Int)), some (0, n), some (0, a), some (0, b), some (0, s), some (0, m1), some (0, k5 + 1), none]) rfl ?_
                  refine s_goto (tgt := 97) dX12_seals_201 (by decide) ?_
                  have hE9 : FE G5 G5 Hs 0 0 := by have z0 := FE.rf (Hs := Hs) iE5.1 iE5.2.2.1; exact z0
                  have hf9 : Fr [] [] G5 G5 := Fr.rf
                  exact ih5 (k5 + 1) G5 hMG5 hFG5 (⟨(by omega), (by exact iE5.trans hE9 (by omega) (by omega)), (by exact iB5.fx hE9.2.1 iE5.1 (fun j => hf9.atA (by decide) (by decide))), (by exact Fr.call ir5 hf9 (by decide) (by decide))⟩) (by omega)
                · -- 142 to 145
                  have hrc5 := hrb5.2 (by omega)
                  have hrz5 := hrc5.1
                  have hpl5 := hpl5 (by omega)
                  refine s_aload_n dX12_seals_145 rfl (Int.natCast_nonneg _) ?_
                  refine s_iconst dX12_seals_146 (by decide) ?_
                  refine s_aload_n dX12_seals_147 rfl (Int.natCast_nonneg _) ?_
                  refine s_iload_n dX12_seals_148 rfl ?_
                  refine s_iload dX12_seals_149 rfl ?_
                  refine cv_X12_413 rfl gX12_isType_ dX12_seals_151 hMG5 (by rw [hcf]; decide) (as := [(0, b), (0, k5)]) rfl (Nat.le_of_ble_eq_true rfl) ⟨b, k5, rfl, hMG5, (by first | assumption | omega), (by first | assumption | omega), ?_⟩
                  show WP kX12_seals X 154 [some (2, ((1000 : Nat) : Int)), some (0, n), some (0, a), some (0, b), some (0, s), some (0, m1), some (0, k5), none] [(0, (gS G5 a_sType (6 * b + k5).toNat)), (0, 0), (2, ((1000 : Nat) : Int))] G5
                  refine cv_X12_378 rfl gX12_puts dX12_seals_154 hMG5 (by rw [hcf]; decide) (as := [(0, 0), (0, (gS G5 a_sType (6 * b + k5).toNat))]) rfl (Nat.le_of_ble_eq_true rfl) ⟨0, (gS G5 a_sType (6 * b + k5).toNat), Hs, vv, fun _ => True, rfl, hMG5, (by exact iE5.1), (by exact iE5.2.2.1), (by exact hvv), (by omega), (by omega), (by omega), (by omega), (by omega), (by exact fun _ q q0 q1 => (iB5 q q0 q1).1), (by intro q; omega), (by intro q; omega), fun r58 G57 hMG57 hpG57 => ?_⟩
                  obtain ⟨hfG57, hpG57⟩ := hpG57
                  have hFG57 : Fr nX12_seals jX12_seals G G57 := Fr.call hFG5 hfG57 (by decide) (by decide)
                  show WP kX12_seals X 157 [some (2, ((1000 : Nat) : Int)), some (0, n), some (0, a), some (0, b), some (0, s), some (0, m1), some (0, k5), none] [(0, r58)] G57
                  have hr9 := hpG57.2.2.2.2.1
                  have hf9x := hpG57.1.f
                  refine s_istore dX12_seals_157 (by decide) (lv' := [some (2, ((1000 : Nat) : Int)), some (0, n), some (0, a), some (0, b), some (0, s), some (0, m1), some (0, k5), some (0, r58)]) rfl ?_
                  refine s_aload_n dX12_seals_159 rfl (Int.natCast_nonneg _) ?_
                  refine gf_fSize rfl dX12_seals_160 hMG57 ?_
                  refine s_iload dX12_seals_163 rfl ?_
                  refine s_iald dX12_seals_165 (mg_a_fSize hMG57) (by omega) (by omega) rfl ?_
                  refine s_sipush dX12_seals_166 rfl (by decide) ?_
                  refine s_icmp_le (tgt := 179) dX12_seals_169 (by decide) (fun c59 => ?_) (fun c59 => ?_)
                  · -- 169 to 179
                    refine s_iload dX12_seals_179 rfl ?_
                    refine s_aload_n dX12_seals_181 rfl (Int.natCast_nonneg _) ?_
                    refine s_iload_n dX12_seals_182 rfl ?_
                    refine s_iload dX12_seals_183 rfl ?_
                    refine cv_X12_413 rfl gX12_isType_ dX12_seals_185 hMG57 (by rw [hcf]; decide) (as := [(0, a), (0, k5)]) rfl (Nat.le_of_ble_eq_true rfl) ⟨a, k5, rfl, hMG57, (by first | assumption | omega), (by first | assumption | omega), ?_⟩
                    show WP kX12_seals X 188 [some (2, ((1000 : Nat) : Int)), some (0, n), some (0, a), some (0, b), some (0, s), some (0, m1), some (0, k5), some (0, r58)] [(0, (gS G57 a_sType (6 * a + k5).toNat)), (0, r58)] G57
                    refine s_icmp_eq (tgt := 198) dX12_seals_188 (by decide) (fun c60 => ?_) (fun c60 => ?_)
                    · -- 188 to 198
                      refine s_iinc dX12_seals_198 (v := k5) rfl (by omega) (by decide) (lv' := [some (2, ((1000 : Nat) : Int)), some (0, n), some (0, a), some (0, b), some (0, s), some (0, m1), some (0, k5 + 1), some (0, r58)]) rfl ?_
                      refine s_goto (tgt := 97) dX12_seals_201 (by decide) ?_
                      refine s_mask [true, true, true, true, true, true, true, false] (lv' := [some (2, ((1000 : Nat) : Int)), some (0, n), some (0, a), some (0, b), some (0, s), some (0, m1), some (0, k5 + 1), none]) rfl ?_
                      have hE9 : FE G5 G57 Hs 99 1 := by have z0 := FE.rf (Hs := Hs) iE5.1 iE5.2.2.1; have z1 : FE G5 G57 Hs 99 1 := (by first | exact z0.trans (FE.puts hpG57 hpl5) (Int.le_refl _) (Int.le_refl _) | exact (z0.trans (FE.puts hpG57 hpl5) (Int.le_refl _) (Int.le_refl _)).weak (by omega) (by omega)); exact z1
                      have hf9 := (Fr.call (Fr.rf) hfG57 (by decide) (by decide) : Fr [a_fKind, a_fA, a_fB, a_fSize, a_fNext, a_fHead, a_fMark, a_thingKind, a_thingA, a_thingB, a_thingC, a_thingNext, a_thingHead, a_stackOf, a_fMemo] [26, 42, 35, 36] G5 G57)
                      exact ih5 (k5 + 1) G57 hMG57 hFG57 (⟨(by omega), (by exact iE5.trans hE9 (by omega) (by omega)), (by exact iB5.fx hE9.2.1 iE5.1 (fun j => hf9.atA (by decide) (by decide))), (by exact Fr.call ir5 hf9 (by decide) (by decide))⟩) (by omega)
                    · -- 188 to 191
                      refine s_sipush dX12_seals_191 rfl (by decide) ?_
                      refine s_iload dX12_seals_194 rfl ?_
                      refine s_iadd dX12_seals_196 (by omega) ?_
                      have hE8 : FE G5 G57 Hs 99 1 := by have z0 := FE.rf (Hs := Hs) iE5.1 iE5.2.2.1; have z1 : FE G5 G57 Hs 99 1 := (by first | exact z0.trans (FE.puts hpG57 hpl5) (Int.le_refl _) (Int.le_refl _) | exact (z0.trans (FE.puts hpG57 hpl5) (Int.le_refl _) (Int.le_refl _)).weak (by omega) (by omega)); exact z1
                      have hf8 := (Fr.call (Fr.rf) hfG57 (by decide) (by decide) : Fr [a_fKind, a_fA, a_fB, a_fSize, a_fNext, a_fHead, a_fMark, a_thingKind, a_thingA, a_thingB, a_thingC, a_thingNext, a_thingHead, a_stackOf, a_fMemo] [26, 42, 35, 36] G5 G57)
                      have hfr8 := Fr.call ir5 hf8 (by decide) (by decide)
                      exact s_iret hR dX12_seals_197 rfl (hQ _ G57 hMG57 (⟨hFG57, ⟨iE5.trans hE8 (by omega) (by omega), SlotFr.agr (hfr8.agr (by decide) (by decide) (by decide)), hRTs.fx (iE5.2.1.trans hE8.2.1) hFU (fun j _ _ => hfr8.atA (by decide) (by decide)) |>.mono (fun _ z => z.elim), hRVs.fx (iE5.2.1.trans hE8.2.1) hFU (fun j _ _ => hfr8.atA (by decide) (by decide)) |>.mono (fun _ z => z.elim), fun q => by omega⟩⟩))
                  · -- 169 to 172
                    refine s_sipush dX12_seals_172 rfl (by decide) ?_
                    refine s_iload dX12_seals_175 rfl ?_
                    refine s_iadd dX12_seals_177 (by omega) ?_
                    have hE8 : FE G5 G57 Hs 99 1 := by have z0 := FE.rf (Hs := Hs) iE5.1 iE5.2.2.1; have z1 : FE G5 G57 Hs 99 1 := (by first | exact z0.trans (FE.puts hpG57 hpl5) (Int.le_refl _) (Int.le_refl _) | exact (z0.trans (FE.puts hpG57 hpl5) (Int.le_refl _) (Int.le_refl _)).weak (by omega) (by omega)); exact z1
                    have hf8 := (Fr.call (Fr.rf) hfG57 (by decide) (by decide) : Fr [a_fKind, a_fA, a_fB, a_fSize, a_fNext, a_fHead, a_fMark, a_thingKind, a_thingA, a_thingB, a_thingC, a_thingNext, a_thingHead, a_stackOf, a_fMemo] [26, 42, 35, 36] G5 G57)
                    have hfr8 := Fr.call ir5 hf8 (by decide) (by decide)
                    exact s_iret hR dX12_seals_178 rfl (hQ _ G57 hMG57 (⟨hFG57, ⟨iE5.trans hE8 (by omega) (by omega), SlotFr.agr (hfr8.agr (by decide) (by decide) (by decide)), hRTs.fx (iE5.2.1.trans hE8.2.1) hFU (fun j _ _ => hfr8.atA (by decide) (by decide)) |>.mono (fun _ z => z.elim), hRVs.fx (iE5.2.1.trans hE8.2.1) hFU (fun j _ _ => hfr8.atA (by decide) (by decide)) |>.mono (fun _ z => z.elim), fun q => by omega⟩⟩))
              · -- 113 to 116
                refine s_aload_n dX12_seals_116 rfl (Int.natCast_nonneg _) ?_
                refine s_iload_n dX12_seals_117 rfl ?_
                refine s_iload dX12_seals_118 rfl ?_
                refine cv_X12_413 rfl gX12_isType_ dX12_seals_120 hMG5 (by rw [hcf]; decide) (as := [(0, a), (0, k5)]) rfl (Nat.le_of_ble_eq_true rfl) ⟨a, k5, rfl, hMG5, (by first | assumption | omega), (by first | assumption | omega), ?_⟩
                show WP kX12_seals X 123 [some (2, ((1000 : Nat) : Int)), some (0, n), some (0, a), some (0, b), some (0, s), some (0, m1), some (0, k5), none] [(0, (gS G5 a_sType (6 * a + k5).toNat))] G5
                refine s_bipush dX12_seals_123 rfl (by decide) ?_
                refine s_icmp_ne (tgt := 135) dX12_seals_125 (by decide) (fun c61 => ?_) (fun c61 => ?_)
                · -- 125 to 135
                  have hrb5 := hRb5 k5 (by omega) (by omega)
                  have hpl5 : 0 ≤ (gS G5 a_sType (6 * b + k5).toNat) → pcost 0 ((gS G5 a_fSize ((gS G5 a_sType (6 * b + k5).toNat)).toNat)) ≤ 99 := fun q => by rw [pc_0]; have := (hrb5.2 q).1; omega
                  refine s_aload_n dX12_seals_135 rfl (Int.natCast_nonneg _) ?_
                  refine s_iload_n dX12_seals_136 rfl ?_
                  refine s_iload dX12_seals_137 rfl ?_
                  refine cv_X12_413 rfl gX12_isType_ dX12_seals_139 hMG5 (by rw [hcf]; decide) (as := [(0, b), (0, k5)]) rfl (Nat.le_of_ble_eq_true rfl) ⟨b, k5, rfl, hMG5, (by first | assumption | omega), (by first | assumption | omega), ?_⟩
                  show WP kX12_seals X 142 [some (2, ((1000 : Nat) : Int)), some (0, n), some (0, a), some (0, b), some (0, s), some (0, m1), some (0, k5), none] [(0, (gS G5 a_sType (6 * b + k5).toNat))] G5
                  refine s_if_lt (tgt := 198) dX12_seals_142 (by decide) (fun c62 => ?_) (fun c62 => ?_)
                  · -- 142 to 198
                    refine s_iinc dX12_seals_198 (v := k5) rfl (by omega) (by decide) (lv' := [some (2, ((1000 : Nat) : Int)), some (0, n), some (0, a), some (0, b), some (0, s), some (0, m1), some (0, k5 + 1), none]) rfl ?_
                    refine s_goto (tgt := 97) dX12_seals_201 (by decide) ?_
                    have hE9 : FE G5 G5 Hs 0 0 := by have z0 := FE.rf (Hs := Hs) iE5.1 iE5.2.2.1; exact z0
                    have hf9 : Fr [] [] G5 G5 := Fr.rf
                    exact ih5 (k5 + 1) G5 hMG5 hFG5 (⟨(by omega), (by exact iE5.trans hE9 (by omega) (by omega)), (by exact iB5.fx hE9.2.1 iE5.1 (fun j => hf9.atA (by decide) (by decide))), (by exact Fr.call ir5 hf9 (by decide) (by decide))⟩) (by omega)
                  · -- 142 to 145
                    have hrc5 := hrb5.2 (by omega)
                    have hrz5 := hrc5.1
                    have hpl5 := hpl5 (by omega)
                    refine s_aload_n dX12_seals_145 rfl (Int.natCast_nonneg _) ?_
                    refine s_iconst dX12_seals_146 (by decide) ?_
                    refine s_aload_n dX12_seals_147 rfl (Int.natCast_nonneg _) ?_
                    refine s_iload_n dX12_seals_148 rfl ?_
                    refine s_iload dX12_seals_149 rfl ?_
                    refine cv_X12_413 rfl gX12_isType_ dX12_seals_151 hMG5 (by rw [hcf]; decide) (as := [(0, b), (0, k5)]) rfl (Nat.le_of_ble_eq_true rfl) ⟨b, k5, rfl, hMG5, (by first | assumption | omega), (by first | assumption | omega), ?_⟩
                    show WP kX12_seals X 154 [some (2, ((1000 : Nat) : Int)), some (0, n), some (0, a), some (0, b), some (0, s), some (0, m1), some (0, k5), none] [(0, (gS G5 a_sType (6 * b + k5).toNat)), (0, 0), (2, ((1000 : Nat) : Int))] G5
                    refine cv_X12_378 rfl gX12_puts dX12_seals_154 hMG5 (by rw [hcf]; decide) (as := [(0, 0), (0, (gS G5 a_sType (6 * b + k5).toNat))]) rfl (Nat.le_of_ble_eq_true rfl) ⟨0, (gS G5 a_sType (6 * b + k5).toNat), Hs, vv, fun _ => True, rfl, hMG5, (by exact iE5.1), (by exact iE5.2.2.1), (by exact hvv), (by omega), (by omega), (by omega), (by omega), (by omega), (by exact fun _ q q0 q1 => (iB5 q q0 q1).1), (by intro q; omega), (by intro q; omega), fun r64 G63 hMG63 hpG63 => ?_⟩
                    obtain ⟨hfG63, hpG63⟩ := hpG63
                    have hFG63 : Fr nX12_seals jX12_seals G G63 := Fr.call hFG5 hfG63 (by decide) (by decide)
                    show WP kX12_seals X 157 [some (2, ((1000 : Nat) : Int)), some (0, n), some (0, a), some (0, b), some (0, s), some (0, m1), some (0, k5), none] [(0, r64)] G63
                    have hr9 := hpG63.2.2.2.2.1
                    have hf9x := hpG63.1.f
                    refine s_istore dX12_seals_157 (by decide) (lv' := [some (2, ((1000 : Nat) : Int)), some (0, n), some (0, a), some (0, b), some (0, s), some (0, m1), some (0, k5), some (0, r64)]) rfl ?_
                    refine s_aload_n dX12_seals_159 rfl (Int.natCast_nonneg _) ?_
                    refine gf_fSize rfl dX12_seals_160 hMG63 ?_
                    refine s_iload dX12_seals_163 rfl ?_
                    refine s_iald dX12_seals_165 (mg_a_fSize hMG63) (by omega) (by omega) rfl ?_
                    refine s_sipush dX12_seals_166 rfl (by decide) ?_
                    refine s_icmp_le (tgt := 179) dX12_seals_169 (by decide) (fun c65 => ?_) (fun c65 => ?_)
                    · -- 169 to 179
                      refine s_iload dX12_seals_179 rfl ?_
                      refine s_aload_n dX12_seals_181 rfl (Int.natCast_nonneg _) ?_
                      refine s_iload_n dX12_seals_182 rfl ?_
                      refine s_iload dX12_seals_183 rfl ?_
                      refine cv_X12_413 rfl gX12_isType_ dX12_seals_185 hMG63 (by rw [hcf]; decide) (as := [(0, a), (0, k5)]) rfl (Nat.le_of_ble_eq_true rfl) ⟨a, k5, rfl, hMG63, (by first | assumption | omega), (by first | assumption | omega), ?_⟩
                      show WP kX12_seals X 188 [some (2, ((1000 : Nat) : Int)), some (0, n), some (0, a), some (0, b), some (0, s), some (0, m1), some (0, k5), some (0, r64)] [(0, (gS G63 a_sType (6 * a + k5).toNat)), (0, r64)] G63
                      refine s_icmp_eq (tgt := 198) dX12_seals_188 (by decide) (fun c66 => ?_) (fun c66 => ?_)
                      · -- 188 to 198
                        refine s_iinc dX12_seals_198 (v := k5) rfl (by omega) (by decide) (lv' := [some (2, ((1000 : Nat) : Int)), some (0, n), some (0, a), some (0, b), some (0, s), some (0, m1), some (0, k5 + 1), some (0, r64)]) rfl ?_
                        refine s_goto (tgt := 97) dX12_seals_201 (by decide) ?_
                        refine s_mask [true, true, true, true, true, true, true, false] (lv' := [some (2, ((1000 : Nat) : Int)), some (0, n), some (0, a), some (0, b), some (0, s), some (0, m1), some (0, k5 + 1), none]) rfl ?_
                        have hE9 : FE G5 G63 Hs 99 1 := by have z0 := FE.rf (Hs := Hs) iE5.1 iE5.2.2.1; have z1 : FE G5 G63 Hs 99 1 := (by first | exact z0.trans (FE.puts hpG63 hpl5) (Int.le_refl _) (Int.le_refl _) | exact (z0.trans (FE.puts hpG63 hpl5) (Int.le_refl _) (Int.le_refl _)).weak (by omega) (by omega)); exact z1
                        have hf9 := (Fr.call (Fr.rf) hfG63 (by decide) (by decide) : Fr [a_fKind, a_fA, a_fB, a_fSize, a_fNext, a_fHead, a_fMark, a_thingKind, a_thingA, a_thingB, a_thingC, a_thingNext, a_thingHead, a_stackOf, a_fMemo] [26, 42, 35, 36] G5 G63)
                        exact ih5 (k5 + 1) G63 hMG63 hFG63 (⟨(by omega), (by exact iE5.trans hE9 (by omega) (by omega)), (by exact iB5.fx hE9.2.1 iE5.1 (fun j => hf9.atA (by decide) (by decide))), (by exact Fr.call ir5 hf9 (by decide) (by decide))⟩) (by omega)
                      · -- 188 to 191
                        refine s_sipush dX12_seals_191 rfl (by decide) ?_
                        refine s_iload dX12_seals_194 rfl ?_
                        refine s_iadd dX12_seals_196 (by omega) ?_
                        have hE8 : FE G5 G63 Hs 99 1 := by have z0 := FE.rf (Hs := Hs) iE5.1 iE5.2.2.1; have z1 : FE G5 G63 Hs 99 1 := (by first | exact z0.trans (FE.puts hpG63 hpl5) (Int.le_refl _) (Int.le_refl _) | exact (z0.trans (FE.puts hpG63 hpl5) (Int.le_refl _) (Int.le_refl _)).weak (by omega) (by omega)); exact z1
                        have hf8 := (Fr.call (Fr.rf) hfG63 (by decide) (by decide) : Fr [a_fKind, a_fA, a_fB, a_fSize, a_fNext, a_fHead, a_fMark, a_thingKind, a_thingA, a_thingB, a_thingC, a_thingNext, a_thingHead, a_stackOf, a_fMemo] [26, 42, 35, 36] G5 G63)
                        have hfr8 := Fr.call ir5 hf8 (by decide) (by decide)
                        exact s_iret hR dX12_seals_197 rfl (hQ _ G63 hMG63 (⟨hFG63, ⟨iE5.trans hE8 (by omega) (by omega), SlotFr.agr (hfr8.agr (by decide) (by decide) (by decide)), hRTs.fx (iE5.2.1.trans hE8.2.1) hFU (fun j _ _ => hfr8.atA (by decide) (by decide)) |>.mono (fun _ z => z.elim), hRVs.fx (iE5.2.1.trans hE8.2.1) hFU (fun j _ _ => hfr8.atA (by decide) (by decide)) |>.mono (fun _ z => z.elim), fun q => by omega⟩⟩))
                    · -- 169 to 172
                      refine s_sipush dX12_seals_172 rfl (by decide) ?_
                      refine s_iload dX12_seals_175 rfl ?_
                      refine s_iadd dX12_seals_177 (by omega) ?_
                      have hE8 : FE G5 G63 Hs 99 1 := by have z0 := FE.rf (Hs := Hs) iE5.1 iE5.2.2.1; have z1 : FE G5 G63 Hs 99 1 := (by first | exact z0.trans (FE.puts hpG63 hpl5) (Int.le_refl _) (Int.le_refl _) | exact (z0.trans (FE.puts hpG63 hpl5) (Int.le_refl _) (Int.le_refl _)).weak (by omega) (by omega)); exact z1
                      have hf8 := (Fr.call (Fr.rf) hfG63 (by decide) (by decide) : Fr [a_fKind, a_fA, a_fB, a_fSize, a_fNext, a_fHead, a_fMark, a_thingKind, a_thingA, a_thingB, a_thingC, a_thingNext, a_thingHead, a_stackOf, a_fMemo] [26, 42, 35, 36] G5 G63)
                      have hfr8 := Fr.call ir5 hf8 (by decide) (by decide)
                      exact s_iret hR dX12_seals_178 rfl (hQ _ G63 hMG63 (⟨hFG63, ⟨iE5.trans hE8 (by omega) (by omega), SlotFr.agr (hfr8.agr (by decide) (by decide) (by decide)), hRTs.fx (iE5.2.1.trans hE8.2.1) hFU (fun j _ _ => hfr8.atA (by decide) (by decide)) |>.mono (fun _ z => z.elim), hRVs.fx (iE5.2.1.trans hE8.2.1) hFU (fun j _ _ => hfr8.atA (by decide) (by decide)) |>.mono (fun _ z => z.elim), fun q => by omega⟩⟩))
                · -- 125 to 128
                  refine s_sipush dX12_seals_128 rfl (by decide) ?_
                  refine s_iload dX12_seals_131 rfl ?_
                  refine s_iadd dX12_seals_133 (by omega) ?_
                  have hE8 : FE G5 G5 Hs 0 0 := by have z0 := FE.rf (Hs := Hs) iE5.1 iE5.2.2.1; exact z0
                  have hf8 : Fr [] [] G5 G5 := Fr.rf
                  have hfr8 := Fr.call ir5 hf8 (by decide) (by decide)
                  exact s_iret hR dX12_seals_134 rfl (hQ _ G5 hMG5 (⟨hFG5, ⟨iE5.trans hE8 (by omega) (by omega), SlotFr.agr (hfr8.agr (by decide) (by decide) (by decide)), hRTs.fx (iE5.2.1.trans hE8.2.1) hFU (fun j _ _ => hfr8.atA (by decide) (by decide)) |>.mono (fun _ z => z.elim), hRVs.fx (iE5.2.1.trans hE8.2.1) hFU (fun j _ _ => hfr8.atA (by decide) (by decide)) |>.mono (fun _ z => z.elim), fun q => by omega⟩⟩))
        exact L5 _ 0 G3 hMG3 hFG3 (⟨(by omega), (by exact hEb.weak (by omega) (by omega)), (by exact hBb), (by exact hfab)⟩) (Nat.lt_succ_self _)
      · -- 10 to 13
        refine s_aload_n dX12_seals_13 rfl (Int.natCast_nonneg _) ?_
        refine s_iload_n dX12_seals_14 rfl ?_
        refine s_iload dX12_seals_15 rfl ?_
        refine cv_X12_413 rfl gX12_isType_ dX12_seals_17 hMG1 (by rw [hcf]; decide) (as := [(0, b), (0, k1)]) rfl (Nat.le_of_ble_eq_true rfl) ⟨b, k1, rfl, hMG1, (by first | assumption | omega), (by first | assumption | omega), ?_⟩
        show WP kX12_seals X 20 [some (2, ((1000 : Nat) : Int)), some (0, n), some (0, a), some (0, b), some (0, s), some (0, m1), some (0, k1), none] [(0, (gS G1 a_sType (6 * b + k1).toNat))] G1
        refine s_iconst dX12_seals_20 (by decide) ?_
        have J68 : ∀ z67 : Int, ((¬ ((gS G1 a_sType (6 * b + k1).toNat)) = ((-1))) ∧ z67 = 0) ∨ ((((gS G1 a_sType (6 * b + k1).toNat)) = ((-1))) ∧ (((gS G1 a_sType (6 * a + k1).toNat)) < 0) ∧ z67 = 0) ∨ ((((gS G1 a_sType (6 * b + k1).toNat)) = ((-1))) ∧ (¬ ((gS G1 a_sType (6 * a + k1).toNat)) < 0) ∧ z67 = 1) → WP kX12_seals X 39 [some (2, ((1000 : Nat) : Int)), some (0, n), some (0, a), some (0, b), some (0, s), some (0, m1), some (0, k1), none] [(0, z67)] G1 := by
          intro z67 hz67
          refine s_istore dX12_seals_39 (by decide) (lv' := [some (2, ((1000 : Nat) : Int)), some (0, n), some (0, a), some (0, b), some (0, s), some (0, m1), some (0, k1), some (0, z67)]) rfl ?_
          refine s_iload dX12_seals_41 rfl ?_
          refine s_iload dX12_seals_43 rfl ?_
          have J70 : ∀ z69 : Int, ((z67 = 0) ∧ z69 = 0) ∨ ((¬ z67 = 0) ∧ z69 = i_shl 1 k1) → WP kX12_seals X 56 [some (2, ((1000 : Nat) : Int)), some (0, n), some (0, a), some (0, b), some (0, s), some (0, m1), some (0, k1), some (0, z67)] [(0, z69), (0, m1)] G1 := by
            intro z69 hz69
            refine s_ior dX12_seals_56 ?_
            refine s_istore dX12_seals_57 (by decide) (lv' := [some (2, ((1000 : Nat) : Int)), some (0, n), some (0, a), some (0, b), some (0, s), some (0, i_or m1 z69), some (0, k1), some (0, z67)]) rfl ?_
            refine s_aload_n dX12_seals_59 rfl (Int.natCast_nonneg _) ?_
            refine gf_solved rfl dX12_seals_60 hMG1 ?_
            refine s_iload dX12_seals_63 rfl ?_
            refine s_iload dX12_seals_65 rfl ?_
            have J72 : ∀ z71 : Int, ((z67 = 0) ∧ z71 = (-1)) ∨ ((¬ z67 = 0) ∧ z71 = (gS G1 a_sType (6 * a + k1).toNat)) → WP kX12_seals X 81 [some (2, ((1000 : Nat) : Int)), some (0, n), some (0, a), some (0, b), some (0, s), some (0, i_or m1 z69), some (0, k1), some (0, z67)] [(0, z71), (0, k1), (2, ((a_solved : Nat) : Int))] G1 := by
              intro z71 hz71
              refine r_iast dX12_seals_81 hMG1 (mg_a_solved hMG1) (by decide) (by omega) (by omega) (fun G73 eG73 hMG73 => ?_)
              have hFG73 : Fr nX12_seals jX12_seals G G73 := Fr.setA hFG1 eG73 (by decide)
              show WP kX12_seals X 82 [some (2, ((1000 : Nat) : Int)), some (0, n), some (0, a), some (0, b), some (0, s), some (0, i_or m1 z69), some (0, k1), some (0, z67)] [] G73
              refine s_iinc dX12_seals_82 (v := k1) rfl (by omega) (by decide) (lv' := [some (2, ((1000 : Nat) : Int)), some (0, n), some (0, a), some (0, b), some (0, s), some (0, i_or m1 z69), some (0, k1 + 1), some (0, z67)]) rfl ?_
              refine s_goto (tgt := 6) dX12_seals_85 (by decide) ?_
              refine s_mask [true, true, true, true, true, true, true, false] (lv' := [some (2, ((1000 : Nat) : Int)), some (0, n), some (0, a), some (0, b), some (0, s), some (0, i_or m1 z69), some (0, k1 + 1), none]) rfl ?_
              exact ih1 (i_or m1 z69) (k1 + 1) G73 hMG73 hFG73 (⟨(by omega), (by have hz9 : (z67 = 0 ∧ ¬ gvn G a b k1) ∨ (z67 = 1 ∧ gvn G a b k1) := (by unfold gvn; rw [← hsa1, ← hsb1]; omega); exact bset ia1 (by omega) (by rcases hz69 with ⟨q1, q2⟩ | ⟨q1, q2⟩ <;> rcases hz9 with ⟨q3, q4⟩ | ⟨q3, q4⟩; (exact Or.inl ⟨q4, by omega⟩); (exfalso; omega); (exfalso; omega); (exact Or.inr ⟨q4, by omega⟩))), (by have hz9 : (z67 = 0 ∧ ¬ gvn G a b k1) ∨ (z67 = 1 ∧ gvn G a b k1) := (by unfold gvn; rw [← hsa1, ← hsb1]; omega); intro j j0 j1; by_cases hj : j = k1; (subst hj; rw [g_at (g_upd eG73)]; rcases hz9 with ⟨q3, q4⟩ | ⟨q3, q4⟩; (rw [if_neg q4]; omega); (rw [if_pos q4, ← hsa1]; omega)); (rw [g_ne (g_upd eG73) (by omega)]; exact iz1 j j0 (by omega))), (by exact Fr.setA ir1 eG73 (by decide))⟩) (by omega)
            refine s_if_eq (tgt := 80) dX12_seals_67 (by decide) (fun c74 => ?_) (fun c74 => ?_)
            · -- 67 to 80
              refine s_iconst dX12_seals_80 (by decide) ?_
              exact J72 ((-1)) (Or.inl ⟨c74, rfl⟩)
            · -- 67 to 70
              refine s_aload_n dX12_seals_70 rfl (Int.natCast_nonneg _) ?_
              refine s_iload_n dX12_seals_71 rfl ?_
              refine s_iload dX12_seals_72 rfl ?_
              refine cv_X12_413 rfl gX12_isType_ dX12_seals_74 hMG1 (by rw [hcf]; decide) (as := [(0, a), (0, k1)]) rfl (Nat.le_of_ble_eq_true rfl) ⟨a, k1, rfl, hMG1, (by first | assumption | omega), (by first | assumption | omega), ?_⟩
              show WP kX12_seals X 77 [some (2, ((1000 : Nat) : Int)), some (0, n), some (0, a), some (0, b), some (0, s), some (0, i_or m1 z69), some (0, k1), some (0, z67)] [(0, (gS G1 a_sType (6 * a + k1).toNat)), (0, k1), (2, ((a_solved : Nat) : Int))] G1
              refine s_goto (tgt := 81) dX12_seals_77 (by decide) ?_
              exact J72 _ (Or.inr (⟨c74, rfl⟩))
          refine s_if_eq (tgt := 55) dX12_seals_45 (by decide) (fun c75 => ?_) (fun c75 => ?_)
          · -- 45 to 55
            refine s_iconst dX12_seals_55 (by decide) ?_
            exact J70 0 (Or.inl ⟨c75, rfl⟩)
          · -- 45 to 48
            refine s_iconst dX12_seals_48 (by decide) ?_
            refine s_iload dX12_seals_49 rfl ?_
            refine s_ishl dX12_seals_51 ?_
            refine s_goto (tgt := 56) dX12_seals_52 (by decide) ?_
            exact J70 _ (Or.inr (⟨c75, rfl⟩))
        refine s_icmp_ne (tgt := 38) dX12_seals_21 (by decide) (fun c76 => ?_) (fun c76 => ?_)
        · -- 21 to 38
          refine s_iconst dX12_seals_38 (by decide) ?_
          exact J68 0 (Or.inl ⟨c76, rfl⟩)
        · -- 21 to 24
          refine s_aload_n dX12_seals_24 rfl (Int.natCast_nonneg _) ?_
          refine s_iload_n dX12_seals_25 rfl ?_
          refine s_iload dX12_seals_26 rfl ?_
          refine cv_X12_413 rfl gX12_isType_ dX12_seals_28 hMG1 (by rw [hcf]; decide) (as := [(0, a), (0, k1)]) rfl (Nat.le_of_ble_eq_true rfl) ⟨a, k1, rfl, hMG1, (by first | assumption | omega), (by first | assumption | omega), ?_⟩
          show WP kX12_seals X 31 [some (2, ((1000 : Nat) : Int)), some (0, n), some (0, a), some (0, b), some (0, s), some (0, m1), some (0, k1), none] [(0, (gS G1 a_sType (6 * a + k1).toNat))] G1
          refine s_if_lt (tgt := 38) dX12_seals_31 (by decide) (fun c77 => ?_) (fun c77 => ?_)
          · -- 31 to 38
            refine s_iconst dX12_seals_38 (by decide) ?_
            exact J68 0 (Or.inr (Or.inl ⟨c76, c77, rfl⟩))
          · -- 31 to 34
            refine s_iconst dX12_seals_34 (by decide) ?_
            refine s_goto (tgt := 39) dX12_seals_35 (by decide) ?_
            exact J68 1 (Or.inr (Or.inr (⟨c76, c77, rfl⟩)))
  exact L1 _ 0 0 G hM Fr.rf (⟨(by omega), (by intro j j0 j1; exact ⟨fun q => absurd q (bitI_0 j0 j1), fun q => by omega⟩), (by intro j j0 j1; omega), (by exact Fr.rf)⟩) (Nat.lt_succ_self _)
