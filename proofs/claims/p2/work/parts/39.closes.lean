abbrev nX12_closes : List Nat := [a_uses, a_reaches, a_solved, a_by, a_fKind, a_fA, a_fB, a_fSize, a_fNext, a_fHead, a_fMark, a_thingKind, a_thingA, a_thingB, a_thingC, a_thingNext, a_thingHead, a_stackOf, a_fMemo]
abbrev jX12_closes : List Nat := [26, 42, 35, 36]
def TX12_closes : TR := fun as G Qr => ∃ (s : Int) (Hs : List (Int → Int)) (v : Int → Int) (c : Int), as = [(2, ((1000 : Nat) : Int)), (0, s)] ∧ MG G ∧ (FU G) ∧ (TH G Hs) ∧ (v ∈ Hs) ∧ (∀ k : Int, 6 ≤ k → k < 32 → ¬ bitI s k) ∧ (∀ k : Int, 0 ≤ k → k < 6 → bitI s k → (0 ≤ (gS G a_equation (k).toNat) ∧ (gS G a_equation (k).toNat) < (gS G 1000 26)) ∧ (gS G a_fSize ((gS G a_equation (k).toNat)).toNat) ≤ 200) ∧ (c = 5 ∨ c = 99) ∧ (c = 5 → ∀ k : Int, 0 ≤ k → k < 6 → bitI s k → (gS G a_fSize ((gS G a_equation (k).toNat)).toNat) ≤ 12) ∧ ((gS G 1000 26) + 6 * c < 150000) ∧ ((gS G 1000 35) ≤ 1900000000) ∧ ∀ (r : Int) (G' : LG), MG G' → (Fr nX12_closes jX12_closes G G' ∧ (FU G' ∧ FX G G' ∧ TH G' Hs ∧ TX G G' ∧ (gS G' 1000 26) ≤ (gS G 1000 26) + 6 * c ∧ ((gS G 1000 35) ≤ (gS G' 1000 35) ∧ (gS G' 1000 35) ≤ (gS G 1000 35) + 48) ∧ (r = 0 → ∀ j : Int, 0 ≤ j → j < 6 → (bitI s j → ((gS G' a_by (j).toNat) = (gS G' a_solved (j).toNat) ∧ 0 ≤ (gS G' a_solved (j).toNat) ∧ (gS G' a_solved (j).toNat) < (gS G' 1000 26) ∧ (gS G' a_fSize ((gS G' a_solved (j).toNat)).toNat) ≤ 200) ∧ ∀ P0 : Int → Prop, (∀ k : Int, 0 ≤ k → k < 6 → bitI s k → okS G P0 ((gS G a_equation (k).toNat))) → okS G' P0 ((gS G' a_solved (j).toNat))) ∧ (¬ bitI s j → (gS G' a_by (j).toNat) = -1)))) → Qr (.inl (some (0, r))) G'
set_option maxHeartbeats 4000000 in
set_option maxRecDepth 100000 in
theorem gX12_closes : Good kX12_closes yX12_closes 4 TX12_closes := by
  refine good_of (by decide) rfl rfl (fun as G Qr h => ?_) (fun X as G Qr hcf hR hT oa => ?_)
  · obtain ⟨s, Hs, v, c, rfl, -⟩ := h; exact Nat.le_of_ble_eq_true rfl
  obtain ⟨s, Hs, v, c, rfl, hM, hFU, hTH, hv, hs, hE, hc5, hz5, hc, hm, hQ⟩ := hT
  show WP kX12_closes X 0 [some (2, ((1000 : Nat) : Int)), some (0, s), none, none, none] [] G
  have hr_s : inR s := okv_R (oa _ (by simp))
  have hmk0 := hFU.2.1
  have hf9 := hFU.f
  refine s_iconst dX12_closes_0 (by decide) ?_
  refine s_istore_n dX12_closes_1 (by decide) (lv' := [some (2, ((1000 : Nat) : Int)), some (0, s), some (0, 0), none, none]) rfl ?_
  have L1 : ∀ (n1 : Nat) (k1 : Int) (G1 : LG), MG G1 → Fr nX12_closes jX12_closes G G1 → ((0 ≤ k1 ∧ k1 ≤ 6) ∧ (FU G1) ∧ (FX G G1) ∧ (TH G1 Hs ∧ TX G G1) ∧ ((gS G 1000 35) ≤ (gS G1 1000 35) ∧ (gS G1 1000 35) ≤ (gS G 1000 35) + k1) ∧ ((gS G1 1000 26) = (gS G 1000 26)) ∧ (∀ j : Int, 0 ≤ j → j < k1 → (∀ i : Int, 0 ≤ i → i < 32 → bitI (gS G1 a_uses (j).toNat) i → bitI s i) ∧ (gS G1 a_reaches (j).toNat) = (gS G1 a_uses (j).toNat))) → (6 - k1).toNat < n1 → WP kX12_closes X 2 [some (2, ((1000 : Nat) : Int)), some (0, s), some (0, k1), none, none] [] G1 := by
    intro n1
    induction n1 with
    | zero => intro k1 G1 hMG1 hFG1 hi1 hm1; exact absurd hm1 (Nat.not_lt_zero _)
    | succ n1 ih1 =>
      intro k1 G1 hMG1 hFG1 hi1 hm1
      have hj1 := hi1
      obtain ⟨ik1, iF1, iX1, iT1, im1, if1, iu1⟩ := hi1
      refine s_iload_n dX12_closes_2 rfl ?_
      refine s_bipush dX12_closes_3 rfl (by decide) ?_
      refine s_icmp_ge (tgt := 56) dX12_closes_5 (by decide) (fun c2 => ?_) (fun c2 => ?_)
      · -- 5 to 56
        have hu6 : ∀ l : Int, 0 ≤ l → l < 6 → ∀ i : Int, 0 ≤ i → i < 32 → bitI ((fun j : Int => gS G1 a_uses (j).toNat) l) i → i < 6 := fun l l0 l1 i i0 i1 q => Classical.byContradiction fun z => hs i (by omega) i1 ((iu1 l l0 (by omega)).1 i i0 i1 q)
        refine s_iconst dX12_closes_56 (by decide) ?_
        refine s_istore_n dX12_closes_57 (by decide) (lv' := [some (2, ((1000 : Nat) : Int)), some (0, s), some (0, 0), none, none]) rfl ?_
        have L3 : ∀ (n3 : Nat) (r3 : Int) (G3 : LG), MG G3 → Fr nX12_closes jX12_closes G G3 → ((0 ≤ r3 ∧ r3 ≤ 6) ∧ (Fr [a_reaches] [] G1 G3) ∧ (∀ j : Int, 0 ≤ j → j < 6 → RJ (fun j : Int => gS G1 a_uses (j).toNat) (gS G3 a_reaches (j).toNat) j (r3))) → (6 - r3).toNat < n3 → WP kX12_closes X 58 [some (2, ((1000 : Nat) : Int)), some (0, s), some (0, r3), none, none] [] G3 := by
          intro n3
          induction n3 with
          | zero => intro r3 G3 hMG3 hFG3 hi3 hm3; exact absurd hm3 (Nat.not_lt_zero _)
          | succ n3 ih3 =>
            intro r3 G3 hMG3 hFG3 hi3 hm3
            have hj3 := hi3
            obtain ⟨ik3, ir3, ij3⟩ := hi3
            refine s_iload_n dX12_closes_58 rfl ?_
            refine s_bipush dX12_closes_59 rfl (by decide) ?_
            refine s_icmp_ge (tgt := 134) dX12_closes_61 (by decide) (fun c4 => ?_) (fun c4 => ?_)
            · -- 61 to 134
              refine s_iconst dX12_closes_134 (by decide) ?_
              refine s_istore_n dX12_closes_135 (by decide) (lv' := [some (2, ((1000 : Nat) : Int)), some (0, s), some (0, 0), none, none]) rfl ?_
              have L5 : ∀ (n5 : Nat) (k5 : Int), ((0 ≤ k5 ∧ k5 ≤ 6) ∧ (∀ j : Int, 0 ≤ j → j < k5 → ¬ bitI (gS G3 a_reaches (j).toNat) j)) → (6 - k5).toNat < n5 → WP kX12_closes X 136 [some (2, ((1000 : Nat) : Int)), some (0, s), some (0, k5), none, none] [] G3 := by
                intro n5
                induction n5 with
                | zero => intro k5 hi5 hm5; exact absurd hm5 (Nat.not_lt_zero _)
                | succ n5 ih5 =>
                  intro k5 hi5 hm5
                  have hj5 := hi5
                  obtain ⟨ik5, io5⟩ := hi5
                  refine s_iload_n dX12_closes_136 rfl ?_
                  refine s_bipush dX12_closes_137 rfl (by decide) ?_
                  refine s_icmp_ge (tgt := 167) dX12_closes_139 (by decide) (fun c6 => ?_) (fun c6 => ?_)
                  · -- 139 to 167
                    have hlp : ∀ j : Int, 0 ≤ j → j < 6 → ¬ Lp (fun j : Int => gS G1 a_uses (j).toNat) 6 j := fun j j0 j1 => lp_none (ds := fun j : Int => gS G3 a_reaches (j).toNat) hu6 (fun l l0 l1 => by have e9 : r3 = 6 := (by omega); rw [← e9]; exact ij3 l l0 l1) (fun l l0 l1 => io5 l l0 (by omega)) j0 j1
                    refine s_iconst dX12_closes_167 (by decide) ?_
                    refine s_istore_n dX12_closes_168 (by decide) (lv' := [some (2, ((1000 : Nat) : Int)), some (0, s), some (0, 0), none, none]) rfl ?_
                    refine s_iconst dX12_closes_169 (by decide) ?_
                    refine s_istore_n dX12_closes_170 (by decide) (lv' := [some (2, ((1000 : Nat) : Int)), some (0, s), some (0, 0), some (0, 0), none]) rfl ?_
                    have L7 : ∀ (n7 : Nat) (d7 : Int) (r7 : Int) (G7 : LG), MG G7 → Fr nX12_closes jX12_closes G G7 → ((0 ≤ r7 ∧ r7 ≤ 6) ∧ ((gS G 1000 35) ≤ (gS G7 1000 35) ∧ (gS G7 1000 35) ≤ (gS G 1000 35) + 6 + 6 * r7) ∧ (FU G7) ∧ (FX G G7) ∧ (TH G7 Hs ∧ TX G G7) ∧ ((c = 5 → (gS G7 1000 26) ≤ (gS G 1000 26) + 5 * cnt6 d7) ∧ (c = 99 → (gS G7 1000 26) ≤ (gS G 1000 26) + 99 * cnt6 d7)) ∧ (∀ i : Int, 0 ≤ i → i < 32 → bitI d7 i → bitI s i) ∧ (∀ j : Int, 0 ≤ j → j < 6 → bitI d7 j → (0 ≤ (gS G7 a_solved (j).toNat) ∧ (gS G7 a_solved (j).toNat) < (gS G7 1000 26)) ∧ ∀ P0 : Int → Prop, (∀ k : Int, 0 ≤ k → k < 6 → bitI s k → okS G P0 ((gS G a_equation (k).toNat))) → okS G7 P0 ((gS G7 a_solved (j).toNat))) ∧ (∀ j : Nat, gS G7 a_uses j = gS G1 a_uses j) ∧ (∀ j : Int, 0 ≤ j → j < 6 → bitI s j → ¬ Lp (fun j : Int => gS G1 a_uses (j).toNat) (r7).toNat j → bitI d7 j)) → (6 - r7).toNat < n7 → WP kX12_closes X 171 [some (2, ((1000 : Nat) : Int)), some (0, s), some (0, d7), some (0, r7), none] [] G7 := by
                      intro n7
                      induction n7 with
                      | zero => intro d7 r7 G7 hMG7 hFG7 hi7 hm7; exact absurd hm7 (Nat.not_lt_zero _)
                      | succ n7 ih7 =>
                        intro d7 r7 G7 hMG7 hFG7 hi7 hm7
                        have hj7 := hi7
                        obtain ⟨ik7, im7, iF7, iX7, iT7, iw7, id7, iv7, ie7, il7⟩ := hi7
                        refine s_iload_n dX12_closes_171 rfl ?_
                        refine s_bipush dX12_closes_172 rfl (by decide) ?_
                        refine s_icmp_ge (tgt := 262) dX12_closes_174 (by decide) (fun c8 => ?_) (fun c8 => ?_)
                        · -- 174 to 262
                          have hall : ∀ j : Int, 0 ≤ j → j < 6 → bitI s j → bitI d7 j := fun j j0 j1 q => il7 j j0 j1 q (by rw [show (r7).toNat = 6 by omega]; exact hlp j j0 j1)
                          refine s_aload_n dX12_closes_262 rfl (Int.natCast_nonneg _) ?_
                          refine s_iload_n dX12_closes_263 rfl ?_
                          refine cv_X12_374 rfl gX12_setsBy dX12_closes_264 hMG7 (by rw [hcf]; decide) (as := [(0, s)]) rfl (Nat.le_of_ble_eq_true rfl) ⟨s, rfl, hMG7, fun G9 hMG9 hpG9 => ?_⟩
                          obtain ⟨hfG9, hpG9⟩ := hpG9
                          have hFG9 : Fr nX12_closes jX12_closes G G9 := Fr.call hFG7 hfG9 (by decide) (by decide)
                          show WP kX12_closes X 267 [some (2, ((1000 : Nat) : Int)), some (0, s), some (0, d7), some (0, r7), none] [] G9
                          have hfe := (Fr.call (Fr.rf) hfG9 (by decide) (by decide) : Fr [a_by] [] G7 G9)
                          have hff3 := iF7.f
                          refine s_iconst dX12_closes_267 (by decide) ?_
                          refine s_istore_n dX12_closes_268 (by decide) (lv' := [some (2, ((1000 : Nat) : Int)), some (0, s), some (0, d7), some (0, 0), none]) rfl ?_
                          have L11 : ∀ (n11 : Nat) (k11 : Int), ((0 ≤ k11 ∧ k11 ≤ 6) ∧ (∀ j : Int, 0 ≤ j → j < k11 → bitI s j → (gS G9 a_fSize ((gS G9 a_solved (j).toNat)).toNat) ≤ 200)) → (6 - k11).toNat < n11 → WP kX12_closes X 269 [some (2, ((1000 : Nat) : Int)), some (0, s), some (0, d7), some (0, k11), none] [] G9 := by
                            intro n11
                            induction n11 with
                            | zero => intro k11 hi11 hm11; exact absurd hm11 (Nat.not_lt_zero _)
                            | succ n11 ih11 =>
                              intro k11 hi11 hm11
                              have hj11 := hi11
                              obtain ⟨ik11, iz11⟩ := hi11
                              refine s_iload_n dX12_closes_269 rfl ?_
                              refine s_bipush dX12_closes_270 rfl (by decide) ?_
                              refine s_icmp_ge (tgt := 312) dX12_closes_272 (by decide) (fun c12 => ?_) (fun c12 => ?_)
                              · -- 272 to 312
                                refine s_iconst dX12_closes_312 (by decide) ?_
                                exact s_iret hR dX12_closes_313 rfl (hQ _ G9 hMG9 (⟨hFG9, ⟨iF7.agr (hfe.agr (by decide) (by decide) (by decide)) (by rw [hfe.atF (j := 42) (by decide) (by decide)]; exact Int.le_refl _), iX7.trans (FX.agf hfe (by decide) (by decide) (by decide)), iT7.1.agr (hfe.agr (by decide) (by decide) (by decide)), iT7.2.trans (TX.agr (hfe.agr (by decide) (by decide) (by decide))), by rw [hfe.atF (j := 26) (by decide) (by decide)]; have z9 := (cnt_rng d7).2; omega, by rw [hfe.atF (j := 35) (by decide) (by decide)]; omega, fun _ j j0 j1 => ⟨fun q => ⟨⟨((hpG9 j j0 j1).1 q).trans (hfe.atA (n := a_solved) (by decide) (by decide)).symm, by rw [hfe.atA (n := a_solved) (by decide) (by decide)]; exact (iv7 j j0 j1 (hall j j0 j1 q)).1.1, by rw [hfe.atA (n := a_solved) (by decide) (by decide), hfe.atF (j := 26) (by decide) (by decide)]; exact (iv7 j j0 j1 (hall j j0 j1 q)).1.2, iz11 j j0 (by omega) q⟩, fun P0 hP => by rw [hfe.atA (n := a_solved) (by decide) (by decide)]; have v9 := iv7 j j0 j1 (hall j j0 j1 q); exact (v9.2 P0 hP).fx (FX.agf hfe (by decide) (by decide) (by decide)) iF7 v9.1.1 v9.1.2⟩, (hpG9 j j0 j1).2⟩⟩⟩))
                              · -- 272 to 275
                                refine s_iload_n dX12_closes_275 rfl ?_
                                refine s_iload_n dX12_closes_276 rfl ?_
                                refine cs_X12_367 rfl gX12_has dX12_closes_277 (by rw [hcf]; decide) (as := [(0, s), (0, k11)]) rfl (Nat.le_of_ble_eq_true rfl) ⟨s, k11, rfl, ?_⟩
                                show WP kX12_closes X 280 [some (2, ((1000 : Nat) : Int)), some (0, s), some (0, d7), some (0, k11), none] [(0, b2i (bitI s k11))] G9
                                refine s_if_eqB (tgt := 306) dX12_closes_280 (by decide) (fun c13 => ?_) (fun c13 => ?_)
                                · -- 280 to 306
                                  refine s_iinc dX12_closes_306 (v := k11) rfl (by omega) (by decide) (lv' := [some (2, ((1000 : Nat) : Int)), some (0, s), some (0, d7), some (0, k11 + 1), none]) rfl ?_
                                  refine s_goto (tgt := 269) dX12_closes_309 (by decide) ?_
                                  exact ih11 (k11 + 1) (⟨(by omega), (by intro j j0 j1 q; by_cases hj : j = k11; (subst hj; first | exact absurd q (by assumption) | (rw [hfe.atA (n := a_solved) (by decide) (by decide), hfe.atA (n := a_fSize) (by decide) (by decide)]; omega)); (exact iz11 j j0 (by omega) q))⟩) (by omega)
                                · -- 280 to 283
                                  have hv9 := (iv7 k11 (by omega) (by omega) (hall k11 (by omega) (by omega) (by assumption))).1
                                  refine s_aload_n dX12_closes_283 rfl (Int.natCast_nonneg _) ?_
                                  refine gf_fSize rfl dX12_closes_284 hMG9 ?_
                                  refine s_aload_n dX12_closes_287 rfl (Int.natCast_nonneg _) ?_
                                  refine gf_solved rfl dX12_closes_288 hMG9 ?_
                                  refine s_iload_n dX12_closes_291 rfl ?_
                                  refine s_iald dX12_closes_292 (mg_a_solved hMG9) (by omega) (by omega) (Fr.atA hfG9 (by decide) (by decide)) ?_
                                  refine s_iald dX12_closes_293 (mg_a_fSize hMG9) (by omega) (by omega) (Fr.atA hfG9 (by decide) (by decide)) ?_
                                  refine s_sipush dX12_closes_294 rfl (by decide) ?_
                                  refine s_icmp_le (tgt := 306) dX12_closes_297 (by decide) (fun c14 => ?_) (fun c14 => ?_)
                                  · -- 297 to 306
                                    refine s_iinc dX12_closes_306 (v := k11) rfl (by omega) (by decide) (lv' := [some (2, ((1000 : Nat) : Int)), some (0, s), some (0, d7), some (0, k11 + 1), none]) rfl ?_
                                    refine s_goto (tgt := 269) dX12_closes_309 (by decide) ?_
                                    exact ih11 (k11 + 1) (⟨(by omega), (by intro j j0 j1 q; by_cases hj : j = k11; (subst hj; first | exact absurd q (by assumption) | (rw [hfe.atA (n := a_solved) (by decide) (by decide), hfe.atA (n := a_fSize) (by decide) (by decide)]; omega)); (exact iz11 j j0 (by omega) q))⟩) (by omega)
                                  · -- 297 to 300
                                    refine s_sipush dX12_closes_300 rfl (by decide) ?_
                                    refine s_iload_n dX12_closes_303 rfl ?_
                                    refine s_iadd dX12_closes_304 (by omega) ?_
                                    exact s_iret hR dX12_closes_305 rfl (hQ _ G9 hMG9 (⟨hFG9, ⟨iF7.agr (hfe.agr (by decide) (by decide) (by decide)) (by rw [hfe.atF (j := 42) (by decide) (by decide)]; exact Int.le_refl _), iX7.trans (FX.agf hfe (by decide) (by decide) (by decide)), iT7.1.agr (hfe.agr (by decide) (by decide) (by decide)), iT7.2.trans (TX.agr (hfe.agr (by decide) (by decide) (by decide))), by rw [hfe.atF (j := 26) (by decide) (by decide)]; have z9 := (cnt_rng d7).2; omega, by rw [hfe.atF (j := 35) (by decide) (by decide)]; omega, fun q => by omega⟩⟩))
                          exact L11 _ 0 (⟨(by omega), (by intro j j0 j1; omega)⟩) (Nat.lt_succ_self _)
                        · -- 174 to 177
                          refine s_iconst dX12_closes_177 (by decide) ?_
                          refine s_istore dX12_closes_178 (by decide) (lv' := [some (2, ((1000 : Nat) : Int)), some (0, s), some (0, d7), some (0, r7), some (0, 0)]) rfl ?_
                          have L15 : ∀ (n15 : Nat) (d15 : Int) (k15 : Int) (G15 : LG), MG G15 → Fr nX12_closes jX12_closes G G15 → ((0 ≤ k15 ∧ k15 ≤ 6) ∧ ((gS G 1000 35) ≤ (gS G15 1000 35) ∧ (gS G15 1000 35) ≤ (gS G 1000 35) + 6 + 6 * r7 + k15) ∧ (FU G15) ∧ (FX G G15) ∧ (TH G15 Hs ∧ TX G G15) ∧ ((c = 5 → (gS G15 1000 26) ≤ (gS G 1000 26) + 5 * cnt6 d15) ∧ (c = 99 → (gS G15 1000 26) ≤ (gS G 1000 26) + 99 * cnt6 d15)) ∧ (∀ i : Int, 0 ≤ i → i < 32 → bitI d15 i → bitI s i) ∧ (∀ j : Int, 0 ≤ j → j < 6 → bitI d15 j → (0 ≤ (gS G15 a_solved (j).toNat) ∧ (gS G15 a_solved (j).toNat) < (gS G15 1000 26)) ∧ ∀ P0 : Int → Prop, (∀ k : Int, 0 ≤ k → k < 6 → bitI s k → okS G P0 ((gS G a_equation (k).toNat))) → okS G15 P0 ((gS G15 a_solved (j).toNat))) ∧ (∀ j : Nat, gS G15 a_uses j = gS G1 a_uses j) ∧ (∀ j : Int, 0 ≤ j → j < 6 → bitI s j → ¬ Lp (fun j : Int => gS G1 a_uses (j).toNat) (r7).toNat j → bitI d15 j) ∧ (∀ j : Int, 0 ≤ j → j < k15 → bitI s j → ¬ Lp (fun j : Int => gS G1 a_uses (j).toNat) (r7 + 1).toNat j → bitI d15 j)) → (6 - k15).toNat < n15 → WP kX12_closes X 180 [some (2, ((1000 : Nat) : Int)), some (0, s), some (0, d15), some (0, r7), some (0, k15)] [] G15 := by
                            intro n15
                            induction n15 with
                            | zero => intro d15 k15 G15 hMG15 hFG15 hi15 hm15; exact absurd hm15 (Nat.not_lt_zero _)
                            | succ n15 ih15 =>
                              intro d15 k15 G15 hMG15 hFG15 hi15 hm15
                              have hj15 := hi15
                              obtain ⟨ik15, im15, iF15, iX15, iT15, iw15, id15, iv15, ie15, il15, in15⟩ := hi15
                              refine s_iload dX12_closes_180 rfl ?_
                              refine s_bipush dX12_closes_182 rfl (by decide) ?_
                              refine s_icmp_ge (tgt := 256) dX12_closes_184 (by decide) (fun c16 => ?_) (fun c16 => ?_)
                              · -- 184 to 256
                                refine s_iinc dX12_closes_256 (v := r7) rfl (by omega) (by decide) (lv' := [some (2, ((1000 : Nat) : Int)), some (0, s), some (0, d15), some (0, r7 + 1), some (0, k15)]) rfl ?_
                                refine s_goto (tgt := 171) dX12_closes_259 (by decide) ?_
                                refine s_mask [true, true, true, true, false] (lv' := [some (2, ((1000 : Nat) : Int)), some (0, s), some (0, d15), some (0, r7 + 1), none]) rfl ?_
                                exact ih7 d15 (r7 + 1) G15 hMG15 hFG15 (⟨(by omega), (by omega), (by exact iF15), (by exact iX15), (by exact iT15), (by exact iw15), (by exact id15), (by exact iv15), (by exact ie15), (by intro j j0 j1 q1 q2; rw [show (r7 + 1) = r7 + 1 from rfl] at q2; exact in15 j j0 (by omega) q1 q2)⟩) (by omega)
                              · -- 184 to 187
                                refine s_iload_n dX12_closes_187 rfl ?_
                                refine s_iload dX12_closes_188 rfl ?_
                                refine cs_X12_367 rfl gX12_has dX12_closes_190 (by rw [hcf]; decide) (as := [(0, s), (0, k15)]) rfl (Nat.le_of_ble_eq_true rfl) ⟨s, k15, rfl, ?_⟩
                                show WP kX12_closes X 193 [some (2, ((1000 : Nat) : Int)), some (0, s), some (0, d15), some (0, r7), some (0, k15)] [(0, b2i (bitI s k15))] G15
                                refine s_if_eqB (tgt := 250) dX12_closes_193 (by decide) (fun c17 => ?_) (fun c17 => ?_)
                                · -- 193 to 250
                                  refine s_iinc dX12_closes_250 (v := k15) rfl (by omega) (by decide) (lv' := [some (2, ((1000 : Nat) : Int)), some (0, s), some (0, d15), some (0, r7), some (0, k15 + 1)]) rfl ?_
                                  refine s_goto (tgt := 180) dX12_closes_253 (by decide) ?_
                                  exact ih15 d15 (k15 + 1) G15 hMG15 hFG15 (⟨(by omega), (by omega), (by exact iF15), (by exact iX15), (by exact iT15), (by exact iw15), (by exact id15), (by exact iv15), (by exact ie15), (by exact il15), (by intro j j0 j1 q1 q2; by_cases hj : j = k15; (subst hj; exact absurd q1 c17); (exact in15 j j0 (by omega) q1 q2))⟩) (by omega)
                                · -- 193 to 196
                                  refine s_iload_n dX12_closes_196 rfl ?_
                                  refine s_iload dX12_closes_197 rfl ?_
                                  refine cs_X12_367 rfl gX12_has dX12_closes_199 (by rw [hcf]; decide) (as := [(0, d15), (0, k15)]) rfl (Nat.le_of_ble_eq_true rfl) ⟨d15, k15, rfl, ?_⟩
                                  show WP kX12_closes X 202 [some (2, ((1000 : Nat) : Int)), some (0, s), some (0, d15), some (0, r7), some (0, k15)] [(0, b2i (bitI d15 k15))] G15
                                  refine s_if_neB (tgt := 250) dX12_closes_202 (by decide) (fun c18 => ?_) (fun c18 => ?_)
                                  · -- 202 to 250
                                    refine s_iinc dX12_closes_250 (v := k15) rfl (by omega) (by decide) (lv' := [some (2, ((1000 : Nat) : Int)), some (0, s), some (0, d15), some (0, r7), some (0, k15 + 1)]) rfl ?_
                                    refine s_goto (tgt := 180) dX12_closes_253 (by decide) ?_
                                    exact ih15 d15 (k15 + 1) G15 hMG15 hFG15 (⟨(by omega), (by omega), (by exact iF15), (by exact iX15), (by exact iT15), (by exact iw15), (by exact id15), (by exact iv15), (by exact ie15), (by exact il15), (by intro j j0 j1 q1 q2; by_cases hj : j = k15; (subst hj; exact c18); (exact in15 j j0 (by omega) q1 q2))⟩) (by omega)
                                  · -- 202 to 205
                                    refine s_aload_n dX12_closes_205 rfl (Int.natCast_nonneg _) ?_
                                    refine gf_uses rfl dX12_closes_206 hMG15 ?_
                                    refine s_iload dX12_closes_209 rfl ?_
                                    refine s_iald dX12_closes_211 (mg_a_uses hMG15) (by omega) (by omega) rfl ?_
                                    refine s_iload_n dX12_closes_212 rfl ?_
                                    refine s_iconst dX12_closes_213 (by decide) ?_
                                    refine s_ixor dX12_closes_214 ?_
                                    refine s_iand dX12_closes_215 ?_
                                    refine s_if_ne (tgt := 250) dX12_closes_216 (by decide) (fun c19 => ?_) (fun c19 => ?_)
                                    · -- 216 to 250
                                      refine s_iinc dX12_closes_250 (v := k15) rfl (by omega) (by decide) (lv' := [some (2, ((1000 : Nat) : Int)), some (0, s), some (0, d15), some (0, r7), some (0, k15 + 1)]) rfl ?_
                                      refine s_goto (tgt := 180) dX12_closes_253 (by decide) ?_
                                      exact ih15 d15 (k15 + 1) G15 hMG15 hFG15 (⟨(by omega), (by omega), (by exact iF15), (by exact iX15), (by exact iT15), (by exact iw15), (by exact id15), (by exact iv15), (by exact ie15), (by exact il15), (by intro j j0 j1 q1 q2; by_cases hj : j = k15; (subst hj; exfalso; obtain ⟨x, ⟨x0, x1⟩, u1, u2⟩ := bitI_nsub c19; rw [ie15] at u1; have x6 := hu6 j j0 (by omega) x x0 x1 u1; apply q2; rw [show (r7 + 1).toNat = (r7).toNat + 1 by omega]; exact ⟨x, ⟨x0, x6⟩, u1, Classical.byContradiction fun z => u2 (il15 x x0 x6 ((iu1 j j0 (by omega)).1 x x0 x1 u1) z)⟩); (exact in15 j j0 (by omega) q1 q2))⟩) (by omega)
                                    · -- 216 to 219
                                      refine s_aload_n dX12_closes_219 rfl (Int.natCast_nonneg _) ?_
                                      refine s_iload_n dX12_closes_220 rfl ?_
                                      refine cv_X12_374 rfl gX12_setsBy dX12_closes_221 hMG15 (by rw [hcf]; decide) (as := [(0, d15)]) rfl (Nat.le_of_ble_eq_true rfl) ⟨d15, rfl, hMG15, fun G20 hMG20 hpG20 => ?_⟩
                                      obtain ⟨hfG20, hpG20⟩ := hpG20
                                      have hFG20 : Fr nX12_closes jX12_closes G G20 := Fr.call hFG15 hfG20 (by decide) (by decide)
                                      show WP kX12_closes X 224 [some (2, ((1000 : Nat) : Int)), some (0, s), some (0, d15), some (0, r7), some (0, k15)] [] G20
                                      have hfs15 := (Fr.call (Fr.rf) hfG20 (by decide) (by decide) : Fr [a_by] [] G15 G20)
                                      have he15 := hE k15 (by omega) (by omega) (by assumption)
                                      have hq15 : (gS G15 a_equation (k15).toNat) = (gS G a_equation (k15).toNat) := hFG15.atA (by decide) (by decide)
                                      have hfb15 : FU G20 := (iF15).agr (hfs15.agr (by decide) (by decide) (by decide)) (by rw [hfs15.atF (j := 42) (by decide) (by decide)]; exact Int.le_refl _)
                                      have hxb15 : FX G G20 := iX15.trans (FX.agf hfs15 (by decide) (by decide) (by decide))
                                      have hxs15 : FX G15 G20 := FX.agf hfs15 (by decide) (by decide) (by decide)
                                      have htb15 : TH G20 Hs := iT15.1.agr (hfs15.agr (by decide) (by decide) (by decide))
                                      have hes15 := hxb15.2 _ he15.1.1 he15.1.2
                                      have hzz15 := hxb15.1
                                      have hok015 : ∀ P0 : Int → Prop, okS G P0 ((gS G a_equation (k15).toNat)) → okS G20 P0 ((gS G15 a_equation (k15).toNat)) := fun P0 q => by rw [hq15]; exact q.fx hxb15 hFU he15.1.1 he15.1.2
                                      rw [← hq15] at he15 hes15
                                      have hes215 := hes15.2.2.2
                                      have hm515 : (gS G20 1000 35) = (gS G15 1000 35) := hfs15.atF (by decide) (by decide)
                                      have hm615 : (gS G20 1000 26) = (gS G15 1000 26) := hfs15.atF (by decide) (by decide)
                                      have hby15 : ∀ j : Int, 0 ≤ j → j < 6 → -1 ≤ (gS G20 a_by (j).toNat) ∧ (gS G20 a_by (j).toNat) < (gS G20 1000 26) := fun j j0 j1 => by rw [hm615]; by_cases q : bitI d15 j; (rw [(hpG20 j j0 j1).1 q]; have := (iv15 j j0 j1 q).1; omega); (rw [(hpG20 j j0 j1).2 q]; have := iF15.f; omega)
                                      have hbo15 : ∀ P0 : Int → Prop, (∀ k : Int, 0 ≤ k → k < 6 → bitI s k → okS G P0 ((gS G a_equation (k).toNat))) → ∀ j : Int, 0 ≤ j → j < 6 → 0 ≤ (gS G20 a_by (j).toNat) → okS G20 P0 ((gS G20 a_by (j).toNat)) := fun P0 hP j j0 j1 jb => by by_cases q : bitI d15 j; (rw [(hpG20 j j0 j1).1 q]; have v9 := iv15 j j0 j1 q; exact (v9.2 P0 hP).fx hxs15 iF15 v9.1.1 v9.1.2); (rw [(hpG20 j j0 j1).2 q] at jb; omega)
                                      have hcn15 : cnt6 d15 + 1 ≤ cnt6 (i_or d15 (i_shl 1 k15)) := cnt_lt (a := d15) (b := i_or d15 (i_shl 1 k15)) (fun x x0 x1 q => (bitI_or x0 (by omega)).mpr (Or.inl q)) (i := k15) (by omega) (by omega) ((bitI_or (by omega) (by omega)).mpr (Or.inr ((bitI_shl (by omega) (by omega) (by omega) (by omega)).mpr rfl))) (by assumption)
                                      have hcr15 := (cnt_rng (i_or d15 (i_shl 1 k15))).2
                                      have hz915 : c = 5 → (gS G20 a_fSize ((gS G15 a_equation (k15).toNat)).toNat) ≤ 12 := fun q => by have z9 := hz5 q k15 (by omega) (by omega) (by assumption); rw [← hq15, ← hes215] at z9; exact z9
                                      have hpl15 : pcost 0 ((gS G20 a_fSize ((gS G15 a_equation (k15).toNat)).toNat)) ≤ 99 ∧ (c = 5 → pcost 0 ((gS G20 a_fSize ((gS G15 a_equation (k15).toNat)).toNat)) ≤ 5) := by rw [pc_0]; omega
                                      refine s_aload_n dX12_closes_224 rfl (Int.natCast_nonneg _) ?_
                                      refine gf_solved rfl dX12_closes_225 hMG20 ?_
                                      refine s_iload dX12_closes_228 rfl ?_
                                      refine s_aload_n dX12_closes_230 rfl (Int.natCast_nonneg _) ?_
                                      refine s_iconst dX12_closes_231 (by decide) ?_
                                      refine s_aload_n dX12_closes_232 rfl (Int.natCast_nonneg _) ?_
                                      refine gf_equation rfl dX12_closes_233 hMG20 ?_
                                      refine s_iload dX12_closes_236 rfl ?_
                                      refine s_iald dX12_closes_238 (mg_a_equation hMG20) (by omega) (by omega) (Fr.atA hfG20 (by decide) (by decide)) ?_
                                      refine cv_X12_378 rfl gX12_puts dX12_closes_239 hMG20 (by rw [hcf]; decide) (as := [(0, 0), (0, gS G15 a_equation ((k15).toNat))]) rfl (Nat.le_of_ble_eq_true rfl) ⟨0, gS G15 a_equation ((k15).toNat), Hs, v, fun _ => True, rfl, hMG20, (by exact hfb15), (by exact htb15), (by exact hv), (by omega), (by omega), (by omega), (by omega), (by omega), (by exact fun _ => hby15), (by intro q; omega), (by intro q; omega), fun r23 G22 hMG22 hpG22 => ?_⟩
                                      obtain ⟨hfG22, hpG22⟩ := hpG22
                                      have hFG22 : Fr nX12_closes jX12_closes G G22 := Fr.call hFG20 hfG22 (by decide) (by decide)
                                      show WP kX12_closes X 242 [some (2, ((1000 : Nat) : Int)), some (0, s), some (0, d15), some (0, r7), some (0, k15)] [(0, r23), (0, k15), (2, ((a_solved : Nat) : Int))] G22
                                      have hok15 : ∀ P0 : Int → Prop, (∀ k : Int, 0 ≤ k → k < 6 → bitI s k → okS G P0 ((gS G a_equation (k).toNat))) → okS G22 P0 r23 := fun P0 hP => hpG22.2.2.2.2.2.2.2.1 rfl P0 (hok015 P0 (hP k15 (by omega) (by omega) (by assumption))) (hbo15 P0 hP)
                                      refine r_iast dX12_closes_242 hMG22 (mg_a_solved hMG22) (by decide) (by omega) (by omega) (fun G24 eG24 hMG24 => ?_)
                                      have hFG24 : Fr nX12_closes jX12_closes G G24 := Fr.setA hFG22 eG24 (by decide)
                                      show WP kX12_closes X 243 [some (2, ((1000 : Nat) : Int)), some (0, s), some (0, d15), some (0, r7), some (0, k15)] [] G24
                                      refine s_iload_n dX12_closes_243 rfl ?_
                                      refine s_iconst dX12_closes_244 (by decide) ?_
                                      refine s_iload dX12_closes_245 rfl ?_
                                      refine s_ishl dX12_closes_247 ?_
                                      refine s_ior dX12_closes_248 ?_
                                      refine s_istore_n dX12_closes_249 (by decide) (lv' := [some (2, ((1000 : Nat) : Int)), some (0, s), some (0, i_or d15 (i_shl 1 k15)), some (0, r7), some (0, k15)]) rfl ?_
                                      refine s_iinc dX12_closes_250 (v := k15) rfl (by omega) (by decide) (lv' := [some (2, ((1000 : Nat) : Int)), some (0, s), some (0, i_or d15 (i_shl 1 k15)), some (0, r7), some (0, k15 + 1)]) rfl ?_
                                      refine s_goto (tgt := 180) dX12_closes_253 (by decide) ?_
                                      exact ih15 (i_or d15 (i_shl 1 k15)) (k15 + 1) G24 hMG24 hFG24 (⟨(by omega), (by rw [(Fr.setA (Fr.rf) eG24 (by decide) : Fr [a_solved] [] G22 G24).atF (j := 35) (by decide) (by decide)]; have z9 := hpG22.2.2.2.2.2.2.1; omega), (by exact (hpG22.1).agr ((Fr.setA (Fr.rf) eG24 (by decide) : Fr [a_solved] [] G22 G24).agr (by decide) (by decide) (by decide)) (by rw [(Fr.setA (Fr.rf) eG24 (by decide) : Fr [a_solved] [] G22 G24).atF (j := 42) (by decide) (by decide)]; exact Int.le_refl _)), (by exact (iX15.trans (FX.agf (Fr.call (Fr.rf) hfG20 (by decide) (by decide) : Fr [a_by] [] G15 G20) (by decide) (by decide) (by decide))).trans (hpG22.2.1.trans (FX.agf (Fr.setA (Fr.rf) eG24 (by decide) : Fr [a_solved] [] G22 G24) (by decide) (by decide) (by decide)))), (by exact ⟨hpG22.2.2.1.agr ((Fr.setA (Fr.rf) eG24 (by decide) : Fr [a_solved] [] G22 G24).agr (by decide) (by decide) (by decide)), (iT15.2.trans (TX.agr ((Fr.call (Fr.rf) hfG20 (by decide) (by decide) : Fr [a_by] [] G15 G20).agr (by decide) (by decide) (by decide)))).trans (hpG22.2.2.2.1.trans (TX.agr ((Fr.setA (Fr.rf) eG24 (by decide) : Fr [a_solved] [] G22 G24).agr (by decide) (by decide) (by decide))))⟩), (by rw [(Fr.setA (Fr.rf) eG24 (by decide) : Fr [a_solved] [] G22 G24).atF (j := 26) (by decide) (by decide)]; have z9 := hpG22.2.2.2.2.2.1; have z8 := hcn15; have z7 := hpl15; omega), (by intro x x0 x1 q; rcases (bitI_or x0 x1).mp q with q | q; (exact id15 x x0 x1 q); (have e9 := (bitI_shl (by omega) (by omega) x0 x1).mp q; rw [e9]; assumption)), (by intro j j0 j1 q; by_cases hj : j = k15; (subst hj; rw [g_at (g_upd eG24), (Fr.setA (Fr.rf) eG24 (by decide) : Fr [a_solved] [] G22 G24).atF (j := 26) (by decide) (by decide)]; exact ⟨hpG22.2.2.2.2.1, fun P0 hP => (hok15 P0 hP).fx (FX.agf (Fr.setA (Fr.rf) eG24 (by decide) : Fr [a_solved] [] G22 G24) (by decide) (by decide) (by decide)) hpG22.1 hpG22.2.2.2.2.1.1 hpG22.2.2.2.2.1.2⟩); (have qd : bitI d15 j := ((bitI_or j0 (by omega)).mp q).elim id (fun z => absurd ((bitI_shl (by omega) (by omega) j0 (by omega)).mp z) hj); obtain ⟨v1, v2⟩ := iv15 j j0 j1 qd; rw [g_ne (g_upd eG24) (by omega), (Fr.call (Fr.call (Fr.rf) hfG20 (by decide) (by decide)) hfG22 (by decide) (by decide) : Fr [a_by, a_fKind, a_fA, a_fB, a_fSize, a_fNext, a_fHead, a_fMark, a_thingKind, a_thingA, a_thingB, a_thingC, a_thingNext, a_thingHead, a_stackOf, a_fMemo] [26, 42, 35, 36] G15 G22).atA (n := a_solved) (by decide) (by decide), (Fr.setA (Fr.rf) eG24 (by decide) : Fr [a_solved] [] G22 G24).atF (j := 26) (by decide) (by decide)]; have z8 := hpG22.2.1.1; have e8 := (Fr.call (Fr.rf) hfG20 (by decide) (by decide) : Fr [a_by] [] G15 G20).atF (j := 26) (by decide) (by decide); exact ⟨⟨v1.1, by omega⟩, fun P0 hP => (v2 P0 hP).fx ((FX.agf (Fr.call (Fr.rf) hfG20 (by decide) (by decide) : Fr [a_by] [] G15 G20) (by decide) (by decide) (by decide)).trans (hpG22.2.1.trans (FX.agf (Fr.setA (Fr.rf) eG24 (by decide) : Fr [a_solved] [] G22 G24) (by decide) (by decide) (by decide)))) iF15 v1.1 v1.2⟩)), (by intro j; rw [(Fr.setA (Fr.call (Fr.call (Fr.rf) hfG20 (by decide) (by decide)) hfG22 (by decide) (by decide)) eG24 (by decide) : Fr [a_by, a_fKind, a_fA, a_fB, a_fSize, a_fNext, a_fHead, a_fMark, a_thingKind, a_thingA, a_thingB, a_thingC, a_thingNext, a_thingHead, a_stackOf, a_fMemo, a_solved] [26, 42, 35, 36] G15 G24).atA (n := a_uses) (by decide) (by decide)]; exact ie15 j), (by exact fun j j0 j1 q1 q2 => (bitI_or j0 (by omega)).mpr (Or.inl (il15 j j0 j1 q1 q2))), (by intro j j0 j1 q1 q2; by_cases hj : j = k15; (subst hj; exact (bitI_or j0 (by omega)).mpr (Or.inr ((bitI_shl (by omega) (by omega) j0 (by omega)).mpr rfl))); (exact (bitI_or j0 (by omega)).mpr (Or.inl (in15 j j0 (by omega) q1 q2))))⟩) (by omega)
                          exact L15 _ d7 0 G7 hMG7 hFG7 (⟨(by omega), (by omega), (by exact iF7), (by exact iX7), (by exact iT7), (by exact iw7), (by exact id7), (by exact iv7), (by exact ie7), (by exact il7), (by intro j j0 j1; omega)⟩) (Nat.lt_succ_self _)
                    exact L7 _ 0 0 G3 hMG3 hFG3 (⟨(by omega), (by rw [ir3.atF (j := 35) (by decide) (by decide)]; have z9 := im1; omega), (by exact iF1.agr (ir3.agr (by decide) (by decide) (by decide)) (by rw [ir3.atF (j := 42) (by decide) (by decide)]; exact Int.le_refl _)), (by exact iX1.trans (FX.agf ir3 (by decide) (by decide) (by decide))), (by exact ⟨iT1.1.agr (ir3.agr (by decide) (by decide) (by decide)), iT1.2.trans (TX.agr (ir3.agr (by decide) (by decide) (by decide)))⟩), (by rw [ir3.atF (j := 26) (by decide) (by decide)]; have z9 := if1; have z8 := (cnt_rng 0).1; omega), (by intro x x0 x1 q; exact absurd q (bitI_0 x0 x1)), (by intro j j0 j1 q; exact absurd q (bitI_0 j0 (by omega))), (by intro j; exact ir3.atA (by decide) (by decide)), (by intro j j0 j1 q1 q2; exact absurd (show Lp _ (0 : Int).toNat j from trivial) q2)⟩) (Nat.lt_succ_self _)
                  · -- 139 to 142
                    refine s_aload_n dX12_closes_142 rfl (Int.natCast_nonneg _) ?_
                    refine gf_reaches rfl dX12_closes_143 hMG3 ?_
                    refine s_iload_n dX12_closes_146 rfl ?_
                    refine s_iald dX12_closes_147 (mg_a_reaches hMG3) (by omega) (by omega) rfl ?_
                    refine s_iload_n dX12_closes_148 rfl ?_
                    refine cs_X12_367 rfl gX12_has dX12_closes_149 (by rw [hcf]; decide) (as := [(0, gS G3 a_reaches ((k5).toNat)), (0, k5)]) rfl (Nat.le_of_ble_eq_true rfl) ⟨gS G3 a_reaches ((k5).toNat), k5, rfl, ?_⟩
                    show WP kX12_closes X 152 [some (2, ((1000 : Nat) : Int)), some (0, s), some (0, k5), none, none] [(0, b2i (bitI (gS G3 a_reaches ((k5).toNat)) k5))] G3
                    refine s_if_eqB (tgt := 161) dX12_closes_152 (by decide) (fun c25 => ?_) (fun c25 => ?_)
                    · -- 152 to 161
                      refine s_iinc dX12_closes_161 (v := k5) rfl (by omega) (by decide) (lv' := [some (2, ((1000 : Nat) : Int)), some (0, s), some (0, k5 + 1), none, none]) rfl ?_
                      refine s_goto (tgt := 136) dX12_closes_164 (by decide) ?_
                      exact ih5 (k5 + 1) (⟨(by omega), (by intro j j0 j1; by_cases hj : j = k5; (subst hj; assumption); (exact io5 j j0 (by omega)))⟩) (by omega)
                    · -- 152 to 155
                      refine s_sipush dX12_closes_155 rfl (by decide) ?_
                      refine s_iload_n dX12_closes_158 rfl ?_
                      refine s_iadd dX12_closes_159 (by omega) ?_
                      exact s_iret hR dX12_closes_160 rfl (hQ _ G3 hMG3 (⟨hFG3, ⟨by exact iF1.agr (ir3.agr (by decide) (by decide) (by decide)) (by rw [ir3.atF (j := 42) (by decide) (by decide)]; exact Int.le_refl _), by exact iX1.trans (FX.agf ir3 (by decide) (by decide) (by decide)), by exact iT1.1.agr (ir3.agr (by decide) (by decide) (by decide)), (by exact iT1.2.trans (TX.agr (ir3.agr (by decide) (by decide) (by decide)))), by rw [ir3.atF (j := 26) (by decide) (by decide)]; have z9 := if1; omega, by rw [ir3.atF (j := 35) (by decide) (by decide)]; have z9 := im1; omega, fun q => by omega⟩⟩))
              exact L5 _ 0 (⟨(by omega), (by intro j j0 j1; omega)⟩) (Nat.lt_succ_self _)
            · -- 61 to 64
              refine s_iconst dX12_closes_64 (by decide) ?_
              refine s_istore_n dX12_closes_65 (by decide) (lv' := [some (2, ((1000 : Nat) : Int)), some (0, s), some (0, r3), some (0, 0), none]) rfl ?_
              have L26 : ∀ (n26 : Nat) (k26 : Int) (G26 : LG), MG G26 → Fr nX12_closes jX12_closes G G26 → ((0 ≤ k26 ∧ k26 ≤ 6) ∧ (Fr [a_reaches] [] G1 G26) ∧ ((∀ j : Int, 0 ≤ j → j < k26 → RJ (fun j : Int => gS G1 a_uses (j).toNat) (gS G26 a_reaches (j).toNat) j (r3 + 1)) ∧ (∀ j : Int, k26 ≤ j → j < 6 → RJ (fun j : Int => gS G1 a_uses (j).toNat) (gS G26 a_reaches (j).toNat) j (r3)))) → (6 - k26).toNat < n26 → WP kX12_closes X 66 [some (2, ((1000 : Nat) : Int)), some (0, s), some (0, r3), some (0, k26), none] [] G26 := by
                intro n26
                induction n26 with
                | zero => intro k26 G26 hMG26 hFG26 hi26 hm26; exact absurd hm26 (Nat.not_lt_zero _)
                | succ n26 ih26 =>
                  intro k26 G26 hMG26 hFG26 hi26 hm26
                  have hj26 := hi26
                  obtain ⟨ik26, ir26, ij26⟩ := hi26
                  refine s_iload_n dX12_closes_66 rfl ?_
                  refine s_bipush dX12_closes_67 rfl (by decide) ?_
                  refine s_icmp_ge (tgt := 128) dX12_closes_69 (by decide) (fun c27 => ?_) (fun c27 => ?_)
                  · -- 69 to 128
                    refine s_iinc dX12_closes_128 (v := r3) rfl (by omega) (by decide) (lv' := [some (2, ((1000 : Nat) : Int)), some (0, s), some (0, r3 + 1), some (0, k26), none]) rfl ?_
                    refine s_goto (tgt := 58) dX12_closes_131 (by decide) ?_
                    refine s_mask [true, true, true, false, false] (lv' := [some (2, ((1000 : Nat) : Int)), some (0, s), some (0, r3 + 1), none, none]) rfl ?_
                    exact ih3 (r3 + 1) G26 hMG26 hFG26 (⟨(by omega), (by exact ir26), (by intro j j0 j1; exact ij26.1 j j0 (by omega))⟩) (by omega)
                  · -- 69 to 72
                    refine s_iconst dX12_closes_72 (by decide) ?_
                    refine s_istore dX12_closes_73 (by decide) (lv' := [some (2, ((1000 : Nat) : Int)), some (0, s), some (0, r3), some (0, k26), some (0, 0)]) rfl ?_
                    have L28 : ∀ (n28 : Nat) (l28 : Int) (d28 : Int) (G28 : LG), MG G28 → Fr nX12_closes jX12_closes G G28 → ((0 ≤ l28 ∧ l28 ≤ 6) ∧ (Fr [a_reaches] [] G1 G28) ∧ ((∀ j : Int, 0 ≤ j → j < k26 → RJ (fun j : Int => gS G1 a_uses (j).toNat) (gS G28 a_reaches (j).toNat) j (r3 + 1)) ∧ (∀ j : Int, k26 < j → j < 6 → RJ (fun j : Int => gS G1 a_uses (j).toNat) (gS G28 a_reaches (j).toNat) j (r3))) ∧ (RJ (fun j : Int => gS G1 a_uses (j).toNat) d28 k26 r3) ∧ (RN (fun j : Int => gS G1 a_uses (j).toNat) d28 (gS G28 a_reaches (k26).toNat) k26 l28)) → (6 - l28).toNat < n28 → WP kX12_closes X 75 [some (2, ((1000 : Nat) : Int)), some (0, s), some (0, r3), some (0, k26), some (0, l28)] [] G28 := by
                      intro n28
                      induction n28 with
                      | zero => intro l28 d28 G28 hMG28 hFG28 hi28 hm28; exact absurd hm28 (Nat.not_lt_zero _)
                      | succ n28 ih28 =>
                        intro l28 d28 G28 hMG28 hFG28 hi28 hm28
                        have hj28 := hi28
                        obtain ⟨ik28, ir28, ij28, id28, in28⟩ := hi28
                        refine s_iload dX12_closes_75 rfl ?_
                        refine s_bipush dX12_closes_77 rfl (by decide) ?_
                        refine s_icmp_ge (tgt := 122) dX12_closes_79 (by decide) (fun c29 => ?_) (fun c29 => ?_)
                        · -- 79 to 122
                          refine s_iinc dX12_closes_122 (v := k26) rfl (by omega) (by decide) (lv' := [some (2, ((1000 : Nat) : Int)), some (0, s), some (0, r3), some (0, k26 + 1), some (0, l28)]) rfl ?_
                          refine s_goto (tgt := 66) dX12_closes_125 (by decide) ?_
                          refine s_mask [true, true, true, true, false] (lv' := [some (2, ((1000 : Nat) : Int)), some (0, s), some (0, r3), some (0, k26 + 1), none]) rfl ?_
                          exact ih26 (k26 + 1) G28 hMG28 hFG28 (⟨(by omega), (by exact ir28), (by have en : l28 = 6 := (by omega); have hfin := RN.fin id28 (by rw [← en]; exact in28); exact ⟨fun j j0 j1 => by by_cases hj : j = k26; (subst hj; exact hfin); (exact ij28.1 j j0 (by omega)), fun j j0 j1 => ij28.2 j (by omega) j1⟩)⟩) (by omega)
                        · -- 79 to 82
                          refine s_aload_n dX12_closes_82 rfl (Int.natCast_nonneg _) ?_
                          refine gf_reaches rfl dX12_closes_83 hMG28 ?_
                          refine s_iload_n dX12_closes_86 rfl ?_
                          refine s_dup2 dX12_closes_87 (by simp) (by simp) ?_
                          refine s_iald dX12_closes_88 (mg_a_reaches hMG28) (by omega) (by omega) rfl ?_
                          refine s_aload_n dX12_closes_89 rfl (Int.natCast_nonneg _) ?_
                          refine gf_reaches rfl dX12_closes_90 hMG28 ?_
                          refine s_iload_n dX12_closes_93 rfl ?_
                          refine s_iald dX12_closes_94 (mg_a_reaches hMG28) (by omega) (by omega) rfl ?_
                          refine s_iload dX12_closes_95 rfl ?_
                          refine cs_X12_367 rfl gX12_has dX12_closes_97 (by rw [hcf]; decide) (as := [(0, gS G28 a_reaches ((k26).toNat)), (0, l28)]) rfl (Nat.le_of_ble_eq_true rfl) ⟨gS G28 a_reaches ((k26).toNat), l28, rfl, ?_⟩
                          show WP kX12_closes X 100 [some (2, ((1000 : Nat) : Int)), some (0, s), some (0, r3), some (0, k26), some (0, l28)] [(0, b2i (bitI (gS G28 a_reaches ((k26).toNat)) l28)), (0, gS G28 a_reaches ((k26).toNat)), (0, k26), (2, ((a_reaches : Nat) : Int))] G28
                          have J31 : ∀ z30 : Int, ((¬ (bitI (gS G28 a_reaches ((k26).toNat)) l28)) ∧ z30 = 0) ∨ ((bitI (gS G28 a_reaches ((k26).toNat)) l28) ∧ z30 = gS G28 a_uses ((l28).toNat)) → WP kX12_closes X 114 [some (2, ((1000 : Nat) : Int)), some (0, s), some (0, r3), some (0, k26), some (0, l28)] [(0, z30), (0, gS G28 a_reaches ((k26).toNat)), (0, k26), (2, ((a_reaches : Nat) : Int))] G28 := by
                            intro z30 hz30
                            refine s_ior dX12_closes_114 ?_
                            refine r_iast dX12_closes_115 hMG28 (mg_a_reaches hMG28) (by decide) (by omega) (by omega) (fun G32 eG32 hMG32 => ?_)
                            have hFG32 : Fr nX12_closes jX12_closes G G32 := Fr.setA hFG28 eG32 (by decide)
                            show WP kX12_closes X 116 [some (2, ((1000 : Nat) : Int)), some (0, s), some (0, r3), some (0, k26), some (0, l28)] [] G32
                            refine s_iinc dX12_closes_116 (v := l28) rfl (by omega) (by decide) (lv' := [some (2, ((1000 : Nat) : Int)), some (0, s), some (0, r3), some (0, k26), some (0, l28 + 1)]) rfl ?_
                            refine s_goto (tgt := 75) dX12_closes_119 (by decide) ?_
                            exact ih28 (l28 + 1) d28 G32 hMG32 hFG32 (⟨(by omega), (by exact Fr.setA ir28 eG32 (by decide)), (by exact ⟨fun j j0 j1 => by rw [g_ne (g_upd eG32) (by omega)]; exact ij28.1 j j0 j1, fun j j0 j1 => by rw [g_ne (g_upd eG32) (by omega)]; exact ij28.2 j j0 j1⟩), (by exact id28), (by rw [g_at (g_upd eG32)]; rcases hz30 with ⟨q1, q2⟩ | ⟨q1, q2⟩; (rw [q2]; exact RN.no in28 (by omega) (by omega) q1); (rw [q2, ir28.atA (n := a_uses) (by decide) (by decide)]; exact RN.yes in28 (by omega) (by omega) (fun x x0 x1 q => hu6 _ (by omega) (by omega) x x0 x1 q) q1))⟩) (by omega)
                          refine s_if_eqB (tgt := 113) dX12_closes_100 (by decide) (fun c33 => ?_) (fun c33 => ?_)
                          · -- 100 to 113
                            refine s_iconst dX12_closes_113 (by decide) ?_
                            exact J31 0 (Or.inl ⟨c33, rfl⟩)
                          · -- 100 to 103
                            refine s_aload_n dX12_closes_103 rfl (Int.natCast_nonneg _) ?_
                            refine gf_uses rfl dX12_closes_104 hMG28 ?_
                            refine s_iload dX12_closes_107 rfl ?_
                            refine s_iald dX12_closes_109 (mg_a_uses hMG28) (by omega) (by omega) rfl ?_
                            refine s_goto (tgt := 114) dX12_closes_110 (by decide) ?_
                            exact J31 _ (Or.inr (⟨c33, rfl⟩))
                    exact L28 _ 0 ((gS G26 a_reaches (k26).toNat)) G26 hMG26 hFG26 (⟨(by omega), (by exact ir26), (by exact ⟨ij26.1, fun j j0 j1 => ij26.2 j (by omega) j1⟩), (by exact ij26.2 _ (by omega) (by omega)), (by exact RN.init (ij26.2 _ (by omega) (by omega)))⟩) (Nat.lt_succ_self _)
              exact L26 _ 0 G3 hMG3 hFG3 (⟨(by omega), (by exact ir3), (by exact ⟨fun j j0 j1 => by omega, fun j j0 j1 => ij3 j (by omega) j1⟩)⟩) (Nat.lt_succ_self _)
        exact L3 _ 0 G1 hMG1 hFG1 (⟨(by omega), (by exact Fr.rf), (by intro j j0 j1; obtain ⟨q1, q2⟩ := iu1 j j0 (by omega); rw [q2]; exact ⟨fun _ _ _ q => q, fun x x0 x1 q => hu6 j j0 j1 x x0 x1 q, fun S s1 _ x x0 x1 q => s1 x x0 x1 q, Or.inr (by have := (cnt_rng (gS G1 a_uses (j).toNat)).1; omega)⟩)⟩) (Nat.lt_succ_self _)
      · -- 5 to 8
        refine s_aload_n dX12_closes_8 rfl (Int.natCast_nonneg _) ?_
        refine gf_uses rfl dX12_closes_9 hMG1 ?_
        refine s_iload_n dX12_closes_12 rfl ?_
        refine s_iload_n dX12_closes_13 rfl ?_
        refine s_iload_n dX12_closes_14 rfl ?_
        refine cs_X12_367 rfl gX12_has dX12_closes_15 (by rw [hcf]; decide) (as := [(0, s), (0, k1)]) rfl (Nat.le_of_ble_eq_true rfl) ⟨s, k1, rfl, ?_⟩
        show WP kX12_closes X 18 [some (2, ((1000 : Nat) : Int)), some (0, s), some (0, k1), none, none] [(0, b2i (bitI s k1)), (0, k1), (2, ((a_uses : Nat) : Int))] G1
        refine s_if_eqB (tgt := 36) dX12_closes_18 (by decide) (fun c34 => ?_) (fun c34 => ?_)
        · -- 18 to 36
          refine s_iconst dX12_closes_36 (by decide) ?_
          refine r_iast dX12_closes_37 hMG1 (mg_a_uses hMG1) (by decide) (by omega) (by omega) (fun G35 eG35 hMG35 => ?_)
          have hFG35 : Fr nX12_closes jX12_closes G G35 := Fr.setA hFG1 eG35 (by decide)
          show WP kX12_closes X 38 [some (2, ((1000 : Nat) : Int)), some (0, s), some (0, k1), none, none] [] G35
          refine s_aload_n dX12_closes_38 rfl (Int.natCast_nonneg _) ?_
          refine gf_reaches rfl dX12_closes_39 hMG35 ?_
          refine s_iload_n dX12_closes_42 rfl ?_
          refine s_aload_n dX12_closes_43 rfl (Int.natCast_nonneg _) ?_
          refine gf_uses rfl dX12_closes_44 hMG35 ?_
          refine s_iload_n dX12_closes_47 rfl ?_
          refine s_iald dX12_closes_48 (mg_a_uses hMG35) (by omega) (by omega) (gsaE eG35) ?_
          refine r_iast dX12_closes_49 hMG35 (mg_a_reaches hMG35) (by decide) (by omega) (by omega) (fun G36 eG36 hMG36 => ?_)
          have hFG36 : Fr nX12_closes jX12_closes G G36 := Fr.setA hFG35 eG36 (by decide)
          show WP kX12_closes X 50 [some (2, ((1000 : Nat) : Int)), some (0, s), some (0, k1), none, none] [] G36
          refine s_iinc dX12_closes_50 (v := k1) rfl (by omega) (by decide) (lv' := [some (2, ((1000 : Nat) : Int)), some (0, s), some (0, k1 + 1), none, none]) rfl ?_
          refine s_goto (tgt := 2) dX12_closes_53 (by decide) ?_
          exact ih1 (k1 + 1) G36 hMG36 hFG36 (⟨(by omega), (by exact (iF1).agr ((Fr.setA (Fr.setA (Fr.rf) eG35 (by decide)) eG36 (by decide) : Fr [a_uses, a_reaches] [] G1 G36).agr (by decide) (by decide) (by decide)) (by rw [(Fr.setA (Fr.setA (Fr.rf) eG35 (by decide)) eG36 (by decide) : Fr [a_uses, a_reaches] [] G1 G36).atF (j := 42) (by decide) (by decide)]; exact Int.le_refl _)), (by exact iX1.trans (FX.agf (Fr.setA (Fr.setA (Fr.rf) eG35 (by decide)) eG36 (by decide) : Fr [a_uses, a_reaches] [] G1 G36) (by decide) (by decide) (by decide))), (by exact ⟨iT1.1.agr ((Fr.setA (Fr.setA (Fr.rf) eG35 (by decide)) eG36 (by decide) : Fr [a_uses, a_reaches] [] G1 G36).agr (by decide) (by decide) (by decide)), iT1.2.trans (TX.agr ((Fr.setA (Fr.setA (Fr.rf) eG35 (by decide)) eG36 (by decide) : Fr [a_uses, a_reaches] [] G1 G36).agr (by decide) (by decide) (by decide)))⟩), (by rw [(Fr.setA (Fr.setA (Fr.rf) eG35 (by decide)) eG36 (by decide) : Fr [a_uses, a_reaches] [] G1 G36).atF (j := 35) (by decide) (by decide)]; omega), (by rw [(Fr.setA (Fr.setA (Fr.rf) eG35 (by decide)) eG36 (by decide) : Fr [a_uses, a_reaches] [] G1 G36).atF (j := 26) (by decide) (by decide)]; exact if1), (by intro j j0 j1; by_cases hj : j = k1; (subst hj; rw [gsnE eG36 (by decide), g_at (g_upd eG35), g_at (g_upd eG36)]; exact ⟨fun i i0 i1 q => by exact absurd q (bitI_0 i0 i1), rfl⟩); (rw [gsnE eG36 (by decide), g_ne (g_upd eG35) (by omega), g_ne (g_upd eG36) (by omega), gsnE eG35 (by decide)]; exact iu1 j j0 (by omega)))⟩) (by omega)
        · -- 18 to 21
          refine s_aload_n dX12_closes_21 rfl (Int.natCast_nonneg _) ?_
          refine s_aload_n dX12_closes_22 rfl (Int.natCast_nonneg _) ?_
          refine gf_equation rfl dX12_closes_23 hMG1 ?_
          refine s_iload_n dX12_closes_26 rfl ?_
          refine s_iald dX12_closes_27 (mg_a_equation hMG1) (by omega) (by omega) rfl ?_
          have he1 := hE k1 (by omega) (by omega) (by assumption)
          have hq : (gS G1 a_equation (k1).toNat) = (gS G a_equation (k1).toNat) := hFG1.atA (by decide) (by decide)
          have hxe := iX1.2 _ he1.1.1 he1.1.2
          rw [← hq] at he1 hxe
          refine cv_X12_371 rfl gX12_opens dX12_closes_28 hMG1 (by rw [hcf]; decide) (as := [(0, gS G1 a_equation ((k1).toNat))]) rfl (Nat.le_of_ble_eq_true rfl) ⟨gS G1 a_equation ((k1).toNat), rfl, hMG1, (by first | assumption | omega), (by first | assumption | omega), (by first | assumption | omega), (by first | assumption | omega), fun r38 G37 hMG37 hpG37 => ?_⟩
          obtain ⟨hfG37, hpG37⟩ := hpG37
          have hFG37 : Fr nX12_closes jX12_closes G G37 := Fr.call hFG1 hfG37 (by decide) (by decide)
          show WP kX12_closes X 31 [some (2, ((1000 : Nat) : Int)), some (0, s), some (0, k1), none, none] [(0, r38), (0, k1), (2, ((a_uses : Nat) : Int))] G37
          refine s_iload_n dX12_closes_31 rfl ?_
          refine s_iand dX12_closes_32 ?_
          refine s_goto (tgt := 37) dX12_closes_33 (by decide) ?_
          refine r_iast dX12_closes_37 hMG37 (mg_a_uses hMG37) (by decide) (by omega) (by omega) (fun G39 eG39 hMG39 => ?_)
          have hFG39 : Fr nX12_closes jX12_closes G G39 := Fr.setA hFG37 eG39 (by decide)
          show WP kX12_closes X 38 [some (2, ((1000 : Nat) : Int)), some (0, s), some (0, k1), none, none] [] G39
          refine s_aload_n dX12_closes_38 rfl (Int.natCast_nonneg _) ?_
          refine gf_reaches rfl dX12_closes_39 hMG39 ?_
          refine s_iload_n dX12_closes_42 rfl ?_
          refine s_aload_n dX12_closes_43 rfl (Int.natCast_nonneg _) ?_
          refine gf_uses rfl dX12_closes_44 hMG39 ?_
          refine s_iload_n dX12_closes_47 rfl ?_
          refine s_iald dX12_closes_48 (mg_a_uses hMG39) (by omega) (by omega) (gsaE eG39) ?_
          refine r_iast dX12_closes_49 hMG39 (mg_a_reaches hMG39) (by decide) (by omega) (by omega) (fun G40 eG40 hMG40 => ?_)
          have hFG40 : Fr nX12_closes jX12_closes G G40 := Fr.setA hFG39 eG40 (by decide)
          show WP kX12_closes X 50 [some (2, ((1000 : Nat) : Int)), some (0, s), some (0, k1), none, none] [] G40
          refine s_iinc dX12_closes_50 (v := k1) rfl (by omega) (by decide) (lv' := [some (2, ((1000 : Nat) : Int)), some (0, s), some (0, k1 + 1), none, none]) rfl ?_
          refine s_goto (tgt := 2) dX12_closes_53 (by decide) ?_
          exact ih1 (k1 + 1) G40 hMG40 hFG40 (⟨(by omega), (by exact (hpG37.1).agr ((Fr.setA (Fr.setA (Fr.rf) eG39 (by decide)) eG40 (by decide) : Fr [a_uses, a_reaches] [] G37 G40).agr (by decide) (by decide) (by decide)) (by rw [(Fr.setA (Fr.setA (Fr.rf) eG39 (by decide)) eG40 (by decide) : Fr [a_uses, a_reaches] [] G37 G40).atF (j := 42) (by decide) (by decide)]; exact Int.le_refl _)), (by exact (iX1.trans hpG37.2.1).trans (FX.agf (Fr.setA (Fr.setA (Fr.rf) eG39 (by decide)) eG40 (by decide) : Fr [a_uses, a_reaches] [] G37 G40) (by decide) (by decide) (by decide))), (by exact ⟨iT1.1.agr ((Fr.setA (Fr.setA (Fr.call (Fr.rf) hfG37 (by decide) (by decide)) eG39 (by decide)) eG40 (by decide) : Fr [a_fMark, a_stackOf, a_uses, a_reaches] [35, 36] G1 G40).agr (by decide) (by decide) (by decide)), iT1.2.trans (TX.agr ((Fr.setA (Fr.setA (Fr.call (Fr.rf) hfG37 (by decide) (by decide)) eG39 (by decide)) eG40 (by decide) : Fr [a_fMark, a_stackOf, a_uses, a_reaches] [35, 36] G1 G40).agr (by decide) (by decide) (by decide)))⟩), (by rw [(Fr.setA (Fr.setA (Fr.rf) eG39 (by decide)) eG40 (by decide) : Fr [a_uses, a_reaches] [] G37 G40).atF (j := 35) (by decide) (by decide)]; have z9 := hpG37.2.2; omega), (by rw [(Fr.setA (Fr.setA (Fr.call (Fr.rf) hfG37 (by decide) (by decide)) eG39 (by decide)) eG40 (by decide) : Fr [a_fMark, a_stackOf, a_uses, a_reaches] [35, 36] G1 G40).atF (j := 26) (by decide) (by decide)]; exact if1), (by intro j j0 j1; by_cases hj : j = k1; (subst hj; rw [gsnE eG40 (by decide), g_at (g_upd eG39), g_at (g_upd eG40)]; exact ⟨fun i i0 i1 q => by exact ((bitI_and i0 i1).mp q).2, rfl⟩); (rw [gsnE eG40 (by decide), g_ne (g_upd eG39) (by omega), g_ne (g_upd eG40) (by omega), gsnE eG39 (by decide), (Fr.call (Fr.rf) hfG37 (by decide) (by decide) : Fr [a_fMark, a_stackOf] [35, 36] G1 G37).atA (n := a_uses) (by decide) (by decide), (Fr.call (Fr.rf) hfG37 (by decide) (by decide) : Fr [a_fMark, a_stackOf] [35, 36] G1 G37).atA (n := a_reaches) (by decide) (by decide)]; exact iu1 j j0 (by omega)))⟩) (by omega)
  exact L1 _ 0 G hM Fr.rf (⟨(by omega), (by exact hFU), (by exact FX.rf), (by exact ⟨hTH, TX.rf⟩), (by omega), (by rfl), (by intro j j0 j1; omega)⟩) (Nat.lt_succ_self _)
