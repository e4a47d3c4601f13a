abbrev nX12_choiceError : List Nat := [a_fKind, a_fA, a_fB, a_fSize, a_fNext, a_fHead, a_fMark]
abbrev jX12_choiceError : List Nat := [26]
def TX12_choiceError : TR := fun as G Qr => ∃ (a b c : Int) (Hs : List (Int → Int)), as = [(2, ((1000 : Nat) : Int)), (0, a), (0, b), (0, c)] ∧ MG G ∧ (FU G) ∧ (TH G Hs) ∧ (0 ≤ a ∧ a < 43) ∧ (0 ≤ b ∧ b < 43) ∧ (0 ≤ c ∧ c < 43) ∧ ((gS G 1000 26) + 1 < 150000) ∧ ∀ (r : Int) (G' : LG), MG G' → (Fr nX12_choiceError jX12_choiceError G G' ∧ (FE G G' Hs 1 0 ∧ (r = 0 → ∀ j : Int, 0 ≤ j → j < 10 → ¬ (gS G a_sValue (10 * a + j).toNat) = -1 → ¬ (gS G a_sValue (10 * b + j).toNat) = -1))) → Qr (.inl (some (0, r))) G'
set_option maxHeartbeats 4000000 in
set_option maxRecDepth 100000 in
theorem gX12_choiceError : Good kX12_choiceError yX12_choiceError 1 TX12_choiceError := by
  refine good_of (by decide) rfl rfl (fun as G Qr h => ?_) (fun X as G Qr hcf hR hT oa => ?_)
  · obtain ⟨a, b, c, Hs, rfl, -⟩ := h; exact Nat.le_of_ble_eq_true rfl
  obtain ⟨a, b, c, Hs, rfl, hM, hFU, hTH, ha, hb, hc3, hc, hQ⟩ := hT
  show WP kX12_choiceError X 0 [some (2, ((1000 : Nat) : Int)), some (0, a), some (0, b), some (0, c), none, none] [] G
  have hr_a : inR a := okv_R (oa _ (by simp))
  have hr_b : inR b := okv_R (oa _ (by simp))
  have hr_c : inR c := okv_R (oa _ (by simp))
  have hff0 := hFU.f
  refine s_aload_n dX12_choiceError_0 rfl (Int.natCast_nonneg _) ?_
  refine s_iconst dX12_choiceError_1 (by decide) ?_
  refine s_iconst dX12_choiceError_2 (by decide) ?_
  refine s_iconst dX12_choiceError_3 (by decide) ?_
  refine cv_X12_338 rfl gX12_full dX12_choiceError_4 hM (by rw [hcf]; decide) (as := [(0, 0), (0, 0), (0, 0)]) rfl (Nat.le_of_ble_eq_true rfl) ⟨0, 0, 0, rfl, hM, (by first | assumption | omega), (by first | assumption | omega), (by first | assumption | omega), (by first | assumption | omega), (by first | assumption | omega), (by first | assumption | omega), fun r2 G1 hMG1 hpG1 => ?_⟩
  obtain ⟨hfG1, hpG1⟩ := hpG1
  have hFG1 : Fr nX12_choiceError jX12_choiceError G G1 := Fr.call Fr.rf hfG1 (by decide) (by decide)
  show WP kX12_choiceError X 7 [some (2, ((1000 : Nat) : Int)), some (0, a), some (0, b), some (0, c), none, none] [(0, r2)] G1
  have hEf : FE G G1 Hs 1 0 := FE.full (c := 1) hpG1.1 hpG1.2.2.1 hTH hpG1.2.1.2.2 hfG1 (by decide) (by decide) (by decide) (by decide)
  have hfF := hfG1
  refine s_istore dX12_choiceError_7 (by decide) (lv' := [some (2, ((1000 : Nat) : Int)), some (0, a), some (0, b), some (0, c), some (0, r2), none]) rfl ?_
  refine s_aload_n dX12_choiceError_9 rfl (Int.natCast_nonneg _) ?_
  refine s_iload_n dX12_choiceError_10 rfl ?_
  refine s_iconst dX12_choiceError_11 (by decide) ?_
  refine cv_X12_388 rfl gX12_isOf dX12_choiceError_12 hMG1 (by rw [hcf]; decide) (as := [(0, c), (0, 0)]) rfl (Nat.le_of_ble_eq_true rfl) ⟨c, 0, rfl, hMG1, (by first | assumption | omega), (by first | assumption | omega), ?_⟩
  show WP kX12_choiceError X 15 [some (2, ((1000 : Nat) : Int)), some (0, a), some (0, b), some (0, c), some (0, r2), none] [(0, (gS G1 a_sValue (10 * c + 0).toNat))] G1
  refine s_iload dX12_choiceError_15 rfl ?_
  refine s_icmp_ne (tgt := 38) dX12_choiceError_17 (by decide) (fun c3 => ?_) (fun c3 => ?_)
  · -- 17 to 38
    refine s_sipush dX12_choiceError_38 rfl (by decide) ?_
    exact s_iret hR dX12_choiceError_41 rfl (hQ _ G1 hMG1 (⟨hFG1, ⟨hEf, fun q => by omega⟩⟩))
  · -- 17 to 20
    refine s_aload_n dX12_choiceError_20 rfl (Int.natCast_nonneg _) ?_
    refine s_iload_n dX12_choiceError_21 rfl ?_
    refine s_iconst dX12_choiceError_22 (by decide) ?_
    refine cv_X12_398 rfl gX12_isHole dX12_choiceError_23 hMG1 (by rw [hcf]; decide) (as := [(0, c), (0, 0)]) rfl (Nat.le_of_ble_eq_true rfl) ⟨c, 0, rfl, hMG1, (by first | assumption | omega), (by first | assumption | omega), ?_⟩
    show WP kX12_choiceError X 26 [some (2, ((1000 : Nat) : Int)), some (0, a), some (0, b), some (0, c), some (0, r2), none] [(0, b2i (¬ i_and (gS G1 a_sFlags (10 * c + 0).toNat) 1 = 0))] G1
    refine s_if_neB (tgt := 38) dX12_choiceError_26 (by decide) (fun c4 => ?_) (fun c4 => ?_)
    · -- 26 to 38
      refine s_sipush dX12_choiceError_38 rfl (by decide) ?_
      exact s_iret hR dX12_choiceError_41 rfl (hQ _ G1 hMG1 (⟨hFG1, ⟨hEf, fun q => by omega⟩⟩))
    · -- 26 to 29
      refine s_aload_n dX12_choiceError_29 rfl (Int.natCast_nonneg _) ?_
      refine s_iload_n dX12_choiceError_30 rfl ?_
      refine s_iconst dX12_choiceError_31 (by decide) ?_
      refine cv_X12_410 rfl gX12_isGhost dX12_choiceError_32 hMG1 (by rw [hcf]; decide) (as := [(0, c), (0, 0)]) rfl (Nat.le_of_ble_eq_true rfl) ⟨c, 0, rfl, hMG1, (by first | assumption | omega), (by first | assumption | omega), ?_⟩
      show WP kX12_choiceError X 35 [some (2, ((1000 : Nat) : Int)), some (0, a), some (0, b), some (0, c), some (0, r2), none] [(0, b2i (¬ i_and (gS G1 a_sFlags (10 * c + 0).toNat) 2 = 0))] G1
      refine s_if_eqB (tgt := 42) dX12_choiceError_35 (by decide) (fun c5 => ?_) (fun c5 => ?_)
      · -- 35 to 42
        refine s_iconst dX12_choiceError_42 (by decide) ?_
        refine s_istore dX12_choiceError_43 (by decide) (lv' := [some (2, ((1000 : Nat) : Int)), some (0, a), some (0, b), some (0, c), some (0, r2), some (0, 0)]) rfl ?_
        have L6 : ∀ (n6 : Nat) (k6 : Int), ((0 ≤ k6 ∧ k6 ≤ 10)) → (10 - k6).toNat < n6 → WP kX12_choiceError X 45 [some (2, ((1000 : Nat) : Int)), some (0, a), some (0, b), some (0, c), some (0, r2), some (0, k6)] [] G1 := by
          intro n6
          induction n6 with
          | zero => intro k6 hi6 hm6; exact absurd hm6 (Nat.not_lt_zero _)
          | succ n6 ih6 =>
            intro k6 hi6 hm6
            have hj6 := hi6
            obtain ⟨ik6⟩ := hi6
            refine s_iload dX12_choiceError_45 rfl ?_
            refine s_bipush dX12_choiceError_47 rfl (by decide) ?_
            refine s_icmp_ge (tgt := 96) dX12_choiceError_49 (by decide) (fun c7 => ?_) (fun c7 => ?_)
            · -- 49 to 96
              refine s_iconst dX12_choiceError_96 (by decide) ?_
              refine s_istore dX12_choiceError_97 (by decide) (lv' := [some (2, ((1000 : Nat) : Int)), some (0, a), some (0, b), some (0, c), some (0, r2), some (0, 0)]) rfl ?_
              have L8 : ∀ (n8 : Nat) (k8 : Int), ((0 ≤ k8 ∧ k8 ≤ 6)) → (6 - k8).toNat < n8 → WP kX12_choiceError X 99 [some (2, ((1000 : Nat) : Int)), some (0, a), some (0, b), some (0, c), some (0, r2), some (0, k8)] [] G1 := by
                intro n8
                induction n8 with
                | zero => intro k8 hi8 hm8; exact absurd hm8 (Nat.not_lt_zero _)
                | succ n8 ih8 =>
                  intro k8 hi8 hm8
                  have hj8 := hi8
                  obtain ⟨ik8⟩ := hi8
                  refine s_iload dX12_choiceError_99 rfl ?_
                  refine s_bipush dX12_choiceError_101 rfl (by decide) ?_
                  refine s_icmp_ge (tgt := 156) dX12_choiceError_103 (by decide) (fun c9 => ?_) (fun c9 => ?_)
                  · -- 103 to 156
                    refine s_iconst dX12_choiceError_156 (by decide) ?_
                    refine s_istore dX12_choiceError_157 (by decide) (lv' := [some (2, ((1000 : Nat) : Int)), some (0, a), some (0, b), some (0, c), some (0, r2), some (0, 0)]) rfl ?_
                    have L10 : ∀ (n10 : Nat) (k10 : Int), ((0 ≤ k10 ∧ k10 ≤ 10) ∧ (∀ j : Int, 0 ≤ j → j < k10 → ¬ (gS G1 a_sValue (10 * a + j).toNat) = -1 → ¬ (gS G1 a_sValue (10 * b + j).toNat) = -1)) → (10 - k10).toNat < n10 → WP kX12_choiceError X 159 [some (2, ((1000 : Nat) : Int)), some (0, a), some (0, b), some (0, c), some (0, r2), some (0, k10)] [] G1 := by
                      intro n10
                      induction n10 with
                      | zero => intro k10 hi10 hm10; exact absurd hm10 (Nat.not_lt_zero _)
                      | succ n10 ih10 =>
                        intro k10 hi10 hm10
                        have hj10 := hi10
                        obtain ⟨ik10, iD10⟩ := hi10
                        refine s_iload dX12_choiceError_159 rfl ?_
                        refine s_bipush dX12_choiceError_161 rfl (by decide) ?_
                        refine s_icmp_ge (tgt := 214) dX12_choiceError_163 (by decide) (fun c11 => ?_) (fun c11 => ?_)
                        · -- 163 to 214
                          refine s_iconst dX12_choiceError_214 (by decide) ?_
                          refine s_istore dX12_choiceError_215 (by decide) (lv' := [some (2, ((1000 : Nat) : Int)), some (0, a), some (0, b), some (0, c), some (0, r2), some (0, 0)]) rfl ?_
                          have L12 : ∀ (n12 : Nat) (k12 : Int), ((0 ≤ k12 ∧ k12 ≤ 6)) → (6 - k12).toNat < n12 → WP kX12_choiceError X 217 [some (2, ((1000 : Nat) : Int)), some (0, a), some (0, b), some (0, c), some (0, r2), some (0, k12)] [] G1 := by
                            intro n12
                            induction n12 with
                            | zero => intro k12 hi12 hm12; exact absurd hm12 (Nat.not_lt_zero _)
                            | succ n12 ih12 =>
                              intro k12 hi12 hm12
                              have hj12 := hi12
                              obtain ⟨ik12⟩ := hi12
                              refine s_iload dX12_choiceError_217 rfl ?_
                              refine s_bipush dX12_choiceError_219 rfl (by decide) ?_
                              refine s_icmp_ge (tgt := 259) dX12_choiceError_221 (by decide) (fun c13 => ?_) (fun c13 => ?_)
                              · -- 221 to 259
                                refine s_iconst dX12_choiceError_259 (by decide) ?_
                                refine s_istore dX12_choiceError_260 (by decide) (lv' := [some (2, ((1000 : Nat) : Int)), some (0, a), some (0, b), some (0, c), some (0, r2), some (0, 0)]) rfl ?_
                                have L14 : ∀ (n14 : Nat) (k14 : Int), ((0 ≤ k14 ∧ k14 ≤ 10)) → (10 - k14).toNat < n14 → WP kX12_choiceError X 262 [some (2, ((1000 : Nat) : Int)), some (0, a), some (0, b), some (0, c), some (0, r2), some (0, k14)] [] G1 := by
                                  intro n14
                                  induction n14 with
                                  | zero => intro k14 hi14 hm14; exact absurd hm14 (Nat.not_lt_zero _)
                                  | succ n14 ih14 =>
                                    intro k14 hi14 hm14
                                    have hj14 := hi14
                                    obtain ⟨ik14⟩ := hi14
                                    refine s_iload dX12_choiceError_262 rfl ?_
                                    refine s_bipush dX12_choiceError_264 rfl (by decide) ?_
                                    refine s_icmp_ge (tgt := 313) dX12_choiceError_266 (by decide) (fun c15 => ?_) (fun c15 => ?_)
                                    · -- 266 to 313
                                      refine s_iconst dX12_choiceError_313 (by decide) ?_
                                      exact s_iret hR dX12_choiceError_314 rfl (hQ _ G1 hMG1 (⟨hFG1, ⟨hEf, fun _ j j0 j1 q => by have z9 := iD10 j j0 (by omega); rw [hfF.atA (by decide) (by decide), hfF.atA (by decide) (by decide)] at z9; exact z9 q⟩⟩))
                                    · -- 266 to 269
                                      refine s_aload_n dX12_choiceError_269 rfl (Int.natCast_nonneg _) ?_
                                      refine s_iload_n dX12_choiceError_270 rfl ?_
                                      refine s_iload dX12_choiceError_271 rfl ?_
                                      refine cv_X12_388 rfl gX12_isOf dX12_choiceError_273 hMG1 (by rw [hcf]; decide) (as := [(0, a), (0, k14)]) rfl (Nat.le_of_ble_eq_true rfl) ⟨a, k14, rfl, hMG1, (by first | assumption | omega), (by first | assumption | omega), ?_⟩
                                      show WP kX12_choiceError X 276 [some (2, ((1000 : Nat) : Int)), some (0, a), some (0, b), some (0, c), some (0, r2), some (0, k14)] [(0, (gS G1 a_sValue (10 * a + k14).toNat))] G1
                                      refine s_iconst dX12_choiceError_276 (by decide) ?_
                                      refine s_icmp_eq (tgt := 307) dX12_choiceError_277 (by decide) (fun c16 => ?_) (fun c16 => ?_)
                                      · -- 277 to 307
                                        refine s_iinc dX12_choiceError_307 (v := k14) rfl (by omega) (by decide) (lv' := [some (2, ((1000 : Nat) : Int)), some (0, a), some (0, b), some (0, c), some (0, r2), some (0, k14 + 1)]) rfl ?_
                                        refine s_goto (tgt := 262) dX12_choiceError_310 (by decide) ?_
                                        exact ih14 (k14 + 1) ((by omega)) (by omega)
                                      · -- 277 to 280
                                        refine s_aload_n dX12_choiceError_280 rfl (Int.natCast_nonneg _) ?_
                                        refine s_iload_n dX12_choiceError_281 rfl ?_
                                        refine s_iload dX12_choiceError_282 rfl ?_
                                        refine cv_X12_398 rfl gX12_isHole dX12_choiceError_284 hMG1 (by rw [hcf]; decide) (as := [(0, a), (0, k14)]) rfl (Nat.le_of_ble_eq_true rfl) ⟨a, k14, rfl, hMG1, (by first | assumption | omega), (by first | assumption | omega), ?_⟩
                                        show WP kX12_choiceError X 287 [some (2, ((1000 : Nat) : Int)), some (0, a), some (0, b), some (0, c), some (0, r2), some (0, k14)] [(0, b2i (¬ i_and (gS G1 a_sFlags (10 * a + k14).toNat) 1 = 0))] G1
                                        refine s_if_neB (tgt := 300) dX12_choiceError_287 (by decide) (fun c17 => ?_) (fun c17 => ?_)
                                        · -- 287 to 300
                                          refine s_sipush dX12_choiceError_300 rfl (by decide) ?_
                                          refine s_iload dX12_choiceError_303 rfl ?_
                                          refine s_iadd dX12_choiceError_305 (by omega) ?_
                                          exact s_iret hR dX12_choiceError_306 rfl (hQ _ G1 hMG1 (⟨hFG1, ⟨hEf, fun q => by omega⟩⟩))
                                        · -- 287 to 290
                                          refine s_aload_n dX12_choiceError_290 rfl (Int.natCast_nonneg _) ?_
                                          refine s_iload_n dX12_choiceError_291 rfl ?_
                                          refine s_iload dX12_choiceError_292 rfl ?_
                                          refine cv_X12_398 rfl gX12_isHole dX12_choiceError_294 hMG1 (by rw [hcf]; decide) (as := [(0, b), (0, k14)]) rfl (Nat.le_of_ble_eq_true rfl) ⟨b, k14, rfl, hMG1, (by first | assumption | omega), (by first | assumption | omega), ?_⟩
                                          show WP kX12_choiceError X 297 [some (2, ((1000 : Nat) : Int)), some (0, a), some (0, b), some (0, c), some (0, r2), some (0, k14)] [(0, b2i (¬ i_and (gS G1 a_sFlags (10 * b + k14).toNat) 1 = 0))] G1
                                          refine s_if_eqB (tgt := 307) dX12_choiceError_297 (by decide) (fun c18 => ?_) (fun c18 => ?_)
                                          · -- 297 to 307
                                            refine s_iinc dX12_choiceError_307 (v := k14) rfl (by omega) (by decide) (lv' := [some (2, ((1000 : Nat) : Int)), some (0, a), some (0, b), some (0, c), some (0, r2), some (0, k14 + 1)]) rfl ?_
                                            refine s_goto (tgt := 262) dX12_choiceError_310 (by decide) ?_
                                            exact ih14 (k14 + 1) ((by omega)) (by omega)
                                          · -- 297 to 300
                                            refine s_sipush dX12_choiceError_300 rfl (by decide) ?_
                                            refine s_iload dX12_choiceError_303 rfl ?_
                                            refine s_iadd dX12_choiceError_305 (by omega) ?_
                                            exact s_iret hR dX12_choiceError_306 rfl (hQ _ G1 hMG1 (⟨hFG1, ⟨hEf, fun q => by omega⟩⟩))
                                exact L14 _ 0 ((by omega)) (Nat.lt_succ_self _)
                              · -- 221 to 224
                                refine s_aload_n dX12_choiceError_224 rfl (Int.natCast_nonneg _) ?_
                                refine s_iload_n dX12_choiceError_225 rfl ?_
                                refine s_iload dX12_choiceError_226 rfl ?_
                                refine cv_X12_413 rfl gX12_isType_ dX12_choiceError_228 hMG1 (by rw [hcf]; decide) (as := [(0, a), (0, k12)]) rfl (Nat.le_of_ble_eq_true rfl) ⟨a, k12, rfl, hMG1, (by first | assumption | omega), (by first | assumption | omega), ?_⟩
                                show WP kX12_choiceError X 231 [some (2, ((1000 : Nat) : Int)), some (0, a), some (0, b), some (0, c), some (0, r2), some (0, k12)] [(0, (gS G1 a_sType (6 * a + k12).toNat))] G1
                                refine s_iconst dX12_choiceError_231 (by decide) ?_
                                refine s_icmp_eq (tgt := 246) dX12_choiceError_232 (by decide) (fun c19 => ?_) (fun c19 => ?_)
                                · -- 232 to 246
                                  refine s_sipush dX12_choiceError_246 rfl (by decide) ?_
                                  refine s_iload dX12_choiceError_249 rfl ?_
                                  refine s_iadd dX12_choiceError_251 (by omega) ?_
                                  exact s_iret hR dX12_choiceError_252 rfl (hQ _ G1 hMG1 (⟨hFG1, ⟨hEf, fun q => by omega⟩⟩))
                                · -- 232 to 235
                                  refine s_aload_n dX12_choiceError_235 rfl (Int.natCast_nonneg _) ?_
                                  refine s_iload_n dX12_choiceError_236 rfl ?_
                                  refine s_iload dX12_choiceError_237 rfl ?_
                                  refine cv_X12_413 rfl gX12_isType_ dX12_choiceError_239 hMG1 (by rw [hcf]; decide) (as := [(0, b), (0, k12)]) rfl (Nat.le_of_ble_eq_true rfl) ⟨b, k12, rfl, hMG1, (by first | assumption | omega), (by first | assumption | omega), ?_⟩
                                  show WP kX12_choiceError X 242 [some (2, ((1000 : Nat) : Int)), some (0, a), some (0, b), some (0, c), some (0, r2), some (0, k12)] [(0, (gS G1 a_sType (6 * b + k12).toNat))] G1
                                  refine s_iconst dX12_choiceError_242 (by decide) ?_
                                  refine s_icmp_ne (tgt := 253) dX12_choiceError_243 (by decide) (fun c20 => ?_) (fun c20 => ?_)
                                  · -- 243 to 253
                                    refine s_iinc dX12_choiceError_253 (v := k12) rfl (by omega) (by decide) (lv' := [some (2, ((1000 : Nat) : Int)), some (0, a), some (0, b), some (0, c), some (0, r2), some (0, k12 + 1)]) rfl ?_
                                    refine s_goto (tgt := 217) dX12_choiceError_256 (by decide) ?_
                                    exact ih12 (k12 + 1) ((by omega)) (by omega)
                                  · -- 243 to 246
                                    refine s_sipush dX12_choiceError_246 rfl (by decide) ?_
                                    refine s_iload dX12_choiceError_249 rfl ?_
                                    refine s_iadd dX12_choiceError_251 (by omega) ?_
                                    exact s_iret hR dX12_choiceError_252 rfl (hQ _ G1 hMG1 (⟨hFG1, ⟨hEf, fun q => by omega⟩⟩))
                          exact L12 _ 0 ((by omega)) (Nat.lt_succ_self _)
                        · -- 163 to 166
                          refine s_aload_n dX12_choiceError_166 rfl (Int.natCast_nonneg _) ?_
                          refine s_iload_n dX12_choiceError_167 rfl ?_
                          refine s_iload dX12_choiceError_168 rfl ?_
                          refine cv_X12_388 rfl gX12_isOf dX12_choiceError_170 hMG1 (by rw [hcf]; decide) (as := [(0, a), (0, k10)]) rfl (Nat.le_of_ble_eq_true rfl) ⟨a, k10, rfl, hMG1, (by first | assumption | omega), (by first | assumption | omega), ?_⟩
                          show WP kX12_choiceError X 173 [some (2, ((1000 : Nat) : Int)), some (0, a), some (0, b), some (0, c), some (0, r2), some (0, k10)] [(0, (gS G1 a_sValue (10 * a + k10).toNat))] G1
                          refine s_iconst dX12_choiceError_173 (by decide) ?_
                          have J22 : ∀ z21 : Int, ((¬ ((gS G1 a_sValue (10 * a + k10).toNat)) = ((-1))) ∧ z21 = 0) ∨ ((((gS G1 a_sValue (10 * a + k10).toNat)) = ((-1))) ∧ z21 = 1) → WP kX12_choiceError X 182 [some (2, ((1000 : Nat) : Int)), some (0, a), some (0, b), some (0, c), some (0, r2), some (0, k10)] [(0, z21)] G1 := by
                            intro z21 hz21
                            refine s_aload_n dX12_choiceError_182 rfl (Int.natCast_nonneg _) ?_
                            refine s_iload_n dX12_choiceError_183 rfl ?_
                            refine s_iload dX12_choiceError_184 rfl ?_
                            refine cv_X12_388 rfl gX12_isOf dX12_choiceError_186 hMG1 (by rw [hcf]; decide) (as := [(0, b), (0, k10)]) rfl (Nat.le_of_ble_eq_true rfl) ⟨b, k10, rfl, hMG1, (by first | assumption | omega), (by first | assumption | omega), ?_⟩
                            show WP kX12_choiceError X 189 [some (2, ((1000 : Nat) : Int)), some (0, a), some (0, b), some (0, c), some (0, r2), some (0, k10)] [(0, (gS G1 a_sValue (10 * b + k10).toNat)), (0, z21)] G1
                            refine s_iconst dX12_choiceError_189 (by decide) ?_
                            have J24 : ∀ z23 : Int, ((¬ ((gS G1 a_sValue (10 * b + k10).toNat)) = ((-1))) ∧ z23 = 0) ∨ ((((gS G1 a_sValue (10 * b + k10).toNat)) = ((-1))) ∧ z23 = 1) → WP kX12_choiceError X 198 [some (2, ((1000 : Nat) : Int)), some (0, a), some (0, b), some (0, c), some (0, r2), some (0, k10)] [(0, z23), (0, z21)] G1 := by
                              intro z23 hz23
                              refine s_icmp_eq (tgt := 208) dX12_choiceError_198 (by decide) (fun c25 => ?_) (fun c25 => ?_)
                              · -- 198 to 208
                                refine s_iinc dX12_choiceError_208 (v := k10) rfl (by omega) (by decide) (lv' := [some (2, ((1000 : Nat) : Int)), some (0, a), some (0, b), some (0, c), some (0, r2), some (0, k10 + 1)]) rfl ?_
                                refine s_goto (tgt := 159) dX12_choiceError_211 (by decide) ?_
                                exact ih10 (k10 + 1) (⟨(by omega), (by intro j j0 j1; by_cases hj : j = k10; (subst hj; omega); (exact iD10 j j0 (by omega)))⟩) (by omega)
                              · -- 198 to 201
                                refine s_sipush dX12_choiceError_201 rfl (by decide) ?_
                                refine s_iload dX12_choiceError_204 rfl ?_
                                refine s_iadd dX12_choiceError_206 (by omega) ?_
                                exact s_iret hR dX12_choiceError_207 rfl (hQ _ G1 hMG1 (⟨hFG1, ⟨hEf, fun q => by omega⟩⟩))
                            refine s_icmp_ne (tgt := 197) dX12_choiceError_190 (by decide) (fun c26 => ?_) (fun c26 => ?_)
                            · -- 190 to 197
                              refine s_iconst dX12_choiceError_197 (by decide) ?_
                              exact J24 0 (Or.inl ⟨c26, rfl⟩)
                            · -- 190 to 193
                              refine s_iconst dX12_choiceError_193 (by decide) ?_
                              refine s_goto (tgt := 198) dX12_choiceError_194 (by decide) ?_
                              exact J24 1 (Or.inr (⟨c26, rfl⟩))
                          refine s_icmp_ne (tgt := 181) dX12_choiceError_174 (by decide) (fun c27 => ?_) (fun c27 => ?_)
                          · -- 174 to 181
                            refine s_iconst dX12_choiceError_181 (by decide) ?_
                            exact J22 0 (Or.inl ⟨c27, rfl⟩)
                          · -- 174 to 177
                            refine s_iconst dX12_choiceError_177 (by decide) ?_
                            refine s_goto (tgt := 182) dX12_choiceError_178 (by decide) ?_
                            exact J22 1 (Or.inr (⟨c27, rfl⟩))
                    exact L10 _ 0 (⟨(by omega), (by intro j j0 j1; omega)⟩) (Nat.lt_succ_self _)
                  · -- 103 to 106
                    refine s_aload_n dX12_choiceError_106 rfl (Int.natCast_nonneg _) ?_
                    refine s_iload_n dX12_choiceError_107 rfl ?_
                    refine s_iload dX12_choiceError_108 rfl ?_
                    refine cv_X12_413 rfl gX12_isType_ dX12_choiceError_110 hMG1 (by rw [hcf]; decide) (as := [(0, a), (0, k8)]) rfl (Nat.le_of_ble_eq_true rfl) ⟨a, k8, rfl, hMG1, (by first | assumption | omega), (by first | assumption | omega), ?_⟩
                    show WP kX12_choiceError X 113 [some (2, ((1000 : Nat) : Int)), some (0, a), some (0, b), some (0, c), some (0, r2), some (0, k8)] [(0, (gS G1 a_sType (6 * a + k8).toNat))] G1
                    refine s_bipush dX12_choiceError_113 rfl (by decide) ?_
                    have J29 : ∀ z28 : Int, ((¬ ((gS G1 a_sType (6 * a + k8).toNat)) = ((-2))) ∧ z28 = 0) ∨ ((((gS G1 a_sType (6 * a + k8).toNat)) = ((-2))) ∧ z28 = 1) → WP kX12_choiceError X 123 [some (2, ((1000 : Nat) : Int)), some (0, a), some (0, b), some (0, c), some (0, r2), some (0, k8)] [(0, z28)] G1 := by
                      intro z28 hz28
                      refine s_aload_n dX12_choiceError_123 rfl (Int.natCast_nonneg _) ?_
                      refine s_iload_n dX12_choiceError_124 rfl ?_
                      refine s_iload dX12_choiceError_125 rfl ?_
                      refine cv_X12_413 rfl gX12_isType_ dX12_choiceError_127 hMG1 (by rw [hcf]; decide) (as := [(0, b), (0, k8)]) rfl (Nat.le_of_ble_eq_true rfl) ⟨b, k8, rfl, hMG1, (by first | assumption | omega), (by first | assumption | omega), ?_⟩
                      show WP kX12_choiceError X 130 [some (2, ((1000 : Nat) : Int)), some (0, a), some (0, b), some (0, c), some (0, r2), some (0, k8)] [(0, (gS G1 a_sType (6 * b + k8).toNat)), (0, z28)] G1
                      refine s_bipush dX12_choiceError_130 rfl (by decide) ?_
                      have J31 : ∀ z30 : Int, ((¬ ((gS G1 a_sType (6 * b + k8).toNat)) = ((-2))) ∧ z30 = 0) ∨ ((((gS G1 a_sType (6 * b + k8).toNat)) = ((-2))) ∧ z30 = 1) → WP kX12_choiceError X 140 [some (2, ((1000 : Nat) : Int)), some (0, a), some (0, b), some (0, c), some (0, r2), some (0, k8)] [(0, z30), (0, z28)] G1 := by
                        intro z30 hz30
                        refine s_icmp_eq (tgt := 150) dX12_choiceError_140 (by decide) (fun c32 => ?_) (fun c32 => ?_)
                        · -- 140 to 150
                          refine s_iinc dX12_choiceError_150 (v := k8) rfl (by omega) (by decide) (lv' := [some (2, ((1000 : Nat) : Int)), some (0, a), some (0, b), some (0, c), some (0, r2), some (0, k8 + 1)]) rfl ?_
                          refine s_goto (tgt := 99) dX12_choiceError_153 (by decide) ?_
                          exact ih8 (k8 + 1) ((by omega)) (by omega)
                        · -- 140 to 143
                          refine s_sipush dX12_choiceError_143 rfl (by decide) ?_
                          refine s_iload dX12_choiceError_146 rfl ?_
                          refine s_iadd dX12_choiceError_148 (by omega) ?_
                          exact s_iret hR dX12_choiceError_149 rfl (hQ _ G1 hMG1 (⟨hFG1, ⟨hEf, fun q => by omega⟩⟩))
                      refine s_icmp_ne (tgt := 139) dX12_choiceError_132 (by decide) (fun c33 => ?_) (fun c33 => ?_)
                      · -- 132 to 139
                        refine s_iconst dX12_choiceError_139 (by decide) ?_
                        exact J31 0 (Or.inl ⟨c33, rfl⟩)
                      · -- 132 to 135
                        refine s_iconst dX12_choiceError_135 (by decide) ?_
                        refine s_goto (tgt := 140) dX12_choiceError_136 (by decide) ?_
                        exact J31 1 (Or.inr (⟨c33, rfl⟩))
                    refine s_icmp_ne (tgt := 122) dX12_choiceError_115 (by decide) (fun c34 => ?_) (fun c34 => ?_)
                    · -- 115 to 122
                      refine s_iconst dX12_choiceError_122 (by decide) ?_
                      exact J29 0 (Or.inl ⟨c34, rfl⟩)
                    · -- 115 to 118
                      refine s_iconst dX12_choiceError_118 (by decide) ?_
                      refine s_goto (tgt := 123) dX12_choiceError_119 (by decide) ?_
                      exact J29 1 (Or.inr (⟨c34, rfl⟩))
              exact L8 _ 0 ((by omega)) (Nat.lt_succ_self _)
            · -- 49 to 52
              refine s_aload_n dX12_choiceError_52 rfl (Int.natCast_nonneg _) ?_
              refine s_iload_n dX12_choiceError_53 rfl ?_
              refine s_iload dX12_choiceError_54 rfl ?_
              refine cv_X12_388 rfl gX12_isOf dX12_choiceError_56 hMG1 (by rw [hcf]; decide) (as := [(0, c), (0, k6)]) rfl (Nat.le_of_ble_eq_true rfl) ⟨c, k6, rfl, hMG1, (by first | assumption | omega), (by first | assumption | omega), ?_⟩
              show WP kX12_choiceError X 59 [some (2, ((1000 : Nat) : Int)), some (0, a), some (0, b), some (0, c), some (0, r2), some (0, k6)] [(0, (gS G1 a_sValue (10 * c + k6).toNat))] G1
              refine s_iconst dX12_choiceError_59 (by decide) ?_
              refine s_icmp_eq (tgt := 90) dX12_choiceError_60 (by decide) (fun c35 => ?_) (fun c35 => ?_)
              · -- 60 to 90
                refine s_iinc dX12_choiceError_90 (v := k6) rfl (by omega) (by decide) (lv' := [some (2, ((1000 : Nat) : Int)), some (0, a), some (0, b), some (0, c), some (0, r2), some (0, k6 + 1)]) rfl ?_
                refine s_goto (tgt := 45) dX12_choiceError_93 (by decide) ?_
                exact ih6 (k6 + 1) ((by omega)) (by omega)
              · -- 60 to 63
                refine s_aload_n dX12_choiceError_63 rfl (Int.natCast_nonneg _) ?_
                refine s_iload_n dX12_choiceError_64 rfl ?_
                refine s_iload dX12_choiceError_65 rfl ?_
                refine cv_X12_398 rfl gX12_isHole dX12_choiceError_67 hMG1 (by rw [hcf]; decide) (as := [(0, c), (0, k6)]) rfl (Nat.le_of_ble_eq_true rfl) ⟨c, k6, rfl, hMG1, (by first | assumption | omega), (by first | assumption | omega), ?_⟩
                show WP kX12_choiceError X 70 [some (2, ((1000 : Nat) : Int)), some (0, a), some (0, b), some (0, c), some (0, r2), some (0, k6)] [(0, b2i (¬ i_and (gS G1 a_sFlags (10 * c + k6).toNat) 1 = 0))] G1
                refine s_if_eqB (tgt := 90) dX12_choiceError_70 (by decide) (fun c36 => ?_) (fun c36 => ?_)
                · -- 70 to 90
                  refine s_iinc dX12_choiceError_90 (v := k6) rfl (by omega) (by decide) (lv' := [some (2, ((1000 : Nat) : Int)), some (0, a), some (0, b), some (0, c), some (0, r2), some (0, k6 + 1)]) rfl ?_
                  refine s_goto (tgt := 45) dX12_choiceError_93 (by decide) ?_
                  exact ih6 (k6 + 1) ((by omega)) (by omega)
                · -- 70 to 73
                  refine s_aload_n dX12_choiceError_73 rfl (Int.natCast_nonneg _) ?_
                  refine s_iload_n dX12_choiceError_74 rfl ?_
                  refine s_iload dX12_choiceError_75 rfl ?_
                  refine cv_X12_410 rfl gX12_isGhost dX12_choiceError_77 hMG1 (by rw [hcf]; decide) (as := [(0, c), (0, k6)]) rfl (Nat.le_of_ble_eq_true rfl) ⟨c, k6, rfl, hMG1, (by first | assumption | omega), (by first | assumption | omega), ?_⟩
                  show WP kX12_choiceError X 80 [some (2, ((1000 : Nat) : Int)), some (0, a), some (0, b), some (0, c), some (0, r2), some (0, k6)] [(0, b2i (¬ i_and (gS G1 a_sFlags (10 * c + k6).toNat) 2 = 0))] G1
                  refine s_if_neB (tgt := 90) dX12_choiceError_80 (by decide) (fun c37 => ?_) (fun c37 => ?_)
                  · -- 80 to 90
                    refine s_iinc dX12_choiceError_90 (v := k6) rfl (by omega) (by decide) (lv' := [some (2, ((1000 : Nat) : Int)), some (0, a), some (0, b), some (0, c), some (0, r2), some (0, k6 + 1)]) rfl ?_
                    refine s_goto (tgt := 45) dX12_choiceError_93 (by decide) ?_
                    exact ih6 (k6 + 1) ((by omega)) (by omega)
                  · -- 80 to 83
                    refine s_sipush dX12_choiceError_83 rfl (by decide) ?_
                    refine s_iload dX12_choiceError_86 rfl ?_
                    refine s_iadd dX12_choiceError_88 (by omega) ?_
                    exact s_iret hR dX12_choiceError_89 rfl (hQ _ G1 hMG1 (⟨hFG1, ⟨hEf, fun q => by omega⟩⟩))
        exact L6 _ 0 ((by omega)) (Nat.lt_succ_self _)
      · -- 35 to 38
        refine s_sipush dX12_choiceError_38 rfl (by decide) ?_
        exact s_iret hR dX12_choiceError_41 rfl (hQ _ G1 hMG1 (⟨hFG1, ⟨hEf, fun q => by omega⟩⟩))

abbrev nX12_chooses : List Nat := [a_byStamp, a_by, a_fKind, a_fA, a_fB, a_fSize, a_fNext, a_fHead, a_fMark, a_thingKind, a_thingA, a_thingB, a_thingC, a_thingNext, a_thingHead, a_stackOf, a_fMemo, a_sType, a_sValue, a_sFlags, a_sNumber]
abbrev jX12_chooses : List Nat := [26, 42, 35, 36]
def TX12_chooses : TR := fun as G Qr => ∃ (n a b c s : Int) (Hs : List (Int → Int)) (vv : Int → Int), as = [(2, ((1000 : Nat) : Int)), (0, n), (0, a), (0, b), (0, c), (0, s)] ∧ MG G ∧ (FU G) ∧ (TH G Hs) ∧ (vv ∈ Hs) ∧ (0 ≤ n ∧ n < (gS G 1000 18)) ∧ (s = n) ∧ ((gS G a_nKind (n).toNat) = 4) ∧ (a = (gS G a_nFirst (n).toNat)) ∧ (b = (gS G a_nSecond (n).toNat)) ∧ (0 ≤ a ∧ a < n ∧ 0 ≤ b ∧ b < n ∧ n < 40) ∧ (0 ≤ c ∧ c < 40) ∧ (RT G (stN G vv a) a) ∧ (RV G (stN G vv a) a) ∧ (RV G (stN G vv b) b) ∧ (RT G NF s) ∧ (RV G NF s) ∧ (∀ j : Int, 0 ≤ j → j < 10 → (gS G a_sValue (10 * s + j).toNat) = -1) ∧ ((gS G 1000 26) + 4007 < 150000) ∧ ((gS G 1000 35) ≤ 1800000000) ∧ ∀ (r : Int) (G' : LG), MG G' → (Fr nX12_chooses jX12_chooses G G' ∧ (FE G G' Hs 4007 20 ∧ SlotFr s G G' ∧ RT G' (stN G' vv n) s ∧ RV G' (stN G' vv n) s ∧ (r = 0 → ∀ j : Int, 0 ≤ j → j < 10 → ¬ (gS G' a_sValue (10 * s + j).toNat) = -1 → ¬ (gS G a_sValue (10 * a + j).toNat) = -1 ∧ ¬ (gS G a_sValue (10 * b + j).toNat) = -1))) → Qr (.inl (some (0, r))) G'
set_option maxHeartbeats 4000000 in
set_option maxRecDepth 100000 in
theorem gX12_chooses : Good kX12_chooses yX12_chooses 4 TX12_chooses := by
  refine good_of (by decide) rfl rfl (fun as G Qr h => ?_) (fun X as G Qr hcf hR hT oa => ?_)
  · obtain ⟨n, a, b, c, s, Hs, vv, rfl, -⟩ := h; exact Nat.le_of_ble_eq_true rfl
  obtain ⟨n, a, b, c, s, Hs, vv, rfl, hM, hFU, hTH, hvv, hn, hsn, hkd, ha, hb, hA, hc3, hRTa, hRVa, hRVb, hRTs, hRVs, hcl, hc, hm, hQ⟩ := hT
  show WP kX12_chooses X 0 [some (2, ((1000 : Nat) : Int)), some (0, n), some (0, a), some (0, b), some (0, c), some (0, s), none, none, none, none] [] G
  have hr_n : inR n := okv_R (oa _ (by simp))
  have hr_a : inR a := okv_R (oa _ (by simp))
  have hr_b : inR b := okv_R (oa _ (by simp))
  have hr_c : inR c := okv_R (oa _ (by simp))
  have hr_s : inR s := okv_R (oa _ (by simp))
  have hFE0 := FE.rf hFU hTH
  have hff0 := hFU.f
  have hmk0 := hFU.2.1
  have hs0 : 0 ≤ s ∧ s < 40 := by omega
  refine s_aload_n dX12_chooses_0 rfl (Int.natCast_nonneg _) ?_
  refine s_iload_n dX12_chooses_1 rfl ?_
  refine s_iload_n dX12_chooses_2 rfl ?_
  refine s_iload dX12_chooses_3 rfl ?_
  refine cv_X12_434 rfl gX12_choiceError dX12_chooses_5 hM (by rw [hcf]; decide) (as := [(0, a), (0, b), (0, c)]) rfl (Nat.le_of_ble_eq_true rfl) ⟨a, b, c, Hs, rfl, hM, (by exact hFU), (by exact hTH), (by omega), (by omega), (by omega), (by omega), fun r2 G1 hMG1 hpG1 => ?_⟩
  obtain ⟨hfG1, hpG1⟩ := hpG1
  have hFG1 : Fr nX12_chooses jX12_chooses G G1 := Fr.call Fr.rf hfG1 (by decide) (by decide)
  show WP kX12_chooses X 8 [some (2, ((1000 : Nat) : Int)), some (0, n), some (0, a), some (0, b), some (0, c), some (0, s), none, none, none, none] [(0, r2)] G1
  refine s_istore dX12_chooses_8 (by decide) (lv' := [some (2, ((1000 : Nat) : Int)), some (0, n), some (0, a), some (0, b), some (0, c), some (0, s), some (0, r2), none, none, none]) rfl ?_
  have hEc := hpG1.1
  have hsc : SlotFr s G G1 := SlotFr.agr (hfG1.agr (by decide) (by decide) (by decide))
  have hTs0 : RT G1 NF s := hRTs.fx hEc.2.1 hFU (fun j _ _ => hfG1.atA (by decide) (by decide))
  have hVs0 : RV G1 NF s := hRVs.fx hEc.2.1 hFU (fun j _ _ => hfG1.atA (by decide) (by decide))
  have hfc := hfG1
  refine s_iload dX12_chooses_10 rfl ?_
  refine s_if_eq (tgt := 18) dX12_chooses_12 (by decide) (fun c3 => ?_) (fun c3 => ?_)
  · -- 12 to 18
    have hDc := hpG1.2 (by omega)
    refine s_iconst dX12_chooses_18 (by decide) ?_
    refine s_istore dX12_chooses_19 (by decide) (lv' := [some (2, ((1000 : Nat) : Int)), some (0, n), some (0, a), some (0, b), some (0, c), some (0, s), some (0, r2), some (0, 0), none, none]) rfl ?_
    have L4 : ∀ (n4 : Nat) (k4 : Int) (G4 : LG), MG G4 → Fr nX12_chooses jX12_chooses G G4 → ((0 ≤ k4 ∧ k4 ≤ 6) ∧ (FE G G4 Hs (1 + k4) 0) ∧ (Fr nCh jSe G G4) ∧ (SlotFr s G G4) ∧ (BS G4 vv n k4) ∧ (RT G4 (stN G4 vv n) s)) → (6 - k4).toNat < n4 → WP kX12_chooses X 21 [some (2, ((1000 : Nat) : Int)), some (0, n), some (0, a), some (0, b), some (0, c), some (0, s), some (0, r2), some (0, k4), none, none] [] G4 := by
      intro n4
      induction n4 with
      | zero => intro k4 G4 hMG4 hFG4 hi4 hm4; exact absurd hm4 (Nat.not_lt_zero _)
      | succ n4 ih4 =>
        intro k4 G4 hMG4 hFG4 hi4 hm4
        have hj4 := hi4
        obtain ⟨ik4, iE4, ir4, is4, iB4, iT4⟩ := hi4
        have hff4 := iE4.1.f
        refine s_iload dX12_chooses_21 rfl ?_
        refine s_bipush dX12_chooses_23 rfl (by decide) ?_
        refine s_icmp_ge (tgt := 124) dX12_chooses_25 (by decide) (fun c5 => ?_) (fun c5 => ?_)
        · -- 25 to 124
          have hEq := iE4
          have hsq := is4
          have hTq := iT4
          have hirq := ir4
          have hBq : BS G4 vv n 6 := by have z9 := iB4; rw [show k4 = 6 by omega] at z9; exact z9
          have hXq := hEq.2.2.2.1
          have hPa : ∀ t, stN G vv a t → stN G4 vv n t := fun t z => stN.c1 (by rw [hXq.nd (n := a_nKind) (by decide)]; exact hkd) (by rw [hXq.nd (n := a_nFirst) (by decide), ← ha]; exact hXq.stN z)
          have hVq : RV G4 NF s := hRVs.fx hEq.2.1 hFU (fun j _ _ => hirq.atA (by decide) (by decide))
          refine s_iconst dX12_chooses_124 (by decide) ?_
          refine s_istore dX12_chooses_125 (by decide) (lv' := [some (2, ((1000 : Nat) : Int)), some (0, n), some (0, a), some (0, b), some (0, c), some (0, s), some (0, r2), some (0, 0), none, none]) rfl ?_
          have L6 : ∀ (n6 : Nat) (k6 : Int) (G6 : LG), MG G6 → Fr nX12_chooses jX12_chooses G G6 → ((0 ≤ k6 ∧ k6 ≤ 10) ∧ (FE G4 G6 Hs (400 * k6) (2 * k6)) ∧ (Fr nCw jSe G4 G6) ∧ (SlotFr s G G6) ∧ (RV G6 (stN G4 vv n) s) ∧ (∀ j : Int, 0 ≤ j → j < 10 → ¬ (gS G6 a_sValue (10 * s + j).toNat) = -1 → ¬ (gS G a_sValue (10 * a + j).toNat) = -1)) → (10 - k6).toNat < n6 → WP kX12_chooses X 127 [some (2, ((1000 : Nat) : Int)), some (0, n), some (0, a), some (0, b), some (0, c), some (0, s), some (0, r2), some (0, k6), none, none] [] G6 := by
            intro n6
            induction n6 with
            | zero => intro k6 G6 hMG6 hFG6 hi6 hm6; exact absurd hm6 (Nat.not_lt_zero _)
            | succ n6 ih6 =>
              intro k6 G6 hMG6 hFG6 hi6 hm6
              have hj6 := hi6
              obtain ⟨ik6, iE6, ir6, is6, iV6, iD6⟩ := hi6
              refine s_iload dX12_chooses_127 rfl ?_
              refine s_bipush dX12_chooses_129 rfl (by decide) ?_
              refine s_icmp_ge (tgt := 239) dX12_chooses_131 (by decide) (fun c7 => ?_) (fun c7 => ?_)
              · -- 131 to 239
                refine s_iconst dX12_chooses_239 (by decide) ?_
                exact s_iret hR dX12_chooses_240 rfl (hQ _ G6 hMG6 (⟨hFG6, ⟨(hEq.trans iE6 (by omega) (by omega)), is6, (hTq.fx iE6.2.1 hEq.1 (fun j _ _ => ir6.atA (by decide) (by decide))).mono (fun t z => iE6.2.2.2.1.stN z), iV6.mono (fun t z => iE6.2.2.2.1.stN z), fun _ j j0 j1 q => by have z9 := iD6 j j0 j1 q; exact ⟨z9, hDc j j0 j1 z9⟩⟩⟩))
              · -- 131 to 134
                have hva6 := (is6.rv hA.1 (by omega) k6 (by omega) (by omega)).1
                have hvb6 := (is6.rv hA.2.2.1 (by omega) k6 (by omega) (by omega)).1
                have hra6 := hRVa k6 (by omega) (by omega)
                have hrb6 := hRVb k6 (by omega) (by omega)
                have hEx6 : FE G G6 Hs (7 + 400 * k6) (2 * k6) := hEq.trans iE6 (by omega) (by omega)
                have hff6 := hEx6.1.f
                have hfe6 := hEx6.2.2.2.2
                refine s_aload_n dX12_chooses_134 rfl (Int.natCast_nonneg _) ?_
                refine s_iload_n dX12_chooses_135 rfl ?_
                refine s_iload dX12_chooses_136 rfl ?_
                refine cv_X12_388 rfl gX12_isOf dX12_chooses_138 hMG6 (by rw [hcf]; decide) (as := [(0, a), (0, k6)]) rfl (Nat.le_of_ble_eq_true rfl) ⟨a, k6, rfl, hMG6, (by first | assumption | omega), (by first | assumption | omega), ?_⟩
                show WP kX12_chooses X 141 [some (2, ((1000 : Nat) : Int)), some (0, n), some (0, a), some (0, b), some (0, c), some (0, s), some (0, r2), some (0, k6), none, none] [(0, (gS G6 a_sValue (10 * a + k6).toNat))] G6
                refine s_iconst dX12_chooses_141 (by decide) ?_
                refine s_icmp_eq (tgt := 233) dX12_chooses_142 (by decide) (fun c8 => ?_) (fun c8 => ?_)
                · -- 142 to 233
                  refine s_iinc dX12_chooses_233 (v := k6) rfl (by omega) (by decide) (lv' := [some (2, ((1000 : Nat) : Int)), some (0, n), some (0, a), some (0, b), some (0, c), some (0, s), some (0, r2), some (0, k6 + 1), none, none]) rfl ?_
                  refine s_goto (tgt := 127) dX12_chooses_236 (by decide) ?_
                  have hE9 : FE G6 G6 Hs 0 0 := by have z0 := FE.rf (Hs := Hs) iE6.1 iE6.2.2.1; exact z0
                  have hf9 : Fr [] [] G6 G6 := Fr.rf
                  exact ih6 (k6 + 1) G6 hMG6 hFG6 (⟨(by omega), (by exact iE6.trans hE9 (by omega) (by omega)), (by exact Fr.call ir6 hf9 (by decide) (by decide)), (by exact is6), (by exact iV6), (by intro j j0 j1 q; exact iD6 j j0 j1 q)⟩) (by omega)
                · -- 142 to 145
                  refine s_aload_n dX12_chooses_145 rfl (Int.natCast_nonneg _) ?_
                  refine s_iload_n dX12_chooses_146 rfl ?_
                  refine cv_X12_437 rfl gX12_setsStamps dX12_chooses_147 hMG6 (by rw [hcf]; decide) (as := [(0, a)]) rfl (Nat.le_of_ble_eq_true rfl) ⟨a, rfl, hMG6, (by first | assumption | omega), fun G9 hMG9 hpG9 => ?_⟩
                  obtain ⟨hfG9, hpG9⟩ := hpG9
                  have hFG9 : Fr nX12_chooses jX12_chooses G G9 := Fr.call hFG6 hfG9 (by decide) (by decide)
                  show WP kX12_chooses X 150 [some (2, ((1000 : Nat) : Int)), some (0, n), some (0, a), some (0, b), some (0, c), some (0, s), some (0, r2), some (0, k6), none, none] [] G9
                  have hE5 : FE G6 G9 Hs 0 0 := by have z0 := FE.rf (Hs := Hs) iE6.1 iE6.2.2.1; have z1 : FE G6 G9 Hs 0 0 := (by first | exact z0.fr hfG9 (by decide) (by decide) (by decide) | exact (z0.fr hfG9 (by decide) (by decide) (by decide)).weak (by omega) (by omega)); exact z1
                  have hf5 := (Fr.call (Fr.rf) hfG9 (by decide) (by decide) : Fr [a_by] [] G6 G9)
                  have hE5g : FE G G9 Hs (7 + 400 * k6) (2 * k6) := hEx6.trans hE5 (by omega) (by omega)
                  have hw5 : (gS G9 a_sValue (10 * a + k6).toNat) = (gS G a_sValue (10 * a + k6).toNat) := (hf5.atA (by decide) (by decide)).trans hva6
                  have hr5 : GT G9 (stN G vv a) (-1) (gS G9 a_sValue (10 * a + k6).toNat) := by rw [hw5]; exact GT.fx hra6 hE5g.2.1 hFU
                  have hr5a := hr5.1
                  have hr5b := hr5.2 (by omega)
                  have hr5c := hr5b.1
                  have hpl5 : pcost 2 ((gS G9 a_fSize ((gS G9 a_sValue (10 * a + k6).toNat)).toNat)) ≤ 200 := by rw [pc_n (by omega)]; omega
                  have hf5e := hE5g.2.2.2.2
                  have hbs5 : BS G9 vv n 6 := hBq.fx (iE6.2.2.2.1.trans hE5.2.2.2.1) (fun j => (hf5.atA (by decide) (by decide)).trans (ir6.atA (by decide) (by decide)))
                  have hby5 := hpG9
                  have hb5 : ∀ q : Int, 0 ≤ q → q < 6 → 0 ≤ (gS G9 a_by (q).toNat) → ¬ (gS G9 a_byStamp (q).toNat) = -1 := fun q q0 q1 z y => by rw [hf5.atA (n := a_byStamp) (by decide) (by decide)] at y; have z9 := (hby5 q q0 q1).1 y; omega
                  refine s_aload_n dX12_chooses_150 rfl (Int.natCast_nonneg _) ?_
                  refine s_iconst dX12_chooses_151 (by decide) ?_
                  refine s_aload_n dX12_chooses_152 rfl (Int.natCast_nonneg _) ?_
                  refine s_iload_n dX12_chooses_153 rfl ?_
                  refine s_iload dX12_chooses_154 rfl ?_
                  refine cv_X12_388 rfl gX12_isOf dX12_chooses_156 hMG9 (by rw [hcf]; decide) (as := [(0, a), (0, k6)]) rfl (Nat.le_of_ble_eq_true rfl) ⟨a, k6, rfl, hMG9, (by first | assumption | omega), (by first | assumption | omega), ?_⟩
                  show WP kX12_chooses X 159 [some (2, ((1000 : Nat) : Int)), some (0, n), some (0, a), some (0, b), some (0, c), some (0, s), some (0, r2), some (0, k6), none, none] [(0, (gS G9 a_sValue (10 * a + k6).toNat)), (0, 2), (2, ((1000 : Nat) : Int))] G9
                  refine cv_X12_378 rfl gX12_puts dX12_chooses_159 hMG9 (by rw [hcf]; decide) (as := [(0, 2), (0, (gS G9 a_sValue (10 * a + k6).toNat))]) rfl (Nat.le_of_ble_eq_true rfl) ⟨2, (gS G9 a_sValue (10 * a + k6).toNat), Hs, vv, fun _ => True, rfl, hMG9, (by exact hE5g.1), (by exact hE5g.2.2.1), (by exact hvv), (by omega), (by omega), (by omega), (by omega), (by omega), (by intro q; omega), (by intro _ q q0 q1 qb; exact (hbs5 q q0 q1 (hb5 q q0 q1 qb)).1), (by intro q; omega), fun r12 G11 hMG11 hpG11 => ?_⟩
                  obtain ⟨hfG11, hpG11⟩ := hpG11
                  have hFG11 : Fr nX12_chooses jX12_chooses G G11 := Fr.call hFG9 hfG11 (by decide) (by decide)
                  show WP kX12_chooses X 162 [some (2, ((1000 : Nat) : Int)), some (0, n), some (0, a), some (0, b), some (0, c), some (0, s), some (0, r2), some (0, k6), none, none] [(0, r12)] G11
                  refine s_istore dX12_chooses_162 (by decide) (lv' := [some (2, ((1000 : Nat) : Int)), some (0, n), some (0, a), some (0, b), some (0, c), some (0, s), some (0, r2), some (0, k6), some (0, r12), none]) rfl ?_
                  have hok5 : okS G11 (stN G4 vv n) r12 := hpG11.2.2.2.2.2.2.2.2.2.1 rfl (stN G4 vv n) (hr5b.2.mono hPa) (fun q q0 q1 qb => by have z9 := hb5 q q0 q1 qb; rw [hf5.atA (n := a_byStamp) (by decide) (by decide), ir6.atA (n := a_byStamp) (by decide) (by decide)] at z9 ⊢; exact (hBq q q0 q1 z9).2)
                  have hrr5 := hpG11.2.2.2.2.1
                  have hrz5 : (gS G11 a_fSize (r12).toNat) ≤ 200 := by have z9 := hpG11.2.2.2.2.2.2.2.2.2.2 (fun q => by omega); omega
                  have hfp5 := hpG11.2.2.2.2.2.1
                  have hmp5 := hpG11.2.2.2.2.2.2.1
                  refine s_aload_n dX12_chooses_164 rfl (Int.natCast_nonneg _) ?_
                  refine s_iload_n dX12_chooses_165 rfl ?_
                  refine cv_X12_437 rfl gX12_setsStamps dX12_chooses_166 hMG11 (by rw [hcf]; decide) (as := [(0, b)]) rfl (Nat.le_of_ble_eq_true rfl) ⟨b, rfl, hMG11, (by first | assumption | omega), fun G13 hMG13 hpG13 => ?_⟩
                  obtain ⟨hfG13, hpG13⟩ := hpG13
                  have hFG13 : Fr nX12_chooses jX12_chooses G G13 := Fr.call hFG11 hfG13 (by decide) (by decide)
                  show WP kX12_chooses X 169 [some (2, ((1000 : Nat) : Int)), some (0, n), some (0, a), some (0, b), some (0, c), some (0, s), some (0, r2), some (0, k6), some (0, r12), none] [] G13
                  have hE6 : FE G6 G13 Hs 200 1 := by have z0 := FE.rf (Hs := Hs) iE6.1 iE6.2.2.1; have z1 : FE G6 G9 Hs 0 0 := (by first | exact z0.fr hfG9 (by decide) (by decide) (by decide) | exact (z0.fr hfG9 (by decide) (by decide) (by decide)).weak (by omega) (by omega)); have z2 : FE G6 G11 Hs 200 1 := (by first | exact z1.trans (FE.puts hpG11 hpl5) (Int.le_refl _) (Int.le_refl _) | exact (z1.trans (FE.puts hpG11 hpl5) (Int.le_refl _) (Int.le_refl _)).weak (by omega) (by omega)); have z3 : FE G6 G13 Hs 200 1 := (by first | exact z2.fr hfG13 (by decide) (by decide) (by decide) | exact (z2.fr hfG13 (by decide) (by decide) (by decide)).weak (by omega) (by omega)); exact z3
                  have hf6 := (Fr.call (Fr.call (Fr.call (Fr.rf) hfG9 (by decide) (by decide)) hfG11 (by decide) (by decide)) hfG13 (by decide) (by decide) : Fr [a_by, a_fKind, a_fA, a_fB, a_fSize, a_fNext, a_fHead, a_fMark, a_thingKind, a_thingA, a_thingB, a_thingC, a_thingNext, a_thingHead, a_stackOf, a_fMemo] [26, 42, 35, 36] G6 G13)
                  have hE6g : FE G G13 Hs (207 + 400 * k6) (2 * k6 + 1) := hEx6.trans hE6 (by omega) (by omega)
                  have hw6 : (gS G13 a_sValue (10 * b + k6).toNat) = (gS G a_sValue (10 * b + k6).toNat) := (hf6.atA (by decide) (by decide)).trans hvb6
                  have hr6 : GT G13 (stN G vv b) (-1) (gS G13 a_sValue (10 * b + k6).toNat) := by rw [hw6]; exact GT.fx hrb6 hE6g.2.1 hFU
                  have hdc6 := hDc k6 (by omega) (by omega) (by omega)
                  have hr6a := hr6.1
                  have hr6b := hr6.2 (by omega)
                  have hr6c := hr6b.1
                  have hpl6 : pcost 2 ((gS G13 a_fSize ((gS G13 a_sValue (10 * b + k6).toNat)).toNat)) ≤ 200 := by rw [pc_n (by omega)]; omega
                  have hf6e := hE6g.2.2.2.2
                  have hff6 := hE6g.1.f
                  have hbs6 : BS G13 vv n 6 := hBq.fx (iE6.2.2.2.1.trans hE6.2.2.2.1) (fun j => (hf6.atA (by decide) (by decide)).trans (ir6.atA (by decide) (by decide)))
                  have hby6 := hpG13
                  have hbq6 : ∀ j : Nat, gS G13 a_byStamp j = gS G11 a_byStamp j := fun j => hfG13.atA (by decide) (by decide)
                  have hb6 : ∀ q : Int, 0 ≤ q → q < 6 → 0 ≤ (gS G13 a_by (q).toNat) → ¬ (gS G13 a_byStamp (q).toNat) = -1 := fun q q0 q1 z y => by rw [hbq6] at y; have z9 := (hby6 q q0 q1).1 y; omega
                  refine s_aload_n dX12_chooses_169 rfl (Int.natCast_nonneg _) ?_
                  refine s_iconst dX12_chooses_170 (by decide) ?_
                  refine s_aload_n dX12_chooses_171 rfl (Int.natCast_nonneg _) ?_
                  refine s_iload_n dX12_chooses_172 rfl ?_
                  refine s_iload dX12_chooses_173 rfl ?_
                  refine cv_X12_388 rfl gX12_isOf dX12_chooses_175 hMG13 (by rw [hcf]; decide) (as := [(0, b), (0, k6)]) rfl (Nat.le_of_ble_eq_true rfl) ⟨b, k6, rfl, hMG13, (by first | assumption | omega), (by first | assumption | omega), ?_⟩
                  show WP kX12_chooses X 178 [some (2, ((1000 : Nat) : Int)), some (0, n), some (0, a), some (0, b), some (0, c), some (0, s), some (0, r2), some (0, k6), some (0, r12), none] [(0, (gS G13 a_sValue (10 * b + k6).toNat)), (0, 2), (2, ((1000 : Nat) : Int))] G13
                  refine cv_X12_378 rfl gX12_puts dX12_chooses_178 hMG13 (by rw [hcf]; decide) (as := [(0, 2), (0, (gS G13 a_sValue (10 * b + k6).toNat))]) rfl (Nat.le_of_ble_eq_true rfl) ⟨2, (gS G13 a_sValue (10 * b + k6).toNat), Hs, vv, fun _ => True, rfl, hMG13, (by exact hE6g.1), (by exact hE6g.2.2.1), (by exact hvv), (by omega), (by omega), (by omega), (by omega), (by omega), (by intro q; omega), (by intro _ q q0 q1 qb; exact (hbs6 q q0 q1 (hb6 q q0 q1 qb)).1), (by intro q; omega), fun r16 G15 hMG15 hpG15 => ?_⟩
                  obtain ⟨hfG15, hpG15⟩ := hpG15
                  have hFG15 : Fr nX12_chooses jX12_chooses G G15 := Fr.call hFG13 hfG15 (by decide) (by decide)
                  show WP kX12_chooses X 181 [some (2, ((1000 : Nat) : Int)), some (0, n), some (0, a), some (0, b), some (0, c), some (0, s), some (0, r2), some (0, k6), some (0, r12), none] [(0, r16)] G15
                  refine s_istore dX12_chooses_181 (by decide) (lv' := [some (2, ((1000 : Nat) : Int)), some (0, n), some (0, a), some (0, b), some (0, c), some (0, s), some (0, r2), some (0, k6), some (0, r12), some (0, r16)]) rfl ?_
                  refine s_iload dX12_chooses_183 rfl ?_
                  refine s_iload dX12_chooses_185 rfl ?_
                  refine s_icmp_eq (tgt := 197) dX12_chooses_187 (by decide) (fun c17 => ?_) (fun c17 => ?_)
                  · -- 187 to 197
                    refine s_aload_n dX12_chooses_197 rfl (Int.natCast_nonneg _) ?_
                    refine s_iload dX12_chooses_198 rfl ?_
                    refine s_iload dX12_chooses_200 rfl ?_
                    refine s_iload dX12_chooses_202 rfl ?_
                    refine s_aload_n dX12_chooses_204 rfl (Int.natCast_nonneg _) ?_
                    refine s_iload_n dX12_chooses_205 rfl ?_
                    refine s_iload dX12_chooses_206 rfl ?_
                    refine cv_X12_410 rfl gX12_isGhost dX12_chooses_208 hMG15 (by rw [hcf]; decide) (as := [(0, a), (0, k6)]) rfl (Nat.le_of_ble_eq_true rfl) ⟨a, k6, rfl, hMG15, (by first | assumption | omega), (by first | assumption | omega), ?_⟩
                    show WP kX12_chooses X 211 [some (2, ((1000 : Nat) : Int)), some (0, n), some (0, a), some (0, b), some (0, c), some (0, s), some (0, r2), some (0, k6), some (0, r12), some (0, r16)] [(0, b2i (¬ i_and (gS G15 a_sFlags (10 * a + k6).toNat) 2 = 0)), (0, r12), (0, k6), (0, s), (2, ((1000 : Nat) : Int))] G15
                    have J19 : ∀ z18 : Int, ((¬ i_and (gS G15 a_sFlags (10 * a + k6).toNat) 2 = 0) ∧ z18 = 2) ∨ ((¬ (¬ i_and (gS G15 a_sFlags (10 * a + k6).toNat) 2 = 0)) ∧ (¬ (¬ i_and (gS G15 a_sFlags (10 * b + k6).toNat) 2 = 0)) ∧ z18 = 0) ∨ ((¬ (¬ i_and (gS G15 a_sFlags (10 * a + k6).toNat) 2 = 0)) ∧ (¬ i_and (gS G15 a_sFlags (10 * b + k6).toNat) 2 = 0) ∧ z18 = 2) → WP kX12_chooses X 229 [some (2, ((1000 : Nat) : Int)), some (0, n), some (0, a), some (0, b), some (0, c), some (0, s), some (0, r2), some (0, k6), some (0, r12), some (0, r16)] [(0, z18), (0, r12), (0, k6), (0, s), (2, ((1000 : Nat) : Int))] G15 := by
                      intro z18 hz18
                      refine s_iconst dX12_chooses_229 (by decide) ?_
                      refine cv_X12_394 rfl gX12_shows dX12_chooses_230 hMG15 (by rw [hcf]; decide) (as := [(0, s), (0, k6), (0, r12), (0, z18), (0, 0)]) rfl (Nat.le_of_ble_eq_true rfl) ⟨s, k6, r12, z18, 0, rfl, hMG15, (by first | assumption | omega), (by first | assumption | omega), fun G20 hMG20 hpG20 => ?_⟩
                      obtain ⟨G22, G23, eG22, eG23, eG20, hpG20⟩ := hpG20
                      have hFG22 : Fr nX12_chooses jX12_chooses G G22 := Fr.setA hFG15 eG22 (by decide)
                      have hFG23 : Fr nX12_chooses jX12_chooses G G23 := Fr.setA hFG22 eG23 (by decide)
                      have hFG20 : Fr nX12_chooses jX12_chooses G G20 := Fr.setA hFG23 eG20 (by decide)
                      show WP kX12_chooses X 233 [some (2, ((1000 : Nat) : Int)), some (0, n), some (0, a), some (0, b), some (0, c), some (0, s), some (0, r2), some (0, k6), some (0, r12), some (0, r16)] [] G20
                      refine s_iinc dX12_chooses_233 (v := k6) rfl (by omega) (by decide) (lv' := [some (2, ((1000 : Nat) : Int)), some (0, n), some (0, a), some (0, b), some (0, c), some (0, s), some (0, r2), some (0, k6 + 1), some (0, r12), some (0, r16)]) rfl ?_
                      refine s_goto (tgt := 127) dX12_chooses_236 (by decide) ?_
                      refine s_mask [true, true, true, true, true, true, true, true, false, false] (lv' := [some (2, ((1000 : Nat) : Int)), some (0, n), some (0, a), some (0, b), some (0, c), some (0, s), some (0, r2), some (0, k6 + 1), none, none]) rfl ?_
                      have hE9p : FE G6 G15 Hs 400 2 := by have z0 := FE.rf (Hs := Hs) iE6.1 iE6.2.2.1; have z1 : FE G6 G9 Hs 0 0 := (by first | exact z0.fr hfG9 (by decide) (by decide) (by decide) | exact (z0.fr hfG9 (by decide) (by decide) (by decide)).weak (by omega) (by omega)); have z2 : FE G6 G11 Hs 200 1 := (by first | exact z1.trans (FE.puts hpG11 hpl5) (Int.le_refl _) (Int.le_refl _) | exact (z1.trans (FE.puts hpG11 hpl5) (Int.le_refl _) (Int.le_refl _)).weak (by omega) (by omega)); have z3 : FE G6 G13 Hs 200 1 := (by first | exact z2.fr hfG13 (by decide) (by decide) (by decide) | exact (z2.fr hfG13 (by decide) (by decide) (by decide)).weak (by omega) (by omega)); have z4 : FE G6 G15 Hs 400 2 := (by first | exact z3.trans (FE.puts hpG15 hpl6) (Int.le_refl _) (Int.le_refl _) | exact (z3.trans (FE.puts hpG15 hpl6) (Int.le_refl _) (Int.le_refl _)).weak (by omega) (by omega)); exact z4
                      have hf9p := (Fr.call (Fr.call (Fr.call (Fr.call (Fr.rf) hfG9 (by decide) (by decide)) hfG11 (by decide) (by decide)) hfG13 (by decide) (by decide)) hfG15 (by decide) (by decide) : Fr [a_by, a_fKind, a_fA, a_fB, a_fSize, a_fNext, a_fHead, a_fMark, a_thingKind, a_thingA, a_thingB, a_thingC, a_thingNext, a_thingHead, a_stackOf, a_fMemo] [26, 42, 35, 36] G6 G15)
                      have hE9 : FE G6 G20 Hs 400 2 := by have z0 := FE.rf (Hs := Hs) iE6.1 iE6.2.2.1; have z1 : FE G6 G9 Hs 0 0 := (by first | exact z0.fr hfG9 (by decide) (by decide) (by decide) | exact (z0.fr hfG9 (by decide) (by decide) (by decide)).weak (by omega) (by omega)); have z2 : FE G6 G11 Hs 200 1 := (by first | exact z1.trans (FE.puts hpG11 hpl5) (Int.le_refl _) (Int.le_refl _) | exact (z1.trans (FE.puts hpG11 hpl5) (Int.le_refl _) (Int.le_refl _)).weak (by omega) (by omega)); have z3 : FE G6 G13 Hs 200 1 := (by first | exact z2.fr hfG13 (by decide) (by decide) (by decide) | exact (z2.fr hfG13 (by decide) (by decide) (by decide)).weak (by omega) (by omega)); have z4 : FE G6 G15 Hs 400 2 := (by first | exact z3.trans (FE.puts hpG15 hpl6) (Int.le_refl _) (Int.le_refl _) | exact (z3.trans (FE.puts hpG15 hpl6) (Int.le_refl _) (Int.le_refl _)).weak (by omega) (by omega)); have z5 : FE G6 G22 Hs 400 2 := (by first | exact z4.fr (Fr.setA Fr.rf eG22 (by decide) : Fr [a_sValue] [] G15 G22) (by decide) (by decide) (by decide) | exact (z4.fr (Fr.setA Fr.rf eG22 (by decide) : Fr [a_sValue] [] G15 G22) (by decide) (by decide) (by decide)).weak (by omega) (by omega)); have z6 : FE G6 G23 Hs 400 2 := (by first | exact z5.fr (Fr.setA Fr.rf eG23 (by decide) : Fr [a_sFlags] [] G22 G23) (by decide) (by decide) (by decide) | exact (z5.fr (Fr.setA Fr.rf eG23 (by decide) : Fr [a_sFlags] [] G22 G23) (by decide) (by decide) (by decide)).weak (by omega) (by omega)); have z7 : FE G6 G20 Hs 400 2 := (by first | exact z6.fr (Fr.setA Fr.rf eG20 (by decide) : Fr [a_sNumber] [] G23 G20) (by decide) (by decide) (by decide) | exact (z6.fr (Fr.setA Fr.rf eG20 (by decide) : Fr [a_sNumber] [] G23 G20) (by decide) (by decide) (by decide)).weak (by omega) (by omega)); exact z7
                      have hf9 := (Fr.setA (Fr.setA (Fr.setA (Fr.call (Fr.call (Fr.call (Fr.call (Fr.rf) hfG9 (by decide) (by decide)) hfG11 (by decide) (by decide)) hfG13 (by decide) (by decide)) hfG15 (by decide) (by decide)) eG22 (by decide)) eG23 (by decide)) eG20 (by decide) : Fr [a_by, a_fKind, a_fA, a_fB, a_fSize, a_fNext, a_fHead, a_fMark, a_thingKind, a_thingA, a_thingB, a_thingC, a_thingNext, a_thingHead, a_stackOf, a_fMemo, a_sValue, a_sFlags, a_sNumber] [26, 42, 35, 36] G6 G20)
                      have hfp9 := (Fr.call (Fr.call (Fr.rf) hfG13 (by decide) (by decide)) hfG15 (by decide) (by decide) : Fr [a_by, a_fKind, a_fA, a_fB, a_fSize, a_fNext, a_fHead, a_fMark, a_thingKind, a_thingA, a_thingB, a_thingC, a_thingNext, a_thingHead, a_stackOf, a_fMemo] [26, 42, 35, 36] G11 G15)
                      have hxp9 : FX G11 G15 := (FX.agf hfG13 (by decide) (by decide) (by decide)).trans hpG15.2.1
                      have hxp8 := hxp9.1
                      exact ih6 (k6 + 1) G20 hMG20 hFG20 (⟨(by omega), (by exact iE6.trans hE9 (by omega) (by omega)), (by exact Fr.call ir6 hf9 (by decide) (by decide)), (by exact (is6.trans (SlotFr.agr (hf9p.agr (by decide) (by decide) (by decide)))).trans (SlotFr.va (k := k6) ⟨by omega, by omega⟩ hs0.1 eG22 eG23 eG20)), (by refine RV.set (iV6.fx hE9p.2.1 iE6.1 (fun j _ _ => hf9p.atA (by decide) (by decide))) hs0.1 ⟨by omega, by omega⟩ eG22 eG23 eG20 ?_ hE9p.1; exact ⟨by omega, fun _ => ⟨by rw [(hxp9.2 _ (by omega) (by omega)).2.2.2]; exact hrz5, hok5.fx hxp9 hpG11.1 (by omega) (by omega)⟩⟩), (by obtain ⟨u1, u2, u3, u4⟩ := va3 eG22 eG23 eG20; intro j j0 j1 q; by_cases hj : j = k6; (subst hj; omega); (rw [g_ne u1 (by omega), hf9p.atA (n := a_sValue) (by decide) (by decide)] at q; exact iD6 j j0 j1 q))⟩) (by omega)
                    refine s_if_neB (tgt := 224) dX12_chooses_211 (by decide) (fun c24 => ?_) (fun c24 => ?_)
                    · -- 211 to 224
                      refine s_iconst dX12_chooses_224 (by decide) ?_
                      refine s_goto (tgt := 229) dX12_chooses_225 (by decide) ?_
                      exact J19 2 (Or.inl ⟨c24, rfl⟩)
                    · -- 211 to 214
                      refine s_aload_n dX12_chooses_214 rfl (Int.natCast_nonneg _) ?_
                      refine s_iload_n dX12_chooses_215 rfl ?_
                      refine s_iload dX12_chooses_216 rfl ?_
                      refine cv_X12_410 rfl gX12_isGhost dX12_chooses_218 hMG15 (by rw [hcf]; decide) (as := [(0, b), (0, k6)]) rfl (Nat.le_of_ble_eq_true rfl) ⟨b, k6, rfl, hMG15, (by first | assumption | omega), (by first | assumption | omega), ?_⟩
                      show WP kX12_chooses X 221 [some (2, ((1000 : Nat) : Int)), some (0, n), some (0, a), some (0, b), some (0, c), some (0, s), some (0, r2), some (0, k6), some (0, r12), some (0, r16)] [(0, b2i (¬ i_and (gS G15 a_sFlags (10 * b + k6).toNat) 2 = 0)), (0, r12), (0, k6), (0, s), (2, ((1000 : Nat) : Int))] G15
                      refine s_if_eqB (tgt := 228) dX12_chooses_221 (by decide) (fun c25 => ?_) (fun c25 => ?_)
                      · -- 221 to 228
                        refine s_iconst dX12_chooses_228 (by decide) ?_
                        exact J19 0 (Or.inr (Or.inl ⟨c24, c25, rfl⟩))
                      · -- 221 to 224
                        refine s_iconst dX12_chooses_224 (by decide) ?_
                        refine s_goto (tgt := 229) dX12_chooses_225 (by decide) ?_
                        exact J19 2 (Or.inr (Or.inr (⟨c24, c25, rfl⟩)))
                  · -- 187 to 190
                    refine s_sipush dX12_chooses_190 rfl (by decide) ?_
                    refine s_iload dX12_chooses_193 rfl ?_
                    refine s_iadd dX12_chooses_195 (by omega) ?_
                    have hE8 : FE G6 G15 Hs 400 2 := by have z0 := FE.rf (Hs := Hs) iE6.1 iE6.2.2.1; have z1 : FE G6 G9 Hs 0 0 := (by first | exact z0.fr hfG9 (by decide) (by decide) (by decide) | exact (z0.fr hfG9 (by decide) (by decide) (by decide)).weak (by omega) (by omega)); have z2 : FE G6 G11 Hs 200 1 := (by first | exact z1.trans (FE.puts hpG11 hpl5) (Int.le_refl _) (Int.le_refl _) | exact (z1.trans (FE.puts hpG11 hpl5) (Int.le_refl _) (Int.le_refl _)).weak (by omega) (by omega)); have z3 : FE G6 G13 Hs 200 1 := (by first | exact z2.fr hfG13 (by decide) (by decide) (by decide) | exact (z2.fr hfG13 (by decide) (by decide) (by decide)).weak (by omega) (by omega)); have z4 : FE G6 G15 Hs 400 2 := (by first | exact z3.trans (FE.puts hpG15 hpl6) (Int.le_refl _) (Int.le_refl _) | exact (z3.trans (FE.puts hpG15 hpl6) (Int.le_refl _) (Int.le_refl _)).weak (by omega) (by omega)); exact z4
                    have hf8 := (Fr.call (Fr.call (Fr.call (Fr.call (Fr.rf) hfG9 (by decide) (by decide)) hfG11 (by decide) (by decide)) hfG13 (by decide) (by decide)) hfG15 (by decide) (by decide) : Fr [a_by, a_fKind, a_fA, a_fB, a_fSize, a_fNext, a_fHead, a_fMark, a_thingKind, a_thingA, a_thingB, a_thingC, a_thingNext, a_thingHead, a_stackOf, a_fMemo] [26, 42, 35, 36] G6 G15)
                    exact s_iret hR dX12_chooses_196 rfl (hQ _ G15 hMG15 (⟨hFG15, ⟨(hEq.trans (iE6.trans hE8 (Int.le_refl _) (Int.le_refl _)) (by omega) (by omega)), is6.trans (SlotFr.agr (hf8.agr (by decide) (by decide) (by decide))), (hTq.fx (iE6.2.1.trans hE8.2.1) hEq.1 (fun j _ _ => (hf8.atA (by decide) (by decide)).trans (ir6.atA (by decide) (by decide)))).mono (fun t z => (iE6.2.2.2.1.trans hE8.2.2.2.1).stN z), (iV6.fx hE8.2.1 iE6.1 (fun j _ _ => hf8.atA (by decide) (by decide))).mono (fun t z => (iE6.2.2.2.1.trans hE8.2.2.2.1).stN z), fun q => by omega⟩⟩))
          exact L6 _ 0 G4 hMG4 hFG4 (⟨(by omega), (by exact FE.rf hEq.1 hEq.2.2.1 |>.weak (by omega) (by omega)), (by exact Fr.rf), (by exact hsq), (by exact hVq.mono (fun _ z => z.elim)), (by intro j j0 j1 q; rw [hirq.atA (by decide) (by decide)] at q; exact absurd (hcl j j0 j1) q)⟩) (Nat.lt_succ_self _)
        · -- 25 to 28
          refine s_aload_n dX12_chooses_28 rfl (Int.natCast_nonneg _) ?_
          refine s_iload_n dX12_chooses_29 rfl ?_
          refine s_iload dX12_chooses_30 rfl ?_
          refine cv_X12_413 rfl gX12_isType_ dX12_chooses_32 hMG4 (by rw [hcf]; decide) (as := [(0, a), (0, k4)]) rfl (Nat.le_of_ble_eq_true rfl) ⟨a, k4, rfl, hMG4, (by first | assumption | omega), (by first | assumption | omega), ?_⟩
          show WP kX12_chooses X 35 [some (2, ((1000 : Nat) : Int)), some (0, n), some (0, a), some (0, b), some (0, c), some (0, s), some (0, r2), some (0, k4), none, none] [(0, (gS G4 a_sType (6 * a + k4).toNat))] G4
          refine s_aload_n dX12_chooses_35 rfl (Int.natCast_nonneg _) ?_
          refine s_iload_n dX12_chooses_36 rfl ?_
          refine s_iload dX12_chooses_37 rfl ?_
          refine cv_X12_413 rfl gX12_isType_ dX12_chooses_39 hMG4 (by rw [hcf]; decide) (as := [(0, b), (0, k4)]) rfl (Nat.le_of_ble_eq_true rfl) ⟨b, k4, rfl, hMG4, (by first | assumption | omega), (by first | assumption | omega), ?_⟩
          show WP kX12_chooses X 42 [some (2, ((1000 : Nat) : Int)), some (0, n), some (0, a), some (0, b), some (0, c), some (0, s), some (0, r2), some (0, k4), none, none] [(0, (gS G4 a_sType (6 * b + k4).toNat)), (0, (gS G4 a_sType (6 * a + k4).toNat))] G4
          have J27 : ∀ z26 : Int, ((¬ ((gS G4 a_sType (6 * a + k4).toNat)) = ((gS G4 a_sType (6 * b + k4).toNat))) ∧ z26 = 0) ∨ ((((gS G4 a_sType (6 * a + k4).toNat)) = ((gS G4 a_sType (6 * b + k4).toNat))) ∧ z26 = 1) → WP kX12_chooses X 50 [some (2, ((1000 : Nat) : Int)), some (0, n), some (0, a), some (0, b), some (0, c), some (0, s), some (0, r2), some (0, k4), none, none] [(0, z26)] G4 := by
            intro z26 hz26
            refine s_istore dX12_chooses_50 (by decide) (lv' := [some (2, ((1000 : Nat) : Int)), some (0, n), some (0, a), some (0, b), some (0, c), some (0, s), some (0, r2), some (0, k4), some (0, z26), none]) rfl ?_
            have hx4 := iE4.2.2.2.1
            have hg14 : (gS G4 a_nKind (n).toNat) = (gS G a_nKind (n).toNat) := hx4.nd (n := a_nKind) (by decide) _
            by_cases hsm : z26 = 0
            · -- case
              refine s_aload_n dX12_chooses_52 rfl (Int.natCast_nonneg _) ?_
              refine gf_byStamp rfl dX12_chooses_53 hMG4 ?_
              refine s_iload dX12_chooses_56 rfl ?_
              refine s_iload dX12_chooses_58 rfl ?_
              refine s_if_eq (tgt := 67) dX12_chooses_60 (by decide) (fun c28 => ?_) (fun c28 => ?_)
              · -- 60 to 67
                refine s_aload_n dX12_chooses_67 rfl (Int.natCast_nonneg _) ?_
                refine s_bipush dX12_chooses_68 rfl (by decide) ?_
                refine s_iload_n dX12_chooses_70 rfl ?_
                refine s_iload dX12_chooses_71 rfl ?_
                refine cv_X12_348 rfl gX12_stamp dX12_chooses_73 hMG4 (by rw [hcf]; decide) (as := [(0, 10), (0, n), (0, k4)]) rfl (Nat.le_of_ble_eq_true rfl) ⟨10, n, k4, Hs, vv, rfl, hMG4, (by exact iE4.2.2.1), (by exact hvv), (by intro G9 h9 t9 k9; exact mkN.c (hx4.trans h9) hn hkd ⟨by omega, by omega⟩ k9), fun r30 G29 hMG29 hpG29 => ?_⟩
                obtain ⟨hfG29, hpG29⟩ := hpG29
                have hFG29 : Fr nX12_chooses jX12_chooses G G29 := Fr.call hFG4 hfG29 (by decide) (by decide)
                show WP kX12_chooses X 76 [some (2, ((1000 : Nat) : Int)), some (0, n), some (0, a), some (0, b), some (0, c), some (0, s), some (0, r2), some (0, k4), some (0, z26), none] [(0, r30), (0, k4), (2, ((a_byStamp : Nat) : Int))] G29
                refine r_iast dX12_chooses_76 hMG29 (mg_a_byStamp hMG29) (by decide) (by omega) (by omega) (fun G31 eG31 hMG31 => ?_)
                have hFG31 : Fr nX12_chooses jX12_chooses G G31 := Fr.setA hFG29 eG31 (by decide)
                show WP kX12_chooses X 77 [some (2, ((1000 : Nat) : Int)), some (0, n), some (0, a), some (0, b), some (0, c), some (0, s), some (0, r2), some (0, k4), some (0, z26), none] [] G31
                refine s_aload_n dX12_chooses_77 rfl (Int.natCast_nonneg _) ?_
                refine gf_sType rfl dX12_chooses_78 hMG31 ?_
                refine s_bipush dX12_chooses_81 rfl (by decide) ?_
                refine s_iload dX12_chooses_83 rfl ?_
                refine s_imul dX12_chooses_85 (by omega) ?_
                refine s_iload dX12_chooses_86 rfl ?_
                refine s_iadd dX12_chooses_88 (by omega) ?_
                refine s_iload dX12_chooses_89 rfl ?_
                refine s_if_eq (tgt := 104) dX12_chooses_91 (by decide) (fun c32 => ?_) (fun c32 => ?_)
                · -- 91 to 104
                  have hE7 : FE G4 G31 Hs 0 0 := by have z0 := FE.rf (Hs := Hs) iE4.1 iE4.2.2.1; have z1 : FE G4 G29 Hs 0 0 := (by first | exact z0.trans (FE.thing z0.1 hpG29.1 hpG29.2.1 hfG29 (by decide) (by decide) (by decide)) (Int.le_refl _) (Int.le_refl _) | exact (z0.trans (FE.thing z0.1 hpG29.1 hpG29.2.1 hfG29 (by decide) (by decide) (by decide)) (Int.le_refl _) (Int.le_refl _)).weak (by omega) (by omega)); have z2 : FE G4 G31 Hs 0 0 := (by first | exact z1.fr (Fr.setA Fr.rf eG31 (by decide) : Fr [a_byStamp] [] G29 G31) (by decide) (by decide) (by decide) | exact (z1.fr (Fr.setA Fr.rf eG31 (by decide) : Fr [a_byStamp] [] G29 G31) (by decide) (by decide) (by decide)).weak (by omega) (by omega)); exact z2
                  have hf7 := (Fr.setA (Fr.call (Fr.rf) hfG29 (by decide) (by decide)) eG31 (by decide) : Fr [a_thingKind, a_thingA, a_thingB, a_thingC, a_thingNext, a_thingHead, a_byStamp] [42] G4 G31)
                  have hkr := hpG29.2.2.1.1
                  have hst7 : stN G29 vv n r30 := CK.st (hx4.trans hpG29.2.1) hkd ⟨by omega, by omega⟩ hpG29.2.2.1
                  have hfu7 := hE7.2.2.2.2.1
                  have hfi7 := iE4.2.2.2.2.1
                  have hth7 : (gS G31 1000 42) = (gS G29 1000 42) := (Fr.setA (Fr.rf) eG31 (by decide) : Fr [a_byStamp] [] G29 G31).atF (by decide) (by decide)
                  have hst8 : stN G31 vv n r30 := (TX.agr ((Fr.setA (Fr.rf) eG31 (by decide) : Fr [a_byStamp] [] G29 G31).agr (by decide) (by decide) (by decide))).stN hst7
                  refine s_aload_n dX12_chooses_104 rfl (Int.natCast_nonneg _) ?_
                  refine s_iconst dX12_chooses_105 (by decide) ?_
                  refine s_aload_n dX12_chooses_106 rfl (Int.natCast_nonneg _) ?_
                  refine gf_byStamp rfl dX12_chooses_107 hMG31 ?_
                  refine s_iload dX12_chooses_110 rfl ?_
                  refine s_iald dX12_chooses_112 (mg_a_byStamp hMG31) (by omega) (by omega) (gsaE eG31) ?_
                  refine s_iconst dX12_chooses_113 (by decide) ?_
                  refine cv_X12_338 rfl gX12_full dX12_chooses_114 hMG31 (by rw [hcf]; decide) (as := [(0, 2), (0, r30), (0, 0)]) rfl (Nat.le_of_ble_eq_true rfl) ⟨2, r30, 0, rfl, hMG31, (by exact hE7.1), (by omega), (by omega), (by intro q; omega), (by intro q; omega), (by intro q; omega), fun r34 G33 hMG33 hpG33 => ?_⟩
                  obtain ⟨hfG33, hpG33⟩ := hpG33
                  have hFG33 : Fr nX12_chooses jX12_chooses G G33 := Fr.call hFG31 hfG33 (by decide) (by decide)
                  show WP kX12_chooses X 117 [some (2, ((1000 : Nat) : Int)), some (0, n), some (0, a), some (0, b), some (0, c), some (0, s), some (0, r2), some (0, k4), some (0, z26), none] [(0, r34), (0, (6 * s) + k4), (2, ((a_sType : Nat) : Int))] G33
                  refine r_iast dX12_chooses_117 hMG33 (mg_a_sType hMG33) (by decide) (by omega) (by omega) (fun G35 eG35 hMG35 => ?_)
                  have hFG35 : Fr nX12_chooses jX12_chooses G G35 := Fr.setA hFG33 eG35 (by decide)
                  show WP kX12_chooses X 118 [some (2, ((1000 : Nat) : Int)), some (0, n), some (0, a), some (0, b), some (0, c), some (0, s), some (0, r2), some (0, k4), some (0, z26), none] [] G35
                  refine s_iinc dX12_chooses_118 (v := k4) rfl (by omega) (by decide) (lv' := [some (2, ((1000 : Nat) : Int)), some (0, n), some (0, a), some (0, b), some (0, c), some (0, s), some (0, r2), some (0, k4 + 1), some (0, z26), none]) rfl ?_
                  refine s_goto (tgt := 21) dX12_chooses_121 (by decide) ?_
                  refine s_mask [true, true, true, true, true, true, true, true, false, false] (lv' := [some (2, ((1000 : Nat) : Int)), some (0, n), some (0, a), some (0, b), some (0, c), some (0, s), some (0, r2), some (0, k4 + 1), none, none]) rfl ?_
                  have hE9p : FE G4 G33 Hs 1 0 := by have z0 := FE.rf (Hs := Hs) iE4.1 iE4.2.2.1; have z1 : FE G4 G29 Hs 0 0 := (by first | exact z0.trans (FE.thing z0.1 hpG29.1 hpG29.2.1 hfG29 (by decide) (by decide) (by decide)) (Int.le_refl _) (Int.le_refl _) | exact (z0.trans (FE.thing z0.1 hpG29.1 hpG29.2.1 hfG29 (by decide) (by decide) (by decide)) (Int.le_refl _) (Int.le_refl _)).weak (by omega) (by omega)); have z2 : FE G4 G31 Hs 0 0 := (by first | exact z1.fr (Fr.setA Fr.rf eG31 (by decide) : Fr [a_byStamp] [] G29 G31) (by decide) (by decide) (by decide) | exact (z1.fr (Fr.setA Fr.rf eG31 (by decide) : Fr [a_byStamp] [] G29 G31) (by decide) (by decide) (by decide)).weak (by omega) (by omega)); have z3 : FE G4 G33 Hs 1 0 := (by first | exact z2.trans (FE.full (c := 1) hpG33.1 hpG33.2.2.1 z2.2.2.1 hpG33.2.1.2.2 hfG33 (by decide) (by decide) (by decide) (by decide)) (Int.le_refl _) (Int.le_refl _) | exact (z2.trans (FE.full (c := 1) hpG33.1 hpG33.2.2.1 z2.2.2.1 hpG33.2.1.2.2 hfG33 (by decide) (by decide) (by decide) (by decide)) (Int.le_refl _) (Int.le_refl _)).weak (by omega) (by omega)); exact z3
                  have hf9p := (Fr.call (Fr.setA (Fr.call (Fr.rf) hfG29 (by decide) (by decide)) eG31 (by decide)) hfG33 (by decide) (by decide) : Fr [a_thingKind, a_thingA, a_thingB, a_thingC, a_thingNext, a_thingHead, a_byStamp, a_fKind, a_fA, a_fB, a_fSize, a_fNext, a_fHead, a_fMark] [42, 26] G4 G33)
                  have hE9 : FE G4 G35 Hs 1 0 := by have z0 := FE.rf (Hs := Hs) iE4.1 iE4.2.2.1; have z1 : FE G4 G29 Hs 0 0 := (by first | exact z0.trans (FE.thing z0.1 hpG29.1 hpG29.2.1 hfG29 (by decide) (by decide) (by decide)) (Int.le_refl _) (Int.le_refl _) | exact (z0.trans (FE.thing z0.1 hpG29.1 hpG29.2.1 hfG29 (by decide) (by decide) (by decide)) (Int.le_refl _) (Int.le_refl _)).weak (by omega) (by omega)); have z2 : FE G4 G31 Hs 0 0 := (by first | exact z1.fr (Fr.setA Fr.rf eG31 (by decide) : Fr [a_byStamp] [] G29 G31) (by decide) (by decide) (by decide) | exact (z1.fr (Fr.setA Fr.rf eG31 (by decide) : Fr [a_byStamp] [] G29 G31) (by decide) (by decide) (by decide)).weak (by omega) (by omega)); have z3 : FE G4 G33 Hs 1 0 := (by first | exact z2.trans (FE.full (c := 1) hpG33.1 hpG33.2.2.1 z2.2.2.1 hpG33.2.1.2.2 hfG33 (by decide) (by decide) (by decide) (by decide)) (Int.le_refl _) (Int.le_refl _) | exact (z2.trans (FE.full (c := 1) hpG33.1 hpG33.2.2.1 z2.2.2.1 hpG33.2.1.2.2 hfG33 (by decide) (by decide) (by decide) (by decide)) (Int.le_refl _) (Int.le_refl _)).weak (by omega) (by omega)); have z4 : FE G4 G35 Hs 1 0 := (by first | exact z3.fr (Fr.setA Fr.rf eG35 (by decide) : Fr [a_sType] [] G33 G35) (by decide) (by decide) (by decide) | exact (z3.fr (Fr.setA Fr.rf eG35 (by decide) : Fr [a_sType] [] G33 G35) (by decide) (by decide) (by decide)).weak (by omega) (by omega)); exact z4
                  have hf9 := (Fr.setA (Fr.call (Fr.setA (Fr.call (Fr.rf) hfG29 (by decide) (by decide)) eG31 (by decide)) hfG33 (by decide) (by decide)) eG35 (by decide) : Fr [a_thingKind, a_thingA, a_thingB, a_thingC, a_thingNext, a_thingHead, a_byStamp, a_fKind, a_fA, a_fB, a_fSize, a_fNext, a_fHead, a_fMark, a_sType] [42, 26] G4 G35)
                  have hTXw : TX G33 G35 := TX.agr ((Fr.setA (Fr.rf) eG35 (by decide) : Fr [a_sType] [] G33 G35).agr (by decide) (by decide) (by decide))
                  exact ih4 (k4 + 1) G35 hMG35 hFG35 (⟨(by omega), (by exact iE4.trans hE9 (by omega) (by omega)), (by exact Fr.call ir4 hf9 (by decide) (by decide)), (by exact (is4.trans (SlotFr.agr (hf9p.agr (by decide) (by decide) (by decide)))).trans (SlotFr.ty (k := k4) ⟨by omega, by omega⟩ hs0.1 eG35)), (by have b1 := (iB4.fx hpG29.2.1 (fun j => hfG29.atA (by decide) (by decide))).set (by omega) eG31 (Or.inr ⟨hkr, hst7⟩); exact b1.fx (TX.agr ((Fr.setA (Fr.call (Fr.rf) hfG33 (by decide) (by decide)) eG35 (by decide) : Fr [a_fKind, a_fA, a_fB, a_fSize, a_fNext, a_fHead, a_fMark, a_sType] [26] G31 G35).agr (by decide) (by decide) (by decide))) (fun j => (Fr.setA (Fr.call (Fr.rf) hfG33 (by decide) (by decide)) eG35 (by decide) : Fr [a_fKind, a_fA, a_fB, a_fSize, a_fNext, a_fHead, a_fMark, a_sType] [26] G31 G35).atA (by decide) (by decide))), (by refine RT.mono (P := stN G33 vv n) ?_ (fun t z => hTXw.stN z); refine RT.set ((iT4.fx hE9p.2.1 iE4.1 (fun j _ _ => hf9p.atA (by decide) (by decide))).mono (fun t z => hE9p.2.2.2.1.stN z)) hs0.1 ⟨by omega, by omega⟩ eG35 ?_ hE9p.1; have z9 := full_st hfG33 hpG33 hst8; exact ⟨by omega, fun _ => ⟨by omega, z9.2.2⟩⟩)⟩) (by omega)
                · -- 91 to 94
                  exact absurd hsm c32
              · -- 60 to 63
                exact absurd hsm c28
            · -- case
              refine s_aload_n dX12_chooses_52 rfl (Int.natCast_nonneg _) ?_
              refine gf_byStamp rfl dX12_chooses_53 hMG4 ?_
              refine s_iload dX12_chooses_56 rfl ?_
              refine s_iload dX12_chooses_58 rfl ?_
              refine s_if_eq (tgt := 67) dX12_chooses_60 (by decide) (fun c36 => ?_) (fun c36 => ?_)
              · -- 60 to 67
                exact absurd c36 hsm
              · -- 60 to 63
                refine s_iconst dX12_chooses_63 (by decide) ?_
                refine s_goto (tgt := 76) dX12_chooses_64 (by decide) ?_
                refine r_iast dX12_chooses_76 hMG4 (mg_a_byStamp hMG4) (by decide) (by omega) (by omega) (fun G37 eG37 hMG37 => ?_)
                have hFG37 : Fr nX12_chooses jX12_chooses G G37 := Fr.setA hFG4 eG37 (by decide)
                show WP kX12_chooses X 77 [some (2, ((1000 : Nat) : Int)), some (0, n), some (0, a), some (0, b), some (0, c), some (0, s), some (0, r2), some (0, k4), some (0, z26), none] [] G37
                refine s_aload_n dX12_chooses_77 rfl (Int.natCast_nonneg _) ?_
                refine gf_sType rfl dX12_chooses_78 hMG37 ?_
                refine s_bipush dX12_chooses_81 rfl (by decide) ?_
                refine s_iload dX12_chooses_83 rfl ?_
                refine s_imul dX12_chooses_85 (by omega) ?_
                refine s_iload dX12_chooses_86 rfl ?_
                refine s_iadd dX12_chooses_88 (by omega) ?_
                refine s_iload dX12_chooses_89 rfl ?_
                refine s_if_eq (tgt := 104) dX12_chooses_91 (by decide) (fun c38 => ?_) (fun c38 => ?_)
                · -- 91 to 104
                  exact absurd c38 hsm
                · -- 91 to 94
                  refine s_aload_n dX12_chooses_94 rfl (Int.natCast_nonneg _) ?_
                  refine s_iload_n dX12_chooses_95 rfl ?_
                  refine s_iload dX12_chooses_96 rfl ?_
                  refine cv_X12_413 rfl gX12_isType_ dX12_chooses_98 hMG37 (by rw [hcf]; decide) (as := [(0, a), (0, k4)]) rfl (Nat.le_of_ble_eq_true rfl) ⟨a, k4, rfl, hMG37, (by first | assumption | omega), (by first | assumption | omega), ?_⟩
                  show WP kX12_chooses X 101 [some (2, ((1000 : Nat) : Int)), some (0, n), some (0, a), some (0, b), some (0, c), some (0, s), some (0, r2), some (0, k4), some (0, z26), none] [(0, (gS G37 a_sType (6 * a + k4).toNat)), (0, (6 * s) + k4), (2, ((a_sType : Nat) : Int))] G37
                  refine s_goto (tgt := 117) dX12_chooses_101 (by decide) ?_
                  refine r_iast dX12_chooses_117 hMG37 (mg_a_sType hMG37) (by decide) (by omega) (by omega) (fun G39 eG39 hMG39 => ?_)
                  have hFG39 : Fr nX12_chooses jX12_chooses G G39 := Fr.setA hFG37 eG39 (by decide)
                  show WP kX12_chooses X 118 [some (2, ((1000 : Nat) : Int)), some (0, n), some (0, a), some (0, b), some (0, c), some (0, s), some (0, r2), some (0, k4), some (0, z26), none] [] G39
                  refine s_iinc dX12_chooses_118 (v := k4) rfl (by omega) (by decide) (lv' := [some (2, ((1000 : Nat) : Int)), some (0, n), some (0, a), some (0, b), some (0, c), some (0, s), some (0, r2), some (0, k4 + 1), some (0, z26), none]) rfl ?_
                  refine s_goto (tgt := 21) dX12_chooses_121 (by decide) ?_
                  refine s_mask [true, true, true, true, true, true, true, true, false, false] (lv' := [some (2, ((1000 : Nat) : Int)), some (0, n), some (0, a), some (0, b), some (0, c), some (0, s), some (0, r2), some (0, k4 + 1), none, none]) rfl ?_
                  have hE9p : FE G4 G37 Hs 0 0 := by have z0 := FE.rf (Hs := Hs) iE4.1 iE4.2.2.1; have z1 : FE G4 G37 Hs 0 0 := (by first | exact z0.fr (Fr.setA Fr.rf eG37 (by decide) : Fr [a_byStamp] [] G4 G37) (by decide) (by decide) (by decide) | exact (z0.fr (Fr.setA Fr.rf eG37 (by decide) : Fr [a_byStamp] [] G4 G37) (by decide) (by decide) (by decide)).weak (by omega) (by omega)); exact z1
                  have hf9p := (Fr.setA (Fr.rf) eG37 (by decide) : Fr [a_byStamp] [] G4 G37)
                  have hE9 : FE G4 G39 Hs 0 0 := by have z0 := FE.rf (Hs := Hs) iE4.1 iE4.2.2.1; have z1 : FE G4 G37 Hs 0 0 := (by first | exact z0.fr (Fr.setA Fr.rf eG37 (by decide) : Fr [a_byStamp] [] G4 G37) (by decide) (by decide) (by decide) | exact (z0.fr (Fr.setA Fr.rf eG37 (by decide) : Fr [a_byStamp] [] G4 G37) (by decide) (by decide) (by decide)).weak (by omega) (by omega)); have z2 : FE G4 G39 Hs 0 0 := (by first | exact z1.fr (Fr.setA Fr.rf eG39 (by decide) : Fr [a_sType] [] G37 G39) (by decide) (by decide) (by decide) | exact (z1.fr (Fr.setA Fr.rf eG39 (by decide) : Fr [a_sType] [] G37 G39) (by decide) (by decide) (by decide)).weak (by omega) (by omega)); exact z2
                  have hf9 := (Fr.setA (Fr.setA (Fr.rf) eG37 (by decide)) eG39 (by decide) : Fr [a_byStamp, a_sType] [] G4 G39)
                  have hTXw : TX G37 G39 := TX.agr ((Fr.setA (Fr.rf) eG39 (by decide) : Fr [a_sType] [] G37 G39).agr (by decide) (by decide) (by decide))
                  exact ih4 (k4 + 1) G39 hMG39 hFG39 (⟨(by omega), (by exact iE4.trans hE9 (by omega) (by omega)), (by exact Fr.call ir4 hf9 (by decide) (by decide)), (by exact (is4.trans (SlotFr.agr (hf9p.agr (by decide) (by decide) (by decide)))).trans (SlotFr.ty (k := k4) ⟨by omega, by omega⟩ hs0.1 eG39)), (by have b1 := iB4.set (by omega) eG37 (Or.inl rfl); exact b1.fx (TX.agr ((Fr.setA (Fr.rf) eG39 (by decide) : Fr [a_sType] [] G37 G39).agr (by decide) (by decide) (by decide))) (fun j => (Fr.setA (Fr.rf) eG39 (by decide) : Fr [a_sType] [] G37 G39).atA (by decide) (by decide))), (by refine RT.mono (P := stN G37 vv n) ?_ (fun t z => hTXw.stN z); refine RT.set ((iT4.fx hE9p.2.1 iE4.1 (fun j _ _ => hf9p.atA (by decide) (by decide))).mono (fun t z => hE9p.2.2.2.1.stN z)) hs0.1 ⟨by omega, by omega⟩ eG39 ?_ hE9p.1; have z9 := GT.fx (hRTa k4 (by omega) (by omega)) (iE4.2.1.trans hE9p.2.1) hFU; rw [← is4.rt hA.1 (by omega) k4 (by omega) (by omega), ← hf9p.atA (n := a_sType) (by decide) (by decide)] at z9; exact z9.mono (fun t z => stN.c1 (by rw [(hx4.trans hE9p.2.2.2.1).nd (n := a_nKind) (by decide)]; exact hkd) (by rw [(hx4.trans hE9p.2.2.2.1).nd (n := a_nFirst) (by decide), ← ha]; exact (hx4.trans hE9p.2.2.2.1).stN z)))⟩) (by omega)
          refine s_icmp_ne (tgt := 49) dX12_chooses_42 (by decide) (fun c40 => ?_) (fun c40 => ?_)
          · -- 42 to 49
            refine s_iconst dX12_chooses_49 (by decide) ?_
            exact J27 0 (Or.inl ⟨c40, rfl⟩)
          · -- 42 to 45
            refine s_iconst dX12_chooses_45 (by decide) ?_
            refine s_goto (tgt := 50) dX12_chooses_46 (by decide) ?_
            exact J27 1 (Or.inr (⟨c40, rfl⟩))
    exact L4 _ 0 G1 hMG1 hFG1 (⟨(by omega), (by exact hEc.weak (by omega) (by omega)), (by exact Fr.call Fr.rf hfc (by decide) (by decide)), (by exact hsc), (by intro j j0 j1; omega), (by exact hTs0.mono (fun _ z => z.elim))⟩) (Nat.lt_succ_self _)
  · -- 12 to 15
    refine s_iload dX12_chooses_15 rfl ?_
    exact s_iret hR dX12_chooses_17 rfl (hQ _ G1 hMG1 (⟨hFG1, ⟨hEc.weak (by omega) (by omega), hsc, hTs0.mono (fun _ z => z.elim), hVs0.mono (fun _ z => z.elim), fun q => by omega⟩⟩))
