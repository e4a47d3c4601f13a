abbrev nX12_linksValue : List Nat := [a_fKind, a_fA, a_fB, a_fSize, a_fNext, a_fHead, a_fMark, a_thingKind, a_thingA, a_thingB, a_thingC, a_thingNext, a_thingHead, a_stackOf, a_fMemo, a_sValue, a_sFlags, a_sNumber]
abbrev jX12_linksValue : List Nat := [26, 42, 35, 36]
def TX12_linksValue : TR := fun as G Qr => ∃ (a b s k : Int) (Hs : List (Int → Int)) (vv : Int → Int) (P : Int → Prop), as = [(2, ((1000 : Nat) : Int)), (0, a), (0, b), (0, s), (0, k)] ∧ MG G ∧ (FU G) ∧ (TH G Hs) ∧ (vv ∈ Hs) ∧ (0 ≤ a ∧ a < 43) ∧ (0 ≤ b ∧ b < 43) ∧ (0 ≤ s ∧ s < 43) ∧ (0 ≤ k ∧ k < 10) ∧ (BY G P) ∧ (RV G P a) ∧ (RV G P b) ∧ (RV G P s) ∧ ((gS G 1000 26) + 198 < 150000) ∧ ((gS G 1000 35) ≤ 1900000100) ∧ ∀ (r : Int) (G' : LG), MG G' → (Fr nX12_linksValue jX12_linksValue G G' ∧ (FE G G' Hs 198 2 ∧ SlotFr s G G' ∧ RV G' P s ∧ BY G' P ∧ ∀ j : Int, 0 ≤ j → j < 10 → ¬ (gS G' a_sValue (10 * s + j).toNat) = -1 → ¬ (gS G a_sValue (10 * s + j).toNat) = -1 ∨ (j = k ∧ (¬ (gS G a_sValue (10 * a + k).toNat) = -1 ∨ ¬ (gS G a_sValue (10 * b + k).toNat) = -1)))) → Qr (.inl (some (0, r))) G'
set_option maxHeartbeats 4000000 in
set_option maxRecDepth 100000 in
theorem gX12_linksValue : Good kX12_linksValue yX12_linksValue 4 TX12_linksValue := by
  refine good_of (by decide) rfl rfl (fun as G Qr h => ?_) (fun X as G Qr hcf hR hT oa => ?_)
  · obtain ⟨a, b, s, k, Hs, vv, P, rfl, -⟩ := h; exact Nat.le_of_ble_eq_true rfl
  obtain ⟨a, b, s, k, Hs, vv, P, rfl, hM, hFU, hTH, hvv, ha, hb, hs, hk, hBY, hRVa, hRVb, hRVs, hc, hm, hQ⟩ := hT
  show WP kX12_linksValue X 0 [some (2, ((1000 : Nat) : Int)), some (0, a), some (0, b), some (0, s), some (0, k), none, none, none, none, none, none, none, none] [] G
  have hr_a : inR a := okv_R (oa _ (by simp))
  have hr_b : inR b := okv_R (oa _ (by simp))
  have hr_s : inR s := okv_R (oa _ (by simp))
  have hr_k : inR k := okv_R (oa _ (by simp))
  have hFE0 := FE.rf hFU hTH
  have hff0 := hFU.f
  have hmk0 := hFU.2.1
  refine s_aload_n dX12_linksValue_0 rfl (Int.natCast_nonneg _) ?_
  refine s_iload_n dX12_linksValue_1 rfl ?_
  refine s_iload dX12_linksValue_2 rfl ?_
  refine cv_X12_388 rfl gX12_isOf dX12_linksValue_4 hM (by rw [hcf]; decide) (as := [(0, a), (0, k)]) rfl (Nat.le_of_ble_eq_true rfl) ⟨a, k, rfl, hM, (by first | assumption | omega), (by first | assumption | omega), ?_⟩
  show WP kX12_linksValue X 7 [some (2, ((1000 : Nat) : Int)), some (0, a), some (0, b), some (0, s), some (0, k), none, none, none, none, none, none, none, none] [(0, (gS G a_sValue (10 * a + k).toNat))] G
  refine s_iconst dX12_linksValue_7 (by decide) ?_
  have J2 : ∀ z1 : Int, ((((gS G a_sValue (10 * a + k).toNat)) = ((-1))) ∧ z1 = 0) ∨ ((¬ ((gS G a_sValue (10 * a + k).toNat)) = ((-1))) ∧ z1 = 1) → WP kX12_linksValue X 16 [some (2, ((1000 : Nat) : Int)), some (0, a), some (0, b), some (0, s), some (0, k), none, none, none, none, none, none, none, none] [(0, z1)] G := by
    intro z1 hz1
    refine s_istore dX12_linksValue_16 (by decide) (lv' := [some (2, ((1000 : Nat) : Int)), some (0, a), some (0, b), some (0, s), some (0, k), some (0, z1), none, none, none, none, none, none, none]) rfl ?_
    refine s_aload_n dX12_linksValue_18 rfl (Int.natCast_nonneg _) ?_
    refine s_iload_n dX12_linksValue_19 rfl ?_
    refine s_iload dX12_linksValue_20 rfl ?_
    refine cv_X12_388 rfl gX12_isOf dX12_linksValue_22 hM (by rw [hcf]; decide) (as := [(0, b), (0, k)]) rfl (Nat.le_of_ble_eq_true rfl) ⟨b, k, rfl, hM, (by first | assumption | omega), (by first | assumption | omega), ?_⟩
    show WP kX12_linksValue X 25 [some (2, ((1000 : Nat) : Int)), some (0, a), some (0, b), some (0, s), some (0, k), some (0, z1), none, none, none, none, none, none, none] [(0, (gS G a_sValue (10 * b + k).toNat))] G
    refine s_iconst dX12_linksValue_25 (by decide) ?_
    have J4 : ∀ z3 : Int, ((((gS G a_sValue (10 * b + k).toNat)) = ((-1))) ∧ z3 = 0) ∨ ((¬ ((gS G a_sValue (10 * b + k).toNat)) = ((-1))) ∧ z3 = 1) → WP kX12_linksValue X 34 [some (2, ((1000 : Nat) : Int)), some (0, a), some (0, b), some (0, s), some (0, k), some (0, z1), none, none, none, none, none, none, none] [(0, z3)] G := by
      intro z3 hz3
      refine s_istore dX12_linksValue_34 (by decide) (lv' := [some (2, ((1000 : Nat) : Int)), some (0, a), some (0, b), some (0, s), some (0, k), some (0, z1), some (0, z3), none, none, none, none, none, none]) rfl ?_
      have K5 : ∀ (p5 : Int) (G5 : LG), MG G5 → Fr nX12_linksValue jX12_linksValue G G5 → ((FE G G5 Hs 99 1) ∧ (BY G5 P) ∧ (RV G5 P s) ∧ (RV G5 P b) ∧ (SlotFr s G G5) ∧ (Fr nX12_puts jX12_puts G G5) ∧ ((z1 = 0 ∧ p5 = -1) ∨ (¬ z1 = 0 ∧ (0 ≤ p5 ∧ p5 < (gS G5 1000 26)) ∧ okS G5 P p5))) → WP kX12_linksValue X 59 [some (2, ((1000 : Nat) : Int)), some (0, a), some (0, b), some (0, s), some (0, k), some (0, z1), some (0, z3), some (0, p5), none, none, none, none, none] [] G5 := by
        intro p5 G5 hMG5 hFG5 hi5
        obtain ⟨E15, B15, V15, Vb5, S15, f15, o15⟩ := hi5
        have K6 : ∀ (q6 : Int) (G6 : LG), MG G6 → Fr nX12_linksValue jX12_linksValue G G6 → ((FE G G6 Hs 198 2) ∧ (BY G6 P) ∧ (RV G6 P s) ∧ (SlotFr s G G6) ∧ (Fr nX12_puts jX12_puts G G6) ∧ ((z1 = 0 ∧ p5 = -1) ∨ (¬ z1 = 0 ∧ (0 ≤ p5 ∧ p5 < (gS G6 1000 26)) ∧ okS G6 P p5)) ∧ ((z3 = 0 ∧ q6 = -1) ∨ (¬ z3 = 0 ∧ (0 ≤ q6 ∧ q6 < (gS G6 1000 26)) ∧ okS G6 P q6))) → WP kX12_linksValue X 82 [some (2, ((1000 : Nat) : Int)), some (0, a), some (0, b), some (0, s), some (0, k), some (0, z1), some (0, z3), some (0, p5), some (0, q6), none, none, none, none] [] G6 := by
          intro q6 G6 hMG6 hFG6 hi6
          obtain ⟨E26, B26, V26, S26, f26, o76, o86⟩ := hi6
          have hff6 := E26.1.f
          have K7 : ((¬ z1 = 0 → (gS G6 a_fSize (p5).toNat) ≤ 200) ∧ (¬ z3 = 0 → (gS G6 a_fSize (q6).toNat) ≤ 200)) → WP kX12_linksValue X 125 [some (2, ((1000 : Nat) : Int)), some (0, a), some (0, b), some (0, s), some (0, k), some (0, z1), some (0, z3), some (0, p5), some (0, q6), none, none, none, none] [] G6 := by
            intro hi7
            obtain ⟨z77, z87⟩ := hi7
            refine s_iload dX12_linksValue_125 rfl ?_
            have J9 : ∀ z8 : Int, ((z1 = 0) ∧ z8 = 0) ∨ ((¬ z1 = 0) ∧ (¬ (¬ i_and (gS G6 a_sFlags (10 * a + k).toNat) 1 = 0)) ∧ z8 = 0) ∨ ((¬ z1 = 0) ∧ (¬ i_and (gS G6 a_sFlags (10 * a + k).toNat) 1 = 0) ∧ z8 = 1) → WP kX12_linksValue X 145 [some (2, ((1000 : Nat) : Int)), some (0, a), some (0, b), some (0, s), some (0, k), some (0, z1), some (0, z3), some (0, p5), some (0, q6), none, none, none, none] [(0, z8)] G6 := by
              intro z8 hz8
              refine s_istore dX12_linksValue_145 (by decide) (lv' := [some (2, ((1000 : Nat) : Int)), some (0, a), some (0, b), some (0, s), some (0, k), some (0, z1), some (0, z3), some (0, p5), some (0, q6), some (0, z8), none, none, none]) rfl ?_
              refine s_iload dX12_linksValue_147 rfl ?_
              have J11 : ∀ z10 : Int, ((z3 = 0) ∧ z10 = 0) ∨ ((¬ z3 = 0) ∧ (¬ (¬ i_and (gS G6 a_sFlags (10 * b + k).toNat) 1 = 0)) ∧ z10 = 0) ∨ ((¬ z3 = 0) ∧ (¬ i_and (gS G6 a_sFlags (10 * b + k).toNat) 1 = 0) ∧ z10 = 1) → WP kX12_linksValue X 167 [some (2, ((1000 : Nat) : Int)), some (0, a), some (0, b), some (0, s), some (0, k), some (0, z1), some (0, z3), some (0, p5), some (0, q6), some (0, z8), none, none, none] [(0, z10)] G6 := by
                intro z10 hz10
                refine s_istore dX12_linksValue_167 (by decide) (lv' := [some (2, ((1000 : Nat) : Int)), some (0, a), some (0, b), some (0, s), some (0, k), some (0, z1), some (0, z3), some (0, p5), some (0, q6), some (0, z8), some (0, z10), none, none]) rfl ?_
                have K12 : (True) → WP kX12_linksValue X 266 [some (2, ((1000 : Nat) : Int)), some (0, a), some (0, b), some (0, s), some (0, k), some (0, z1), some (0, z3), some (0, p5), some (0, q6), some (0, z8), some (0, z10), none, none] [] G6 := by
                  intro hi12
                  have K13 : ((¬ z1 = 0 ∨ ¬ z3 = 0)) → WP kX12_linksValue X 278 [some (2, ((1000 : Nat) : Int)), some (0, a), some (0, b), some (0, s), some (0, k), some (0, z1), some (0, z3), some (0, p5), some (0, q6), some (0, z8), some (0, z10), none, none] [] G6 := by
                    intro hi13
                    have nz13 := hi13
                    refine s_iload dX12_linksValue_278 rfl ?_
                    have J15 : ∀ z14 : Int, ((z1 = 0) ∧ z14 = b) ∨ ((¬ z1 = 0) ∧ (z3 = 0) ∧ z14 = a) ∨ ((¬ z1 = 0) ∧ (¬ z3 = 0) ∧ (z8 = 0) ∧ z14 = a) ∨ ((¬ z1 = 0) ∧ (¬ z3 = 0) ∧ (¬ z8 = 0) ∧ (¬ z10 = 0) ∧ z14 = a) ∨ ((¬ z1 = 0) ∧ (¬ z3 = 0) ∧ (¬ z8 = 0) ∧ (z10 = 0) ∧ z14 = b) → WP kX12_linksValue X 303 [some (2, ((1000 : Nat) : Int)), some (0, a), some (0, b), some (0, s), some (0, k), some (0, z1), some (0, z3), some (0, p5), some (0, q6), some (0, z8), some (0, z10), none, none] [(0, z14)] G6 := by
                      intro z14 hz14
                      refine s_istore dX12_linksValue_303 (by decide) (lv' := [some (2, ((1000 : Nat) : Int)), some (0, a), some (0, b), some (0, s), some (0, k), some (0, z1), some (0, z3), some (0, p5), some (0, q6), some (0, z8), some (0, z10), some (0, z14), none]) rfl ?_
                      refine s_aload_n dX12_linksValue_305 rfl (Int.natCast_nonneg _) ?_
                      refine gf_sFlags rfl dX12_linksValue_306 hMG6 ?_
                      refine s_bipush dX12_linksValue_309 rfl (by decide) ?_
                      refine s_iload dX12_linksValue_311 rfl ?_
                      refine s_imul dX12_linksValue_313 (by omega) ?_
                      refine s_iload dX12_linksValue_314 rfl ?_
                      refine s_iadd dX12_linksValue_316 (by omega) ?_
                      refine s_iald dX12_linksValue_317 (mg_a_sFlags hMG6) (by omega) (by omega) rfl ?_
                      refine s_istore dX12_linksValue_318 (by decide) (lv' := [some (2, ((1000 : Nat) : Int)), some (0, a), some (0, b), some (0, s), some (0, k), some (0, z1), some (0, z3), some (0, p5), some (0, q6), some (0, z8), some (0, z10), some (0, z14), some (0, gS G6 a_sFlags (((10 * z14) + k).toNat))]) rfl ?_
                      have K16 : ∀ (g16 : Int), (True) → WP kX12_linksValue X 369 [some (2, ((1000 : Nat) : Int)), some (0, a), some (0, b), some (0, s), some (0, k), some (0, z1), some (0, z3), some (0, p5), some (0, q6), some (0, z8), some (0, z10), some (0, z14), some (0, g16)] [] G6 := by
                        intro g16 hi16
                        refine s_aload_n dX12_linksValue_369 rfl (Int.natCast_nonneg _) ?_
                        refine s_iload_n dX12_linksValue_370 rfl ?_
                        refine s_iload dX12_linksValue_371 rfl ?_
                        refine s_iload dX12_linksValue_373 rfl ?_
                        have J18 : ∀ z17 : Int, ((z1 = 0) ∧ z17 = q6) ∨ ((¬ z1 = 0) ∧ z17 = p5) → WP kX12_linksValue X 385 [some (2, ((1000 : Nat) : Int)), some (0, a), some (0, b), some (0, s), some (0, k), some (0, z1), some (0, z3), some (0, p5), some (0, q6), some (0, z8), some (0, z10), some (0, z14), some (0, g16)] [(0, z17), (0, k), (0, s), (2, ((1000 : Nat) : Int))] G6 := by
                          intro z17 hz17
                          refine s_iload dX12_linksValue_385 rfl ?_
                          refine s_aload_n dX12_linksValue_387 rfl (Int.natCast_nonneg _) ?_
                          refine gf_sNumber rfl dX12_linksValue_388 hMG6 ?_
                          refine s_bipush dX12_linksValue_391 rfl (by decide) ?_
                          refine s_iload dX12_linksValue_393 rfl ?_
                          refine s_imul dX12_linksValue_395 (by omega) ?_
                          refine s_iload dX12_linksValue_396 rfl ?_
                          refine s_iadd dX12_linksValue_398 (by omega) ?_
                          refine s_iald dX12_linksValue_399 (mg_a_sNumber hMG6) (by omega) (by omega) rfl ?_
                          refine cv_X12_394 rfl gX12_shows dX12_linksValue_400 hMG6 (by rw [hcf]; decide) (as := [(0, s), (0, k), (0, z17), (0, g16), (0, gS G6 a_sNumber (((10 * z14) + k).toNat))]) rfl (Nat.le_of_ble_eq_true rfl) ⟨s, k, z17, g16, gS G6 a_sNumber (((10 * z14) + k).toNat), rfl, hMG6, (by first | assumption | omega), (by first | assumption | omega), fun G19 hMG19 hpG19 => ?_⟩
                          obtain ⟨G21, G22, eG21, eG22, eG19, hpG19⟩ := hpG19
                          have hFG21 : Fr nX12_linksValue jX12_linksValue G G21 := Fr.setA hFG6 eG21 (by decide)
                          have hFG22 : Fr nX12_linksValue jX12_linksValue G G22 := Fr.setA hFG21 eG22 (by decide)
                          have hFG19 : Fr nX12_linksValue jX12_linksValue G G19 := Fr.setA hFG22 eG19 (by decide)
                          show WP kX12_linksValue X 403 [some (2, ((1000 : Nat) : Int)), some (0, a), some (0, b), some (0, s), some (0, k), some (0, z1), some (0, z3), some (0, p5), some (0, q6), some (0, z8), some (0, z10), some (0, z14), some (0, g16)] [] G19
                          refine s_iconst dX12_linksValue_403 (by decide) ?_
                          exact s_iret hR dX12_linksValue_404 rfl (hQ _ G19 hMG19 (⟨hFG19, ⟨E26.fr (Fr.setA (Fr.setA (Fr.setA (Fr.rf) eG21 (by decide)) eG22 (by decide)) eG19 (by decide) : Fr [a_sValue, a_sFlags, a_sNumber] [] G6 G19) (by decide) (by decide) (by decide), S26.trans (SlotFr.va (k := k) hk hs.1 eG21 eG22 eG19), RV.set V26 hs.1 hk eG21 eG22 eG19 (by have z8 := E26.1.f; rcases hz17 with ⟨q1, q2⟩ | ⟨q1, q2⟩; (rw [q2]; have z9 := o86.resolve_left (by omega); exact ⟨by omega, fun _ => ⟨by omega, z9.2.2⟩⟩); (rw [q2]; have z9 := o76.resolve_left (by omega); exact ⟨by omega, fun _ => ⟨by omega, z9.2.2⟩⟩)) E26.1, B26.fx (FX.agf (Fr.setA (Fr.setA (Fr.setA (Fr.rf) eG21 (by decide)) eG22 (by decide)) eG19 (by decide) : Fr [a_sValue, a_sFlags, a_sNumber] [] G6 G19) (by decide) (by decide) (by decide)) E26.1 (fun j => (Fr.setA (Fr.setA (Fr.setA (Fr.rf) eG21 (by decide)) eG22 (by decide)) eG19 (by decide) : Fr [a_sValue, a_sFlags, a_sNumber] [] G6 G19).atA (by decide) (by decide)), fun j j0 j1 q => by obtain ⟨u1, u2, u3, u4⟩ := va3 eG21 eG22 eG19; by_cases hj : j = k; (exact Or.inr ⟨hj, by omega⟩); (rw [g_ne u1 (by omega), f26.atA (by decide) (by decide)] at q; exact Or.inl q)⟩⟩))
                        refine s_if_eq (tgt := 383) dX12_linksValue_375 (by decide) (fun c23 => ?_) (fun c23 => ?_)
                        · -- 375 to 383
                          refine s_iload dX12_linksValue_383 rfl ?_
                          exact J18 q6 (Or.inl ⟨c23, rfl⟩)
                        · -- 375 to 378
                          refine s_iload dX12_linksValue_378 rfl ?_
                          refine s_goto (tgt := 385) dX12_linksValue_380 (by decide) ?_
                          exact J18 p5 (Or.inr (⟨c23, rfl⟩))
                      refine s_iload dX12_linksValue_320 rfl ?_
                      refine s_if_eq (tgt := 369) dX12_linksValue_322 (by decide) (fun c24 => ?_) (fun c24 => ?_)
                      · -- 322 to 369
                        exact K16 (gS G6 a_sFlags (((10 * z14) + k).toNat)) (trivial)
                      · -- 322 to 325
                        refine s_iload dX12_linksValue_325 rfl ?_
                        refine s_if_eq (tgt := 369) dX12_linksValue_327 (by decide) (fun c25 => ?_) (fun c25 => ?_)
                        · -- 327 to 369
                          exact K16 (gS G6 a_sFlags (((10 * z14) + k).toNat)) (trivial)
                        · -- 327 to 330
                          refine s_iload dX12_linksValue_330 rfl ?_
                          refine s_if_eq (tgt := 369) dX12_linksValue_332 (by decide) (fun c26 => ?_) (fun c26 => ?_)
                          · -- 332 to 369
                            exact K16 (gS G6 a_sFlags (((10 * z14) + k).toNat)) (trivial)
                          · -- 332 to 335
                            refine s_iload dX12_linksValue_335 rfl ?_
                            refine s_if_eq (tgt := 369) dX12_linksValue_337 (by decide) (fun c27 => ?_) (fun c27 => ?_)
                            · -- 337 to 369
                              exact K16 (gS G6 a_sFlags (((10 * z14) + k).toNat)) (trivial)
                            · -- 337 to 340
                              refine s_iconst dX12_linksValue_340 (by decide) ?_
                              refine s_aload_n dX12_linksValue_341 rfl (Int.natCast_nonneg _) ?_
                              refine s_iload_n dX12_linksValue_342 rfl ?_
                              refine s_iload dX12_linksValue_343 rfl ?_
                              refine cv_X12_410 rfl gX12_isGhost dX12_linksValue_345 hMG6 (by rw [hcf]; decide) (as := [(0, a), (0, k)]) rfl (Nat.le_of_ble_eq_true rfl) ⟨a, k, rfl, hMG6, (by first | assumption | omega), (by first | assumption | omega), ?_⟩
                              show WP kX12_linksValue X 348 [some (2, ((1000 : Nat) : Int)), some (0, a), some (0, b), some (0, s), some (0, k), some (0, z1), some (0, z3), some (0, p5), some (0, q6), some (0, z8), some (0, z10), some (0, z14), some (0, gS G6 a_sFlags (((10 * z14) + k).toNat))] [(0, b2i (¬ i_and (gS G6 a_sFlags (10 * a + k).toNat) 2 = 0)), (0, 1)] G6
                              have J29 : ∀ z28 : Int, ((¬ (¬ i_and (gS G6 a_sFlags (10 * a + k).toNat) 2 = 0)) ∧ z28 = 0) ∨ ((¬ i_and (gS G6 a_sFlags (10 * a + k).toNat) 2 = 0) ∧ (¬ (¬ i_and (gS G6 a_sFlags (10 * b + k).toNat) 2 = 0)) ∧ z28 = 0) ∨ ((¬ i_and (gS G6 a_sFlags (10 * a + k).toNat) 2 = 0) ∧ (¬ i_and (gS G6 a_sFlags (10 * b + k).toNat) 2 = 0) ∧ z28 = 2) → WP kX12_linksValue X 366 [some (2, ((1000 : Nat) : Int)), some (0, a), some (0, b), some (0, s), some (0, k), some (0, z1), some (0, z3), some (0, p5), some (0, q6), some (0, z8), some (0, z10), some (0, z14), some (0, gS G6 a_sFlags (((10 * z14) + k).toNat))] [(0, z28), (0, 1)] G6 := by
                                intro z28 hz28
                                refine s_iadd dX12_linksValue_366 (by omega) ?_
                                refine s_istore dX12_linksValue_367 (by decide) (lv' := [some (2, ((1000 : Nat) : Int)), some (0, a), some (0, b), some (0, s), some (0, k), some (0, z1), some (0, z3), some (0, p5), some (0, q6), some (0, z8), some (0, z10), some (0, z14), some (0, 1 + z28)]) rfl ?_
                                exact K16 (1 + z28) (trivial)
                              refine s_if_eqB (tgt := 365) dX12_linksValue_348 (by decide) (fun c30 => ?_) (fun c30 => ?_)
                              · -- 348 to 365
                                refine s_iconst dX12_linksValue_365 (by decide) ?_
                                exact J29 0 (Or.inl ⟨c30, rfl⟩)
                              · -- 348 to 351
                                refine s_aload_n dX12_linksValue_351 rfl (Int.natCast_nonneg _) ?_
                                refine s_iload_n dX12_linksValue_352 rfl ?_
                                refine s_iload dX12_linksValue_353 rfl ?_
                                refine cv_X12_410 rfl gX12_isGhost dX12_linksValue_355 hMG6 (by rw [hcf]; decide) (as := [(0, b), (0, k)]) rfl (Nat.le_of_ble_eq_true rfl) ⟨b, k, rfl, hMG6, (by first | assumption | omega), (by first | assumption | omega), ?_⟩
                                show WP kX12_linksValue X 358 [some (2, ((1000 : Nat) : Int)), some (0, a), some (0, b), some (0, s), some (0, k), some (0, z1), some (0, z3), some (0, p5), some (0, q6), some (0, z8), some (0, z10), some (0, z14), some (0, gS G6 a_sFlags (((10 * z14) + k).toNat))] [(0, b2i (¬ i_and (gS G6 a_sFlags (10 * b + k).toNat) 2 = 0)), (0, 1)] G6
                                refine s_if_eqB (tgt := 365) dX12_linksValue_358 (by decide) (fun c31 => ?_) (fun c31 => ?_)
                                · -- 358 to 365
                                  refine s_iconst dX12_linksValue_365 (by decide) ?_
                                  exact J29 0 (Or.inr (Or.inl ⟨c30, c31, rfl⟩))
                                · -- 358 to 361
                                  refine s_iconst dX12_linksValue_361 (by decide) ?_
                                  refine s_goto (tgt := 366) dX12_linksValue_362 (by decide) ?_
                                  exact J29 2 (Or.inr (Or.inr (⟨c30, c31, rfl⟩)))
                    refine s_if_eq (tgt := 298) dX12_linksValue_280 (by decide) (fun c32 => ?_) (fun c32 => ?_)
                    · -- 280 to 298
                      refine s_iload_n dX12_linksValue_298 rfl ?_
                      refine s_goto (tgt := 303) dX12_linksValue_299 (by decide) ?_
                      exact J15 b (Or.inl ⟨c32, rfl⟩)
                    · -- 280 to 283
                      refine s_iload dX12_linksValue_283 rfl ?_
                      refine s_if_eq (tgt := 302) dX12_linksValue_285 (by decide) (fun c33 => ?_) (fun c33 => ?_)
                      · -- 285 to 302
                        refine s_iload_n dX12_linksValue_302 rfl ?_
                        exact J15 a (Or.inr (Or.inl ⟨c32, c33, rfl⟩))
                      · -- 285 to 288
                        refine s_iload dX12_linksValue_288 rfl ?_
                        refine s_if_eq (tgt := 302) dX12_linksValue_290 (by decide) (fun c34 => ?_) (fun c34 => ?_)
                        · -- 290 to 302
                          refine s_iload_n dX12_linksValue_302 rfl ?_
                          exact J15 a (Or.inr (Or.inr (Or.inl ⟨c32, c33, c34, rfl⟩)))
                        · -- 290 to 293
                          refine s_iload dX12_linksValue_293 rfl ?_
                          refine s_if_ne (tgt := 302) dX12_linksValue_295 (by decide) (fun c35 => ?_) (fun c35 => ?_)
                          · -- 295 to 302
                            refine s_iload_n dX12_linksValue_302 rfl ?_
                            exact J15 a (Or.inr (Or.inr (Or.inr (Or.inl ⟨c32, c33, c34, c35, rfl⟩))))
                          · -- 295 to 298
                            refine s_iload_n dX12_linksValue_298 rfl ?_
                            refine s_goto (tgt := 303) dX12_linksValue_299 (by decide) ?_
                            exact J15 b (Or.inr (Or.inr (Or.inr (Or.inr (⟨c32, c33, c34, c35, rfl⟩)))))
                  refine s_iload dX12_linksValue_266 rfl ?_
                  refine s_if_ne (tgt := 278) dX12_linksValue_268 (by decide) (fun c36 => ?_) (fun c36 => ?_)
                  · -- 268 to 278
                    exact K13  ((by omega))
                  · -- 268 to 271
                    refine s_iload dX12_linksValue_271 rfl ?_
                    refine s_if_ne (tgt := 278) dX12_linksValue_273 (by decide) (fun c37 => ?_) (fun c37 => ?_)
                    · -- 273 to 278
                      exact K13  ((by omega))
                    · -- 273 to 276
                      refine s_iconst dX12_linksValue_276 (by decide) ?_
                      exact s_iret hR dX12_linksValue_277 rfl (hQ _ G6 hMG6 (⟨hFG6, ⟨E26, S26, V26, B26, fun j j0 j1 q => Or.inl (by rw [f26.atA (by decide) (by decide)] at q; exact q)⟩⟩))
                refine s_iload dX12_linksValue_169 rfl ?_
                refine s_if_eq (tgt := 266) dX12_linksValue_171 (by decide) (fun c38 => ?_) (fun c38 => ?_)
                · -- 171 to 266
                  exact K12  (trivial)
                · -- 171 to 174
                  refine s_iload dX12_linksValue_174 rfl ?_
                  refine s_if_eq (tgt := 266) dX12_linksValue_176 (by decide) (fun c39 => ?_) (fun c39 => ?_)
                  · -- 176 to 266
                    exact K12  (trivial)
                  · -- 176 to 179
                    refine s_iload dX12_linksValue_179 rfl ?_
                    refine s_if_ne (tgt := 196) dX12_linksValue_181 (by decide) (fun c40 => ?_) (fun c40 => ?_)
                    · -- 181 to 196
                      refine s_iload dX12_linksValue_196 rfl ?_
                      refine s_iload dX12_linksValue_198 rfl ?_
                      refine s_icmp_eq (tgt := 210) dX12_linksValue_200 (by decide) (fun c41 => ?_) (fun c41 => ?_)
                      · -- 200 to 210
                        refine s_iload dX12_linksValue_210 rfl ?_
                        refine s_iload dX12_linksValue_212 rfl ?_
                        refine s_icmp_eq (tgt := 266) dX12_linksValue_214 (by decide) (fun c42 => ?_) (fun c42 => ?_)
                        · -- 214 to 266
                          exact K12  (trivial)
                        · -- 214 to 217
                          refine s_aload_n dX12_linksValue_217 rfl (Int.natCast_nonneg _) ?_
                          refine s_iload dX12_linksValue_218 rfl ?_
                          have J44 : ∀ z43 : Int, ((z8 = 0) ∧ z43 = a) ∨ ((¬ z8 = 0) ∧ z43 = b) → WP kX12_linksValue X 228 [some (2, ((1000 : Nat) : Int)), some (0, a), some (0, b), some (0, s), some (0, k), some (0, z1), some (0, z3), some (0, p5), some (0, q6), some (0, z8), some (0, z10), none, none] [(0, z43), (2, ((1000 : Nat) : Int))] G6 := by
                            intro z43 hz43
                            refine s_iload dX12_linksValue_228 rfl ?_
                            refine cv_X12_410 rfl gX12_isGhost dX12_linksValue_230 hMG6 (by rw [hcf]; decide) (as := [(0, z43), (0, k)]) rfl (Nat.le_of_ble_eq_true rfl) ⟨z43, k, rfl, hMG6, (by first | assumption | omega), (by first | assumption | omega), ?_⟩
                            show WP kX12_linksValue X 233 [some (2, ((1000 : Nat) : Int)), some (0, a), some (0, b), some (0, s), some (0, k), some (0, z1), some (0, z3), some (0, p5), some (0, q6), some (0, z8), some (0, z10), none, none] [(0, b2i (¬ i_and (gS G6 a_sFlags (10 * z43 + k).toNat) 2 = 0))] G6
                            refine s_istore dX12_linksValue_233 (by decide) (lv' := [some (2, ((1000 : Nat) : Int)), some (0, a), some (0, b), some (0, s), some (0, k), some (0, z1), some (0, z3), some (0, p5), some (0, q6), some (0, z8), some (0, z10), some (0, b2i (¬ i_and (gS G6 a_sFlags (10 * z43 + k).toNat) 2 = 0)), none]) rfl ?_
                            refine s_iload dX12_linksValue_235 rfl ?_
                            refine s_if_eqB (tgt := 266) dX12_linksValue_237 (by decide) (fun c45 => ?_) (fun c45 => ?_)
                            · -- 237 to 266
                              refine s_mask [true, true, true, true, true, true, true, true, true, true, true, false, false] (lv' := [some (2, ((1000 : Nat) : Int)), some (0, a), some (0, b), some (0, s), some (0, k), some (0, z1), some (0, z3), some (0, p5), some (0, q6), some (0, z8), some (0, z10), none, none]) rfl ?_
                              exact K12  (trivial)
                            · -- 237 to 240
                              refine s_aload_n dX12_linksValue_240 rfl (Int.natCast_nonneg _) ?_
                              refine s_iload dX12_linksValue_241 rfl ?_
                              have J47 : ∀ z46 : Int, ((z8 = 0) ∧ z46 = b) ∨ ((¬ z8 = 0) ∧ z46 = a) → WP kX12_linksValue X 251 [some (2, ((1000 : Nat) : Int)), some (0, a), some (0, b), some (0, s), some (0, k), some (0, z1), some (0, z3), some (0, p5), some (0, q6), some (0, z8), some (0, z10), some (0, b2i (¬ i_and (gS G6 a_sFlags (10 * z43 + k).toNat) 2 = 0)), none] [(0, z46), (2, ((1000 : Nat) : Int))] G6 := by
                                intro z46 hz46
                                refine s_iload dX12_linksValue_251 rfl ?_
                                refine cv_X12_410 rfl gX12_isGhost dX12_linksValue_253 hMG6 (by rw [hcf]; decide) (as := [(0, z46), (0, k)]) rfl (Nat.le_of_ble_eq_true rfl) ⟨z46, k, rfl, hMG6, (by first | assumption | omega), (by first | assumption | omega), ?_⟩
                                show WP kX12_linksValue X 256 [some (2, ((1000 : Nat) : Int)), some (0, a), some (0, b), some (0, s), some (0, k), some (0, z1), some (0, z3), some (0, p5), some (0, q6), some (0, z8), some (0, z10), some (0, b2i (¬ i_and (gS G6 a_sFlags (10 * z43 + k).toNat) 2 = 0)), none] [(0, b2i (¬ i_and (gS G6 a_sFlags (10 * z46 + k).toNat) 2 = 0))] G6
                                refine s_if_neB (tgt := 266) dX12_linksValue_256 (by decide) (fun c48 => ?_) (fun c48 => ?_)
                                · -- 256 to 266
                                  refine s_mask [true, true, true, true, true, true, true, true, true, true, true, false, false] (lv' := [some (2, ((1000 : Nat) : Int)), some (0, a), some (0, b), some (0, s), some (0, k), some (0, z1), some (0, z3), some (0, p5), some (0, q6), some (0, z8), some (0, z10), none, none]) rfl ?_
                                  exact K12  (trivial)
                                · -- 256 to 259
                                  refine s_sipush dX12_linksValue_259 rfl (by decide) ?_
                                  refine s_iload dX12_linksValue_262 rfl ?_
                                  refine s_iadd dX12_linksValue_264 (by omega) ?_
                                  exact s_iret hR dX12_linksValue_265 rfl (hQ _ G6 hMG6 (⟨hFG6, ⟨E26, S26, V26, B26, fun j j0 j1 q => Or.inl (by rw [f26.atA (by decide) (by decide)] at q; exact q)⟩⟩))
                              refine s_if_eq (tgt := 250) dX12_linksValue_243 (by decide) (fun c49 => ?_) (fun c49 => ?_)
                              · -- 243 to 250
                                refine s_iload_n dX12_linksValue_250 rfl ?_
                                exact J47 b (Or.inl ⟨c49, rfl⟩)
                              · -- 243 to 246
                                refine s_iload_n dX12_linksValue_246 rfl ?_
                                refine s_goto (tgt := 251) dX12_linksValue_247 (by decide) ?_
                                exact J47 a (Or.inr (⟨c49, rfl⟩))
                          refine s_if_eq (tgt := 227) dX12_linksValue_220 (by decide) (fun c50 => ?_) (fun c50 => ?_)
                          · -- 220 to 227
                            refine s_iload_n dX12_linksValue_227 rfl ?_
                            exact J44 a (Or.inl ⟨c50, rfl⟩)
                          · -- 220 to 223
                            refine s_iload_n dX12_linksValue_223 rfl ?_
                            refine s_goto (tgt := 228) dX12_linksValue_224 (by decide) ?_
                            exact J44 b (Or.inr (⟨c50, rfl⟩))
                      · -- 200 to 203
                        refine s_sipush dX12_linksValue_203 rfl (by decide) ?_
                        refine s_iload dX12_linksValue_206 rfl ?_
                        refine s_iadd dX12_linksValue_208 (by omega) ?_
                        exact s_iret hR dX12_linksValue_209 rfl (hQ _ G6 hMG6 (⟨hFG6, ⟨E26, S26, V26, B26, fun j j0 j1 q => Or.inl (by rw [f26.atA (by decide) (by decide)] at q; exact q)⟩⟩))
                    · -- 181 to 184
                      refine s_iload dX12_linksValue_184 rfl ?_
                      refine s_if_ne (tgt := 196) dX12_linksValue_186 (by decide) (fun c51 => ?_) (fun c51 => ?_)
                      · -- 186 to 196
                        refine s_iload dX12_linksValue_196 rfl ?_
                        refine s_iload dX12_linksValue_198 rfl ?_
                        refine s_icmp_eq (tgt := 210) dX12_linksValue_200 (by decide) (fun c52 => ?_) (fun c52 => ?_)
                        · -- 200 to 210
                          refine s_iload dX12_linksValue_210 rfl ?_
                          refine s_iload dX12_linksValue_212 rfl ?_
                          refine s_icmp_eq (tgt := 266) dX12_linksValue_214 (by decide) (fun c53 => ?_) (fun c53 => ?_)
                          · -- 214 to 266
                            exact K12  (trivial)
                          · -- 214 to 217
                            refine s_aload_n dX12_linksValue_217 rfl (Int.natCast_nonneg _) ?_
                            refine s_iload dX12_linksValue_218 rfl ?_
                            have J55 : ∀ z54 : Int, ((z8 = 0) ∧ z54 = a) ∨ ((¬ z8 = 0) ∧ z54 = b) → WP kX12_linksValue X 228 [some (2, ((1000 : Nat) : Int)), some (0, a), some (0, b), some (0, s), some (0, k), some (0, z1), some (0, z3), some (0, p5), some (0, q6), some (0, z8), some (0, z10), none, none] [(0, z54), (2, ((1000 : Nat) : Int))] G6 := by
                              intro z54 hz54
                              refine s_iload dX12_linksValue_228 rfl ?_
                              refine cv_X12_410 rfl gX12_isGhost dX12_linksValue_230 hMG6 (by rw [hcf]; decide) (as := [(0, z54), (0, k)]) rfl (Nat.le_of_ble_eq_true rfl) ⟨z54, k, rfl, hMG6, (by first | assumption | omega), (by first | assumption | omega), ?_⟩
                              show WP kX12_linksValue X 233 [some (2, ((1000 : Nat) : Int)), some (0, a), some (0, b), some (0, s), some (0, k), some (0, z1), some (0, z3), some (0, p5), some (0, q6), some (0, z8), some (0, z10), none, none] [(0, b2i (¬ i_and (gS G6 a_sFlags (10 * z54 + k).toNat) 2 = 0))] G6
                              refine s_istore dX12_linksValue_233 (by decide) (lv' := [some (2, ((1000 : Nat) : Int)), some (0, a), some (0, b), some (0, s), some (0, k), some (0, z1), some (0, z3), some (0, p5), some (0, q6), some (0, z8), some (0, z10), some (0, b2i (¬ i_and (gS G6 a_sFlags (10 * z54 + k).toNat) 2 = 0)), none]) rfl ?_
                              refine s_iload dX12_linksValue_235 rfl ?_
                              refine s_if_eqB (tgt := 266) dX12_linksValue_237 (by decide) (fun c56 => ?_) (fun c56 => ?_)
                              · -- 237 to 266
                                refine s_mask [true, true, true, true, true, true, true, true, true, true, true, false, false] (lv' := [some (2, ((1000 : Nat) : Int)), some (0, a), some (0, b), some (0, s), some (0, k), some (0, z1), some (0, z3), some (0, p5), some (0, q6), some (0, z8), some (0, z10), none, none]) rfl ?_
                                exact K12  (trivial)
                              · -- 237 to 240
                                refine s_aload_n dX12_linksValue_240 rfl (Int.natCast_nonneg _) ?_
                                refine s_iload dX12_linksValue_241 rfl ?_
                                have J58 : ∀ z57 : Int, ((z8 = 0) ∧ z57 = b) ∨ ((¬ z8 = 0) ∧ z57 = a) → WP kX12_linksValue X 251 [some (2, ((1000 : Nat) : Int)), some (0, a), some (0, b), some (0, s), some (0, k), some (0, z1), some (0, z3), some (0, p5), some (0, q6), some (0, z8), some (0, z10), some (0, b2i (¬ i_and (gS G6 a_sFlags (10 * z54 + k).toNat) 2 = 0)), none] [(0, z57), (2, ((1000 : Nat) : Int))] G6 := by
                                  intro z57 hz57
                                  refine s_iload dX12_linksValue_251 rfl ?_
                                  refine cv_X12_410 rfl gX12_isGhost dX12_linksValue_253 hMG6 (by rw [hcf]; decide) (as := [(0, z57), (0, k)]) rfl (Nat.le_of_ble_eq_true rfl) ⟨z57, k, rfl, hMG6, (by first | assumption | omega), (by first | assumption | omega), ?_⟩
                                  show WP kX12_linksValue X 256 [some (2, ((1000 : Nat) : Int)), some (0, a), some (0, b), some (0, s), some (0, k), some (0, z1), some (0, z3), some (0, p5), some (0, q6), some (0, z8), some (0, z10), some (0, b2i (¬ i_and (gS G6 a_sFlags (10 * z54 + k).toNat) 2 = 0)), none] [(0, b2i (¬ i_and (gS G6 a_sFlags (10 * z57 + k).toNat) 2 = 0))] G6
                                  refine s_if_neB (tgt := 266) dX12_linksValue_256 (by decide) (fun c59 => ?_) (fun c59 => ?_)
                                  · -- 256 to 266
                                    refine s_mask [true, true, true, true, true, true, true, true, true, true, true, false, false] (lv' := [some (2, ((1000 : Nat) : Int)), some (0, a), some (0, b), some (0, s), some (0, k), some (0, z1), some (0, z3), some (0, p5), some (0, q6), some (0, z8), some (0, z10), none, none]) rfl ?_
                                    exact K12  (trivial)
                                  · -- 256 to 259
                                    refine s_sipush dX12_linksValue_259 rfl (by decide) ?_
                                    refine s_iload dX12_linksValue_262 rfl ?_
                                    refine s_iadd dX12_linksValue_264 (by omega) ?_
                                    exact s_iret hR dX12_linksValue_265 rfl (hQ _ G6 hMG6 (⟨hFG6, ⟨E26, S26, V26, B26, fun j j0 j1 q => Or.inl (by rw [f26.atA (by decide) (by decide)] at q; exact q)⟩⟩))
                                refine s_if_eq (tgt := 250) dX12_linksValue_243 (by decide) (fun c60 => ?_) (fun c60 => ?_)
                                · -- 243 to 250
                                  refine s_iload_n dX12_linksValue_250 rfl ?_
                                  exact J58 b (Or.inl ⟨c60, rfl⟩)
                                · -- 243 to 246
                                  refine s_iload_n dX12_linksValue_246 rfl ?_
                                  refine s_goto (tgt := 251) dX12_linksValue_247 (by decide) ?_
                                  exact J58 a (Or.inr (⟨c60, rfl⟩))
                            refine s_if_eq (tgt := 227) dX12_linksValue_220 (by decide) (fun c61 => ?_) (fun c61 => ?_)
                            · -- 220 to 227
                              refine s_iload_n dX12_linksValue_227 rfl ?_
                              exact J55 a (Or.inl ⟨c61, rfl⟩)
                            · -- 220 to 223
                              refine s_iload_n dX12_linksValue_223 rfl ?_
                              refine s_goto (tgt := 228) dX12_linksValue_224 (by decide) ?_
                              exact J55 b (Or.inr (⟨c61, rfl⟩))
                        · -- 200 to 203
                          refine s_sipush dX12_linksValue_203 rfl (by decide) ?_
                          refine s_iload dX12_linksValue_206 rfl ?_
                          refine s_iadd dX12_linksValue_208 (by omega) ?_
                          exact s_iret hR dX12_linksValue_209 rfl (hQ _ G6 hMG6 (⟨hFG6, ⟨E26, S26, V26, B26, fun j j0 j1 q => Or.inl (by rw [f26.atA (by decide) (by decide)] at q; exact q)⟩⟩))
                      · -- 186 to 189
                        refine s_sipush dX12_linksValue_189 rfl (by decide) ?_
                        refine s_iload dX12_linksValue_192 rfl ?_
                        refine s_iadd dX12_linksValue_194 (by omega) ?_
                        exact s_iret hR dX12_linksValue_195 rfl (hQ _ G6 hMG6 (⟨hFG6, ⟨E26, S26, V26, B26, fun j j0 j1 q => Or.inl (by rw [f26.atA (by decide) (by decide)] at q; exact q)⟩⟩))
              refine s_if_eq (tgt := 166) dX12_linksValue_149 (by decide) (fun c62 => ?_) (fun c62 => ?_)
              · -- 149 to 166
                refine s_iconst dX12_linksValue_166 (by decide) ?_
                exact J11 0 (Or.inl ⟨c62, rfl⟩)
              · -- 149 to 152
                refine s_aload_n dX12_linksValue_152 rfl (Int.natCast_nonneg _) ?_
                refine s_iload_n dX12_linksValue_153 rfl ?_
                refine s_iload dX12_linksValue_154 rfl ?_
                refine cv_X12_398 rfl gX12_isHole dX12_linksValue_156 hMG6 (by rw [hcf]; decide) (as := [(0, b), (0, k)]) rfl (Nat.le_of_ble_eq_true rfl) ⟨b, k, rfl, hMG6, (by first | assumption | omega), (by first | assumption | omega), ?_⟩
                show WP kX12_linksValue X 159 [some (2, ((1000 : Nat) : Int)), some (0, a), some (0, b), some (0, s), some (0, k), some (0, z1), some (0, z3), some (0, p5), some (0, q6), some (0, z8), none, none, none] [(0, b2i (¬ i_and (gS G6 a_sFlags (10 * b + k).toNat) 1 = 0))] G6
                refine s_if_eqB (tgt := 166) dX12_linksValue_159 (by decide) (fun c63 => ?_) (fun c63 => ?_)
                · -- 159 to 166
                  refine s_iconst dX12_linksValue_166 (by decide) ?_
                  exact J11 0 (Or.inr (Or.inl ⟨c62, c63, rfl⟩))
                · -- 159 to 162
                  refine s_iconst dX12_linksValue_162 (by decide) ?_
                  refine s_goto (tgt := 167) dX12_linksValue_163 (by decide) ?_
                  exact J11 1 (Or.inr (Or.inr (⟨c62, c63, rfl⟩)))
            refine s_if_eq (tgt := 144) dX12_linksValue_127 (by decide) (fun c64 => ?_) (fun c64 => ?_)
            · -- 127 to 144
              refine s_iconst dX12_linksValue_144 (by decide) ?_
              exact J9 0 (Or.inl ⟨c64, rfl⟩)
            · -- 127 to 130
              refine s_aload_n dX12_linksValue_130 rfl (Int.natCast_nonneg _) ?_
              refine s_iload_n dX12_linksValue_131 rfl ?_
              refine s_iload dX12_linksValue_132 rfl ?_
              refine cv_X12_398 rfl gX12_isHole dX12_linksValue_134 hMG6 (by rw [hcf]; decide) (as := [(0, a), (0, k)]) rfl (Nat.le_of_ble_eq_true rfl) ⟨a, k, rfl, hMG6, (by first | assumption | omega), (by first | assumption | omega), ?_⟩
              show WP kX12_linksValue X 137 [some (2, ((1000 : Nat) : Int)), some (0, a), some (0, b), some (0, s), some (0, k), some (0, z1), some (0, z3), some (0, p5), some (0, q6), none, none, none, none] [(0, b2i (¬ i_and (gS G6 a_sFlags (10 * a + k).toNat) 1 = 0))] G6
              refine s_if_eqB (tgt := 144) dX12_linksValue_137 (by decide) (fun c65 => ?_) (fun c65 => ?_)
              · -- 137 to 144
                refine s_iconst dX12_linksValue_144 (by decide) ?_
                exact J9 0 (Or.inr (Or.inl ⟨c64, c65, rfl⟩))
              · -- 137 to 140
                refine s_iconst dX12_linksValue_140 (by decide) ?_
                refine s_goto (tgt := 145) dX12_linksValue_141 (by decide) ?_
                exact J9 1 (Or.inr (Or.inr (⟨c64, c65, rfl⟩)))
          refine s_iload dX12_linksValue_82 rfl ?_
          refine s_if_eq (tgt := 100) dX12_linksValue_84 (by decide) (fun c66 => ?_) (fun c66 => ?_)
          · -- 84 to 100
            refine s_iload dX12_linksValue_100 rfl ?_
            refine s_if_eq (tgt := 125) dX12_linksValue_102 (by decide) (fun c67 => ?_) (fun c67 => ?_)
            · -- 102 to 125
              exact K7  (⟨(by omega), (by omega)⟩)
            · -- 102 to 105
              refine s_aload_n dX12_linksValue_105 rfl (Int.natCast_nonneg _) ?_
              refine gf_fSize rfl dX12_linksValue_106 hMG6 ?_
              refine s_iload dX12_linksValue_109 rfl ?_
              refine s_iald dX12_linksValue_111 (mg_a_fSize hMG6) (by omega) (by omega) rfl ?_
              refine s_sipush dX12_linksValue_112 rfl (by decide) ?_
              refine s_icmp_le (tgt := 125) dX12_linksValue_115 (by decide) (fun c68 => ?_) (fun c68 => ?_)
              · -- 115 to 125
                exact K7  (⟨(by omega), (by omega)⟩)
              · -- 115 to 118
                refine s_sipush dX12_linksValue_118 rfl (by decide) ?_
                refine s_iload dX12_linksValue_121 rfl ?_
                refine s_iadd dX12_linksValue_123 (by omega) ?_
                exact s_iret hR dX12_linksValue_124 rfl (hQ _ G6 hMG6 (⟨hFG6, ⟨E26, S26, V26, B26, fun j j0 j1 q => Or.inl (by rw [f26.atA (by decide) (by decide)] at q; exact q)⟩⟩))
          · -- 84 to 87
            refine s_aload_n dX12_linksValue_87 rfl (Int.natCast_nonneg _) ?_
            refine gf_fSize rfl dX12_linksValue_88 hMG6 ?_
            refine s_iload dX12_linksValue_91 rfl ?_
            refine s_iald dX12_linksValue_93 (mg_a_fSize hMG6) (by omega) (by omega) rfl ?_
            refine s_sipush dX12_linksValue_94 rfl (by decide) ?_
            refine s_icmp_gt (tgt := 118) dX12_linksValue_97 (by decide) (fun c69 => ?_) (fun c69 => ?_)
            · -- 97 to 118
              refine s_sipush dX12_linksValue_118 rfl (by decide) ?_
              refine s_iload dX12_linksValue_121 rfl ?_
              refine s_iadd dX12_linksValue_123 (by omega) ?_
              exact s_iret hR dX12_linksValue_124 rfl (hQ _ G6 hMG6 (⟨hFG6, ⟨E26, S26, V26, B26, fun j j0 j1 q => Or.inl (by rw [f26.atA (by decide) (by decide)] at q; exact q)⟩⟩))
            · -- 97 to 100
              refine s_iload dX12_linksValue_100 rfl ?_
              refine s_if_eq (tgt := 125) dX12_linksValue_102 (by decide) (fun c70 => ?_) (fun c70 => ?_)
              · -- 102 to 125
                exact K7  (⟨(by omega), (by omega)⟩)
              · -- 102 to 105
                refine s_aload_n dX12_linksValue_105 rfl (Int.natCast_nonneg _) ?_
                refine gf_fSize rfl dX12_linksValue_106 hMG6 ?_
                refine s_iload dX12_linksValue_109 rfl ?_
                refine s_iald dX12_linksValue_111 (mg_a_fSize hMG6) (by omega) (by omega) rfl ?_
                refine s_sipush dX12_linksValue_112 rfl (by decide) ?_
                refine s_icmp_le (tgt := 125) dX12_linksValue_115 (by decide) (fun c71 => ?_) (fun c71 => ?_)
                · -- 115 to 125
                  exact K7  (⟨(by omega), (by omega)⟩)
                · -- 115 to 118
                  refine s_sipush dX12_linksValue_118 rfl (by decide) ?_
                  refine s_iload dX12_linksValue_121 rfl ?_
                  refine s_iadd dX12_linksValue_123 (by omega) ?_
                  exact s_iret hR dX12_linksValue_124 rfl (hQ _ G6 hMG6 (⟨hFG6, ⟨E26, S26, V26, B26, fun j j0 j1 q => Or.inl (by rw [f26.atA (by decide) (by decide)] at q; exact q)⟩⟩))
        refine s_iload dX12_linksValue_59 rfl ?_
        refine s_if_eq (tgt := 79) dX12_linksValue_61 (by decide) (fun c72 => ?_) (fun c72 => ?_)
        · -- 61 to 79
          refine s_iconst dX12_linksValue_79 (by decide) ?_
          refine s_istore dX12_linksValue_80 (by decide) (lv' := [some (2, ((1000 : Nat) : Int)), some (0, a), some (0, b), some (0, s), some (0, k), some (0, z1), some (0, z3), some (0, p5), some (0, (-1)), none, none, none, none]) rfl ?_
          exact K6 ((-1)) G5 hMG5 hFG5 (⟨(by exact E15.weak (by omega) (by omega)), (by exact B15), (by exact V15), (by exact S15), (by exact f15), (by exact o15), (by exact Or.inl ⟨by omega, rfl⟩)⟩)
        · -- 61 to 64
          have hsb5 : (gS G5 a_sValue (10 * b + k).toNat) = (gS G a_sValue (10 * b + k).toNat) := f15.atA (by decide) (by decide)
          have hrb := Vb5 k hk.1 hk.2
          have hrsb := hrb.2 (by omega)
          have hrzb := hrsb.1
          have hplb : pcost 0 ((gS G5 a_fSize ((gS G5 a_sValue (10 * b + k).toNat)).toNat)) ≤ 99 := by rw [pc_0]; omega
          have hfe9 := E15.1.f
          have hfm9 := E15.2.2.2.2
          refine s_aload_n dX12_linksValue_64 rfl (Int.natCast_nonneg _) ?_
          refine s_iconst dX12_linksValue_65 (by decide) ?_
          refine s_aload_n dX12_linksValue_66 rfl (Int.natCast_nonneg _) ?_
          refine s_iload_n dX12_linksValue_67 rfl ?_
          refine s_iload dX12_linksValue_68 rfl ?_
          refine cv_X12_388 rfl gX12_isOf dX12_linksValue_70 hMG5 (by rw [hcf]; decide) (as := [(0, b), (0, k)]) rfl (Nat.le_of_ble_eq_true rfl) ⟨b, k, rfl, hMG5, (by first | assumption | omega), (by first | assumption | omega), ?_⟩
          show WP kX12_linksValue X 73 [some (2, ((1000 : Nat) : Int)), some (0, a), some (0, b), some (0, s), some (0, k), some (0, z1), some (0, z3), some (0, p5), none, none, none, none, none] [(0, (gS G5 a_sValue (10 * b + k).toNat)), (0, 0), (2, ((1000 : Nat) : Int))] G5
          refine cv_X12_378 rfl gX12_puts dX12_linksValue_73 hMG5 (by rw [hcf]; decide) (as := [(0, 0), (0, (gS G5 a_sValue (10 * b + k).toNat))]) rfl (Nat.le_of_ble_eq_true rfl) ⟨0, (gS G5 a_sValue (10 * b + k).toNat), Hs, vv, fun _ => True, rfl, hMG5, (by exact E15.1), (by exact E15.2.2.1), (by exact hvv), (by omega), (by omega), (by omega), (by omega), (by omega), (by exact fun _ q q0 q1 => (B15 q q0 q1).1), (by intro q; omega), (by intro q; omega), fun r74 G73 hMG73 hpG73 => ?_⟩
          obtain ⟨hfG73, hpG73⟩ := hpG73
          have hFG73 : Fr nX12_linksValue jX12_linksValue G G73 := Fr.call hFG5 hfG73 (by decide) (by decide)
          show WP kX12_linksValue X 76 [some (2, ((1000 : Nat) : Int)), some (0, a), some (0, b), some (0, s), some (0, k), some (0, z1), some (0, z3), some (0, p5), none, none, none, none, none] [(0, r74)] G73
          refine s_goto (tgt := 80) dX12_linksValue_76 (by decide) ?_
          refine s_istore dX12_linksValue_80 (by decide) (lv' := [some (2, ((1000 : Nat) : Int)), some (0, a), some (0, b), some (0, s), some (0, k), some (0, z1), some (0, z3), some (0, p5), some (0, r74), none, none, none, none]) rfl ?_
          exact K6 r74 G73 hMG73 hFG73 (⟨(by exact E15.trans (FE.puts hpG73 hplb) (by omega) (by omega)), (by exact B15.fx hpG73.2.1 E15.1 (fun j => hfG73.atA (by decide) (by decide))), (by exact V15.fx hpG73.2.1 E15.1 (fun j _ _ => hfG73.atA (by decide) (by decide))), (by exact S15.trans (SlotFr.agr (hfG73.agr (by decide) (by decide) (by decide)))), (by exact Fr.call f15 hfG73 (fun _ h => h) (fun _ h => h)), (by exact o15.imp id (fun z => ⟨z.1, ⟨z.2.1.1, by have := hpG73.2.1.1; omega⟩, z.2.2.fx hpG73.2.1 E15.1 z.2.1.1 z.2.1.2⟩)), (by exact Or.inr ⟨by omega, hpG73.2.2.2.2.1, hpG73.2.2.2.2.2.2.2.1 rfl P hrsb.2 (fun q q0 q1 qb => (B15 q q0 q1).2 qb)⟩)⟩)
      refine s_iload dX12_linksValue_36 rfl ?_
      refine s_if_eq (tgt := 56) dX12_linksValue_38 (by decide) (fun c75 => ?_) (fun c75 => ?_)
      · -- 38 to 56
        refine s_iconst dX12_linksValue_56 (by decide) ?_
        refine s_istore dX12_linksValue_57 (by decide) (lv' := [some (2, ((1000 : Nat) : Int)), some (0, a), some (0, b), some (0, s), some (0, k), some (0, z1), some (0, z3), some (0, (-1)), none, none, none, none, none]) rfl ?_
        exact K5 ((-1)) G hM Fr.rf (⟨(by exact hFE0.weak (by omega) (by omega)), (by exact hBY), (by exact hRVs), (by exact hRVb), (by exact SlotFr.rf), (by exact Fr.rf), (by exact Or.inl ⟨by omega, rfl⟩)⟩)
      · -- 38 to 41
        have hra := hRVa k hk.1 hk.2
        have hrsa := hra.2 (by omega)
        have hrza := hrsa.1
        have hpla : pcost 0 ((gS G a_fSize ((gS G a_sValue (10 * a + k).toNat)).toNat)) ≤ 99 := by rw [pc_0]; omega
        refine s_aload_n dX12_linksValue_41 rfl (Int.natCast_nonneg _) ?_
        refine s_iconst dX12_linksValue_42 (by decide) ?_
        refine s_aload_n dX12_linksValue_43 rfl (Int.natCast_nonneg _) ?_
        refine s_iload_n dX12_linksValue_44 rfl ?_
        refine s_iload dX12_linksValue_45 rfl ?_
        refine cv_X12_388 rfl gX12_isOf dX12_linksValue_47 hM (by rw [hcf]; decide) (as := [(0, a), (0, k)]) rfl (Nat.le_of_ble_eq_true rfl) ⟨a, k, rfl, hM, (by first | assumption | omega), (by first | assumption | omega), ?_⟩
        show WP kX12_linksValue X 50 [some (2, ((1000 : Nat) : Int)), some (0, a), some (0, b), some (0, s), some (0, k), some (0, z1), some (0, z3), none, none, none, none, none, none] [(0, (gS G a_sValue (10 * a + k).toNat)), (0, 0), (2, ((1000 : Nat) : Int))] G
        refine cv_X12_378 rfl gX12_puts dX12_linksValue_50 hM (by rw [hcf]; decide) (as := [(0, 0), (0, (gS G a_sValue (10 * a + k).toNat))]) rfl (Nat.le_of_ble_eq_true rfl) ⟨0, (gS G a_sValue (10 * a + k).toNat), Hs, vv, fun _ => True, rfl, hM, (by exact hFU), (by exact hTH), (by exact hvv), (by omega), (by omega), (by omega), (by omega), (by omega), (by exact fun _ q q0 q1 => (hBY q q0 q1).1), (by intro q; omega), (by intro q; omega), fun r77 G76 hMG76 hpG76 => ?_⟩
        obtain ⟨hfG76, hpG76⟩ := hpG76
        have hFG76 : Fr nX12_linksValue jX12_linksValue G G76 := Fr.call Fr.rf hfG76 (by decide) (by decide)
        show WP kX12_linksValue X 53 [some (2, ((1000 : Nat) : Int)), some (0, a), some (0, b), some (0, s), some (0, k), some (0, z1), some (0, z3), none, none, none, none, none, none] [(0, r77)] G76
        refine s_goto (tgt := 57) dX12_linksValue_53 (by decide) ?_
        refine s_istore dX12_linksValue_57 (by decide) (lv' := [some (2, ((1000 : Nat) : Int)), some (0, a), some (0, b), some (0, s), some (0, k), some (0, z1), some (0, z3), some (0, r77), none, none, none, none, none]) rfl ?_
        exact K5 r77 G76 hMG76 hFG76 (⟨(by exact FE.puts hpG76 hpla), (by exact hBY.fx hpG76.2.1 hFU (fun j => hfG76.atA (by decide) (by decide))), (by exact hRVs.fx hpG76.2.1 hFU (fun j _ _ => hfG76.atA (by decide) (by decide))), (by exact hRVb.fx hpG76.2.1 hFU (fun j _ _ => hfG76.atA (by decide) (by decide))), (by exact SlotFr.agr (hfG76.agr (by decide) (by decide) (by decide))), (by exact hfG76), (by exact Or.inr ⟨by omega, hpG76.2.2.2.2.1, hpG76.2.2.2.2.2.2.2.1 rfl P hrsa.2 (fun q q0 q1 qb => (hBY q q0 q1).2 qb)⟩)⟩)
    refine s_icmp_eq (tgt := 33) dX12_linksValue_26 (by decide) (fun c78 => ?_) (fun c78 => ?_)
    · -- 26 to 33
      refine s_iconst dX12_linksValue_33 (by decide) ?_
      exact J4 0 (Or.inl ⟨c78, rfl⟩)
    · -- 26 to 29
      refine s_iconst dX12_linksValue_29 (by decide) ?_
      refine s_goto (tgt := 34) dX12_linksValue_30 (by decide) ?_
      exact J4 1 (Or.inr (⟨c78, rfl⟩))
  refine s_icmp_eq (tgt := 15) dX12_linksValue_8 (by decide) (fun c79 => ?_) (fun c79 => ?_)
  · -- 8 to 15
    refine s_iconst dX12_linksValue_15 (by decide) ?_
    exact J2 0 (Or.inl ⟨c79, rfl⟩)
  · -- 8 to 11
    refine s_iconst dX12_linksValue_11 (by decide) ?_
    refine s_goto (tgt := 16) dX12_linksValue_12 (by decide) ?_
    exact J2 1 (Or.inr (⟨c79, rfl⟩))
