abbrev nX12_unitFace : List Nat := [a_equation, a_uses, a_reaches, a_solved, a_by, a_fKind, a_fA, a_fB, a_fSize, a_fNext, a_fHead, a_fMark, a_thingKind, a_thingA, a_thingB, a_thingC, a_thingNext, a_thingHead, a_stackOf, a_fMemo, a_sType, a_sValue, a_sFlags, a_sNumber, a_todo, a_phase, a_found]
abbrev jX12_unitFace : List Nat := [26, 42, 35, 36]
def TX12_unitFace : TR := fun as G Qr => ∃ (s v : Int) (Hs : List (Int → Int)) (vv : Int → Int), as = [(2, ((1000 : Nat) : Int)), (0, s), (0, v)] ∧ MG G ∧ (FU G) ∧ (TH G Hs) ∧ (vv ∈ Hs) ∧ (TB G) ∧ (EX G) ∧ (UV G) ∧ (RW G) ∧ (0 ≤ s ∧ s < 40) ∧ (0 ≤ v ∧ v < 40) ∧ (RT G NF s) ∧ (RV G NF s) ∧ (∀ j : Int, 0 ≤ j → j < 10 → (gS G a_sValue (10 * s + j).toNat) = -1) ∧ ((gS G 1000 26) + 370 < 150000) ∧ ((gS G 1000 35) ≤ 1900000000) ∧ ∀ (r : Int) (G' : LG), MG G' → (Fr nX12_unitFace jX12_unitFace G G' ∧ (FE G G' Hs 370 58 ∧ SlotFr s G G' ∧ RT G' NF s ∧ RV G' NF s ∧ (r = 0 → ∀ j : Int, 0 ≤ j → j < 10 → ¬ (gS G' a_sValue (10 * s + j).toNat) = -1 → ¬ (gS G a_valueType (10 * v + j).toNat) = -1))) → Qr (.inl (some (0, r))) G'
set_option maxHeartbeats 4000000 in
set_option maxRecDepth 100000 in
theorem gX12_unitFace : Good kX12_unitFace yX12_unitFace 5 TX12_unitFace := by
  refine good_of (by decide) rfl rfl (fun as G Qr h => ?_) (fun X as G Qr hcf hR hT oa => ?_)
  · obtain ⟨s, v, Hs, vv, rfl, -⟩ := h; exact Nat.le_of_ble_eq_true rfl
  obtain ⟨s, v, Hs, vv, rfl, hM, hFU, hTH, hvv, hTB, hEX, hUV, hRW, hs, hv, hRT0, hRV0, hcl, hc, hm, hQ⟩ := hT
  show WP kX12_unitFace X 0 [some (2, ((1000 : Nat) : Int)), some (0, s), some (0, v), none, none, none, none, none, none, none, none, none] [] G
  have hr_s : inR s := okv_R (oa _ (by simp))
  have hr_v : inR v := okv_R (oa _ (by simp))
  have hFE0 := FE.rf hFU hTH
  have htb := hTB.1
  have hexx := hEX.1
  have hff0 := hFU.f
  have hmk0 := hFU.2.1
  refine s_iconst dX12_unitFace_0 (by decide) ?_
  refine s_istore_n dX12_unitFace_1 (by decide) (lv' := [some (2, ((1000 : Nat) : Int)), some (0, s), some (0, v), some (0, 0), none, none, none, none, none, none, none, none]) rfl ?_
  refine s_iconst dX12_unitFace_2 (by decide) ?_
  refine s_istore dX12_unitFace_3 (by decide) (lv' := [some (2, ((1000 : Nat) : Int)), some (0, s), some (0, v), some (0, 0), some (0, 0), none, none, none, none, none, none, none]) rfl ?_
  refine s_iconst dX12_unitFace_5 (by decide) ?_
  refine s_istore dX12_unitFace_6 (by decide) (lv' := [some (2, ((1000 : Nat) : Int)), some (0, s), some (0, v), some (0, 0), some (0, 0), some (0, 0), none, none, none, none, none, none]) rfl ?_
  have L1 : ∀ (n1 : Nat) (a1 : Int) (b1 : Int) (k1 : Int) (G1 : LG), MG G1 → Fr nX12_unitFace jX12_unitFace G G1 → ((0 ≤ k1 ∧ k1 ≤ 6) ∧ (∀ j : Int, 0 ≤ j → j < 32 → (bitI a1 j ↔ j < k1 ∧ 0 ≤ (gS G a_typeOf (6 * v + j).toNat))) ∧ (∀ j : Int, 0 ≤ j → j < k1 → 0 ≤ (gS G a_typeOf (6 * v + j).toNat) → (gS G1 a_equation (j).toNat) = (gS G a_raw ((gS G a_typeOf (6 * v + j).toNat)).toNat)) ∧ (Fr [a_equation] [] G G1)) → (6 - k1).toNat < n1 → WP kX12_unitFace X 8 [some (2, ((1000 : Nat) : Int)), some (0, s), some (0, v), some (0, a1), some (0, b1), some (0, k1), none, none, none, none, none, none] [] G1 := by
    intro n1
    induction n1 with
    | zero => intro a1 b1 k1 G1 hMG1 hFG1 hi1 hm1; exact absurd hm1 (Nat.not_lt_zero _)
    | succ n1 ih1 =>
      intro a1 b1 k1 G1 hMG1 hFG1 hi1 hm1
      have hj1 := hi1
      obtain ⟨ik1, ia1, ie1, ir1⟩ := hi1
      refine s_iload dX12_unitFace_8 rfl ?_
      refine s_bipush dX12_unitFace_10 rfl (by decide) ?_
      refine s_icmp_ge (tgt := 94) dX12_unitFace_12 (by decide) (fun c2 => ?_) (fun c2 => ?_)
      · -- 12 to 94
        have hfe := ir1
        have hFU8 : FU G1 := hFU.agr (hfe.agr (by decide) (by decide) (by decide)) (by rw [hfe.atF (j := 42) (by decide) (by decide)]; exact Int.le_refl _)
        have hTH8 : TH G1 Hs := hTH.agr (hfe.agr (by decide) (by decide) (by decide))
        have e268 : (gS G1 1000 26) = (gS G 1000 26) := hfe.atF (by decide) (by decide)
        have e358 : (gS G1 1000 35) = (gS G 1000 35) := hfe.atF (by decide) (by decide)
        have hT8 : ∀ q : Int, 0 ≤ q → q < 6 → bitI a1 q → 0 ≤ (gS G a_typeOf (6 * v + q).toNat) ∧ (gS G a_typeOf (6 * v + q).toNat) < (gS G 1000 0) := fun q q0 q1 qb => ⟨((ia1 q q0 (by omega)).mp qb).2, (hUV.2.2.2.1 v q hv.1 hv.2 q0 q1).2⟩
        have hE8 : ∀ q : Int, 0 ≤ q → q < 6 → bitI a1 q → (0 ≤ (gS G1 a_equation (q).toNat) ∧ (gS G1 a_equation (q).toNat) < (gS G1 1000 26)) ∧ (gS G1 a_fSize ((gS G1 a_equation (q).toNat)).toNat) ≤ 12 ∧ okS G1 NF ((gS G1 a_equation (q).toNat)) := fun q q0 q1 qb => by obtain ⟨t0, t1⟩ := hT8 q q0 q1 qb; obtain ⟨⟨r0, r1⟩, r2, r3⟩ := hRW _ t0 t1; rw [ie1 q q0 (by omega) t0, e268, hfe.atA (n := a_fSize) (by decide) (by decide)]; exact ⟨⟨r0, r1⟩, r2, r3.fx (FX.agf hfe (by decide) (by decide) (by decide)) hFU r0 r1⟩
        have hbs : ∀ q : Int, 6 ≤ q → q < 32 → ¬ bitI a1 q := fun q q0 q1 qb => by have := ((ia1 q (by omega) q1).mp qb).1; omega
        refine s_iconst dX12_unitFace_94 (by decide) ?_
        refine s_istore dX12_unitFace_95 (by decide) (lv' := [some (2, ((1000 : Nat) : Int)), some (0, s), some (0, v), some (0, a1), some (0, b1), some (0, 0), none, none, none, none, none, none]) rfl ?_
        have L3 : ∀ (n3 : Nat) (k3 : Int), ((0 ≤ k3 ∧ k3 ≤ 6)) → (6 - k3).toNat < n3 → WP kX12_unitFace X 97 [some (2, ((1000 : Nat) : Int)), some (0, s), some (0, v), some (0, a1), some (0, b1), some (0, k3), none, none, none, none, none, none] [] G1 := by
          intro n3
          induction n3 with
          | zero => intro k3 hi3 hm3; exact absurd hm3 (Nat.not_lt_zero _)
          | succ n3 ih3 =>
            intro k3 hi3 hm3
            have hj3 := hi3
            obtain ⟨ik3⟩ := hi3
            refine s_iload dX12_unitFace_97 rfl ?_
            refine s_bipush dX12_unitFace_99 rfl (by decide) ?_
            refine s_icmp_ge (tgt := 151) dX12_unitFace_101 (by decide) (fun c4 => ?_) (fun c4 => ?_)
            · -- 101 to 151
              refine s_aload_n dX12_unitFace_151 rfl (Int.natCast_nonneg _) ?_
              refine s_iload_n dX12_unitFace_152 rfl ?_
              refine cv_X12_391 rfl gX12_closes dX12_unitFace_153 hMG1 (by rw [hcf]; decide) (as := [(0, a1)]) rfl (Nat.le_of_ble_eq_true rfl) ⟨a1, Hs, vv, 5, rfl, hMG1, (by exact hFU8), (by exact hTH8), (by exact hvv), (by exact hbs), (by exact fun q q0 q1 qb => ⟨(hE8 q q0 q1 qb).1, by have := (hE8 q q0 q1 qb).2.1; omega⟩), (by exact Or.inl rfl), (by exact fun _ q q0 q1 qb => (hE8 q q0 q1 qb).2.1), (by omega), (by omega), fun r6 G5 hMG5 hpG5 => ?_⟩
              obtain ⟨hfG5, hpG5⟩ := hpG5
              have hFG5 : Fr nX12_unitFace jX12_unitFace G G5 := Fr.call hFG1 hfG5 (by decide) (by decide)
              show WP kX12_unitFace X 156 [some (2, ((1000 : Nat) : Int)), some (0, s), some (0, v), some (0, a1), some (0, b1), some (0, k3), none, none, none, none, none, none] [(0, r6)] G5
              refine s_istore dX12_unitFace_156 (by decide) (lv' := [some (2, ((1000 : Nat) : Int)), some (0, s), some (0, v), some (0, a1), some (0, b1), some (0, r6), none, none, none, none, none, none]) rfl ?_
              have hfc := (Fr.call (Fr.rf) hfG5 (by decide) (by decide) : Fr [a_uses, a_reaches, a_solved, a_by, a_fKind, a_fA, a_fB, a_fSize, a_fNext, a_fHead, a_fMark, a_thingKind, a_thingA, a_thingB, a_thingC, a_thingNext, a_thingHead, a_stackOf, a_fMemo] [26, 42, 35, 36] G1 G5)
              have hEc : FE G G5 Hs 30 48 := (hFE0.fr hfe (by decide) (by decide) (by decide)).trans (⟨hpG5.1, hpG5.2.1, hpG5.2.2.1, hpG5.2.2.2.1, by have := hpG5.2.2.2.2.1; omega, by have := hpG5.2.2.2.2.2.1; omega⟩ : FE G1 G5 Hs 30 48) (by omega) (by omega)
              have hslc : SlotFr s G G5 := (SlotFr.agr (hfe.agr (by decide) (by decide) (by decide))).trans (SlotFr.agr (hfc.agr (by decide) (by decide) (by decide)))
              have hRTc : RT G5 NF s := hRT0.fx hEc.2.1 hFU (fun j _ _ => (hfc.atA (by decide) (by decide)).trans (hfe.atA (by decide) (by decide)))
              have hRVc : RV G5 NF s := hRV0.fx hEc.2.1 hFU (fun j _ _ => (hfc.atA (by decide) (by decide)).trans (hfe.atA (by decide) (by decide)))
              have hclc : ∀ j : Int, 0 ≤ j → j < 10 → (gS G5 a_sValue (10 * s + j).toNat) = -1 := fun j j0 j1 => ((hfc.atA (by decide) (by decide)).trans (hfe.atA (by decide) (by decide))).trans (hcl j j0 j1)
              refine s_iload dX12_unitFace_158 rfl ?_
              refine s_if_eq (tgt := 166) dX12_unitFace_160 (by decide) (fun c7 => ?_) (fun c7 => ?_)
              · -- 160 to 166
                have hgood := hpG5.2.2.2.2.2.2 (by omega)
                have hSO : SO G5 NF a1 := fun q q0 q1 qb => by obtain ⟨⟨b0, b1, b2, b3⟩, b4⟩ := (hgood q q0 q1).1 qb; exact ⟨⟨b1, b2⟩, b3, b4 NF (fun k k0 k1 kb => (hE8 k k0 k1 kb).2.2)⟩
                have hBY : BY G5 NF := fun q q0 q1 => by by_cases qb : bitI a1 q; (have x := hSO q q0 q1 qb; rw [((hgood q q0 q1).1 qb).1.1]; exact ⟨by omega, fun _ => x.2.2⟩); (rw [(hgood q q0 q1).2 qb]; exact ⟨by have := hEc.1.f; omega, fun z => by omega⟩)
                have hffc := hEc.1.f
                refine s_iconst dX12_unitFace_166 (by decide) ?_
                refine s_istore dX12_unitFace_167 (by decide) (lv' := [some (2, ((1000 : Nat) : Int)), some (0, s), some (0, v), some (0, a1), some (0, b1), some (0, r6), some (0, 0), none, none, none, none, none]) rfl ?_
                have L8 : ∀ (n8 : Nat) (k8 : Int) (G8 : LG), MG G8 → Fr nX12_unitFace jX12_unitFace G G8 → ((0 ≤ k8 ∧ k8 ≤ 6) ∧ (Fr [a_sType] [] G5 G8) ∧ (SlotFr s G G8) ∧ (RT G8 NF s)) → (6 - k8).toNat < n8 → WP kX12_unitFace X 169 [some (2, ((1000 : Nat) : Int)), some (0, s), some (0, v), some (0, a1), some (0, b1), some (0, r6), some (0, k8), none, none, none, none, none] [] G8 := by
                  intro n8
                  induction n8 with
                  | zero => intro k8 G8 hMG8 hFG8 hi8 hm8; exact absurd hm8 (Nat.not_lt_zero _)
                  | succ n8 ih8 =>
                    intro k8 G8 hMG8 hFG8 hi8 hm8
                    have hj8 := hi8
                    obtain ⟨ik8, ir8, is8, iT8⟩ := hi8
                    have hUi8 : FU G8 := (hEc.fr ir8 (by decide) (by decide) (by decide)).1
                    have hSi8 := hSO.fx (FX.agf ir8 (by decide) (by decide) (by decide)) hEc.1 (fun j => ir8.atA (by decide) (by decide))
                    refine s_iload dX12_unitFace_169 rfl ?_
                    refine s_bipush dX12_unitFace_171 rfl (by decide) ?_
                    refine s_icmp_ge (tgt := 229) dX12_unitFace_173 (by decide) (fun c9 => ?_) (fun c9 => ?_)
                    · -- 173 to 229
                      have hEt : FE G G8 Hs 30 48 := hEc.fr ir8 (by decide) (by decide) (by decide)
                      have hir := ir8
                      refine s_iconst dX12_unitFace_229 (by decide) ?_
                      refine s_istore dX12_unitFace_230 (by decide) (lv' := [some (2, ((1000 : Nat) : Int)), some (0, s), some (0, v), some (0, a1), some (0, b1), some (0, r6), some (0, 0), none, none, none, none, none]) rfl ?_
                      have L10 : ∀ (n10 : Nat) (k10 : Int) (G10 : LG), MG G10 → Fr nX12_unitFace jX12_unitFace G G10 → ((0 ≤ k10 ∧ k10 ≤ 10) ∧ (FE G G10 Hs (30 + 5 * k10) (48 + k10)) ∧ (BY G10 NF) ∧ (RT G10 NF s) ∧ (RV G10 NF s) ∧ (SlotFr s G G10) ∧ (∀ j : Int, 0 ≤ j → j < 10 → ¬ (gS G10 a_sValue (10 * s + j).toNat) = -1 → j < k10 ∧ ¬ (gS G a_valueType (10 * v + j).toNat) = -1 ∧ (i_and (gS G10 a_sFlags (10 * s + j).toNat) 1 = 0 → ¬ (gS G a_valueBy (10 * v + j).toNat) = -1))) → (10 - k10).toNat < n10 → WP kX12_unitFace X 232 [some (2, ((1000 : Nat) : Int)), some (0, s), some (0, v), some (0, a1), some (0, b1), some (0, r6), some (0, k10), none, none, none, none, none] [] G10 := by
                        intro n10
                        induction n10 with
                        | zero => intro k10 G10 hMG10 hFG10 hi10 hm10; exact absurd hm10 (Nat.not_lt_zero _)
                        | succ n10 ih10 =>
                          intro k10 G10 hMG10 hFG10 hi10 hm10
                          have hj10 := hi10
                          obtain ⟨ik10, iE10, iB10, iT10, iV10, is10, iD10⟩ := hi10
                          refine s_iload dX12_unitFace_232 rfl ?_
                          refine s_bipush dX12_unitFace_234 rfl (by decide) ?_
                          refine s_icmp_ge (tgt := 458) dX12_unitFace_236 (by decide) (fun c11 => ?_) (fun c11 => ?_)
                          · -- 236 to 458
                            have hEy := iE10
                            have hEyc := iE10.2.2.2.2.1
                            refine s_iconst dX12_unitFace_458 (by decide) ?_
                            refine s_istore dX12_unitFace_459 (by decide) (lv' := [some (2, ((1000 : Nat) : Int)), some (0, s), some (0, v), some (0, a1), some (0, b1), some (0, r6), some (0, 0), none, none, none, none, none]) rfl ?_
                            have L12 : ∀ (n12 : Nat) (k12 : Int) (G12 : LG), MG G12 → Fr nX12_unitFace jX12_unitFace G G12 → ((0 ≤ k12 ∧ k12 ≤ 10) ∧ (Fr nX12_definitionError jX12_definitionError G10 G12) ∧ (FU G12) ∧ (FX G10 G12) ∧ ((gS G12 1000 26) ≤ (gS G10 1000 26) + 29 * k12)) → (10 - k12).toNat < n12 → WP kX12_unitFace X 461 [some (2, ((1000 : Nat) : Int)), some (0, s), some (0, v), some (0, a1), some (0, b1), some (0, r6), some (0, k12), none, none, none, none, none] [] G12 := by
                              intro n12
                              induction n12 with
                              | zero => intro k12 G12 hMG12 hFG12 hi12 hm12; exact absurd hm12 (Nat.not_lt_zero _)
                              | succ n12 ih12 =>
                                intro k12 G12 hMG12 hFG12 hi12 hm12
                                have hj12 := hi12
                                obtain ⟨ik12, ir12, iU12, ix12, ic12⟩ := hi12
                                refine s_iload dX12_unitFace_461 rfl ?_
                                refine s_bipush dX12_unitFace_463 rfl (by decide) ?_
                                refine s_icmp_ge (tgt := 513) dX12_unitFace_465 (by decide) (fun c13 => ?_) (fun c13 => ?_)
                                · -- 465 to 513
                                  refine s_iconst dX12_unitFace_513 (by decide) ?_
                                  exact s_iret hR dX12_unitFace_514 rfl (hQ _ G12 hMG12 (⟨hFG12, ⟨hEy.trans (FE.full (c := 290) iU12 ix12 hEy.2.2.1 (by omega) ir12 (by decide) (by decide) (by decide) (by decide)) (by omega) (by omega), is10.trans (SlotFr.agr (ir12.agr (by decide) (by decide) (by decide))), iT10.fx ix12 hEy.1 (fun j _ _ => ir12.atA (by decide) (by decide)), iV10.fx ix12 hEy.1 (fun j _ _ => ir12.atA (by decide) (by decide)), fun _ j j0 j1 q => (iD10 j j0 j1 (by rw [ir12.atA (n := a_sValue) (by decide) (by decide)] at q; exact q)).2.1⟩⟩))
                                · -- 465 to 468
                                  refine s_aload_n dX12_unitFace_468 rfl (Int.natCast_nonneg _) ?_
                                  refine s_iload_n dX12_unitFace_469 rfl ?_
                                  refine s_iload dX12_unitFace_470 rfl ?_
                                  refine cv_X12_388 rfl gX12_isOf dX12_unitFace_472 hMG12 (by rw [hcf]; decide) (as := [(0, s), (0, k12)]) rfl (Nat.le_of_ble_eq_true rfl) ⟨s, k12, rfl, hMG12, (by first | assumption | omega), (by first | assumption | omega), ?_⟩
                                  show WP kX12_unitFace X 475 [some (2, ((1000 : Nat) : Int)), some (0, s), some (0, v), some (0, a1), some (0, b1), some (0, r6), some (0, k12), none, none, none, none, none] [(0, (gS G12 a_sValue (10 * s + k12).toNat))] G12
                                  refine s_iconst dX12_unitFace_475 (by decide) ?_
                                  refine s_icmp_eq (tgt := 507) dX12_unitFace_476 (by decide) (fun c14 => ?_) (fun c14 => ?_)
                                  · -- 476 to 507
                                    refine s_iinc dX12_unitFace_507 (v := k12) rfl (by omega) (by decide) (lv' := [some (2, ((1000 : Nat) : Int)), some (0, s), some (0, v), some (0, a1), some (0, b1), some (0, r6), some (0, k12 + 1), none, none, none, none, none]) rfl ?_
                                    refine s_goto (tgt := 461) dX12_unitFace_510 (by decide) ?_
                                    exact ih12 (k12 + 1) G12 hMG12 hFG12 (⟨(by omega), (by exact ir12), (by exact iU12), (by exact ix12), (by omega)⟩) (by omega)
                                  · -- 476 to 479
                                    refine s_aload_n dX12_unitFace_479 rfl (Int.natCast_nonneg _) ?_
                                    refine s_iload_n dX12_unitFace_480 rfl ?_
                                    refine s_iload dX12_unitFace_481 rfl ?_
                                    refine cv_X12_398 rfl gX12_isHole dX12_unitFace_483 hMG12 (by rw [hcf]; decide) (as := [(0, s), (0, k12)]) rfl (Nat.le_of_ble_eq_true rfl) ⟨s, k12, rfl, hMG12, (by first | assumption | omega), (by first | assumption | omega), ?_⟩
                                    show WP kX12_unitFace X 486 [some (2, ((1000 : Nat) : Int)), some (0, s), some (0, v), some (0, a1), some (0, b1), some (0, r6), some (0, k12), none, none, none, none, none] [(0, b2i (¬ i_and (gS G12 a_sFlags (10 * s + k12).toNat) 1 = 0))] G12
                                    refine s_if_neB (tgt := 507) dX12_unitFace_486 (by decide) (fun c15 => ?_) (fun c15 => ?_)
                                    · -- 486 to 507
                                      refine s_iinc dX12_unitFace_507 (v := k12) rfl (by omega) (by decide) (lv' := [some (2, ((1000 : Nat) : Int)), some (0, s), some (0, v), some (0, a1), some (0, b1), some (0, r6), some (0, k12 + 1), none, none, none, none, none]) rfl ?_
                                      refine s_goto (tgt := 461) dX12_unitFace_510 (by decide) ?_
                                      exact ih12 (k12 + 1) G12 hMG12 hFG12 (⟨(by omega), (by exact ir12), (by exact iU12), (by exact ix12), (by omega)⟩) (by omega)
                                    · -- 486 to 489
                                      have hD12 := iD10 k12 (by omega) (by omega) (by rw [← ir12.atA (n := a_sValue) (by decide) (by decide)]; assumption)
                                      have hD212 := hD12.2.2 (by rw [← ir12.atA (n := a_sFlags) (by decide) (by decide)]; omega)
                                      have hvb12 : (gS G12 a_valueBy (10 * v + k12).toNat) = (gS G a_valueBy (10 * v + k12).toNat) := hFG12.atA (by decide) (by decide)
                                      have hex12 : (gS G12 1000 6) = (gS G 1000 6) := hFG12.atF (by decide) (by decide)
                                      have hvt12 := (hUV.2.2.2.2 v k12 hv.1 hv.2 (by omega) (by omega)).2 hD12.2.1
                                      have hEX12 : EX G12 := hEX.agr (hFG12.agr (by decide) (by decide) (by decide))
                                      refine s_aload_n dX12_unitFace_489 rfl (Int.natCast_nonneg _) ?_
                                      refine s_iload_n dX12_unitFace_490 rfl ?_
                                      refine s_iload_n dX12_unitFace_491 rfl ?_
                                      refine s_iload dX12_unitFace_492 rfl ?_
                                      refine cv_X12_401 rfl gX12_definitionError dX12_unitFace_494 hMG12 (by rw [hcf]; decide) (as := [(0, s), (0, v), (0, k12)]) rfl (Nat.le_of_ble_eq_true rfl) ⟨s, v, k12, rfl, hMG12, (by exact iU12), (by omega), (by exact hEX12), (by omega), (by omega), (by omega), (by omega), (by exact fun q q0 q1 => by rw [ir12.atA (n := a_sValue) (by decide) (by decide)]; have z9 := (iV10 q q0 q1).1; have z8 := ix12.1; omega), fun r17 G16 hMG16 hpG16 => ?_⟩
                                      obtain ⟨hfG16, hpG16⟩ := hpG16
                                      have hFG16 : Fr nX12_unitFace jX12_unitFace G G16 := Fr.call hFG12 hfG16 (by decide) (by decide)
                                      show WP kX12_unitFace X 497 [some (2, ((1000 : Nat) : Int)), some (0, s), some (0, v), some (0, a1), some (0, b1), some (0, r6), some (0, k12), none, none, none, none, none] [(0, r17)] G16
                                      refine s_istore dX12_unitFace_497 (by decide) (lv' := [some (2, ((1000 : Nat) : Int)), some (0, s), some (0, v), some (0, a1), some (0, b1), some (0, r6), some (0, k12), some (0, r17), none, none, none, none]) rfl ?_
                                      refine s_iload dX12_unitFace_499 rfl ?_
                                      refine s_if_eq (tgt := 507) dX12_unitFace_501 (by decide) (fun c18 => ?_) (fun c18 => ?_)
                                      · -- 501 to 507
                                        refine s_iinc dX12_unitFace_507 (v := k12) rfl (by omega) (by decide) (lv' := [some (2, ((1000 : Nat) : Int)), some (0, s), some (0, v), some (0, a1), some (0, b1), some (0, r6), some (0, k12 + 1), some (0, r17), none, none, none, none]) rfl ?_
                                        refine s_goto (tgt := 461) dX12_unitFace_510 (by decide) ?_
                                        refine s_mask [true, true, true, true, true, true, true, false, false, false, false, false] (lv' := [some (2, ((1000 : Nat) : Int)), some (0, s), some (0, v), some (0, a1), some (0, b1), some (0, r6), some (0, k12 + 1), none, none, none, none, none]) rfl ?_
                                        exact ih12 (k12 + 1) G16 hMG16 hFG16 (⟨(by omega), (by exact Fr.call ir12 hfG16 (by decide) (by decide)), (by exact hpG16.1), (by exact ix12.trans hpG16.2.1), (by have z9 := hpG16.2.2; omega)⟩) (by omega)
                                      · -- 501 to 504
                                        refine s_iload dX12_unitFace_504 rfl ?_
                                        exact s_iret hR dX12_unitFace_506 rfl (hQ _ G16 hMG16 (⟨hFG16, ⟨hEy.trans (FE.full (c := 290) hpG16.1 (ix12.trans hpG16.2.1) hEy.2.2.1 (by have := hpG16.2.2; omega) (Fr.call ir12 hfG16 (by decide) (by decide)) (by decide) (by decide) (by decide) (by decide)) (by omega) (by omega), is10.trans (SlotFr.agr ((Fr.call ir12 hfG16 (by decide) (by decide)).agr (by decide) (by decide) (by decide))), iT10.fx (ix12.trans hpG16.2.1) hEy.1 (fun j _ _ => (Fr.call ir12 hfG16 (by decide) (by decide)).atA (by decide) (by decide)), iV10.fx (ix12.trans hpG16.2.1) hEy.1 (fun j _ _ => (Fr.call ir12 hfG16 (by decide) (by decide)).atA (by decide) (by decide)), fun q => by omega⟩⟩))
                            exact L12 _ 0 G10 hMG10 hFG10 (⟨(by omega), (by exact Fr.rf), (by exact hEy.1), (by exact FX.rf), (by omega)⟩) (Nat.lt_succ_self _)
                          · -- 236 to 239
                            refine s_bipush dX12_unitFace_239 rfl (by decide) ?_
                            refine s_iload_n dX12_unitFace_241 rfl ?_
                            refine s_imul dX12_unitFace_242 (by omega) ?_
                            refine s_iload dX12_unitFace_243 rfl ?_
                            refine s_iadd dX12_unitFace_245 (by omega) ?_
                            refine s_istore dX12_unitFace_246 (by decide) (lv' := [some (2, ((1000 : Nat) : Int)), some (0, s), some (0, v), some (0, a1), some (0, b1), some (0, r6), some (0, k10), some (0, (10 * v) + k10), none, none, none, none]) rfl ?_
                            have hvt10 := hUV.2.2.2.2 v k10 hv.1 hv.2 (by omega) (by omega)
                            have hv110 : (gS G10 a_valueType (10 * v + k10).toNat) = (gS G a_valueType (10 * v + k10).toNat) := hFG10.atA (by decide) (by decide)
                            have hv210 : (gS G10 a_valueBy (10 * v + k10).toNat) = (gS G a_valueBy (10 * v + k10).toNat) := hFG10.atA (by decide) (by decide)
                            have hv310 : (gS G10 a_valueFlags (10 * v + k10).toNat) = (gS G a_valueFlags (10 * v + k10).toNat) := hFG10.atA (by decide) (by decide)
                            refine s_aload_n dX12_unitFace_248 rfl (Int.natCast_nonneg _) ?_
                            refine gf_valueType rfl dX12_unitFace_249 hMG10 ?_
                            refine s_iload dX12_unitFace_252 rfl ?_
                            refine s_iald dX12_unitFace_254 (mg_a_valueType hMG10) (by omega) (by omega) rfl ?_
                            refine s_iconst dX12_unitFace_255 (by decide) ?_
                            refine s_icmp_eq (tgt := 452) dX12_unitFace_256 (by decide) (fun c19 => ?_) (fun c19 => ?_)
                            · -- 256 to 452
                              refine s_iinc dX12_unitFace_452 (v := k10) rfl (by omega) (by decide) (lv' := [some (2, ((1000 : Nat) : Int)), some (0, s), some (0, v), some (0, a1), some (0, b1), some (0, r6), some (0, k10 + 1), some (0, (10 * v) + k10), none, none, none, none]) rfl ?_
                              refine s_goto (tgt := 232) dX12_unitFace_455 (by decide) ?_
                              refine s_mask [true, true, true, true, true, true, true, false, false, false, false, false] (lv' := [some (2, ((1000 : Nat) : Int)), some (0, s), some (0, v), some (0, a1), some (0, b1), some (0, r6), some (0, k10 + 1), none, none, none, none, none]) rfl ?_
                              exact ih10 (k10 + 1) G10 hMG10 hFG10 (⟨(by omega), (by exact iE10.weak (by omega) (by omega)), (by exact iB10), (by exact iT10), (by exact iV10), (by exact is10), (by intro j j0 j1 q; have z9 := iD10 j j0 j1 q; exact ⟨by omega, z9.2⟩)⟩) (by omega)
                            · -- 256 to 259
                              have hraw10 := hRW ((gS G a_valueType (10 * v + k10).toNat)) (by omega) hvt10.1.2
                              have hv410 : (gS G10 a_raw ((gS G10 a_valueType (10 * v + k10).toNat)).toNat) = (gS G a_raw ((gS G a_valueType (10 * v + k10).toNat)).toNat) := by rw [hv110]; exact hFG10.atA (by decide) (by decide)
                              have hrx10 := (iE10.2.1.2 _ hraw10.1.1 hraw10.1.2).2.2.2
                              have hro10 : okS G10 NF ((gS G10 a_raw ((gS G10 a_valueType (10 * v + k10).toNat)).toNat)) := by rw [hv410]; exact hraw10.2.2.fx iE10.2.1 hFU hraw10.1.1 hraw10.1.2
                              have hrz10 := hraw10.2.1
                              rw [← hrx10, ← hv410] at hrz10
                              have hrr10 := hraw10.1
                              rw [← hv410] at hrr10
                              have hrf10 := iE10.2.1.1
                              have hrg10 := iE10.2.2.2.2
                              have hpl10 : pcost 0 ((gS G10 a_fSize ((gS G10 a_raw ((gS G10 a_valueType (10 * v + k10).toNat)).toNat)).toNat)) ≤ 5 := by rw [pc_0]; omega
                              refine s_aload_n dX12_unitFace_259 rfl (Int.natCast_nonneg _) ?_
                              refine gf_tNames rfl dX12_unitFace_260 hMG10 ?_
                              refine s_aload_n dX12_unitFace_263 rfl (Int.natCast_nonneg _) ?_
                              refine gf_valueType rfl dX12_unitFace_264 hMG10 ?_
                              refine s_iload dX12_unitFace_267 rfl ?_
                              refine s_iald dX12_unitFace_269 (mg_a_valueType hMG10) (by omega) (by omega) rfl ?_
                              refine s_iald dX12_unitFace_270 (mg_a_tNames hMG10) (by omega) (by omega) rfl ?_
                              refine s_iload dX12_unitFace_271 rfl ?_
                              refine s_iconst dX12_unitFace_273 (by decide) ?_
                              refine s_ixor dX12_unitFace_274 ?_
                              refine s_iand dX12_unitFace_275 ?_
                              refine s_if_eq (tgt := 285) dX12_unitFace_276 (by decide) (fun c20 => ?_) (fun c20 => ?_)
                              · -- 276 to 285
                                refine s_aload_n dX12_unitFace_285 rfl (Int.natCast_nonneg _) ?_
                                refine s_iconst dX12_unitFace_286 (by decide) ?_
                                refine s_aload_n dX12_unitFace_287 rfl (Int.natCast_nonneg _) ?_
                                refine gf_raw rfl dX12_unitFace_288 hMG10 ?_
                                refine s_aload_n dX12_unitFace_291 rfl (Int.natCast_nonneg _) ?_
                                refine gf_valueType rfl dX12_unitFace_292 hMG10 ?_
                                refine s_iload dX12_unitFace_295 rfl ?_
                                refine s_iald dX12_unitFace_297 (mg_a_valueType hMG10) (by omega) (by omega) rfl ?_
                                refine s_iald dX12_unitFace_298 (mg_a_raw hMG10) (by omega) (by omega) rfl ?_
                                refine cv_X12_378 rfl gX12_puts dX12_unitFace_299 hMG10 (by rw [hcf]; decide) (as := [(0, 0), (0, gS G10 a_raw ((gS G10 a_valueType (((10 * v) + k10).toNat)).toNat))]) rfl (Nat.le_of_ble_eq_true rfl) ⟨0, gS G10 a_raw ((gS G10 a_valueType (((10 * v) + k10).toNat)).toNat), Hs, vv, fun _ => True, rfl, hMG10, (by exact iE10.1), (by exact iE10.2.2.1), (by exact hvv), (by omega), (by omega), (by omega), (by omega), (by omega), (by exact fun _ q q0 q1 => (iB10 q q0 q1).1), (by intro q; omega), (by intro q; omega), fun r22 G21 hMG21 hpG21 => ?_⟩
                                obtain ⟨hfG21, hpG21⟩ := hpG21
                                have hFG21 : Fr nX12_unitFace jX12_unitFace G G21 := Fr.call hFG10 hfG21 (by decide) (by decide)
                                show WP kX12_unitFace X 302 [some (2, ((1000 : Nat) : Int)), some (0, s), some (0, v), some (0, a1), some (0, b1), some (0, r6), some (0, k10), some (0, (10 * v) + k10), none, none, none, none] [(0, r22)] G21
                                refine s_istore dX12_unitFace_302 (by decide) (lv' := [some (2, ((1000 : Nat) : Int)), some (0, s), some (0, v), some (0, a1), some (0, b1), some (0, r6), some (0, k10), some (0, (10 * v) + k10), some (0, r22), none, none, none]) rfl ?_
                                have hfp10 := (Fr.call (Fr.rf) hfG21 (by decide) (by decide) : Fr [a_fKind, a_fA, a_fB, a_fSize, a_fNext, a_fHead, a_fMark, a_thingKind, a_thingA, a_thingB, a_thingC, a_thingNext, a_thingHead, a_stackOf, a_fMemo] [26, 42, 35, 36] G10 G21)
                                have hEp10 : FE G G21 Hs (30 + 5 * k10 + 5) (48 + k10 + 1) := iE10.trans (FE.puts hpG21 hpl10) (by omega) (by omega)
                                have hop10 : okS G21 NF r22 := hpG21.2.2.2.2.2.2.2.1 rfl NF hro10 (fun q q0 q1 qb => (iB10 q q0 q1).2 qb)
                                have hrp10 := hpG21.2.2.2.2.1
                                have hTp10 : RT G21 NF s := iT10.fx hpG21.2.1 iE10.1 (fun j _ _ => hfp10.atA (by decide) (by decide))
                                have hVp10 : RV G21 NF s := iV10.fx hpG21.2.1 iE10.1 (fun j _ _ => hfp10.atA (by decide) (by decide))
                                have hBp10 : BY G21 NF := iB10.fx hpG21.2.1 iE10.1 (fun j => hfp10.atA (by decide) (by decide))
                                have hsp10 : SlotFr s G G21 := is10.trans (SlotFr.agr (hfp10.agr (by decide) (by decide) (by decide)))
                                refine s_aload_n dX12_unitFace_304 rfl (Int.natCast_nonneg _) ?_
                                refine gf_fSize rfl dX12_unitFace_305 hMG21 ?_
                                refine s_iload dX12_unitFace_308 rfl ?_
                                refine s_iald dX12_unitFace_310 (mg_a_fSize hMG21) (by omega) (by omega) rfl ?_
                                refine s_sipush dX12_unitFace_311 rfl (by decide) ?_
                                refine s_icmp_le (tgt := 324) dX12_unitFace_314 (by decide) (fun c23 => ?_) (fun c23 => ?_)
                                · -- 314 to 324
                                  refine s_aload_n dX12_unitFace_324 rfl (Int.natCast_nonneg _) ?_
                                  refine gf_valueBy rfl dX12_unitFace_325 hMG21 ?_
                                  refine s_iload dX12_unitFace_328 rfl ?_
                                  refine s_iald dX12_unitFace_330 (mg_a_valueBy hMG21) (by omega) (by omega) (Fr.atA hfG21 (by decide) (by decide)) ?_
                                  refine s_iconst dX12_unitFace_331 (by decide) ?_
                                  have J25 : ∀ z24 : Int, ((¬ (gS G10 a_valueBy (((10 * v) + k10).toNat)) = ((-1))) ∧ z24 = 0) ∨ (((gS G10 a_valueBy (((10 * v) + k10).toNat)) = ((-1))) ∧ z24 = 1) → WP kX12_unitFace X 340 [some (2, ((1000 : Nat) : Int)), some (0, s), some (0, v), some (0, a1), some (0, b1), some (0, r6), some (0, k10), some (0, (10 * v) + k10), some (0, r22), none, none, none] [(0, z24)] G21 := by
                                    intro z24 hz24
                                    refine s_istore dX12_unitFace_340 (by decide) (lv' := [some (2, ((1000 : Nat) : Int)), some (0, s), some (0, v), some (0, a1), some (0, b1), some (0, r6), some (0, k10), some (0, (10 * v) + k10), some (0, r22), some (0, z24), none, none]) rfl ?_
                                    refine s_iload dX12_unitFace_342 rfl ?_
                                    have J27 : ∀ z26 : Int, ((¬ z24 = 0) ∧ z26 = 0) ∨ ((z24 = 0) ∧ (¬ (gS G10 a_eKind ((gS G10 a_valueBy (((10 * v) + k10).toNat)).toNat)) = 0) ∧ z26 = 0) ∨ ((z24 = 0) ∧ ((gS G10 a_eKind ((gS G10 a_valueBy (((10 * v) + k10).toNat)).toNat)) = 0) ∧ (¬ (gS G10 a_valueFlags (((10 * v) + k10).toNat)) = 0) ∧ z26 = 0) ∨ ((z24 = 0) ∧ ((gS G10 a_eKind ((gS G10 a_valueBy (((10 * v) + k10).toNat)).toNat)) = 0) ∧ ((gS G10 a_valueFlags (((10 * v) + k10).toNat)) = 0) ∧ z26 = 1) → WP kX12_unitFace X 377 [some (2, ((1000 : Nat) : Int)), some (0, s), some (0, v), some (0, a1), some (0, b1), some (0, r6), some (0, k10), some (0, (10 * v) + k10), some (0, r22), some (0, z24), none, none] [(0, z26)] G21 := by
                                      intro z26 hz26
                                      refine s_istore dX12_unitFace_377 (by decide) (lv' := [some (2, ((1000 : Nat) : Int)), some (0, s), some (0, v), some (0, a1), some (0, b1), some (0, r6), some (0, k10), some (0, (10 * v) + k10), some (0, r22), some (0, z24), some (0, z26), none]) rfl ?_
                                      refine s_iload dX12_unitFace_379 rfl ?_
                                      have J29 : ∀ z28 : Int, ((z24 = 0) ∧ z28 = 0) ∨ ((¬ z24 = 0) ∧ z28 = 1) → WP kX12_unitFace X 389 [some (2, ((1000 : Nat) : Int)), some (0, s), some (0, v), some (0, a1), some (0, b1), some (0, r6), some (0, k10), some (0, (10 * v) + k10), some (0, r22), some (0, z24), some (0, z26), none] [(0, z28)] G21 := by
                                        intro z28 hz28
                                        refine s_aload_n dX12_unitFace_389 rfl (Int.natCast_nonneg _) ?_
                                        refine gf_valueFlags rfl dX12_unitFace_390 hMG21 ?_
                                        refine s_iload dX12_unitFace_393 rfl ?_
                                        refine s_iald dX12_unitFace_395 (mg_a_valueFlags hMG21) (by omega) (by omega) (Fr.atA hfG21 (by decide) (by decide)) ?_
                                        refine s_iconst dX12_unitFace_396 (by decide) ?_
                                        refine s_iand dX12_unitFace_397 ?_
                                        have J31 : ∀ z30 : Int, (((i_and (gS G10 a_valueFlags (((10 * v) + k10).toNat)) 4) = 0) ∧ z30 = 0) ∨ ((¬ (i_and (gS G10 a_valueFlags (((10 * v) + k10).toNat)) 4) = 0) ∧ z30 = 2) → WP kX12_unitFace X 406 [some (2, ((1000 : Nat) : Int)), some (0, s), some (0, v), some (0, a1), some (0, b1), some (0, r6), some (0, k10), some (0, (10 * v) + k10), some (0, r22), some (0, z24), some (0, z26), none] [(0, z30), (0, z28)] G21 := by
                                          intro z30 hz30
                                          refine s_iadd dX12_unitFace_406 (by omega) ?_
                                          refine s_iload dX12_unitFace_407 rfl ?_
                                          have J33 : ∀ z32 : Int, ((z26 = 0) ∧ z32 = 0) ∨ ((¬ z26 = 0) ∧ z32 = 4) → WP kX12_unitFace X 417 [some (2, ((1000 : Nat) : Int)), some (0, s), some (0, v), some (0, a1), some (0, b1), some (0, r6), some (0, k10), some (0, (10 * v) + k10), some (0, r22), some (0, z24), some (0, z26), none] [(0, z32), (0, z28 + z30)] G21 := by
                                            intro z32 hz32
                                            refine s_iadd dX12_unitFace_417 (by omega) ?_
                                            refine s_istore dX12_unitFace_418 (by decide) (lv' := [some (2, ((1000 : Nat) : Int)), some (0, s), some (0, v), some (0, a1), some (0, b1), some (0, r6), some (0, k10), some (0, (10 * v) + k10), some (0, r22), some (0, z24), some (0, z26), some (0, (z28 + z30) + z32)]) rfl ?_
                                            refine s_aload_n dX12_unitFace_420 rfl (Int.natCast_nonneg _) ?_
                                            refine s_iload_n dX12_unitFace_421 rfl ?_
                                            refine s_iload dX12_unitFace_422 rfl ?_
                                            refine s_iload dX12_unitFace_424 rfl ?_
                                            refine s_iload dX12_unitFace_426 rfl ?_
                                            refine s_iload dX12_unitFace_428 rfl ?_
                                            have J35 : ∀ z34 : Int, ((z26 = 0) ∧ z34 = 0) ∨ ((¬ z26 = 0) ∧ z34 = gS G10 a_eFirst ((gS G10 a_valueBy (((10 * v) + k10).toNat)).toNat)) → WP kX12_unitFace X 449 [some (2, ((1000 : Nat) : Int)), some (0, s), some (0, v), some (0, a1), some (0, b1), some (0, r6), some (0, k10), some (0, (10 * v) + k10), some (0, r22), some (0, z24), some (0, z26), some (0, (z28 + z30) + z32)] [(0, z34), (0, (z28 + z30) + z32), (0, r22), (0, k10), (0, s), (2, ((1000 : Nat) : Int))] G21 := by
                                              intro z34 hz34
                                              refine cv_X12_394 rfl gX12_shows dX12_unitFace_449 hMG21 (by rw [hcf]; decide) (as := [(0, s), (0, k10), (0, r22), (0, (z28 + z30) + z32), (0, z34)]) rfl (Nat.le_of_ble_eq_true rfl) ⟨s, k10, r22, (z28 + z30) + z32, z34, rfl, hMG21, (by first | assumption | omega), (by first | assumption | omega), fun G36 hMG36 hpG36 => ?_⟩
                                              obtain ⟨G38, G39, eG38, eG39, eG36, hpG36⟩ := hpG36
                                              have hFG38 : Fr nX12_unitFace jX12_unitFace G G38 := Fr.setA hFG21 eG38 (by decide)
                                              have hFG39 : Fr nX12_unitFace jX12_unitFace G G39 := Fr.setA hFG38 eG39 (by decide)
                                              have hFG36 : Fr nX12_unitFace jX12_unitFace G G36 := Fr.setA hFG39 eG36 (by decide)
                                              show WP kX12_unitFace X 452 [some (2, ((1000 : Nat) : Int)), some (0, s), some (0, v), some (0, a1), some (0, b1), some (0, r6), some (0, k10), some (0, (10 * v) + k10), some (0, r22), some (0, z24), some (0, z26), some (0, (z28 + z30) + z32)] [] G36
                                              refine s_iinc dX12_unitFace_452 (v := k10) rfl (by omega) (by decide) (lv' := [some (2, ((1000 : Nat) : Int)), some (0, s), some (0, v), some (0, a1), some (0, b1), some (0, r6), some (0, k10 + 1), some (0, (10 * v) + k10), some (0, r22), some (0, z24), some (0, z26), some (0, (z28 + z30) + z32)]) rfl ?_
                                              refine s_goto (tgt := 232) dX12_unitFace_455 (by decide) ?_
                                              refine s_mask [true, true, true, true, true, true, true, false, false, false, false, false] (lv' := [some (2, ((1000 : Nat) : Int)), some (0, s), some (0, v), some (0, a1), some (0, b1), some (0, r6), some (0, k10 + 1), none, none, none, none, none]) rfl ?_
                                              exact ih10 (k10 + 1) G36 hMG36 hFG36 (⟨(by omega), (by exact (hEp10.fr (Fr.setA (Fr.setA (Fr.setA (Fr.rf) eG38 (by decide)) eG39 (by decide)) eG36 (by decide) : Fr [a_sValue, a_sFlags, a_sNumber] [] G21 G36) (by decide) (by decide) (by decide)).weak (by omega) (by omega)), (by exact hBp10.fx (FX.agf (Fr.setA (Fr.setA (Fr.setA (Fr.rf) eG38 (by decide)) eG39 (by decide)) eG36 (by decide) : Fr [a_sValue, a_sFlags, a_sNumber] [] G21 G36) (by decide) (by decide) (by decide)) hEp10.1 (fun j => (Fr.setA (Fr.setA (Fr.setA (Fr.rf) eG38 (by decide)) eG39 (by decide)) eG36 (by decide) : Fr [a_sValue, a_sFlags, a_sNumber] [] G21 G36).atA (by decide) (by decide))), (by exact hTp10.fx (FX.agf (Fr.setA (Fr.setA (Fr.setA (Fr.rf) eG38 (by decide)) eG39 (by decide)) eG36 (by decide) : Fr [a_sValue, a_sFlags, a_sNumber] [] G21 G36) (by decide) (by decide) (by decide)) hEp10.1 (fun j _ _ => (Fr.setA (Fr.setA (Fr.setA (Fr.rf) eG38 (by decide)) eG39 (by decide)) eG36 (by decide) : Fr [a_sValue, a_sFlags, a_sNumber] [] G21 G36).atA (by decide) (by decide))), (by exact RV.set hVp10 hs.1 ⟨by omega, by omega⟩ eG38 eG39 eG36 ⟨by omega, fun _ => ⟨by omega, hop10⟩⟩ hEp10.1), (by exact hsp10.trans (SlotFr.va (k := k10) ⟨by omega, by omega⟩ hs.1 eG38 eG39 eG36)), (by obtain ⟨u1, u2, u3, u4⟩ := va3 eG38 eG39 eG36; intro j j0 j1 q; by_cases hj : j = k10; (subst hj; refine ⟨by omega, by omega, fun z => ?_⟩; rw [g_at u2] at z; have z9 := fl3 (a := z28) (b := z30) (c := z32) (by omega) (by omega) (by omega) z; omega); (rw [g_ne u1 (by omega), hfp10.atA (n := a_sValue) (by decide) (by decide)] at q; rw [g_ne u2 (by omega), hfp10.atA (n := a_sFlags) (by decide) (by decide)]; have z9 := iD10 j j0 j1 q; exact ⟨by omega, z9.2⟩))⟩) (by omega)
                                            refine s_if_eq (tgt := 448) dX12_unitFace_430 (by decide) (fun c40 => ?_) (fun c40 => ?_)
                                            · -- 430 to 448
                                              refine s_iconst dX12_unitFace_448 (by decide) ?_
                                              exact J35 0 (Or.inl ⟨c40, rfl⟩)
                                            · -- 430 to 433
                                              refine s_aload_n dX12_unitFace_433 rfl (Int.natCast_nonneg _) ?_
                                              refine gf_eFirst rfl dX12_unitFace_434 hMG21 ?_
                                              refine s_aload_n dX12_unitFace_437 rfl (Int.natCast_nonneg _) ?_
                                              refine gf_valueBy rfl dX12_unitFace_438 hMG21 ?_
                                              refine s_iload dX12_unitFace_441 rfl ?_
                                              refine s_iald dX12_unitFace_443 (mg_a_valueBy hMG21) (by omega) (by omega) (Fr.atA hfG21 (by decide) (by decide)) ?_
                                              refine s_iald dX12_unitFace_444 (mg_a_eFirst hMG21) (by omega) (by omega) (Fr.atA hfG21 (by decide) (by decide)) ?_
                                              refine s_goto (tgt := 449) dX12_unitFace_445 (by decide) ?_
                                              exact J35 _ (Or.inr (⟨c40, rfl⟩))
                                          refine s_if_eq (tgt := 416) dX12_unitFace_409 (by decide) (fun c41 => ?_) (fun c41 => ?_)
                                          · -- 409 to 416
                                            refine s_iconst dX12_unitFace_416 (by decide) ?_
                                            exact J33 0 (Or.inl ⟨c41, rfl⟩)
                                          · -- 409 to 412
                                            refine s_iconst dX12_unitFace_412 (by decide) ?_
                                            refine s_goto (tgt := 417) dX12_unitFace_413 (by decide) ?_
                                            exact J33 4 (Or.inr (⟨c41, rfl⟩))
                                        refine s_if_eq (tgt := 405) dX12_unitFace_398 (by decide) (fun c42 => ?_) (fun c42 => ?_)
                                        · -- 398 to 405
                                          refine s_iconst dX12_unitFace_405 (by decide) ?_
                                          exact J31 0 (Or.inl ⟨c42, rfl⟩)
                                        · -- 398 to 401
                                          refine s_iconst dX12_unitFace_401 (by decide) ?_
                                          refine s_goto (tgt := 406) dX12_unitFace_402 (by decide) ?_
                                          exact J31 2 (Or.inr (⟨c42, rfl⟩))
                                      refine s_if_eq (tgt := 388) dX12_unitFace_381 (by decide) (fun c43 => ?_) (fun c43 => ?_)
                                      · -- 381 to 388
                                        refine s_iconst dX12_unitFace_388 (by decide) ?_
                                        exact J29 0 (Or.inl ⟨c43, rfl⟩)
                                      · -- 381 to 384
                                        refine s_iconst dX12_unitFace_384 (by decide) ?_
                                        refine s_goto (tgt := 389) dX12_unitFace_385 (by decide) ?_
                                        exact J29 1 (Or.inr (⟨c43, rfl⟩))
                                    refine s_if_ne (tgt := 376) dX12_unitFace_344 (by decide) (fun c44 => ?_) (fun c44 => ?_)
                                    · -- 344 to 376
                                      refine s_iconst dX12_unitFace_376 (by decide) ?_
                                      exact J27 0 (Or.inl ⟨c44, rfl⟩)
                                    · -- 344 to 347
                                      refine s_aload_n dX12_unitFace_347 rfl (Int.natCast_nonneg _) ?_
                                      refine gf_eKind rfl dX12_unitFace_348 hMG21 ?_
                                      refine s_aload_n dX12_unitFace_351 rfl (Int.natCast_nonneg _) ?_
                                      refine gf_valueBy rfl dX12_unitFace_352 hMG21 ?_
                                      refine s_iload dX12_unitFace_355 rfl ?_
                                      refine s_iald dX12_unitFace_357 (mg_a_valueBy hMG21) (by omega) (by omega) (Fr.atA hfG21 (by decide) (by decide)) ?_
                                      refine s_iald dX12_unitFace_358 (mg_a_eKind hMG21) (by omega) (by omega) (Fr.atA hfG21 (by decide) (by decide)) ?_
                                      refine s_if_ne (tgt := 376) dX12_unitFace_359 (by decide) (fun c45 => ?_) (fun c45 => ?_)
                                      · -- 359 to 376
                                        refine s_iconst dX12_unitFace_376 (by decide) ?_
                                        exact J27 0 (Or.inr (Or.inl ⟨c44, c45, rfl⟩))
                                      · -- 359 to 362
                                        refine s_aload_n dX12_unitFace_362 rfl (Int.natCast_nonneg _) ?_
                                        refine gf_valueFlags rfl dX12_unitFace_363 hMG21 ?_
                                        refine s_iload dX12_unitFace_366 rfl ?_
                                        refine s_iald dX12_unitFace_368 (mg_a_valueFlags hMG21) (by omega) (by omega) (Fr.atA hfG21 (by decide) (by decide)) ?_
                                        refine s_if_ne (tgt := 376) dX12_unitFace_369 (by decide) (fun c46 => ?_) (fun c46 => ?_)
                                        · -- 369 to 376
                                          refine s_iconst dX12_unitFace_376 (by decide) ?_
                                          exact J27 0 (Or.inr (Or.inr (Or.inl ⟨c44, c45, c46, rfl⟩)))
                                        · -- 369 to 372
                                          refine s_iconst dX12_unitFace_372 (by decide) ?_
                                          refine s_goto (tgt := 377) dX12_unitFace_373 (by decide) ?_
                                          exact J27 1 (Or.inr (Or.inr (Or.inr (⟨c44, c45, c46, rfl⟩))))
                                  refine s_icmp_ne (tgt := 339) dX12_unitFace_332 (by decide) (fun c47 => ?_) (fun c47 => ?_)
                                  · -- 332 to 339
                                    refine s_iconst dX12_unitFace_339 (by decide) ?_
                                    exact J25 0 (Or.inl ⟨c47, rfl⟩)
                                  · -- 332 to 335
                                    refine s_iconst dX12_unitFace_335 (by decide) ?_
                                    refine s_goto (tgt := 340) dX12_unitFace_336 (by decide) ?_
                                    exact J25 1 (Or.inr (⟨c47, rfl⟩))
                                · -- 314 to 317
                                  refine s_sipush dX12_unitFace_317 rfl (by decide) ?_
                                  refine s_iload dX12_unitFace_320 rfl ?_
                                  refine s_iadd dX12_unitFace_322 (by omega) ?_
                                  exact s_iret hR dX12_unitFace_323 rfl (hQ _ G21 hMG21 (⟨hFG21, ⟨hEp10.weak (by omega) (by omega), hsp10, hTp10, hVp10, fun q => by omega⟩⟩))
                              · -- 276 to 279
                                refine s_bipush dX12_unitFace_279 rfl (by decide) ?_
                                refine s_iload dX12_unitFace_281 rfl ?_
                                refine s_iadd dX12_unitFace_283 (by omega) ?_
                                exact s_iret hR dX12_unitFace_284 rfl (hQ _ G10 hMG10 (⟨hFG10, ⟨iE10.weak (by omega) (by omega), is10, iT10, iV10, fun q => by omega⟩⟩))
                      exact L10 _ 0 G8 hMG8 hFG8 (⟨(by omega), (by exact hEt.weak (by omega) (by omega)), (by exact hBY.fx (FX.agf hir (by decide) (by decide) (by decide)) hEc.1 (fun j => hir.atA (by decide) (by decide))), (by exact iT8), (by exact hRVc.fx (FX.agf hir (by decide) (by decide) (by decide)) hEc.1 (fun j _ _ => hir.atA (by decide) (by decide))), (by exact is8), (by intro j j0 j1 q; exact absurd ((hir.atA (n := a_sValue) (by decide) (by decide)).trans (hclc j j0 j1)) q)⟩) (Nat.lt_succ_self _)
                    · -- 173 to 176
                      refine s_aload_n dX12_unitFace_176 rfl (Int.natCast_nonneg _) ?_
                      refine gf_sType rfl dX12_unitFace_177 hMG8 ?_
                      refine s_bipush dX12_unitFace_180 rfl (by decide) ?_
                      refine s_iload_n dX12_unitFace_182 rfl ?_
                      refine s_imul dX12_unitFace_183 (by omega) ?_
                      refine s_iload dX12_unitFace_184 rfl ?_
                      refine s_iadd dX12_unitFace_186 (by omega) ?_
                      refine s_iload dX12_unitFace_187 rfl ?_
                      refine s_iload dX12_unitFace_189 rfl ?_
                      refine cs_X12_367 rfl gX12_has dX12_unitFace_191 (by rw [hcf]; decide) (as := [(0, b1), (0, k8)]) rfl (Nat.le_of_ble_eq_true rfl) ⟨b1, k8, rfl, ?_⟩
                      show WP kX12_unitFace X 194 [some (2, ((1000 : Nat) : Int)), some (0, s), some (0, v), some (0, a1), some (0, b1), some (0, r6), some (0, k8), none, none, none, none, none] [(0, b2i (bitI b1 k8)), (0, (6 * s) + k8), (2, ((a_sType : Nat) : Int))] G8
                      have J49 : ∀ z48 : Int, ((bitI b1 k8) ∧ (¬ (bitI a1 k8)) ∧ z48 = (-1)) ∨ ((bitI b1 k8) ∧ (bitI a1 k8) ∧ z48 = gS G8 a_solved ((k8).toNat)) ∨ ((¬ (bitI b1 k8)) ∧ z48 = (-2)) → WP kX12_unitFace X 222 [some (2, ((1000 : Nat) : Int)), some (0, s), some (0, v), some (0, a1), some (0, b1), some (0, r6), some (0, k8), none, none, none, none, none] [(0, z48), (0, (6 * s) + k8), (2, ((a_sType : Nat) : Int))] G8 := by
                        intro z48 hz48
                        refine r_iast dX12_unitFace_222 hMG8 (mg_a_sType hMG8) (by decide) (by omega) (by omega) (fun G50 eG50 hMG50 => ?_)
                        have hFG50 : Fr nX12_unitFace jX12_unitFace G G50 := Fr.setA hFG8 eG50 (by decide)
                        show WP kX12_unitFace X 223 [some (2, ((1000 : Nat) : Int)), some (0, s), some (0, v), some (0, a1), some (0, b1), some (0, r6), some (0, k8), none, none, none, none, none] [] G50
                        refine s_iinc dX12_unitFace_223 (v := k8) rfl (by omega) (by decide) (lv' := [some (2, ((1000 : Nat) : Int)), some (0, s), some (0, v), some (0, a1), some (0, b1), some (0, r6), some (0, k8 + 1), none, none, none, none, none]) rfl ?_
                        refine s_goto (tgt := 169) dX12_unitFace_226 (by decide) ?_
                        exact ih8 (k8 + 1) G50 hMG50 hFG50 (⟨(by omega), (by exact Fr.setA ir8 eG50 (by decide)), (by exact is8.trans (SlotFr.ty (k := k8) ⟨by omega, by omega⟩ hs.1 eG50)), (by refine RT.set iT8 hs.1 ⟨by omega, by omega⟩ eG50 ?_ hUi8; have z8 := hUi8.f; rcases hz48 with ⟨q1, q2, q3⟩ | ⟨q1, q2, q3⟩ | ⟨q1, q2⟩; (rw [q3]; exact ⟨by omega, fun z => by omega⟩); (rw [q3]; have z9 := hSi8 _ (by omega) (by omega) q2; exact ⟨by omega, fun _ => z9.2⟩); (rw [q2]; exact ⟨by omega, fun z => by omega⟩))⟩) (by omega)
                      refine s_if_neB (tgt := 202) dX12_unitFace_194 (by decide) (fun c51 => ?_) (fun c51 => ?_)
                      · -- 194 to 202
                        refine s_iload_n dX12_unitFace_202 rfl ?_
                        refine s_iload dX12_unitFace_203 rfl ?_
                        refine cs_X12_367 rfl gX12_has dX12_unitFace_205 (by rw [hcf]; decide) (as := [(0, a1), (0, k8)]) rfl (Nat.le_of_ble_eq_true rfl) ⟨a1, k8, rfl, ?_⟩
                        show WP kX12_unitFace X 208 [some (2, ((1000 : Nat) : Int)), some (0, s), some (0, v), some (0, a1), some (0, b1), some (0, r6), some (0, k8), none, none, none, none, none] [(0, b2i (bitI a1 k8)), (0, (6 * s) + k8), (2, ((a_sType : Nat) : Int))] G8
                        refine s_if_eqB (tgt := 221) dX12_unitFace_208 (by decide) (fun c52 => ?_) (fun c52 => ?_)
                        · -- 208 to 221
                          refine s_iconst dX12_unitFace_221 (by decide) ?_
                          exact J49 ((-1)) (Or.inl ⟨c51, c52, rfl⟩)
                        · -- 208 to 211
                          refine s_aload_n dX12_unitFace_211 rfl (Int.natCast_nonneg _) ?_
                          refine gf_solved rfl dX12_unitFace_212 hMG8 ?_
                          refine s_iload dX12_unitFace_215 rfl ?_
                          refine s_iald dX12_unitFace_217 (mg_a_solved hMG8) (by omega) (by omega) rfl ?_
                          refine s_goto (tgt := 222) dX12_unitFace_218 (by decide) ?_
                          exact J49 _ (Or.inr (Or.inl ⟨c51, c52, rfl⟩))
                      · -- 194 to 197
                        refine s_bipush dX12_unitFace_197 rfl (by decide) ?_
                        refine s_goto (tgt := 222) dX12_unitFace_199 (by decide) ?_
                        exact J49 ((-2)) (Or.inr (Or.inr (⟨c51, rfl⟩)))
                exact L8 _ 0 G5 hMG5 hFG5 (⟨(by omega), (by exact Fr.rf), (by exact hslc), (by exact hRTc)⟩) (Nat.lt_succ_self _)
              · -- 160 to 163
                refine s_iload dX12_unitFace_163 rfl ?_
                exact s_iret hR dX12_unitFace_165 rfl (hQ _ G5 hMG5 (⟨hFG5, ⟨hEc.weak (by omega) (by omega), hslc, hRTc, hRVc, fun q => by omega⟩⟩))
            · -- 101 to 104
              refine s_iload_n dX12_unitFace_104 rfl ?_
              refine s_iload dX12_unitFace_105 rfl ?_
              refine cs_X12_367 rfl gX12_has dX12_unitFace_107 (by rw [hcf]; decide) (as := [(0, a1), (0, k3)]) rfl (Nat.le_of_ble_eq_true rfl) ⟨a1, k3, rfl, ?_⟩
              show WP kX12_unitFace X 110 [some (2, ((1000 : Nat) : Int)), some (0, s), some (0, v), some (0, a1), some (0, b1), some (0, k3), none, none, none, none, none, none] [(0, b2i (bitI a1 k3))] G1
              refine s_if_eqB (tgt := 145) dX12_unitFace_110 (by decide) (fun c53 => ?_) (fun c53 => ?_)
              · -- 110 to 145
                refine s_iinc dX12_unitFace_145 (v := k3) rfl (by omega) (by decide) (lv' := [some (2, ((1000 : Nat) : Int)), some (0, s), some (0, v), some (0, a1), some (0, b1), some (0, k3 + 1), none, none, none, none, none, none]) rfl ?_
                refine s_goto (tgt := 97) dX12_unitFace_148 (by decide) ?_
                exact ih3 (k3 + 1) ((by omega)) (by omega)
              · -- 110 to 113
                have htk3 := hT8 k3 (by omega) (by omega) (by assumption)
                have hto3 : (gS G1 a_typeOf (6 * v + k3).toNat) = (gS G a_typeOf (6 * v + k3).toNat) := hFG1.atA (by decide) (by decide)
                refine s_aload_n dX12_unitFace_113 rfl (Int.natCast_nonneg _) ?_
                refine gf_tNames rfl dX12_unitFace_114 hMG1 ?_
                refine s_aload_n dX12_unitFace_117 rfl (Int.natCast_nonneg _) ?_
                refine gf_typeOf rfl dX12_unitFace_118 hMG1 ?_
                refine s_bipush dX12_unitFace_121 rfl (by decide) ?_
                refine s_iload_n dX12_unitFace_123 rfl ?_
                refine s_imul dX12_unitFace_124 (by omega) ?_
                refine s_iload dX12_unitFace_125 rfl ?_
                refine s_iadd dX12_unitFace_127 (by omega) ?_
                refine s_iald dX12_unitFace_128 (mg_a_typeOf hMG1) (by omega) (by omega) rfl ?_
                refine s_iald dX12_unitFace_129 (mg_a_tNames hMG1) (by omega) (by omega) rfl ?_
                refine s_iload dX12_unitFace_130 rfl ?_
                refine s_iconst dX12_unitFace_132 (by decide) ?_
                refine s_ixor dX12_unitFace_133 ?_
                refine s_iand dX12_unitFace_134 ?_
                refine s_if_eq (tgt := 145) dX12_unitFace_135 (by decide) (fun c54 => ?_) (fun c54 => ?_)
                · -- 135 to 145
                  refine s_iinc dX12_unitFace_145 (v := k3) rfl (by omega) (by decide) (lv' := [some (2, ((1000 : Nat) : Int)), some (0, s), some (0, v), some (0, a1), some (0, b1), some (0, k3 + 1), none, none, none, none, none, none]) rfl ?_
                  refine s_goto (tgt := 97) dX12_unitFace_148 (by decide) ?_
                  exact ih3 (k3 + 1) ((by omega)) (by omega)
                · -- 135 to 138
                  refine s_sipush dX12_unitFace_138 rfl (by decide) ?_
                  refine s_iload dX12_unitFace_141 rfl ?_
                  refine s_iadd dX12_unitFace_143 (by omega) ?_
                  exact s_iret hR dX12_unitFace_144 rfl (hQ _ G1 hMG1 (⟨hFG1, ⟨(hFE0.fr hfe (by decide) (by decide) (by decide)).weak (by omega) (by omega), SlotFr.agr (hfe.agr (by decide) (by decide) (by decide)), hRT0.fx (FX.agf hfe (by decide) (by decide) (by decide)) hFU (fun j _ _ => hfe.atA (by decide) (by decide)), hRV0.fx (FX.agf hfe (by decide) (by decide) (by decide)) hFU (fun j _ _ => hfe.atA (by decide) (by decide)), fun q => by omega⟩⟩))
        exact L3 _ 0 ((by omega)) (Nat.lt_succ_self _)
      · -- 12 to 15
        refine s_aload_n dX12_unitFace_15 rfl (Int.natCast_nonneg _) ?_
        refine gf_typeOf rfl dX12_unitFace_16 hMG1 ?_
        refine s_bipush dX12_unitFace_19 rfl (by decide) ?_
        refine s_iload_n dX12_unitFace_21 rfl ?_
        refine s_imul dX12_unitFace_22 (by omega) ?_
        refine s_iload dX12_unitFace_23 rfl ?_
        refine s_iadd dX12_unitFace_25 (by omega) ?_
        refine s_iald dX12_unitFace_26 (mg_a_typeOf hMG1) (by omega) (by omega) rfl ?_
        refine s_istore dX12_unitFace_27 (by decide) (lv' := [some (2, ((1000 : Nat) : Int)), some (0, s), some (0, v), some (0, a1), some (0, b1), some (0, k1), some (0, gS G1 a_typeOf (((6 * v) + k1).toNat)), none, none, none, none, none]) rfl ?_
        have hto1 : (gS G1 a_typeOf (6 * v + k1).toNat) = (gS G a_typeOf (6 * v + k1).toNat) := hFG1.atA (by decide) (by decide)
        have htu1 := hUV.2.2.2.1 v k1 hv.1 hv.2 (by omega) (by omega)
        refine s_iload dX12_unitFace_29 rfl ?_
        refine s_iload dX12_unitFace_31 rfl ?_
        refine s_bipush dX12_unitFace_33 rfl (by decide) ?_
        have J56 : ∀ z55 : Int, ((¬ (gS G1 a_typeOf (((6 * v) + k1).toNat)) = ((-2))) ∧ z55 = i_shl 1 k1) ∨ (((gS G1 a_typeOf (((6 * v) + k1).toNat)) = ((-2))) ∧ z55 = 0) → WP kX12_unitFace X 46 [some (2, ((1000 : Nat) : Int)), some (0, s), some (0, v), some (0, a1), some (0, b1), some (0, k1), some (0, gS G1 a_typeOf (((6 * v) + k1).toNat)), none, none, none, none, none] [(0, z55), (0, b1)] G1 := by
          intro z55 hz55
          refine s_ior dX12_unitFace_46 ?_
          refine s_istore dX12_unitFace_47 (by decide) (lv' := [some (2, ((1000 : Nat) : Int)), some (0, s), some (0, v), some (0, a1), some (0, i_or b1 z55), some (0, k1), some (0, gS G1 a_typeOf (((6 * v) + k1).toNat)), none, none, none, none, none]) rfl ?_
          refine s_iload_n dX12_unitFace_49 rfl ?_
          refine s_iload dX12_unitFace_50 rfl ?_
          have J58 : ∀ z57 : Int, (((gS G1 a_typeOf (((6 * v) + k1).toNat)) < 0) ∧ z57 = 0) ∨ ((¬ (gS G1 a_typeOf (((6 * v) + k1).toNat)) < 0) ∧ z57 = i_shl 1 k1) → WP kX12_unitFace X 63 [some (2, ((1000 : Nat) : Int)), some (0, s), some (0, v), some (0, a1), some (0, i_or b1 z55), some (0, k1), some (0, gS G1 a_typeOf (((6 * v) + k1).toNat)), none, none, none, none, none] [(0, z57), (0, a1)] G1 := by
            intro z57 hz57
            refine s_ior dX12_unitFace_63 ?_
            refine s_istore_n dX12_unitFace_64 (by decide) (lv' := [some (2, ((1000 : Nat) : Int)), some (0, s), some (0, v), some (0, i_or a1 z57), some (0, i_or b1 z55), some (0, k1), some (0, gS G1 a_typeOf (((6 * v) + k1).toNat)), none, none, none, none, none]) rfl ?_
            refine s_aload_n dX12_unitFace_65 rfl (Int.natCast_nonneg _) ?_
            refine gf_equation rfl dX12_unitFace_66 hMG1 ?_
            refine s_iload dX12_unitFace_69 rfl ?_
            refine s_iload dX12_unitFace_71 rfl ?_
            have J60 : ∀ z59 : Int, (((gS G1 a_typeOf (((6 * v) + k1).toNat)) < 0) ∧ z59 = (-1)) ∨ ((¬ (gS G1 a_typeOf (((6 * v) + k1).toNat)) < 0) ∧ z59 = gS G1 a_raw ((gS G1 a_typeOf (((6 * v) + k1).toNat)).toNat)) → WP kX12_unitFace X 87 [some (2, ((1000 : Nat) : Int)), some (0, s), some (0, v), some (0, i_or a1 z57), some (0, i_or b1 z55), some (0, k1), some (0, gS G1 a_typeOf (((6 * v) + k1).toNat)), none, none, none, none, none] [(0, z59), (0, k1), (2, ((a_equation : Nat) : Int))] G1 := by
              intro z59 hz59
              refine r_iast dX12_unitFace_87 hMG1 (mg_a_equation hMG1) (by decide) (by omega) (by omega) (fun G61 eG61 hMG61 => ?_)
              have hFG61 : Fr nX12_unitFace jX12_unitFace G G61 := Fr.setA hFG1 eG61 (by decide)
              show WP kX12_unitFace X 88 [some (2, ((1000 : Nat) : Int)), some (0, s), some (0, v), some (0, i_or a1 z57), some (0, i_or b1 z55), some (0, k1), some (0, gS G1 a_typeOf (((6 * v) + k1).toNat)), none, none, none, none, none] [] G61
              refine s_iinc dX12_unitFace_88 (v := k1) rfl (by omega) (by decide) (lv' := [some (2, ((1000 : Nat) : Int)), some (0, s), some (0, v), some (0, i_or a1 z57), some (0, i_or b1 z55), some (0, k1 + 1), some (0, gS G1 a_typeOf (((6 * v) + k1).toNat)), none, none, none, none, none]) rfl ?_
              refine s_goto (tgt := 8) dX12_unitFace_91 (by decide) ?_
              refine s_mask [true, true, true, true, true, true, false, false, false, false, false, false] (lv' := [some (2, ((1000 : Nat) : Int)), some (0, s), some (0, v), some (0, i_or a1 z57), some (0, i_or b1 z55), some (0, k1 + 1), none, none, none, none, none, none]) rfl ?_
              exact ih1 (i_or a1 z57) (i_or b1 z55) (k1 + 1) G61 hMG61 hFG61 (⟨(by omega), (by exact bset ia1 (by omega) (by rcases hz57 with ⟨q1, q2⟩ | ⟨q1, q2⟩; (exact Or.inl ⟨by omega, q2⟩); (exact Or.inr ⟨by omega, q2⟩))), (by intro j j0 j1 q; by_cases hj : j = k1; (subst hj; rw [g_at (g_upd eG61)]; rcases hz59 with ⟨q1, q2⟩ | ⟨q1, q2⟩; (omega); (rw [q2, hFG1.atA (n := a_raw) (by decide) (by decide), hto1])); (rw [g_ne (g_upd eG61) (by omega)]; exact ie1 j j0 (by omega) q)), (by exact Fr.setA ir1 eG61 (by decide))⟩) (by omega)
            refine s_if_lt (tgt := 86) dX12_unitFace_73 (by decide) (fun c62 => ?_) (fun c62 => ?_)
            · -- 73 to 86
              refine s_iconst dX12_unitFace_86 (by decide) ?_
              exact J60 ((-1)) (Or.inl ⟨c62, rfl⟩)
            · -- 73 to 76
              refine s_aload_n dX12_unitFace_76 rfl (Int.natCast_nonneg _) ?_
              refine gf_raw rfl dX12_unitFace_77 hMG1 ?_
              refine s_iload dX12_unitFace_80 rfl ?_
              refine s_iald dX12_unitFace_82 (mg_a_raw hMG1) (by omega) (by omega) rfl ?_
              refine s_goto (tgt := 87) dX12_unitFace_83 (by decide) ?_
              exact J60 _ (Or.inr (⟨c62, rfl⟩))
          refine s_if_lt (tgt := 62) dX12_unitFace_52 (by decide) (fun c63 => ?_) (fun c63 => ?_)
          · -- 52 to 62
            refine s_iconst dX12_unitFace_62 (by decide) ?_
            exact J58 0 (Or.inl ⟨c63, rfl⟩)
          · -- 52 to 55
            refine s_iconst dX12_unitFace_55 (by decide) ?_
            refine s_iload dX12_unitFace_56 rfl ?_
            refine s_ishl dX12_unitFace_58 ?_
            refine s_goto (tgt := 63) dX12_unitFace_59 (by decide) ?_
            exact J58 _ (Or.inr (⟨c63, rfl⟩))
        refine s_icmp_ne (tgt := 42) dX12_unitFace_35 (by decide) (fun c64 => ?_) (fun c64 => ?_)
        · -- 35 to 42
          refine s_iconst dX12_unitFace_42 (by decide) ?_
          refine s_iload dX12_unitFace_43 rfl ?_
          refine s_ishl dX12_unitFace_45 ?_
          exact J56 _ (Or.inl ⟨c64, rfl⟩)
        · -- 35 to 38
          refine s_iconst dX12_unitFace_38 (by decide) ?_
          refine s_goto (tgt := 46) dX12_unitFace_39 (by decide) ?_
          exact J56 0 (Or.inr (⟨c64, rfl⟩))
  exact L1 _ 0 0 0 G hM Fr.rf (⟨(by omega), (by intro j j0 j1; exact ⟨fun q => absurd q (bitI_0 j0 j1), fun q => by omega⟩), (by intro j j0 j1; omega), (by exact Fr.rf)⟩) (Nat.lt_succ_self _)
