abbrev nX12_linksTypes : List Nat := [a_equation, a_uses, a_reaches, a_solved, a_by, a_fKind, a_fA, a_fB, a_fSize, a_fNext, a_fHead, a_fMark, a_thingKind, a_thingA, a_thingB, a_thingC, a_thingNext, a_thingHead, a_stackOf, a_fMemo, a_sType]
abbrev jX12_linksTypes : List Nat := [26, 42, 35, 36]
def TX12_linksTypes : TR := fun as G Qr => ∃ (a b s : Int) (Hs : List (Int → Int)) (vv : Int → Int) (P : Int → Prop), as = [(2, ((1000 : Nat) : Int)), (0, a), (0, b), (0, s)] ∧ MG G ∧ (FU G) ∧ (TH G Hs) ∧ (vv ∈ Hs) ∧ (0 ≤ a ∧ a < 43) ∧ (0 ≤ b ∧ b < 43) ∧ (0 ≤ s ∧ s < 43) ∧ (¬ b = s) ∧ (RT G P a) ∧ (RT G P b) ∧ (RT G P s) ∧ ((gS G 1000 26) + 1188 < 150000) ∧ ((gS G 1000 35) ≤ 1900000000) ∧ ∀ (r : Int) (G' : LG), MG G' → (Fr nX12_linksTypes jX12_linksTypes G G' ∧ (FE G G' Hs 1188 54 ∧ SlotFr s G G' ∧ RT G' P s ∧ (r = 0 → BY G' P))) → Qr (.inl (some (0, r))) G'
set_option maxHeartbeats 4000000 in
set_option maxRecDepth 100000 in
theorem gX12_linksTypes : Good kX12_linksTypes yX12_linksTypes 5 TX12_linksTypes := by
  refine good_of (by decide) rfl rfl (fun as G Qr h => ?_) (fun X as G Qr hcf hR hT oa => ?_)
  · obtain ⟨a, b, s, Hs, vv, P, rfl, -⟩ := h; exact Nat.le_of_ble_eq_true rfl
  obtain ⟨a, b, s, Hs, vv, P, rfl, hM, hFU, hTH, hvv, ha, hb, hs, hbs, hRTa, hRTb, hRTs, hc, hm, hQ⟩ := hT
  show WP kX12_linksTypes X 0 [some (2, ((1000 : Nat) : Int)), some (0, a), some (0, b), some (0, s), none, none, none, none] [] G
  have hr_a : inR a := okv_R (oa _ (by simp))
  have hr_b : inR b := okv_R (oa _ (by simp))
  have hr_s : inR s := okv_R (oa _ (by simp))
  have hFE0 := FE.rf hFU hTH
  have hff0 := hFU.f
  have hmk0 := hFU.2.1
  have hbs0 := hbs
  refine s_iconst dX12_linksTypes_0 (by decide) ?_
  refine s_istore dX12_linksTypes_1 (by decide) (lv' := [some (2, ((1000 : Nat) : Int)), some (0, a), some (0, b), some (0, s), some (0, 0), none, none, none]) rfl ?_
  refine s_iconst dX12_linksTypes_3 (by decide) ?_
  refine s_istore dX12_linksTypes_4 (by decide) (lv' := [some (2, ((1000 : Nat) : Int)), some (0, a), some (0, b), some (0, s), some (0, 0), some (0, 0), none, none]) rfl ?_
  have L1 : ∀ (n1 : Nat) (m1 : Int) (k1 : Int) (G1 : LG), MG G1 → Fr nX12_linksTypes jX12_linksTypes G G1 → ((0 ≤ k1 ∧ k1 ≤ 6) ∧ (∀ j : Int, 0 ≤ j → j < 32 → (bitI m1 j ↔ j < k1 ∧ 0 ≤ eqOf G a b j)) ∧ (∀ j : Int, 0 ≤ j → j < k1 → (gS G1 a_equation (j).toNat) = eqOf G a b j) ∧ (Fr [a_equation] [] G G1)) → (6 - k1).toNat < n1 → WP kX12_linksTypes X 6 [some (2, ((1000 : Nat) : Int)), some (0, a), some (0, b), some (0, s), some (0, m1), some (0, k1), none, none] [] G1 := by
    intro n1
    induction n1 with
    | zero => intro m1 k1 G1 hMG1 hFG1 hi1 hm1; exact absurd hm1 (Nat.not_lt_zero _)
    | succ n1 ih1 =>
      intro m1 k1 G1 hMG1 hFG1 hi1 hm1
      have hj1 := hi1
      obtain ⟨ik1, ia1, ie1, ir1⟩ := hi1
      have hsa1 : (gS G1 a_sType (6 * a + k1).toNat) = (gS G a_sType (6 * a + k1).toNat) := ir1.atA (by decide) (by decide)
      have hsb1 : (gS G1 a_sType (6 * b + k1).toNat) = (gS G a_sType (6 * b + k1).toNat) := ir1.atA (by decide) (by decide)
      refine s_iload dX12_linksTypes_6 rfl ?_
      refine s_bipush dX12_linksTypes_8 rfl (by decide) ?_
      refine s_icmp_ge (tgt := 79) dX12_linksTypes_10 (by decide) (fun c2 => ?_) (fun c2 => ?_)
      · -- 10 to 79
        have hfe := ir1
        have hFU8 : FU G1 := hFU.agr (hfe.agr (by decide) (by decide) (by decide)) (by rw [hfe.atF (j := 42) (by decide) (by decide)]; exact Int.le_refl _)
        have hTH8 : TH G1 Hs := hTH.agr (hfe.agr (by decide) (by decide) (by decide))
        have e268 : (gS G1 1000 26) = (gS G 1000 26) := hfe.atF (by decide) (by decide)
        have e358 : (gS G1 1000 35) = (gS G 1000 35) := hfe.atF (by decide) (by decide)
        have hE8 : ∀ q : Int, 0 ≤ q → q < 6 → bitI m1 q → (0 ≤ (gS G1 a_equation (q).toNat) ∧ (gS G1 a_equation (q).toNat) < (gS G1 1000 26)) ∧ (gS G1 a_fSize ((gS G1 a_equation (q).toNat)).toNat) ≤ 200 ∧ okS G1 P ((gS G1 a_equation (q).toNat)) := fun q q0 q1 qb => by have t := eqOf.ok hRTa hRTb q0 q1 ((ia1 q q0 (by omega)).mp qb).2; rw [ie1 q q0 (by omega), e268, hfe.atA (n := a_fSize) (by decide) (by decide)]; exact ⟨t.1, t.2.1, t.2.2.fx (FX.agf hfe (by decide) (by decide) (by decide)) hFU t.1.1 t.1.2⟩
        have hbs : ∀ q : Int, 6 ≤ q → q < 32 → ¬ bitI m1 q := fun q q0 q1 qb => by have := ((ia1 q (by omega) q1).mp qb).1; omega
        refine s_aload_n dX12_linksTypes_79 rfl (Int.natCast_nonneg _) ?_
        refine s_iload dX12_linksTypes_80 rfl ?_
        refine cv_X12_391 rfl gX12_closes dX12_linksTypes_82 hMG1 (by rw [hcf]; decide) (as := [(0, m1)]) rfl (Nat.le_of_ble_eq_true rfl) ⟨m1, Hs, vv, 99, rfl, hMG1, (by exact hFU8), (by exact hTH8), (by exact hvv), (by exact hbs), (by exact fun q q0 q1 qb => ⟨(hE8 q q0 q1 qb).1, (hE8 q q0 q1 qb).2.1⟩), (by exact Or.inr rfl), (by intro q; omega), (by omega), (by omega), fun r4 G3 hMG3 hpG3 => ?_⟩
        obtain ⟨hfG3, hpG3⟩ := hpG3
        have hFG3 : Fr nX12_linksTypes jX12_linksTypes G G3 := Fr.call hFG1 hfG3 (by decide) (by decide)
        show WP kX12_linksTypes X 85 [some (2, ((1000 : Nat) : Int)), some (0, a), some (0, b), some (0, s), some (0, m1), some (0, k1), none, none] [(0, r4)] G3
        refine s_istore dX12_linksTypes_85 (by decide) (lv' := [some (2, ((1000 : Nat) : Int)), some (0, a), some (0, b), some (0, s), some (0, m1), some (0, r4), none, none]) rfl ?_
        have hfc := (Fr.call (Fr.rf) hfG3 (by decide) (by decide) : Fr [a_uses, a_reaches, a_solved, a_by, a_fKind, a_fA, a_fB, a_fSize, a_fNext, a_fHead, a_fMark, a_thingKind, a_thingA, a_thingB, a_thingC, a_thingNext, a_thingHead, a_stackOf, a_fMemo] [26, 42, 35, 36] G1 G3)
        have hEc : FE G G3 Hs 594 48 := (hFE0.fr hfe (by decide) (by decide) (by decide)).trans (⟨hpG3.1, hpG3.2.1, hpG3.2.2.1, hpG3.2.2.2.1, by have := hpG3.2.2.2.2.1; omega, by have := hpG3.2.2.2.2.2.1; omega⟩ : FE G1 G3 Hs 594 48) (by omega) (by omega)
        have hslc : SlotFr s G G3 := (SlotFr.agr (hfe.agr (by decide) (by decide) (by decide))).trans (SlotFr.agr (hfc.agr (by decide) (by decide) (by decide)))
        have hRTcb : RT G3 P b := hRTb.fx hEc.2.1 hFU (fun j _ _ => (hfc.atA (by decide) (by decide)).trans (hfe.atA (by decide) (by decide)))
        have hRTcs : RT G3 P s := hRTs.fx hEc.2.1 hFU (fun j _ _ => (hfc.atA (by decide) (by decide)).trans (hfe.atA (by decide) (by decide)))
        have hffc := hEc.1.f
        refine s_iload dX12_linksTypes_87 rfl ?_
        refine s_if_eq (tgt := 95) dX12_linksTypes_89 (by decide) (fun c5 => ?_) (fun c5 => ?_)
        · -- 89 to 95
          have hgood := hpG3.2.2.2.2.2.2 (by omega)
          have hSO : SO G3 P m1 := fun q q0 q1 qb => by obtain ⟨⟨b0, b1, b2, b3⟩, b4⟩ := (hgood q q0 q1).1 qb; exact ⟨⟨b1, b2⟩, b3, b4 P (fun k k0 k1 kb => (hE8 k k0 k1 kb).2.2)⟩
          have hBY : BY G3 P := fun q q0 q1 => by by_cases qb : bitI m1 q; (have x := hSO q q0 q1 qb; rw [((hgood q q0 q1).1 qb).1.1]; exact ⟨by omega, fun _ => x.2.2⟩); (rw [(hgood q q0 q1).2 qb]; exact ⟨by have := hEc.1.f; omega, fun z => by omega⟩)
          refine s_iconst dX12_linksTypes_95 (by decide) ?_
          refine s_istore dX12_linksTypes_96 (by decide) (lv' := [some (2, ((1000 : Nat) : Int)), some (0, a), some (0, b), some (0, s), some (0, m1), some (0, r4), some (0, 0), none]) rfl ?_
          have L6 : ∀ (n6 : Nat) (k6 : Int) (G6 : LG), MG G6 → Fr nX12_linksTypes jX12_linksTypes G G6 → ((0 ≤ k6 ∧ k6 ≤ 6) ∧ (Fr [a_sType] [] G3 G6) ∧ (SlotFr s G3 G6) ∧ (RT G6 P s)) → (6 - k6).toNat < n6 → WP kX12_linksTypes X 98 [some (2, ((1000 : Nat) : Int)), some (0, a), some (0, b), some (0, s), some (0, m1), some (0, r4), some (0, k6), none] [] G6 := by
            intro n6
            induction n6 with
            | zero => intro k6 G6 hMG6 hFG6 hi6 hm6; exact absurd hm6 (Nat.not_lt_zero _)
            | succ n6 ih6 =>
              intro k6 G6 hMG6 hFG6 hi6 hm6
              have hj6 := hi6
              obtain ⟨ik6, ir6, is6, iT6⟩ := hi6
              have hUi6 : FU G6 := (hEc.fr ir6 (by decide) (by decide) (by decide)).1
              have hSi6 := hSO.fx (FX.agf ir6 (by decide) (by decide) (by decide)) hEc.1 (fun j => ir6.atA (by decide) (by decide))
              refine s_iload dX12_linksTypes_98 rfl ?_
              refine s_bipush dX12_linksTypes_100 rfl (by decide) ?_
              refine s_icmp_ge (tgt := 185) dX12_linksTypes_102 (by decide) (fun c7 => ?_) (fun c7 => ?_)
              · -- 102 to 185
                have hir := ir6
                have his := (SlotFr.rf.trans (is6) : SlotFr s G3 G6)
                have hEt : FE G G6 Hs 594 48 := hEc.fr hir (by decide) (by decide) (by decide)
                refine s_iconst dX12_linksTypes_185 (by decide) ?_
                refine s_istore dX12_linksTypes_186 (by decide) (lv' := [some (2, ((1000 : Nat) : Int)), some (0, a), some (0, b), some (0, s), some (0, m1), some (0, r4), some (0, 0), none]) rfl ?_
                have L8 : ∀ (n8 : Nat) (k8 : Int) (G8 : LG), MG G8 → Fr nX12_linksTypes jX12_linksTypes G G8 → ((0 ≤ k8 ∧ k8 ≤ 6) ∧ (FE G G8 Hs (594 + 99 * k8) (48 + k8)) ∧ (BY G8 P) ∧ (RT G8 P s) ∧ (RT G8 P b) ∧ (SlotFr s G G8)) → (6 - k8).toNat < n8 → WP kX12_linksTypes X 188 [some (2, ((1000 : Nat) : Int)), some (0, a), some (0, b), some (0, s), some (0, m1), some (0, r4), some (0, k8), none] [] G8 := by
                  intro n8
                  induction n8 with
                  | zero => intro k8 G8 hMG8 hFG8 hi8 hm8; exact absurd hm8 (Nat.not_lt_zero _)
                  | succ n8 ih8 =>
                    intro k8 G8 hMG8 hFG8 hi8 hm8
                    have hj8 := hi8
                    obtain ⟨ik8, iE8, iB8, iT8, iRb8, is8⟩ := hi8
                    refine s_iload dX12_linksTypes_188 rfl ?_
                    refine s_bipush dX12_linksTypes_190 rfl (by decide) ?_
                    refine s_icmp_ge (tgt := 250) dX12_linksTypes_192 (by decide) (fun c9 => ?_) (fun c9 => ?_)
                    · -- 192 to 250
                      refine s_iconst dX12_linksTypes_250 (by decide) ?_
                      exact s_iret hR dX12_linksTypes_251 rfl (hQ _ G8 hMG8 (⟨hFG8, ⟨iE8.weak (by omega) (by omega), is8, iT8, fun _ => iB8⟩⟩))
                    · -- 192 to 195
                      refine s_aload_n dX12_linksTypes_195 rfl (Int.natCast_nonneg _) ?_
                      refine s_iload_n dX12_linksTypes_196 rfl ?_
                      refine s_iload dX12_linksTypes_197 rfl ?_
                      refine cv_X12_413 rfl gX12_isType_ dX12_linksTypes_199 hMG8 (by rw [hcf]; decide) (as := [(0, a), (0, k8)]) rfl (Nat.le_of_ble_eq_true rfl) ⟨a, k8, rfl, hMG8, (by first | assumption | omega), (by first | assumption | omega), ?_⟩
                      show WP kX12_linksTypes X 202 [some (2, ((1000 : Nat) : Int)), some (0, a), some (0, b), some (0, s), some (0, m1), some (0, r4), some (0, k8), none] [(0, (gS G8 a_sType (6 * a + k8).toNat))] G8
                      refine s_if_lt (tgt := 244) dX12_linksTypes_202 (by decide) (fun c10 => ?_) (fun c10 => ?_)
                      · -- 202 to 244
                        refine s_iinc dX12_linksTypes_244 (v := k8) rfl (by omega) (by decide) (lv' := [some (2, ((1000 : Nat) : Int)), some (0, a), some (0, b), some (0, s), some (0, m1), some (0, r4), some (0, k8 + 1), none]) rfl ?_
                        refine s_goto (tgt := 188) dX12_linksTypes_247 (by decide) ?_
                        exact ih8 (k8 + 1) G8 hMG8 hFG8 (⟨(by omega), (by exact iE8.weak (by omega) (by omega)), (by exact iB8), (by exact iT8), (by exact iRb8), (by exact is8)⟩) (by omega)
                      · -- 202 to 205
                        refine s_aload_n dX12_linksTypes_205 rfl (Int.natCast_nonneg _) ?_
                        refine s_iload_n dX12_linksTypes_206 rfl ?_
                        refine s_iload dX12_linksTypes_207 rfl ?_
                        refine cv_X12_413 rfl gX12_isType_ dX12_linksTypes_209 hMG8 (by rw [hcf]; decide) (as := [(0, b), (0, k8)]) rfl (Nat.le_of_ble_eq_true rfl) ⟨b, k8, rfl, hMG8, (by first | assumption | omega), (by first | assumption | omega), ?_⟩
                        show WP kX12_linksTypes X 212 [some (2, ((1000 : Nat) : Int)), some (0, a), some (0, b), some (0, s), some (0, m1), some (0, r4), some (0, k8), none] [(0, (gS G8 a_sType (6 * b + k8).toNat))] G8
                        refine s_if_lt (tgt := 244) dX12_linksTypes_212 (by decide) (fun c11 => ?_) (fun c11 => ?_)
                        · -- 212 to 244
                          refine s_iinc dX12_linksTypes_244 (v := k8) rfl (by omega) (by decide) (lv' := [some (2, ((1000 : Nat) : Int)), some (0, a), some (0, b), some (0, s), some (0, m1), some (0, r4), some (0, k8 + 1), none]) rfl ?_
                          refine s_goto (tgt := 188) dX12_linksTypes_247 (by decide) ?_
                          exact ih8 (k8 + 1) G8 hMG8 hFG8 (⟨(by omega), (by exact iE8.weak (by omega) (by omega)), (by exact iB8), (by exact iT8), (by exact iRb8), (by exact is8)⟩) (by omega)
                        · -- 212 to 215
                          have hrb8 := iRb8 k8 (by omega) (by omega)
                          have hrc8 := hrb8.2 (by omega)
                          have hef8 := iE8.2.2.2.2
                          have hpl8 : pcost 0 ((gS G8 a_fSize ((gS G8 a_sType (6 * b + k8).toNat)).toNat)) ≤ 99 := by rw [pc_0]; have := hrc8.1; omega
                          have hrz8 := hrc8.1
                          refine s_aload_n dX12_linksTypes_215 rfl (Int.natCast_nonneg _) ?_
                          refine s_iconst dX12_linksTypes_216 (by decide) ?_
                          refine s_aload_n dX12_linksTypes_217 rfl (Int.natCast_nonneg _) ?_
                          refine s_iload_n dX12_linksTypes_218 rfl ?_
                          refine s_iload dX12_linksTypes_219 rfl ?_
                          refine cv_X12_413 rfl gX12_isType_ dX12_linksTypes_221 hMG8 (by rw [hcf]; decide) (as := [(0, b), (0, k8)]) rfl (Nat.le_of_ble_eq_true rfl) ⟨b, k8, rfl, hMG8, (by first | assumption | omega), (by first | assumption | omega), ?_⟩
                          show WP kX12_linksTypes X 224 [some (2, ((1000 : Nat) : Int)), some (0, a), some (0, b), some (0, s), some (0, m1), some (0, r4), some (0, k8), none] [(0, (gS G8 a_sType (6 * b + k8).toNat)), (0, 0), (2, ((1000 : Nat) : Int))] G8
                          refine cv_X12_378 rfl gX12_puts dX12_linksTypes_224 hMG8 (by rw [hcf]; decide) (as := [(0, 0), (0, (gS G8 a_sType (6 * b + k8).toNat))]) rfl (Nat.le_of_ble_eq_true rfl) ⟨0, (gS G8 a_sType (6 * b + k8).toNat), Hs, vv, fun _ => True, rfl, hMG8, (by exact iE8.1), (by exact iE8.2.2.1), (by exact hvv), (by omega), (by omega), (by omega), (by omega), (by omega), (by exact fun _ q q0 q1 => (iB8 q q0 q1).1), (by intro q; omega), (by intro q; omega), fun r13 G12 hMG12 hpG12 => ?_⟩
                          obtain ⟨hfG12, hpG12⟩ := hpG12
                          have hFG12 : Fr nX12_linksTypes jX12_linksTypes G G12 := Fr.call hFG8 hfG12 (by decide) (by decide)
                          show WP kX12_linksTypes X 227 [some (2, ((1000 : Nat) : Int)), some (0, a), some (0, b), some (0, s), some (0, m1), some (0, r4), some (0, k8), none] [(0, r13)] G12
                          refine s_aload_n dX12_linksTypes_227 rfl (Int.natCast_nonneg _) ?_
                          refine gf_solved rfl dX12_linksTypes_228 hMG12 ?_
                          refine s_iload dX12_linksTypes_231 rfl ?_
                          refine s_iald dX12_linksTypes_233 (mg_a_solved hMG12) (by omega) (by omega) (Fr.atA hfG12 (by decide) (by decide)) ?_
                          refine s_icmp_eq (tgt := 244) dX12_linksTypes_234 (by decide) (fun c14 => ?_) (fun c14 => ?_)
                          · -- 234 to 244
                            refine s_iinc dX12_linksTypes_244 (v := k8) rfl (by omega) (by decide) (lv' := [some (2, ((1000 : Nat) : Int)), some (0, a), some (0, b), some (0, s), some (0, m1), some (0, r4), some (0, k8 + 1), none]) rfl ?_
                            refine s_goto (tgt := 188) dX12_linksTypes_247 (by decide) ?_
                            exact ih8 (k8 + 1) G12 hMG12 hFG12 (⟨(by omega), (by exact iE8.trans (FE.puts hpG12 hpl8) (by omega) (by omega)), (by exact iB8.fx hpG12.2.1 iE8.1 (fun j => (Fr.call (Fr.rf) hfG12 (by decide) (by decide) : Fr [a_fKind, a_fA, a_fB, a_fSize, a_fNext, a_fHead, a_fMark, a_thingKind, a_thingA, a_thingB, a_thingC, a_thingNext, a_thingHead, a_stackOf, a_fMemo] [26, 42, 35, 36] G8 G12).atA (by decide) (by decide))), (by exact iT8.fx hpG12.2.1 iE8.1 (fun j _ _ => (Fr.call (Fr.rf) hfG12 (by decide) (by decide) : Fr [a_fKind, a_fA, a_fB, a_fSize, a_fNext, a_fHead, a_fMark, a_thingKind, a_thingA, a_thingB, a_thingC, a_thingNext, a_thingHead, a_stackOf, a_fMemo] [26, 42, 35, 36] G8 G12).atA (by decide) (by decide))), (by exact iRb8.fx hpG12.2.1 iE8.1 (fun j _ _ => (Fr.call (Fr.rf) hfG12 (by decide) (by decide) : Fr [a_fKind, a_fA, a_fB, a_fSize, a_fNext, a_fHead, a_fMark, a_thingKind, a_thingA, a_thingB, a_thingC, a_thingNext, a_thingHead, a_stackOf, a_fMemo] [26, 42, 35, 36] G8 G12).atA (by decide) (by decide))), (by exact is8.trans (SlotFr.agr ((Fr.call (Fr.rf) hfG12 (by decide) (by decide) : Fr [a_fKind, a_fA, a_fB, a_fSize, a_fNext, a_fHead, a_fMark, a_thingKind, a_thingA, a_thingB, a_thingC, a_thingNext, a_thingHead, a_stackOf, a_fMemo] [26, 42, 35, 36] G8 G12).agr (by decide) (by decide) (by decide))))⟩) (by omega)
                          · -- 234 to 237
                            refine s_sipush dX12_linksTypes_237 rfl (by decide) ?_
                            refine s_iload dX12_linksTypes_240 rfl ?_
                            refine s_iadd dX12_linksTypes_242 (by omega) ?_
                            exact s_iret hR dX12_linksTypes_243 rfl (hQ _ G12 hMG12 (⟨hFG12, ⟨by exact iE8.trans (FE.puts hpG12 hpl8) (by omega) (by omega), by exact is8.trans (SlotFr.agr ((Fr.call (Fr.rf) hfG12 (by decide) (by decide) : Fr [a_fKind, a_fA, a_fB, a_fSize, a_fNext, a_fHead, a_fMark, a_thingKind, a_thingA, a_thingB, a_thingC, a_thingNext, a_thingHead, a_stackOf, a_fMemo] [26, 42, 35, 36] G8 G12).agr (by decide) (by decide) (by decide))), by exact iT8.fx hpG12.2.1 iE8.1 (fun j _ _ => (Fr.call (Fr.rf) hfG12 (by decide) (by decide) : Fr [a_fKind, a_fA, a_fB, a_fSize, a_fNext, a_fHead, a_fMark, a_thingKind, a_thingA, a_thingB, a_thingC, a_thingNext, a_thingHead, a_stackOf, a_fMemo] [26, 42, 35, 36] G8 G12).atA (by decide) (by decide)), fun q => by omega⟩⟩))
                exact L8 _ 0 G6 hMG6 hFG6 (⟨(by omega), (by exact hEt.weak (by omega) (by omega)), (by exact hBY.fx (FX.agf hir (by decide) (by decide) (by decide)) hEc.1 (fun j => hir.atA (by decide) (by decide))), (by exact iT6), (by exact hRTcb.fx (FX.agf hir (by decide) (by decide) (by decide)) hEc.1 (fun j j0 j1 => his.rt hb.1 hbs0 j j0 j1)), (by exact hslc.trans his)⟩) (Nat.lt_succ_self _)
              · -- 102 to 105
                refine s_aload_n dX12_linksTypes_105 rfl (Int.natCast_nonneg _) ?_
                refine s_iload_n dX12_linksTypes_106 rfl ?_
                refine s_iload dX12_linksTypes_107 rfl ?_
                refine cv_X12_413 rfl gX12_isType_ dX12_linksTypes_109 hMG6 (by rw [hcf]; decide) (as := [(0, a), (0, k6)]) rfl (Nat.le_of_ble_eq_true rfl) ⟨a, k6, rfl, hMG6, (by first | assumption | omega), (by first | assumption | omega), ?_⟩
                show WP kX12_linksTypes X 112 [some (2, ((1000 : Nat) : Int)), some (0, a), some (0, b), some (0, s), some (0, m1), some (0, r4), some (0, k6), none] [(0, (gS G6 a_sType (6 * a + k6).toNat))] G6
                refine s_bipush dX12_linksTypes_112 rfl (by decide) ?_
                have J16 : ∀ z15 : Int, ((¬ ((gS G6 a_sType (6 * a + k6).toNat)) = ((-2))) ∧ z15 = 0) ∨ ((((gS G6 a_sType (6 * a + k6).toNat)) = ((-2))) ∧ (¬ ((gS G6 a_sType (6 * b + k6).toNat)) = ((-2))) ∧ z15 = 0) ∨ ((((gS G6 a_sType (6 * a + k6).toNat)) = ((-2))) ∧ (((gS G6 a_sType (6 * b + k6).toNat)) = ((-2))) ∧ z15 = 1) → WP kX12_linksTypes X 134 [some (2, ((1000 : Nat) : Int)), some (0, a), some (0, b), some (0, s), some (0, m1), some (0, r4), some (0, k6), none] [(0, z15)] G6 := by
                  intro z15 hz15
                  refine s_istore dX12_linksTypes_134 (by decide) (lv' := [some (2, ((1000 : Nat) : Int)), some (0, a), some (0, b), some (0, s), some (0, m1), some (0, r4), some (0, k6), some (0, z15)]) rfl ?_
                  refine s_aload_n dX12_linksTypes_136 rfl (Int.natCast_nonneg _) ?_
                  refine gf_sType rfl dX12_linksTypes_137 hMG6 ?_
                  refine s_bipush dX12_linksTypes_140 rfl (by decide) ?_
                  refine s_iload_n dX12_linksTypes_142 rfl ?_
                  refine s_imul dX12_linksTypes_143 (by omega) ?_
                  refine s_iload dX12_linksTypes_144 rfl ?_
                  refine s_iadd dX12_linksTypes_146 (by omega) ?_
                  refine s_iload dX12_linksTypes_147 rfl ?_
                  refine s_iload dX12_linksTypes_149 rfl ?_
                  refine cs_X12_367 rfl gX12_has dX12_linksTypes_151 (by rw [hcf]; decide) (as := [(0, m1), (0, k6)]) rfl (Nat.le_of_ble_eq_true rfl) ⟨m1, k6, rfl, ?_⟩
                  show WP kX12_linksTypes X 154 [some (2, ((1000 : Nat) : Int)), some (0, a), some (0, b), some (0, s), some (0, m1), some (0, r4), some (0, k6), some (0, z15)] [(0, b2i (bitI m1 k6)), (0, (6 * s) + k6), (2, ((a_sType : Nat) : Int))] G6
                  have J18 : ∀ z17 : Int, ((¬ (bitI m1 k6)) ∧ (z15 = 0) ∧ z17 = (-1)) ∨ ((¬ (bitI m1 k6)) ∧ (¬ z15 = 0) ∧ z17 = (-2)) ∨ ((bitI m1 k6) ∧ z17 = gS G6 a_solved ((k6).toNat)) → WP kX12_linksTypes X 178 [some (2, ((1000 : Nat) : Int)), some (0, a), some (0, b), some (0, s), some (0, m1), some (0, r4), some (0, k6), some (0, z15)] [(0, z17), (0, (6 * s) + k6), (2, ((a_sType : Nat) : Int))] G6 := by
                    intro z17 hz17
                    refine r_iast dX12_linksTypes_178 hMG6 (mg_a_sType hMG6) (by decide) (by omega) (by omega) (fun G19 eG19 hMG19 => ?_)
                    have hFG19 : Fr nX12_linksTypes jX12_linksTypes G G19 := Fr.setA hFG6 eG19 (by decide)
                    show WP kX12_linksTypes X 179 [some (2, ((1000 : Nat) : Int)), some (0, a), some (0, b), some (0, s), some (0, m1), some (0, r4), some (0, k6), some (0, z15)] [] G19
                    refine s_iinc dX12_linksTypes_179 (v := k6) rfl (by omega) (by decide) (lv' := [some (2, ((1000 : Nat) : Int)), some (0, a), some (0, b), some (0, s), some (0, m1), some (0, r4), some (0, k6 + 1), some (0, z15)]) rfl ?_
                    refine s_goto (tgt := 98) dX12_linksTypes_182 (by decide) ?_
                    refine s_mask [true, true, true, true, true, true, true, false] (lv' := [some (2, ((1000 : Nat) : Int)), some (0, a), some (0, b), some (0, s), some (0, m1), some (0, r4), some (0, k6 + 1), none]) rfl ?_
                    exact ih6 (k6 + 1) G19 hMG19 hFG19 (⟨(by omega), (by exact Fr.setA ir6 eG19 (by decide)), (by exact is6.trans (SlotFr.ty (k := k6) ⟨by omega, by omega⟩ hs.1 eG19)), (by refine RT.set iT6 hs.1 ⟨by omega, by omega⟩ eG19 ?_ hUi6; have z8 := hUi6.f; rcases hz17 with ⟨q1, q2, q3⟩ | ⟨q1, q2, q3⟩ | ⟨q1, q2⟩; (rw [q3]; exact ⟨by omega, fun z => by omega⟩); (rw [q3]; exact ⟨by omega, fun z => by omega⟩); (rw [q2]; have z9 := hSi6 _ (by omega) (by omega) q1; exact ⟨by omega, fun _ => z9.2⟩))⟩) (by omega)
                  refine s_if_eqB (tgt := 167) dX12_linksTypes_154 (by decide) (fun c20 => ?_) (fun c20 => ?_)
                  · -- 154 to 167
                    refine s_iload dX12_linksTypes_167 rfl ?_
                    refine s_if_eq (tgt := 177) dX12_linksTypes_169 (by decide) (fun c21 => ?_) (fun c21 => ?_)
                    · -- 169 to 177
                      refine s_iconst dX12_linksTypes_177 (by decide) ?_
                      exact J18 ((-1)) (Or.inl ⟨c20, c21, rfl⟩)
                    · -- 169 to 172
                      refine s_bipush dX12_linksTypes_172 rfl (by decide) ?_
                      refine s_goto (tgt := 178) dX12_linksTypes_174 (by decide) ?_
                      exact J18 ((-2)) (Or.inr (Or.inl ⟨c20, c21, rfl⟩))
                  · -- 154 to 157
                    refine s_aload_n dX12_linksTypes_157 rfl (Int.natCast_nonneg _) ?_
                    refine gf_solved rfl dX12_linksTypes_158 hMG6 ?_
                    refine s_iload dX12_linksTypes_161 rfl ?_
                    refine s_iald dX12_linksTypes_163 (mg_a_solved hMG6) (by omega) (by omega) rfl ?_
                    refine s_goto (tgt := 178) dX12_linksTypes_164 (by decide) ?_
                    exact J18 _ (Or.inr (Or.inr (⟨c20, rfl⟩)))
                refine s_icmp_ne (tgt := 133) dX12_linksTypes_114 (by decide) (fun c22 => ?_) (fun c22 => ?_)
                · -- 114 to 133
                  refine s_iconst dX12_linksTypes_133 (by decide) ?_
                  exact J16 0 (Or.inl ⟨c22, rfl⟩)
                · -- 114 to 117
                  refine s_aload_n dX12_linksTypes_117 rfl (Int.natCast_nonneg _) ?_
                  refine s_iload_n dX12_linksTypes_118 rfl ?_
                  refine s_iload dX12_linksTypes_119 rfl ?_
                  refine cv_X12_413 rfl gX12_isType_ dX12_linksTypes_121 hMG6 (by rw [hcf]; decide) (as := [(0, b), (0, k6)]) rfl (Nat.le_of_ble_eq_true rfl) ⟨b, k6, rfl, hMG6, (by first | assumption | omega), (by first | assumption | omega), ?_⟩
                  show WP kX12_linksTypes X 124 [some (2, ((1000 : Nat) : Int)), some (0, a), some (0, b), some (0, s), some (0, m1), some (0, r4), some (0, k6), none] [(0, (gS G6 a_sType (6 * b + k6).toNat))] G6
                  refine s_bipush dX12_linksTypes_124 rfl (by decide) ?_
                  refine s_icmp_ne (tgt := 133) dX12_linksTypes_126 (by decide) (fun c23 => ?_) (fun c23 => ?_)
                  · -- 126 to 133
                    refine s_iconst dX12_linksTypes_133 (by decide) ?_
                    exact J16 0 (Or.inr (Or.inl ⟨c22, c23, rfl⟩))
                  · -- 126 to 129
                    refine s_iconst dX12_linksTypes_129 (by decide) ?_
                    refine s_goto (tgt := 134) dX12_linksTypes_130 (by decide) ?_
                    exact J16 1 (Or.inr (Or.inr (⟨c22, c23, rfl⟩)))
          exact L6 _ 0 G3 hMG3 hFG3 (⟨(by omega), (by exact Fr.rf), (by exact SlotFr.rf), (by exact hRTcs)⟩) (Nat.lt_succ_self _)
        · -- 89 to 92
          refine s_iload dX12_linksTypes_92 rfl ?_
          exact s_iret hR dX12_linksTypes_94 rfl (hQ _ G3 hMG3 (⟨hFG3, ⟨hEc.weak (by omega) (by omega), hslc, hRTcs, fun q => by omega⟩⟩))
      · -- 10 to 13
        refine s_aload_n dX12_linksTypes_13 rfl (Int.natCast_nonneg _) ?_
        refine s_iload_n dX12_linksTypes_14 rfl ?_
        refine s_iload dX12_linksTypes_15 rfl ?_
        refine cv_X12_413 rfl gX12_isType_ dX12_linksTypes_17 hMG1 (by rw [hcf]; decide) (as := [(0, a), (0, k1)]) rfl (Nat.le_of_ble_eq_true rfl) ⟨a, k1, rfl, hMG1, (by first | assumption | omega), (by first | assumption | omega), ?_⟩
        show WP kX12_linksTypes X 20 [some (2, ((1000 : Nat) : Int)), some (0, a), some (0, b), some (0, s), some (0, m1), some (0, k1), none, none] [(0, (gS G1 a_sType (6 * a + k1).toNat))] G1
        refine s_istore dX12_linksTypes_20 (by decide) (lv' := [some (2, ((1000 : Nat) : Int)), some (0, a), some (0, b), some (0, s), some (0, m1), some (0, k1), some (0, (gS G1 a_sType (6 * a + k1).toNat)), none]) rfl ?_
        refine s_aload_n dX12_linksTypes_22 rfl (Int.natCast_nonneg _) ?_
        refine s_iload_n dX12_linksTypes_23 rfl ?_
        refine s_iload dX12_linksTypes_24 rfl ?_
        refine cv_X12_413 rfl gX12_isType_ dX12_linksTypes_26 hMG1 (by rw [hcf]; decide) (as := [(0, b), (0, k1)]) rfl (Nat.le_of_ble_eq_true rfl) ⟨b, k1, rfl, hMG1, (by first | assumption | omega), (by first | assumption | omega), ?_⟩
        show WP kX12_linksTypes X 29 [some (2, ((1000 : Nat) : Int)), some (0, a), some (0, b), some (0, s), some (0, m1), some (0, k1), some (0, (gS G1 a_sType (6 * a + k1).toNat)), none] [(0, (gS G1 a_sType (6 * b + k1).toNat))] G1
        refine s_istore dX12_linksTypes_29 (by decide) (lv' := [some (2, ((1000 : Nat) : Int)), some (0, a), some (0, b), some (0, s), some (0, m1), some (0, k1), some (0, (gS G1 a_sType (6 * a + k1).toNat)), some (0, (gS G1 a_sType (6 * b + k1).toNat))]) rfl ?_
        refine s_aload_n dX12_linksTypes_31 rfl (Int.natCast_nonneg _) ?_
        refine gf_equation rfl dX12_linksTypes_32 hMG1 ?_
        refine s_iload dX12_linksTypes_35 rfl ?_
        refine s_iload dX12_linksTypes_37 rfl ?_
        have J25 : ∀ z24 : Int, ((((gS G1 a_sType (6 * a + k1).toNat)) < 0) ∧ z24 = (gS G1 a_sType (6 * b + k1).toNat)) ∨ ((¬ ((gS G1 a_sType (6 * a + k1).toNat)) < 0) ∧ z24 = (gS G1 a_sType (6 * a + k1).toNat)) → WP kX12_linksTypes X 49 [some (2, ((1000 : Nat) : Int)), some (0, a), some (0, b), some (0, s), some (0, m1), some (0, k1), some (0, (gS G1 a_sType (6 * a + k1).toNat)), some (0, (gS G1 a_sType (6 * b + k1).toNat))] [(0, z24), (0, k1), (2, ((a_equation : Nat) : Int))] G1 := by
          intro z24 hz24
          refine r_iast dX12_linksTypes_49 hMG1 (mg_a_equation hMG1) (by decide) (by omega) (by omega) (fun G26 eG26 hMG26 => ?_)
          have hFG26 : Fr nX12_linksTypes jX12_linksTypes G G26 := Fr.setA hFG1 eG26 (by decide)
          show WP kX12_linksTypes X 50 [some (2, ((1000 : Nat) : Int)), some (0, a), some (0, b), some (0, s), some (0, m1), some (0, k1), some (0, (gS G1 a_sType (6 * a + k1).toNat)), some (0, (gS G1 a_sType (6 * b + k1).toNat))] [] G26
          refine s_iload dX12_linksTypes_50 rfl ?_
          refine s_aload_n dX12_linksTypes_52 rfl (Int.natCast_nonneg _) ?_
          refine gf_equation rfl dX12_linksTypes_53 hMG26 ?_
          refine s_iload dX12_linksTypes_56 rfl ?_
          refine s_iald dX12_linksTypes_58 (mg_a_equation hMG26) (by omega) (by omega) (gsaE eG26) ?_
          have J28 : ∀ z27 : Int, ((z24 < 0) ∧ z27 = 0) ∨ ((¬ z24 < 0) ∧ z27 = i_shl 1 k1) → WP kX12_linksTypes X 70 [some (2, ((1000 : Nat) : Int)), some (0, a), some (0, b), some (0, s), some (0, m1), some (0, k1), some (0, (gS G1 a_sType (6 * a + k1).toNat)), some (0, (gS G1 a_sType (6 * b + k1).toNat))] [(0, z27), (0, m1)] G26 := by
            intro z27 hz27
            refine s_ior dX12_linksTypes_70 ?_
            refine s_istore dX12_linksTypes_71 (by decide) (lv' := [some (2, ((1000 : Nat) : Int)), some (0, a), some (0, b), some (0, s), some (0, i_or m1 z27), some (0, k1), some (0, (gS G1 a_sType (6 * a + k1).toNat)), some (0, (gS G1 a_sType (6 * b + k1).toNat))]) rfl ?_
            refine s_iinc dX12_linksTypes_73 (v := k1) rfl (by omega) (by decide) (lv' := [some (2, ((1000 : Nat) : Int)), some (0, a), some (0, b), some (0, s), some (0, i_or m1 z27), some (0, k1 + 1), some (0, (gS G1 a_sType (6 * a + k1).toNat)), some (0, (gS G1 a_sType (6 * b + k1).toNat))]) rfl ?_
            refine s_goto (tgt := 6) dX12_linksTypes_76 (by decide) ?_
            refine s_mask [true, true, true, true, true, true, false, false] (lv' := [some (2, ((1000 : Nat) : Int)), some (0, a), some (0, b), some (0, s), some (0, i_or m1 z27), some (0, k1 + 1), none, none]) rfl ?_
            exact ih1 (i_or m1 z27) (k1 + 1) G26 hMG26 hFG26 (⟨(by omega), (by have hz9 : z24 = eqOf G a b k1 := (by unfold eqOf; rw [← hsa1, ← hsb1]; rcases hz24 with ⟨q1, q2⟩ | ⟨q1, q2⟩; (rw [if_neg (by omega)]; exact q2); (rw [if_pos (by omega)]; exact q2)); exact bset ia1 (by omega) (by rcases hz27 with ⟨q1, q2⟩ | ⟨q1, q2⟩; (exact Or.inl ⟨by omega, q2⟩); (exact Or.inr ⟨by omega, q2⟩))), (by have hz9 : z24 = eqOf G a b k1 := (by unfold eqOf; rw [← hsa1, ← hsb1]; rcases hz24 with ⟨q1, q2⟩ | ⟨q1, q2⟩; (rw [if_neg (by omega)]; exact q2); (rw [if_pos (by omega)]; exact q2)); intro j j0 j1; by_cases hj : j = k1; (subst hj; rw [g_at (g_upd eG26)]; exact hz9); (rw [g_ne (g_upd eG26) (by omega)]; exact ie1 j j0 (by omega))), (by exact Fr.setA ir1 eG26 (by decide))⟩) (by omega)
          refine s_if_lt (tgt := 69) dX12_linksTypes_59 (by decide) (fun c29 => ?_) (fun c29 => ?_)
          · -- 59 to 69
            refine s_iconst dX12_linksTypes_69 (by decide) ?_
            exact J28 0 (Or.inl ⟨c29, rfl⟩)
          · -- 59 to 62
            refine s_iconst dX12_linksTypes_62 (by decide) ?_
            refine s_iload dX12_linksTypes_63 rfl ?_
            refine s_ishl dX12_linksTypes_65 ?_
            refine s_goto (tgt := 70) dX12_linksTypes_66 (by decide) ?_
            exact J28 _ (Or.inr (⟨c29, rfl⟩))
        refine s_if_lt (tgt := 47) dX12_linksTypes_39 (by decide) (fun c30 => ?_) (fun c30 => ?_)
        · -- 39 to 47
          refine s_iload dX12_linksTypes_47 rfl ?_
          exact J25 _ (Or.inl ⟨c30, rfl⟩)
        · -- 39 to 42
          refine s_iload dX12_linksTypes_42 rfl ?_
          refine s_goto (tgt := 49) dX12_linksTypes_44 (by decide) ?_
          exact J25 _ (Or.inr (⟨c30, rfl⟩))
  exact L1 _ 0 0 G hM Fr.rf (⟨(by omega), (by intro j j0 j1; exact ⟨fun q => absurd q (bitI_0 j0 j1), fun q => by omega⟩), (by intro j j0 j1; omega), (by exact Fr.rf)⟩) (Nat.lt_succ_self _)
