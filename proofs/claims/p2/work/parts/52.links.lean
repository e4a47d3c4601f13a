abbrev nX12_links : List Nat := [a_equation, a_uses, a_reaches, a_solved, a_by, a_fKind, a_fA, a_fB, a_fSize, a_fNext, a_fHead, a_fMark, a_thingKind, a_thingA, a_thingB, a_thingC, a_thingNext, a_thingHead, a_stackOf, a_fMemo, a_sType, a_sValue, a_sFlags, a_sNumber]
abbrev jX12_links : List Nat := [26, 42, 35, 36]
def TX12_links : TR := fun as G Qr => ∃ (a b s : Int) (Hs : List (Int → Int)) (vv : Int → Int) (P : Int → Prop), as = [(2, ((1000 : Nat) : Int)), (0, a), (0, b), (0, s)] ∧ MG G ∧ (FU G) ∧ (TH G Hs) ∧ (vv ∈ Hs) ∧ (0 ≤ a ∧ a < 43) ∧ (0 ≤ b ∧ b < 43) ∧ (0 ≤ s ∧ s < 43) ∧ (¬ a = s) ∧ (¬ b = s) ∧ (RT G P a) ∧ (RT G P b) ∧ (RT G P s) ∧ (RV G P a) ∧ (RV G P b) ∧ (RV G P s) ∧ (∀ j : Int, 0 ≤ j → j < 10 → (gS G a_sValue (10 * s + j).toNat) = -1) ∧ ((gS G 1000 26) + 3168 < 150000) ∧ ((gS G 1000 35) ≤ 1900000000) ∧ ∀ (r : Int) (G' : LG), MG G' → (Fr nX12_links jX12_links G G' ∧ (FE G G' Hs 3168 74 ∧ SlotFr s G G' ∧ RT G' P s ∧ RV G' P s ∧ ∀ j : Int, 0 ≤ j → j < 10 → ¬ (gS G' a_sValue (10 * s + j).toNat) = -1 → ¬ (gS G a_sValue (10 * a + j).toNat) = -1 ∨ ¬ (gS G a_sValue (10 * b + j).toNat) = -1)) → Qr (.inl (some (0, r))) G'
set_option maxHeartbeats 4000000 in
set_option maxRecDepth 100000 in
theorem gX12_links : Good kX12_links yX12_links 6 TX12_links := by
  refine good_of (by decide) rfl rfl (fun as G Qr h => ?_) (fun X as G Qr hcf hR hT oa => ?_)
  · obtain ⟨a, b, s, Hs, vv, P, rfl, -⟩ := h; exact Nat.le_of_ble_eq_true rfl
  obtain ⟨a, b, s, Hs, vv, P, rfl, hM, hFU, hTH, hvv, ha, hb, hs, has, hbs, hRTa, hRTb, hRTs, hRVa, hRVb, hRVs, hcl, hc, hm, hQ⟩ := hT
  show WP kX12_links X 0 [some (2, ((1000 : Nat) : Int)), some (0, a), some (0, b), some (0, s), none, none] [] G
  have hr_a : inR a := okv_R (oa _ (by simp))
  have hr_b : inR b := okv_R (oa _ (by simp))
  have hr_s : inR s := okv_R (oa _ (by simp))
  have hff0 := hFU.f
  have hmk0 := hFU.2.1
  refine s_aload_n dX12_links_0 rfl (Int.natCast_nonneg _) ?_
  refine s_iload_n dX12_links_1 rfl ?_
  refine s_iload_n dX12_links_2 rfl ?_
  refine s_iload_n dX12_links_3 rfl ?_
  refine cv_X12_415 rfl gX12_linksTypes dX12_links_4 hM (by rw [hcf]; decide) (as := [(0, a), (0, b), (0, s)]) rfl (Nat.le_of_ble_eq_true rfl) ⟨a, b, s, Hs, vv, P, rfl, hM, (by exact hFU), (by exact hTH), (by exact hvv), (by omega), (by omega), (by omega), (by omega), (by exact hRTa), (by exact hRTb), (by exact hRTs), (by omega), (by omega), fun r2 G1 hMG1 hpG1 => ?_⟩
  obtain ⟨hfG1, hpG1⟩ := hpG1
  have hFG1 : Fr nX12_links jX12_links G G1 := Fr.call Fr.rf hfG1 (by decide) (by decide)
  show WP kX12_links X 7 [some (2, ((1000 : Nat) : Int)), some (0, a), some (0, b), some (0, s), none, none] [(0, r2)] G1
  refine s_istore dX12_links_7 (by decide) (lv' := [some (2, ((1000 : Nat) : Int)), some (0, a), some (0, b), some (0, s), some (0, r2), none]) rfl ?_
  refine s_iconst dX12_links_9 (by decide) ?_
  refine s_istore dX12_links_10 (by decide) (lv' := [some (2, ((1000 : Nat) : Int)), some (0, a), some (0, b), some (0, s), some (0, r2), some (0, 0)]) rfl ?_
  have L3 : ∀ (n3 : Nat) (e3 : Int) (k3 : Int) (G3 : LG), MG G3 → Fr nX12_links jX12_links G G3 → ((0 ≤ k3 ∧ k3 ≤ 10) ∧ (FE G G3 Hs (1188 + 198 * k3) (54 + 2 * k3)) ∧ (SlotFr s G G3) ∧ (RT G3 P s) ∧ (RV G3 P s) ∧ (e3 = 0 → BY G3 P) ∧ (RV G3 P a) ∧ (RV G3 P b) ∧ (∀ j : Int, 0 ≤ j → j < 10 → ¬ (gS G3 a_sValue (10 * s + j).toNat) = -1 → ¬ (gS G a_sValue (10 * a + j).toNat) = -1 ∨ ¬ (gS G a_sValue (10 * b + j).toNat) = -1)) → (10 - k3).toNat < n3 → WP kX12_links X 12 [some (2, ((1000 : Nat) : Int)), some (0, a), some (0, b), some (0, s), some (0, e3), some (0, k3)] [] G3 := by
    intro n3
    induction n3 with
    | zero => intro e3 k3 G3 hMG3 hFG3 hi3 hm3; exact absurd hm3 (Nat.not_lt_zero _)
    | succ n3 ih3 =>
      intro e3 k3 G3 hMG3 hFG3 hi3 hm3
      have hj3 := hi3
      obtain ⟨ik3, iE3, iS3, iT3, iV3, iB3, iA3, iC3, iD3⟩ := hi3
      refine s_iload dX12_links_12 rfl ?_
      refine s_bipush dX12_links_14 rfl (by decide) ?_
      refine s_icmp_ge (tgt := 41) dX12_links_16 (by decide) (fun c4 => ?_) (fun c4 => ?_)
      · -- 16 to 41
        refine s_iload dX12_links_41 rfl ?_
        exact s_iret hR dX12_links_43 rfl (hQ _ G3 hMG3 (⟨hFG3, ⟨iE3.weak (by omega) (by omega), iS3, iT3, iV3, iD3⟩⟩))
      · -- 16 to 19
        refine s_iload dX12_links_19 rfl ?_
        refine s_if_ne (tgt := 41) dX12_links_21 (by decide) (fun c5 => ?_) (fun c5 => ?_)
        · -- 21 to 41
          refine s_iload dX12_links_41 rfl ?_
          exact s_iret hR dX12_links_43 rfl (hQ _ G3 hMG3 (⟨hFG3, ⟨iE3.weak (by omega) (by omega), iS3, iT3, iV3, iD3⟩⟩))
        · -- 21 to 24
          have hfe3 := iE3.2.2.2.2
          refine s_aload_n dX12_links_24 rfl (Int.natCast_nonneg _) ?_
          refine s_iload_n dX12_links_25 rfl ?_
          refine s_iload_n dX12_links_26 rfl ?_
          refine s_iload_n dX12_links_27 rfl ?_
          refine s_iload dX12_links_28 rfl ?_
          refine cv_X12_418 rfl gX12_linksValue dX12_links_30 hMG3 (by rw [hcf]; decide) (as := [(0, a), (0, b), (0, s), (0, k3)]) rfl (Nat.le_of_ble_eq_true rfl) ⟨a, b, s, k3, Hs, vv, P, rfl, hMG3, (by exact iE3.1), (by exact iE3.2.2.1), (by exact hvv), (by omega), (by omega), (by omega), (by omega), (by exact iB3 (by omega)), (by exact iA3), (by exact iC3), (by exact iV3), (by omega), (by omega), fun r7 G6 hMG6 hpG6 => ?_⟩
          obtain ⟨hfG6, hpG6⟩ := hpG6
          have hFG6 : Fr nX12_links jX12_links G G6 := Fr.call hFG3 hfG6 (by decide) (by decide)
          show WP kX12_links X 33 [some (2, ((1000 : Nat) : Int)), some (0, a), some (0, b), some (0, s), some (0, e3), some (0, k3)] [(0, r7)] G6
          refine s_istore dX12_links_33 (by decide) (lv' := [some (2, ((1000 : Nat) : Int)), some (0, a), some (0, b), some (0, s), some (0, r7), some (0, k3)]) rfl ?_
          refine s_iinc dX12_links_35 (v := k3) rfl (by omega) (by decide) (lv' := [some (2, ((1000 : Nat) : Int)), some (0, a), some (0, b), some (0, s), some (0, r7), some (0, k3 + 1)]) rfl ?_
          refine s_goto (tgt := 12) dX12_links_38 (by decide) ?_
          exact ih3 r7 (k3 + 1) G6 hMG6 hFG6 (⟨(by omega), (by exact iE3.trans hpG6.1 (by omega) (by omega)), (by exact iS3.trans hpG6.2.1), (by exact iT3.fx hpG6.1.2.1 iE3.1 (fun j _ _ => hfG6.atA (by decide) (by decide))), (by exact hpG6.2.2.1), (by exact fun _ => hpG6.2.2.2.1), (by exact iA3.fx hpG6.1.2.1 iE3.1 (fun j j0 j1 => (hpG6.2.1.rv ha.1 has j j0 j1).1)), (by exact iC3.fx hpG6.1.2.1 iE3.1 (fun j j0 j1 => (hpG6.2.1.rv hb.1 hbs j j0 j1).1)), (by intro j j0 j1 q; rcases hpG6.2.2.2.2 j j0 j1 q with q | ⟨q1, q2⟩; (exact iD3 j j0 j1 q); (rw [q1]; rw [(iS3.rv ha.1 has _ (by omega) (by omega)).1, (iS3.rv hb.1 hbs _ (by omega) (by omega)).1] at q2; exact q2))⟩) (by omega)
  exact L3 _ r2 0 G1 hMG1 hFG1 (⟨(by omega), (by exact hpG1.1.weak (by omega) (by omega)), (by exact hpG1.2.1), (by exact hpG1.2.2.1), (by exact hRVs.fx hpG1.1.2.1 hFU (fun j _ _ => hfG1.atA (by decide) (by decide))), (by exact hpG1.2.2.2), (by exact hRVa.fx hpG1.1.2.1 hFU (fun j _ _ => hfG1.atA (by decide) (by decide))), (by exact hRVb.fx hpG1.1.2.1 hFU (fun j _ _ => hfG1.atA (by decide) (by decide))), (by intro j j0 j1 q; rw [hfG1.atA (by decide) (by decide)] at q; exact absurd (hcl j j0 j1) q)⟩) (Nat.lt_succ_self _)
