abbrev nX12_faceOf : List Nat := [a_ident, a_byStamp, a_equation, a_uses, a_reaches, a_solved, a_by, a_fKind, a_fA, a_fB, a_fSize, a_fNext, a_fHead, a_fMark, a_thingKind, a_thingA, a_thingB, a_thingC, a_thingNext, a_thingHead, a_stackOf, a_fMemo, a_sType, a_sValue, a_sFlags, a_sNumber, a_todo, a_phase, a_found]
abbrev jX12_faceOf : List Nat := [26, 42, 35, 36, 40, 41]
def TX12_faceOf : TR := fun as G Qr => ∃ (n : Int) (Hs : List (Int → Int)) (vv : Int → Int), as = [(2, ((1000 : Nat) : Int)), (0, n)] ∧ MG G ∧ (FU G) ∧ (TH G Hs) ∧ (vv ∈ Hs) ∧ (vv = cur G) ∧ (TB G) ∧ (EX G) ∧ (UV G) ∧ (RW G) ∧ (0 ≤ n ∧ n < (gS G 1000 18)) ∧ (∀ k : Int, 0 ≤ k → k < nMany G n → FC G vv (nPart G n k)) ∧ ((gS G 1000 26) + ncost G n < 150000) ∧ ((gS G 1000 35) ≤ 1800000000) ∧ ∀ (r : Int) (G' : LG), MG G' → (Fr nX12_faceOf jX12_faceOf G G' ∧ (FE G G' Hs (ncost G n) 100 ∧ SlotFa n G G' ∧ (∀ j : Nat, j ≠ (n).toNat → gS G' a_ident j = gS G a_ident j) ∧ idN G' vv n ((gS G' a_ident (n).toNat)) ∧ RT G' (stN G' vv n) n ∧ RV G' (stN G' vv n) n ∧ (r = 0 → DN G' n ∧ ∀ k : Int, 0 ≤ k → k < nMany G n → (gS G a_error (nPart G n k).toNat) = 0))) → Qr (.inl (some (0, r))) G'
set_option maxHeartbeats 4000000 in
set_option maxRecDepth 100000 in
theorem gX12_faceOf : Good kX12_faceOf yX12_faceOf 8 TX12_faceOf := by
  refine good_of (by decide) rfl rfl (fun as G Qr h => ?_) (fun X as G Qr hcf hR hT oa => ?_)
  · obtain ⟨n, Hs, vv, rfl, -⟩ := h; exact Nat.le_of_ble_eq_true rfl
  obtain ⟨n, Hs, vv, rfl, hM, hFU, hTH, hvv, hcu, hTB, hEX, hUV, hRW, hn, hp, hc, hm, hQ⟩ := hT
  show WP kX12_faceOf X 0 [some (2, ((1000 : Nat) : Int)), some (0, n), none] [] G
  have hr_n : inR n := okv_R (oa _ (by simp))
  have hFE0 := FE.rf hFU hTH
  have hff0 := hFU.f
  have hmk0 := hFU.2.1
  have hND := hTH.2.2.2.1
  have hnd40 := hND.1
  have hncc := ncost_nn (G := G) (n := n)
  refine s_aload_n dX12_faceOf_0 rfl (Int.natCast_nonneg _) ?_
  refine s_iload_n dX12_faceOf_1 rfl ?_
  refine cv_X12_428 rfl gX12_clears dX12_faceOf_2 hM (by rw [hcf]; decide) (as := [(0, n)]) rfl (Nat.le_of_ble_eq_true rfl) ⟨n, rfl, hM, (by first | assumption | omega), fun G1 hMG1 hpG1 => ?_⟩
  obtain ⟨hfG1, hpG1⟩ := hpG1
  have hFG1 : Fr nX12_faceOf jX12_faceOf G G1 := Fr.call Fr.rf hfG1 (by decide) (by decide)
  show WP kX12_faceOf X 5 [some (2, ((1000 : Nat) : Int)), some (0, n), none] [] G1
  refine s_aload_n dX12_faceOf_5 rfl (Int.natCast_nonneg _) ?_
  refine gf_ident rfl dX12_faceOf_6 hMG1 ?_
  refine s_iload_n dX12_faceOf_9 rfl ?_
  refine s_aload_n dX12_faceOf_10 rfl (Int.natCast_nonneg _) ?_
  refine s_iload_n dX12_faceOf_11 rfl ?_
  refine cv_X12_443 rfl gX12_identOf dX12_faceOf_12 hMG1 (by rw [hcf]; decide) (as := [(0, n)]) rfl (Nat.le_of_ble_eq_true rfl) ⟨n, Hs, vv, rfl, hMG1, (by exact hTH.agr (hfG1.agr (by decide) (by decide) (by decide))), (by exact hvv), (by rw [(TX.agr (hfG1.agr (by decide) (by decide) (by decide))).cur]; exact hcu), (by exact hUV.agr (hfG1.agr (by decide) (by decide) (by decide))), (by rw [hfG1.atF (by decide) (by decide)]; exact hn), (by rw [hfG1.atA (n := a_nKind) (by decide) (by decide), hfG1.atA (n := a_nFirst) (by decide) (by decide), hfG1.atA (n := a_ident) (by decide) (by decide)]; intro q; have z9 := hp 0 (by omega) (nMany.k.1 q); exact (TX.agr (hfG1.agr (by decide) (by decide) (by decide))).idN z9.1), (by rw [hfG1.atA (n := a_nKind) (by decide) (by decide), hfG1.atA (n := a_nSecond) (by decide) (by decide), hfG1.atA (n := a_ident) (by decide) (by decide)]; intro q; have z9 := hp 1 (by omega) (nMany.k.2.1 q); exact (TX.agr (hfG1.agr (by decide) (by decide) (by decide))).idN z9.1), fun r4 G3 hMG3 hpG3 => ?_⟩
  obtain ⟨hfG3, hpG3⟩ := hpG3
  have hFG3 : Fr nX12_faceOf jX12_faceOf G G3 := Fr.call hFG1 hfG3 (by decide) (by decide)
  show WP kX12_faceOf X 15 [some (2, ((1000 : Nat) : Int)), some (0, n), none] [(0, r4), (0, n), (2, ((a_ident : Nat) : Int))] G3
  refine r_iast dX12_faceOf_15 hMG3 (mg_a_ident hMG3) (by decide) (by omega) (by omega) (fun G5 eG5 hMG5 => ?_)
  have hFG5 : Fr nX12_faceOf jX12_faceOf G G5 := Fr.setA hFG3 eG5 (by decide)
  show WP kX12_faceOf X 16 [some (2, ((1000 : Nat) : Int)), some (0, n), none] [] G5
  have hE3 : FE G G5 Hs 0 0 := by have z0 := FE.rf (Hs := Hs) hFE0.1 hFE0.2.2.1; have z1 : FE G G1 Hs 0 0 := (by first | exact z0.fr hfG1 (by decide) (by decide) (by decide) | exact (z0.fr hfG1 (by decide) (by decide) (by decide)).weak (by omega) (by omega)); have z2 : FE G G3 Hs 0 0 := (by first | exact z1.trans (FE.thing z1.1 hpG3.1 hpG3.2.1 hfG3 (by decide) (by decide) (by decide)) (Int.le_refl _) (Int.le_refl _) | exact (z1.trans (FE.thing z1.1 hpG3.1 hpG3.2.1 hfG3 (by decide) (by decide) (by decide)) (Int.le_refl _) (Int.le_refl _)).weak (by omega) (by omega)); have z3 : FE G G5 Hs 0 0 := (by first | exact z2.fr (Fr.setA Fr.rf eG5 (by decide) : Fr [a_ident] [] G3 G5) (by decide) (by decide) (by decide) | exact (z2.fr (Fr.setA Fr.rf eG5 (by decide) : Fr [a_ident] [] G3 G5) (by decide) (by decide) (by decide)).weak (by omega) (by omega)); exact z3
  have hf3 := (Fr.setA (Fr.call (Fr.call (Fr.rf) hfG1 (by decide) (by decide)) hfG3 (by decide) (by decide)) eG5 (by decide) : Fr [a_sType, a_sValue, a_sFlags, a_sNumber, a_thingKind, a_thingA, a_thingB, a_thingC, a_thingNext, a_thingHead, a_ident] [42] G G5)
  have hu3 := g_upd eG5
  have hf23 := (Fr.setA (Fr.rf) eG5 (by decide) : Fr [a_ident] [] G3 G5)
  have hf13 := (Fr.setA (Fr.call (Fr.rf) hfG3 (by decide) (by decide)) eG5 (by decide) : Fr [a_thingKind, a_thingA, a_thingB, a_thingC, a_thingNext, a_thingHead, a_ident] [42] G1 G5)
  have hsl3 : SlotFr n G G5 := hpG1.1.trans (SlotFr.agr (hf13.agr (by decide) (by decide) (by decide)))
  have hid3 : idN G5 vv n (gS G5 a_ident (n).toNat) := by rw [g_at hu3]; exact (TX.agr (hf23.agr (by decide) (by decide) (by decide))).idN hpG3.2.2.1
  have hio3 : ∀ j : Nat, j ≠ (n).toNat → gS G5 a_ident j = gS G a_ident j := fun j hj => by rw [g_ne hu3 hj, (Fr.call (Fr.call (Fr.rf) hfG1 (by decide) (by decide)) hfG3 (by decide) (by decide) : Fr [a_sType, a_sValue, a_sFlags, a_sNumber, a_thingKind, a_thingA, a_thingB, a_thingC, a_thingNext, a_thingHead] [42] G G3).atA (by decide) (by decide)]
  have hff3 := hE3.1.f
  have hfe3 := hE3.2.2.2.2
  have hcl3 : ∀ j : Int, 0 ≤ j → j < 10 → (gS G5 a_sValue (10 * n + j).toNat) = -1 := fun j j0 j1 => by rw [hf13.atA (by decide) (by decide)]; exact hpG1.2.2 j j0 j1
  have hT3 : RT G5 NF n := fun j j0 j1 => by rw [hf13.atA (n := a_sType) (by decide) (by decide), hpG1.2.1 j j0 j1]; exact GT.none hE3.1 (by omega) (by omega)
  have hV3 : RV G5 NF n := fun j j0 j1 => by rw [hcl3 j j0 j1]; exact GT.none hE3.1 (by omega) (by omega)
  have hP3 : ∀ k : Int, 0 ≤ k → k < nMany G n → FC G5 vv (nPart G n k) := fun k k0 k1 => by have z9 := hND.part hn.1 hn.2 k0 k1; exact (hp k k0 k1).tx hE3.2.2.2.1 hE3.2.1 hFU (hio3 _ (by omega)) (hf3.atA (by decide) (by decide)) (fun j j0 j1 => hsl3.rt z9.1 (by omega) j j0 j1) (fun j j0 j1 => (hsl3.rv z9.1 (by omega) j j0 j1).1)
  have e1n : (gS G5 a_nKind (n).toNat) = (gS G a_nKind (n).toNat) := hf3.atA (by decide) (by decide)
  have e2n : (gS G5 a_nFirst (n).toNat) = (gS G a_nFirst (n).toNat) := hf3.atA (by decide) (by decide)
  have e3n : (gS G5 a_nSecond (n).toNat) = (gS G a_nSecond (n).toNat) := hf3.atA (by decide) (by decide)
  have e4n : (gS G5 a_nThird (n).toNat) = (gS G a_nThird (n).toNat) := hf3.atA (by decide) (by decide)
  refine s_iconst dX12_faceOf_16 (by decide) ?_
  refine s_istore_n dX12_faceOf_17 (by decide) (lv' := [some (2, ((1000 : Nat) : Int)), some (0, n), some (0, 0)]) rfl ?_
  have L6 : ∀ (n6 : Nat) (k6 : Int), ((0 ≤ k6) ∧ (∀ j : Int, 0 ≤ j → j < k6 → (gS G a_error (nPart G n j).toNat) = 0)) → (3 - k6).toNat < n6 → WP kX12_faceOf X 18 [some (2, ((1000 : Nat) : Int)), some (0, n), some (0, k6)] [] G5 := by
    intro n6
    induction n6 with
    | zero => intro k6 hi6 hm6; exact absurd hm6 (Nat.not_lt_zero _)
    | succ n6 ih6 =>
      intro k6 hi6 hm6
      have hj6 := hi6
      obtain ⟨ik6, ie6⟩ := hi6
      refine s_iload_n dX12_faceOf_18 rfl ?_
      refine s_aload_n dX12_faceOf_19 rfl (Int.natCast_nonneg _) ?_
      refine s_iload_n dX12_faceOf_20 rfl ?_
      refine cv_X12_446 rfl gX12_partsOfNode dX12_faceOf_21 hMG5 (by rw [hcf]; decide) (as := [(0, n)]) rfl (Nat.le_of_ble_eq_true rfl) ⟨n, rfl, hMG5, (by first | assumption | omega), ?_⟩
      show WP kX12_faceOf X 24 [some (2, ((1000 : Nat) : Int)), some (0, n), some (0, k6)] [(0, (if (gS G5 a_nKind (n).toNat) = 0 then 0 else if 5 ≤ (gS G5 a_nKind (n).toNat) then 1 else if (gS G5 a_nKind (n).toNat) = 4 then 3 else 2)), (0, k6)] G5
      refine s_icmp_ge (tgt := 53) dX12_faceOf_24 (by decide) (fun c7 => ?_) (fun c7 => ?_)
      · -- 24 to 53
        have hkm : nMany G5 n ≤ k6 := by unfold nMany; omega
        rw [nMany.fr hf3 (by decide)] at hkm
        have hall : ∀ j : Int, 0 ≤ j → j < nMany G n → (gS G a_error (nPart G n j).toNat) = 0 := fun j j0 j1 => ie6 j j0 (by omega)
        have hR3 : ∀ j : Int, 0 ≤ j → j < nMany G n → RT G5 (stN G5 vv (nPart G n j)) (nPart G n j) ∧ RV G5 (stN G5 vv (nPart G n j)) (nPart G n j) := fun j j0 j1 => (hP3 j j0 j1).2 (by rw [hf3.atA (by decide) (by decide)]; exact hall j j0 j1)
        have hA3 : 1 ≤ (gS G5 a_nKind (n).toNat) → (0 ≤ (gS G5 a_nFirst (n).toNat) ∧ (gS G5 a_nFirst (n).toNat) < n) ∧ RT G5 (stN G5 vv ((gS G5 a_nFirst (n).toNat))) ((gS G5 a_nFirst (n).toNat)) ∧ RV G5 (stN G5 vv ((gS G5 a_nFirst (n).toNat))) ((gS G5 a_nFirst (n).toNat)) := fun q => by rw [e1n] at q; rw [e2n]; have z9 := nMany.k.1 q; exact ⟨hND.part hn.1 hn.2 (Int.le_refl 0) z9, hR3 0 (by omega) z9⟩
        have hB3 : 1 ≤ (gS G5 a_nKind (n).toNat) ∧ (gS G5 a_nKind (n).toNat) ≤ 4 → (0 ≤ (gS G5 a_nSecond (n).toNat) ∧ (gS G5 a_nSecond (n).toNat) < n) ∧ RT G5 (stN G5 vv ((gS G5 a_nSecond (n).toNat))) ((gS G5 a_nSecond (n).toNat)) ∧ RV G5 (stN G5 vv ((gS G5 a_nSecond (n).toNat))) ((gS G5 a_nSecond (n).toNat)) := fun q => by rw [e1n] at q; rw [e3n]; have z9 := nMany.k.2.1 q; exact ⟨hND.part (k := 1) hn.1 hn.2 (by omega) z9, hR3 1 (by omega) z9⟩
        have hC3 : (gS G5 a_nKind (n).toNat) = 4 → (0 ≤ (gS G5 a_nThird (n).toNat) ∧ (gS G5 a_nThird (n).toNat) < n) := fun q => by rw [e1n] at q; rw [e4n]; have z9 := nMany.k.2.2 q; exact hND.part (k := 2) hn.1 hn.2 (by omega) z9
        simp only [e2n, e3n, e4n] at hA3 hB3 hC3
        have hnk := (hND.2 n hn.1 hn.2).1
        rw [← e1n] at hnk
        have hns := (hND.2 n hn.1 hn.2).2.2.2.2.2
        rw [← e1n, ← e3n, ← e4n] at hns
        have hns1 := hns.1
        have hns2 := hns.2.1
        clear hns
        have hnc := ncost.k (G := G) (n := n)
        rw [← e1n] at hnc
        obtain ⟨hnc0, hnc1, hnc2, hnc3, hnc4⟩ := hnc
        have hnn3 : 0 ≤ n ∧ n < (gS G5 1000 18) := by rw [hf3.atF (by decide) (by decide)]; exact hn
        have hia3 : 1 ≤ (gS G5 a_nKind (n).toNat) → idN G5 vv ((gS G5 a_nFirst (n).toNat)) ((gS G5 a_ident ((gS G5 a_nFirst (n).toNat)).toNat)) := fun q => by rw [e1n] at q; rw [e2n]; exact (hP3 0 (by omega) (nMany.k.1 q)).1
        have hib3 : 1 ≤ (gS G5 a_nKind (n).toNat) ∧ (gS G5 a_nKind (n).toNat) ≤ 4 → idN G5 vv ((gS G5 a_nSecond (n).toNat)) ((gS G5 a_ident ((gS G5 a_nSecond (n).toNat)).toNat)) := fun q => by rw [e1n] at q; rw [e3n]; exact (hP3 1 (by omega) (nMany.k.2.1 q)).1
        simp only [e2n, e3n] at hia3 hib3
        refine s_aload_n dX12_faceOf_53 rfl (Int.natCast_nonneg _) ?_
        refine gf_nKind rfl dX12_faceOf_54 hMG5 ?_
        refine s_iload_n dX12_faceOf_57 rfl ?_
        refine s_iald dX12_faceOf_58 (mg_a_nKind hMG5) (by omega) (by omega) (Eq.trans (gsnE eG5 (by decide)) (Eq.trans (Fr.atA hfG3 (by decide) (by decide)) (Fr.atA hfG1 (by decide) (by decide)))) ?_
        by_cases c8_0 : (gS G a_nKind ((n).toNat)) = 0
        · -- case 0
          refine s_tableIn (tgt := 92) (off := 33) dX12_faceOf_59 (by omega) (by omega) (by rw [c8_0]; rfl) (by decide) ?_
          have hU3 := hUV.agr (hf3.agr (by decide) (by decide) (by decide))
          have hN3 := hE3.2.2.1.2.2.2.1
          have hvr := verC.rng hN3 hU3 hnn3 (by omega)
          have hvn := (hN3.2 n hnn3.1 hnn3.2).2.1 (by omega)
          have hvu := hU3.1
          have hvv1 := hU3.2.1 ((gS G5 a_nFirst (n).toNat)) hvn.1 (by omega)
          refine s_aload_n dX12_faceOf_92 rfl (Int.natCast_nonneg _) ?_
          refine s_iload_n dX12_faceOf_93 rfl ?_
          refine s_aload_n dX12_faceOf_94 rfl (Int.natCast_nonneg _) ?_
          refine s_iload_n dX12_faceOf_95 rfl ?_
          refine cv_X12_440 rfl gX12_versionOf dX12_faceOf_96 hMG5 (by rw [hcf]; decide) (as := [(0, n)]) rfl (Nat.le_of_ble_eq_true rfl) ⟨n, rfl, hMG5, (by first | assumption | omega), (by first | assumption | omega), (by first | assumption | omega), (by first | assumption | omega), ?_⟩
          show WP kX12_faceOf X 99 [some (2, ((1000 : Nat) : Int)), some (0, n), some (0, k6)] [(0, (if (gS G5 a_nSecond (n).toNat) = -1 then 5 * (gS G5 a_nFirst (n).toNat) + ((gS G5 a_versions ((gS G5 a_nFirst (n).toNat)).toNat) - 1) else 5 * (gS G5 a_nFirst (n).toNat) + (gS G5 a_nSecond (n).toNat))), (0, n), (2, ((1000 : Nat) : Int))] G5
          refine cv_X12_452 rfl gX12_unitFace dX12_faceOf_99 hMG5 (by rw [hcf]; decide) (as := [(0, n), (0, (if (gS G5 a_nSecond (n).toNat) = -1 then 5 * (gS G5 a_nFirst (n).toNat) + ((gS G5 a_versions ((gS G5 a_nFirst (n).toNat)).toNat) - 1) else 5 * (gS G5 a_nFirst (n).toNat) + (gS G5 a_nSecond (n).toNat)))]) rfl (Nat.le_of_ble_eq_true rfl) ⟨n, (if (gS G5 a_nSecond (n).toNat) = -1 then 5 * (gS G5 a_nFirst (n).toNat) + ((gS G5 a_versions ((gS G5 a_nFirst (n).toNat)).toNat) - 1) else 5 * (gS G5 a_nFirst (n).toNat) + (gS G5 a_nSecond (n).toNat)), Hs, vv, rfl, hMG5, (by exact hE3.1), (by exact hE3.2.2.1), (by exact hvv), (by exact hTB.agr (hf3.agr (by decide) (by decide) (by decide))), (by exact hEX.agr (hf3.agr (by decide) (by decide) (by decide))), (by exact hUV.agr (hf3.agr (by decide) (by decide) (by decide))), (by exact hRW.agr (hf3.agr (by decide) (by decide) (by decide)) hFU), (by omega), (by exact hvr), (by exact hT3), (by exact hV3), (by exact hcl3), (by omega), (by omega), fun r10 G9 hMG9 hpG9 => ?_⟩
          obtain ⟨hfG9, hpG9⟩ := hpG9
          have hFG9 : Fr nX12_faceOf jX12_faceOf G G9 := Fr.call hFG5 hfG9 (by decide) (by decide)
          show WP kX12_faceOf X 102 [some (2, ((1000 : Nat) : Int)), some (0, n), some (0, k6)] [(0, r10)] G9
          have k1n : (gS G9 a_nKind (n).toNat) = (gS G5 a_nKind (n).toNat) := (hfG9.atA (by decide) (by decide))
          have k2n : (gS G9 a_nFirst (n).toNat) = (gS G a_nFirst (n).toNat) := (hfG9.atA (by decide) (by decide)).trans e2n
          have k3n : (gS G9 a_nSecond (n).toNat) = (gS G a_nSecond (n).toNat) := (hfG9.atA (by decide) (by decide)).trans e3n
          have k4n : (gS G9 a_nThird (n).toNat) = (gS G a_nThird (n).toNat) := (hfG9.atA (by decide) (by decide)).trans e4n
          have hEf := hE3.trans hpG9.1 (Int.le_refl _) (Int.le_refl _)
          have hsf : SlotFa n G5 G9 := hpG9.2.1.fa
          exact s_iret hR dX12_faceOf_102 rfl (hQ _ G9 hMG9 (⟨hFG9, ⟨hEf.weak (by omega) (by omega), (hsl3.fa).trans hsf, (fun j hj => (hfG9.atA (by decide) (by decide)).trans (hio3 j hj)), by rw [hfG9.atA (n := a_ident) (by decide) (by decide)]; exact hpG9.1.2.2.2.1.idN hid3, hpG9.2.2.1.mono (fun _ z => z.elim), hpG9.2.2.2.1.mono (fun _ z => z.elim), fun q9 => ⟨DN.u (by omega) (fun j j0 j1 q => by rw [verC.fr hfG9 (by decide) (by decide) (by decide), hfG9.atA (n := a_valueType) (by decide) (by decide)]; exact hpG9.2.2.2.2 q9 j j0 j1 q), hall⟩⟩⟩))
        by_cases c8_1 : (gS G a_nKind ((n).toNat)) = 1
        · -- case 1
          refine s_tableIn (tgt := 103) (off := 44) dX12_faceOf_59 (by omega) (by omega) (by rw [c8_1]; rfl) (by decide) ?_
          have hA0 := hA3 (by omega)
          have hB0 := hB3 (by omega)
          refine s_aload_n dX12_faceOf_103 rfl (Int.natCast_nonneg _) ?_
          refine s_aload_n dX12_faceOf_104 rfl (Int.natCast_nonneg _) ?_
          refine gf_nFirst rfl dX12_faceOf_105 hMG5 ?_
          refine s_iload_n dX12_faceOf_108 rfl ?_
          refine s_iald dX12_faceOf_109 (mg_a_nFirst hMG5) (by omega) (by omega) (Eq.trans (gsnE eG5 (by decide)) (Eq.trans (Fr.atA hfG3 (by decide) (by decide)) (Fr.atA hfG1 (by decide) (by decide)))) ?_
          refine s_aload_n dX12_faceOf_110 rfl (Int.natCast_nonneg _) ?_
          refine gf_nSecond rfl dX12_faceOf_111 hMG5 ?_
          refine s_iload_n dX12_faceOf_114 rfl ?_
          refine s_iald dX12_faceOf_115 (mg_a_nSecond hMG5) (by omega) (by omega) (Eq.trans (gsnE eG5 (by decide)) (Eq.trans (Fr.atA hfG3 (by decide) (by decide)) (Fr.atA hfG1 (by decide) (by decide)))) ?_
          refine s_iload_n dX12_faceOf_116 rfl ?_
          refine cv_X12_431 rfl gX12_links dX12_faceOf_117 hMG5 (by rw [hcf]; decide) (as := [(0, gS G a_nFirst ((n).toNat)), (0, gS G a_nSecond ((n).toNat)), (0, n)]) rfl (Nat.le_of_ble_eq_true rfl) ⟨gS G a_nFirst ((n).toNat), gS G a_nSecond ((n).toNat), n, Hs, vv, (stN G5 vv n), rfl, hMG5, (by exact hE3.1), (by exact hE3.2.2.1), (by exact hvv), (by omega), (by omega), (by omega), (by omega), (by omega), (by exact hA0.2.1.mono (fun t z => stN.l1 (by omega) (by rw [e2n]; exact z))), (by exact hB0.2.1.mono (fun t z => stN.l2 (by omega) (by rw [e3n]; exact z))), (by exact hT3.mono (fun _ z => z.elim)), (by exact hA0.2.2.mono (fun t z => stN.l1 (by omega) (by rw [e2n]; exact z))), (by exact hB0.2.2.mono (fun t z => stN.l2 (by omega) (by rw [e3n]; exact z))), (by exact hV3.mono (fun _ z => z.elim)), (by exact hcl3), (by omega), (by omega), fun r12 G11 hMG11 hpG11 => ?_⟩
          obtain ⟨hfG11, hpG11⟩ := hpG11
          have hFG11 : Fr nX12_faceOf jX12_faceOf G G11 := Fr.call hFG5 hfG11 (by decide) (by decide)
          show WP kX12_faceOf X 120 [some (2, ((1000 : Nat) : Int)), some (0, n), some (0, k6)] [(0, r12)] G11
          have k1n : (gS G11 a_nKind (n).toNat) = (gS G5 a_nKind (n).toNat) := (hfG11.atA (by decide) (by decide))
          have k2n : (gS G11 a_nFirst (n).toNat) = (gS G a_nFirst (n).toNat) := (hfG11.atA (by decide) (by decide)).trans e2n
          have k3n : (gS G11 a_nSecond (n).toNat) = (gS G a_nSecond (n).toNat) := (hfG11.atA (by decide) (by decide)).trans e3n
          have k4n : (gS G11 a_nThird (n).toNat) = (gS G a_nThird (n).toNat) := (hfG11.atA (by decide) (by decide)).trans e4n
          have hEf := hE3.trans hpG11.1 (Int.le_refl _) (Int.le_refl _)
          have hsf : SlotFa n G5 G11 := hpG11.2.1.fa
          exact s_iret hR dX12_faceOf_120 rfl (hQ _ G11 hMG11 (⟨hFG11, ⟨hEf.weak (by omega) (by omega), (hsl3.fa).trans hsf, (fun j hj => (hfG11.atA (by decide) (by decide)).trans (hio3 j hj)), by rw [hfG11.atA (n := a_ident) (by decide) (by decide)]; exact hpG11.1.2.2.2.1.idN hid3, hpG11.2.2.1.mono (fun t z => hpG11.1.2.2.2.1.stN z), hpG11.2.2.2.1.mono (fun t z => hpG11.1.2.2.2.1.stN z), fun q9 => ⟨DN.l (by omega) (fun j j0 j1 q => by rw [k2n, k3n, (hsf.rv (b := (gS G a_nFirst (n).toNat)) ⟨by omega, by omega⟩ (by omega) j j0 j1).1, (hsf.rv (b := (gS G a_nSecond (n).toNat)) ⟨by omega, by omega⟩ (by omega) j j0 j1).1]; exact hpG11.2.2.2.2 j j0 j1 q), hall⟩⟩⟩))
        by_cases c8_2 : (gS G a_nKind ((n).toNat)) = 2
        · -- case 2
          refine s_tableIn (tgt := 121) (off := 62) dX12_faceOf_59 (by omega) (by omega) (by rw [c8_2]; rfl) (by decide) ?_
          have hA0 := hA3 (by omega)
          have hB0 := hB3 (by omega)
          refine s_aload_n dX12_faceOf_121 rfl (Int.natCast_nonneg _) ?_
          refine s_iload_n dX12_faceOf_122 rfl ?_
          refine s_aload_n dX12_faceOf_123 rfl (Int.natCast_nonneg _) ?_
          refine gf_nFirst rfl dX12_faceOf_124 hMG5 ?_
          refine s_iload_n dX12_faceOf_127 rfl ?_
          refine s_iald dX12_faceOf_128 (mg_a_nFirst hMG5) (by omega) (by omega) (Eq.trans (gsnE eG5 (by decide)) (Eq.trans (Fr.atA hfG3 (by decide) (by decide)) (Fr.atA hfG1 (by decide) (by decide)))) ?_
          refine s_aload_n dX12_faceOf_129 rfl (Int.natCast_nonneg _) ?_
          refine gf_nSecond rfl dX12_faceOf_130 hMG5 ?_
          refine s_iload_n dX12_faceOf_133 rfl ?_
          refine s_iald dX12_faceOf_134 (mg_a_nSecond hMG5) (by omega) (by omega) (Eq.trans (gsnE eG5 (by decide)) (Eq.trans (Fr.atA hfG3 (by decide) (by decide)) (Fr.atA hfG1 (by decide) (by decide)))) ?_
          refine s_iload_n dX12_faceOf_135 rfl ?_
          refine cv_X12_455 rfl gX12_seals dX12_faceOf_136 hMG5 (by rw [hcf]; decide) (as := [(0, n), (0, gS G a_nFirst ((n).toNat)), (0, gS G a_nSecond ((n).toNat)), (0, n)]) rfl (Nat.le_of_ble_eq_true rfl) ⟨n, gS G a_nFirst ((n).toNat), gS G a_nSecond ((n).toNat), n, Hs, vv, rfl, hMG5, (by exact hE3.1), (by exact hE3.2.2.1), (by exact hvv), (by exact hnn3), (by rfl), (by omega), (by exact e2n.symm), (by exact e3n.symm), (by omega), (by exact ⟨hia3 (by omega), hib3 (by omega)⟩), (by exact hA0.2.1.mono (fun _ _ => trivial)), (by exact hB0.2.1), (by exact hB0.2.2), (by exact hT3), (by exact hV3), (by exact hcl3), (by omega), (by omega), fun r14 G13 hMG13 hpG13 => ?_⟩
          obtain ⟨hfG13, hpG13⟩ := hpG13
          have hFG13 : Fr nX12_faceOf jX12_faceOf G G13 := Fr.call hFG5 hfG13 (by decide) (by decide)
          show WP kX12_faceOf X 139 [some (2, ((1000 : Nat) : Int)), some (0, n), some (0, k6)] [(0, r14)] G13
          have k1n : (gS G13 a_nKind (n).toNat) = (gS G5 a_nKind (n).toNat) := (hfG13.atA (by decide) (by decide))
          have k2n : (gS G13 a_nFirst (n).toNat) = (gS G a_nFirst (n).toNat) := (hfG13.atA (by decide) (by decide)).trans e2n
          have k3n : (gS G13 a_nSecond (n).toNat) = (gS G a_nSecond (n).toNat) := (hfG13.atA (by decide) (by decide)).trans e3n
          have k4n : (gS G13 a_nThird (n).toNat) = (gS G a_nThird (n).toNat) := (hfG13.atA (by decide) (by decide)).trans e4n
          have hEf := hE3.trans hpG13.1 (Int.le_refl _) (Int.le_refl _)
          have hsf : SlotFa n G5 G13 := hpG13.2.1.fa
          exact s_iret hR dX12_faceOf_139 rfl (hQ _ G13 hMG13 (⟨hFG13, ⟨hEf.weak (by omega) (by omega), (hsl3.fa).trans hsf, (fun j hj => (hfG13.atA (by decide) (by decide)).trans (hio3 j hj)), by rw [hfG13.atA (n := a_ident) (by decide) (by decide)]; exact hpG13.1.2.2.2.1.idN hid3, hpG13.2.2.1, hpG13.2.2.2.1, fun q9 => ⟨DN.s (by omega) (fun j j0 j1 q => by rw [k2n, k3n, (hsf.rv (b := (gS G a_nFirst (n).toNat)) ⟨by omega, by omega⟩ (by omega) j j0 j1).1, (hsf.rv (b := (gS G a_nSecond (n).toNat)) ⟨by omega, by omega⟩ (by omega) j j0 j1).1]; exact hpG13.2.2.2.2 q9 j j0 j1 q), hall⟩⟩⟩))
        by_cases c8_3 : (gS G a_nKind ((n).toNat)) = 3
        · -- case 3
          refine s_tableIn (tgt := 140) (off := 81) dX12_faceOf_59 (by omega) (by omega) (by rw [c8_3]; rfl) (by decide) ?_
          have hA0 := hA3 (by omega)
          have hB0 := hB3 (by omega)
          refine s_aload_n dX12_faceOf_140 rfl (Int.natCast_nonneg _) ?_
          refine s_iload_n dX12_faceOf_141 rfl ?_
          refine s_aload_n dX12_faceOf_142 rfl (Int.natCast_nonneg _) ?_
          refine gf_nFirst rfl dX12_faceOf_143 hMG5 ?_
          refine s_iload_n dX12_faceOf_146 rfl ?_
          refine s_iald dX12_faceOf_147 (mg_a_nFirst hMG5) (by omega) (by omega) (Eq.trans (gsnE eG5 (by decide)) (Eq.trans (Fr.atA hfG3 (by decide) (by decide)) (Fr.atA hfG1 (by decide) (by decide)))) ?_
          refine s_aload_n dX12_faceOf_148 rfl (Int.natCast_nonneg _) ?_
          refine gf_nSecond rfl dX12_faceOf_149 hMG5 ?_
          refine s_iload_n dX12_faceOf_152 rfl ?_
          refine s_iald dX12_faceOf_153 (mg_a_nSecond hMG5) (by omega) (by omega) (Eq.trans (gsnE eG5 (by decide)) (Eq.trans (Fr.atA hfG3 (by decide) (by decide)) (Fr.atA hfG1 (by decide) (by decide)))) ?_
          refine s_iload_n dX12_faceOf_154 rfl ?_
          refine cv_X12_458 rfl gX12_applies dX12_faceOf_155 hMG5 (by rw [hcf]; decide) (as := [(0, n), (0, gS G a_nFirst ((n).toNat)), (0, gS G a_nSecond ((n).toNat)), (0, n)]) rfl (Nat.le_of_ble_eq_true rfl) ⟨n, gS G a_nFirst ((n).toNat), gS G a_nSecond ((n).toNat), n, Hs, vv, rfl, hMG5, (by exact hE3.1), (by exact hE3.2.2.1), (by exact hvv), (by exact hnn3), (by rfl), (by omega), (by exact e2n.symm), (by exact e3n.symm), (by omega), (by exact hib3 (by omega)), (by exact hA0.2.1), (by exact hA0.2.2), (by exact hB0.2.1), (by exact hB0.2.2), (by exact hT3), (by exact hV3), (by exact hcl3), (by omega), (by omega), fun r16 G15 hMG15 hpG15 => ?_⟩
          obtain ⟨hfG15, hpG15⟩ := hpG15
          have hFG15 : Fr nX12_faceOf jX12_faceOf G G15 := Fr.call hFG5 hfG15 (by decide) (by decide)
          show WP kX12_faceOf X 158 [some (2, ((1000 : Nat) : Int)), some (0, n), some (0, k6)] [(0, r16)] G15
          have k1n : (gS G15 a_nKind (n).toNat) = (gS G5 a_nKind (n).toNat) := (hfG15.atA (by decide) (by decide))
          have k2n : (gS G15 a_nFirst (n).toNat) = (gS G a_nFirst (n).toNat) := (hfG15.atA (by decide) (by decide)).trans e2n
          have k3n : (gS G15 a_nSecond (n).toNat) = (gS G a_nSecond (n).toNat) := (hfG15.atA (by decide) (by decide)).trans e3n
          have k4n : (gS G15 a_nThird (n).toNat) = (gS G a_nThird (n).toNat) := (hfG15.atA (by decide) (by decide)).trans e4n
          have hEf := hE3.trans hpG15.1 (Int.le_refl _) (Int.le_refl _)
          have hsf : SlotFa n G5 G15 := hpG15.2.1
          exact s_iret hR dX12_faceOf_158 rfl (hQ _ G15 hMG15 (⟨hFG15, ⟨hEf.weak (by omega) (by omega), (hsl3.fa).trans hsf, (fun j hj => (hfG15.atA (by decide) (by decide)).trans (hio3 j hj)), by rw [hfG15.atA (n := a_ident) (by decide) (by decide)]; exact hpG15.1.2.2.2.1.idN hid3, hpG15.2.2.1, hpG15.2.2.2.1, fun q9 => ⟨DN.a (by omega) (fun j j0 j1 q => by rw [k2n, (hsf.rv (b := (gS G a_nFirst (n).toNat)) ⟨by omega, by omega⟩ (by omega) j j0 j1).1]; exact hpG15.2.2.2.2 q9 j j0 j1 q), hall⟩⟩⟩))
        by_cases c8_4 : (gS G a_nKind ((n).toNat)) = 4
        · -- case 4
          refine s_tableIn (tgt := 159) (off := 100) dX12_faceOf_59 (by omega) (by omega) (by rw [c8_4]; rfl) (by decide) ?_
          have hA0 := hA3 (by omega)
          have hB0 := hB3 (by omega)
          have hC0 := hC3 (by omega)
          refine s_aload_n dX12_faceOf_159 rfl (Int.natCast_nonneg _) ?_
          refine s_iload_n dX12_faceOf_160 rfl ?_
          refine s_aload_n dX12_faceOf_161 rfl (Int.natCast_nonneg _) ?_
          refine gf_nFirst rfl dX12_faceOf_162 hMG5 ?_
          refine s_iload_n dX12_faceOf_165 rfl ?_
          refine s_iald dX12_faceOf_166 (mg_a_nFirst hMG5) (by omega) (by omega) (Eq.trans (gsnE eG5 (by decide)) (Eq.trans (Fr.atA hfG3 (by decide) (by decide)) (Fr.atA hfG1 (by decide) (by decide)))) ?_
          refine s_aload_n dX12_faceOf_167 rfl (Int.natCast_nonneg _) ?_
          refine gf_nSecond rfl dX12_faceOf_168 hMG5 ?_
          refine s_iload_n dX12_faceOf_171 rfl ?_
          refine s_iald dX12_faceOf_172 (mg_a_nSecond hMG5) (by omega) (by omega) (Eq.trans (gsnE eG5 (by decide)) (Eq.trans (Fr.atA hfG3 (by decide) (by decide)) (Fr.atA hfG1 (by decide) (by decide)))) ?_
          refine s_aload_n dX12_faceOf_173 rfl (Int.natCast_nonneg _) ?_
          refine gf_nThird rfl dX12_faceOf_174 hMG5 ?_
          refine s_iload_n dX12_faceOf_177 rfl ?_
          refine s_iald dX12_faceOf_178 (mg_a_nThird hMG5) (by omega) (by omega) (Eq.trans (gsnE eG5 (by decide)) (Eq.trans (Fr.atA hfG3 (by decide) (by decide)) (Fr.atA hfG1 (by decide) (by decide)))) ?_
          refine s_iload_n dX12_faceOf_179 rfl ?_
          refine cv_X12_461 rfl gX12_chooses dX12_faceOf_180 hMG5 (by rw [hcf]; decide) (as := [(0, n), (0, gS G a_nFirst ((n).toNat)), (0, gS G a_nSecond ((n).toNat)), (0, gS G a_nThird ((n).toNat)), (0, n)]) rfl (Nat.le_of_ble_eq_true rfl) ⟨n, gS G a_nFirst ((n).toNat), gS G a_nSecond ((n).toNat), gS G a_nThird ((n).toNat), n, Hs, vv, rfl, hMG5, (by exact hE3.1), (by exact hE3.2.2.1), (by exact hvv), (by exact hnn3), (by rfl), (by omega), (by exact e2n.symm), (by exact e3n.symm), (by omega), (by omega), (by exact hA0.2.1), (by exact hA0.2.2), (by exact hB0.2.2), (by exact hT3), (by exact hV3), (by exact hcl3), (by omega), (by omega), fun r18 G17 hMG17 hpG17 => ?_⟩
          obtain ⟨hfG17, hpG17⟩ := hpG17
          have hFG17 : Fr nX12_faceOf jX12_faceOf G G17 := Fr.call hFG5 hfG17 (by decide) (by decide)
          show WP kX12_faceOf X 183 [some (2, ((1000 : Nat) : Int)), some (0, n), some (0, k6)] [(0, r18)] G17
          have k1n : (gS G17 a_nKind (n).toNat) = (gS G5 a_nKind (n).toNat) := (hfG17.atA (by decide) (by decide))
          have k2n : (gS G17 a_nFirst (n).toNat) = (gS G a_nFirst (n).toNat) := (hfG17.atA (by decide) (by decide)).trans e2n
          have k3n : (gS G17 a_nSecond (n).toNat) = (gS G a_nSecond (n).toNat) := (hfG17.atA (by decide) (by decide)).trans e3n
          have k4n : (gS G17 a_nThird (n).toNat) = (gS G a_nThird (n).toNat) := (hfG17.atA (by decide) (by decide)).trans e4n
          have hEf := hE3.trans hpG17.1 (Int.le_refl _) (Int.le_refl _)
          have hsf : SlotFa n G5 G17 := hpG17.2.1.fa
          exact s_iret hR dX12_faceOf_183 rfl (hQ _ G17 hMG17 (⟨hFG17, ⟨hEf.weak (by omega) (by omega), (hsl3.fa).trans hsf, (fun j hj => (hfG17.atA (by decide) (by decide)).trans (hio3 j hj)), by rw [hfG17.atA (n := a_ident) (by decide) (by decide)]; exact hpG17.1.2.2.2.1.idN hid3, hpG17.2.2.1, hpG17.2.2.2.1, fun q9 => ⟨DN.c (by omega) (fun j j0 j1 q => by rw [k2n, k3n, (hsf.rv (b := (gS G a_nFirst (n).toNat)) ⟨by omega, by omega⟩ (by omega) j j0 j1).1, (hsf.rv (b := (gS G a_nSecond (n).toNat)) ⟨by omega, by omega⟩ (by omega) j j0 j1).1]; exact hpG17.2.2.2.2 q9 j j0 j1 q), hall⟩⟩⟩))
        refine s_tableOut (tgt := 184) dX12_faceOf_59 (by omega) (by decide) ?_
        have hA0 := hA3 (by omega)
        refine s_aload_n dX12_faceOf_184 rfl (Int.natCast_nonneg _) ?_
        refine s_iload_n dX12_faceOf_185 rfl ?_
        refine s_aload_n dX12_faceOf_186 rfl (Int.natCast_nonneg _) ?_
        refine gf_nFirst rfl dX12_faceOf_187 hMG5 ?_
        refine s_iload_n dX12_faceOf_190 rfl ?_
        refine s_iald dX12_faceOf_191 (mg_a_nFirst hMG5) (by omega) (by omega) (Eq.trans (gsnE eG5 (by decide)) (Eq.trans (Fr.atA hfG3 (by decide) (by decide)) (Fr.atA hfG1 (by decide) (by decide)))) ?_
        refine cv_X12_464 rfl gX12_renames dX12_faceOf_192 hMG5 (by rw [hcf]; decide) (as := [(0, n), (0, gS G a_nFirst ((n).toNat))]) rfl (Nat.le_of_ble_eq_true rfl) ⟨n, gS G a_nFirst ((n).toNat), Hs, vv, rfl, hMG5, (by exact hE3.1), (by exact hE3.2.2.1), (by omega), (by omega), (by exact e2n.symm), (by omega), (by omega), (by omega), (by exact hA0.2.1), (by exact hA0.2.2), (by exact hT3), (by exact hV3), fun r20 G19 hMG19 hpG19 => ?_⟩
        obtain ⟨hfG19, hpG19⟩ := hpG19
        have hFG19 : Fr nX12_faceOf jX12_faceOf G G19 := Fr.call hFG5 hfG19 (by decide) (by decide)
        show WP kX12_faceOf X 195 [some (2, ((1000 : Nat) : Int)), some (0, n), some (0, k6)] [(0, r20)] G19
        have k1n : (gS G19 a_nKind (n).toNat) = (gS G5 a_nKind (n).toNat) := (hfG19.atA (by decide) (by decide))
        have k2n : (gS G19 a_nFirst (n).toNat) = (gS G a_nFirst (n).toNat) := (hfG19.atA (by decide) (by decide)).trans e2n
        have k3n : (gS G19 a_nSecond (n).toNat) = (gS G5 a_nSecond (n).toNat) := (hfG19.atA (by decide) (by decide))
        have k4n : (gS G19 a_nThird (n).toNat) = (gS G5 a_nThird (n).toNat) := (hfG19.atA (by decide) (by decide))
        have hEf := hE3.trans hpG19.1 (Int.le_refl _) (Int.le_refl _)
        have hsf : SlotFa n G5 G19 := hpG19.2.1.fa
        exact s_iret hR dX12_faceOf_195 rfl (hQ _ G19 hMG19 (⟨hFG19, ⟨hEf.weak (by omega) (by omega), (hsl3.fa).trans hsf, (fun j hj => (hfG19.atA (by decide) (by decide)).trans (hio3 j hj)), by rw [hfG19.atA (n := a_ident) (by decide) (by decide)]; exact hpG19.1.2.2.2.1.idN hid3, hpG19.2.2.1, hpG19.2.2.2.1, fun q9 => ⟨DN.r (by omega) (fun j j0 j1 q => by rw [k1n, k2n, k3n, k4n, (hsf.rv (b := (gS G a_nFirst (n).toNat)) ⟨by omega, by omega⟩ (by omega) j j0 j1).1, (hsf.rv (b := (gS G a_nFirst (n).toNat)) ⟨by omega, by omega⟩ (by omega) _ (by omega) (by omega)).1]; exact hpG19.2.2.2.2 q9 j j0 j1 q), hall⟩⟩⟩))
      · -- 24 to 27
        refine s_aload_n dX12_faceOf_27 rfl (Int.natCast_nonneg _) ?_
        refine gf_error rfl dX12_faceOf_28 hMG5 ?_
        refine s_aload_n dX12_faceOf_31 rfl (Int.natCast_nonneg _) ?_
        refine s_iload_n dX12_faceOf_32 rfl ?_
        refine s_iload_n dX12_faceOf_33 rfl ?_
        refine cv_X12_449 rfl gX12_partOf dX12_faceOf_34 hMG5 (by rw [hcf]; decide) (as := [(0, n), (0, k6)]) rfl (Nat.le_of_ble_eq_true rfl) ⟨n, k6, rfl, hMG5, (by first | assumption | omega), ?_⟩
        show WP kX12_faceOf X 37 [some (2, ((1000 : Nat) : Int)), some (0, n), some (0, k6)] [(0, (if k6 = 0 then (gS G5 a_nFirst (n).toNat) else if k6 = 1 then (gS G5 a_nSecond (n).toNat) else (gS G5 a_nThird (n).toNat))), (2, ((a_error : Nat) : Int))] G5
        have hkm6 : k6 < nMany G5 n := by unfold nMany; omega
        rw [nMany.fr hf3 (by decide)] at hkm6
        have hpt6 := hND.part hn.1 hn.2 (by omega) hkm6
        rw [← nPart.fr hf3 (by decide) (by decide) (by decide)] at hpt6
        have hpe6 : (gS G5 a_error (nPart G5 n k6).toNat) = (gS G a_error (nPart G n k6).toNat) := by rw [nPart.fr hf3 (by decide) (by decide) (by decide)]; exact hf3.atA (by decide) (by decide)
        unfold nPart at hpt6
        refine s_iald dX12_faceOf_37 (mg_a_error hMG5) (by omega) (by omega) (Eq.trans (gsnE eG5 (by decide)) (Eq.trans (Fr.atA hfG3 (by decide) (by decide)) (Fr.atA hfG1 (by decide) (by decide)))) ?_
        refine s_if_eq (tgt := 47) dX12_faceOf_38 (by decide) (fun c21 => ?_) (fun c21 => ?_)
        · -- 38 to 47
          refine s_iinc dX12_faceOf_47 (v := k6) rfl (by omega) (by decide) (lv' := [some (2, ((1000 : Nat) : Int)), some (0, n), some (0, k6 + 1)]) rfl ?_
          refine s_goto (tgt := 18) dX12_faceOf_50 (by decide) ?_
          exact ih6 (k6 + 1) (⟨(by omega), (by intro j j0 j1; by_cases hj : j = k6; (subst hj; have z9 : (gS G a_error (nPart G5 n j).toNat) = 0 := c21; rw [nPart.fr hf3 (by decide) (by decide) (by decide)] at z9; exact z9); (exact ie6 j j0 (by omega)))⟩) (by omega)
        · -- 38 to 41
          refine s_sipush dX12_faceOf_41 rfl (by decide) ?_
          refine s_iload_n dX12_faceOf_44 rfl ?_
          refine s_iadd dX12_faceOf_45 (by omega) ?_
          exact s_iret hR dX12_faceOf_46 rfl (hQ _ G5 hMG5 (⟨hFG5, ⟨hE3.weak (by omega) (by omega), hsl3.fa, hio3, hid3, hT3.mono (fun _ z => z.elim), hV3.mono (fun _ z => z.elim), fun q => by omega⟩⟩))
  exact L6 _ 0 (⟨(by omega), (by intro j j0 j1; omega)⟩) (Nat.lt_succ_self _)
