abbrev nX12_tellsMade : List Nat := [a_build, a_todo]
abbrev jX12_tellsMade : List Nat := [102]
def TX12_tellsMade : TR := fun as G Qr => ∃ (t : Int), as = [(2, ((1000 : Nat) : Int)), (0, t)] ∧ MG G ∧ (TB G) ∧ (0 ≤ t ∧ t < (gS G 1000 0)) ∧ (0 ≤ (gS G 1000 102) ∧ (gS G 1000 102) + 24 ≤ 11000) ∧ ∀ G' : LG, MG G' → (Fr nX12_tellsMade jX12_tellsMade G G' ∧ ((gS G 1000 102) ≤ (gS G' 1000 102) ∧ (gS G' 1000 102) ≤ (gS G 1000 102) + 24)) → Qr (.inl none) G'
set_option maxHeartbeats 4000000 in
set_option maxRecDepth 100000 in
theorem gX12_tellsMade : Good kX12_tellsMade yX12_tellsMade 1 TX12_tellsMade := by
  refine good_of (by decide) rfl rfl (fun as G Qr h => ?_) (fun X as G Qr hcf hR hT oa => ?_)
  · obtain ⟨t, rfl, -⟩ := h; exact Nat.le_of_ble_eq_true rfl
  obtain ⟨t, rfl, hM, hTB, ht, hb, hQ⟩ := hT
  show WP kX12_tellsMade X 0 [some (2, ((1000 : Nat) : Int)), some (0, t), none, none] [] G
  have hr_t : inR t := okv_R (oa _ (by simp))
  have hw0 := hTB.w ht.1 ht.2
  have hty := hTB.1
  refine s_iconst dX12_tellsMade_0 (by decide) ?_
  refine s_istore_n dX12_tellsMade_1 (by decide) (lv' := [some (2, ((1000 : Nat) : Int)), some (0, t), some (0, 1), none]) rfl ?_
  refine s_aload_n dX12_tellsMade_2 rfl (Int.natCast_nonneg _) ?_
  refine gf_todo rfl dX12_tellsMade_3 hM ?_
  refine s_iconst dX12_tellsMade_6 (by decide) ?_
  refine s_iload_n dX12_tellsMade_7 rfl ?_
  refine r_iast dX12_tellsMade_8 hM (mg_a_todo hM) (by decide) (by omega) (by omega) (fun G1 eG1 hMG1 => ?_)
  have hFG1 : Fr nX12_tellsMade jX12_tellsMade G G1 := Fr.setA Fr.rf eG1 (by decide)
  show WP kX12_tellsMade X 9 [some (2, ((1000 : Nat) : Int)), some (0, t), some (0, 1), none] [] G1
  have L2 : ∀ (n2 : Nat) (y2 : Int) (z2 : Int) (G2 : LG), MG G2 → Fr nX12_tellsMade jX12_tellsMade G G2 → ((Fr [a_build, a_todo] [102] G G2) ∧ (z2 ≤ 12) ∧ ((gS G 1000 102) ≤ (gS G2 1000 102) ∧ (gS G2 1000 102) + 2 * z2 ≤ (gS G 1000 102) + 24) ∧ (Stk G2 G a_todo a_tWeight ((gS G 1000 0)) y2 z2)) → (z2).toNat < n2 → WP kX12_tellsMade X 9 [some (2, ((1000 : Nat) : Int)), some (0, t), some (0, y2), none] [] G2 := by
    intro n2
    induction n2 with
    | zero => intro y2 z2 G2 hMG2 hFG2 hi2 hm2; exact absurd hm2 (Nat.not_lt_zero _)
    | succ n2 ih2 =>
      intro y2 z2 G2 hMG2 hFG2 hi2 hm2
      have hj2 := hi2
      obtain ⟨ir2, il2, ib2, iz2⟩ := hi2
      have hlb2 := iz2.le (fun x x0 x1 => (hTB.w x0 x1).1)
      refine s_iload_n dX12_tellsMade_9 rfl ?_
      refine s_if_le (tgt := 99) dX12_tellsMade_10 (by decide) (fun c3 => ?_) (fun c3 => ?_)
      · -- 10 to 99
        exact s_vret hR dX12_tellsMade_99 rfl (hQ G2 hMG2 (⟨hFG2, ⟨ib2.1, by omega⟩⟩))
      · -- 10 to 13
        refine s_iinc dX12_tellsMade_13 (v := y2) rfl (by omega) (by decide) (lv' := [some (2, ((1000 : Nat) : Int)), some (0, t), some (0, y2 + (-1)), none]) rfl ?_
        refine s_aload_n dX12_tellsMade_16 rfl (Int.natCast_nonneg _) ?_
        refine gf_todo rfl dX12_tellsMade_17 hMG2 ?_
        refine s_iload_n dX12_tellsMade_20 rfl ?_
        refine s_iald dX12_tellsMade_21 (mg_a_todo hMG2) (by omega) (by omega) rfl ?_
        refine s_istore_n dX12_tellsMade_22 (by decide) (lv' := [some (2, ((1000 : Nat) : Int)), some (0, t), some (0, y2 + (-1)), some (0, gS G2 a_todo ((y2 + (-1)).toNat))]) rfl ?_
        have hpp2 := iz2.pop (G' := G2) (by omega) (fun j => rfl)
        rw [show y2 - 1 = y2 + -1 by omega] at hpp2
        have hx2 := hpp2.1
        have hpq2 := hpp2.2
        clear hpp2
        have hle2 := hpq2.le (fun x x0 x1 => (hTB.w x0 x1).1)
        generalize hqq2 : gS G2 a_todo ((y2 + (-1)).toNat) = q2 at *
        have hent2 := hTB.2 _ hx2.1 hx2.2
        have hk92 := hent2.1
        have hw92 := hent2.2.2.2
        have hp92 := hent2.2.2.1
        clear hent2
        have htt2 : (gS G2 1000 0) = (gS G 1000 0) := ir2.atF (by decide) (by decide)
        have hkk2 : (gS G2 a_tKind (q2).toNat) = (gS G a_tKind (q2).toNat) := hFG2.atA (by decide) (by decide)
        refine s_aload_n dX12_tellsMade_23 rfl (Int.natCast_nonneg _) ?_
        refine s_aload_n dX12_tellsMade_24 rfl (Int.natCast_nonneg _) ?_
        refine gf_tKind rfl dX12_tellsMade_25 hMG2 ?_
        refine s_iload_n dX12_tellsMade_28 rfl ?_
        refine s_iald dX12_tellsMade_29 (mg_a_tKind hMG2) (by omega) (by omega) rfl ?_
        refine cv_X12_610 rfl gX12_tellsOf dX12_tellsMade_30 hMG2 (by rw [hcf]; decide) (as := [(0, gS G2 a_tKind ((q2).toNat))]) rfl (Nat.le_of_ble_eq_true rfl) ⟨gS G2 a_tKind ((q2).toNat), rfl, hMG2, (by first | assumption | omega), fun G4 hMG4 hpG4 => ?_⟩
        obtain ⟨G6, eG6, eG4, hpG4⟩ := hpG4
        have hFG6 : Fr nX12_tellsMade jX12_tellsMade G G6 := Fr.setA hFG2 eG6 (by decide)
        have hFG4 : Fr nX12_tellsMade jX12_tellsMade G G4 := Fr.setF hFG6 eG4 (by decide)
        show WP kX12_tellsMade X 33 [some (2, ((1000 : Nat) : Int)), some (0, t), some (0, y2 + (-1)), some (0, q2)] [] G4
        have hbwG4 : gS G4 1000 102 = (gS G2 1000 102) + 1 := (gsaE eG4)
        refine s_aload_n dX12_tellsMade_33 rfl (Int.natCast_nonneg _) ?_
        refine s_aload_n dX12_tellsMade_34 rfl (Int.natCast_nonneg _) ?_
        refine gf_tKind rfl dX12_tellsMade_35 hMG4 ?_
        refine s_iload_n dX12_tellsMade_38 rfl ?_
        refine s_iald dX12_tellsMade_39 (mg_a_tKind hMG4) (by omega) (by omega) (Eq.trans (gsnE eG4 (by decide)) (gsnE eG6 (by decide))) ?_
        refine s_iconst dX12_tellsMade_40 (by decide) ?_
        have J8 : ∀ z7 : Int, ((¬ (gS G2 a_tKind ((q2).toNat)) = 2) ∧ z7 = 0) ∨ (((gS G2 a_tKind ((q2).toNat)) = 2) ∧ z7 = gS G2 a_tFirst ((q2).toNat)) → WP kX12_tellsMade X 54 [some (2, ((1000 : Nat) : Int)), some (0, t), some (0, y2 + (-1)), some (0, q2)] [(0, z7), (2, ((1000 : Nat) : Int))] G4 := by
          intro z7 hz7
          refine cv_X12_610 rfl gX12_tellsOf dX12_tellsMade_54 hMG4 (by rw [hcf]; decide) (as := [(0, z7)]) rfl (Nat.le_of_ble_eq_true rfl) ⟨z7, rfl, hMG4, (by first | assumption | omega), fun G9 hMG9 hpG9 => ?_⟩
          obtain ⟨G11, eG11, eG9, hpG9⟩ := hpG9
          have hFG11 : Fr nX12_tellsMade jX12_tellsMade G G11 := Fr.setA hFG4 eG11 (by decide)
          have hFG9 : Fr nX12_tellsMade jX12_tellsMade G G9 := Fr.setF hFG11 eG9 (by decide)
          show WP kX12_tellsMade X 57 [some (2, ((1000 : Nat) : Int)), some (0, t), some (0, y2 + (-1)), some (0, q2)] [] G9
          have hbwG9 : gS G9 1000 102 = (gS G4 1000 102) + 1 := (gsaE eG9)
          refine s_aload_n dX12_tellsMade_57 rfl (Int.natCast_nonneg _) ?_
          refine gf_tKind rfl dX12_tellsMade_58 hMG9 ?_
          refine s_iload_n dX12_tellsMade_61 rfl ?_
          refine s_iald dX12_tellsMade_62 (mg_a_tKind hMG9) (by omega) (by omega) (Eq.trans (gsnE eG9 (by decide)) (Eq.trans (gsnE eG11 (by decide)) (Eq.trans (gsnE eG4 (by decide)) (gsnE eG6 (by decide))))) ?_
          refine s_iconst dX12_tellsMade_63 (by decide) ?_
          refine s_icmp_ne (tgt := 96) dX12_tellsMade_64 (by decide) (fun c12 => ?_) (fun c12 => ?_)
          · -- 64 to 96
            refine s_goto (tgt := 9) dX12_tellsMade_96 (by decide) ?_
            refine s_mask [true, true, true, false] (lv' := [some (2, ((1000 : Nat) : Int)), some (0, t), some (0, y2 + (-1)), none]) rfl ?_
            exact ih2 (y2 + (-1)) (z2 - (gS G a_tWeight (q2).toNat)) G9 hMG9 hFG9 (⟨(by exact Fr.call ir2 (Fr.setF (Fr.setA (Fr.setF (Fr.setA (Fr.rf) eG6 (by decide)) eG4 (by decide)) eG11 (by decide)) eG9 (by decide) : Fr [a_build] [102] G2 G9) (by decide) (by decide)), (by omega), (by rw [(gsaE eG9)]; omega), (by exact hpq2.same (G' := G9) (fun j => (Fr.setF (Fr.setA (Fr.setF (Fr.setA (Fr.rf) eG6 (by decide)) eG4 (by decide)) eG11 (by decide)) eG9 (by decide) : Fr [a_build] [102] G2 G9).atA (by decide) (by decide)))⟩) (by omega)
          · -- 64 to 67
            refine s_aload_n dX12_tellsMade_67 rfl (Int.natCast_nonneg _) ?_
            refine gf_todo rfl dX12_tellsMade_68 hMG9 ?_
            refine s_iload_n dX12_tellsMade_71 rfl ?_
            refine s_aload_n dX12_tellsMade_72 rfl (Int.natCast_nonneg _) ?_
            refine gf_tSecond rfl dX12_tellsMade_73 hMG9 ?_
            refine s_iload_n dX12_tellsMade_76 rfl ?_
            refine s_iald dX12_tellsMade_77 (mg_a_tSecond hMG9) (by omega) (by omega) (Eq.trans (gsnE eG9 (by decide)) (Eq.trans (gsnE eG11 (by decide)) (Eq.trans (gsnE eG4 (by decide)) (gsnE eG6 (by decide))))) ?_
            rw [show gS G2 a_tSecond ((q2).toNat) = (gS G a_tSecond (q2).toNat) from hFG2.atA (by decide) (by decide)]
            refine r_iast dX12_tellsMade_78 hMG9 (mg_a_todo hMG9) (by decide) (by omega) (by omega) (fun G13 eG13 hMG13 => ?_)
            have hFG13 : Fr nX12_tellsMade jX12_tellsMade G G13 := Fr.setA hFG9 eG13 (by decide)
            show WP kX12_tellsMade X 79 [some (2, ((1000 : Nat) : Int)), some (0, t), some (0, y2 + (-1)), some (0, q2)] [] G13
            refine s_aload_n dX12_tellsMade_79 rfl (Int.natCast_nonneg _) ?_
            refine gf_todo rfl dX12_tellsMade_80 hMG13 ?_
            refine s_iload_n dX12_tellsMade_83 rfl ?_
            refine s_iconst dX12_tellsMade_84 (by decide) ?_
            refine s_iadd dX12_tellsMade_85 (by omega) ?_
            refine s_aload_n dX12_tellsMade_86 rfl (Int.natCast_nonneg _) ?_
            refine gf_tFirst rfl dX12_tellsMade_87 hMG13 ?_
            refine s_iload_n dX12_tellsMade_90 rfl ?_
            refine s_iald dX12_tellsMade_91 (mg_a_tFirst hMG13) (by omega) (by omega) (Eq.trans (gsnE eG13 (by decide)) (Eq.trans (gsnE eG9 (by decide)) (Eq.trans (gsnE eG11 (by decide)) (Eq.trans (gsnE eG4 (by decide)) (gsnE eG6 (by decide)))))) ?_
            rw [show gS G2 a_tFirst ((q2).toNat) = (gS G a_tFirst (q2).toNat) from hFG2.atA (by decide) (by decide)]
            refine r_iast dX12_tellsMade_92 hMG13 (mg_a_todo hMG13) (by decide) (by omega) (by omega) (fun G14 eG14 hMG14 => ?_)
            have hFG14 : Fr nX12_tellsMade jX12_tellsMade G G14 := Fr.setA hFG13 eG14 (by decide)
            show WP kX12_tellsMade X 93 [some (2, ((1000 : Nat) : Int)), some (0, t), some (0, y2 + (-1)), some (0, q2)] [] G14
            refine s_iinc dX12_tellsMade_93 (v := y2 + (-1)) rfl (by omega) (by decide) (lv' := [some (2, ((1000 : Nat) : Int)), some (0, t), some (0, (y2 + (-1)) + 2), some (0, q2)]) rfl ?_
            refine s_goto (tgt := 9) dX12_tellsMade_96 (by decide) ?_
            refine s_mask [true, true, true, false] (lv' := [some (2, ((1000 : Nat) : Int)), some (0, t), some (0, (y2 + (-1)) + 2), none]) rfl ?_
            exact ih2 ((y2 + (-1)) + 2) (z2 - (gS G a_tWeight (q2).toNat) + (gS G a_tWeight ((gS G a_tFirst (q2).toNat)).toNat) + (gS G a_tWeight ((gS G a_tSecond (q2).toNat)).toNat)) G14 hMG14 hFG14 (⟨(by exact Fr.call ir2 (Fr.setA (Fr.setA (Fr.setF (Fr.setA (Fr.setF (Fr.setA (Fr.rf) eG6 (by decide)) eG4 (by decide)) eG11 (by decide)) eG9 (by decide)) eG13 (by decide)) eG14 (by decide) : Fr [a_build, a_todo] [102] G2 G14) (by decide) (by decide)), (by omega), (by rw [(Eq.trans (gsnE eG14 (by decide)) (Eq.trans (gsnE eG13 (by decide)) (gsaE eG9)))]; omega), (by have p2 := hpq2.same (G' := G9) (fun j => (Fr.setF (Fr.setA (Fr.setF (Fr.setA (Fr.rf) eG6 (by decide)) eG4 (by decide)) eG11 (by decide)) eG9 (by decide) : Fr [a_build] [102] G2 G9).atA (by decide) (by decide)); have p3 := p2.push (G' := G13) (x := (gS G a_tSecond (q2).toNat)) ⟨by omega, by omega⟩ (fun j => by rw [g_upd eG13]); have p4 := p3.push (G' := G14) (x := (gS G a_tFirst (q2).toNat)) ⟨by omega, by omega⟩ (fun j => by rw [g_upd eG14]); rw [show y2 + -1 + 2 = y2 + -1 + 1 + 1 by omega, show z2 - (gS G a_tWeight (q2).toNat) + (gS G a_tWeight ((gS G a_tFirst (q2).toNat)).toNat) + (gS G a_tWeight ((gS G a_tSecond (q2).toNat)).toNat) = z2 - (gS G a_tWeight (q2).toNat) + (gS G a_tWeight ((gS G a_tSecond (q2).toNat)).toNat) + (gS G a_tWeight ((gS G a_tFirst (q2).toNat)).toNat) by omega]; exact p4)⟩) (by omega)
        refine s_icmp_ne (tgt := 53) dX12_tellsMade_41 (by decide) (fun c15 => ?_) (fun c15 => ?_)
        · -- 41 to 53
          refine s_iconst dX12_tellsMade_53 (by decide) ?_
          exact J8 0 (Or.inl ⟨c15, rfl⟩)
        · -- 41 to 44
          refine s_aload_n dX12_tellsMade_44 rfl (Int.natCast_nonneg _) ?_
          refine gf_tFirst rfl dX12_tellsMade_45 hMG4 ?_
          refine s_iload_n dX12_tellsMade_48 rfl ?_
          refine s_iald dX12_tellsMade_49 (mg_a_tFirst hMG4) (by omega) (by omega) (Eq.trans (gsnE eG4 (by decide)) (gsnE eG6 (by decide))) ?_
          refine s_goto (tgt := 54) dX12_tellsMade_50 (by decide) ?_
          exact J8 _ (Or.inr (⟨c15, rfl⟩))
  exact L2 _ 1 ((gS G a_tWeight (t).toNat)) G1 hMG1 hFG1 (⟨(by exact Fr.call Fr.rf (Fr.setA (Fr.rf) eG1 (by decide) : Fr [a_todo] [] G G1) (by decide) (by decide)), (by omega), (by rw [(gsnE eG1 (by decide))]; omega), (by exact Stk.one ht ((gsaE eG1)))⟩) (Nat.lt_succ_self _)

abbrev nX12_tellsExpression : List Nat := [a_build, a_todo]
abbrev jX12_tellsExpression : List Nat := [102]
def TX12_tellsExpression : TR := fun as G Qr => ∃ (e : Int), as = [(2, ((1000 : Nat) : Int)), (0, e)] ∧ MG G ∧ (EX G) ∧ (0 ≤ e ∧ e < (gS G 1000 6)) ∧ (0 ≤ (gS G 1000 102) ∧ (gS G 1000 102) + 24 ≤ 11000) ∧ ∀ G' : LG, MG G' → (Fr nX12_tellsExpression jX12_tellsExpression G G' ∧ ((gS G 1000 102) ≤ (gS G' 1000 102) ∧ (gS G' 1000 102) ≤ (gS G 1000 102) + 24)) → Qr (.inl none) G'
set_option maxHeartbeats 4000000 in
set_option maxRecDepth 100000 in
theorem gX12_tellsExpression : Good kX12_tellsExpression yX12_tellsExpression 1 TX12_tellsExpression := by
  refine good_of (by decide) rfl rfl (fun as G Qr h => ?_) (fun X as G Qr hcf hR hT oa => ?_)
  · obtain ⟨e, rfl, -⟩ := h; exact Nat.le_of_ble_eq_true rfl
  obtain ⟨e, rfl, hM, hEX, he, hb, hQ⟩ := hT
  show WP kX12_tellsExpression X 0 [some (2, ((1000 : Nat) : Int)), some (0, e), none, none, none, none] [] G
  have hr_e : inR e := okv_R (oa _ (by simp))
  have hexx := hEX.1
  refine s_iconst dX12_tellsExpression_0 (by decide) ?_
  refine s_istore_n dX12_tellsExpression_1 (by decide) (lv' := [some (2, ((1000 : Nat) : Int)), some (0, e), some (0, 1), none, none, none]) rfl ?_
  refine s_aload_n dX12_tellsExpression_2 rfl (Int.natCast_nonneg _) ?_
  refine gf_todo rfl dX12_tellsExpression_3 hM ?_
  refine s_iconst dX12_tellsExpression_6 (by decide) ?_
  refine s_iload_n dX12_tellsExpression_7 rfl ?_
  refine r_iast dX12_tellsExpression_8 hM (mg_a_todo hM) (by decide) (by omega) (by omega) (fun G1 eG1 hMG1 => ?_)
  have hFG1 : Fr nX12_tellsExpression jX12_tellsExpression G G1 := Fr.setA Fr.rf eG1 (by decide)
  show WP kX12_tellsExpression X 9 [some (2, ((1000 : Nat) : Int)), some (0, e), some (0, 1), none, none, none] [] G1
  have L2 : ∀ (n2 : Nat) (y2 : Int) (z2 : Int) (G2 : LG), MG G2 → Fr nX12_tellsExpression jX12_tellsExpression G G2 → ((Fr [a_build, a_todo] [102] G G2) ∧ (z2 ≤ 12) ∧ ((gS G 1000 102) ≤ (gS G2 1000 102) ∧ (gS G2 1000 102) + 2 * z2 ≤ (gS G 1000 102) + 24) ∧ (StkE G2 G ((gS G 1000 6)) y2 z2)) → (z2).toNat < n2 → WP kX12_tellsExpression X 9 [some (2, ((1000 : Nat) : Int)), some (0, e), some (0, y2), none, none, none] [] G2 := by
    intro n2
    induction n2 with
    | zero => intro y2 z2 G2 hMG2 hFG2 hi2 hm2; exact absurd hm2 (Nat.not_lt_zero _)
    | succ n2 ih2 =>
      intro y2 z2 G2 hMG2 hFG2 hi2 hm2
      have hj2 := hi2
      obtain ⟨ir2, il2, ib2, iz2⟩ := hi2
      have hlb2 := iz2.le hEX
      refine s_iload_n dX12_tellsExpression_9 rfl ?_
      refine s_if_le (tgt := 127) dX12_tellsExpression_10 (by decide) (fun c3 => ?_) (fun c3 => ?_)
      · -- 10 to 127
        exact s_vret hR dX12_tellsExpression_127 rfl (hQ G2 hMG2 (⟨hFG2, ⟨ib2.1, by omega⟩⟩))
      · -- 10 to 13
        refine s_iinc dX12_tellsExpression_13 (v := y2) rfl (by omega) (by decide) (lv' := [some (2, ((1000 : Nat) : Int)), some (0, e), some (0, y2 + (-1)), none, none, none]) rfl ?_
        refine s_aload_n dX12_tellsExpression_16 rfl (Int.natCast_nonneg _) ?_
        refine gf_todo rfl dX12_tellsExpression_17 hMG2 ?_
        refine s_iload_n dX12_tellsExpression_20 rfl ?_
        refine s_iald dX12_tellsExpression_21 (mg_a_todo hMG2) (by omega) (by omega) rfl ?_
        refine s_istore_n dX12_tellsExpression_22 (by decide) (lv' := [some (2, ((1000 : Nat) : Int)), some (0, e), some (0, y2 + (-1)), some (0, gS G2 a_todo ((y2 + (-1)).toNat)), none, none]) rfl ?_
        have hle2 := iz2.le hEX
        have hxr2 := (show _ from (fun (h : StkE G2 G ((gS G 1000 6)) y2 z2) => h.elim (fun zz h => h.2.2.1 (y2 + -1) (by omega) (by omega))) iz2)
        have hyx2 : (gS G2 a_todo (y2 - 1).toNat) = (gS G2 a_todo ((y2 + (-1)).toNat)) := by rw [show y2 - 1 = y2 + -1 by omega]
        have hent2 := hEX.2 _ hxr2.1 hxr2.2
        have hent02 := hent2.1
        clear hent2
        generalize hqq2 : (gS G2 a_todo ((y2 + (-1)).toNat)) = q2 at *
        have hek2 : (gS G2 a_eKind (q2).toNat) = (gS G a_eKind (q2).toNat) := ir2.atA (by decide) (by decide)
        refine s_aload_n dX12_tellsExpression_23 rfl (Int.natCast_nonneg _) ?_
        refine gf_eKind rfl dX12_tellsExpression_24 hMG2 ?_
        refine s_iload_n dX12_tellsExpression_27 rfl ?_
        refine s_iald dX12_tellsExpression_28 (mg_a_eKind hMG2) (by omega) (by omega) rfl ?_
        refine cs_X12_309 rfl gX12_partsOf dX12_tellsExpression_29 (by rw [hcf]; decide) (as := [(0, gS G2 a_eKind ((q2).toNat))]) rfl (Nat.le_of_ble_eq_true rfl) ⟨gS G2 a_eKind ((q2).toNat), rfl, ?_⟩
        show WP kX12_tellsExpression X 32 [some (2, ((1000 : Nat) : Int)), some (0, e), some (0, y2 + (-1)), some (0, q2), none, none] [(0, (if (gS G2 a_eKind ((q2).toNat)) < 2 then 0 else if (gS G2 a_eKind ((q2).toNat)) = 4 ∨ (gS G2 a_eKind ((q2).toNat)) = 5 then 1 else if (gS G2 a_eKind ((q2).toNat)) = 6 then 3 else 2))] G2
        refine s_istore dX12_tellsExpression_32 (by decide) (lv' := [some (2, ((1000 : Nat) : Int)), some (0, e), some (0, y2 + (-1)), some (0, q2), some (0, (if (gS G2 a_eKind ((q2).toNat)) < 2 then 0 else if (gS G2 a_eKind ((q2).toNat)) = 4 ∨ (gS G2 a_eKind ((q2).toNat)) = 5 then 1 else if (gS G2 a_eKind ((q2).toNat)) = 6 then 3 else 2)), none]) rfl ?_
        generalize hP2 : (((if (gS G2 a_eKind ((q2).toNat)) < 2 then 0 else if (gS G2 a_eKind ((q2).toNat)) = 4 ∨ (gS G2 a_eKind ((q2).toNat)) = 5 then 1 else if (gS G2 a_eKind ((q2).toNat)) = 6 then 3 else 2)) : Int) = P2
        have em2 : P2 = eMany G q2 := by rw [← hP2, ← eMany_fr ir2 (by decide)]; rfl
        clear hP2
        have hmr2 := eMany_rng G q2
        refine s_aload_n dX12_tellsExpression_34 rfl (Int.natCast_nonneg _) ?_
        refine s_aload_n dX12_tellsExpression_35 rfl (Int.natCast_nonneg _) ?_
        refine gf_eKind rfl dX12_tellsExpression_36 hMG2 ?_
        refine s_iload_n dX12_tellsExpression_39 rfl ?_
        refine s_iald dX12_tellsExpression_40 (mg_a_eKind hMG2) (by omega) (by omega) rfl ?_
        refine cv_X12_610 rfl gX12_tellsOf dX12_tellsExpression_41 hMG2 (by rw [hcf]; decide) (as := [(0, gS G2 a_eKind ((q2).toNat))]) rfl (Nat.le_of_ble_eq_true rfl) ⟨gS G2 a_eKind ((q2).toNat), rfl, hMG2, (by first | assumption | omega), fun G4 hMG4 hpG4 => ?_⟩
        obtain ⟨G6, eG6, eG4, hpG4⟩ := hpG4
        have hFG6 : Fr nX12_tellsExpression jX12_tellsExpression G G6 := Fr.setA hFG2 eG6 (by decide)
        have hFG4 : Fr nX12_tellsExpression jX12_tellsExpression G G4 := Fr.setF hFG6 eG4 (by decide)
        show WP kX12_tellsExpression X 44 [some (2, ((1000 : Nat) : Int)), some (0, e), some (0, y2 + (-1)), some (0, q2), some (0, P2), none] [] G4
        have hbwG4 : gS G4 1000 102 = (gS G2 1000 102) + 1 := (gsaE eG4)
        refine s_aload_n dX12_tellsExpression_44 rfl (Int.natCast_nonneg _) ?_
        refine s_iload dX12_tellsExpression_45 rfl ?_
        have J8 : ∀ z7 : Int, ((¬ P2 = 0) ∧ z7 = 0) ∨ ((P2 = 0) ∧ z7 = gS G2 a_eFirst ((q2).toNat)) → WP kX12_tellsExpression X 60 [some (2, ((1000 : Nat) : Int)), some (0, e), some (0, y2 + (-1)), some (0, q2), some (0, P2), none] [(0, z7), (2, ((1000 : Nat) : Int))] G4 := by
          intro z7 hz7
          refine cv_X12_610 rfl gX12_tellsOf dX12_tellsExpression_60 hMG4 (by rw [hcf]; decide) (as := [(0, z7)]) rfl (Nat.le_of_ble_eq_true rfl) ⟨z7, rfl, hMG4, (by first | assumption | omega), fun G9 hMG9 hpG9 => ?_⟩
          obtain ⟨G11, eG11, eG9, hpG9⟩ := hpG9
          have hFG11 : Fr nX12_tellsExpression jX12_tellsExpression G G11 := Fr.setA hFG4 eG11 (by decide)
          have hFG9 : Fr nX12_tellsExpression jX12_tellsExpression G G9 := Fr.setF hFG11 eG9 (by decide)
          show WP kX12_tellsExpression X 63 [some (2, ((1000 : Nat) : Int)), some (0, e), some (0, y2 + (-1)), some (0, q2), some (0, P2), none] [] G9
          have hbwG9 : gS G9 1000 102 = (gS G4 1000 102) + 1 := (gsaE eG9)
          refine s_iload dX12_tellsExpression_63 rfl ?_
          refine s_iconst dX12_tellsExpression_65 (by decide) ?_
          refine s_isub dX12_tellsExpression_66 (by omega) ?_
          refine s_istore dX12_tellsExpression_67 (by decide) (lv' := [some (2, ((1000 : Nat) : Int)), some (0, e), some (0, y2 + (-1)), some (0, q2), some (0, P2), some (0, P2 - 1)]) rfl ?_
          have L12 : ∀ (n12 : Nat) (m12 : Int) (k12 : Int) (G12 : LG), MG G12 → Fr nX12_tellsExpression jX12_tellsExpression G G12 → ((-1 ≤ k12 ∧ k12 < P2) ∧ (m12 = y2 + -1 + (P2 - 1 - k12)) ∧ (Fr [a_build, a_todo] [102] G2 G12) ∧ ((gS G12 1000 102) = (gS G2 1000 102) + 2) ∧ (∀ j : Int, 0 ≤ j → j < y2 - 1 → (gS G12 a_todo (j).toNat) = (gS G2 a_todo (j).toNat)) ∧ (∀ q : Int, 0 ≤ q → q < P2 - 1 - k12 → (gS G12 a_todo (y2 + -1 + q).toNat) = ePart G q2 (P2 - 1 - q))) → (k12 + 1).toNat < n12 → WP kX12_tellsExpression X 69 [some (2, ((1000 : Nat) : Int)), some (0, e), some (0, m12), some (0, q2), some (0, P2), some (0, k12)] [] G12 := by
            intro n12
            induction n12 with
            | zero => intro m12 k12 G12 hMG12 hFG12 hi12 hm12; exact absurd hm12 (Nat.not_lt_zero _)
            | succ n12 ih12 =>
              intro m12 k12 G12 hMG12 hFG12 hi12 hm12
              have hj12 := hi12
              obtain ⟨iq12, im12, ij12, ik12, ia12, id12⟩ := hi12
              refine s_iload dX12_tellsExpression_69 rfl ?_
              refine s_if_lt (tgt := 124) dX12_tellsExpression_71 (by decide) (fun c13 => ?_) (fun c13 => ?_)
              · -- 71 to 124
                refine s_goto (tgt := 9) dX12_tellsExpression_124 (by decide) ?_
                refine s_mask [true, true, true, false, false, false] (lv' := [some (2, ((1000 : Nat) : Int)), some (0, e), some (0, m12), none, none, none]) rfl ?_
                exact ih2 m12 (z2 - 1) G12 hMG12 hFG12 (⟨(by exact Fr.call (ir2) ij12 (by decide) (by decide)), (by omega), (by have z9 := im12; have z8 : (gS G12 1000 102) = (gS G2 1000 102) + 2 := ik12; omega), (by have e9 : m12 = y2 - 1 + eMany G q2 := (by omega); rw [e9]; exact iz2.prev hEX (by omega) hyx2 (fun j j0 j1 => ia12 j j0 (by omega)) (fun q q0 q1 => by have z9 := id12 q q0 (by omega); rw [em2] at z9; rw [show y2 - 1 = y2 + -1 by omega]; exact z9))⟩) (by omega)
              · -- 71 to 74
                refine s_aload_n dX12_tellsExpression_74 rfl (Int.natCast_nonneg _) ?_
                refine gf_todo rfl dX12_tellsExpression_75 hMG12 ?_
                refine s_iload_n dX12_tellsExpression_78 rfl ?_
                refine s_iload dX12_tellsExpression_79 rfl ?_
                have J15 : ∀ z14 : Int, ((¬ k12 = 0) ∧ (¬ k12 = 1) ∧ z14 = gS G12 a_eThird ((q2).toNat)) ∨ ((¬ k12 = 0) ∧ (k12 = 1) ∧ z14 = gS G12 a_eSecond ((q2).toNat)) ∨ ((k12 = 0) ∧ z14 = gS G12 a_eFirst ((q2).toNat)) → WP kX12_tellsExpression X 114 [some (2, ((1000 : Nat) : Int)), some (0, e), some (0, m12), some (0, q2), some (0, P2), some (0, k12)] [(0, z14), (0, m12), (2, ((a_todo : Nat) : Int))] G12 := by
                  intro z14 hz14
                  refine r_iast dX12_tellsExpression_114 hMG12 (mg_a_todo hMG12) (by decide) (by omega) (by omega) (fun G16 eG16 hMG16 => ?_)
                  have hFG16 : Fr nX12_tellsExpression jX12_tellsExpression G G16 := Fr.setA hFG12 eG16 (by decide)
                  show WP kX12_tellsExpression X 115 [some (2, ((1000 : Nat) : Int)), some (0, e), some (0, m12), some (0, q2), some (0, P2), some (0, k12)] [] G16
                  refine s_iinc dX12_tellsExpression_115 (v := m12) rfl (by omega) (by decide) (lv' := [some (2, ((1000 : Nat) : Int)), some (0, e), some (0, m12 + 1), some (0, q2), some (0, P2), some (0, k12)]) rfl ?_
                  refine s_iinc dX12_tellsExpression_118 (v := k12) rfl (by omega) (by decide) (lv' := [some (2, ((1000 : Nat) : Int)), some (0, e), some (0, m12 + 1), some (0, q2), some (0, P2), some (0, k12 + (-1))]) rfl ?_
                  refine s_goto (tgt := 69) dX12_tellsExpression_121 (by decide) ?_
                  exact ih12 (m12 + 1) (k12 + (-1)) G16 hMG16 hFG16 (⟨(by omega), (by omega), (by exact Fr.setA ij12 eG16 (by decide)), (by rw [gsnE eG16 (by decide)]; exact ik12), (by intro j j0 j1; rw [g_ne (g_upd eG16) (by omega)]; exact ia12 j j0 j1), (by intro q q0 q1; by_cases hj : q = P2 - 1 - k12; (subst hj; rw [show y2 + -1 + (P2 - 1 - k12) = m12 by omega, g_at (g_upd eG16)]; rw [show P2 - 1 - (P2 - 1 - k12) = k12 by omega]; unfold ePart; rcases hz14 with ⟨q1, q2, q3⟩ | ⟨q1, q2, q3⟩ | ⟨q1, q2⟩; (rw [if_neg (by omega), if_neg (by omega), ← hFG12.atA (by decide) (by decide)]; exact q3); (rw [if_neg (by omega), if_pos (by omega), ← hFG12.atA (by decide) (by decide)]; exact q3); (rw [if_pos (by omega), ← hFG12.atA (by decide) (by decide)]; exact q2)); (rw [g_ne (g_upd eG16) (by omega)]; exact id12 q q0 (by omega)))⟩) (by omega)
                refine s_if_ne (tgt := 93) dX12_tellsExpression_81 (by decide) (fun c17 => ?_) (fun c17 => ?_)
                · -- 81 to 93
                  refine s_iload dX12_tellsExpression_93 rfl ?_
                  refine s_iconst dX12_tellsExpression_95 (by decide) ?_
                  refine s_icmp_ne (tgt := 108) dX12_tellsExpression_96 (by decide) (fun c18 => ?_) (fun c18 => ?_)
                  · -- 96 to 108
                    refine s_aload_n dX12_tellsExpression_108 rfl (Int.natCast_nonneg _) ?_
                    refine gf_eThird rfl dX12_tellsExpression_109 hMG12 ?_
                    refine s_iload_n dX12_tellsExpression_112 rfl ?_
                    refine s_iald dX12_tellsExpression_113 (mg_a_eThird hMG12) (by omega) (by omega) rfl ?_
                    exact J15 _ (Or.inl ⟨c17, c18, rfl⟩)
                  · -- 96 to 99
                    refine s_aload_n dX12_tellsExpression_99 rfl (Int.natCast_nonneg _) ?_
                    refine gf_eSecond rfl dX12_tellsExpression_100 hMG12 ?_
                    refine s_iload_n dX12_tellsExpression_103 rfl ?_
                    refine s_iald dX12_tellsExpression_104 (mg_a_eSecond hMG12) (by omega) (by omega) rfl ?_
                    refine s_goto (tgt := 114) dX12_tellsExpression_105 (by decide) ?_
                    exact J15 _ (Or.inr (Or.inl ⟨c17, c18, rfl⟩))
                · -- 81 to 84
                  refine s_aload_n dX12_tellsExpression_84 rfl (Int.natCast_nonneg _) ?_
                  refine gf_eFirst rfl dX12_tellsExpression_85 hMG12 ?_
                  refine s_iload_n dX12_tellsExpression_88 rfl ?_
                  refine s_iald dX12_tellsExpression_89 (mg_a_eFirst hMG12) (by omega) (by omega) rfl ?_
                  refine s_goto (tgt := 114) dX12_tellsExpression_90 (by decide) ?_
                  exact J15 _ (Or.inr (Or.inr (⟨c17, rfl⟩)))
          exact L12 _ (y2 + (-1)) (P2 - 1) G9 hMG9 hFG9 (⟨(by omega), (by omega), (by exact Fr.call Fr.rf (Fr.setF (Fr.setA (Fr.setF (Fr.setA (Fr.rf) eG6 (by decide)) eG4 (by decide)) eG11 (by decide)) eG9 (by decide) : Fr [a_build] [102] G2 G9) (by decide) (by decide)), (by rw [(gsaE eG9)]; omega), (by exact fun j _ _ => (Fr.setF (Fr.setA (Fr.setF (Fr.setA (Fr.rf) eG6 (by decide)) eG4 (by decide)) eG11 (by decide)) eG9 (by decide) : Fr [a_build] [102] G2 G9).atA (by decide) (by decide)), (by intro q q0 q1; omega)⟩) (Nat.lt_succ_self _)
        refine s_if_ne (tgt := 59) dX12_tellsExpression_47 (by decide) (fun c19 => ?_) (fun c19 => ?_)
        · -- 47 to 59
          refine s_iconst dX12_tellsExpression_59 (by decide) ?_
          exact J8 0 (Or.inl ⟨c19, rfl⟩)
        · -- 47 to 50
          refine s_aload_n dX12_tellsExpression_50 rfl (Int.natCast_nonneg _) ?_
          refine gf_eFirst rfl dX12_tellsExpression_51 hMG4 ?_
          refine s_iload_n dX12_tellsExpression_54 rfl ?_
          refine s_iald dX12_tellsExpression_55 (mg_a_eFirst hMG4) (by omega) (by omega) (Eq.trans (gsnE eG4 (by decide)) (gsnE eG6 (by decide))) ?_
          refine s_goto (tgt := 60) dX12_tellsExpression_56 (by decide) ?_
          exact J8 _ (Or.inr (⟨c19, rfl⟩))
  exact L2 _ 1 12 G1 hMG1 hFG1 (⟨(by exact Fr.call Fr.rf (Fr.setA (Fr.rf) eG1 (by decide) : Fr [a_todo] [] G G1) (by decide) (by decide)), (by omega), (by rw [(gsnE eG1 (by decide))]; omega), (by exact StkE.one hEX he ((gsaE eG1)))⟩) (Nat.lt_succ_self _)
