abbrev nX12_refsOf : List Nat := [a_todo]
abbrev jX12_refsOf : List Nat := []
def TX12_refsOf : TR := fun as G Qr => ∃ (e : Int), as = [(2, ((1000 : Nat) : Int)), (0, e)] ∧ MG G ∧ (EX G) ∧ (0 ≤ e ∧ e < (gS G 1000 6)) ∧ ∀ (r : Int) (G' : LG), MG G' → (Fr nX12_refsOf jX12_refsOf G G' ∧ (∀ i : Int, 0 ≤ i → i < 32 → (bitI r i ↔ Occ G e i))) → Qr (.inl (some (0, r))) G'
set_option maxHeartbeats 4000000 in
set_option maxRecDepth 100000 in
theorem gX12_refsOf : Good kX12_refsOf yX12_refsOf 1 TX12_refsOf := by
  refine good_of (by decide) rfl rfl (fun as G Qr h => ?_) (fun X as G Qr hcf hR hT oa => ?_)
  · obtain ⟨e, rfl, -⟩ := h; exact Nat.le_of_ble_eq_true rfl
  obtain ⟨e, rfl, hM, hEX, he, hQ⟩ := hT
  show WP kX12_refsOf X 0 [some (2, ((1000 : Nat) : Int)), some (0, e), none, none, none, none, none] [] G
  have hr_e : inR e := okv_R (oa _ (by simp))
  refine s_iconst dX12_refsOf_0 (by decide) ?_
  refine s_istore_n dX12_refsOf_1 (by decide) (lv' := [some (2, ((1000 : Nat) : Int)), some (0, e), some (0, 1), none, none, none, none]) rfl ?_
  refine s_aload_n dX12_refsOf_2 rfl (Int.natCast_nonneg _) ?_
  refine gf_todo rfl dX12_refsOf_3 hM ?_
  refine s_iconst dX12_refsOf_6 (by decide) ?_
  refine s_iload_n dX12_refsOf_7 rfl ?_
  refine r_iast dX12_refsOf_8 hM (mg_a_todo hM) (by decide) (by omega) (by omega) (fun G1 eG1 hMG1 => ?_)
  have hFG1 : Fr nX12_refsOf jX12_refsOf G G1 := Fr.setA Fr.rf eG1 (by decide)
  show WP kX12_refsOf X 9 [some (2, ((1000 : Nat) : Int)), some (0, e), some (0, 1), none, none, none, none] [] G1
  refine s_iconst dX12_refsOf_9 (by decide) ?_
  refine s_istore_n dX12_refsOf_10 (by decide) (lv' := [some (2, ((1000 : Nat) : Int)), some (0, e), some (0, 1), some (0, 0), none, none, none]) rfl ?_
  have L2 : ∀ (n2 : Nat) (y2 : Int) (r2 : Int) (z2 : Int) (G2 : LG), MG G2 → Fr nX12_refsOf jX12_refsOf G G2 → ((0 ≤ y2) ∧ (z2 ≤ 12) ∧ (StkE G2 G ((gS G 1000 6)) y2 z2) ∧ (OccE G2 G e y2 r2)) → (z2).toNat < n2 → WP kX12_refsOf X 11 [some (2, ((1000 : Nat) : Int)), some (0, e), some (0, y2), some (0, r2), none, none, none] [] G2 := by
    intro n2
    induction n2 with
    | zero => intro y2 r2 z2 G2 hMG2 hFG2 hi2 hm2; exact absurd hm2 (Nat.not_lt_zero _)
    | succ n2 ih2 =>
      intro y2 r2 z2 G2 hMG2 hFG2 hi2 hm2
      have hj2 := hi2
      obtain ⟨in2, il2, iz2, io2⟩ := hi2
      have hle02 := iz2.le hEX
      refine s_iload_n dX12_refsOf_11 rfl ?_
      refine s_if_le (tgt := 131) dX12_refsOf_12 (by decide) (fun c3 => ?_) (fun c3 => ?_)
      · -- 12 to 131
        refine s_iload_n dX12_refsOf_131 rfl ?_
        exact s_iret hR dX12_refsOf_132 rfl (hQ _ G2 hMG2 (⟨hFG2, fun i i0 i1 => (by rw [io2 i i0 i1]; exact ⟨Or.inl, fun q => q.elim id (fun ⟨j, ⟨j0, j1⟩, _⟩ => by omega)⟩)⟩))
      · -- 12 to 15
        refine s_iinc dX12_refsOf_15 (v := y2) rfl (by omega) (by decide) (lv' := [some (2, ((1000 : Nat) : Int)), some (0, e), some (0, y2 + (-1)), some (0, r2), none, none, none]) rfl ?_
        refine s_aload_n dX12_refsOf_18 rfl (Int.natCast_nonneg _) ?_
        refine gf_todo rfl dX12_refsOf_19 hMG2 ?_
        refine s_iload_n dX12_refsOf_22 rfl ?_
        refine s_iald dX12_refsOf_23 (mg_a_todo hMG2) (by omega) (by omega) rfl ?_
        refine s_istore dX12_refsOf_24 (by decide) (lv' := [some (2, ((1000 : Nat) : Int)), some (0, e), some (0, y2 + (-1)), some (0, r2), some (0, gS G2 a_todo ((y2 + (-1)).toNat)), none, none]) rfl ?_
        refine s_aload_n dX12_refsOf_26 rfl (Int.natCast_nonneg _) ?_
        have hle2 := iz2.le hEX
        have hxr2 := (show _ from (fun (h : StkE G2 G ((gS G 1000 6)) y2 z2) => h.elim (fun zz h => h.2.2.1 (y2 + -1) (by omega) (by omega))) iz2)
        have hex2 : (gS G 1000 6) ≤ 120 := hEX.1.2
        refine gf_eKind rfl dX12_refsOf_27 hMG2 ?_
        refine s_iload dX12_refsOf_30 rfl ?_
        refine s_iald dX12_refsOf_32 (mg_a_eKind hMG2) (by omega) (by omega) rfl ?_
        have hle2 := iz2.le hEX
        obtain ⟨zz2, zl2, sk2⟩ := iz2
        have hxr2 := sk2.2.1 (y2 + -1) (by omega) (by omega)
        have iz2 : StkE G2 G ((gS G 1000 6)) y2 z2 := ⟨zz2, zl2, sk2⟩
        have hek2 : (gS G2 a_eKind ((gS G2 a_todo ((y2 + (-1)).toNat))).toNat) = (gS G a_eKind ((gS G2 a_todo ((y2 + (-1)).toNat))).toNat) := hFG2.atA (by decide) (by decide)
        have hent2 := hEX.2 _ hxr2.1 hxr2.2
        refine cs_X12_309 rfl gX12_partsOf dX12_refsOf_33 (by rw [hcf]; decide) (as := [(0, gS G2 a_eKind ((gS G2 a_todo ((y2 + (-1)).toNat)).toNat))]) rfl (Nat.le_of_ble_eq_true rfl) ⟨gS G2 a_eKind ((gS G2 a_todo ((y2 + (-1)).toNat)).toNat), rfl, ?_⟩
        show WP kX12_refsOf X 36 [some (2, ((1000 : Nat) : Int)), some (0, e), some (0, y2 + (-1)), some (0, r2), some (0, gS G2 a_todo ((y2 + (-1)).toNat)), none, none] [(0, (if (gS G2 a_eKind ((gS G2 a_todo ((y2 + (-1)).toNat)).toNat)) < 2 then 0 else if (gS G2 a_eKind ((gS G2 a_todo ((y2 + (-1)).toNat)).toNat)) = 4 ∨ (gS G2 a_eKind ((gS G2 a_todo ((y2 + (-1)).toNat)).toNat)) = 5 then 1 else if (gS G2 a_eKind ((gS G2 a_todo ((y2 + (-1)).toNat)).toNat)) = 6 then 3 else 2))] G2
        refine s_istore dX12_refsOf_36 (by decide) (lv' := [some (2, ((1000 : Nat) : Int)), some (0, e), some (0, y2 + (-1)), some (0, r2), some (0, gS G2 a_todo ((y2 + (-1)).toNat)), some (0, (if (gS G2 a_eKind ((gS G2 a_todo ((y2 + (-1)).toNat)).toNat)) < 2 then 0 else if (gS G2 a_eKind ((gS G2 a_todo ((y2 + (-1)).toNat)).toNat)) = 4 ∨ (gS G2 a_eKind ((gS G2 a_todo ((y2 + (-1)).toNat)).toNat)) = 5 then 1 else if (gS G2 a_eKind ((gS G2 a_todo ((y2 + (-1)).toNat)).toNat)) = 6 then 3 else 2)), none]) rfl ?_
        refine s_iload_n dX12_refsOf_38 rfl ?_
        refine s_aload_n dX12_refsOf_39 rfl (Int.natCast_nonneg _) ?_
        refine gf_eKind rfl dX12_refsOf_40 hMG2 ?_
        refine s_iload dX12_refsOf_43 rfl ?_
        refine s_iald dX12_refsOf_45 (mg_a_eKind hMG2) (by omega) (by omega) rfl ?_
        refine s_iconst dX12_refsOf_46 (by decide) ?_
        have J5 : ∀ z4 : Int, ((¬ (gS G2 a_eKind ((gS G2 a_todo ((y2 + (-1)).toNat)).toNat)) = 1) ∧ z4 = 0) ∨ (((gS G2 a_eKind ((gS G2 a_todo ((y2 + (-1)).toNat)).toNat)) = 1) ∧ z4 = i_shl 1 (gS G2 a_eFirst ((gS G2 a_todo ((y2 + (-1)).toNat)).toNat))) → WP kX12_refsOf X 63 [some (2, ((1000 : Nat) : Int)), some (0, e), some (0, y2 + (-1)), some (0, r2), some (0, gS G2 a_todo ((y2 + (-1)).toNat)), some (0, (if (gS G2 a_eKind ((gS G2 a_todo ((y2 + (-1)).toNat)).toNat)) < 2 then 0 else if (gS G2 a_eKind ((gS G2 a_todo ((y2 + (-1)).toNat)).toNat)) = 4 ∨ (gS G2 a_eKind ((gS G2 a_todo ((y2 + (-1)).toNat)).toNat)) = 5 then 1 else if (gS G2 a_eKind ((gS G2 a_todo ((y2 + (-1)).toNat)).toNat)) = 6 then 3 else 2)), none] [(0, z4), (0, r2)] G2 := by
          intro z4 hz4
          refine s_ior dX12_refsOf_63 ?_
          refine s_istore_n dX12_refsOf_64 (by decide) (lv' := [some (2, ((1000 : Nat) : Int)), some (0, e), some (0, y2 + (-1)), some (0, i_or r2 z4), some (0, gS G2 a_todo ((y2 + (-1)).toNat)), some (0, (if (gS G2 a_eKind ((gS G2 a_todo ((y2 + (-1)).toNat)).toNat)) < 2 then 0 else if (gS G2 a_eKind ((gS G2 a_todo ((y2 + (-1)).toNat)).toNat)) = 4 ∨ (gS G2 a_eKind ((gS G2 a_todo ((y2 + (-1)).toNat)).toNat)) = 5 then 1 else if (gS G2 a_eKind ((gS G2 a_todo ((y2 + (-1)).toNat)).toNat)) = 6 then 3 else 2)), none]) rfl ?_
          refine s_iconst dX12_refsOf_65 (by decide) ?_
          refine s_istore dX12_refsOf_66 (by decide) (lv' := [some (2, ((1000 : Nat) : Int)), some (0, e), some (0, y2 + (-1)), some (0, i_or r2 z4), some (0, gS G2 a_todo ((y2 + (-1)).toNat)), some (0, (if (gS G2 a_eKind ((gS G2 a_todo ((y2 + (-1)).toNat)).toNat)) < 2 then 0 else if (gS G2 a_eKind ((gS G2 a_todo ((y2 + (-1)).toNat)).toNat)) = 4 ∨ (gS G2 a_eKind ((gS G2 a_todo ((y2 + (-1)).toNat)).toNat)) = 5 then 1 else if (gS G2 a_eKind ((gS G2 a_todo ((y2 + (-1)).toNat)).toNat)) = 6 then 3 else 2)), some (0, 0)]) rfl ?_
          have L6 : ∀ (n6 : Nat) (m6 : Int) (k6 : Int) (G6 : LG), MG G6 → Fr nX12_refsOf jX12_refsOf G G6 → ((0 ≤ k6 ∧ k6 ≤ ((if (gS G2 a_eKind ((gS G2 a_todo ((y2 + (-1)).toNat)).toNat)) < 2 then 0 else if (gS G2 a_eKind ((gS G2 a_todo ((y2 + (-1)).toNat)).toNat)) = 4 ∨ (gS G2 a_eKind ((gS G2 a_todo ((y2 + (-1)).toNat)).toNat)) = 5 then 1 else if (gS G2 a_eKind ((gS G2 a_todo ((y2 + (-1)).toNat)).toNat)) = 6 then 3 else 2))) ∧ (m6 = (y2 + (-1)) + k6) ∧ (∀ j : Int, 0 ≤ j → j < (y2 + (-1)) → (gS G6 a_todo (j).toNat) = (gS G2 a_todo (j).toNat)) ∧ (∀ j : Int, 0 ≤ j → j < k6 → (gS G6 a_todo ((y2 + (-1)) + j).toNat) = ePart G (gS G2 a_todo ((y2 + (-1)).toNat)) j)) → (((if (gS G2 a_eKind ((gS G2 a_todo ((y2 + (-1)).toNat)).toNat)) < 2 then 0 else if (gS G2 a_eKind ((gS G2 a_todo ((y2 + (-1)).toNat)).toNat)) = 4 ∨ (gS G2 a_eKind ((gS G2 a_todo ((y2 + (-1)).toNat)).toNat)) = 5 then 1 else if (gS G2 a_eKind ((gS G2 a_todo ((y2 + (-1)).toNat)).toNat)) = 6 then 3 else 2)) - k6).toNat < n6 → WP kX12_refsOf X 68 [some (2, ((1000 : Nat) : Int)), some (0, e), some (0, m6), some (0, i_or r2 z4), some (0, gS G2 a_todo ((y2 + (-1)).toNat)), some (0, (if (gS G2 a_eKind ((gS G2 a_todo ((y2 + (-1)).toNat)).toNat)) < 2 then 0 else if (gS G2 a_eKind ((gS G2 a_todo ((y2 + (-1)).toNat)).toNat)) = 4 ∨ (gS G2 a_eKind ((gS G2 a_todo ((y2 + (-1)).toNat)).toNat)) = 5 then 1 else if (gS G2 a_eKind ((gS G2 a_todo ((y2 + (-1)).toNat)).toNat)) = 6 then 3 else 2)), some (0, k6)] [] G6 := by
            intro n6
            induction n6 with
            | zero => intro m6 k6 G6 hMG6 hFG6 hi6 hm6; exact absurd hm6 (Nat.not_lt_zero _)
            | succ n6 ih6 =>
              intro m6 k6 G6 hMG6 hFG6 hi6 hm6
              have hj6 := hi6
              obtain ⟨ik6, im6, ia6, ib6⟩ := hi6
              refine s_iload dX12_refsOf_68 rfl ?_
              refine s_iload dX12_refsOf_70 rfl ?_
              refine s_icmp_ge (tgt := 128) dX12_refsOf_72 (by decide) (fun c7 => ?_) (fun c7 => ?_)
              · -- 72 to 128
                refine s_goto (tgt := 11) dX12_refsOf_128 (by decide) ?_
                refine s_mask [true, true, true, true, false, false, false] (lv' := [some (2, ((1000 : Nat) : Int)), some (0, e), some (0, m6), some (0, i_or r2 z4), none, none, none]) rfl ?_
                exact ih2 m6 (i_or r2 z4) (z2 - 1) G6 hMG6 hFG6 (⟨(by omega), (by omega), (by have em := eMany_fr hFG2 (by decide) (gS G2 a_todo ((y2 + (-1)).toNat)); have ep := ePart_fr hFG2 (by decide) (by decide) (by decide) (gS G2 a_todo ((y2 + (-1)).toNat)); have hm : k6 = eMany G (gS G2 a_todo ((y2 + (-1)).toNat)) := (by rw [← em]; have := ik6; unfold eMany at this ⊢; omega); rw [show m6 = y2 - 1 + eMany G (gS G2 a_todo ((y2 + (-1)).toNat)) by omega]; exact iz2.next hEX (by omega) (by rw [show y2 - 1 = y2 + -1 by omega]) (fun j j0 j1 => ia6 j j0 (by omega)) (fun q q0 q1 => by rw [show y2 - 1 = y2 + -1 by omega]; exact ib6 q q0 (by omega))), (by have em := eMany_fr hFG2 (by decide) (gS G2 a_todo ((y2 + (-1)).toNat)); have ep := ePart_fr hFG2 (by decide) (by decide) (by decide) (gS G2 a_todo ((y2 + (-1)).toNat)); have hm : k6 = eMany G (gS G2 a_todo ((y2 + (-1)).toNat)) := (by rw [← em]; have := ik6; unfold eMany at this ⊢; omega); rw [show m6 = y2 - 1 + eMany G (gS G2 a_todo ((y2 + (-1)).toNat)) by omega]; refine io2.next (by omega) (by rw [show y2 - 1 = y2 + -1 by omega]) (fun j j0 j1 => ia6 j j0 (by omega)) (fun q q0 q1 => by rw [show y2 - 1 = y2 + -1 by omega]; exact ib6 q q0 (by omega)) (fun b b0 b1 => ?_); have e1 := hFG2.atA (n := a_eKind) (j := ((gS G2 a_todo ((y2 + (-1)).toNat))).toNat) (by decide) (by decide); have e2 := hFG2.atA (n := a_eFirst) (j := ((gS G2 a_todo ((y2 + (-1)).toNat))).toNat) (by decide) (by decide); rw [← e1, ← e2]; rcases hz4 with ⟨q1, q2⟩ | ⟨q1, q2⟩; (rw [q2, bitI_or b0 b1]; exact ⟨fun q => q.elim Or.inl (fun z => absurd z (bitI_0 b0 b1)), fun q => q.elim Or.inl (fun z => absurd z.1 q1)⟩); (rw [q2, bitI_or b0 b1]; have hfr9 := hent2.2.1 (by omega); refine ⟨fun q => q.elim Or.inl (fun z => Or.inr ⟨q1, ((bitI_shl (by omega) (by omega) b0 b1).mp z).symm⟩), fun q => q.elim Or.inl (fun z => Or.inr ((bitI_shl (by omega) (by omega) b0 b1).mpr z.2.symm))⟩))⟩) (by omega)
              · -- 72 to 75
                refine s_aload_n dX12_refsOf_75 rfl (Int.natCast_nonneg _) ?_
                refine gf_todo rfl dX12_refsOf_76 hMG6 ?_
                refine s_iload_n dX12_refsOf_79 rfl ?_
                refine s_iload dX12_refsOf_80 rfl ?_
                have J9 : ∀ z8 : Int, ((¬ k6 = 0) ∧ (¬ k6 = 1) ∧ z8 = gS G6 a_eThird ((gS G2 a_todo ((y2 + (-1)).toNat)).toNat)) ∨ ((¬ k6 = 0) ∧ (k6 = 1) ∧ z8 = gS G6 a_eSecond ((gS G2 a_todo ((y2 + (-1)).toNat)).toNat)) ∨ ((k6 = 0) ∧ z8 = gS G6 a_eFirst ((gS G2 a_todo ((y2 + (-1)).toNat)).toNat)) → WP kX12_refsOf X 118 [some (2, ((1000 : Nat) : Int)), some (0, e), some (0, m6), some (0, i_or r2 z4), some (0, gS G2 a_todo ((y2 + (-1)).toNat)), some (0, (if (gS G2 a_eKind ((gS G2 a_todo ((y2 + (-1)).toNat)).toNat)) < 2 then 0 else if (gS G2 a_eKind ((gS G2 a_todo ((y2 + (-1)).toNat)).toNat)) = 4 ∨ (gS G2 a_eKind ((gS G2 a_todo ((y2 + (-1)).toNat)).toNat)) = 5 then 1 else if (gS G2 a_eKind ((gS G2 a_todo ((y2 + (-1)).toNat)).toNat)) = 6 then 3 else 2)), some (0, k6)] [(0, z8), (0, m6), (2, ((a_todo : Nat) : Int))] G6 := by
                  intro z8 hz8
                  refine r_iast dX12_refsOf_118 hMG6 (mg_a_todo hMG6) (by decide) (by omega) (by omega) (fun G10 eG10 hMG10 => ?_)
                  have hFG10 : Fr nX12_refsOf jX12_refsOf G G10 := Fr.setA hFG6 eG10 (by decide)
                  show WP kX12_refsOf X 119 [some (2, ((1000 : Nat) : Int)), some (0, e), some (0, m6), some (0, i_or r2 z4), some (0, gS G2 a_todo ((y2 + (-1)).toNat)), some (0, (if (gS G2 a_eKind ((gS G2 a_todo ((y2 + (-1)).toNat)).toNat)) < 2 then 0 else if (gS G2 a_eKind ((gS G2 a_todo ((y2 + (-1)).toNat)).toNat)) = 4 ∨ (gS G2 a_eKind ((gS G2 a_todo ((y2 + (-1)).toNat)).toNat)) = 5 then 1 else if (gS G2 a_eKind ((gS G2 a_todo ((y2 + (-1)).toNat)).toNat)) = 6 then 3 else 2)), some (0, k6)] [] G10
                  refine s_iinc dX12_refsOf_119 (v := m6) rfl (by omega) (by decide) (lv' := [some (2, ((1000 : Nat) : Int)), some (0, e), some (0, m6 + 1), some (0, i_or r2 z4), some (0, gS G2 a_todo ((y2 + (-1)).toNat)), some (0, (if (gS G2 a_eKind ((gS G2 a_todo ((y2 + (-1)).toNat)).toNat)) < 2 then 0 else if (gS G2 a_eKind ((gS G2 a_todo ((y2 + (-1)).toNat)).toNat)) = 4 ∨ (gS G2 a_eKind ((gS G2 a_todo ((y2 + (-1)).toNat)).toNat)) = 5 then 1 else if (gS G2 a_eKind ((gS G2 a_todo ((y2 + (-1)).toNat)).toNat)) = 6 then 3 else 2)), some (0, k6)]) rfl ?_
                  refine s_iinc dX12_refsOf_122 (v := k6) rfl (by omega) (by decide) (lv' := [some (2, ((1000 : Nat) : Int)), some (0, e), some (0, m6 + 1), some (0, i_or r2 z4), some (0, gS G2 a_todo ((y2 + (-1)).toNat)), some (0, (if (gS G2 a_eKind ((gS G2 a_todo ((y2 + (-1)).toNat)).toNat)) < 2 then 0 else if (gS G2 a_eKind ((gS G2 a_todo ((y2 + (-1)).toNat)).toNat)) = 4 ∨ (gS G2 a_eKind ((gS G2 a_todo ((y2 + (-1)).toNat)).toNat)) = 5 then 1 else if (gS G2 a_eKind ((gS G2 a_todo ((y2 + (-1)).toNat)).toNat)) = 6 then 3 else 2)), some (0, k6 + 1)]) rfl ?_
                  refine s_goto (tgt := 68) dX12_refsOf_125 (by decide) ?_
                  exact ih6 (m6 + 1) (k6 + 1) G10 hMG10 hFG10 (⟨(by omega), (by omega), (by intro j j0 j1; rw [g_ne (g_upd eG10) (by omega)]; exact ia6 j j0 j1), (by intro j j0 j1; by_cases hj : j = k6; (subst hj; rw [show y2 + -1 + j = m6 by omega, g_at (g_upd eG10)]; unfold ePart; rcases hz8 with ⟨q1, q2, q3⟩ | ⟨q1, q2, q3⟩ | ⟨q1, q2⟩; (rw [if_neg (by omega), if_neg (by omega), ← hFG6.atA (by decide) (by decide)]; exact q3); (rw [if_neg (by omega), if_pos (by omega), ← hFG6.atA (by decide) (by decide)]; exact q3); (rw [if_pos (by omega), ← hFG6.atA (by decide) (by decide)]; exact q2)); (rw [g_ne (g_upd eG10) (by omega)]; exact ib6 j j0 (by omega)))⟩) (by omega)
                refine s_if_ne (tgt := 95) dX12_refsOf_82 (by decide) (fun c11 => ?_) (fun c11 => ?_)
                · -- 82 to 95
                  refine s_iload dX12_refsOf_95 rfl ?_
                  refine s_iconst dX12_refsOf_97 (by decide) ?_
                  refine s_icmp_ne (tgt := 111) dX12_refsOf_98 (by decide) (fun c12 => ?_) (fun c12 => ?_)
                  · -- 98 to 111
                    refine s_aload_n dX12_refsOf_111 rfl (Int.natCast_nonneg _) ?_
                    refine gf_eThird rfl dX12_refsOf_112 hMG6 ?_
                    refine s_iload dX12_refsOf_115 rfl ?_
                    refine s_iald dX12_refsOf_117 (mg_a_eThird hMG6) (by omega) (by omega) rfl ?_
                    exact J9 _ (Or.inl ⟨c11, c12, rfl⟩)
                  · -- 98 to 101
                    refine s_aload_n dX12_refsOf_101 rfl (Int.natCast_nonneg _) ?_
                    refine gf_eSecond rfl dX12_refsOf_102 hMG6 ?_
                    refine s_iload dX12_refsOf_105 rfl ?_
                    refine s_iald dX12_refsOf_107 (mg_a_eSecond hMG6) (by omega) (by omega) rfl ?_
                    refine s_goto (tgt := 118) dX12_refsOf_108 (by decide) ?_
                    exact J9 _ (Or.inr (Or.inl ⟨c11, c12, rfl⟩))
                · -- 82 to 85
                  refine s_aload_n dX12_refsOf_85 rfl (Int.natCast_nonneg _) ?_
                  refine gf_eFirst rfl dX12_refsOf_86 hMG6 ?_
                  refine s_iload dX12_refsOf_89 rfl ?_
                  refine s_iald dX12_refsOf_91 (mg_a_eFirst hMG6) (by omega) (by omega) rfl ?_
                  refine s_goto (tgt := 118) dX12_refsOf_92 (by decide) ?_
                  exact J9 _ (Or.inr (Or.inr (⟨c11, rfl⟩)))
          exact L6 _ (y2 + (-1)) 0 G2 hMG2 hFG2 (⟨(by omega), (by omega), (by intro j j0 j1; rfl), (by intro j j0 j1; omega)⟩) (Nat.lt_succ_self _)
        refine s_icmp_ne (tgt := 62) dX12_refsOf_47 (by decide) (fun c13 => ?_) (fun c13 => ?_)
        · -- 47 to 62
          refine s_iconst dX12_refsOf_62 (by decide) ?_
          exact J5 0 (Or.inl ⟨c13, rfl⟩)
        · -- 47 to 50
          refine s_iconst dX12_refsOf_50 (by decide) ?_
          refine s_aload_n dX12_refsOf_51 rfl (Int.natCast_nonneg _) ?_
          refine gf_eFirst rfl dX12_refsOf_52 hMG2 ?_
          refine s_iload dX12_refsOf_55 rfl ?_
          refine s_iald dX12_refsOf_57 (mg_a_eFirst hMG2) (by omega) (by omega) rfl ?_
          refine s_ishl dX12_refsOf_58 ?_
          refine s_goto (tgt := 63) dX12_refsOf_59 (by decide) ?_
          exact J5 _ (Or.inr (⟨c13, rfl⟩))
  exact L2 _ 1 0 12 G1 hMG1 hFG1 (⟨(by omega), (by omega), (by exact StkE.one hEX he ((gsaE eG1))), (by exact OccE.one ((gsaE eG1)))⟩) (Nat.lt_succ_self _)
