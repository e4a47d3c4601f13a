abbrev nX12_tellsFull : List Nat := [a_build, a_stackOf]
abbrev jX12_tellsFull : List Nat := [102, 36]
def TX12_tellsFull : TR := fun as G Qr => ∃ (t : Int), as = [(2, ((1000 : Nat) : Int)), (0, t)] ∧ MG G ∧ (FU G) ∧ (0 ≤ t ∧ t < (gS G 1000 26)) ∧ ((gS G a_fSize (t).toNat) ≤ 200) ∧ ((gS G 1000 42) ≤ 60000) ∧ (0 ≤ (gS G 1000 102) ∧ (gS G 1000 102) + (gS G a_fSize (t).toNat) ≤ 11000) ∧ ∀ G' : LG, MG G' → (Fr nX12_tellsFull jX12_tellsFull G G' ∧ ((gS G 1000 102) ≤ (gS G' 1000 102) ∧ (gS G' 1000 102) ≤ (gS G 1000 102) + (gS G a_fSize (t).toNat))) → Qr (.inl none) G'
set_option maxHeartbeats 4000000 in
set_option maxRecDepth 100000 in
theorem gX12_tellsFull : Good kX12_tellsFull yX12_tellsFull 1 TX12_tellsFull := by
  refine good_of (by decide) rfl rfl (fun as G Qr h => ?_) (fun X as G Qr hcf hR hT oa => ?_)
  · obtain ⟨t, rfl, -⟩ := h; exact Nat.le_of_ble_eq_true rfl
  obtain ⟨t, rfl, hM, hFU, ht, hz, hth, hb, hQ⟩ := hT
  show WP kX12_tellsFull X 0 [some (2, ((1000 : Nat) : Int)), some (0, t), none] [] G
  have hr_t : inR t := okv_R (oa _ (by simp))
  have hz1 := (hFU.sz ht.1 ht.2).1
  have hff0 := hFU.f
  refine s_aload_n dX12_tellsFull_0 rfl (Int.natCast_nonneg _) ?_
  refine s_iconst dX12_tellsFull_1 (by decide) ?_
  refine pf_stack rfl dX12_tellsFull_2 hM (fun G1 eG1 hMG1 => ?_)
  have hFG1 : Fr nX12_tellsFull jX12_tellsFull G G1 := Fr.setF Fr.rf eG1 (by decide)
  refine s_aload_n dX12_tellsFull_5 rfl (Int.natCast_nonneg _) ?_
  refine gf_stackOf rfl dX12_tellsFull_6 hMG1 ?_
  refine s_iconst dX12_tellsFull_9 (by decide) ?_
  refine s_iload_n dX12_tellsFull_10 rfl ?_
  refine r_iast dX12_tellsFull_11 hMG1 (mg_a_stackOf hMG1) (by decide) (by omega) (by omega) (fun G2 eG2 hMG2 => ?_)
  have hFG2 : Fr nX12_tellsFull jX12_tellsFull G G2 := Fr.setA hFG1 eG2 (by decide)
  show WP kX12_tellsFull X 12 [some (2, ((1000 : Nat) : Int)), some (0, t), none] [] G2
  have L3 : ∀ (n3 : Nat) (z3 : Int) (G3 : LG), MG G3 → Fr nX12_tellsFull jX12_tellsFull G G3 → ((Fr [a_build, a_stackOf] [102, 36] G G3) ∧ (z3 ≤ 200) ∧ ((gS G 1000 102) ≤ (gS G3 1000 102) ∧ (gS G3 1000 102) + z3 ≤ (gS G 1000 102) + (gS G a_fSize (t).toNat)) ∧ (Stk G3 G a_stackOf a_fSize ((gS G 1000 26)) ((gS G3 1000 36)) z3)) → (z3).toNat < n3 → WP kX12_tellsFull X 12 [some (2, ((1000 : Nat) : Int)), some (0, t), none] [] G3 := by
    intro n3
    induction n3 with
    | zero => intro z3 G3 hMG3 hFG3 hi3 hm3; exact absurd hm3 (Nat.not_lt_zero _)
    | succ n3 ih3 =>
      intro z3 G3 hMG3 hFG3 hi3 hm3
      have hj3 := hi3
      obtain ⟨ir3, il3, ib3, iz3⟩ := hi3
      have hlb3 := iz3.le (fun x x0 x1 => (hFU.sz x0 x1).1)
      have iFU3 : FU G3 := hFU.agr (ir3.agr (by decide) (by decide) (by decide)) (by rw [ir3.atF (j := 42) (by decide) (by decide)]; exact Int.le_refl _)
      have iff3 : (gS G3 1000 26) = (gS G 1000 26) := ir3.atF (by decide) (by decide)
      have itt3 : (gS G3 1000 42) = (gS G 1000 42) := ir3.atF (by decide) (by decide)
      refine s_aload_n dX12_tellsFull_12 rfl (Int.natCast_nonneg _) ?_
      refine gf_stack rfl dX12_tellsFull_13 hMG3 rfl ?_
      refine s_if_le (tgt := 147) dX12_tellsFull_16 (by decide) (fun c4 => ?_) (fun c4 => ?_)
      · -- 16 to 147
        exact s_vret hR dX12_tellsFull_147 rfl (hQ G3 hMG3 (⟨hFG3, ⟨ib3.1, by omega⟩⟩))
      · -- 16 to 19
        refine s_aload_n dX12_tellsFull_19 rfl (Int.natCast_nonneg _) ?_
        refine s_dup dX12_tellsFull_20 (by decide) ?_
        refine gf_stack rfl dX12_tellsFull_21 hMG3 rfl ?_
        refine s_iconst dX12_tellsFull_24 (by decide) ?_
        refine s_isub dX12_tellsFull_25 (by omega) ?_
        refine pf_stack rfl dX12_tellsFull_26 hMG3 (fun G5 eG5 hMG5 => ?_)
        have hFG5 : Fr nX12_tellsFull jX12_tellsFull G G5 := Fr.setF hFG3 eG5 (by decide)
        refine s_aload_n dX12_tellsFull_29 rfl (Int.natCast_nonneg _) ?_
        refine gf_stackOf rfl dX12_tellsFull_30 hMG5 ?_
        refine s_aload_n dX12_tellsFull_33 rfl (Int.natCast_nonneg _) ?_
        refine gf_stack rfl dX12_tellsFull_34 hMG5 (gsaE eG5) ?_
        refine s_iald dX12_tellsFull_37 (mg_a_stackOf hMG5) (by omega) (by omega) (gsnE eG5 (by decide)) ?_
        refine s_istore_n dX12_tellsFull_38 (by decide) (lv' := [some (2, ((1000 : Nat) : Int)), some (0, t), some (0, gS G3 a_stackOf (((gS G3 1000 36) - 1).toNat))]) rfl ?_
        have hpp3 := iz3.pop (G' := G5) (by omega) (fun j => gsnE eG5 (by decide))
        have hx3 := hpp3.1
        have hle3 := hpp3.2.le (fun x x0 x1 => (hFU.sz x0 x1).1)
        have hsz3 := hFU.sz hx3.1 hx3.2
        have hxi3 : gS G3 a_stackOf (((gS G3 1000 36) - 1).toNat) < (gS G3 1000 26) := by omega
        have hkd3 := iFU3.kd hx3.1 hxi3
        have hst3 := iFU3.st hx3.1 hxi3
        have hop3 := iFU3.op hx3.1 hxi3
        have hpr3 := hFU.pr hx3.1 hx3.2
        have hps3 := fun a => hFU.ps hx3.1 hx3.2 a (by omega)
        have hpq3 := hpp3.2
        clear hpp3
        have hek3 : ∀ j : Nat, gS G5 a_fKind j = gS G a_fKind j := fun j => ((Fr.setF (Fr.rf) eG5 (by decide) : Fr [] [36] G3 G5).atA (by decide) (by decide)).trans (ir3.atA (by decide) (by decide))
        have hea3 : ∀ j : Nat, gS G5 a_fA j = gS G a_fA j := fun j => ((Fr.setF (Fr.rf) eG5 (by decide) : Fr [] [36] G3 G5).atA (by decide) (by decide)).trans (ir3.atA (by decide) (by decide))
        have heb3 : ∀ j : Nat, gS G5 a_fB j = gS G a_fB j := fun j => ((Fr.setF (Fr.rf) eG5 (by decide) : Fr [] [36] G3 G5).atA (by decide) (by decide)).trans (ir3.atA (by decide) (by decide))
        generalize hqq3 : gS G3 a_stackOf (((gS G3 1000 36) - 1).toNat) = q3 at *
        have hzek3 : (gS G3 a_fKind (q3).toNat) = (gS G a_fKind (q3).toNat) := ir3.atA (by decide) (by decide)
        have hzea3 : (gS G3 a_fA (q3).toNat) = (gS G a_fA (q3).toNat) := ir3.atA (by decide) (by decide)
        have hzeb3 : (gS G3 a_fB (q3).toNat) = (gS G a_fB (q3).toNat) := ir3.atA (by decide) (by decide)
        refine s_aload_n dX12_tellsFull_39 rfl (Int.natCast_nonneg _) ?_
        refine s_aload_n dX12_tellsFull_40 rfl (Int.natCast_nonneg _) ?_
        refine gf_fKind rfl dX12_tellsFull_41 hMG5 ?_
        refine s_iload_n dX12_tellsFull_44 rfl ?_
        refine s_iald dX12_tellsFull_45 (mg_a_fKind hMG5) (by omega) (by omega) (gsnE eG5 (by decide)) ?_
        refine s_iconst dX12_tellsFull_46 (by decide) ?_
        have J7 : ∀ z6 : Int, ((¬ (gS G3 a_fKind ((q3).toNat)) = 2) ∧ (¬ (gS G3 a_fKind ((q3).toNat)) = 1) ∧ z6 = gS G3 a_fKind ((q3).toNat)) ∨ ((¬ (gS G3 a_fKind ((q3).toNat)) = 2) ∧ ((gS G3 a_fKind ((q3).toNat)) = 1) ∧ z6 = 4 + (gS G3 a_fA ((q3).toNat))) ∨ (((gS G3 a_fKind ((q3).toNat)) = 2) ∧ z6 = 10 + (gS G3 a_fA ((q3).toNat))) → WP kX12_tellsFull X 89 [some (2, ((1000 : Nat) : Int)), some (0, t), some (0, q3)] [(0, z6), (2, ((1000 : Nat) : Int))] G5 := by
          intro z6 hz6
          have hbw9 : (gS G5 1000 102) = (gS G3 1000 102) := (gsjE eG5 (by decide))
          refine cv_X12_610 rfl gX12_tellsOf dX12_tellsFull_89 hMG5 (by rw [hcf]; decide) (as := [(0, z6)]) rfl (Nat.le_of_ble_eq_true rfl) ⟨z6, rfl, hMG5, (by omega), fun G8 hMG8 hpG8 => ?_⟩
          obtain ⟨G10, eG10, eG8, hpG8⟩ := hpG8
          have hFG10 : Fr nX12_tellsFull jX12_tellsFull G G10 := Fr.setA hFG5 eG10 (by decide)
          have hFG8 : Fr nX12_tellsFull jX12_tellsFull G G8 := Fr.setF hFG10 eG8 (by decide)
          show WP kX12_tellsFull X 92 [some (2, ((1000 : Nat) : Int)), some (0, t), some (0, q3)] [] G8
          have hek9 : (gS G8 a_fKind (q3).toNat) = (gS G a_fKind (q3).toNat) := ((Fr.setF (Fr.setA (Fr.setF (Fr.rf) eG5 (by decide)) eG10 (by decide)) eG8 (by decide) : Fr [a_build] [36, 102] G3 G8).atA (by decide) (by decide)).trans (ir3.atA (by decide) (by decide))
          refine s_aload_n dX12_tellsFull_92 rfl (Int.natCast_nonneg _) ?_
          refine gf_fKind rfl dX12_tellsFull_93 hMG8 ?_
          refine s_iload_n dX12_tellsFull_96 rfl ?_
          refine s_iald dX12_tellsFull_97 (mg_a_fKind hMG8) (by omega) (by omega) (Eq.trans (gsnE eG8 (by decide)) (Eq.trans (gsnE eG10 (by decide)) (gsnE eG5 (by decide)))) ?_
          refine s_iconst dX12_tellsFull_98 (by decide) ?_
          refine s_icmp_ne (tgt := 144) dX12_tellsFull_99 (by decide) (fun c11 => ?_) (fun c11 => ?_)
          · -- 99 to 144
            refine s_goto (tgt := 12) dX12_tellsFull_144 (by decide) ?_
            refine s_mask [true, true, false] (lv' := [some (2, ((1000 : Nat) : Int)), some (0, t), none]) rfl ?_
            exact ih3 (z3 - (gS G a_fSize (q3).toNat)) G8 hMG8 hFG8 (⟨(by exact Fr.call ir3 (Fr.setF (Fr.setA (Fr.setF (Fr.rf) eG5 (by decide)) eG10 (by decide)) eG8 (by decide) : Fr [a_build] [36, 102] G3 G8) (by decide) (by decide)), (by omega), (by rw [(gsaE eG8)]; omega), (by have p2 := hpq3.same (G' := G8) (fun j => (Fr.setF (Fr.setA (Fr.rf) eG10 (by decide)) eG8 (by decide) : Fr [a_build] [102] G5 G8).atA (by decide) (by decide)); rw [show (gS G8 1000 36) = (gS G3 1000 36) - 1 by rw [(Eq.trans (gsjE eG8 (by decide)) (Eq.trans (gsnE eG10 (by decide)) (gsaE eG5)))]]; exact p2)⟩) (by omega)
          · -- 99 to 102
            refine s_aload_n dX12_tellsFull_102 rfl (Int.natCast_nonneg _) ?_
            refine gf_stackOf rfl dX12_tellsFull_103 hMG8 ?_
            refine s_aload_n dX12_tellsFull_106 rfl (Int.natCast_nonneg _) ?_
            refine gf_stack rfl dX12_tellsFull_107 hMG8 (Eq.trans (gsjE eG8 (by decide)) (Eq.trans (gsnE eG10 (by decide)) (gsaE eG5))) ?_
            refine s_aload_n dX12_tellsFull_110 rfl (Int.natCast_nonneg _) ?_
            refine gf_fB rfl dX12_tellsFull_111 hMG8 ?_
            refine s_iload_n dX12_tellsFull_114 rfl ?_
            refine s_iald dX12_tellsFull_115 (mg_a_fB hMG8) (by omega) (by omega) (Eq.trans (gsnE eG8 (by decide)) (Eq.trans (gsnE eG10 (by decide)) (gsnE eG5 (by decide)))) ?_
            rw [show gS G3 a_fB ((q3).toNat) = (gS G a_fB (q3).toNat) from by first | exact heb3 _ | exact (ir3.atA (by decide) (by decide))]
            refine r_iast dX12_tellsFull_116 hMG8 (mg_a_stackOf hMG8) (by decide) (by omega) (by omega) (fun G12 eG12 hMG12 => ?_)
            have hFG12 : Fr nX12_tellsFull jX12_tellsFull G G12 := Fr.setA hFG8 eG12 (by decide)
            show WP kX12_tellsFull X 117 [some (2, ((1000 : Nat) : Int)), some (0, t), some (0, q3)] [] G12
            refine s_aload_n dX12_tellsFull_117 rfl (Int.natCast_nonneg _) ?_
            refine gf_stackOf rfl dX12_tellsFull_118 hMG12 ?_
            refine s_aload_n dX12_tellsFull_121 rfl (Int.natCast_nonneg _) ?_
            refine gf_stack rfl dX12_tellsFull_122 hMG12 (Eq.trans (gsnE eG12 (by decide)) (Eq.trans (gsjE eG8 (by decide)) (Eq.trans (gsnE eG10 (by decide)) (gsaE eG5)))) ?_
            refine s_iconst dX12_tellsFull_125 (by decide) ?_
            refine s_iadd dX12_tellsFull_126 (by omega) ?_
            refine s_aload_n dX12_tellsFull_127 rfl (Int.natCast_nonneg _) ?_
            refine gf_fA rfl dX12_tellsFull_128 hMG12 ?_
            refine s_iload_n dX12_tellsFull_131 rfl ?_
            refine s_iald dX12_tellsFull_132 (mg_a_fA hMG12) (by omega) (by omega) (Eq.trans (gsnE eG12 (by decide)) (Eq.trans (gsnE eG8 (by decide)) (Eq.trans (gsnE eG10 (by decide)) (gsnE eG5 (by decide))))) ?_
            rw [show gS G3 a_fA ((q3).toNat) = (gS G a_fA (q3).toNat) from by first | exact hea3 _ | exact (ir3.atA (by decide) (by decide))]
            refine r_iast dX12_tellsFull_133 hMG12 (mg_a_stackOf hMG12) (by decide) (by omega) (by omega) (fun G13 eG13 hMG13 => ?_)
            have hFG13 : Fr nX12_tellsFull jX12_tellsFull G G13 := Fr.setA hFG12 eG13 (by decide)
            show WP kX12_tellsFull X 134 [some (2, ((1000 : Nat) : Int)), some (0, t), some (0, q3)] [] G13
            refine s_aload_n dX12_tellsFull_134 rfl (Int.natCast_nonneg _) ?_
            refine s_dup dX12_tellsFull_135 (by decide) ?_
            refine gf_stack rfl dX12_tellsFull_136 hMG13 (Eq.trans (gsnE eG13 (by decide)) (Eq.trans (gsnE eG12 (by decide)) (Eq.trans (gsjE eG8 (by decide)) (Eq.trans (gsnE eG10 (by decide)) (gsaE eG5))))) ?_
            refine s_iconst dX12_tellsFull_139 (by decide) ?_
            refine s_iadd dX12_tellsFull_140 (by omega) ?_
            refine pf_stack rfl dX12_tellsFull_141 hMG13 (fun G14 eG14 hMG14 => ?_)
            have hFG14 : Fr nX12_tellsFull jX12_tellsFull G G14 := Fr.setF hFG13 eG14 (by decide)
            refine s_goto (tgt := 12) dX12_tellsFull_144 (by decide) ?_
            refine s_mask [true, true, false] (lv' := [some (2, ((1000 : Nat) : Int)), some (0, t), none]) rfl ?_
            exact ih3 (z3 - (gS G a_fSize (q3).toNat) + (gS G a_fSize ((gS G a_fA (q3).toNat)).toNat) + (gS G a_fSize ((gS G a_fB (q3).toNat)).toNat)) G14 hMG14 hFG14 (⟨(by exact Fr.call ir3 (Fr.setF (Fr.setA (Fr.setA (Fr.setF (Fr.setA (Fr.setF (Fr.rf) eG5 (by decide)) eG10 (by decide)) eG8 (by decide)) eG12 (by decide)) eG13 (by decide)) eG14 (by decide) : Fr [a_build, a_stackOf] [36, 102] G3 G14) (by decide) (by decide)), (by omega), (by rw [(Eq.trans (gsjE eG14 (by decide)) (Eq.trans (gsnE eG13 (by decide)) (Eq.trans (gsnE eG12 (by decide)) (gsaE eG8))))]; omega), (by have p2 := hpq3.same (G' := G8) (fun j => (Fr.setF (Fr.setA (Fr.rf) eG10 (by decide)) eG8 (by decide) : Fr [a_build] [102] G5 G8).atA (by decide) (by decide)); have p3 := p2.push (G' := G12) (x := (gS G a_fB (q3).toNat)) ⟨by omega, by omega⟩ (fun j => by rw [g_upd eG12]); have p4 := p3.push (G' := G13) (x := (gS G a_fA (q3).toNat)) ⟨by omega, by omega⟩ (fun j => by rw [g_upd eG13, show (gS G3 1000 36) - 1 + 1 = (gS G3 1000 36) - 1 + 1 from rfl]); have p5 := p4.same (G' := G14) (fun j => gsnE eG14 (by decide)); rw [show (gS G14 1000 36) = (gS G3 1000 36) - 1 + 1 + 1 by rw [gsaE eG14]; omega, show z3 - (gS G a_fSize (q3).toNat) + (gS G a_fSize ((gS G a_fA (q3).toNat)).toNat) + (gS G a_fSize ((gS G a_fB (q3).toNat)).toNat) = z3 - (gS G a_fSize (q3).toNat) + (gS G a_fSize ((gS G a_fB (q3).toNat)).toNat) + (gS G a_fSize ((gS G a_fA (q3).toNat)).toNat) by omega]; exact p5)⟩) (by omega)
        refine s_icmp_ne (tgt := 62) dX12_tellsFull_47 (by decide) (fun c15 => ?_) (fun c15 => ?_)
        · -- 47 to 62
          refine s_aload_n dX12_tellsFull_62 rfl (Int.natCast_nonneg _) ?_
          refine gf_fKind rfl dX12_tellsFull_63 hMG5 ?_
          refine s_iload_n dX12_tellsFull_66 rfl ?_
          refine s_iald dX12_tellsFull_67 (mg_a_fKind hMG5) (by omega) (by omega) (gsnE eG5 (by decide)) ?_
          refine s_iconst dX12_tellsFull_68 (by decide) ?_
          refine s_icmp_ne (tgt := 83) dX12_tellsFull_69 (by decide) (fun c16 => ?_) (fun c16 => ?_)
          · -- 69 to 83
            refine s_aload_n dX12_tellsFull_83 rfl (Int.natCast_nonneg _) ?_
            refine gf_fKind rfl dX12_tellsFull_84 hMG5 ?_
            refine s_iload_n dX12_tellsFull_87 rfl ?_
            refine s_iald dX12_tellsFull_88 (mg_a_fKind hMG5) (by omega) (by omega) (gsnE eG5 (by decide)) ?_
            exact J7 _ (Or.inl ⟨c15, c16, rfl⟩)
          · -- 69 to 72
            refine s_iconst dX12_tellsFull_72 (by decide) ?_
            refine s_aload_n dX12_tellsFull_73 rfl (Int.natCast_nonneg _) ?_
            refine gf_fA rfl dX12_tellsFull_74 hMG5 ?_
            refine s_iload_n dX12_tellsFull_77 rfl ?_
            refine s_iald dX12_tellsFull_78 (mg_a_fA hMG5) (by omega) (by omega) (gsnE eG5 (by decide)) ?_
            refine s_iadd dX12_tellsFull_79 (by omega) ?_
            refine s_goto (tgt := 89) dX12_tellsFull_80 (by decide) ?_
            exact J7 _ (Or.inr (Or.inl ⟨c15, c16, rfl⟩))
        · -- 47 to 50
          refine s_bipush dX12_tellsFull_50 rfl (by decide) ?_
          refine s_aload_n dX12_tellsFull_52 rfl (Int.natCast_nonneg _) ?_
          refine gf_fA rfl dX12_tellsFull_53 hMG5 ?_
          refine s_iload_n dX12_tellsFull_56 rfl ?_
          refine s_iald dX12_tellsFull_57 (mg_a_fA hMG5) (by omega) (by omega) (gsnE eG5 (by decide)) ?_
          refine s_iadd dX12_tellsFull_58 (by omega) ?_
          refine s_goto (tgt := 89) dX12_tellsFull_59 (by decide) ?_
          exact J7 _ (Or.inr (Or.inr (⟨c15, rfl⟩)))
  exact L3 _ ((gS G a_fSize (t).toNat)) G2 hMG2 hFG2 (⟨(by exact Fr.call Fr.rf (Fr.setA (Fr.setF (Fr.rf) eG1 (by decide)) eG2 (by decide) : Fr [a_stackOf] [36] G G2) (by decide) (by decide)), (by omega), (by rw [(Eq.trans (gsnE eG2 (by decide)) (gsjE eG1 (by decide)))]; omega), (by rw [(Eq.trans (gsnE eG2 (by decide)) (gsaE eG1))]; exact Stk.one ht (gsaE eG2))⟩) (Nat.lt_succ_self _)
