abbrev nX12_lays : List Nat := [a_versionAt, a_above, a_cellAt, a_cellOf, a_table, a_workOn, a_workPhase]
abbrev jX12_lays : List Nat := [63, 67, 69, 73]
def TX12_lays : TR := fun as G Qr => ∃ (N : Int) (S : Int → Prop), as = [(2, ((1000 : Nat) : Int)), (0, N)] ∧ MG G ∧ (ND G) ∧ (UV G) ∧ (RG G S) ∧ (S N) ∧ (∀ m : Int, S m → m ≤ N → (gS G a_nKind (m).toNat) = 4 → (gS G a_choiceCode (m).toNat) = 0 → (gS G a_taken (m).toNat) = (gS G a_nFirst (m).toNat) ∨ (gS G a_taken (m).toNat) = (gS G a_nSecond (m).toNat)) ∧ ∀ (r : Int) (G' : LG), MG G' → (Fr nX12_lays jX12_lays G G' ∧ (r = 0 → ∃ I : Int, IN G' I (10 * I) ∧ TGd G' 0 N (10 * I))) → Qr (.inl (some (0, r))) G'
set_option maxHeartbeats 4000000 in
set_option maxRecDepth 100000 in
theorem gX12_lays : Good kX12_lays yX12_lays 3 TX12_lays := by
  refine good_of (by decide) rfl rfl (fun as G Qr h => ?_) (fun X as G Qr hcf hR hT oa => ?_)
  · obtain ⟨N, S, rfl, -⟩ := h; exact Nat.le_of_ble_eq_true rfl
  obtain ⟨N, S, rfl, hM, hND, hUV, hS, hN, hCh, hQ⟩ := hT
  show WP kX12_lays X 0 [some (2, ((1000 : Nat) : Int)), some (0, N), none, none] [] G
  have hr_N : inR N := okv_R (oa _ (by simp))
  have hSw : ∀ m, S m → 1 ≤ (gS G a_nWeight (m).toNat) := fun m hm => (hND.w (hS m hm).1.1 (hS m hm).1.2).2.1.1
  have hN0 := (hS N hN).1
  have hNw := (hND.w hN0.1 hN0.2).2.1
  have hn40 := hND.1
  have hU1 := hUV.1
  refine s_aload_n dX12_lays_0 rfl (Int.natCast_nonneg _) ?_
  refine s_iconst dX12_lays_1 (by decide) ?_
  refine pf_instances rfl dX12_lays_2 hM (fun G1 eG1 hMG1 => ?_)
  have hFG1 : Fr nX12_lays jX12_lays G G1 := Fr.setF Fr.rf eG1 (by decide)
  refine s_aload_n dX12_lays_5 rfl (Int.natCast_nonneg _) ?_
  refine s_iconst dX12_lays_6 (by decide) ?_
  refine pf_cells rfl dX12_lays_7 hMG1 (fun G2 eG2 hMG2 => ?_)
  have hFG2 : Fr nX12_lays jX12_lays G G2 := Fr.setF hFG1 eG2 (by decide)
  refine s_aload_n dX12_lays_10 rfl (Int.natCast_nonneg _) ?_
  refine s_iconst dX12_lays_11 (by decide) ?_
  refine pf_tables rfl dX12_lays_12 hMG2 (fun G3 eG3 hMG3 => ?_)
  have hFG3 : Fr nX12_lays jX12_lays G G3 := Fr.setF hFG2 eG3 (by decide)
  refine s_aload_n dX12_lays_15 rfl (Int.natCast_nonneg _) ?_
  refine s_iconst dX12_lays_16 (by decide) ?_
  refine pf_works rfl dX12_lays_17 hMG3 (fun G4 eG4 hMG4 => ?_)
  have hFG4 : Fr nX12_lays jX12_lays G G4 := Fr.setF hFG3 eG4 (by decide)
  refine s_aload_n dX12_lays_20 rfl (Int.natCast_nonneg _) ?_
  refine s_iload_n dX12_lays_21 rfl ?_
  refine s_iconst dX12_lays_22 (by decide) ?_
  have hwk : (gS G4 1000 73) = 0 := by rw [(gsaE eG4)]
  refine cv_X12_506 rfl gX12_work dX12_lays_23 hMG4 (by rw [hcf]; decide) (as := [(0, N), (0, 0)]) rfl (Nat.le_of_ble_eq_true rfl) ⟨N, 0, rfl, hMG4, (by first | assumption | omega), fun G5 hMG5 hpG5 => ?_⟩
  obtain ⟨G7, G8, eG7, eG8, eG5, hpG5⟩ := hpG5
  have hFG7 : Fr nX12_lays jX12_lays G G7 := Fr.setA hFG4 eG7 (by decide)
  have hFG8 : Fr nX12_lays jX12_lays G G8 := Fr.setA hFG7 eG8 (by decide)
  have hFG5 : Fr nX12_lays jX12_lays G G5 := Fr.setF hFG8 eG5 (by decide)
  show WP kX12_lays X 26 [some (2, ((1000 : Nat) : Int)), some (0, N), none, none] [] G5
  have L9 : ∀ (n9 : Nat) (st9 : List (Int × Int)) (tb9 : List Int) (G9 : LG), MG G9 → Fr nX12_lays jX12_lays G G9 → ((WR G9 G S N st9 ((gS G9 1000 73))) ∧ (TBR G9 (10 * (gS G9 1000 63)) tb9 ((gS G9 1000 69))) ∧ (PRC G N st9 tb9) ∧ (IN G9 ((gS G9 1000 63)) (10 * (gS G9 1000 63))) ∧ (wsum G st9 ≤ 48 ∧ (gS G9 1000 63) + usum G st9 ≤ 24)) → (wsum G st9).toNat < n9 → WP kX12_lays X 26 [some (2, ((1000 : Nat) : Int)), some (0, N), none, none] [] G9 := by
    intro n9
    induction n9 with
    | zero => intro st9 tb9 G9 hMG9 hFG9 hi9 hm9; exact absurd hm9 (Nat.not_lt_zero _)
    | succ n9 ih9 =>
      intro st9 tb9 G9 hMG9 hFG9 hi9 hm9
      have hj9 := hi9
      obtain ⟨iW9, iT9, iP9, iI9, iz9⟩ := hi9
      have hlen9 := iW9.len hSw
      refine s_aload_n dX12_lays_26 rfl (Int.natCast_nonneg _) ?_
      refine gf_works rfl dX12_lays_27 hMG9 rfl ?_
      refine s_if_le (tgt := 173) dX12_lays_30 (by decide) (fun c10 => ?_) (fun c10 => ?_)
      · -- 30 to 173
        refine s_iconst dX12_lays_173 (by decide) ?_
        exact s_iret hR dX12_lays_174 rfl (hQ _ G9 hMG9 (⟨hFG9, fun _ => by cases st9 with | nil => (have z1 : tb9 = [N] := iP9; subst z1; obtain ⟨z2, z3, z4⟩ := iT9; have z5 : (gS G9 1000 69) - 1 = 0 := z4; rw [z5] at z3; exact ⟨_, iI9, z3⟩) | cons a st => (obtain ⟨n, p⟩ := a; have := iW9.1; omega)⟩))
      · -- 30 to 33
        obtain ⟨nn9, pp9, sq9, rfl, ⟨ho9, hp9⟩, ⟨hs9, hl9⟩, hph9, hW9⟩ := iW9.pos (by omega)
        have hnn9 := hS nn9 hs9
        have hw9 := fun (_ : Unit) => hND.w hnn9.1.1 hnn9.1.2
        have hnk9 := (hw9 ()).1
        have hnw9 := (hw9 ()).2.1
        have es9 : wsum G ((nn9, pp9) :: sq9) = (if pp9 = 0 then 2 * (gS G a_nWeight (nn9).toNat) else 1) + wsum G sq9 := rfl
        have eu9 : usum G ((nn9, pp9) :: sq9) = (if pp9 = 0 then (gS G a_nWeight (nn9).toNat) else 0) + usum G sq9 := rfl
        have hlq9 := hW9.len hSw
        have hnkd9 : (gS G9 a_nKind (nn9).toNat) = (gS G a_nKind (nn9).toNat) := hFG9.atA (by decide) (by decide)
        have hnfi9 : (gS G9 a_nFirst (nn9).toNat) = (gS G a_nFirst (nn9).toNat) := hFG9.atA (by decide) (by decide)
        have hnse9 : (gS G9 a_nSecond (nn9).toNat) = (gS G a_nSecond (nn9).toNat) := hFG9.atA (by decide) (by decide)
        have hncc9 : (gS G9 a_choiceCode (nn9).toNat) = (gS G a_choiceCode (nn9).toNat) := hFG9.atA (by decide) (by decide)
        have hntk9 : (gS G9 a_taken (nn9).toNat) = (gS G a_taken (nn9).toNat) := hFG9.atA (by decide) (by decide)
        refine s_aload_n dX12_lays_33 rfl (Int.natCast_nonneg _) ?_
        refine s_dup dX12_lays_34 (by decide) ?_
        refine gf_works rfl dX12_lays_35 hMG9 rfl ?_
        refine s_iconst dX12_lays_38 (by decide) ?_
        refine s_isub dX12_lays_39 (by omega) ?_
        refine pf_works rfl dX12_lays_40 hMG9 (fun G11 eG11 hMG11 => ?_)
        have hFG11 : Fr nX12_lays jX12_lays G G11 := Fr.setF hFG9 eG11 (by decide)
        refine s_aload_n dX12_lays_43 rfl (Int.natCast_nonneg _) ?_
        refine gf_workOn rfl dX12_lays_44 hMG11 ?_
        refine s_aload_n dX12_lays_47 rfl (Int.natCast_nonneg _) ?_
        refine gf_works rfl dX12_lays_48 hMG11 (gsaE eG11) ?_
        refine s_iald dX12_lays_51 (mg_a_workOn hMG11) (by omega) (by omega) (gsnE eG11 (by decide)) ?_
        refine s_istore_n dX12_lays_52 (by decide) (lv' := [some (2, ((1000 : Nat) : Int)), some (0, N), some (0, gS G9 a_workOn (((gS G9 1000 73) - 1).toNat)), none]) rfl ?_
        rw [show gS G9 a_workOn (((gS G9 1000 73) - 1).toNat) = nn9 from ho9]
        refine s_aload_n dX12_lays_53 rfl (Int.natCast_nonneg _) ?_
        refine gf_nKind rfl dX12_lays_54 hMG11 ?_
        refine s_iload_n dX12_lays_57 rfl ?_
        refine s_iald dX12_lays_58 (mg_a_nKind hMG11) (by omega) (by omega) (gsnE eG11 (by decide)) ?_
        refine s_istore_n dX12_lays_59 (by decide) (lv' := [some (2, ((1000 : Nat) : Int)), some (0, N), some (0, nn9), some (0, gS G9 a_nKind ((nn9).toNat))]) rfl ?_
        refine s_aload_n dX12_lays_60 rfl (Int.natCast_nonneg _) ?_
        refine gf_workPhase rfl dX12_lays_61 hMG11 ?_
        refine s_aload_n dX12_lays_64 rfl (Int.natCast_nonneg _) ?_
        refine gf_works rfl dX12_lays_65 hMG11 (gsaE eG11) ?_
        refine s_iald dX12_lays_68 (mg_a_workPhase hMG11) (by omega) (by omega) (gsnE eG11 (by decide)) ?_
        refine s_iconst dX12_lays_69 (by decide) ?_
        refine s_icmp_ne (tgt := 81) dX12_lays_70 (by decide) (fun c12 => ?_) (fun c12 => ?_)
        · -- 70 to 81
          refine s_iload_n dX12_lays_81 rfl ?_
          refine s_if_ne (tgt := 97) dX12_lays_82 (by decide) (fun c13 => ?_) (fun c13 => ?_)
          · -- 82 to 97
            have hp09 : pp9 = 0 := by omega
            have hP9 := (iP9.resolve_right (fun z => by have := z.1; omega)).2
            rw [if_pos hp09] at es9 eu9
            clear hph9
            refine s_iload_n dX12_lays_97 rfl ?_
            refine s_iconst dX12_lays_98 (by decide) ?_
            refine s_icmp_ne (tgt := 118) dX12_lays_99 (by decide) (fun c14 => ?_) (fun c14 => ?_)
            · -- 99 to 118
              have hwk0 : (gS G11 1000 73) = (gS G9 1000 73) - 1 := by rw [(gsaE eG11)]
              refine s_aload_n dX12_lays_118 rfl (Int.natCast_nonneg _) ?_
              refine s_iload_n dX12_lays_119 rfl ?_
              refine s_iconst dX12_lays_120 (by decide) ?_
              refine cv_X12_506 rfl gX12_work dX12_lays_121 hMG11 (by rw [hcf]; decide) (as := [(0, nn9), (0, 1)]) rfl (Nat.le_of_ble_eq_true rfl) ⟨nn9, 1, rfl, hMG11, (by first | assumption | omega), fun G15 hMG15 hpG15 => ?_⟩
              obtain ⟨G17, G18, eG17, eG18, eG15, hpG15⟩ := hpG15
              have hFG17 : Fr nX12_lays jX12_lays G G17 := Fr.setA hFG11 eG17 (by decide)
              have hFG18 : Fr nX12_lays jX12_lays G G18 := Fr.setA hFG17 eG18 (by decide)
              have hFG15 : Fr nX12_lays jX12_lays G G15 := Fr.setF hFG18 eG15 (by decide)
              show WP kX12_lays X 124 [some (2, ((1000 : Nat) : Int)), some (0, N), some (0, nn9), some (0, gS G9 a_nKind ((nn9).toNat))] [] G15
              have hwk1 : (gS G15 1000 73) = (gS G9 1000 73) - 1 + 1 := by rw [(gsaE eG15)]; omega
              refine s_iload_n dX12_lays_124 rfl ?_
              refine s_iconst dX12_lays_125 (by decide) ?_
              refine s_icmp_eq (tgt := 134) dX12_lays_126 (by decide) (fun c19 => ?_) (fun c19 => ?_)
              · -- 126 to 134
                refine s_aload_n dX12_lays_134 rfl (Int.natCast_nonneg _) ?_
                refine s_aload_n dX12_lays_135 rfl (Int.natCast_nonneg _) ?_
                refine gf_nSecond rfl dX12_lays_136 hMG15 ?_
                refine s_iload_n dX12_lays_139 rfl ?_
                refine s_iald dX12_lays_140 (mg_a_nSecond hMG15) (by omega) (by omega) (Eq.trans (gsnE eG15 (by decide)) (Eq.trans (gsnE eG18 (by decide)) (Eq.trans (gsnE eG17 (by decide)) (gsnE eG11 (by decide))))) ?_
                refine s_iconst dX12_lays_141 (by decide) ?_
                refine cv_X12_506 rfl gX12_work dX12_lays_142 hMG15 (by rw [hcf]; decide) (as := [(0, gS G9 a_nSecond ((nn9).toNat)), (0, 0)]) rfl (Nat.le_of_ble_eq_true rfl) ⟨gS G9 a_nSecond ((nn9).toNat), 0, rfl, hMG15, (by first | assumption | omega), fun G20 hMG20 hpG20 => ?_⟩
                obtain ⟨G22, G23, eG22, eG23, eG20, hpG20⟩ := hpG20
                have hFG22 : Fr nX12_lays jX12_lays G G22 := Fr.setA hFG15 eG22 (by decide)
                have hFG23 : Fr nX12_lays jX12_lays G G23 := Fr.setA hFG22 eG23 (by decide)
                have hFG20 : Fr nX12_lays jX12_lays G G20 := Fr.setF hFG23 eG20 (by decide)
                show WP kX12_lays X 145 [some (2, ((1000 : Nat) : Int)), some (0, N), some (0, nn9), some (0, gS G9 a_nKind ((nn9).toNat))] [] G20
                have hwk2 : (gS G20 1000 73) = (gS G9 1000 73) - 1 + 1 + 1 := by rw [(gsaE eG20)]; omega
                refine s_aload_n dX12_lays_145 rfl (Int.natCast_nonneg _) ?_
                refine s_iload_n dX12_lays_146 rfl ?_
                refine s_iconst dX12_lays_147 (by decide) ?_
                have J25 : ∀ z24 : Int, ((¬ (gS G9 a_nKind ((nn9).toNat)) = 4) ∧ z24 = gS G9 a_nFirst ((nn9).toNat)) ∨ (((gS G9 a_nKind ((nn9).toNat)) = 4) ∧ z24 = gS G9 a_taken ((nn9).toNat)) → WP kX12_lays X 166 [some (2, ((1000 : Nat) : Int)), some (0, N), some (0, nn9), some (0, gS G9 a_nKind ((nn9).toNat))] [(0, z24), (2, ((1000 : Nat) : Int))] G20 := by
                  intro z24 hz24
                  refine s_iconst dX12_lays_166 (by decide) ?_
                  have hfi9 : z24 = (gS G a_nFirst (nn9).toNat) := by omega
                  have hse9 : (gS G9 a_nSecond (nn9).toNat) = (gS G a_nSecond (nn9).toNat) := hnse9
                  have hx1 : S z24 := by
                    rw [hfi9]; exact hS.p1 hs9 (by omega)
                  have hpa9 := fun k k0 k1 => (hND.part (k := k) hnn9.1.1 hnn9.1.2 k0 k1).2
                  have hf9 := hpa9 0 (by omega) (nMany.k.1 (by omega))
                  rw [show nPart G nn9 0 = (gS G a_nFirst (nn9).toNat) from rfl] at hf9
                  have hg9 : (gS G a_nKind (nn9).toNat) ≤ 4 → (gS G a_nSecond (nn9).toNat) < nn9 := fun q => hpa9 1 (by omega) (nMany.k.2.1 (by omega))
                  clear hpa9
                  have hq4 : (gS G a_nKind (nn9).toNat) = 4 → z24 = (gS G a_nFirst (nn9).toNat) ∨ z24 = (gS G a_nSecond (nn9).toNat) := fun q4 => by have q5 := hCh nn9 hs9 hl9 q4 (by omega); omega
                  have hy1 : z24 ≤ N := by omega
                  have hqu4 := fun (_ : Unit) => hq4
                  clear hq4
                  have hx9 := (hND.w (hS _ hx1).1.1 (hS _ hx1).1.2).2.1
                  have hx2 : S (gS G9 a_nSecond (nn9).toNat) := by rw [hse9]; exact hS.p2 hs9 (by omega)
                  have hy2 : (gS G9 a_nSecond (nn9).toNat) ≤ N := by omega
                  have hwz9 : wsum G ((z24, 0) :: ((gS G9 a_nSecond ((nn9).toNat)), 0) :: (nn9, 1) :: sq9) + 1 ≤ wsum G ((nn9, pp9) :: sq9) ∧ usum G ((z24, 0) :: ((gS G9 a_nSecond ((nn9).toNat)), 0) :: (nn9, 1) :: sq9) ≤ usum G ((nn9, pp9) :: sq9) := by
                    have w1 := (hw9 ()).2.2.1 (by omega)
                    have t1 : wsum G ((z24, 0) :: ((gS G9 a_nSecond ((nn9).toNat)), 0) :: (nn9, 1) :: sq9) = 2 * (gS G a_nWeight (z24).toNat) + (2 * (gS G a_nWeight ((gS G9 a_nSecond (nn9).toNat)).toNat) + (1 + wsum G sq9)) := rfl
                    have t2 : usum G ((z24, 0) :: ((gS G9 a_nSecond ((nn9).toNat)), 0) :: (nn9, 1) :: sq9) = (gS G a_nWeight (z24).toNat) + ((gS G a_nWeight ((gS G9 a_nSecond (nn9).toNat)).toNat) + (0 + usum G sq9)) := rfl
                    rw [hfi9, hse9] at t1 t2
                    rw [es9, eu9]
                    rw [hfi9, hse9, t1, t2]
                    omega
                  refine cv_X12_506 rfl gX12_work dX12_lays_167 hMG20 (by rw [hcf]; decide) (as := [(0, z24), (0, 0)]) rfl (Nat.le_of_ble_eq_true rfl) ⟨z24, 0, rfl, hMG20, (by first | assumption | omega), fun G26 hMG26 hpG26 => ?_⟩
                  obtain ⟨G28, G29, eG28, eG29, eG26, hpG26⟩ := hpG26
                  have hFG28 : Fr nX12_lays jX12_lays G G28 := Fr.setA hFG20 eG28 (by decide)
                  have hFG29 : Fr nX12_lays jX12_lays G G29 := Fr.setA hFG28 eG29 (by decide)
                  have hFG26 : Fr nX12_lays jX12_lays G G26 := Fr.setF hFG29 eG26 (by decide)
                  show WP kX12_lays X 170 [some (2, ((1000 : Nat) : Int)), some (0, N), some (0, nn9), some (0, gS G9 a_nKind ((nn9).toNat))] [] G26
                  refine s_goto (tgt := 26) dX12_lays_170 (by decide) ?_
                  refine s_mask [true, true, false, false] (lv' := [some (2, ((1000 : Nat) : Int)), some (0, N), none, none]) rfl ?_
                  have hfz := (Fr.setF (Fr.setA (Fr.setA (Fr.setF (Fr.setA (Fr.setA (Fr.setF (Fr.setA (Fr.setA (Fr.setF (Fr.rf) eG11 (by decide)) eG17 (by decide)) eG18 (by decide)) eG15 (by decide)) eG22 (by decide)) eG23 (by decide)) eG20 (by decide)) eG28 (by decide)) eG29 (by decide)) eG26 (by decide) : Fr [a_workOn, a_workPhase] [73] G9 G26)
                  have wr0 : WR G11 G S N sq9 ((gS G11 1000 73)) := by rw [hwk0]; exact hW9.cg _ _ (fun j _ _ => ⟨gsnE eG11 (by decide), gsnE eG11 (by decide)⟩)
                  have wr1 : WR G15 G S N ((nn9, 1) :: sq9) ((gS G15 1000 73)) := by rw [show (gS G15 1000 73) = (gS G11 1000 73) + 1 from gsaE eG15]; exact WR.put (G := G11) wr0 (by omega) (fun j => by rw [gsnE eG15 (by decide), gsnE eG18 (by decide), g_upd eG17]) (fun j => by rw [gsnE eG15 (by decide), g_upd eG18, gsnE eG17 (by decide)]) hs9 hl9 (Or.inr ⟨rfl, by omega⟩)
                  have wr2 : WR G20 G S N (((gS G9 a_nSecond ((nn9).toNat)), 0) :: (nn9, 1) :: sq9) ((gS G20 1000 73)) := by rw [show (gS G20 1000 73) = (gS G15 1000 73) + 1 from gsaE eG20]; exact WR.put (G := G15) wr1 (by omega) (fun j => by rw [gsnE eG20 (by decide), gsnE eG23 (by decide), g_upd eG22]) (fun j => by rw [gsnE eG20 (by decide), g_upd eG23, gsnE eG22 (by decide)]) hx2 hy2 (Or.inl rfl)
                  have wr3 : WR G26 G S N ((z24, 0) :: ((gS G9 a_nSecond ((nn9).toNat)), 0) :: (nn9, 1) :: sq9) ((gS G26 1000 73)) := by rw [show (gS G26 1000 73) = (gS G20 1000 73) + 1 from gsaE eG26]; exact WR.put (G := G20) wr2 (by omega) (fun j => by rw [gsnE eG26 (by decide), gsnE eG29 (by decide), g_upd eG28]) (fun j => by rw [gsnE eG26 (by decide), g_upd eG29, gsnE eG28 (by decide)]) hx1 hy1 (Or.inl rfl)
                  exact ih9 ((z24, 0) :: ((gS G9 a_nSecond ((nn9).toNat)), 0) :: (nn9, 1) :: sq9) tb9 G26 hMG26 hFG26 (⟨(by exact wr3), (by rw [hfz.atF (j := 63) (by decide) (by decide), hfz.atF (j := 69) (by decide) (by decide)]; exact TBR.cg (Int.le_refl _) (fun j => hfz.atA (by decide) (by decide)) _ _ iT9 (fun j _ _ => hfz.atA (by decide) (by decide))), (by exact Or.inl ⟨rfl, Or.inl ⟨rfl, Or.inr ⟨rfl, tb9, Or.inl ⟨by omega, by rw [hse9, hfi9]⟩, hP9⟩⟩⟩), (by rw [hfz.atF (j := 63) (by decide) (by decide)]; exact iI9.agr (hfz.agr (by decide) (by decide) (by decide))), (by rw [hfz.atF (j := 63) (by decide) (by decide)]; have z9 := hwz9; omega)⟩) (by omega)
                refine s_icmp_ne (tgt := 160) dX12_lays_148 (by decide) (fun c30 => ?_) (fun c30 => ?_)
                · -- 148 to 160
                  refine s_aload_n dX12_lays_160 rfl (Int.natCast_nonneg _) ?_
                  refine gf_nFirst rfl dX12_lays_161 hMG20 ?_
                  refine s_iload_n dX12_lays_164 rfl ?_
                  refine s_iald dX12_lays_165 (mg_a_nFirst hMG20) (by omega) (by omega) (Eq.trans (gsnE eG20 (by decide)) (Eq.trans (gsnE eG23 (by decide)) (Eq.trans (gsnE eG22 (by decide)) (Eq.trans (gsnE eG15 (by decide)) (Eq.trans (gsnE eG18 (by decide)) (Eq.trans (gsnE eG17 (by decide)) (gsnE eG11 (by decide)))))))) ?_
                  exact J25 _ (Or.inl ⟨c30, rfl⟩)
                · -- 148 to 151
                  refine s_aload_n dX12_lays_151 rfl (Int.natCast_nonneg _) ?_
                  refine gf_taken rfl dX12_lays_152 hMG20 ?_
                  refine s_iload_n dX12_lays_155 rfl ?_
                  refine s_iald dX12_lays_156 (mg_a_taken hMG20) (by omega) (by omega) (Eq.trans (gsnE eG20 (by decide)) (Eq.trans (gsnE eG23 (by decide)) (Eq.trans (gsnE eG22 (by decide)) (Eq.trans (gsnE eG15 (by decide)) (Eq.trans (gsnE eG18 (by decide)) (Eq.trans (gsnE eG17 (by decide)) (gsnE eG11 (by decide)))))))) ?_
                  refine s_goto (tgt := 166) dX12_lays_157 (by decide) ?_
                  exact J25 _ (Or.inr (⟨c30, rfl⟩))
              · -- 126 to 129
                refine s_iload_n dX12_lays_129 rfl ?_
                refine s_iconst dX12_lays_130 (by decide) ?_
                refine s_icmp_ne (tgt := 145) dX12_lays_131 (by decide) (fun c31 => ?_) (fun c31 => ?_)
                · -- 131 to 145
                  refine s_aload_n dX12_lays_145 rfl (Int.natCast_nonneg _) ?_
                  refine s_iload_n dX12_lays_146 rfl ?_
                  refine s_iconst dX12_lays_147 (by decide) ?_
                  have J33 : ∀ z32 : Int, ((¬ (gS G9 a_nKind ((nn9).toNat)) = 4) ∧ z32 = gS G9 a_nFirst ((nn9).toNat)) ∨ (((gS G9 a_nKind ((nn9).toNat)) = 4) ∧ z32 = gS G9 a_taken ((nn9).toNat)) → WP kX12_lays X 166 [some (2, ((1000 : Nat) : Int)), some (0, N), some (0, nn9), some (0, gS G9 a_nKind ((nn9).toNat))] [(0, z32), (2, ((1000 : Nat) : Int))] G15 := by
                    intro z32 hz32
                    refine s_iconst dX12_lays_166 (by decide) ?_
                    have hpk9 : (((gS G a_nKind (nn9).toNat) = 1 ∨ (gS G a_nKind (nn9).toNat) = 3) ∧ z32 :: tb9 = (gS G a_nSecond (nn9).toNat) :: (gS G a_nFirst (nn9).toNat) :: tb9) ∨ (((gS G a_nKind (nn9).toNat) = 2 ∨ 5 ≤ (gS G a_nKind (nn9).toNat)) ∧ z32 :: tb9 = (gS G a_nFirst (nn9).toNat) :: tb9) ∨ ((gS G a_nKind (nn9).toNat) = 4 ∧ (z32 :: tb9 = (gS G a_nFirst (nn9).toNat) :: tb9 ∨ z32 :: tb9 = (gS G a_nSecond (nn9).toNat) :: tb9)) := by
                      by_cases q4 : (gS G a_nKind (nn9).toNat) = 4
                      · have q5 := hCh nn9 hs9 hl9 q4 (by omega)
                        refine Or.inr (Or.inr ⟨q4, ?_⟩)
                        rcases q5 with q5 | q5
                        · exact Or.inl (by rw [show z32 = (gS G a_nFirst (nn9).toNat) by omega])
                        · exact Or.inr (by rw [show z32 = (gS G a_nSecond (nn9).toNat) by omega])
                      · exact Or.inr (Or.inl ⟨by omega, by rw [show z32 = (gS G a_nFirst (nn9).toNat) by omega]⟩)
                    have hpku9 := fun (_ : Unit) => hpk9
                    clear hpk9
                    have hx1 : S z32 := by
                      by_cases q4 : (gS G a_nKind (nn9).toNat) = 4
                      · rcases hCh nn9 hs9 hl9 q4 (by omega) with q5 | q5
                        · rw [show z32 = (gS G a_nFirst (nn9).toNat) by omega]; exact hS.p1 hs9 (by omega)
                        · rw [show z32 = (gS G a_nSecond (nn9).toNat) by omega]; exact hS.p2 hs9 (by omega)
                      · rw [show z32 = (gS G a_nFirst (nn9).toNat) by omega]; exact hS.p1 hs9 (by omega)
                    have hpa9 := fun k k0 k1 => (hND.part (k := k) hnn9.1.1 hnn9.1.2 k0 k1).2
                    have hf9 := hpa9 0 (by omega) (nMany.k.1 (by omega))
                    rw [show nPart G nn9 0 = (gS G a_nFirst (nn9).toNat) from rfl] at hf9
                    have hg9 : (gS G a_nKind (nn9).toNat) ≤ 4 → (gS G a_nSecond (nn9).toNat) < nn9 := fun q => hpa9 1 (by omega) (nMany.k.2.1 (by omega))
                    clear hpa9
                    have hq4 : (gS G a_nKind (nn9).toNat) = 4 → z32 = (gS G a_nFirst (nn9).toNat) ∨ z32 = (gS G a_nSecond (nn9).toNat) := fun q4 => by have q5 := hCh nn9 hs9 hl9 q4 (by omega); omega
                    have hy1 : z32 ≤ N := by omega
                    have hqu4 := fun (_ : Unit) => hq4
                    clear hq4
                    have hx9 := (hND.w (hS _ hx1).1.1 (hS _ hx1).1.2).2.1
                    have hwz9 : wsum G ((z32, 0) :: (nn9, 1) :: sq9) + 1 ≤ wsum G ((nn9, pp9) :: sq9) ∧ usum G ((z32, 0) :: (nn9, 1) :: sq9) ≤ usum G ((nn9, pp9) :: sq9) := by
                      have w1 := (hw9 ()).2.2.1
                      have w2 := (hw9 ()).2.2.2.1
                      have w3 := (hw9 ()).2.2.2.2.1
                      have t1 : wsum G ((z32, 0) :: (nn9, 1) :: sq9) = 2 * (gS G a_nWeight (z32).toNat) + (1 + wsum G sq9) := rfl
                      have t2 : usum G ((z32, 0) :: (nn9, 1) :: sq9) = (gS G a_nWeight (z32).toNat) + (0 + usum G sq9) := rfl
                      have b1 := (hND.w (hS _ (hS.p1 hs9 (by omega))).1.1 (hS _ (hS.p1 hs9 (by omega))).1.2).2.1
                      have b2 : (gS G a_nKind (nn9).toNat) ≤ 4 → 1 ≤ (gS G a_nWeight ((gS G a_nSecond (nn9).toNat)).toNat) := fun q => (hND.w (hS _ (hS.p2 hs9 (by omega))).1.1 (hS _ (hS.p2 hs9 (by omega))).1.2).2.1.1
                      have b3 : (gS G a_nKind (nn9).toNat) = 4 → 1 ≤ (gS G a_nWeight ((gS G a_nThird (nn9).toNat)).toNat) := fun q => (hND.w (hS _ (hS.p3 hs9 q)).1.1 (hS _ (hS.p3 hs9 q)).1.2).2.1.1
                      have b4 : (gS G a_nWeight (z32).toNat) + 1 ≤ (gS G a_nWeight (nn9).toNat) := by
                        by_cases q4 : (gS G a_nKind (nn9).toNat) = 4
                        · have c1 := w2 q4; have c2 := b2 (by omega); have c3 := b3 q4; rcases hqu4 () q4 with q5 | q5 <;> rw [q5] <;> omega
                        · have c0 : z32 = (gS G a_nFirst (nn9).toNat) := by omega
                          rw [c0]; by_cases q3 : (gS G a_nKind (nn9).toNat) ≤ 3
                          · have c1 := w1 (by omega); have c2 := b2 (by omega); omega
                          · have c1 := w3 (by omega); omega
                      clear w1 w2 w3 b2 b3
                      rw [t1, t2, es9, eu9]
                      omega
                    refine cv_X12_506 rfl gX12_work dX12_lays_167 hMG15 (by rw [hcf]; decide) (as := [(0, z32), (0, 0)]) rfl (Nat.le_of_ble_eq_true rfl) ⟨z32, 0, rfl, hMG15, (by first | assumption | omega), fun G34 hMG34 hpG34 => ?_⟩
                    obtain ⟨G36, G37, eG36, eG37, eG34, hpG34⟩ := hpG34
                    have hFG36 : Fr nX12_lays jX12_lays G G36 := Fr.setA hFG15 eG36 (by decide)
                    have hFG37 : Fr nX12_lays jX12_lays G G37 := Fr.setA hFG36 eG37 (by decide)
                    have hFG34 : Fr nX12_lays jX12_lays G G34 := Fr.setF hFG37 eG34 (by decide)
                    show WP kX12_lays X 170 [some (2, ((1000 : Nat) : Int)), some (0, N), some (0, nn9), some (0, gS G9 a_nKind ((nn9).toNat))] [] G34
                    refine s_goto (tgt := 26) dX12_lays_170 (by decide) ?_
                    refine s_mask [true, true, false, false] (lv' := [some (2, ((1000 : Nat) : Int)), some (0, N), none, none]) rfl ?_
                    have hfz := (Fr.setF (Fr.setA (Fr.setA (Fr.setF (Fr.setA (Fr.setA (Fr.setF (Fr.rf) eG11 (by decide)) eG17 (by decide)) eG18 (by decide)) eG15 (by decide)) eG36 (by decide)) eG37 (by decide)) eG34 (by decide) : Fr [a_workOn, a_workPhase] [73] G9 G34)
                    have wr0 : WR G11 G S N sq9 ((gS G11 1000 73)) := by rw [hwk0]; exact hW9.cg _ _ (fun j _ _ => ⟨gsnE eG11 (by decide), gsnE eG11 (by decide)⟩)
                    have wr1 : WR G15 G S N ((nn9, 1) :: sq9) ((gS G15 1000 73)) := by rw [show (gS G15 1000 73) = (gS G11 1000 73) + 1 from gsaE eG15]; exact WR.put (G := G11) wr0 (by omega) (fun j => by rw [gsnE eG15 (by decide), gsnE eG18 (by decide), g_upd eG17]) (fun j => by rw [gsnE eG15 (by decide), g_upd eG18, gsnE eG17 (by decide)]) hs9 hl9 (Or.inr ⟨rfl, by omega⟩)
                    have wr2 : WR G34 G S N ((z32, 0) :: (nn9, 1) :: sq9) ((gS G34 1000 73)) := by rw [show (gS G34 1000 73) = (gS G15 1000 73) + 1 from gsaE eG34]; exact WR.put (G := G15) wr1 (by omega) (fun j => by rw [gsnE eG34 (by decide), gsnE eG37 (by decide), g_upd eG36]) (fun j => by rw [gsnE eG34 (by decide), g_upd eG37, gsnE eG36 (by decide)]) hx1 hy1 (Or.inl rfl)
                    exact ih9 ((z32, 0) :: (nn9, 1) :: sq9) tb9 G34 hMG34 hFG34 (⟨(by exact wr2), (by rw [hfz.atF (j := 63) (by decide) (by decide), hfz.atF (j := 69) (by decide) (by decide)]; exact TBR.cg (Int.le_refl _) (fun j => hfz.atA (by decide) (by decide)) _ _ iT9 (fun j _ _ => hfz.atA (by decide) (by decide))), (by exact Or.inl ⟨rfl, Or.inr ⟨rfl, tb9, hpku9 (), hP9⟩⟩), (by rw [hfz.atF (j := 63) (by decide) (by decide)]; exact iI9.agr (hfz.agr (by decide) (by decide) (by decide))), (by rw [hfz.atF (j := 63) (by decide) (by decide)]; have z9 := hwz9; omega)⟩) (by omega)
                  refine s_icmp_ne (tgt := 160) dX12_lays_148 (by decide) (fun c38 => ?_) (fun c38 => ?_)
                  · -- 148 to 160
                    refine s_aload_n dX12_lays_160 rfl (Int.natCast_nonneg _) ?_
                    refine gf_nFirst rfl dX12_lays_161 hMG15 ?_
                    refine s_iload_n dX12_lays_164 rfl ?_
                    refine s_iald dX12_lays_165 (mg_a_nFirst hMG15) (by omega) (by omega) (Eq.trans (gsnE eG15 (by decide)) (Eq.trans (gsnE eG18 (by decide)) (Eq.trans (gsnE eG17 (by decide)) (gsnE eG11 (by decide))))) ?_
                    exact J33 _ (Or.inl ⟨c38, rfl⟩)
                  · -- 148 to 151
                    refine s_aload_n dX12_lays_151 rfl (Int.natCast_nonneg _) ?_
                    refine gf_taken rfl dX12_lays_152 hMG15 ?_
                    refine s_iload_n dX12_lays_155 rfl ?_
                    refine s_iald dX12_lays_156 (mg_a_taken hMG15) (by omega) (by omega) (Eq.trans (gsnE eG15 (by decide)) (Eq.trans (gsnE eG18 (by decide)) (Eq.trans (gsnE eG17 (by decide)) (gsnE eG11 (by decide))))) ?_
                    refine s_goto (tgt := 166) dX12_lays_157 (by decide) ?_
                    exact J33 _ (Or.inr (⟨c38, rfl⟩))
                · -- 131 to 134
                  refine s_aload_n dX12_lays_134 rfl (Int.natCast_nonneg _) ?_
                  refine s_aload_n dX12_lays_135 rfl (Int.natCast_nonneg _) ?_
                  refine gf_nSecond rfl dX12_lays_136 hMG15 ?_
                  refine s_iload_n dX12_lays_139 rfl ?_
                  refine s_iald dX12_lays_140 (mg_a_nSecond hMG15) (by omega) (by omega) (Eq.trans (gsnE eG15 (by decide)) (Eq.trans (gsnE eG18 (by decide)) (Eq.trans (gsnE eG17 (by decide)) (gsnE eG11 (by decide))))) ?_
                  refine s_iconst dX12_lays_141 (by decide) ?_
                  refine cv_X12_506 rfl gX12_work dX12_lays_142 hMG15 (by rw [hcf]; decide) (as := [(0, gS G9 a_nSecond ((nn9).toNat)), (0, 0)]) rfl (Nat.le_of_ble_eq_true rfl) ⟨gS G9 a_nSecond ((nn9).toNat), 0, rfl, hMG15, (by first | assumption | omega), fun G39 hMG39 hpG39 => ?_⟩
                  obtain ⟨G41, G42, eG41, eG42, eG39, hpG39⟩ := hpG39
                  have hFG41 : Fr nX12_lays jX12_lays G G41 := Fr.setA hFG15 eG41 (by decide)
                  have hFG42 : Fr nX12_lays jX12_lays G G42 := Fr.setA hFG41 eG42 (by decide)
                  have hFG39 : Fr nX12_lays jX12_lays G G39 := Fr.setF hFG42 eG39 (by decide)
                  show WP kX12_lays X 145 [some (2, ((1000 : Nat) : Int)), some (0, N), some (0, nn9), some (0, gS G9 a_nKind ((nn9).toNat))] [] G39
                  have hwk2 : (gS G39 1000 73) = (gS G9 1000 73) - 1 + 1 + 1 := by rw [(gsaE eG39)]; omega
                  refine s_aload_n dX12_lays_145 rfl (Int.natCast_nonneg _) ?_
                  refine s_iload_n dX12_lays_146 rfl ?_
                  refine s_iconst dX12_lays_147 (by decide) ?_
                  have J44 : ∀ z43 : Int, ((¬ (gS G9 a_nKind ((nn9).toNat)) = 4) ∧ z43 = gS G9 a_nFirst ((nn9).toNat)) ∨ (((gS G9 a_nKind ((nn9).toNat)) = 4) ∧ z43 = gS G9 a_taken ((nn9).toNat)) → WP kX12_lays X 166 [some (2, ((1000 : Nat) : Int)), some (0, N), some (0, nn9), some (0, gS G9 a_nKind ((nn9).toNat))] [(0, z43), (2, ((1000 : Nat) : Int))] G39 := by
                    intro z43 hz43
                    refine s_iconst dX12_lays_166 (by decide) ?_
                    have hfi9 : z43 = (gS G a_nFirst (nn9).toNat) := by omega
                    have hse9 : (gS G9 a_nSecond (nn9).toNat) = (gS G a_nSecond (nn9).toNat) := hnse9
                    have hx1 : S z43 := by
                      rw [hfi9]; exact hS.p1 hs9 (by omega)
                    have hpa9 := fun k k0 k1 => (hND.part (k := k) hnn9.1.1 hnn9.1.2 k0 k1).2
                    have hf9 := hpa9 0 (by omega) (nMany.k.1 (by omega))
                    rw [show nPart G nn9 0 = (gS G a_nFirst (nn9).toNat) from rfl] at hf9
                    have hg9 : (gS G a_nKind (nn9).toNat) ≤ 4 → (gS G a_nSecond (nn9).toNat) < nn9 := fun q => hpa9 1 (by omega) (nMany.k.2.1 (by omega))
                    clear hpa9
                    have hq4 : (gS G a_nKind (nn9).toNat) = 4 → z43 = (gS G a_nFirst (nn9).toNat) ∨ z43 = (gS G a_nSecond (nn9).toNat) := fun q4 => by have q5 := hCh nn9 hs9 hl9 q4 (by omega); omega
                    have hy1 : z43 ≤ N := by omega
                    have hqu4 := fun (_ : Unit) => hq4
                    clear hq4
                    have hx9 := (hND.w (hS _ hx1).1.1 (hS _ hx1).1.2).2.1
                    have hx2 : S (gS G9 a_nSecond (nn9).toNat) := by rw [hse9]; exact hS.p2 hs9 (by omega)
                    have hy2 : (gS G9 a_nSecond (nn9).toNat) ≤ N := by omega
                    have hwz9 : wsum G ((z43, 0) :: ((gS G9 a_nSecond ((nn9).toNat)), 0) :: (nn9, 1) :: sq9) + 1 ≤ wsum G ((nn9, pp9) :: sq9) ∧ usum G ((z43, 0) :: ((gS G9 a_nSecond ((nn9).toNat)), 0) :: (nn9, 1) :: sq9) ≤ usum G ((nn9, pp9) :: sq9) := by
                      have w1 := (hw9 ()).2.2.1 (by omega)
                      have t1 : wsum G ((z43, 0) :: ((gS G9 a_nSecond ((nn9).toNat)), 0) :: (nn9, 1) :: sq9) = 2 * (gS G a_nWeight (z43).toNat) + (2 * (gS G a_nWeight ((gS G9 a_nSecond (nn9).toNat)).toNat) + (1 + wsum G sq9)) := rfl
                      have t2 : usum G ((z43, 0) :: ((gS G9 a_nSecond ((nn9).toNat)), 0) :: (nn9, 1) :: sq9) = (gS G a_nWeight (z43).toNat) + ((gS G a_nWeight ((gS G9 a_nSecond (nn9).toNat)).toNat) + (0 + usum G sq9)) := rfl
                      rw [hfi9, hse9] at t1 t2
                      rw [es9, eu9]
                      rw [hfi9, hse9, t1, t2]
                      omega
                    refine cv_X12_506 rfl gX12_work dX12_lays_167 hMG39 (by rw [hcf]; decide) (as := [(0, z43), (0, 0)]) rfl (Nat.le_of_ble_eq_true rfl) ⟨z43, 0, rfl, hMG39, (by first | assumption | omega), fun G45 hMG45 hpG45 => ?_⟩
                    obtain ⟨G47, G48, eG47, eG48, eG45, hpG45⟩ := hpG45
                    have hFG47 : Fr nX12_lays jX12_lays G G47 := Fr.setA hFG39 eG47 (by decide)
                    have hFG48 : Fr nX12_lays jX12_lays G G48 := Fr.setA hFG47 eG48 (by decide)
                    have hFG45 : Fr nX12_lays jX12_lays G G45 := Fr.setF hFG48 eG45 (by decide)
                    show WP kX12_lays X 170 [some (2, ((1000 : Nat) : Int)), some (0, N), some (0, nn9), some (0, gS G9 a_nKind ((nn9).toNat))] [] G45
                    refine s_goto (tgt := 26) dX12_lays_170 (by decide) ?_
                    refine s_mask [true, true, false, false] (lv' := [some (2, ((1000 : Nat) : Int)), some (0, N), none, none]) rfl ?_
                    have hfz := (Fr.setF (Fr.setA (Fr.setA (Fr.setF (Fr.setA (Fr.setA (Fr.setF (Fr.setA (Fr.setA (Fr.setF (Fr.rf) eG11 (by decide)) eG17 (by decide)) eG18 (by decide)) eG15 (by decide)) eG41 (by decide)) eG42 (by decide)) eG39 (by decide)) eG47 (by decide)) eG48 (by decide)) eG45 (by decide) : Fr [a_workOn, a_workPhase] [73] G9 G45)
                    have wr0 : WR G11 G S N sq9 ((gS G11 1000 73)) := by rw [hwk0]; exact hW9.cg _ _ (fun j _ _ => ⟨gsnE eG11 (by decide), gsnE eG11 (by decide)⟩)
                    have wr1 : WR G15 G S N ((nn9, 1) :: sq9) ((gS G15 1000 73)) := by rw [show (gS G15 1000 73) = (gS G11 1000 73) + 1 from gsaE eG15]; exact WR.put (G := G11) wr0 (by omega) (fun j => by rw [gsnE eG15 (by decide), gsnE eG18 (by decide), g_upd eG17]) (fun j => by rw [gsnE eG15 (by decide), g_upd eG18, gsnE eG17 (by decide)]) hs9 hl9 (Or.inr ⟨rfl, by omega⟩)
                    have wr2 : WR G39 G S N (((gS G9 a_nSecond ((nn9).toNat)), 0) :: (nn9, 1) :: sq9) ((gS G39 1000 73)) := by rw [show (gS G39 1000 73) = (gS G15 1000 73) + 1 from gsaE eG39]; exact WR.put (G := G15) wr1 (by omega) (fun j => by rw [gsnE eG39 (by decide), gsnE eG42 (by decide), g_upd eG41]) (fun j => by rw [gsnE eG39 (by decide), g_upd eG42, gsnE eG41 (by decide)]) hx2 hy2 (Or.inl rfl)
                    have wr3 : WR G45 G S N ((z43, 0) :: ((gS G9 a_nSecond ((nn9).toNat)), 0) :: (nn9, 1) :: sq9) ((gS G45 1000 73)) := by rw [show (gS G45 1000 73) = (gS G39 1000 73) + 1 from gsaE eG45]; exact WR.put (G := G39) wr2 (by omega) (fun j => by rw [gsnE eG45 (by decide), gsnE eG48 (by decide), g_upd eG47]) (fun j => by rw [gsnE eG45 (by decide), g_upd eG48, gsnE eG47 (by decide)]) hx1 hy1 (Or.inl rfl)
                    exact ih9 ((z43, 0) :: ((gS G9 a_nSecond ((nn9).toNat)), 0) :: (nn9, 1) :: sq9) tb9 G45 hMG45 hFG45 (⟨(by exact wr3), (by rw [hfz.atF (j := 63) (by decide) (by decide), hfz.atF (j := 69) (by decide) (by decide)]; exact TBR.cg (Int.le_refl _) (fun j => hfz.atA (by decide) (by decide)) _ _ iT9 (fun j _ _ => hfz.atA (by decide) (by decide))), (by exact Or.inl ⟨rfl, Or.inl ⟨rfl, Or.inr ⟨rfl, tb9, Or.inl ⟨by omega, by rw [hse9, hfi9]⟩, hP9⟩⟩⟩), (by rw [hfz.atF (j := 63) (by decide) (by decide)]; exact iI9.agr (hfz.agr (by decide) (by decide) (by decide))), (by rw [hfz.atF (j := 63) (by decide) (by decide)]; have z9 := hwz9; omega)⟩) (by omega)
                  refine s_icmp_ne (tgt := 160) dX12_lays_148 (by decide) (fun c49 => ?_) (fun c49 => ?_)
                  · -- 148 to 160
                    refine s_aload_n dX12_lays_160 rfl (Int.natCast_nonneg _) ?_
                    refine gf_nFirst rfl dX12_lays_161 hMG39 ?_
                    refine s_iload_n dX12_lays_164 rfl ?_
                    refine s_iald dX12_lays_165 (mg_a_nFirst hMG39) (by omega) (by omega) (Eq.trans (gsnE eG39 (by decide)) (Eq.trans (gsnE eG42 (by decide)) (Eq.trans (gsnE eG41 (by decide)) (Eq.trans (gsnE eG15 (by decide)) (Eq.trans (gsnE eG18 (by decide)) (Eq.trans (gsnE eG17 (by decide)) (gsnE eG11 (by decide)))))))) ?_
                    exact J44 _ (Or.inl ⟨c49, rfl⟩)
                  · -- 148 to 151
                    refine s_aload_n dX12_lays_151 rfl (Int.natCast_nonneg _) ?_
                    refine gf_taken rfl dX12_lays_152 hMG39 ?_
                    refine s_iload_n dX12_lays_155 rfl ?_
                    refine s_iald dX12_lays_156 (mg_a_taken hMG39) (by omega) (by omega) (Eq.trans (gsnE eG39 (by decide)) (Eq.trans (gsnE eG42 (by decide)) (Eq.trans (gsnE eG41 (by decide)) (Eq.trans (gsnE eG15 (by decide)) (Eq.trans (gsnE eG18 (by decide)) (Eq.trans (gsnE eG17 (by decide)) (gsnE eG11 (by decide)))))))) ?_
                    refine s_goto (tgt := 166) dX12_lays_157 (by decide) ?_
                    exact J44 _ (Or.inr (⟨c49, rfl⟩))
            · -- 99 to 102
              refine s_aload_n dX12_lays_102 rfl (Int.natCast_nonneg _) ?_
              refine gf_choiceCode rfl dX12_lays_103 hMG11 ?_
              refine s_iload_n dX12_lays_106 rfl ?_
              refine s_iald dX12_lays_107 (mg_a_choiceCode hMG11) (by omega) (by omega) (gsnE eG11 (by decide)) ?_
              refine s_if_eq (tgt := 118) dX12_lays_108 (by decide) (fun c50 => ?_) (fun c50 => ?_)
              · -- 108 to 118
                have hwk0 : (gS G11 1000 73) = (gS G9 1000 73) - 1 := by rw [(gsaE eG11)]
                refine s_aload_n dX12_lays_118 rfl (Int.natCast_nonneg _) ?_
                refine s_iload_n dX12_lays_119 rfl ?_
                refine s_iconst dX12_lays_120 (by decide) ?_
                refine cv_X12_506 rfl gX12_work dX12_lays_121 hMG11 (by rw [hcf]; decide) (as := [(0, nn9), (0, 1)]) rfl (Nat.le_of_ble_eq_true rfl) ⟨nn9, 1, rfl, hMG11, (by first | assumption | omega), fun G51 hMG51 hpG51 => ?_⟩
                obtain ⟨G53, G54, eG53, eG54, eG51, hpG51⟩ := hpG51
                have hFG53 : Fr nX12_lays jX12_lays G G53 := Fr.setA hFG11 eG53 (by decide)
                have hFG54 : Fr nX12_lays jX12_lays G G54 := Fr.setA hFG53 eG54 (by decide)
                have hFG51 : Fr nX12_lays jX12_lays G G51 := Fr.setF hFG54 eG51 (by decide)
                show WP kX12_lays X 124 [some (2, ((1000 : Nat) : Int)), some (0, N), some (0, nn9), some (0, gS G9 a_nKind ((nn9).toNat))] [] G51
                have hwk1 : (gS G51 1000 73) = (gS G9 1000 73) - 1 + 1 := by rw [(gsaE eG51)]; omega
                refine s_iload_n dX12_lays_124 rfl ?_
                refine s_iconst dX12_lays_125 (by decide) ?_
                refine s_icmp_eq (tgt := 134) dX12_lays_126 (by decide) (fun c55 => ?_) (fun c55 => ?_)
                · -- 126 to 134
                  refine s_aload_n dX12_lays_134 rfl (Int.natCast_nonneg _) ?_
                  refine s_aload_n dX12_lays_135 rfl (Int.natCast_nonneg _) ?_
                  refine gf_nSecond rfl dX12_lays_136 hMG51 ?_
                  refine s_iload_n dX12_lays_139 rfl ?_
                  refine s_iald dX12_lays_140 (mg_a_nSecond hMG51) (by omega) (by omega) (Eq.trans (gsnE eG51 (by decide)) (Eq.trans (gsnE eG54 (by decide)) (Eq.trans (gsnE eG53 (by decide)) (gsnE eG11 (by decide))))) ?_
                  refine s_iconst dX12_lays_141 (by decide) ?_
                  refine cv_X12_506 rfl gX12_work dX12_lays_142 hMG51 (by rw [hcf]; decide) (as := [(0, gS G9 a_nSecond ((nn9).toNat)), (0, 0)]) rfl (Nat.le_of_ble_eq_true rfl) ⟨gS G9 a_nSecond ((nn9).toNat), 0, rfl, hMG51, (by first | assumption | omega), fun G56 hMG56 hpG56 => ?_⟩
                  obtain ⟨G58, G59, eG58, eG59, eG56, hpG56⟩ := hpG56
                  have hFG58 : Fr nX12_lays jX12_lays G G58 := Fr.setA hFG51 eG58 (by decide)
                  have hFG59 : Fr nX12_lays jX12_lays G G59 := Fr.setA hFG58 eG59 (by decide)
                  have hFG56 : Fr nX12_lays jX12_lays G G56 := Fr.setF hFG59 eG56 (by decide)
                  show WP kX12_lays X 145 [some (2, ((1000 : Nat) : Int)), some (0, N), some (0, nn9), some (0, gS G9 a_nKind ((nn9).toNat))] [] G56
                  have hwk2 : (gS G56 1000 73) = (gS G9 1000 73) - 1 + 1 + 1 := by rw [(gsaE eG56)]; omega
                  refine s_aload_n dX12_lays_145 rfl (Int.natCast_nonneg _) ?_
                  refine s_iload_n dX12_lays_146 rfl ?_
                  refine s_iconst dX12_lays_147 (by decide) ?_
                  have J61 : ∀ z60 : Int, ((¬ (gS G9 a_nKind ((nn9).toNat)) = 4) ∧ z60 = gS G9 a_nFirst ((nn9).toNat)) ∨ (((gS G9 a_nKind ((nn9).toNat)) = 4) ∧ z60 = gS G9 a_taken ((nn9).toNat)) → WP kX12_lays X 166 [some (2, ((1000 : Nat) : Int)), some (0, N), some (0, nn9), some (0, gS G9 a_nKind ((nn9).toNat))] [(0, z60), (2, ((1000 : Nat) : Int))] G56 := by
                    intro z60 hz60
                    refine s_iconst dX12_lays_166 (by decide) ?_
                    have hfi9 : z60 = (gS G a_nFirst (nn9).toNat) := by omega
                    have hse9 : (gS G9 a_nSecond (nn9).toNat) = (gS G a_nSecond (nn9).toNat) := hnse9
                    have hx1 : S z60 := by
                      rw [hfi9]; exact hS.p1 hs9 (by omega)
                    have hpa9 := fun k k0 k1 => (hND.part (k := k) hnn9.1.1 hnn9.1.2 k0 k1).2
                    have hf9 := hpa9 0 (by omega) (nMany.k.1 (by omega))
                    rw [show nPart G nn9 0 = (gS G a_nFirst (nn9).toNat) from rfl] at hf9
                    have hg9 : (gS G a_nKind (nn9).toNat) ≤ 4 → (gS G a_nSecond (nn9).toNat) < nn9 := fun q => hpa9 1 (by omega) (nMany.k.2.1 (by omega))
                    clear hpa9
                    have hq4 : (gS G a_nKind (nn9).toNat) = 4 → z60 = (gS G a_nFirst (nn9).toNat) ∨ z60 = (gS G a_nSecond (nn9).toNat) := fun q4 => by have q5 := hCh nn9 hs9 hl9 q4 (by omega); omega
                    have hy1 : z60 ≤ N := by omega
                    have hqu4 := fun (_ : Unit) => hq4
                    clear hq4
                    have hx9 := (hND.w (hS _ hx1).1.1 (hS _ hx1).1.2).2.1
                    have hx2 : S (gS G9 a_nSecond (nn9).toNat) := by rw [hse9]; exact hS.p2 hs9 (by omega)
                    have hy2 : (gS G9 a_nSecond (nn9).toNat) ≤ N := by omega
                    have hwz9 : wsum G ((z60, 0) :: ((gS G9 a_nSecond ((nn9).toNat)), 0) :: (nn9, 1) :: sq9) + 1 ≤ wsum G ((nn9, pp9) :: sq9) ∧ usum G ((z60, 0) :: ((gS G9 a_nSecond ((nn9).toNat)), 0) :: (nn9, 1) :: sq9) ≤ usum G ((nn9, pp9) :: sq9) := by
                      have w1 := (hw9 ()).2.2.1 (by omega)
                      have t1 : wsum G ((z60, 0) :: ((gS G9 a_nSecond ((nn9).toNat)), 0) :: (nn9, 1) :: sq9) = 2 * (gS G a_nWeight (z60).toNat) + (2 * (gS G a_nWeight ((gS G9 a_nSecond (nn9).toNat)).toNat) + (1 + wsum G sq9)) := rfl
                      have t2 : usum G ((z60, 0) :: ((gS G9 a_nSecond ((nn9).toNat)), 0) :: (nn9, 1) :: sq9) = (gS G a_nWeight (z60).toNat) + ((gS G a_nWeight ((gS G9 a_nSecond (nn9).toNat)).toNat) + (0 + usum G sq9)) := rfl
                      rw [hfi9, hse9] at t1 t2
                      rw [es9, eu9]
                      rw [hfi9, hse9, t1, t2]
                      omega
                    refine cv_X12_506 rfl gX12_work dX12_lays_167 hMG56 (by rw [hcf]; decide) (as := [(0, z60), (0, 0)]) rfl (Nat.le_of_ble_eq_true rfl) ⟨z60, 0, rfl, hMG56, (by first | assumption | omega), fun G62 hMG62 hpG62 => ?_⟩
                    obtain ⟨G64, G65, eG64, eG65, eG62, hpG62⟩ := hpG62
                    have hFG64 : Fr nX12_lays jX12_lays G G64 := Fr.setA hFG56 eG64 (by decide)
                    have hFG65 : Fr nX12_lays jX12_lays G G65 := Fr.setA hFG64 eG65 (by decide)
                    have hFG62 : Fr nX12_lays jX12_lays G G62 := Fr.setF hFG65 eG62 (by decide)
                    show WP kX12_lays X 170 [some (2, ((1000 : Nat) : Int)), some (0, N), some (0, nn9), some (0, gS G9 a_nKind ((nn9).toNat))] [] G62
                    refine s_goto (tgt := 26) dX12_lays_170 (by decide) ?_
                    refine s_mask [true, true, false, false] (lv' := [some (2, ((1000 : Nat) : Int)), some (0, N), none, none]) rfl ?_
                    have hfz := (Fr.setF (Fr.setA (Fr.setA (Fr.setF (Fr.setA (Fr.setA (Fr.setF (Fr.setA (Fr.setA (Fr.setF (Fr.rf) eG11 (by decide)) eG53 (by decide)) eG54 (by decide)) eG51 (by decide)) eG58 (by decide)) eG59 (by decide)) eG56 (by decide)) eG64 (by decide)) eG65 (by decide)) eG62 (by decide) : Fr [a_workOn, a_workPhase] [73] G9 G62)
                    have wr0 : WR G11 G S N sq9 ((gS G11 1000 73)) := by rw [hwk0]; exact hW9.cg _ _ (fun j _ _ => ⟨gsnE eG11 (by decide), gsnE eG11 (by decide)⟩)
                    have wr1 : WR G51 G S N ((nn9, 1) :: sq9) ((gS G51 1000 73)) := by rw [show (gS G51 1000 73) = (gS G11 1000 73) + 1 from gsaE eG51]; exact WR.put (G := G11) wr0 (by omega) (fun j => by rw [gsnE eG51 (by decide), gsnE eG54 (by decide), g_upd eG53]) (fun j => by rw [gsnE eG51 (by decide), g_upd eG54, gsnE eG53 (by decide)]) hs9 hl9 (Or.inr ⟨rfl, by omega⟩)
                    have wr2 : WR G56 G S N (((gS G9 a_nSecond ((nn9).toNat)), 0) :: (nn9, 1) :: sq9) ((gS G56 1000 73)) := by rw [show (gS G56 1000 73) = (gS G51 1000 73) + 1 from gsaE eG56]; exact WR.put (G := G51) wr1 (by omega) (fun j => by rw [gsnE eG56 (by decide), gsnE eG59 (by decide), g_upd eG58]) (fun j => by rw [gsnE eG56 (by decide), g_upd eG59, gsnE eG58 (by decide)]) hx2 hy2 (Or.inl rfl)
                    have wr3 : WR G62 G S N ((z60, 0) :: ((gS G9 a_nSecond ((nn9).toNat)), 0) :: (nn9, 1) :: sq9) ((gS G62 1000 73)) := by rw [show (gS G62 1000 73) = (gS G56 1000 73) + 1 from gsaE eG62]; exact WR.put (G := G56) wr2 (by omega) (fun j => by rw [gsnE eG62 (by decide), gsnE eG65 (by decide), g_upd eG64]) (fun j => by rw [gsnE eG62 (by decide), g_upd eG65, gsnE eG64 (by decide)]) hx1 hy1 (Or.inl rfl)
                    exact ih9 ((z60, 0) :: ((gS G9 a_nSecond ((nn9).toNat)), 0) :: (nn9, 1) :: sq9) tb9 G62 hMG62 hFG62 (⟨(by exact wr3), (by rw [hfz.atF (j := 63) (by decide) (by decide), hfz.atF (j := 69) (by decide) (by decide)]; exact TBR.cg (Int.le_refl _) (fun j => hfz.atA (by decide) (by decide)) _ _ iT9 (fun j _ _ => hfz.atA (by decide) (by decide))), (by exact Or.inl ⟨rfl, Or.inl ⟨rfl, Or.inr ⟨rfl, tb9, Or.inl ⟨by omega, by rw [hse9, hfi9]⟩, hP9⟩⟩⟩), (by rw [hfz.atF (j := 63) (by decide) (by decide)]; exact iI9.agr (hfz.agr (by decide) (by decide) (by decide))), (by rw [hfz.atF (j := 63) (by decide) (by decide)]; have z9 := hwz9; omega)⟩) (by omega)
                  refine s_icmp_ne (tgt := 160) dX12_lays_148 (by decide) (fun c66 => ?_) (fun c66 => ?_)
                  · -- 148 to 160
                    refine s_aload_n dX12_lays_160 rfl (Int.natCast_nonneg _) ?_
                    refine gf_nFirst rfl dX12_lays_161 hMG56 ?_
                    refine s_iload_n dX12_lays_164 rfl ?_
                    refine s_iald dX12_lays_165 (mg_a_nFirst hMG56) (by omega) (by omega) (Eq.trans (gsnE eG56 (by decide)) (Eq.trans (gsnE eG59 (by decide)) (Eq.trans (gsnE eG58 (by decide)) (Eq.trans (gsnE eG51 (by decide)) (Eq.trans (gsnE eG54 (by decide)) (Eq.trans (gsnE eG53 (by decide)) (gsnE eG11 (by decide)))))))) ?_
                    exact J61 _ (Or.inl ⟨c66, rfl⟩)
                  · -- 148 to 151
                    refine s_aload_n dX12_lays_151 rfl (Int.natCast_nonneg _) ?_
                    refine gf_taken rfl dX12_lays_152 hMG56 ?_
                    refine s_iload_n dX12_lays_155 rfl ?_
                    refine s_iald dX12_lays_156 (mg_a_taken hMG56) (by omega) (by omega) (Eq.trans (gsnE eG56 (by decide)) (Eq.trans (gsnE eG59 (by decide)) (Eq.trans (gsnE eG58 (by decide)) (Eq.trans (gsnE eG51 (by decide)) (Eq.trans (gsnE eG54 (by decide)) (Eq.trans (gsnE eG53 (by decide)) (gsnE eG11 (by decide)))))))) ?_
                    refine s_goto (tgt := 166) dX12_lays_157 (by decide) ?_
                    exact J61 _ (Or.inr (⟨c66, rfl⟩))
                · -- 126 to 129
                  refine s_iload_n dX12_lays_129 rfl ?_
                  refine s_iconst dX12_lays_130 (by decide) ?_
                  refine s_icmp_ne (tgt := 145) dX12_lays_131 (by decide) (fun c67 => ?_) (fun c67 => ?_)
                  · -- 131 to 145
                    refine s_aload_n dX12_lays_145 rfl (Int.natCast_nonneg _) ?_
                    refine s_iload_n dX12_lays_146 rfl ?_
                    refine s_iconst dX12_lays_147 (by decide) ?_
                    have J69 : ∀ z68 : Int, ((¬ (gS G9 a_nKind ((nn9).toNat)) = 4) ∧ z68 = gS G9 a_nFirst ((nn9).toNat)) ∨ (((gS G9 a_nKind ((nn9).toNat)) = 4) ∧ z68 = gS G9 a_taken ((nn9).toNat)) → WP kX12_lays X 166 [some (2, ((1000 : Nat) : Int)), some (0, N), some (0, nn9), some (0, gS G9 a_nKind ((nn9).toNat))] [(0, z68), (2, ((1000 : Nat) : Int))] G51 := by
                      intro z68 hz68
                      refine s_iconst dX12_lays_166 (by decide) ?_
                      have hpk9 : (((gS G a_nKind (nn9).toNat) = 1 ∨ (gS G a_nKind (nn9).toNat) = 3) ∧ z68 :: tb9 = (gS G a_nSecond (nn9).toNat) :: (gS G a_nFirst (nn9).toNat) :: tb9) ∨ (((gS G a_nKind (nn9).toNat) = 2 ∨ 5 ≤ (gS G a_nKind (nn9).toNat)) ∧ z68 :: tb9 = (gS G a_nFirst (nn9).toNat) :: tb9) ∨ ((gS G a_nKind (nn9).toNat) = 4 ∧ (z68 :: tb9 = (gS G a_nFirst (nn9).toNat) :: tb9 ∨ z68 :: tb9 = (gS G a_nSecond (nn9).toNat) :: tb9)) := by
                        by_cases q4 : (gS G a_nKind (nn9).toNat) = 4
                        · have q5 := hCh nn9 hs9 hl9 q4 (by omega)
                          refine Or.inr (Or.inr ⟨q4, ?_⟩)
                          rcases q5 with q5 | q5
                          · exact Or.inl (by rw [show z68 = (gS G a_nFirst (nn9).toNat) by omega])
                          · exact Or.inr (by rw [show z68 = (gS G a_nSecond (nn9).toNat) by omega])
                        · exact Or.inr (Or.inl ⟨by omega, by rw [show z68 = (gS G a_nFirst (nn9).toNat) by omega]⟩)
                      have hpku9 := fun (_ : Unit) => hpk9
                      clear hpk9
                      have hx1 : S z68 := by
                        by_cases q4 : (gS G a_nKind (nn9).toNat) = 4
                        · rcases hCh nn9 hs9 hl9 q4 (by omega) with q5 | q5
                          · rw [show z68 = (gS G a_nFirst (nn9).toNat) by omega]; exact hS.p1 hs9 (by omega)
                          · rw [show z68 = (gS G a_nSecond (nn9).toNat) by omega]; exact hS.p2 hs9 (by omega)
                        · rw [show z68 = (gS G a_nFirst (nn9).toNat) by omega]; exact hS.p1 hs9 (by omega)
                      have hpa9 := fun k k0 k1 => (hND.part (k := k) hnn9.1.1 hnn9.1.2 k0 k1).2
                      have hf9 := hpa9 0 (by omega) (nMany.k.1 (by omega))
                      rw [show nPart G nn9 0 = (gS G a_nFirst (nn9).toNat) from rfl] at hf9
                      have hg9 : (gS G a_nKind (nn9).toNat) ≤ 4 → (gS G a_nSecond (nn9).toNat) < nn9 := fun q => hpa9 1 (by omega) (nMany.k.2.1 (by omega))
                      clear hpa9
                      have hq4 : (gS G a_nKind (nn9).toNat) = 4 → z68 = (gS G a_nFirst (nn9).toNat) ∨ z68 = (gS G a_nSecond (nn9).toNat) := fun q4 => by have q5 := hCh nn9 hs9 hl9 q4 (by omega); omega
                      have hy1 : z68 ≤ N := by omega
                      have hqu4 := fun (_ : Unit) => hq4
                      clear hq4
                      have hx9 := (hND.w (hS _ hx1).1.1 (hS _ hx1).1.2).2.1
                      have hwz9 : wsum G ((z68, 0) :: (nn9, 1) :: sq9) + 1 ≤ wsum G ((nn9, pp9) :: sq9) ∧ usum G ((z68, 0) :: (nn9, 1) :: sq9) ≤ usum G ((nn9, pp9) :: sq9) := by
                        have w1 := (hw9 ()).2.2.1
                        have w2 := (hw9 ()).2.2.2.1
                        have w3 := (hw9 ()).2.2.2.2.1
                        have t1 : wsum G ((z68, 0) :: (nn9, 1) :: sq9) = 2 * (gS G a_nWeight (z68).toNat) + (1 + wsum G sq9) := rfl
                        have t2 : usum G ((z68, 0) :: (nn9, 1) :: sq9) = (gS G a_nWeight (z68).toNat) + (0 + usum G sq9) := rfl
                        have b1 := (hND.w (hS _ (hS.p1 hs9 (by omega))).1.1 (hS _ (hS.p1 hs9 (by omega))).1.2).2.1
                        have b2 : (gS G a_nKind (nn9).toNat) ≤ 4 → 1 ≤ (gS G a_nWeight ((gS G a_nSecond (nn9).toNat)).toNat) := fun q => (hND.w (hS _ (hS.p2 hs9 (by omega))).1.1 (hS _ (hS.p2 hs9 (by omega))).1.2).2.1.1
                        have b3 : (gS G a_nKind (nn9).toNat) = 4 → 1 ≤ (gS G a_nWeight ((gS G a_nThird (nn9).toNat)).toNat) := fun q => (hND.w (hS _ (hS.p3 hs9 q)).1.1 (hS _ (hS.p3 hs9 q)).1.2).2.1.1
                        have b4 : (gS G a_nWeight (z68).toNat) + 1 ≤ (gS G a_nWeight (nn9).toNat) := by
                          by_cases q4 : (gS G a_nKind (nn9).toNat) = 4
                          · have c1 := w2 q4; have c2 := b2 (by omega); have c3 := b3 q4; rcases hqu4 () q4 with q5 | q5 <;> rw [q5] <;> omega
                          · have c0 : z68 = (gS G a_nFirst (nn9).toNat) := by omega
                            rw [c0]; by_cases q3 : (gS G a_nKind (nn9).toNat) ≤ 3
                            · have c1 := w1 (by omega); have c2 := b2 (by omega); omega
                            · have c1 := w3 (by omega); omega
                        clear w1 w2 w3 b2 b3
                        rw [t1, t2, es9, eu9]
                        omega
                      refine cv_X12_506 rfl gX12_work dX12_lays_167 hMG51 (by rw [hcf]; decide) (as := [(0, z68), (0, 0)]) rfl (Nat.le_of_ble_eq_true rfl) ⟨z68, 0, rfl, hMG51, (by first | assumption | omega), fun G70 hMG70 hpG70 => ?_⟩
                      obtain ⟨G72, G73, eG72, eG73, eG70, hpG70⟩ := hpG70
                      have hFG72 : Fr nX12_lays jX12_lays G G72 := Fr.setA hFG51 eG72 (by decide)
                      have hFG73 : Fr nX12_lays jX12_lays G G73 := Fr.setA hFG72 eG73 (by decide)
                      have hFG70 : Fr nX12_lays jX12_lays G G70 := Fr.setF hFG73 eG70 (by decide)
                      show WP kX12_lays X 170 [some (2, ((1000 : Nat) : Int)), some (0, N), some (0, nn9), some (0, gS G9 a_nKind ((nn9).toNat))] [] G70
                      refine s_goto (tgt := 26) dX12_lays_170 (by decide) ?_
                      refine s_mask [true, true, false, false] (lv' := [some (2, ((1000 : Nat) : Int)), some (0, N), none, none]) rfl ?_
                      have hfz := (Fr.setF (Fr.setA (Fr.setA (Fr.setF (Fr.setA (Fr.setA (Fr.setF (Fr.rf) eG11 (by decide)) eG53 (by decide)) eG54 (by decide)) eG51 (by decide)) eG72 (by decide)) eG73 (by decide)) eG70 (by decide) : Fr [a_workOn, a_workPhase] [73] G9 G70)
                      have wr0 : WR G11 G S N sq9 ((gS G11 1000 73)) := by rw [hwk0]; exact hW9.cg _ _ (fun j _ _ => ⟨gsnE eG11 (by decide), gsnE eG11 (by decide)⟩)
                      have wr1 : WR G51 G S N ((nn9, 1) :: sq9) ((gS G51 1000 73)) := by rw [show (gS G51 1000 73) = (gS G11 1000 73) + 1 from gsaE eG51]; exact WR.put (G := G11) wr0 (by omega) (fun j => by rw [gsnE eG51 (by decide), gsnE eG54 (by decide), g_upd eG53]) (fun j => by rw [gsnE eG51 (by decide), g_upd eG54, gsnE eG53 (by decide)]) hs9 hl9 (Or.inr ⟨rfl, by omega⟩)
                      have wr2 : WR G70 G S N ((z68, 0) :: (nn9, 1) :: sq9) ((gS G70 1000 73)) := by rw [show (gS G70 1000 73) = (gS G51 1000 73) + 1 from gsaE eG70]; exact WR.put (G := G51) wr1 (by omega) (fun j => by rw [gsnE eG70 (by decide), gsnE eG73 (by decide), g_upd eG72]) (fun j => by rw [gsnE eG70 (by decide), g_upd eG73, gsnE eG72 (by decide)]) hx1 hy1 (Or.inl rfl)
                      exact ih9 ((z68, 0) :: (nn9, 1) :: sq9) tb9 G70 hMG70 hFG70 (⟨(by exact wr2), (by rw [hfz.atF (j := 63) (by decide) (by decide), hfz.atF (j := 69) (by decide) (by decide)]; exact TBR.cg (Int.le_refl _) (fun j => hfz.atA (by decide) (by decide)) _ _ iT9 (fun j _ _ => hfz.atA (by decide) (by decide))), (by exact Or.inl ⟨rfl, Or.inr ⟨rfl, tb9, hpku9 (), hP9⟩⟩), (by rw [hfz.atF (j := 63) (by decide) (by decide)]; exact iI9.agr (hfz.agr (by decide) (by decide) (by decide))), (by rw [hfz.atF (j := 63) (by decide) (by decide)]; have z9 := hwz9; omega)⟩) (by omega)
                    refine s_icmp_ne (tgt := 160) dX12_lays_148 (by decide) (fun c74 => ?_) (fun c74 => ?_)
                    · -- 148 to 160
                      refine s_aload_n dX12_lays_160 rfl (Int.natCast_nonneg _) ?_
                      refine gf_nFirst rfl dX12_lays_161 hMG51 ?_
                      refine s_iload_n dX12_lays_164 rfl ?_
                      refine s_iald dX12_lays_165 (mg_a_nFirst hMG51) (by omega) (by omega) (Eq.trans (gsnE eG51 (by decide)) (Eq.trans (gsnE eG54 (by decide)) (Eq.trans (gsnE eG53 (by decide)) (gsnE eG11 (by decide))))) ?_
                      exact J69 _ (Or.inl ⟨c74, rfl⟩)
                    · -- 148 to 151
                      refine s_aload_n dX12_lays_151 rfl (Int.natCast_nonneg _) ?_
                      refine gf_taken rfl dX12_lays_152 hMG51 ?_
                      refine s_iload_n dX12_lays_155 rfl ?_
                      refine s_iald dX12_lays_156 (mg_a_taken hMG51) (by omega) (by omega) (Eq.trans (gsnE eG51 (by decide)) (Eq.trans (gsnE eG54 (by decide)) (Eq.trans (gsnE eG53 (by decide)) (gsnE eG11 (by decide))))) ?_
                      refine s_goto (tgt := 166) dX12_lays_157 (by decide) ?_
                      exact J69 _ (Or.inr (⟨c74, rfl⟩))
                  · -- 131 to 134
                    refine s_aload_n dX12_lays_134 rfl (Int.natCast_nonneg _) ?_
                    refine s_aload_n dX12_lays_135 rfl (Int.natCast_nonneg _) ?_
                    refine gf_nSecond rfl dX12_lays_136 hMG51 ?_
                    refine s_iload_n dX12_lays_139 rfl ?_
                    refine s_iald dX12_lays_140 (mg_a_nSecond hMG51) (by omega) (by omega) (Eq.trans (gsnE eG51 (by decide)) (Eq.trans (gsnE eG54 (by decide)) (Eq.trans (gsnE eG53 (by decide)) (gsnE eG11 (by decide))))) ?_
                    refine s_iconst dX12_lays_141 (by decide) ?_
                    refine cv_X12_506 rfl gX12_work dX12_lays_142 hMG51 (by rw [hcf]; decide) (as := [(0, gS G9 a_nSecond ((nn9).toNat)), (0, 0)]) rfl (Nat.le_of_ble_eq_true rfl) ⟨gS G9 a_nSecond ((nn9).toNat), 0, rfl, hMG51, (by first | assumption | omega), fun G75 hMG75 hpG75 => ?_⟩
                    obtain ⟨G77, G78, eG77, eG78, eG75, hpG75⟩ := hpG75
                    have hFG77 : Fr nX12_lays jX12_lays G G77 := Fr.setA hFG51 eG77 (by decide)
                    have hFG78 : Fr nX12_lays jX12_lays G G78 := Fr.setA hFG77 eG78 (by decide)
                    have hFG75 : Fr nX12_lays jX12_lays G G75 := Fr.setF hFG78 eG75 (by decide)
                    show WP kX12_lays X 145 [some (2, ((1000 : Nat) : Int)), some (0, N), some (0, nn9), some (0, gS G9 a_nKind ((nn9).toNat))] [] G75
                    have hwk2 : (gS G75 1000 73) = (gS G9 1000 73) - 1 + 1 + 1 := by rw [(gsaE eG75)]; omega
                    refine s_aload_n dX12_lays_145 rfl (Int.natCast_nonneg _) ?_
                    refine s_iload_n dX12_lays_146 rfl ?_
                    refine s_iconst dX12_lays_147 (by decide) ?_
                    have J80 : ∀ z79 : Int, ((¬ (gS G9 a_nKind ((nn9).toNat)) = 4) ∧ z79 = gS G9 a_nFirst ((nn9).toNat)) ∨ (((gS G9 a_nKind ((nn9).toNat)) = 4) ∧ z79 = gS G9 a_taken ((nn9).toNat)) → WP kX12_lays X 166 [some (2, ((1000 : Nat) : Int)), some (0, N), some (0, nn9), some (0, gS G9 a_nKind ((nn9).toNat))] [(0, z79), (2, ((1000 : Nat) : Int))] G75 := by
                      intro z79 hz79
                      refine s_iconst dX12_lays_166 (by decide) ?_
                      have hfi9 : z79 = (gS G a_nFirst (nn9).toNat) := by omega
                      have hse9 : (gS G9 a_nSecond (nn9).toNat) = (gS G a_nSecond (nn9).toNat) := hnse9
                      have hx1 : S z79 := by
                        rw [hfi9]; exact hS.p1 hs9 (by omega)
                      have hpa9 := fun k k0 k1 => (hND.part (k := k) hnn9.1.1 hnn9.1.2 k0 k1).2
                      have hf9 := hpa9 0 (by omega) (nMany.k.1 (by omega))
                      rw [show nPart G nn9 0 = (gS G a_nFirst (nn9).toNat) from rfl] at hf9
                      have hg9 : (gS G a_nKind (nn9).toNat) ≤ 4 → (gS G a_nSecond (nn9).toNat) < nn9 := fun q => hpa9 1 (by omega) (nMany.k.2.1 (by omega))
                      clear hpa9
                      have hq4 : (gS G a_nKind (nn9).toNat) = 4 → z79 = (gS G a_nFirst (nn9).toNat) ∨ z79 = (gS G a_nSecond (nn9).toNat) := fun q4 => by have q5 := hCh nn9 hs9 hl9 q4 (by omega); omega
                      have hy1 : z79 ≤ N := by omega
                      have hqu4 := fun (_ : Unit) => hq4
                      clear hq4
                      have hx9 := (hND.w (hS _ hx1).1.1 (hS _ hx1).1.2).2.1
                      have hx2 : S (gS G9 a_nSecond (nn9).toNat) := by rw [hse9]; exact hS.p2 hs9 (by omega)
                      have hy2 : (gS G9 a_nSecond (nn9).toNat) ≤ N := by omega
                      have hwz9 : wsum G ((z79, 0) :: ((gS G9 a_nSecond ((nn9).toNat)), 0) :: (nn9, 1) :: sq9) + 1 ≤ wsum G ((nn9, pp9) :: sq9) ∧ usum G ((z79, 0) :: ((gS G9 a_nSecond ((nn9).toNat)), 0) :: (nn9, 1) :: sq9) ≤ usum G ((nn9, pp9) :: sq9) := by
                        have w1 := (hw9 ()).2.2.1 (by omega)
                        have t1 : wsum G ((z79, 0) :: ((gS G9 a_nSecond ((nn9).toNat)), 0) :: (nn9, 1) :: sq9) = 2 * (gS G a_nWeight (z79).toNat) + (2 * (gS G a_nWeight ((gS G9 a_nSecond (nn9).toNat)).toNat) + (1 + wsum G sq9)) := rfl
                        have t2 : usum G ((z79, 0) :: ((gS G9 a_nSecond ((nn9).toNat)), 0) :: (nn9, 1) :: sq9) = (gS G a_nWeight (z79).toNat) + ((gS G a_nWeight ((gS G9 a_nSecond (nn9).toNat)).toNat) + (0 + usum G sq9)) := rfl
                        rw [hfi9, hse9] at t1 t2
                        rw [es9, eu9]
                        rw [hfi9, hse9, t1, t2]
                        omega
                      refine cv_X12_506 rfl gX12_work dX12_lays_167 hMG75 (by rw [hcf]; decide) (as := [(0, z79), (0, 0)]) rfl (Nat.le_of_ble_eq_true rfl) ⟨z79, 0, rfl, hMG75, (by first | assumption | omega), fun G81 hMG81 hpG81 => ?_⟩
                      obtain ⟨G83, G84, eG83, eG84, eG81, hpG81⟩ := hpG81
                      have hFG83 : Fr nX12_lays jX12_lays G G83 := Fr.setA hFG75 eG83 (by decide)
                      have hFG84 : Fr nX12_lays jX12_lays G G84 := Fr.setA hFG83 eG84 (by decide)
                      have hFG81 : Fr nX12_lays jX12_lays G G81 := Fr.setF hFG84 eG81 (by decide)
                      show WP kX12_lays X 170 [some (2, ((1000 : Nat) : Int)), some (0, N), some (0, nn9), some (0, gS G9 a_nKind ((nn9).toNat))] [] G81
                      refine s_goto (tgt := 26) dX12_lays_170 (by decide) ?_
                      refine s_mask [true, true, false, false] (lv' := [some (2, ((1000 : Nat) : Int)), some (0, N), none, none]) rfl ?_
                      have hfz := (Fr.setF (Fr.setA (Fr.setA (Fr.setF (Fr.setA (Fr.setA (Fr.setF (Fr.setA (Fr.setA (Fr.setF (Fr.rf) eG11 (by decide)) eG53 (by decide)) eG54 (by decide)) eG51 (by decide)) eG77 (by decide)) eG78 (by decide)) eG75 (by decide)) eG83 (by decide)) eG84 (by decide)) eG81 (by decide) : Fr [a_workOn, a_workPhase] [73] G9 G81)
                      have wr0 : WR G11 G S N sq9 ((gS G11 1000 73)) := by rw [hwk0]; exact hW9.cg _ _ (fun j _ _ => ⟨gsnE eG11 (by decide), gsnE eG11 (by decide)⟩)
                      have wr1 : WR G51 G S N ((nn9, 1) :: sq9) ((gS G51 1000 73)) := by rw [show (gS G51 1000 73) = (gS G11 1000 73) + 1 from gsaE eG51]; exact WR.put (G := G11) wr0 (by omega) (fun j => by rw [gsnE eG51 (by decide), gsnE eG54 (by decide), g_upd eG53]) (fun j => by rw [gsnE eG51 (by decide), g_upd eG54, gsnE eG53 (by decide)]) hs9 hl9 (Or.inr ⟨rfl, by omega⟩)
                      have wr2 : WR G75 G S N (((gS G9 a_nSecond ((nn9).toNat)), 0) :: (nn9, 1) :: sq9) ((gS G75 1000 73)) := by rw [show (gS G75 1000 73) = (gS G51 1000 73) + 1 from gsaE eG75]; exact WR.put (G := G51) wr1 (by omega) (fun j => by rw [gsnE eG75 (by decide), gsnE eG78 (by decide), g_upd eG77]) (fun j => by rw [gsnE eG75 (by decide), g_upd eG78, gsnE eG77 (by decide)]) hx2 hy2 (Or.inl rfl)
                      have wr3 : WR G81 G S N ((z79, 0) :: ((gS G9 a_nSecond ((nn9).toNat)), 0) :: (nn9, 1) :: sq9) ((gS G81 1000 73)) := by rw [show (gS G81 1000 73) = (gS G75 1000 73) + 1 from gsaE eG81]; exact WR.put (G := G75) wr2 (by omega) (fun j => by rw [gsnE eG81 (by decide), gsnE eG84 (by decide), g_upd eG83]) (fun j => by rw [gsnE eG81 (by decide), g_upd eG84, gsnE eG83 (by decide)]) hx1 hy1 (Or.inl rfl)
                      exact ih9 ((z79, 0) :: ((gS G9 a_nSecond ((nn9).toNat)), 0) :: (nn9, 1) :: sq9) tb9 G81 hMG81 hFG81 (⟨(by exact wr3), (by rw [hfz.atF (j := 63) (by decide) (by decide), hfz.atF (j := 69) (by decide) (by decide)]; exact TBR.cg (Int.le_refl _) (fun j => hfz.atA (by decide) (by decide)) _ _ iT9 (fun j _ _ => hfz.atA (by decide) (by decide))), (by exact Or.inl ⟨rfl, Or.inl ⟨rfl, Or.inr ⟨rfl, tb9, Or.inl ⟨by omega, by rw [hse9, hfi9]⟩, hP9⟩⟩⟩), (by rw [hfz.atF (j := 63) (by decide) (by decide)]; exact iI9.agr (hfz.agr (by decide) (by decide) (by decide))), (by rw [hfz.atF (j := 63) (by decide) (by decide)]; have z9 := hwz9; omega)⟩) (by omega)
                    refine s_icmp_ne (tgt := 160) dX12_lays_148 (by decide) (fun c85 => ?_) (fun c85 => ?_)
                    · -- 148 to 160
                      refine s_aload_n dX12_lays_160 rfl (Int.natCast_nonneg _) ?_
                      refine gf_nFirst rfl dX12_lays_161 hMG75 ?_
                      refine s_iload_n dX12_lays_164 rfl ?_
                      refine s_iald dX12_lays_165 (mg_a_nFirst hMG75) (by omega) (by omega) (Eq.trans (gsnE eG75 (by decide)) (Eq.trans (gsnE eG78 (by decide)) (Eq.trans (gsnE eG77 (by decide)) (Eq.trans (gsnE eG51 (by decide)) (Eq.trans (gsnE eG54 (by decide)) (Eq.trans (gsnE eG53 (by decide)) (gsnE eG11 (by decide)))))))) ?_
                      exact J80 _ (Or.inl ⟨c85, rfl⟩)
                    · -- 148 to 151
                      refine s_aload_n dX12_lays_151 rfl (Int.natCast_nonneg _) ?_
                      refine gf_taken rfl dX12_lays_152 hMG75 ?_
                      refine s_iload_n dX12_lays_155 rfl ?_
                      refine s_iald dX12_lays_156 (mg_a_taken hMG75) (by omega) (by omega) (Eq.trans (gsnE eG75 (by decide)) (Eq.trans (gsnE eG78 (by decide)) (Eq.trans (gsnE eG77 (by decide)) (Eq.trans (gsnE eG51 (by decide)) (Eq.trans (gsnE eG54 (by decide)) (Eq.trans (gsnE eG53 (by decide)) (gsnE eG11 (by decide)))))))) ?_
                      refine s_goto (tgt := 166) dX12_lays_157 (by decide) ?_
                      exact J80 _ (Or.inr (⟨c85, rfl⟩))
              · -- 108 to 111
                refine s_aload_n dX12_lays_111 rfl (Int.natCast_nonneg _) ?_
                refine gf_choiceCode rfl dX12_lays_112 hMG11 ?_
                refine s_iload_n dX12_lays_115 rfl ?_
                refine s_iald dX12_lays_116 (mg_a_choiceCode hMG11) (by omega) (by omega) (gsnE eG11 (by decide)) ?_
                exact s_iret hR dX12_lays_117 rfl (hQ _ G11 hMG11 (⟨hFG11, fun q => by omega⟩))
          · -- 82 to 85
            have hp09 : pp9 = 0 := by omega
            have hP9 := (iP9.resolve_right (fun z => by have := z.1; omega)).2
            rw [if_pos hp09] at es9 eu9
            clear hph9
            have hvn9 := (hND.2 nn9 hnn9.1.1 hnn9.1.2).2.1 (by omega)
            have hfw := (Fr.setF (Fr.rf) eG11 (by decide) : Fr [] [73] G9 G11)
            have hv19 : (gS G11 a_nSecond (nn9).toNat) = (gS G a_nSecond (nn9).toNat) := (hfw.atA (by decide) (by decide)).trans hnse9
            have hv29 : (gS G11 a_nFirst (nn9).toNat) = (gS G a_nFirst (nn9).toNat) := (hfw.atA (by decide) (by decide)).trans hnfi9
            have hv39 : (gS G11 a_versions ((gS G11 a_nFirst (nn9).toNat)).toNat) = (gS G a_versions ((gS G a_nFirst (nn9).toNat)).toNat) := by rw [hv29]; exact (hfw.atA (by decide) (by decide)).trans (hFG9.atA (by decide) (by decide))
            have hv49 := hUV.2.1 ((gS G a_nFirst (nn9).toNat)) (by omega) (by omega)
            have hvr9 : 0 ≤ verC G11 nn9 ∧ verC G11 nn9 < 40 := by rw [verC.fr hfw (by decide) (by decide) (by decide), verC.fr hFG9 (by decide) (by decide) (by decide)]; exact verC.rng hND hUV hnn9.1 (by omega)
            have htl9 := iT9.len _ _
            have hpl9 := PRC.len _ _ iP9
            have hcl9 := (List.length_cons (a := (nn9, pp9)) (as := sq9))
            refine s_aload_n dX12_lays_85 rfl (Int.natCast_nonneg _) ?_
            refine s_aload_n dX12_lays_86 rfl (Int.natCast_nonneg _) ?_
            refine s_iload_n dX12_lays_87 rfl ?_
            refine cv_X12_440 rfl gX12_versionOf dX12_lays_88 hMG11 (by rw [hcf]; decide) (as := [(0, nn9)]) rfl (Nat.le_of_ble_eq_true rfl) ⟨nn9, rfl, hMG11, (by first | assumption | omega), (by first | assumption | omega), (by first | assumption | omega), (by first | assumption | omega), ?_⟩
            show WP kX12_lays X 91 [some (2, ((1000 : Nat) : Int)), some (0, N), some (0, nn9), some (0, gS G9 a_nKind ((nn9).toNat))] [(0, (if (gS G11 a_nSecond (nn9).toNat) = -1 then 5 * (gS G11 a_nFirst (nn9).toNat) + ((gS G11 a_versions ((gS G11 a_nFirst (nn9).toNat)).toNat) - 1) else 5 * (gS G11 a_nFirst (nn9).toNat) + (gS G11 a_nSecond (nn9).toNat))), (2, ((1000 : Nat) : Int))] G11
            refine cv_X12_512 rfl gX12_instance dX12_lays_91 hMG11 (by rw [hcf]; decide) (as := [(0, (if (gS G11 a_nSecond (nn9).toNat) = -1 then 5 * (gS G11 a_nFirst (nn9).toNat) + ((gS G11 a_versions ((gS G11 a_nFirst (nn9).toNat)).toNat) - 1) else 5 * (gS G11 a_nFirst (nn9).toNat) + (gS G11 a_nSecond (nn9).toNat)))]) rfl (Nat.le_of_ble_eq_true rfl) ⟨(if (gS G11 a_nSecond (nn9).toNat) = -1 then 5 * (gS G11 a_nFirst (nn9).toNat) + ((gS G11 a_versions ((gS G11 a_nFirst (nn9).toNat)).toNat) - 1) else 5 * (gS G11 a_nFirst (nn9).toNat) + (gS G11 a_nSecond (nn9).toNat)), rfl, hMG11, (by rw [hfw.atF (j := 63) (by decide) (by decide)]; exact iI9.agr (hfw.agr (by decide) (by decide) (by decide))), (by rw [hfw.atF (j := 63) (by decide) (by decide)]; omega), (by exact hvr9), (by rw [hfw.atF (j := 69) (by decide) (by decide)]; omega), fun G86 hMG86 hpG86 => ?_⟩
            obtain ⟨hfG86, hpG86⟩ := hpG86
            have hFG86 : Fr nX12_lays jX12_lays G G86 := Fr.call hFG11 hfG86 (by decide) (by decide)
            show WP kX12_lays X 94 [some (2, ((1000 : Nat) : Int)), some (0, N), some (0, nn9), some (0, gS G9 a_nKind ((nn9).toNat))] [] G86
            refine s_goto (tgt := 170) dX12_lays_94 (by decide) ?_
            refine s_goto (tgt := 26) dX12_lays_170 (by decide) ?_
            refine s_mask [true, true, false, false] (lv' := [some (2, ((1000 : Nat) : Int)), some (0, N), none, none]) rfl ?_
            have hfz := (Fr.call (Fr.setF (Fr.rf) eG11 (by decide)) hfG86 (by decide) (by decide) : Fr [a_versionAt, a_above, a_cellAt, a_cellOf, a_table] [73, 63, 67, 69] G9 G86)
            have hq9 := hpG86
            have hi9 : (gS G86 1000 63) = (gS G9 1000 63) + 1 := by rw [hq9.1, hfw.atF (by decide) (by decide)]
            have ht9 : (gS G86 1000 69) = (gS G9 1000 69) + 1 := by rw [hq9.2.1, hfw.atF (by decide) (by decide)]
            exact ih9 sq9 (nn9 :: tb9) G86 hMG86 hFG86 (⟨(by rw [show (gS G86 1000 73) = (gS G9 1000 73) - 1 by rw [(Eq.trans (Fr.atF hfG86 (by decide) (by decide)) (gsaE eG11))]]; exact hW9.cg _ _ (fun j _ _ => ⟨hfz.atA (by decide) (by decide), hfz.atA (by decide) (by decide)⟩)), (by rw [hi9, ht9]; refine ⟨by omega, fun k k0 k1 => ?_, ?_⟩; (have z9 := hq9.2.2.2.2 k k0 k1; rw [hfw.atF (j := 69) (by decide) (by decide), hfw.atF (j := 63) (by decide) (by decide), hfw.atA (n := a_valueType) (by decide) (by decide)] at z9; rw [show (gS G9 1000 69) + 1 - 1 = (gS G9 1000 69) by omega, hfz.atA (n := a_sValue) (by decide) (by decide)]; refine ⟨by omega, fun q => z9.2 ?_⟩; have z8 := (hnn9.2.1 k k0 k1 (by rw [← hFG9.atA (n := a_sValue) (by decide) (by decide)]; exact q)).1 (by omega); rw [hFG9.atA (n := a_valueType) (by decide) (by decide)]; have z7 : verC G11 nn9 = verC G nn9 := (by rw [verC.fr hfw (by decide) (by decide) (by decide)]; exact verC.fr hFG9 (by decide) (by decide) (by decide) _); rw [← z7] at z8; exact z8); (rw [show (gS G9 1000 69) + 1 - 1 = (gS G9 1000 69) by omega]; exact TBR.cg (by omega) (fun j => hfz.atA (by decide) (by decide)) _ _ iT9 (fun j j0 j1 => by have z9 := hq9.2.2.2.1 j j0 (by rw [hfw.atF (by decide) (by decide)]; exact j1); rw [z9]; exact hfw.atA (by decide) (by decide)))), (by exact hP9), (by rw [hi9, show 10 * ((gS G9 1000 63) + 1) = 10 * (gS G9 1000 63) + 10 by omega]; have z9 := hq9.2.2.1; rw [hfw.atF (j := 63) (by decide) (by decide)] at z9; exact z9), (by rw [hi9]; omega)⟩) (by omega)
        · -- 70 to 73
          have hp19 : pp9 = 1 := by omega
          obtain ⟨T9, hT9, hP9⟩ := iP9.resolve_left (fun z => by have := z.1; omega) |>.2
          have hfn9 := fun (_ : Unit) => iT9.fin (n := nn9) hT9
          have hfm9 := (hfn9 ()).1
          have hTu9 := fun (_ : Unit) => hT9
          clear hT9
          have htl9 := iT9.len _ _
          rw [if_neg (by omega)] at es9 eu9
          have hkk9 : 1 ≤ (gS G a_nKind (nn9).toNat) := by omega
          clear hph9
          have hfw := (Fr.setF (Fr.rf) eG11 (by decide) : Fr [] [73] G9 G11)
          have hpl9 := PRC.len _ _ iP9
          have hcl9 := (List.length_cons (a := (nn9, pp9)) (as := sq9))
          refine s_aload_n dX12_lays_73 rfl (Int.natCast_nonneg _) ?_
          refine s_iload_n dX12_lays_74 rfl ?_
          refine cv_X12_509 rfl gX12_finishes dX12_lays_75 hMG11 (by rw [hcf]; decide) (as := [(0, nn9)]) rfl (Nat.le_of_ble_eq_true rfl) ⟨nn9, (gS G9 1000 63), (10 * (gS G9 1000 63)), rfl, hMG11, (by exact (hND.agr (hFG9.agr (by decide) (by decide) (by decide))).agr (hfw.agr (by decide) (by decide) (by decide))), (by rw [hfw.atF (by decide) (by decide), hFG9.atF (by decide) (by decide)]; exact hnn9.1), (by rw [hfw.atA (by decide) (by decide), hnkd9]; omega), (by exact iI9.agr (hfw.agr (by decide) (by decide) (by decide))), (by rw [hfw.atF (by decide) (by decide)]; omega), (by rw [hfw.atF (by decide) (by decide), hfw.atA (by decide) (by decide), hnkd9]; exact fun q => ((hfn9 ()).2.1 q).1), (by intro j j0 j1; rw [hfw.atA (by decide) (by decide)]; rw [hfw.atF (by decide) (by decide)] at j1; exact htl9.2 j j0 j1), (by exact (hnn9.2.1.agr (hFG9.agr (by decide) (by decide) (by decide))).agr (hfw.agr (by decide) (by decide) (by decide))), (by rw [hfw.atF (by decide) (by decide), hfw.atA (n := a_nKind) (by decide) (by decide), hfw.atA (n := a_nFirst) (by decide) (by decide), hfw.atA (n := a_nSecond) (by decide) (by decide), hnkd9, hnfi9, hnse9]; exact fun q => ⟨((hfn9 ()).2.1 q).2.1.cg (Int.le_refl _) (fun _ _ _ => hfw.atA (by decide) (by decide)) (fun _ => hfw.atA (by decide) (by decide)), ((hfn9 ()).2.1 q).2.2.1.cg (Int.le_refl _) (fun _ _ _ => hfw.atA (by decide) (by decide)) (fun _ => hfw.atA (by decide) (by decide))⟩), (by rw [hfw.atF (by decide) (by decide), hfw.atA (n := a_nKind) (by decide) (by decide), hfw.atA (n := a_nFirst) (by decide) (by decide), hnkd9, hnfi9]; exact fun q => ((hfn9 ()).2.2.2.1 q).cg (Int.le_refl _) (fun _ _ _ => hfw.atA (by decide) (by decide)) (fun _ => hfw.atA (by decide) (by decide))), (by rw [hfw.atF (by decide) (by decide), hfw.atA (n := a_nKind) (by decide) (by decide), hfw.atA (n := a_nFirst) (by decide) (by decide), hfw.atA (n := a_nSecond) (by decide) (by decide), hnkd9, hnfi9, hnse9]; exact fun q => ((hfn9 ()).2.2.2.2 q).imp (fun z => z.cg (Int.le_refl _) (fun _ _ _ => hfw.atA (by decide) (by decide)) (fun _ => hfw.atA (by decide) (by decide))) (fun z => z.cg (Int.le_refl _) (fun _ _ _ => hfw.atA (by decide) (by decide)) (fun _ => hfw.atA (by decide) (by decide)))), fun G88 hMG88 hpG88 => ?_⟩
          obtain ⟨hfG88, hpG88⟩ := hpG88
          have hFG88 : Fr nX12_lays jX12_lays G G88 := Fr.call hFG11 hfG88 (by decide) (by decide)
          show WP kX12_lays X 78 [some (2, ((1000 : Nat) : Int)), some (0, N), some (0, nn9), some (0, gS G9 a_nKind ((nn9).toNat))] [] G88
          refine s_goto (tgt := 170) dX12_lays_78 (by decide) ?_
          refine s_goto (tgt := 26) dX12_lays_170 (by decide) ?_
          refine s_mask [true, true, false, false] (lv' := [some (2, ((1000 : Nat) : Int)), some (0, N), none, none]) rfl ?_
          have hfz := (Fr.call (Fr.setF (Fr.rf) eG11 (by decide)) hfG88 (by decide) (by decide) : Fr [a_above, a_table] [73, 69] G9 G88)
          have hq9 := hpG88
          have ht9 : (gS G88 1000 69) - 1 = (gS G9 1000 69) - (if (gS G a_nKind (nn9).toNat) = 1 ∨ (gS G a_nKind (nn9).toNat) = 3 then 2 else 1) := by have z1 := hq9.2.1; have z2 := hq9.2.2.1; rw [hfw.atF (j := 69) (by decide) (by decide), hfw.atA (n := a_nKind) (by decide) (by decide), hnkd9] at z1 z2; split; (rename_i q; have := z1 q; omega); (rename_i q; have := z2 q; omega)
          exact ih9 sq9 (nn9 :: T9) G88 hMG88 hFG88 (⟨(by rw [show (gS G88 1000 73) = (gS G9 1000 73) - 1 by rw [(Eq.trans (Fr.atF hfG88 (by decide) (by decide)) (gsaE eG11))]]; exact hW9.cg _ _ (fun j _ _ => ⟨hfz.atA (by decide) (by decide), hfz.atA (by decide) (by decide)⟩)), (by rw [show (gS G88 1000 63) = (gS G9 1000 63) from hfz.atF (by decide) (by decide)]; have z1 := hq9.2.2.2.1; refine ⟨by have z7 := (hfn9 ()).2.1; rw [← show (gS G88 1000 69) - 1 + 1 = (gS G88 1000 69) by omega, ht9]; split; (rename_i q; have := (z7 q).1; omega); omega, hq9.2.2.2.2, ?_⟩; rw [ht9]; have z2 : TBR G9 (10 * (gS G9 1000 63)) T9 ((gS G9 1000 69) - (if (gS G a_nKind (nn9).toNat) = 1 ∨ (gS G a_nKind (nn9).toNat) = 3 then 2 else 1)) := (by split; (rename_i q; exact ((hfn9 ()).2.1 q).2.2.2); (rename_i q; exact (hfn9 ()).2.2.1 q)); exact TBR.cg (Int.le_refl _) (fun j => hfz.atA (by decide) (by decide)) _ _ z2 (fun j j0 j1 => by rw [z1 j j0 (by rw [ht9]; exact j1)]; exact hfw.atA (by decide) (by decide))), (by exact hP9), (by rw [show (gS G88 1000 63) = (gS G9 1000 63) from hfz.atF (by decide) (by decide)]; exact hq9.1), (by rw [hfz.atF (j := 63) (by decide) (by decide)]; omega)⟩) (by omega)
  exact L9 _ ([(N, 0)]) ([]) G5 hMG5 hFG5 (⟨(by rw [show (gS G5 1000 73) = 0 + 1 by rw [gsaE eG5, hwk]]; exact WR.put (G := G) (show WR G G S N [] 0 from rfl) (by omega) (fun j => by rw [gsnE eG5 (by decide), gsnE eG8 (by decide), g_upd eG7, hwk, gsnE eG4 (by decide), gsnE eG3 (by decide), gsnE eG2 (by decide), gsnE eG1 (by decide)]) (fun j => by rw [gsnE eG5 (by decide), g_upd eG8, hwk, gsnE eG7 (by decide), gsnE eG4 (by decide), gsnE eG3 (by decide), gsnE eG2 (by decide), gsnE eG1 (by decide)]) hN (Int.le_refl _) (Or.inl rfl)), (by rw [show (gS G5 1000 69) = 0 by rw [(Eq.trans (gsjE eG5 (by decide)) (Eq.trans (gsnE eG8 (by decide)) (Eq.trans (gsnE eG7 (by decide)) (Eq.trans (gsjE eG4 (by decide)) (gsaE eG3)))))]]; exact rfl), (by exact Or.inl ⟨rfl, rfl⟩), (by rw [show (gS G5 1000 63) = 0 by rw [(Eq.trans (gsjE eG5 (by decide)) (Eq.trans (gsnE eG8 (by decide)) (Eq.trans (gsnE eG7 (by decide)) (Eq.trans (gsjE eG4 (by decide)) (Eq.trans (gsjE eG3 (by decide)) (Eq.trans (gsjE eG2 (by decide)) (gsaE eG1)))))))]]; exact IN.zero (by rw [(Eq.trans (gsjE eG5 (by decide)) (Eq.trans (gsnE eG8 (by decide)) (Eq.trans (gsnE eG7 (by decide)) (Eq.trans (gsjE eG4 (by decide)) (Eq.trans (gsjE eG3 (by decide)) (gsaE eG2))))))])), (by rw [show (gS G5 1000 63) = 0 by rw [(Eq.trans (gsjE eG5 (by decide)) (Eq.trans (gsnE eG8 (by decide)) (Eq.trans (gsnE eG7 (by decide)) (Eq.trans (gsjE eG4 (by decide)) (Eq.trans (gsjE eG3 (by decide)) (Eq.trans (gsjE eG2 (by decide)) (gsaE eG1)))))))]]; have z1 : wsum G [(N, 0)] = 2 * (gS G a_nWeight (N).toNat) + 0 := rfl; have z2 : usum G [(N, 0)] = (gS G a_nWeight (N).toNat) + 0 := rfl; omega)⟩) (Nat.lt_succ_self _)
