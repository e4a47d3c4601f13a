abbrev nRz : List Nat := [a_versionAt, a_above, a_cellAt, a_cellOf, a_table, a_workOn, a_workPhase, a_todo, a_reached, a_state, a_cellValue, a_left, a_right, a_number, a_count, a_actOn, a_actPhase, a_actFor, a_give, a_logOf, a_choiceCode, a_taken, a_lastOf, a_lastLeft, a_lastRight, a_lastNumber, a_lastCount, a_lastLog]
abbrev jRz : List Nat := [63, 67, 69, 73, 79, 84, 88, 90, 92, 98, 100, 101]

abbrev nX12_run : List Nat := [a_fHead, a_raw, a_error, a_ident, a_byStamp, a_equation, a_uses, a_reaches, a_solved, a_by, a_fKind, a_fA, a_fB, a_fSize, a_fNext, a_fMark, a_thingKind, a_thingA, a_thingB, a_thingC, a_thingNext, a_thingHead, a_stackOf, a_fMemo, a_sType, a_sValue, a_sFlags, a_sNumber, a_todo, a_phase, a_found, a_versionAt, a_above, a_cellAt, a_cellOf, a_table, a_workOn, a_workPhase, a_reached, a_state, a_cellValue, a_left, a_right, a_number, a_count, a_actOn, a_actPhase, a_actFor, a_give, a_logOf, a_choiceCode, a_taken, a_lastOf, a_lastLeft, a_lastRight, a_lastNumber, a_lastCount, a_lastLog]
abbrev jX12_run : List Nat := [26, 42, 35, 36, 40, 41, 25, 63, 67, 69, 73, 79, 84, 88, 90, 92, 98, 100, 101]
def TX12_run : TR := fun as G Qr => ∃ (n : Int) (Hs : List (Int → Int)) (vv : Int → Int), as = [(2, ((1000 : Nat) : Int)), (0, n)] ∧ MG G ∧ (TH G Hs) ∧ (vv ∈ Hs) ∧ (vv = cur G) ∧ (TB G) ∧ (EX G) ∧ (UV G) ∧ (0 ≤ (gS G 1000 35) ∧ (gS G 1000 35) ≤ 1700000000) ∧ (LR G) ∧ ∀ (r : Int) (G' : LG), MG G' → (Fr nX12_run jX12_run G G' ∧ (QP G G' Hs ∧ LR G')) → Qr (.inl (some (0, r))) G'
set_option maxHeartbeats 4000000 in
set_option maxRecDepth 100000 in
theorem gX12_run : Good kX12_run yX12_run 11 TX12_run := by
  refine good_of (by decide) rfl rfl (fun as G Qr h => ?_) (fun X as G Qr hcf hR hT oa => ?_)
  · obtain ⟨n, Hs, vv, rfl, -⟩ := h; exact Nat.le_of_ble_eq_true rfl
  obtain ⟨n, Hs, vv, rfl, hM, hTH, hvv, hcu, hTB, hEX, hUV, hm, hLR, hQ⟩ := hT
  show WP kX12_run X 0 [some (2, ((1000 : Nat) : Int)), some (0, n), none, none, none] [] G
  have hr_n : inR n := okv_R (oa _ (by simp))
  have hND := hTH.2.2.2.1
  have hnd := hND.1
  refine s_aload_n dX12_run_0 rfl (Int.natCast_nonneg _) ?_
  refine s_aload_n dX12_run_1 rfl (Int.natCast_nonneg _) ?_
  refine s_iload_n dX12_run_2 rfl ?_
  refine cv_X12_330 rfl gX12_isNode dX12_run_3 hM (by rw [hcf]; decide) (as := [(0, n)]) rfl (Nat.le_of_ble_eq_true rfl) ⟨n, rfl, hM, (by first | assumption | omega), ?_⟩
  show WP kX12_run X 6 [some (2, ((1000 : Nat) : Int)), some (0, n), none, none, none] [(0, b2i (0 ≤ n ∧ n < (gS G 1000 18))), (2, ((1000 : Nat) : Int))] G
  refine s_iconst dX12_run_6 (by decide) ?_
  refine s_iconst dX12_run_7 (by decide) ?_
  refine cv_X12_298 rfl gX12_goes dX12_run_8 hM (by rw [hcf]; decide) (as := [(0, b2i (0 ≤ n ∧ n < (gS G 1000 18))), (0, 1), (0, 1)]) rfl (Nat.le_of_ble_eq_true rfl) ⟨b2i (0 ≤ n ∧ n < (gS G 1000 18)), 1, 1, rfl, hM, fun r2 G1 hMG1 hpG1 => ?_⟩
  obtain ⟨eG1, hpG1⟩ := hpG1
  have hFG1 : Fr nX12_run jX12_run G G1 := Fr.setF Fr.rf eG1 (by decide)
  show WP kX12_run X 11 [some (2, ((1000 : Nat) : Int)), some (0, n), none, none, none] [(0, r2)] G1
  refine s_if_ne (tgt := 16) dX12_run_11 (by decide) (fun c3 => ?_) (fun c3 => ?_)
  · -- 11 to 16
    have hg := b2i_n (goes_r hpG1 (by assumption)).1
    have hn9 : 0 ≤ n ∧ n < (gS G1 1000 18) := by rw [(Fr.setF (Fr.rf) eG1 (by decide) : Fr [] [25] G G1).atF (by decide) (by decide)]; exact hg
    have hn8 : 0 ≤ n ∧ n < (gS G 1000 18) := hg
    refine s_aload_n dX12_run_16 rfl (Int.natCast_nonneg _) ?_
    refine s_iload_n dX12_run_17 rfl ?_
    refine cv_X12_481 rfl gX12_isRight dX12_run_18 hMG1 (by rw [hcf]; decide) (as := [(0, n)]) rfl (Nat.le_of_ble_eq_true rfl) ⟨n, Hs, vv, rfl, hMG1, (by exact hTH.agr ((Fr.setF (Fr.rf) eG1 (by decide) : Fr [] [25] G G1).agr (by decide) (by decide) (by decide))), (by exact hvv), (by rw [(TX.agr ((Fr.setF (Fr.rf) eG1 (by decide) : Fr [] [25] G G1).agr (by decide) (by decide) (by decide))).cur]; exact hcu), (by exact hTB.agr ((Fr.setF (Fr.rf) eG1 (by decide) : Fr [] [25] G G1).agr (by decide) (by decide) (by decide))), (by exact hEX.agr ((Fr.setF (Fr.rf) eG1 (by decide) : Fr [] [25] G G1).agr (by decide) (by decide) (by decide))), (by exact hUV.agr ((Fr.setF (Fr.rf) eG1 (by decide) : Fr [] [25] G G1).agr (by decide) (by decide) (by decide))), (by rw [(Fr.setF (Fr.rf) eG1 (by decide) : Fr [] [25] G G1).atF (by decide) (by decide)]; exact hm), (by exact hn9), fun r5 G4 hMG4 hpG4 => ?_⟩
    obtain ⟨hfG4, hpG4⟩ := hpG4
    have hFG4 : Fr nX12_run jX12_run G G4 := Fr.call hFG1 hfG4 (by decide) (by decide)
    show WP kX12_run X 21 [some (2, ((1000 : Nat) : Int)), some (0, n), none, none, none] [(0, r5)] G4
    have hq1 : QP G G4 Hs := (QP.trans0 ((((QP.rf hTH : QP G G Hs)).fr (Fr.setF Fr.rf eG1 (by decide) : Fr [] [25] G G1) (by decide) (by decide) (by decide) (by decide))) ((Fr.setF (Fr.rf) eG1 (by decide) : Fr [] [25] G G1).atF (by decide) (by decide)) (hpG4.1.qp))
    have hL1 : LR G4 := hLR.agr ((Fr.call (Fr.setF (Fr.rf) eG1 (by decide)) hfG4 (by decide) (by decide) : Fr [a_fHead, a_raw, a_error, a_ident, a_byStamp, a_equation, a_uses, a_reaches, a_solved, a_by, a_fKind, a_fA, a_fB, a_fSize, a_fNext, a_fMark, a_thingKind, a_thingA, a_thingB, a_thingC, a_thingNext, a_thingHead, a_stackOf, a_fMemo, a_sType, a_sValue, a_sFlags, a_sNumber, a_todo, a_phase, a_found] [25, 26, 42, 35, 36, 40, 41] G G4).agr (by decide) (by decide) (by decide))
    refine s_if_ne (tgt := 27) dX12_run_21 (by decide) (fun c6 => ?_) (fun c6 => ?_)
    · -- 21 to 27
      have hfp := hpG4.1
      have her : (gS G4 a_error (n).toNat) = 0 := b2i_n (by rw [← hpG4.2]; assumption)
      have hND1 : ND G4 := hq1.1.2.2.2.1
      have hND0 : ND G1 := hND.agr ((Fr.setF (Fr.rf) eG1 (by decide) : Fr [] [25] G G1).agr (by decide) (by decide) (by decide))
      obtain ⟨a0, ha0, hrg0⟩ := hfp.rg hND0
      have hU1 : UV G4 := hUV.agr ((Fr.call (Fr.setF (Fr.rf) eG1 (by decide)) hfG4 (by decide) (by decide) : Fr [a_fHead, a_raw, a_error, a_ident, a_byStamp, a_equation, a_uses, a_reaches, a_solved, a_by, a_fKind, a_fA, a_fB, a_fSize, a_fNext, a_fMark, a_thingKind, a_thingA, a_thingB, a_thingC, a_thingNext, a_thingHead, a_stackOf, a_fMemo, a_sType, a_sValue, a_sFlags, a_sNumber, a_todo, a_phase, a_found] [25, 26, 42, 35, 36, 40, 41] G G4).agr (by decide) (by decide) (by decide))
      have hX1 : EX G4 := hEX.agr ((Fr.call (Fr.setF (Fr.rf) eG1 (by decide)) hfG4 (by decide) (by decide) : Fr [a_fHead, a_raw, a_error, a_ident, a_byStamp, a_equation, a_uses, a_reaches, a_solved, a_by, a_fKind, a_fA, a_fB, a_fSize, a_fNext, a_fMark, a_thingKind, a_thingA, a_thingB, a_thingC, a_thingNext, a_thingHead, a_stackOf, a_fMemo, a_sType, a_sValue, a_sFlags, a_sNumber, a_todo, a_phase, a_found] [25, 26, 42, 35, 36, 40, 41] G G4).agr (by decide) (by decide) (by decide))
      have hn1 : (gS G4 1000 18) = (gS G 1000 18) := hq1.2.1.2.1
      have hn40 := hND1.1
      refine s_aload_n dX12_run_27 rfl (Int.natCast_nonneg _) ?_
      refine s_lconst dX12_run_28 ?_
      show WP kX12_run X 29 [some (2, ((1000 : Nat) : Int)), some (0, n), none, none, none] [(1, 1), (2, ((1000 : Nat) : Int))] G4
      refine s_iload_n dX12_run_29 rfl ?_
      refine s_lshl dX12_run_30 ?_
      refine cv_X12_470 rfl gX12_reachOf dX12_run_31 hMG4 (by rw [hcf]; decide) (as := [(1, l_shl 1 n)]) rfl (Nat.le_of_ble_eq_true rfl) ⟨l_shl 1 n, rfl, hMG4, (by exact hND1), fun r8 G7 hMG7 hpG7 => ?_⟩
      obtain ⟨hfG7, hpG7⟩ := hpG7
      have hFG7 : Fr nX12_run jX12_run G G7 := Fr.call hFG4 hfG7 (by decide) (by decide)
      show WP kX12_run X 34 [some (2, ((1000 : Nat) : Int)), some (0, n), none, none, none] [(1, r8)] G7
      refine s_lstore_n dX12_run_34 (by decide) (lv' := [some (2, ((1000 : Nat) : Int)), some (0, n), some (1, r8), none, none]) rfl ?_
      have hrc := hpG7
      have hsn : RS0 G4 a0 n := ⟨by omega, ha0.1 n hn8.1 (by omega) (bitL_self hn8.1 (by omega)), her⟩
      have hbS : ∀ m : Int, 0 ≤ m → m < 64 → bitL r8 m → RS0 G4 a0 m := hrc.2.2 (RS0 G4 a0) (fun m m0 m1 q => by rw [(bitL_shl (by omega) (by omega) m0 m1).mp q]; exact hsn) (fun m m0 m1 q k k0 k1 => (hrg0 m q).2.2 k k0 k1)
      have hS1 : RG G4 (fun m => RS0 G4 a0 m ∧ bitL r8 m) := fun m hm => ⟨(hrg0 m hm.1).1, (hrg0 m hm.1).2.1, fun k k0 k1 => ⟨(hrg0 m hm.1).2.2 k k0 k1, hrc.2.1 m (hrg0 m hm.1).1.1 (hrg0 m hm.1).1.2 hm.2 k k0 k1⟩⟩
      have hSn : (fun m => RS0 G4 a0 m ∧ bitL r8 m) n := ⟨hsn, hrc.1 n hn8.1 (by omega) (bitL_self hn8.1 (by omega))⟩
      refine s_iconst dX12_run_35 (by decide) ?_
      refine s_istore dX12_run_36 (by decide) (lv' := [some (2, ((1000 : Nat) : Int)), some (0, n), some (1, r8), none, some (0, 0)]) rfl ?_
      have L9 : ∀ (n9 : Nat) (x9 : Int) (G9 : LG), MG G9 → Fr nX12_run jX12_run G G9 → ((0 ≤ x9 ∧ x9 ≤ (gS G4 1000 18)) ∧ (Fr nX12_decides jX12_decides G4 G9) ∧ (CHD G9 (fun m => RS0 G4 a0 m ∧ bitL r8 m) x9)) → ((gS G4 1000 18) - x9).toNat < n9 → WP kX12_run X 38 [some (2, ((1000 : Nat) : Int)), some (0, n), some (1, r8), none, some (0, x9)] [] G9 := by
        intro n9
        induction n9 with
        | zero => intro x9 G9 hMG9 hFG9 hi9 hm9; exact absurd hm9 (Nat.not_lt_zero _)
        | succ n9 ih9 =>
          intro x9 G9 hMG9 hFG9 hi9 hm9
          have hj9 := hi9
          obtain ⟨ix9, iR9, iC9⟩ := hi9
          have iN9 : ND G9 := hND1.agr (iR9.agr (by decide) (by decide) (by decide))
          have iS9 : RG G9 (fun m => RS0 G4 a0 m ∧ bitL r8 m) := hS1.agr (iR9.agr (by decide) (by decide) (by decide))
          have ino9 : (gS G9 1000 18) = (gS G4 1000 18) := iR9.atF (by decide) (by decide)
          refine s_iload dX12_run_38 rfl ?_
          refine s_aload_n dX12_run_40 rfl (Int.natCast_nonneg _) ?_
          refine gf_nodes rfl dX12_run_41 hMG9 rfl ?_
          refine s_icmp_ge (tgt := 81) dX12_run_44 (by decide) (fun c10 => ?_) (fun c10 => ?_)
          · -- 44 to 81
            refine s_aload_n dX12_run_81 rfl (Int.natCast_nonneg _) ?_
            refine s_iload_n dX12_run_82 rfl ?_
            refine cv_X12_582 rfl gX12_runsOnce dX12_run_83 hMG9 (by rw [hcf]; decide) (as := [(0, n)]) rfl (Nat.le_of_ble_eq_true rfl) ⟨n, (fun m => RS0 G4 a0 m ∧ bitL r8 m), rfl, hMG9, (by exact iN9), (by exact hU1.agr (iR9.agr (by decide) (by decide) (by decide))), (by exact hX1.agr (iR9.agr (by decide) (by decide) (by decide))), (by exact iS9), (by exact hSn), (by exact fun m hm hl => iC9 m hm (by omega)), fun r12 G11 hMG11 hpG11 => ?_⟩
            obtain ⟨hfG11, hpG11⟩ := hpG11
            have hFG11 : Fr nX12_run jX12_run G G11 := Fr.call hFG9 hfG11 (by decide) (by decide)
            show WP kX12_run X 86 [some (2, ((1000 : Nat) : Int)), some (0, n), some (1, r8), none, some (0, x9)] [(0, r12)] G11
            refine s_istore dX12_run_86 (by decide) (lv' := [some (2, ((1000 : Nat) : Int)), some (0, n), some (1, r8), none, some (0, r12)]) rfl ?_
            refine s_iload dX12_run_88 rfl ?_
            refine s_if_ne (tgt := 98) dX12_run_90 (by decide) (fun c13 => ?_) (fun c13 => ?_)
            · -- 90 to 98
              refine s_iload dX12_run_98 rfl ?_
              exact s_iret hR dX12_run_100 rfl (hQ _ G11 hMG11 (⟨hFG11, ⟨hq1.fr (Fr.call (ns := nRz) (js := jRz) (Fr.call (ns := nRz) (js := jRz) Fr.rf iR9 (by decide) (by decide)) (Fr.call (Fr.rf) hfG11 (by decide) (by decide) : Fr [a_versionAt, a_above, a_cellAt, a_cellOf, a_table, a_workOn, a_workPhase, a_todo, a_reached, a_state, a_cellValue, a_left, a_right, a_number, a_count, a_actOn, a_actPhase, a_actFor, a_give, a_logOf] [63, 67, 69, 73, 79, 84, 88, 90] G9 G11) (by decide) (by decide)) (by decide) (by decide) (by decide) (by decide), hL1.agr ((Fr.call (ns := nX12_decides) (js := jX12_decides) iR9 (Fr.call (Fr.rf) hfG11 (by decide) (by decide) : Fr [a_versionAt, a_above, a_cellAt, a_cellOf, a_table, a_workOn, a_workPhase, a_todo, a_reached, a_state, a_cellValue, a_left, a_right, a_number, a_count, a_actOn, a_actPhase, a_actFor, a_give, a_logOf] [63, 67, 69, 73, 79, 84, 88, 90] G9 G11) (by decide) (by decide)).agr (by decide) (by decide) (by decide))⟩⟩))
            · -- 90 to 93
              refine s_aload_n dX12_run_93 rfl (Int.natCast_nonneg _) ?_
              refine s_iload_n dX12_run_94 rfl ?_
              refine cv_X12_588 rfl gX12_keeps dX12_run_95 hMG11 (by rw [hcf]; decide) (as := [(0, n)]) rfl (Nat.le_of_ble_eq_true rfl) ⟨n, rfl, hMG11, (by exact hpG11 (by omega)), (by omega), fun G14 hMG14 hpG14 => ?_⟩
              obtain ⟨hfG14, hpG14⟩ := hpG14
              have hFG14 : Fr nX12_run jX12_run G G14 := Fr.call hFG11 hfG14 (by decide) (by decide)
              show WP kX12_run X 98 [some (2, ((1000 : Nat) : Int)), some (0, n), some (1, r8), none, some (0, r12)] [] G14
              refine s_iload dX12_run_98 rfl ?_
              exact s_iret hR dX12_run_100 rfl (hQ _ G14 hMG14 (⟨hFG14, ⟨hq1.fr (Fr.call (ns := nRz) (js := jRz) (Fr.call (ns := nRz) (js := jRz) Fr.rf iR9 (by decide) (by decide)) (Fr.call (Fr.call (Fr.rf) hfG11 (by decide) (by decide)) hfG14 (by decide) (by decide) : Fr [a_versionAt, a_above, a_cellAt, a_cellOf, a_table, a_workOn, a_workPhase, a_todo, a_reached, a_state, a_cellValue, a_left, a_right, a_number, a_count, a_actOn, a_actPhase, a_actFor, a_give, a_logOf, a_lastOf, a_lastLeft, a_lastRight, a_lastNumber, a_lastCount, a_lastLog] [63, 67, 69, 73, 79, 84, 88, 90, 92, 98, 100, 101] G9 G14) (by decide) (by decide)) (by decide) (by decide) (by decide) (by decide), hpG14⟩⟩))
          · -- 44 to 47
            refine s_lload_n dX12_run_47 rfl ?_
            refine s_iload dX12_run_48 rfl ?_
            refine s_lshr dX12_run_50 ?_
            refine s_lconst dX12_run_51 ?_
            show WP kX12_run X 52 [some (2, ((1000 : Nat) : Int)), some (0, n), some (1, r8), none, some (0, x9)] [(1, 1), (1, l_shr r8 x9)] G9
            refine s_land dX12_run_52 ?_
            refine s_lconst dX12_run_53 ?_
            show WP kX12_run X 54 [some (2, ((1000 : Nat) : Int)), some (0, n), some (1, r8), none, some (0, x9)] [(1, 1), (1, l_and (l_shr r8 x9) 1)] G9
            refine s_lcmp dX12_run_54 (fun w16 hrw16 hcw16 hqw16 hgw16 => ?_)
            refine s_if_ne (tgt := 75) dX12_run_55 (by decide) (fun c17 => ?_) (fun c17 => ?_)
            · -- 55 to 75
              refine s_iinc dX12_run_75 (v := x9) rfl (by omega) (by decide) (lv' := [some (2, ((1000 : Nat) : Int)), some (0, n), some (1, r8), none, some (0, x9 + 1)]) rfl ?_
              refine s_goto (tgt := 38) dX12_run_78 (by decide) ?_
              exact ih9 (x9 + 1) G9 hMG9 hFG9 (⟨(by omega), (by exact iR9), (by intro m hm hl hk hc; by_cases hj : m = x9; (subst hj; exfalso; first | (have hb9 := hm.2; unfold bitL at hb9; omega) | omega); (exact iC9 m hm (by omega) hk hc))⟩) (by omega)
            · -- 55 to 58
              have hb : bitL r8 x9 := by unfold bitL; omega
              have hsx : (fun m => RS0 G4 a0 m ∧ bitL r8 m) x9 := ⟨hbS x9 (by omega) (by omega) hb, hb⟩
              refine s_aload_n dX12_run_58 rfl (Int.natCast_nonneg _) ?_
              refine gf_nKind rfl dX12_run_59 hMG9 ?_
              refine s_iload dX12_run_62 rfl ?_
              refine s_iald dX12_run_64 (mg_a_nKind hMG9) (by omega) (by omega) rfl ?_
              refine s_iconst dX12_run_65 (by decide) ?_
              refine s_icmp_ne (tgt := 75) dX12_run_66 (by decide) (fun c18 => ?_) (fun c18 => ?_)
              · -- 66 to 75
                refine s_iinc dX12_run_75 (v := x9) rfl (by omega) (by decide) (lv' := [some (2, ((1000 : Nat) : Int)), some (0, n), some (1, r8), none, some (0, x9 + 1)]) rfl ?_
                refine s_goto (tgt := 38) dX12_run_78 (by decide) ?_
                exact ih9 (x9 + 1) G9 hMG9 hFG9 (⟨(by omega), (by exact iR9), (by intro m hm hl hk hc; by_cases hj : m = x9; (subst hj; exfalso; first | (have hb9 := hm.2; unfold bitL at hb9; omega) | omega); (exact iC9 m hm (by omega) hk hc))⟩) (by omega)
              · -- 66 to 69
                refine s_aload_n dX12_run_69 rfl (Int.natCast_nonneg _) ?_
                refine s_iload dX12_run_70 rfl ?_
                refine cv_X12_585 rfl gX12_decides dX12_run_72 hMG9 (by rw [hcf]; decide) (as := [(0, x9)]) rfl (Nat.le_of_ble_eq_true rfl) ⟨x9, (fun m => RS0 G4 a0 m ∧ bitL r8 m), rfl, hMG9, (by exact iN9), (by exact hU1.agr (iR9.agr (by decide) (by decide) (by decide))), (by exact hX1.agr (iR9.agr (by decide) (by decide) (by decide))), (by exact iS9), (by exact hsx), (by omega), (by exact iC9), fun G19 hMG19 hpG19 => ?_⟩
                obtain ⟨hfG19, hpG19⟩ := hpG19
                have hFG19 : Fr nX12_run jX12_run G G19 := Fr.call hFG9 hfG19 (by decide) (by decide)
                show WP kX12_run X 75 [some (2, ((1000 : Nat) : Int)), some (0, n), some (1, r8), none, some (0, x9)] [] G19
                refine s_iinc dX12_run_75 (v := x9) rfl (by omega) (by decide) (lv' := [some (2, ((1000 : Nat) : Int)), some (0, n), some (1, r8), none, some (0, x9 + 1)]) rfl ?_
                refine s_goto (tgt := 38) dX12_run_78 (by decide) ?_
                exact ih9 (x9 + 1) G19 hMG19 hFG19 (⟨(by omega), (by exact Fr.call iR9 hfG19 (by decide) (by decide)), (by intro m hm hl hk hc; rw [(hfG19.atA (n := a_nFirst) (j := (m).toNat) (by decide) (by decide)), (hfG19.atA (n := a_nSecond) (j := (m).toNat) (by decide) (by decide))]; by_cases hj : m = x9; (subst hj; exact hpG19.1 hc); (have h9 := hpG19.2 m.toNat (by have := hm.1.1.1; omega); rw [h9.2]; rw [h9.1] at hc; rw [(hfG19.atA (n := a_nKind) (j := (m).toNat) (by decide) (by decide))] at hk; exact iC9 m hm (by omega) hk hc))⟩) (by omega)
      exact L9 _ 0 G7 hMG7 hFG7 (⟨(by omega), (by exact Fr.call (ns := nX12_decides) (js := jX12_decides) Fr.rf (Fr.call (Fr.rf) hfG7 (by decide) (by decide) : Fr [] [] G4 G7) (by decide) (by decide)), (by intro m hm hl; have := hm.1.1.1; omega)⟩) (Nat.lt_succ_self _)
    · -- 21 to 24
      refine s_bipush dX12_run_24 rfl (by decide) ?_
      exact s_iret hR dX12_run_26 rfl (hQ _ G4 hMG4 (⟨hFG4, ⟨hq1, hL1⟩⟩))
  · -- 11 to 14
    refine s_iconst dX12_run_14 (by decide) ?_
    exact s_iret hR dX12_run_15 rfl (hQ _ G1 hMG1 (⟨hFG1, ⟨(((QP.rf hTH : QP G G Hs)).fr (Fr.setF Fr.rf eG1 (by decide) : Fr [] [25] G G1) (by decide) (by decide) (by decide) (by decide)), hLR.agr ((Fr.setF (Fr.rf) eG1 (by decide) : Fr [] [25] G G1).agr (by decide) (by decide) (by decide))⟩⟩))

abbrev nX12_result : List Nat := []
abbrev jX12_result : List Nat := [25]
def TX12_result : TR := fun as G Qr => ∃ (k p : Int), as = [(2, ((1000 : Nat) : Int)), (0, k), (0, p)] ∧ MG G ∧ (LR G) ∧ ∀ (r : Int) (G' : LG), MG G' → (Fr nX12_result jX12_result G G' ∧ (True)) → Qr (.inl (some (0, r))) G'
set_option maxHeartbeats 4000000 in
set_option maxRecDepth 100000 in
theorem gX12_result : Good kX12_result yX12_result 2 TX12_result := by
  refine good_of (by decide) rfl rfl (fun as G Qr h => ?_) (fun X as G Qr hcf hR hT oa => ?_)
  · obtain ⟨k, p, rfl, -⟩ := h; exact Nat.le_of_ble_eq_true rfl
  obtain ⟨k, p, rfl, hM, hLR, hQ⟩ := hT
  show WP kX12_result X 0 [some (2, ((1000 : Nat) : Int)), some (0, k), some (0, p), none, none, none, none, none] [] G
  have hr_k : inR k := okv_R (oa _ (by simp))
  have hr_p : inR p := okv_R (oa _ (by simp))
  refine s_iload_n dX12_result_0 rfl ?_
  refine cs_X12_302 rfl gX12_isValue dX12_result_1 (by rw [hcf]; decide) (as := [(0, k)]) rfl (Nat.le_of_ble_eq_true rfl) ⟨k, rfl, ?_⟩
  show WP kX12_result X 4 [some (2, ((1000 : Nat) : Int)), some (0, k), some (0, p), none, none, none, none, none] [(0, b2i (0 ≤ k ∧ k ≤ 9))] G
  have J2 : ∀ z1 : Int, ((¬ (0 ≤ k ∧ k ≤ 9)) ∧ z1 = 0) ∨ ((0 ≤ k ∧ k ≤ 9) ∧ ((gS G 1000 92) = 0) ∧ z1 = 0) ∨ ((0 ≤ k ∧ k ≤ 9) ∧ (¬ (gS G 1000 92) = 0) ∧ (¬ (0 ≤ k ∧ k ≤ 9)) ∧ ((gS G a_lastOf ((0 : Int).toNat)) = ((-1))) ∧ z1 = 0) ∨ ((0 ≤ k ∧ k ≤ 9) ∧ (¬ (gS G 1000 92) = 0) ∧ (¬ (0 ≤ k ∧ k ≤ 9)) ∧ (¬ (gS G a_lastOf ((0 : Int).toNat)) = ((-1))) ∧ z1 = 1) ∨ ((0 ≤ k ∧ k ≤ 9) ∧ (¬ (gS G 1000 92) = 0) ∧ (0 ≤ k ∧ k ≤ 9) ∧ ((gS G a_lastOf ((k).toNat)) = ((-1))) ∧ z1 = 0) ∨ ((0 ≤ k ∧ k ≤ 9) ∧ (¬ (gS G 1000 92) = 0) ∧ (0 ≤ k ∧ k ≤ 9) ∧ (¬ (gS G a_lastOf ((k).toNat)) = ((-1))) ∧ z1 = 1) → WP kX12_result X 40 [some (2, ((1000 : Nat) : Int)), some (0, k), some (0, p), none, none, none, none, none] [(0, z1)] G := by
    intro z1 hz1
    refine s_istore_n dX12_result_40 (by decide) (lv' := [some (2, ((1000 : Nat) : Int)), some (0, k), some (0, p), some (0, z1), none, none, none, none]) rfl ?_
    refine s_aload_n dX12_result_41 rfl (Int.natCast_nonneg _) ?_
    refine s_iload_n dX12_result_42 rfl ?_
    refine cs_X12_302 rfl gX12_isValue dX12_result_43 (by rw [hcf]; decide) (as := [(0, k)]) rfl (Nat.le_of_ble_eq_true rfl) ⟨k, rfl, ?_⟩
    show WP kX12_result X 46 [some (2, ((1000 : Nat) : Int)), some (0, k), some (0, p), some (0, z1), none, none, none, none] [(0, b2i (0 ≤ k ∧ k ≤ 9)), (2, ((1000 : Nat) : Int))] G
    refine s_iload_n dX12_result_46 rfl ?_
    refine s_iload_n dX12_result_47 rfl ?_
    refine s_if_eq (tgt := 87) dX12_result_48 (by decide) (fun c3 => ?_) (fun c3 => ?_)
    · -- 48 to 87
      refine s_iconst dX12_result_87 (by decide) ?_
      refine cv_X12_298 rfl gX12_goes dX12_result_88 hM (by rw [hcf]; decide) (as := [(0, b2i (0 ≤ k ∧ k ≤ 9)), (0, z1), (0, 0)]) rfl (Nat.le_of_ble_eq_true rfl) ⟨b2i (0 ≤ k ∧ k ≤ 9), z1, 0, rfl, hM, fun r5 G4 hMG4 hpG4 => ?_⟩
      obtain ⟨eG4, hpG4⟩ := hpG4
      have hFG4 : Fr nX12_result jX12_result G G4 := Fr.setF Fr.rf eG4 (by decide)
      show WP kX12_result X 91 [some (2, ((1000 : Nat) : Int)), some (0, k), some (0, p), some (0, z1), none, none, none, none] [(0, r5)] G4
      refine s_if_ne (tgt := 96) dX12_result_91 (by decide) (fun c6 => ?_) (fun c6 => ?_)
      · -- 91 to 96
        have hg := goes_r hpG4 (by assumption)
        have hnm := b2i_n hg.1
        obtain ⟨V, hV, hVo, hVl⟩ := hLR.2 (by omega)
        have hof := hVo k (by omega) (by omega)
        refine s_aload_n dX12_result_96 rfl (Int.natCast_nonneg _) ?_
        refine gf_lastOf rfl dX12_result_97 hMG4 ?_
        refine s_iload_n dX12_result_100 rfl ?_
        refine s_iald dX12_result_101 (mg_a_lastOf hMG4) (by omega) (by omega) (gsnE eG4 (by decide)) ?_
        refine s_istore dX12_result_102 (by decide) (lv' := [some (2, ((1000 : Nat) : Int)), some (0, k), some (0, p), some (0, z1), some (0, gS G a_lastOf ((k).toNat)), none, none, none]) rfl ?_
        refine s_iload_n dX12_result_104 rfl ?_
        refine s_i2l dX12_result_105 ?_
        refine s_lstore dX12_result_106 (by decide) (lv' := [some (2, ((1000 : Nat) : Int)), some (0, k), some (0, p), some (0, z1), some (0, gS G a_lastOf ((k).toNat)), some (1, p), none, none]) rfl ?_
        have L7 : ∀ (n7 : Nat) (x7 : Int) (l7 : Int), ((0 ≤ x7 ∧ x7 < V)) → (x7).toNat < n7 → WP kX12_result X 108 [some (2, ((1000 : Nat) : Int)), some (0, k), some (0, p), some (0, z1), some (0, x7), some (1, l7), none, none] [] G4 := by
          intro n7
          induction n7 with
          | zero => intro x7 l7 hi7 hm7; exact absurd hm7 (Nat.not_lt_zero _)
          | succ n7 ih7 =>
            intro x7 l7 hi7 hm7
            have hj7 := hi7
            obtain ⟨ix7⟩ := hi7
            have hxl7 := hVl x7 (by omega) (by omega)
            refine s_aload_n dX12_result_108 rfl (Int.natCast_nonneg _) ?_
            refine gf_lastLeft rfl dX12_result_109 hMG4 ?_
            refine s_iload dX12_result_112 rfl ?_
            refine s_iald dX12_result_114 (mg_a_lastLeft hMG4) (by omega) (by omega) (gsnE eG4 (by decide)) ?_
            refine s_iconst dX12_result_115 (by decide) ?_
            refine s_icmp_eq (tgt := 197) dX12_result_116 (by decide) (fun c8 => ?_) (fun c8 => ?_)
            · -- 116 to 197
              refine s_aload_n dX12_result_197 rfl (Int.natCast_nonneg _) ?_
              refine gf_lastNumber rfl dX12_result_198 hMG4 ?_
              refine s_iload dX12_result_201 rfl ?_
              refine s_iald dX12_result_203 (mg_a_lastNumber hMG4) (by omega) (by omega) (gsnE eG4 (by decide)) ?_
              exact s_iret hR dX12_result_204 rfl (hQ _ G4 hMG4 (⟨hFG4, trivial⟩))
            · -- 116 to 119
              refine s_lload dX12_result_119 rfl ?_
              refine s_aload_n dX12_result_121 rfl (Int.natCast_nonneg _) ?_
              refine gf_lastCount rfl dX12_result_122 hMG4 ?_
              refine s_aload_n dX12_result_125 rfl (Int.natCast_nonneg _) ?_
              refine gf_lastLeft rfl dX12_result_126 hMG4 ?_
              refine s_iload dX12_result_129 rfl ?_
              refine s_iald dX12_result_131 (mg_a_lastLeft hMG4) (by omega) (by omega) (gsnE eG4 (by decide)) ?_
              refine s_lald dX12_result_132 (mg_a_lastCount hMG4) (by omega) (by omega) (gsnE eG4 (by decide)) ?_
              refine s_lcmp dX12_result_133 (fun w9 hrw9 hcw9 hqw9 hgw9 => ?_)
              have J11 : ∀ z10 : Int, ((0 ≤ w9) ∧ z10 = 0) ∨ ((¬ 0 ≤ w9) ∧ z10 = 1) → WP kX12_result X 142 [some (2, ((1000 : Nat) : Int)), some (0, k), some (0, p), some (0, z1), some (0, x7), some (1, l7), none, none] [(0, z10)] G4 := by
                intro z10 hz10
                refine s_istore dX12_result_142 (by decide) (lv' := [some (2, ((1000 : Nat) : Int)), some (0, k), some (0, p), some (0, z1), some (0, x7), some (1, l7), none, some (0, z10)]) rfl ?_
                refine s_lload dX12_result_144 rfl ?_
                refine s_iload dX12_result_146 rfl ?_
                have J13 : ∀ z12 : Int, ((z10 = 0) ∧ z12 = gS G a_lastCount ((gS G a_lastLeft ((x7).toNat)).toNat)) ∨ ((¬ z10 = 0) ∧ z12 = 0) → WP kX12_result X 167 [some (2, ((1000 : Nat) : Int)), some (0, k), some (0, p), some (0, z1), some (0, x7), some (1, l7), none, some (0, z10)] [(1, z12), (1, l7)] G4 := by
                  intro z12 hz12
                  refine s_lsubW dX12_result_167 (fun w14 hrw14 hew14 => ?_)
                  refine s_lstore dX12_result_168 (by decide) (lv' := [some (2, ((1000 : Nat) : Int)), some (0, k), some (0, p), some (0, z1), some (0, x7), some (1, w14), none, some (0, z10)]) rfl ?_
                  refine s_iload dX12_result_170 rfl ?_
                  have J16 : ∀ z15 : Int, ((z10 = 0) ∧ z15 = gS G a_lastRight ((x7).toNat)) ∨ ((¬ z10 = 0) ∧ z15 = gS G a_lastLeft ((x7).toNat)) → WP kX12_result X 192 [some (2, ((1000 : Nat) : Int)), some (0, k), some (0, p), some (0, z1), some (0, x7), some (1, w14), none, some (0, z10)] [(0, z15)] G4 := by
                    intro z15 hz15
                    refine s_istore dX12_result_192 (by decide) (lv' := [some (2, ((1000 : Nat) : Int)), some (0, k), some (0, p), some (0, z1), some (0, z15), some (1, w14), none, some (0, z10)]) rfl ?_
                    refine s_goto (tgt := 108) dX12_result_194 (by decide) ?_
                    refine s_mask [true, true, true, true, true, true, false, false] (lv' := [some (2, ((1000 : Nat) : Int)), some (0, k), some (0, p), some (0, z1), some (0, z15), some (1, w14), none, none]) rfl ?_
                    exact ih7 z15 w14 ((by omega)) (by omega)
                  refine s_if_eq (tgt := 185) dX12_result_172 (by decide) (fun c17 => ?_) (fun c17 => ?_)
                  · -- 172 to 185
                    refine s_aload_n dX12_result_185 rfl (Int.natCast_nonneg _) ?_
                    refine gf_lastRight rfl dX12_result_186 hMG4 ?_
                    refine s_iload dX12_result_189 rfl ?_
                    refine s_iald dX12_result_191 (mg_a_lastRight hMG4) (by omega) (by omega) (gsnE eG4 (by decide)) ?_
                    exact J16 _ (Or.inl ⟨c17, rfl⟩)
                  · -- 172 to 175
                    refine s_aload_n dX12_result_175 rfl (Int.natCast_nonneg _) ?_
                    refine gf_lastLeft rfl dX12_result_176 hMG4 ?_
                    refine s_iload dX12_result_179 rfl ?_
                    refine s_iald dX12_result_181 (mg_a_lastLeft hMG4) (by omega) (by omega) (gsnE eG4 (by decide)) ?_
                    refine s_goto (tgt := 192) dX12_result_182 (by decide) ?_
                    exact J16 _ (Or.inr (⟨c17, rfl⟩))
                refine s_if_eq (tgt := 155) dX12_result_148 (by decide) (fun c18 => ?_) (fun c18 => ?_)
                · -- 148 to 155
                  refine s_aload_n dX12_result_155 rfl (Int.natCast_nonneg _) ?_
                  refine gf_lastCount rfl dX12_result_156 hMG4 ?_
                  refine s_aload_n dX12_result_159 rfl (Int.natCast_nonneg _) ?_
                  refine gf_lastLeft rfl dX12_result_160 hMG4 ?_
                  refine s_iload dX12_result_163 rfl ?_
                  refine s_iald dX12_result_165 (mg_a_lastLeft hMG4) (by omega) (by omega) (gsnE eG4 (by decide)) ?_
                  refine s_lald dX12_result_166 (mg_a_lastCount hMG4) (by omega) (by omega) (gsnE eG4 (by decide)) ?_
                  exact J13 _ (Or.inl ⟨c18, rfl⟩)
                · -- 148 to 151
                  refine s_lconst dX12_result_151 ?_
                  show WP kX12_result X 152 [some (2, ((1000 : Nat) : Int)), some (0, k), some (0, p), some (0, z1), some (0, x7), some (1, l7), none, some (0, z10)] [(1, 0), (1, l7)] G4
                  refine s_goto (tgt := 167) dX12_result_152 (by decide) ?_
                  exact J13 0 (Or.inr (⟨c18, rfl⟩))
              refine s_if_ge (tgt := 141) dX12_result_134 (by decide) (fun c19 => ?_) (fun c19 => ?_)
              · -- 134 to 141
                refine s_iconst dX12_result_141 (by decide) ?_
                exact J11 0 (Or.inl ⟨c19, rfl⟩)
              · -- 134 to 137
                refine s_iconst dX12_result_137 (by decide) ?_
                refine s_goto (tgt := 142) dX12_result_138 (by decide) ?_
                exact J11 1 (Or.inr (⟨c19, rfl⟩))
        exact L7 _ (gS G a_lastOf ((k).toNat)) p ((by omega)) (Nat.lt_succ_self _)
      · -- 91 to 94
        refine s_iconst dX12_result_94 (by decide) ?_
        exact s_iret hR dX12_result_95 rfl (hQ _ G4 hMG4 (⟨hFG4, trivial⟩))
    · -- 48 to 51
      refine s_iload_n dX12_result_51 rfl ?_
      refine s_if_lt (tgt := 87) dX12_result_52 (by decide) (fun c20 => ?_) (fun c20 => ?_)
      · -- 52 to 87
        refine s_iconst dX12_result_87 (by decide) ?_
        refine cv_X12_298 rfl gX12_goes dX12_result_88 hM (by rw [hcf]; decide) (as := [(0, b2i (0 ≤ k ∧ k ≤ 9)), (0, z1), (0, 0)]) rfl (Nat.le_of_ble_eq_true rfl) ⟨b2i (0 ≤ k ∧ k ≤ 9), z1, 0, rfl, hM, fun r22 G21 hMG21 hpG21 => ?_⟩
        obtain ⟨eG21, hpG21⟩ := hpG21
        have hFG21 : Fr nX12_result jX12_result G G21 := Fr.setF Fr.rf eG21 (by decide)
        show WP kX12_result X 91 [some (2, ((1000 : Nat) : Int)), some (0, k), some (0, p), some (0, z1), none, none, none, none] [(0, r22)] G21
        refine s_if_ne (tgt := 96) dX12_result_91 (by decide) (fun c23 => ?_) (fun c23 => ?_)
        · -- 91 to 96
          have hg := goes_r hpG21 (by assumption)
          have hnm := b2i_n hg.1
          obtain ⟨V, hV, hVo, hVl⟩ := hLR.2 (by omega)
          have hof := hVo k (by omega) (by omega)
          refine s_aload_n dX12_result_96 rfl (Int.natCast_nonneg _) ?_
          refine gf_lastOf rfl dX12_result_97 hMG21 ?_
          refine s_iload_n dX12_result_100 rfl ?_
          refine s_iald dX12_result_101 (mg_a_lastOf hMG21) (by omega) (by omega) (gsnE eG21 (by decide)) ?_
          refine s_istore dX12_result_102 (by decide) (lv' := [some (2, ((1000 : Nat) : Int)), some (0, k), some (0, p), some (0, z1), some (0, gS G a_lastOf ((k).toNat)), none, none, none]) rfl ?_
          refine s_iload_n dX12_result_104 rfl ?_
          refine s_i2l dX12_result_105 ?_
          refine s_lstore dX12_result_106 (by decide) (lv' := [some (2, ((1000 : Nat) : Int)), some (0, k), some (0, p), some (0, z1), some (0, gS G a_lastOf ((k).toNat)), some (1, p), none, none]) rfl ?_
          have L24 : ∀ (n24 : Nat) (x24 : Int) (l24 : Int), ((0 ≤ x24 ∧ x24 < V)) → (x24).toNat < n24 → WP kX12_result X 108 [some (2, ((1000 : Nat) : Int)), some (0, k), some (0, p), some (0, z1), some (0, x24), some (1, l24), none, none] [] G21 := by
            intro n24
            induction n24 with
            | zero => intro x24 l24 hi24 hm24; exact absurd hm24 (Nat.not_lt_zero _)
            | succ n24 ih24 =>
              intro x24 l24 hi24 hm24
              have hj24 := hi24
              obtain ⟨ix24⟩ := hi24
              have hxl24 := hVl x24 (by omega) (by omega)
              refine s_aload_n dX12_result_108 rfl (Int.natCast_nonneg _) ?_
              refine gf_lastLeft rfl dX12_result_109 hMG21 ?_
              refine s_iload dX12_result_112 rfl ?_
              refine s_iald dX12_result_114 (mg_a_lastLeft hMG21) (by omega) (by omega) (gsnE eG21 (by decide)) ?_
              refine s_iconst dX12_result_115 (by decide) ?_
              refine s_icmp_eq (tgt := 197) dX12_result_116 (by decide) (fun c25 => ?_) (fun c25 => ?_)
              · -- 116 to 197
                refine s_aload_n dX12_result_197 rfl (Int.natCast_nonneg _) ?_
                refine gf_lastNumber rfl dX12_result_198 hMG21 ?_
                refine s_iload dX12_result_201 rfl ?_
                refine s_iald dX12_result_203 (mg_a_lastNumber hMG21) (by omega) (by omega) (gsnE eG21 (by decide)) ?_
                exact s_iret hR dX12_result_204 rfl (hQ _ G21 hMG21 (⟨hFG21, trivial⟩))
              · -- 116 to 119
                refine s_lload dX12_result_119 rfl ?_
                refine s_aload_n dX12_result_121 rfl (Int.natCast_nonneg _) ?_
                refine gf_lastCount rfl dX12_result_122 hMG21 ?_
                refine s_aload_n dX12_result_125 rfl (Int.natCast_nonneg _) ?_
                refine gf_lastLeft rfl dX12_result_126 hMG21 ?_
                refine s_iload dX12_result_129 rfl ?_
                refine s_iald dX12_result_131 (mg_a_lastLeft hMG21) (by omega) (by omega) (gsnE eG21 (by decide)) ?_
                refine s_lald dX12_result_132 (mg_a_lastCount hMG21) (by omega) (by omega) (gsnE eG21 (by decide)) ?_
                refine s_lcmp dX12_result_133 (fun w26 hrw26 hcw26 hqw26 hgw26 => ?_)
                have J28 : ∀ z27 : Int, ((0 ≤ w26) ∧ z27 = 0) ∨ ((¬ 0 ≤ w26) ∧ z27 = 1) → WP kX12_result X 142 [some (2, ((1000 : Nat) : Int)), some (0, k), some (0, p), some (0, z1), some (0, x24), some (1, l24), none, none] [(0, z27)] G21 := by
                  intro z27 hz27
                  refine s_istore dX12_result_142 (by decide) (lv' := [some (2, ((1000 : Nat) : Int)), some (0, k), some (0, p), some (0, z1), some (0, x24), some (1, l24), none, some (0, z27)]) rfl ?_
                  refine s_lload dX12_result_144 rfl ?_
                  refine s_iload dX12_result_146 rfl ?_
                  have J30 : ∀ z29 : Int, ((z27 = 0) ∧ z29 = gS G a_lastCount ((gS G a_lastLeft ((x24).toNat)).toNat)) ∨ ((¬ z27 = 0) ∧ z29 = 0) → WP kX12_result X 167 [some (2, ((1000 : Nat) : Int)), some (0, k), some (0, p), some (0, z1), some (0, x24), some (1, l24), none, some (0, z27)] [(1, z29), (1, l24)] G21 := by
                    intro z29 hz29
                    refine s_lsubW dX12_result_167 (fun w31 hrw31 hew31 => ?_)
                    refine s_lstore dX12_result_168 (by decide) (lv' := [some (2, ((1000 : Nat) : Int)), some (0, k), some (0, p), some (0, z1), some (0, x24), some (1, w31), none, some (0, z27)]) rfl ?_
                    refine s_iload dX12_result_170 rfl ?_
                    have J33 : ∀ z32 : Int, ((z27 = 0) ∧ z32 = gS G a_lastRight ((x24).toNat)) ∨ ((¬ z27 = 0) ∧ z32 = gS G a_lastLeft ((x24).toNat)) → WP kX12_result X 192 [some (2, ((1000 : Nat) : Int)), some (0, k), some (0, p), some (0, z1), some (0, x24), some (1, w31), none, some (0, z27)] [(0, z32)] G21 := by
                      intro z32 hz32
                      refine s_istore dX12_result_192 (by decide) (lv' := [some (2, ((1000 : Nat) : Int)), some (0, k), some (0, p), some (0, z1), some (0, z32), some (1, w31), none, some (0, z27)]) rfl ?_
                      refine s_goto (tgt := 108) dX12_result_194 (by decide) ?_
                      refine s_mask [true, true, true, true, true, true, false, false] (lv' := [some (2, ((1000 : Nat) : Int)), some (0, k), some (0, p), some (0, z1), some (0, z32), some (1, w31), none, none]) rfl ?_
                      exact ih24 z32 w31 ((by omega)) (by omega)
                    refine s_if_eq (tgt := 185) dX12_result_172 (by decide) (fun c34 => ?_) (fun c34 => ?_)
                    · -- 172 to 185
                      refine s_aload_n dX12_result_185 rfl (Int.natCast_nonneg _) ?_
                      refine gf_lastRight rfl dX12_result_186 hMG21 ?_
                      refine s_iload dX12_result_189 rfl ?_
                      refine s_iald dX12_result_191 (mg_a_lastRight hMG21) (by omega) (by omega) (gsnE eG21 (by decide)) ?_
                      exact J33 _ (Or.inl ⟨c34, rfl⟩)
                    · -- 172 to 175
                      refine s_aload_n dX12_result_175 rfl (Int.natCast_nonneg _) ?_
                      refine gf_lastLeft rfl dX12_result_176 hMG21 ?_
                      refine s_iload dX12_result_179 rfl ?_
                      refine s_iald dX12_result_181 (mg_a_lastLeft hMG21) (by omega) (by omega) (gsnE eG21 (by decide)) ?_
                      refine s_goto (tgt := 192) dX12_result_182 (by decide) ?_
                      exact J33 _ (Or.inr (⟨c34, rfl⟩))
                  refine s_if_eq (tgt := 155) dX12_result_148 (by decide) (fun c35 => ?_) (fun c35 => ?_)
                  · -- 148 to 155
                    refine s_aload_n dX12_result_155 rfl (Int.natCast_nonneg _) ?_
                    refine gf_lastCount rfl dX12_result_156 hMG21 ?_
                    refine s_aload_n dX12_result_159 rfl (Int.natCast_nonneg _) ?_
                    refine gf_lastLeft rfl dX12_result_160 hMG21 ?_
                    refine s_iload dX12_result_163 rfl ?_
                    refine s_iald dX12_result_165 (mg_a_lastLeft hMG21) (by omega) (by omega) (gsnE eG21 (by decide)) ?_
                    refine s_lald dX12_result_166 (mg_a_lastCount hMG21) (by omega) (by omega) (gsnE eG21 (by decide)) ?_
                    exact J30 _ (Or.inl ⟨c35, rfl⟩)
                  · -- 148 to 151
                    refine s_lconst dX12_result_151 ?_
                    show WP kX12_result X 152 [some (2, ((1000 : Nat) : Int)), some (0, k), some (0, p), some (0, z1), some (0, x24), some (1, l24), none, some (0, z27)] [(1, 0), (1, l24)] G21
                    refine s_goto (tgt := 167) dX12_result_152 (by decide) ?_
                    exact J30 0 (Or.inr (⟨c35, rfl⟩))
                refine s_if_ge (tgt := 141) dX12_result_134 (by decide) (fun c36 => ?_) (fun c36 => ?_)
                · -- 134 to 141
                  refine s_iconst dX12_result_141 (by decide) ?_
                  exact J28 0 (Or.inl ⟨c36, rfl⟩)
                · -- 134 to 137
                  refine s_iconst dX12_result_137 (by decide) ?_
                  refine s_goto (tgt := 142) dX12_result_138 (by decide) ?_
                  exact J28 1 (Or.inr (⟨c36, rfl⟩))
          exact L24 _ (gS G a_lastOf ((k).toNat)) p ((by omega)) (Nat.lt_succ_self _)
        · -- 91 to 94
          refine s_iconst dX12_result_94 (by decide) ?_
          exact s_iret hR dX12_result_95 rfl (hQ _ G21 hMG21 (⟨hFG21, trivial⟩))
      · -- 52 to 55
        refine s_iload_n dX12_result_55 rfl ?_
        refine s_i2l dX12_result_56 ?_
        refine s_aload_n dX12_result_57 rfl (Int.natCast_nonneg _) ?_
        refine gf_lastCount rfl dX12_result_58 hM ?_
        refine s_aload_n dX12_result_61 rfl (Int.natCast_nonneg _) ?_
        refine gf_lastOf rfl dX12_result_62 hM ?_
        refine s_iload_n dX12_result_65 rfl ?_
        refine cs_X12_302 rfl gX12_isValue dX12_result_66 (by rw [hcf]; decide) (as := [(0, k)]) rfl (Nat.le_of_ble_eq_true rfl) ⟨k, rfl, ?_⟩
        show WP kX12_result X 69 [some (2, ((1000 : Nat) : Int)), some (0, k), some (0, p), some (0, z1), none, none, none, none] [(0, b2i (0 ≤ k ∧ k ≤ 9)), (2, ((a_lastOf : Nat) : Int)), (2, ((a_lastCount : Nat) : Int)), (1, p), (0, z1), (0, b2i (0 ≤ k ∧ k ≤ 9)), (2, ((1000 : Nat) : Int))] G
        have J38 : ∀ z37 : Int, ((¬ (0 ≤ k ∧ k ≤ 9)) ∧ z37 = 0) ∨ ((0 ≤ k ∧ k ≤ 9) ∧ z37 = k) → WP kX12_result X 77 [some (2, ((1000 : Nat) : Int)), some (0, k), some (0, p), some (0, z1), none, none, none, none] [(0, z37), (2, ((a_lastOf : Nat) : Int)), (2, ((a_lastCount : Nat) : Int)), (1, p), (0, z1), (0, b2i (0 ≤ k ∧ k ≤ 9)), (2, ((1000 : Nat) : Int))] G := by
          intro z37 hz37
          have hzk : z37 = k := by omega
          rw [hzk]
          obtain ⟨V9, hV9, hVo9, -⟩ := hLR.2 (by omega)
          have hof9 := hVo9 k (by omega) (by omega)
          refine s_iald dX12_result_77 (mg_a_lastOf hM) (by omega) (by omega) rfl ?_
          refine s_lald dX12_result_78 (mg_a_lastCount hM) (by omega) (by omega) rfl ?_
          refine s_lcmp dX12_result_79 (fun w39 hrw39 hcw39 hqw39 hgw39 => ?_)
          have J41 : ∀ z40 : Int, ((0 ≤ w39) ∧ z40 = 0) ∨ ((¬ 0 ≤ w39) ∧ z40 = 1) → WP kX12_result X 88 [some (2, ((1000 : Nat) : Int)), some (0, k), some (0, p), some (0, z1), none, none, none, none] [(0, z40), (0, z1), (0, b2i (0 ≤ k ∧ k ≤ 9)), (2, ((1000 : Nat) : Int))] G := by
            intro z40 hz40
            refine cv_X12_298 rfl gX12_goes dX12_result_88 hM (by rw [hcf]; decide) (as := [(0, b2i (0 ≤ k ∧ k ≤ 9)), (0, z1), (0, z40)]) rfl (Nat.le_of_ble_eq_true rfl) ⟨b2i (0 ≤ k ∧ k ≤ 9), z1, z40, rfl, hM, fun r43 G42 hMG42 hpG42 => ?_⟩
            obtain ⟨eG42, hpG42⟩ := hpG42
            have hFG42 : Fr nX12_result jX12_result G G42 := Fr.setF Fr.rf eG42 (by decide)
            show WP kX12_result X 91 [some (2, ((1000 : Nat) : Int)), some (0, k), some (0, p), some (0, z1), none, none, none, none] [(0, r43)] G42
            refine s_if_ne (tgt := 96) dX12_result_91 (by decide) (fun c44 => ?_) (fun c44 => ?_)
            · -- 91 to 96
              have hg := goes_r hpG42 (by assumption)
              have hnm := b2i_n hg.1
              obtain ⟨V, hV, hVo, hVl⟩ := hLR.2 (by omega)
              have hof := hVo k (by omega) (by omega)
              refine s_aload_n dX12_result_96 rfl (Int.natCast_nonneg _) ?_
              refine gf_lastOf rfl dX12_result_97 hMG42 ?_
              refine s_iload_n dX12_result_100 rfl ?_
              refine s_iald dX12_result_101 (mg_a_lastOf hMG42) (by omega) (by omega) (gsnE eG42 (by decide)) ?_
              refine s_istore dX12_result_102 (by decide) (lv' := [some (2, ((1000 : Nat) : Int)), some (0, k), some (0, p), some (0, z1), some (0, gS G a_lastOf ((k).toNat)), none, none, none]) rfl ?_
              refine s_iload_n dX12_result_104 rfl ?_
              refine s_i2l dX12_result_105 ?_
              refine s_lstore dX12_result_106 (by decide) (lv' := [some (2, ((1000 : Nat) : Int)), some (0, k), some (0, p), some (0, z1), some (0, gS G a_lastOf ((k).toNat)), some (1, p), none, none]) rfl ?_
              have L45 : ∀ (n45 : Nat) (x45 : Int) (l45 : Int), ((0 ≤ x45 ∧ x45 < V)) → (x45).toNat < n45 → WP kX12_result X 108 [some (2, ((1000 : Nat) : Int)), some (0, k), some (0, p), some (0, z1), some (0, x45), some (1, l45), none, none] [] G42 := by
                intro n45
                induction n45 with
                | zero => intro x45 l45 hi45 hm45; exact absurd hm45 (Nat.not_lt_zero _)
                | succ n45 ih45 =>
                  intro x45 l45 hi45 hm45
                  have hj45 := hi45
                  obtain ⟨ix45⟩ := hi45
                  have hxl45 := hVl x45 (by omega) (by omega)
                  refine s_aload_n dX12_result_108 rfl (Int.natCast_nonneg _) ?_
                  refine gf_lastLeft rfl dX12_result_109 hMG42 ?_
                  refine s_iload dX12_result_112 rfl ?_
                  refine s_iald dX12_result_114 (mg_a_lastLeft hMG42) (by omega) (by omega) (gsnE eG42 (by decide)) ?_
                  refine s_iconst dX12_result_115 (by decide) ?_
                  refine s_icmp_eq (tgt := 197) dX12_result_116 (by decide) (fun c46 => ?_) (fun c46 => ?_)
                  · -- 116 to 197
                    refine s_aload_n dX12_result_197 rfl (Int.natCast_nonneg _) ?_
                    refine gf_lastNumber rfl dX12_result_198 hMG42 ?_
                    refine s_iload dX12_result_201 rfl ?_
                    refine s_iald dX12_result_203 (mg_a_lastNumber hMG42) (by omega) (by omega) (gsnE eG42 (by decide)) ?_
                    exact s_iret hR dX12_result_204 rfl (hQ _ G42 hMG42 (⟨hFG42, trivial⟩))
                  · -- 116 to 119
                    refine s_lload dX12_result_119 rfl ?_
                    refine s_aload_n dX12_result_121 rfl (Int.natCast_nonneg _) ?_
                    refine gf_lastCount rfl dX12_result_122 hMG42 ?_
                    refine s_aload_n dX12_result_125 rfl (Int.natCast_nonneg _) ?_
                    refine gf_lastLeft rfl dX12_result_126 hMG42 ?_
                    refine s_iload dX12_result_129 rfl ?_
                    refine s_iald dX12_result_131 (mg_a_lastLeft hMG42) (by omega) (by omega) (gsnE eG42 (by decide)) ?_
                    refine s_lald dX12_result_132 (mg_a_lastCount hMG42) (by omega) (by omega) (gsnE eG42 (by decide)) ?_
                    refine s_lcmp dX12_result_133 (fun w47 hrw47 hcw47 hqw47 hgw47 => ?_)
                    have J49 : ∀ z48 : Int, ((0 ≤ w47) ∧ z48 = 0) ∨ ((¬ 0 ≤ w47) ∧ z48 = 1) → WP kX12_result X 142 [some (2, ((1000 : Nat) : Int)), some (0, k), some (0, p), some (0, z1), some (0, x45), some (1, l45), none, none] [(0, z48)] G42 := by
                      intro z48 hz48
                      refine s_istore dX12_result_142 (by decide) (lv' := [some (2, ((1000 : Nat) : Int)), some (0, k), some (0, p), some (0, z1), some (0, x45), some (1, l45), none, some (0, z48)]) rfl ?_
                      refine s_lload dX12_result_144 rfl ?_
                      refine s_iload dX12_result_146 rfl ?_
                      have J51 : ∀ z50 : Int, ((z48 = 0) ∧ z50 = gS G a_lastCount ((gS G a_lastLeft ((x45).toNat)).toNat)) ∨ ((¬ z48 = 0) ∧ z50 = 0) → WP kX12_result X 167 [some (2, ((1000 : Nat) : Int)), some (0, k), some (0, p), some (0, z1), some (0, x45), some (1, l45), none, some (0, z48)] [(1, z50), (1, l45)] G42 := by
                        intro z50 hz50
                        refine s_lsubW dX12_result_167 (fun w52 hrw52 hew52 => ?_)
                        refine s_lstore dX12_result_168 (by decide) (lv' := [some (2, ((1000 : Nat) : Int)), some (0, k), some (0, p), some (0, z1), some (0, x45), some (1, w52), none, some (0, z48)]) rfl ?_
                        refine s_iload dX12_result_170 rfl ?_
                        have J54 : ∀ z53 : Int, ((z48 = 0) ∧ z53 = gS G a_lastRight ((x45).toNat)) ∨ ((¬ z48 = 0) ∧ z53 = gS G a_lastLeft ((x45).toNat)) → WP kX12_result X 192 [some (2, ((1000 : Nat) : Int)), some (0, k), some (0, p), some (0, z1), some (0, x45), some (1, w52), none, some (0, z48)] [(0, z53)] G42 := by
                          intro z53 hz53
                          refine s_istore dX12_result_192 (by decide) (lv' := [some (2, ((1000 : Nat) : Int)), some (0, k), some (0, p), some (0, z1), some (0, z53), some (1, w52), none, some (0, z48)]) rfl ?_
                          refine s_goto (tgt := 108) dX12_result_194 (by decide) ?_
                          refine s_mask [true, true, true, true, true, true, false, false] (lv' := [some (2, ((1000 : Nat) : Int)), some (0, k), some (0, p), some (0, z1), some (0, z53), some (1, w52), none, none]) rfl ?_
                          exact ih45 z53 w52 ((by omega)) (by omega)
                        refine s_if_eq (tgt := 185) dX12_result_172 (by decide) (fun c55 => ?_) (fun c55 => ?_)
                        · -- 172 to 185
                          refine s_aload_n dX12_result_185 rfl (Int.natCast_nonneg _) ?_
                          refine gf_lastRight rfl dX12_result_186 hMG42 ?_
                          refine s_iload dX12_result_189 rfl ?_
                          refine s_iald dX12_result_191 (mg_a_lastRight hMG42) (by omega) (by omega) (gsnE eG42 (by decide)) ?_
                          exact J54 _ (Or.inl ⟨c55, rfl⟩)
                        · -- 172 to 175
                          refine s_aload_n dX12_result_175 rfl (Int.natCast_nonneg _) ?_
                          refine gf_lastLeft rfl dX12_result_176 hMG42 ?_
                          refine s_iload dX12_result_179 rfl ?_
                          refine s_iald dX12_result_181 (mg_a_lastLeft hMG42) (by omega) (by omega) (gsnE eG42 (by decide)) ?_
                          refine s_goto (tgt := 192) dX12_result_182 (by decide) ?_
                          exact J54 _ (Or.inr (⟨c55, rfl⟩))
                      refine s_if_eq (tgt := 155) dX12_result_148 (by decide) (fun c56 => ?_) (fun c56 => ?_)
                      · -- 148 to 155
                        refine s_aload_n dX12_result_155 rfl (Int.natCast_nonneg _) ?_
                        refine gf_lastCount rfl dX12_result_156 hMG42 ?_
                        refine s_aload_n dX12_result_159 rfl (Int.natCast_nonneg _) ?_
                        refine gf_lastLeft rfl dX12_result_160 hMG42 ?_
                        refine s_iload dX12_result_163 rfl ?_
                        refine s_iald dX12_result_165 (mg_a_lastLeft hMG42) (by omega) (by omega) (gsnE eG42 (by decide)) ?_
                        refine s_lald dX12_result_166 (mg_a_lastCount hMG42) (by omega) (by omega) (gsnE eG42 (by decide)) ?_
                        exact J51 _ (Or.inl ⟨c56, rfl⟩)
                      · -- 148 to 151
                        refine s_lconst dX12_result_151 ?_
                        show WP kX12_result X 152 [some (2, ((1000 : Nat) : Int)), some (0, k), some (0, p), some (0, z1), some (0, x45), some (1, l45), none, some (0, z48)] [(1, 0), (1, l45)] G42
                        refine s_goto (tgt := 167) dX12_result_152 (by decide) ?_
                        exact J51 0 (Or.inr (⟨c56, rfl⟩))
                    refine s_if_ge (tgt := 141) dX12_result_134 (by decide) (fun c57 => ?_) (fun c57 => ?_)
                    · -- 134 to 141
                      refine s_iconst dX12_result_141 (by decide) ?_
                      exact J49 0 (Or.inl ⟨c57, rfl⟩)
                    · -- 134 to 137
                      refine s_iconst dX12_result_137 (by decide) ?_
                      refine s_goto (tgt := 142) dX12_result_138 (by decide) ?_
                      exact J49 1 (Or.inr (⟨c57, rfl⟩))
              exact L45 _ (gS G a_lastOf ((k).toNat)) p ((by omega)) (Nat.lt_succ_self _)
            · -- 91 to 94
              refine s_iconst dX12_result_94 (by decide) ?_
              exact s_iret hR dX12_result_95 rfl (hQ _ G42 hMG42 (⟨hFG42, trivial⟩))
          refine s_if_ge (tgt := 87) dX12_result_80 (by decide) (fun c58 => ?_) (fun c58 => ?_)
          · -- 80 to 87
            refine s_iconst dX12_result_87 (by decide) ?_
            exact J41 0 (Or.inl ⟨c58, rfl⟩)
          · -- 80 to 83
            refine s_iconst dX12_result_83 (by decide) ?_
            refine s_goto (tgt := 88) dX12_result_84 (by decide) ?_
            exact J41 1 (Or.inr (⟨c58, rfl⟩))
        refine s_if_eqB (tgt := 76) dX12_result_69 (by decide) (fun c59 => ?_) (fun c59 => ?_)
        · -- 69 to 76
          refine s_iconst dX12_result_76 (by decide) ?_
          exact J38 0 (Or.inl ⟨c59, rfl⟩)
        · -- 69 to 72
          refine s_iload_n dX12_result_72 rfl ?_
          refine s_goto (tgt := 77) dX12_result_73 (by decide) ?_
          exact J38 k (Or.inr (⟨c59, rfl⟩))
  refine s_if_eqB (tgt := 39) dX12_result_4 (by decide) (fun c60 => ?_) (fun c60 => ?_)
  · -- 4 to 39
    refine s_iconst dX12_result_39 (by decide) ?_
    exact J2 0 (Or.inl ⟨c60, rfl⟩)
  · -- 4 to 7
    refine s_aload_n dX12_result_7 rfl (Int.natCast_nonneg _) ?_
    refine gf_hasRun rfl dX12_result_8 hM rfl ?_
    refine s_if_eq (tgt := 39) dX12_result_11 (by decide) (fun c61 => ?_) (fun c61 => ?_)
    · -- 11 to 39
      refine s_iconst dX12_result_39 (by decide) ?_
      exact J2 0 (Or.inr (Or.inl ⟨c60, c61, rfl⟩))
    · -- 11 to 14
      refine s_aload_n dX12_result_14 rfl (Int.natCast_nonneg _) ?_
      refine gf_lastOf rfl dX12_result_15 hM ?_
      refine s_iload_n dX12_result_18 rfl ?_
      refine cs_X12_302 rfl gX12_isValue dX12_result_19 (by rw [hcf]; decide) (as := [(0, k)]) rfl (Nat.le_of_ble_eq_true rfl) ⟨k, rfl, ?_⟩
      show WP kX12_result X 22 [some (2, ((1000 : Nat) : Int)), some (0, k), some (0, p), none, none, none, none, none] [(0, b2i (0 ≤ k ∧ k ≤ 9)), (2, ((a_lastOf : Nat) : Int))] G
      refine s_if_eqB (tgt := 29) dX12_result_22 (by decide) (fun c62 => ?_) (fun c62 => ?_)
      · -- 22 to 29
        refine s_iconst dX12_result_29 (by decide) ?_
        refine s_iald dX12_result_30 (mg_a_lastOf hM) (by omega) (by omega) rfl ?_
        refine s_iconst dX12_result_31 (by decide) ?_
        refine s_icmp_eq (tgt := 39) dX12_result_32 (by decide) (fun c63 => ?_) (fun c63 => ?_)
        · -- 32 to 39
          refine s_iconst dX12_result_39 (by decide) ?_
          exact J2 0 (Or.inr (Or.inr (Or.inl ⟨c60, c61, c62, c63, rfl⟩)))
        · -- 32 to 35
          refine s_iconst dX12_result_35 (by decide) ?_
          refine s_goto (tgt := 40) dX12_result_36 (by decide) ?_
          exact J2 1 (Or.inr (Or.inr (Or.inr (Or.inl ⟨c60, c61, c62, c63, rfl⟩))))
      · -- 22 to 25
        refine s_iload_n dX12_result_25 rfl ?_
        refine s_goto (tgt := 30) dX12_result_26 (by decide) ?_
        refine s_iald dX12_result_30 (mg_a_lastOf hM) (by omega) (by omega) rfl ?_
        refine s_iconst dX12_result_31 (by decide) ?_
        refine s_icmp_eq (tgt := 39) dX12_result_32 (by decide) (fun c64 => ?_) (fun c64 => ?_)
        · -- 32 to 39
          refine s_iconst dX12_result_39 (by decide) ?_
          exact J2 0 (Or.inr (Or.inr (Or.inr (Or.inr (Or.inl ⟨c60, c61, c62, c64, rfl⟩)))))
        · -- 32 to 35
          refine s_iconst dX12_result_35 (by decide) ?_
          refine s_goto (tgt := 40) dX12_result_36 (by decide) ?_
          exact J2 1 (Or.inr (Or.inr (Or.inr (Or.inr (Or.inr (⟨c60, c61, c62, c64, rfl⟩))))))

abbrev nX12_logged : List Nat := []
abbrev jX12_logged : List Nat := [25]
def TX12_logged : TR := fun as G Qr => as = [(2, ((1000 : Nat) : Int))] ∧ MG G ∧ ∀ (r : Int) (G' : LG), MG G' → (Fr nX12_logged jX12_logged G G' ∧ (True)) → Qr (.inl (some (0, r))) G'
set_option maxHeartbeats 4000000 in
set_option maxRecDepth 100000 in
theorem gX12_logged : Good kX12_logged yX12_logged 1 TX12_logged := by
  refine good_of (by decide) rfl rfl (fun as G Qr h => ?_) (fun X as G Qr hcf hR hT oa => ?_)
  · obtain ⟨rfl, -⟩ := h; exact Nat.le_of_ble_eq_true rfl
  obtain ⟨rfl, hM, hQ⟩ := hT
  show WP kX12_logged X 0 [some (2, ((1000 : Nat) : Int))] [] G
  refine s_aload_n dX12_logged_0 rfl (Int.natCast_nonneg _) ?_
  refine s_aload_n dX12_logged_1 rfl (Int.natCast_nonneg _) ?_
  refine gf_lastLogs rfl dX12_logged_2 hM rfl ?_
  refine cv_X12_604 rfl gX12_tells dX12_logged_5 hM (by rw [hcf]; decide) (as := [(0, gS G 1000 98)]) rfl (Nat.le_of_ble_eq_true rfl) ⟨gS G 1000 98, rfl, hM, fun r2 G1 hMG1 hpG1 => ?_⟩
  obtain ⟨eG1, hpG1⟩ := hpG1
  have hFG1 : Fr nX12_logged jX12_logged G G1 := Fr.setF Fr.rf eG1 (by decide)
  show WP kX12_logged X 8 [some (2, ((1000 : Nat) : Int))] [(0, r2)] G1
  exact s_iret hR dX12_logged_8 rfl (hQ _ G1 hMG1 (⟨hFG1, trivial⟩))

abbrev nX12_total : List Nat := []
abbrev jX12_total : List Nat := [25]
def TX12_total : TR := fun as G Qr => as = [(2, ((1000 : Nat) : Int))] ∧ MG G ∧ ∀ (r : Int) (G' : LG), MG G' → (Fr nX12_total jX12_total G G' ∧ (True)) → Qr (.inl (some (0, r))) G'
set_option maxHeartbeats 4000000 in
set_option maxRecDepth 100000 in
theorem gX12_total : Good kX12_total yX12_total 1 TX12_total := by
  refine good_of (by decide) rfl rfl (fun as G Qr h => ?_) (fun X as G Qr hcf hR hT oa => ?_)
  · obtain ⟨rfl, -⟩ := h; exact Nat.le_of_ble_eq_true rfl
  obtain ⟨rfl, hM, hQ⟩ := hT
  show WP kX12_total X 0 [some (2, ((1000 : Nat) : Int))] [] G
  refine s_aload_n dX12_total_0 rfl (Int.natCast_nonneg _) ?_
  refine s_aload_n dX12_total_1 rfl (Int.natCast_nonneg _) ?_
  refine gf_lastCells rfl dX12_total_2 hM rfl ?_
  refine cv_X12_604 rfl gX12_tells dX12_total_5 hM (by rw [hcf]; decide) (as := [(0, gS G 1000 100)]) rfl (Nat.le_of_ble_eq_true rfl) ⟨gS G 1000 100, rfl, hM, fun r2 G1 hMG1 hpG1 => ?_⟩
  obtain ⟨eG1, hpG1⟩ := hpG1
  have hFG1 : Fr nX12_total jX12_total G G1 := Fr.setF Fr.rf eG1 (by decide)
  show WP kX12_total X 8 [some (2, ((1000 : Nat) : Int))] [(0, r2)] G1
  exact s_iret hR dX12_total_8 rfl (hQ _ G1 hMG1 (⟨hFG1, trivial⟩))

abbrev nX12_dropped : List Nat := []
abbrev jX12_dropped : List Nat := [25]
def TX12_dropped : TR := fun as G Qr => as = [(2, ((1000 : Nat) : Int))] ∧ MG G ∧ ∀ (r : Int) (G' : LG), MG G' → (Fr nX12_dropped jX12_dropped G G' ∧ (True)) → Qr (.inl (some (0, r))) G'
set_option maxHeartbeats 4000000 in
set_option maxRecDepth 100000 in
theorem gX12_dropped : Good kX12_dropped yX12_dropped 1 TX12_dropped := by
  refine good_of (by decide) rfl rfl (fun as G Qr h => ?_) (fun X as G Qr hcf hR hT oa => ?_)
  · obtain ⟨rfl, -⟩ := h; exact Nat.le_of_ble_eq_true rfl
  obtain ⟨rfl, hM, hQ⟩ := hT
  show WP kX12_dropped X 0 [some (2, ((1000 : Nat) : Int))] [] G
  refine s_aload_n dX12_dropped_0 rfl (Int.natCast_nonneg _) ?_
  refine s_aload_n dX12_dropped_1 rfl (Int.natCast_nonneg _) ?_
  refine gf_lastDropped rfl dX12_dropped_2 hM rfl ?_
  refine cv_X12_604 rfl gX12_tells dX12_dropped_5 hM (by rw [hcf]; decide) (as := [(0, gS G 1000 101)]) rfl (Nat.le_of_ble_eq_true rfl) ⟨gS G 1000 101, rfl, hM, fun r2 G1 hMG1 hpG1 => ?_⟩
  obtain ⟨eG1, hpG1⟩ := hpG1
  have hFG1 : Fr nX12_dropped jX12_dropped G G1 := Fr.setF Fr.rf eG1 (by decide)
  show WP kX12_dropped X 8 [some (2, ((1000 : Nat) : Int))] [(0, r2)] G1
  exact s_iret hR dX12_dropped_8 rfl (hQ _ G1 hMG1 (⟨hFG1, trivial⟩))

abbrev nX12_log : List Nat := []
abbrev jX12_log : List Nat := [25]
def TX12_log : TR := fun as G Qr => ∃ (p : Int), as = [(2, ((1000 : Nat) : Int)), (0, p)] ∧ MG G ∧ (LR G) ∧ ∀ (r : Int) (G' : LG), MG G' → (Fr nX12_log jX12_log G G' ∧ (True)) → Qr (.inl (some (0, r))) G'
set_option maxHeartbeats 4000000 in
set_option maxRecDepth 100000 in
theorem gX12_log : Good kX12_log yX12_log 1 TX12_log := by
  refine good_of (by decide) rfl rfl (fun as G Qr h => ?_) (fun X as G Qr hcf hR hT oa => ?_)
  · obtain ⟨p, rfl, -⟩ := h; exact Nat.le_of_ble_eq_true rfl
  obtain ⟨p, rfl, hM, hLR, hQ⟩ := hT
  show WP kX12_log X 0 [some (2, ((1000 : Nat) : Int)), some (0, p)] [] G
  have hr_p : inR p := okv_R (oa _ (by simp))
  have hl9 := hLR.1
  refine s_aload_n dX12_log_0 rfl (Int.natCast_nonneg _) ?_
  refine s_iload_n dX12_log_1 rfl ?_
  refine s_iconst dX12_log_2 (by decide) ?_
  refine s_aload_n dX12_log_3 rfl (Int.natCast_nonneg _) ?_
  refine gf_lastLogs rfl dX12_log_4 hM rfl ?_
  refine s_iconst dX12_log_7 (by decide) ?_
  refine s_isub dX12_log_8 (by omega) ?_
  refine cs_X12_278 rfl gX12_in dX12_log_9 (by rw [hcf]; decide) (as := [(0, p), (0, 0), (0, (gS G 1000 98) - 1)]) rfl (Nat.le_of_ble_eq_true rfl) ⟨p, 0, (gS G 1000 98) - 1, rfl, ?_⟩
  show WP kX12_log X 12 [some (2, ((1000 : Nat) : Int)), some (0, p)] [(0, b2i (0 ≤ p ∧ p ≤ ((gS G 1000 98) - 1))), (2, ((1000 : Nat) : Int))] G
  refine s_iconst dX12_log_12 (by decide) ?_
  refine s_iconst dX12_log_13 (by decide) ?_
  refine cv_X12_298 rfl gX12_goes dX12_log_14 hM (by rw [hcf]; decide) (as := [(0, b2i (0 ≤ p ∧ p ≤ ((gS G 1000 98) - 1))), (0, 1), (0, 1)]) rfl (Nat.le_of_ble_eq_true rfl) ⟨b2i (0 ≤ p ∧ p ≤ ((gS G 1000 98) - 1)), 1, 1, rfl, hM, fun r2 G1 hMG1 hpG1 => ?_⟩
  obtain ⟨eG1, hpG1⟩ := hpG1
  have hFG1 : Fr nX12_log jX12_log G G1 := Fr.setF Fr.rf eG1 (by decide)
  show WP kX12_log X 17 [some (2, ((1000 : Nat) : Int)), some (0, p)] [(0, r2)] G1
  have hg : ¬ r2 = 0 → 0 ≤ p ∧ p ≤ (gS G 1000 98) - 1 := fun q => b2i_n (goes_r hpG1 q).1
  have J4 : ∀ z3 : Int, ((r2 = 0) ∧ z3 = 0) ∨ ((¬ r2 = 0) ∧ z3 = gS G a_lastLog ((p).toNat)) → WP kX12_log X 30 [some (2, ((1000 : Nat) : Int)), some (0, p)] [(0, z3)] G1 := by
    intro z3 hz3
    exact s_iret hR dX12_log_30 rfl (hQ _ G1 hMG1 (⟨hFG1, trivial⟩))
  refine s_if_eq (tgt := 29) dX12_log_17 (by decide) (fun c5 => ?_) (fun c5 => ?_)
  · -- 17 to 29
    refine s_iconst dX12_log_29 (by decide) ?_
    exact J4 0 (Or.inl ⟨c5, rfl⟩)
  · -- 17 to 20
    refine s_aload_n dX12_log_20 rfl (Int.natCast_nonneg _) ?_
    refine gf_lastLog rfl dX12_log_21 hMG1 ?_
    refine s_iload_n dX12_log_24 rfl ?_
    refine s_iald dX12_log_25 (mg_a_lastLog hMG1) (by omega) (by omega) (gsnE eG1 (by decide)) ?_
    refine s_goto (tgt := 30) dX12_log_26 (by decide) ?_
    exact J4 _ (Or.inr (⟨c5, rfl⟩))
