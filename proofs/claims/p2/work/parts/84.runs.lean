abbrev nX12_runsOnce : List Nat := [a_versionAt, a_above, a_cellAt, a_cellOf, a_table, a_workOn, a_workPhase, a_todo, a_reached, a_state, a_cellValue, a_left, a_right, a_number, a_count, a_actOn, a_actPhase, a_actFor, a_give, a_logOf]
abbrev jX12_runsOnce : List Nat := [63, 67, 69, 73, 79, 84, 88, 90]
def TX12_runsOnce : TR := fun as G Qr => ∃ (N : Int) (S : Int → Prop), as = [(2, ((1000 : Nat) : Int)), (0, N)] ∧ MG G ∧ (ND G) ∧ (UV G) ∧ (EX G) ∧ (RG G S) ∧ (S N) ∧ (CHD G S (N + 1)) ∧ ∀ (r : Int) (G' : LG), MG G' → (Fr nX12_runsOnce jX12_runsOnce G G' ∧ (r = 0 → RDN G' N)) → Qr (.inl (some (0, r))) G'
set_option maxHeartbeats 4000000 in
set_option maxRecDepth 100000 in
theorem gX12_runsOnce : Good kX12_runsOnce yX12_runsOnce 4 TX12_runsOnce := by
  refine good_of (by decide) rfl rfl (fun as G Qr h => ?_) (fun X as G Qr hcf hR hT oa => ?_)
  · obtain ⟨N, S, rfl, -⟩ := h; exact Nat.le_of_ble_eq_true rfl
  obtain ⟨N, S, rfl, hM, hND, hUV, hEX, hS, hN, hCh, hQ⟩ := hT
  show WP kX12_runsOnce X 0 [some (2, ((1000 : Nat) : Int)), some (0, N), none, none, none] [] G
  have hr_N : inR N := okv_R (oa _ (by simp))
  have hN0 := (hS N hN).1
  have hn40 := hND.1
  refine s_aload_n dX12_runsOnce_0 rfl (Int.natCast_nonneg _) ?_
  refine s_iload_n dX12_runsOnce_1 rfl ?_
  refine cv_X12_567 rfl gX12_lays dX12_runsOnce_2 hM (by rw [hcf]; decide) (as := [(0, N)]) rfl (Nat.le_of_ble_eq_true rfl) ⟨N, S, rfl, hM, (by exact hND), (by exact hUV), (by exact hS), (by exact hN), (by exact fun m hm hl => hCh m hm (by omega)), fun r2 G1 hMG1 hpG1 => ?_⟩
  obtain ⟨hfG1, hpG1⟩ := hpG1
  have hFG1 : Fr nX12_runsOnce jX12_runsOnce G G1 := Fr.call Fr.rf hfG1 (by decide) (by decide)
  show WP kX12_runsOnce X 5 [some (2, ((1000 : Nat) : Int)), some (0, N), none, none, none] [(0, r2)] G1
  refine s_istore_n dX12_runsOnce_5 (by decide) (lv' := [some (2, ((1000 : Nat) : Int)), some (0, N), some (0, r2), none, none]) rfl ?_
  refine s_iload_n dX12_runsOnce_6 rfl ?_
  refine s_if_eq (tgt := 12) dX12_runsOnce_7 (by decide) (fun c3 => ?_) (fun c3 => ?_)
  · -- 7 to 12
    obtain ⟨I, hI, hT⟩ := hpG1 (by omega)
    have hI1 := hI.1
    have hI3 := hI.2.2.1
    have hUl : UV G1 := hUV.agr (hFG1.agr (by decide) (by decide) (by decide))
    have hXl : EX G1 := hEX.agr (hFG1.agr (by decide) (by decide) (by decide))
    refine s_aload_n dX12_runsOnce_12 rfl (Int.natCast_nonneg _) ?_
    refine cv_X12_570 rfl gX12_areFilled dX12_runsOnce_13 hMG1 (by rw [hcf]; decide) (as := []) rfl (Nat.le_of_ble_eq_true rfl) ⟨I, rfl, hMG1, (by exact hI), (by exact hUl), (by exact hXl), fun r5 G4 hMG4 hpG4 => ?_⟩
    obtain ⟨hfG4, hpG4⟩ := hpG4
    have hFG4 : Fr nX12_runsOnce jX12_runsOnce G G4 := Fr.call hFG1 hfG4 (by decide) (by decide)
    show WP kX12_runsOnce X 16 [some (2, ((1000 : Nat) : Int)), some (0, N), some (0, r2), none, none] [(0, r5)] G4
    refine s_if_ne (tgt := 22) dX12_runsOnce_16 (by decide) (fun c6 => ?_) (fun c6 => ?_)
    · -- 16 to 22
      have hFI0 := hpG4.2 (by omega)
      refine s_aload_n dX12_runsOnce_22 rfl (Int.natCast_nonneg _) ?_
      refine cv_X12_574 rfl gX12_isRing dX12_runsOnce_23 hMG4 (by rw [hcf]; decide) (as := []) rfl (Nat.le_of_ble_eq_true rfl) ⟨I, rfl, hMG4, (by exact hI.agr ((Fr.call (Fr.rf) hfG4 (by decide) (by decide) : Fr [a_todo] [] G1 G4).agr (by decide) (by decide) (by decide))), (by exact hUl.agr ((Fr.call (Fr.rf) hfG4 (by decide) (by decide) : Fr [a_todo] [] G1 G4).agr (by decide) (by decide) (by decide))), (by exact hXl.agr ((Fr.call (Fr.rf) hfG4 (by decide) (by decide) : Fr [a_todo] [] G1 G4).agr (by decide) (by decide) (by decide))), (by exact hFI0.agr ((Fr.call (Fr.rf) hfG4 (by decide) (by decide) : Fr [a_todo] [] G1 G4).agr (by decide) (by decide) (by decide))), fun r8 G7 hMG7 hpG7 => ?_⟩
      obtain ⟨hfG7, hpG7⟩ := hpG7
      have hFG7 : Fr nX12_runsOnce jX12_runsOnce G G7 := Fr.call hFG4 hfG7 (by decide) (by decide)
      show WP kX12_runsOnce X 26 [some (2, ((1000 : Nat) : Int)), some (0, N), some (0, r2), none, none] [(0, r8)] G7
      refine s_if_eq (tgt := 32) dX12_runsOnce_26 (by decide) (fun c9 => ?_) (fun c9 => ?_)
      · -- 26 to 32
        refine s_aload_n dX12_runsOnce_32 rfl (Int.natCast_nonneg _) ?_
        refine s_iload_n dX12_runsOnce_33 rfl ?_
        refine cv_X12_577 rfl gX12_reaches dX12_runsOnce_34 hMG7 (by rw [hcf]; decide) (as := [(0, N)]) rfl (Nat.le_of_ble_eq_true rfl) ⟨N, I, rfl, hMG7, (by exact hI.agr ((Fr.call (Fr.call (Fr.rf) hfG4 (by decide) (by decide)) hfG7 (by decide) (by decide) : Fr [a_todo, a_reached] [] G1 G7).agr (by decide) (by decide) (by decide))), (by exact hUl.agr ((Fr.call (Fr.call (Fr.rf) hfG4 (by decide) (by decide)) hfG7 (by decide) (by decide) : Fr [a_todo, a_reached] [] G1 G7).agr (by decide) (by decide) (by decide))), (by exact hXl.agr ((Fr.call (Fr.call (Fr.rf) hfG4 (by decide) (by decide)) hfG7 (by decide) (by decide) : Fr [a_todo, a_reached] [] G1 G7).agr (by decide) (by decide) (by decide))), (by exact hFI0.agr ((Fr.call (Fr.call (Fr.rf) hfG4 (by decide) (by decide)) hfG7 (by decide) (by decide) : Fr [a_todo, a_reached] [] G1 G7).agr (by decide) (by decide) (by decide))), (by exact hT.cg (Int.le_refl _) (fun k _ _ => (Fr.call (Fr.call (Fr.rf) hfG4 (by decide) (by decide)) hfG7 (by decide) (by decide) : Fr [a_todo, a_reached] [] G1 G7).atA (by decide) (by decide)) (fun j => (Fr.call (Fr.call (Fr.rf) hfG4 (by decide) (by decide)) hfG7 (by decide) (by decide) : Fr [a_todo, a_reached] [] G1 G7).atA (by decide) (by decide))), (by omega), fun G10 hMG10 hpG10 => ?_⟩
        obtain ⟨hfG10, hpG10⟩ := hpG10
        have hFG10 : Fr nX12_runsOnce jX12_runsOnce G G10 := Fr.call hFG7 hfG10 (by decide) (by decide)
        show WP kX12_runsOnce X 37 [some (2, ((1000 : Nat) : Int)), some (0, N), some (0, r2), none, none] [] G10
        refine s_aload_n dX12_runsOnce_37 rfl (Int.natCast_nonneg _) ?_
        refine s_iconst dX12_runsOnce_38 (by decide) ?_
        refine pf_values rfl dX12_runsOnce_39 hMG10 (fun G12 eG12 hMG12 => ?_)
        have hFG12 : Fr nX12_runsOnce jX12_runsOnce G G12 := Fr.setF hFG10 eG12 (by decide)
        refine s_aload_n dX12_runsOnce_42 rfl (Int.natCast_nonneg _) ?_
        refine s_iconst dX12_runsOnce_43 (by decide) ?_
        refine pf_logs rfl dX12_runsOnce_44 hMG12 (fun G13 eG13 hMG13 => ?_)
        have hFG13 : Fr nX12_runsOnce jX12_runsOnce G G13 := Fr.setF hFG12 eG13 (by decide)
        have hcr : (gS G13 1000 67) = (gS G1 1000 67) := (Fr.setF (Fr.setF (Fr.call (Fr.call (Fr.call (Fr.rf) hfG4 (by decide) (by decide)) hfG7 (by decide) (by decide)) hfG10 (by decide) (by decide)) eG12 (by decide)) eG13 (by decide) : Fr [a_todo, a_reached] [79, 90] G1 G13).atF (by decide) (by decide)
        refine s_iconst dX12_runsOnce_47 (by decide) ?_
        refine s_istore_n dX12_runsOnce_48 (by decide) (lv' := [some (2, ((1000 : Nat) : Int)), some (0, N), some (0, r2), some (0, 0), none]) rfl ?_
        have L14 : ∀ (n14 : Nat) (c14 : Int) (G14 : LG), MG G14 → Fr nX12_runsOnce jX12_runsOnce G G14 → ((0 ≤ c14 ∧ c14 ≤ (gS G13 1000 67)) ∧ (Fr [a_state] [] G13 G14) ∧ (∀ j : Int, 0 ≤ j → j < c14 → (gS G14 a_state (j).toNat) = 0)) → ((gS G13 1000 67) - c14).toNat < n14 → WP kX12_runsOnce X 49 [some (2, ((1000 : Nat) : Int)), some (0, N), some (0, r2), some (0, c14), none] [] G14 := by
          intro n14
          induction n14 with
          | zero => intro c14 G14 hMG14 hFG14 hi14 hm14; exact absurd hm14 (Nat.not_lt_zero _)
          | succ n14 ih14 =>
            intro c14 G14 hMG14 hFG14 hi14 hm14
            have hj14 := hi14
            obtain ⟨ic14, ir14, iz14⟩ := hi14
            have ice14 := ir14.atF (j := 67) (by decide) (by decide)
            refine s_iload_n dX12_runsOnce_49 rfl ?_
            refine s_aload_n dX12_runsOnce_50 rfl (Int.natCast_nonneg _) ?_
            refine gf_cells rfl dX12_runsOnce_51 hMG14 rfl ?_
            refine s_icmp_ge (tgt := 70) dX12_runsOnce_54 (by decide) (fun c15 => ?_) (fun c15 => ?_)
            · -- 54 to 70
              have hlb := Fr.call (ns := nX12_runsOnce) (js := [79, 84, 88, 90]) (Fr.call (ns := nX12_runsOnce) (js := [79, 84, 88, 90]) Fr.rf (Fr.setF (Fr.setF (Fr.call (Fr.call (Fr.call (Fr.rf) hfG4 (by decide) (by decide)) hfG7 (by decide) (by decide)) hfG10 (by decide) (by decide)) eG12 (by decide)) eG13 (by decide) : Fr [a_todo, a_reached] [79, 90] G1 G13) (by decide) (by decide)) ir14 (by decide) (by decide)
              have hlc := Fr.call (ns := [a_todo, a_reached, a_state]) (js := [79, 90]) (Fr.call (ns := [a_todo, a_reached, a_state]) (js := [79, 90]) Fr.rf (Fr.setF (Fr.setF (Fr.call (Fr.call (Fr.call (Fr.rf) hfG4 (by decide) (by decide)) hfG7 (by decide) (by decide)) hfG10 (by decide) (by decide)) eG12 (by decide)) eG13 (by decide) : Fr [a_todo, a_reached] [79, 90] G1 G13) (by decide) (by decide)) ir14 (by decide) (by decide)
              have hIb : IN G14 I (10 * I) := hI.agr (hlc.agr (by decide) (by decide) (by decide))
              have hTb : TGd G14 0 N (10 * I) := hT.cg (Int.le_refl _) (fun k _ _ => hlc.atA (by decide) (by decide)) (fun j => hlc.atA (by decide) (by decide))
              have hUb : UV G14 := hUl.agr (hlc.agr (by decide) (by decide) (by decide))
              have hXb : EX G14 := hXl.agr (hlc.agr (by decide) (by decide) (by decide))
              have hFb : FI G14 := hFI0.agr (hlc.agr (by decide) (by decide) (by decide))
              have hcb : (gS G14 1000 67) = (gS G1 1000 67) := hlc.atF (by decide) (by decide)
              have hvz : (gS G14 1000 79) = 0 := (ir14.atF (by decide) (by decide)).trans (by rw [(Eq.trans (gsjE eG13 (by decide)) (gsaE eG12))])
              have hlz : (gS G14 1000 90) = 0 := (ir14.atF (by decide) (by decide)).trans (by rw [(gsaE eG13)])
              have hst0 : ∀ c : Int, 0 ≤ c → c < (gS G14 1000 67) → (gS G14 a_state (c).toNat) = 0 := fun c c0 c1 => iz14 c c0 (by omega)
              have hR0 : RU0 G14 G14 := by
                have z1 := s0.all (G := G14) (n := (gS G14 1000 67)) (by omega)
                exact ⟨⟨by omega, fun v v0 v1 => by omega⟩, fun c c0 c1 q => by have := hst0 c c0 c1; omega, by omega, by omega, by omega⟩
              refine s_iconst dX12_runsOnce_70 (by decide) ?_
              refine s_istore_n dX12_runsOnce_71 (by decide) (lv' := [some (2, ((1000 : Nat) : Int)), some (0, N), some (0, r2), some (0, 0), none]) rfl ?_
              have L16 : ∀ (n16 : Nat) (c16 : Int) (G16 : LG), MG G16 → Fr nX12_runsOnce jX12_runsOnce G G16 → ((0 ≤ c16 ∧ c16 ≤ (gS G14 1000 67)) ∧ (Fr nRun jRun G14 G16) ∧ (RU0 G16 G14)) → ((gS G14 1000 67) - c16).toNat < n16 → WP kX12_runsOnce X 72 [some (2, ((1000 : Nat) : Int)), some (0, N), some (0, r2), some (0, c16), none] [] G16 := by
                intro n16
                induction n16 with
                | zero => intro c16 G16 hMG16 hFG16 hi16 hm16; exact absurd hm16 (Nat.not_lt_zero _)
                | succ n16 ih16 =>
                  intro c16 G16 hMG16 hFG16 hi16 hm16
                  have hj16 := hi16
                  obtain ⟨ic16, iZ16, iU16⟩ := hi16
                  have hIi16 : IN G16 I (10 * I) := hIb.agr (iZ16.agr (by decide) (by decide) (by decide))
                  have hci16 : (gS G16 1000 67) = (gS G14 1000 67) := iZ16.atF (by decide) (by decide)
                  refine s_iload_n dX12_runsOnce_72 rfl ?_
                  refine s_aload_n dX12_runsOnce_73 rfl (Int.natCast_nonneg _) ?_
                  refine gf_cells rfl dX12_runsOnce_74 hMG16 rfl ?_
                  refine s_icmp_ge (tgt := 118) dX12_runsOnce_77 (by decide) (fun c17 => ?_) (fun c17 => ?_)
                  · -- 77 to 118
                    refine s_iconst dX12_runsOnce_118 (by decide) ?_
                    refine s_istore_n dX12_runsOnce_119 (by decide) (lv' := [some (2, ((1000 : Nat) : Int)), some (0, N), some (0, r2), some (0, 0), none]) rfl ?_
                    have L18 : ∀ (n18 : Nat) (k18 : Int) (G18 : LG), MG G18 → Fr nX12_runsOnce jX12_runsOnce G G18 → ((0 ≤ k18 ∧ k18 ≤ 10) ∧ (Fr nRun jRun G14 G18) ∧ (RU0 G18 G14)) → (10 - k18).toNat < n18 → WP kX12_runsOnce X 120 [some (2, ((1000 : Nat) : Int)), some (0, N), some (0, r2), some (0, k18), none] [] G18 := by
                      intro n18
                      induction n18 with
                      | zero => intro k18 G18 hMG18 hFG18 hi18 hm18; exact absurd hm18 (Nat.not_lt_zero _)
                      | succ n18 ih18 =>
                        intro k18 G18 hMG18 hFG18 hi18 hm18
                        have hj18 := hi18
                        obtain ⟨ik18, iZ18, iU18⟩ := hi18
                        have hIi18 : IN G18 I (10 * I) := hIb.agr (iZ18.agr (by decide) (by decide) (by decide))
                        have hci18 : (gS G18 1000 67) = (gS G14 1000 67) := iZ18.atF (by decide) (by decide)
                        refine s_iload_n dX12_runsOnce_120 rfl ?_
                        refine s_bipush dX12_runsOnce_121 rfl (by decide) ?_
                        refine s_icmp_ge (tgt := 162) dX12_runsOnce_123 (by decide) (fun c19 => ?_) (fun c19 => ?_)
                        · -- 123 to 162
                          refine s_iconst dX12_runsOnce_162 (by decide) ?_
                          exact s_iret hR dX12_runsOnce_163 rfl (hQ _ G18 hMG18 (⟨hFG18, fun _ => ⟨I, hIb.agr (iZ18.agr (by decide) (by decide) (by decide)), hTb.cg (Int.le_refl _) (fun k _ _ => iZ18.atA (by decide) (by decide)) (fun j => iZ18.atA (by decide) (by decide)), iU18.self (iZ18.atF (by decide) (by decide)).symm⟩⟩))
                        · -- 123 to 126
                          refine s_aload_n dX12_runsOnce_126 rfl (Int.natCast_nonneg _) ?_
                          refine s_iload_n dX12_runsOnce_127 rfl ?_
                          refine s_iload_n dX12_runsOnce_128 rfl ?_
                          refine cv_X12_524 rfl gX12_shownBy dX12_runsOnce_129 hMG18 (by rw [hcf]; decide) (as := [(0, N), (0, k18)]) rfl (Nat.le_of_ble_eq_true rfl) ⟨N, k18, I, rfl, hMG18, (by exact hIi18), (by exact hTb.cg (Int.le_refl _) (fun k _ _ => iZ18.atA (by decide) (by decide)) (fun j => iZ18.atA (by decide) (by decide))), (by omega), (by omega), fun r21 G20 hMG20 hpG20 => ?_⟩
                          obtain ⟨hfG20, hpG20⟩ := hpG20
                          have hFG20 : Fr nX12_runsOnce jX12_runsOnce G G20 := Fr.call hFG18 hfG20 (by decide) (by decide)
                          show WP kX12_runsOnce X 132 [some (2, ((1000 : Nat) : Int)), some (0, N), some (0, r2), some (0, k18), none] [(0, r21)] G20
                          refine s_istore dX12_runsOnce_132 (by decide) (lv' := [some (2, ((1000 : Nat) : Int)), some (0, N), some (0, r2), some (0, k18), some (0, r21)]) rfl ?_
                          have hsb9 := hpG20
                          refine s_iload dX12_runsOnce_134 rfl ?_
                          refine s_iconst dX12_runsOnce_136 (by decide) ?_
                          refine s_icmp_eq (tgt := 156) dX12_runsOnce_137 (by decide) (fun c22 => ?_) (fun c22 => ?_)
                          · -- 137 to 156
                            refine s_iinc dX12_runsOnce_156 (v := k18) rfl (by omega) (by decide) (lv' := [some (2, ((1000 : Nat) : Int)), some (0, N), some (0, r2), some (0, k18 + 1), some (0, r21)]) rfl ?_
                            refine s_goto (tgt := 120) dX12_runsOnce_159 (by decide) ?_
                            refine s_mask [true, true, true, true, false] (lv' := [some (2, ((1000 : Nat) : Int)), some (0, N), some (0, r2), some (0, k18 + 1), none]) rfl ?_
                            exact ih18 (k18 + 1) G20 hMG20 hFG20 (⟨(by omega), (by exact Fr.call (ns := nRun) (js := jRun) iZ18 (Fr.call (Fr.rf) hfG20 (by decide) (by decide) : Fr [] [] G18 G20) (by decide) (by decide)), (by exact iU18.frz ((Fr.call (Fr.rf) hfG20 (by decide) (by decide) : Fr [] [] G18 G20).agr (by decide) (by decide) (by decide)))⟩) (by omega)
                          · -- 137 to 140
                            refine s_aload_n dX12_runsOnce_140 rfl (Int.natCast_nonneg _) ?_
                            refine gf_state rfl dX12_runsOnce_141 hMG20 ?_
                            refine s_iload dX12_runsOnce_144 rfl ?_
                            refine s_iald dX12_runsOnce_146 (mg_a_state hMG20) (by omega) (by omega) (Fr.atA hfG20 (by decide) (by decide)) ?_
                            refine s_if_ne (tgt := 156) dX12_runsOnce_147 (by decide) (fun c23 => ?_) (fun c23 => ?_)
                            · -- 147 to 156
                              refine s_iinc dX12_runsOnce_156 (v := k18) rfl (by omega) (by decide) (lv' := [some (2, ((1000 : Nat) : Int)), some (0, N), some (0, r2), some (0, k18 + 1), some (0, r21)]) rfl ?_
                              refine s_goto (tgt := 120) dX12_runsOnce_159 (by decide) ?_
                              refine s_mask [true, true, true, true, false] (lv' := [some (2, ((1000 : Nat) : Int)), some (0, N), some (0, r2), some (0, k18 + 1), none]) rfl ?_
                              exact ih18 (k18 + 1) G20 hMG20 hFG20 (⟨(by omega), (by exact Fr.call (ns := nRun) (js := jRun) iZ18 (Fr.call (Fr.rf) hfG20 (by decide) (by decide) : Fr [] [] G18 G20) (by decide) (by decide)), (by exact iU18.frz ((Fr.call (Fr.rf) hfG20 (by decide) (by decide) : Fr [] [] G18 G20).agr (by decide) (by decide) (by decide)))⟩) (by omega)
                            · -- 147 to 150
                              refine s_aload_n dX12_runsOnce_150 rfl (Int.natCast_nonneg _) ?_
                              refine s_iload dX12_runsOnce_151 rfl ?_
                              refine cv_X12_579 rfl gX12_finds dX12_runsOnce_153 hMG20 (by rw [hcf]; decide) (as := [(0, r21)]) rfl (Nat.le_of_ble_eq_true rfl) ⟨r21, G14, I, rfl, hMG20, (by exact hIb), (by exact hUb), (by exact hXb), (by exact hFb), (by exact Fr.call (ns := nRun) (js := jRun) iZ18 (Fr.call (Fr.rf) hfG20 (by decide) (by decide) : Fr [] [] G18 G20) (by decide) (by decide)), (by exact iU18.frz ((Fr.call (Fr.rf) hfG20 (by decide) (by decide) : Fr [] [] G18 G20).agr (by decide) (by decide) (by decide))), (by omega), (by rw [(Fr.call (Fr.rf) hfG20 (by decide) (by decide) : Fr [] [] G18 G20).atA (by decide) (by decide)]; omega), fun G24 hMG24 hpG24 => ?_⟩
                              obtain ⟨hfG24, hpG24⟩ := hpG24
                              have hFG24 : Fr nX12_runsOnce jX12_runsOnce G G24 := Fr.call hFG20 hfG24 (by decide) (by decide)
                              show WP kX12_runsOnce X 156 [some (2, ((1000 : Nat) : Int)), some (0, N), some (0, r2), some (0, k18), some (0, r21)] [] G24
                              refine s_iinc dX12_runsOnce_156 (v := k18) rfl (by omega) (by decide) (lv' := [some (2, ((1000 : Nat) : Int)), some (0, N), some (0, r2), some (0, k18 + 1), some (0, r21)]) rfl ?_
                              refine s_goto (tgt := 120) dX12_runsOnce_159 (by decide) ?_
                              refine s_mask [true, true, true, true, false] (lv' := [some (2, ((1000 : Nat) : Int)), some (0, N), some (0, r2), some (0, k18 + 1), none]) rfl ?_
                              exact ih18 (k18 + 1) G24 hMG24 hFG24 (⟨(by omega), (by exact Fr.call (ns := nRun) (js := jRun) iZ18 (Fr.call (Fr.call (Fr.rf) hfG20 (by decide) (by decide)) hfG24 (by decide) (by decide) : Fr [a_state, a_cellValue, a_left, a_right, a_number, a_count, a_actOn, a_actPhase, a_actFor, a_give, a_logOf] [79, 84, 88, 90] G18 G24) (by decide) (by decide)), (by exact hpG24)⟩) (by omega)
                    exact L18 _ 0 G16 hMG16 hFG16 (⟨(by omega), (by exact iZ16), (by exact iU16)⟩) (Nat.lt_succ_self _)
                  · -- 77 to 80
                    refine s_aload_n dX12_runsOnce_80 rfl (Int.natCast_nonneg _) ?_
                    refine gf_reached rfl dX12_runsOnce_81 hMG16 ?_
                    refine s_iload_n dX12_runsOnce_84 rfl ?_
                    refine s_bald dX12_runsOnce_85 (mg_a_reached hMG16) (by omega) (by omega) rfl ?_
                    refine s_if_eq (tgt := 112) dX12_runsOnce_86 (by decide) (fun c26 => ?_) (fun c26 => ?_)
                    · -- 86 to 112
                      refine s_iinc dX12_runsOnce_112 (v := c16) rfl (by omega) (by decide) (lv' := [some (2, ((1000 : Nat) : Int)), some (0, N), some (0, r2), some (0, c16 + 1), none]) rfl ?_
                      refine s_goto (tgt := 72) dX12_runsOnce_115 (by decide) ?_
                      exact ih16 (c16 + 1) G16 hMG16 hFG16 (⟨(by omega), (by exact iZ16), (by exact iU16)⟩) (by omega)
                    · -- 86 to 89
                      have hUi16 : UV G16 := hUb.agr (iZ16.agr (by decide) (by decide) (by decide))
                      have hce16 := hIi16.cell hUi16 (c := c16) (by omega) (by omega)
                      have hcx1 := hce16.1
                      have hcx2 := hce16.2.1
                      refine s_aload_n dX12_runsOnce_89 rfl (Int.natCast_nonneg _) ?_
                      refine s_iload_n dX12_runsOnce_90 rfl ?_
                      refine s_iconst dX12_runsOnce_91 (by decide) ?_
                      refine cv_X12_521 rfl gX12_isA dX12_runsOnce_92 hMG16 (by rw [hcf]; decide) (as := [(0, c16), (0, 1)]) rfl (Nat.le_of_ble_eq_true rfl) ⟨c16, 1, rfl, hMG16, (by first | assumption | omega), (by first | assumption | omega), (by first | assumption | omega), ?_⟩
                      show WP kX12_runsOnce X 95 [some (2, ((1000 : Nat) : Int)), some (0, N), some (0, r2), some (0, c16), none] [(0, b2i (¬ i_and (gS G16 a_valueFlags (10 * (gS G16 a_versionAt ((gS G16 a_cellOf (c16).toNat) / 10).toNat) + (gS G16 a_cellOf (c16).toNat) % 10).toNat) 1 = 0))] G16
                      refine s_if_neB (tgt := 112) dX12_runsOnce_95 (by decide) (fun c27 => ?_) (fun c27 => ?_)
                      · -- 95 to 112
                        refine s_iinc dX12_runsOnce_112 (v := c16) rfl (by omega) (by decide) (lv' := [some (2, ((1000 : Nat) : Int)), some (0, N), some (0, r2), some (0, c16 + 1), none]) rfl ?_
                        refine s_goto (tgt := 72) dX12_runsOnce_115 (by decide) ?_
                        exact ih16 (c16 + 1) G16 hMG16 hFG16 (⟨(by omega), (by exact iZ16), (by exact iU16)⟩) (by omega)
                      · -- 95 to 98
                        refine s_aload_n dX12_runsOnce_98 rfl (Int.natCast_nonneg _) ?_
                        refine gf_state rfl dX12_runsOnce_99 hMG16 ?_
                        refine s_iload_n dX12_runsOnce_102 rfl ?_
                        refine s_iald dX12_runsOnce_103 (mg_a_state hMG16) (by omega) (by omega) rfl ?_
                        refine s_if_ne (tgt := 112) dX12_runsOnce_104 (by decide) (fun c28 => ?_) (fun c28 => ?_)
                        · -- 104 to 112
                          refine s_iinc dX12_runsOnce_112 (v := c16) rfl (by omega) (by decide) (lv' := [some (2, ((1000 : Nat) : Int)), some (0, N), some (0, r2), some (0, c16 + 1), none]) rfl ?_
                          refine s_goto (tgt := 72) dX12_runsOnce_115 (by decide) ?_
                          exact ih16 (c16 + 1) G16 hMG16 hFG16 (⟨(by omega), (by exact iZ16), (by exact iU16)⟩) (by omega)
                        · -- 104 to 107
                          refine s_aload_n dX12_runsOnce_107 rfl (Int.natCast_nonneg _) ?_
                          refine s_iload_n dX12_runsOnce_108 rfl ?_
                          refine cv_X12_579 rfl gX12_finds dX12_runsOnce_109 hMG16 (by rw [hcf]; decide) (as := [(0, c16)]) rfl (Nat.le_of_ble_eq_true rfl) ⟨c16, G14, I, rfl, hMG16, (by exact hIb), (by exact hUb), (by exact hXb), (by exact hFb), (by exact iZ16), (by exact iU16), (by omega), (by omega), fun G29 hMG29 hpG29 => ?_⟩
                          obtain ⟨hfG29, hpG29⟩ := hpG29
                          have hFG29 : Fr nX12_runsOnce jX12_runsOnce G G29 := Fr.call hFG16 hfG29 (by decide) (by decide)
                          show WP kX12_runsOnce X 112 [some (2, ((1000 : Nat) : Int)), some (0, N), some (0, r2), some (0, c16), none] [] G29
                          refine s_iinc dX12_runsOnce_112 (v := c16) rfl (by omega) (by decide) (lv' := [some (2, ((1000 : Nat) : Int)), some (0, N), some (0, r2), some (0, c16 + 1), none]) rfl ?_
                          refine s_goto (tgt := 72) dX12_runsOnce_115 (by decide) ?_
                          exact ih16 (c16 + 1) G29 hMG29 hFG29 (⟨(by omega), (by exact Fr.call (ns := nRun) (js := jRun) iZ16 (Fr.call (Fr.rf) hfG29 (by decide) (by decide) : Fr [a_state, a_cellValue, a_left, a_right, a_number, a_count, a_actOn, a_actPhase, a_actFor, a_give, a_logOf] [79, 84, 88, 90] G16 G29) (by decide) (by decide)), (by exact hpG29)⟩) (by omega)
              exact L16 _ 0 G14 hMG14 hFG14 (⟨(by omega), (by exact Fr.rf), (by exact hR0)⟩) (Nat.lt_succ_self _)
            · -- 54 to 57
              refine s_aload_n dX12_runsOnce_57 rfl (Int.natCast_nonneg _) ?_
              refine gf_state rfl dX12_runsOnce_58 hMG14 ?_
              refine s_iload_n dX12_runsOnce_61 rfl ?_
              refine s_iconst dX12_runsOnce_62 (by decide) ?_
              refine r_iast dX12_runsOnce_63 hMG14 (mg_a_state hMG14) (by decide) (by omega) (by omega) (fun G31 eG31 hMG31 => ?_)
              have hFG31 : Fr nX12_runsOnce jX12_runsOnce G G31 := Fr.setA hFG14 eG31 (by decide)
              show WP kX12_runsOnce X 64 [some (2, ((1000 : Nat) : Int)), some (0, N), some (0, r2), some (0, c14), none] [] G31
              refine s_iinc dX12_runsOnce_64 (v := c14) rfl (by omega) (by decide) (lv' := [some (2, ((1000 : Nat) : Int)), some (0, N), some (0, r2), some (0, c14 + 1), none]) rfl ?_
              refine s_goto (tgt := 49) dX12_runsOnce_67 (by decide) ?_
              exact ih14 (c14 + 1) G31 hMG31 hFG31 (⟨(by omega), (by exact Fr.setA ir14 eG31 (by decide)), (by intro j j0 j1; by_cases hj : j = c14; (subst hj; exact g_at (g_upd eG31)); (rw [g_ne (g_upd eG31) (by omega)]; exact iz14 j j0 (by omega)))⟩) (by omega)
        exact L14 _ 0 G13 hMG13 hFG13 (⟨(by omega), (by exact Fr.rf), (by intro j j0 j1; omega)⟩) (Nat.lt_succ_self _)
      · -- 26 to 29
        refine s_bipush dX12_runsOnce_29 rfl (by decide) ?_
        exact s_iret hR dX12_runsOnce_31 rfl (hQ _ G7 hMG7 (⟨hFG7, fun q => by omega⟩))
    · -- 16 to 19
      refine s_bipush dX12_runsOnce_19 rfl (by decide) ?_
      exact s_iret hR dX12_runsOnce_21 rfl (hQ _ G4 hMG4 (⟨hFG4, fun q => by omega⟩))
  · -- 7 to 10
    refine s_iload_n dX12_runsOnce_10 rfl ?_
    exact s_iret hR dX12_runsOnce_11 rfl (hQ _ G1 hMG1 (⟨hFG1, fun q => by omega⟩))

abbrev nX12_decides : List Nat := [a_versionAt, a_above, a_cellAt, a_cellOf, a_table, a_workOn, a_workPhase, a_todo, a_reached, a_state, a_cellValue, a_left, a_right, a_number, a_count, a_actOn, a_actPhase, a_actFor, a_give, a_logOf, a_choiceCode, a_taken]
abbrev jX12_decides : List Nat := [63, 67, 69, 73, 79, 84, 88, 90]
def TX12_decides : TR := fun as G Qr => ∃ (n : Int) (S : Int → Prop), as = [(2, ((1000 : Nat) : Int)), (0, n)] ∧ MG G ∧ (ND G) ∧ (UV G) ∧ (EX G) ∧ (RG G S) ∧ (S n) ∧ ((gS G a_nKind (n).toNat) = 4) ∧ (CHD G S n) ∧ ∀ G' : LG, MG G' → (Fr nX12_decides jX12_decides G G' ∧ (((gS G' a_choiceCode (n).toNat) = 0 → (gS G' a_taken (n).toNat) = (gS G a_nFirst (n).toNat) ∨ (gS G' a_taken (n).toNat) = (gS G a_nSecond (n).toNat)) ∧ ∀ j : Nat, j ≠ (n).toNat → gS G' a_choiceCode j = gS G a_choiceCode j ∧ gS G' a_taken j = gS G a_taken j)) → Qr (.inl none) G'
set_option maxHeartbeats 4000000 in
set_option maxRecDepth 100000 in
theorem gX12_decides : Good kX12_decides yX12_decides 5 TX12_decides := by
  refine good_of (by decide) rfl rfl (fun as G Qr h => ?_) (fun X as G Qr hcf hR hT oa => ?_)
  · obtain ⟨n, S, rfl, -⟩ := h; exact Nat.le_of_ble_eq_true rfl
  obtain ⟨n, S, rfl, hM, hND, hUV, hEX, hS, hn, hk, hCh, hQ⟩ := hT
  show WP kX12_decides X 0 [some (2, ((1000 : Nat) : Int)), some (0, n), none, none] [] G
  have hr_n : inR n := okv_R (oa _ (by simp))
  have hn0 := (hS n hn).1
  have hn40 := hND.1
  have h3 := hS.p3 hn hk
  have h30 := (hS _ h3).1
  have h3n : (gS G a_nThird (n).toNat) < n := (hND.part (k := 2) hn0.1 hn0.2 (by omega) (nMany.k.2.2 hk)).2
  refine s_aload_n dX12_decides_0 rfl (Int.natCast_nonneg _) ?_
  refine gf_choiceCode rfl dX12_decides_1 hM ?_
  refine s_iload_n dX12_decides_4 rfl ?_
  refine s_aload_n dX12_decides_5 rfl (Int.natCast_nonneg _) ?_
  refine s_aload_n dX12_decides_6 rfl (Int.natCast_nonneg _) ?_
  refine gf_nThird rfl dX12_decides_7 hM ?_
  refine s_iload_n dX12_decides_10 rfl ?_
  refine s_iald dX12_decides_11 (mg_a_nThird hM) (by omega) (by omega) rfl ?_
  refine cv_X12_582 rfl gX12_runsOnce dX12_decides_12 hM (by rw [hcf]; decide) (as := [(0, gS G a_nThird ((n).toNat))]) rfl (Nat.le_of_ble_eq_true rfl) ⟨gS G a_nThird ((n).toNat), S, rfl, hM, (by exact hND), (by exact hUV), (by exact hEX), (by exact hS), (by exact h3), (by exact fun m hm hl => hCh m hm (by omega)), fun r2 G1 hMG1 hpG1 => ?_⟩
  obtain ⟨hfG1, hpG1⟩ := hpG1
  have hFG1 : Fr nX12_decides jX12_decides G G1 := Fr.call Fr.rf hfG1 (by decide) (by decide)
  show WP kX12_decides X 15 [some (2, ((1000 : Nat) : Int)), some (0, n), none, none] [(0, r2), (0, n), (2, ((a_choiceCode : Nat) : Int))] G1
  refine r_iast dX12_decides_15 hMG1 (mg_a_choiceCode hMG1) (by decide) (by omega) (by omega) (fun G3 eG3 hMG3 => ?_)
  have hFG3 : Fr nX12_decides jX12_decides G G3 := Fr.setA hFG1 eG3 (by decide)
  show WP kX12_decides X 16 [some (2, ((1000 : Nat) : Int)), some (0, n), none, none] [] G3
  refine s_aload_n dX12_decides_16 rfl (Int.natCast_nonneg _) ?_
  refine gf_choiceCode rfl dX12_decides_17 hMG3 ?_
  refine s_iload_n dX12_decides_20 rfl ?_
  refine s_iald dX12_decides_21 (mg_a_choiceCode hMG3) (by omega) (by omega) (gsaE eG3) ?_
  refine s_if_ne (tgt := 126) dX12_decides_22 (by decide) (fun c4 => ?_) (fun c4 => ?_)
  · -- 22 to 126
    exact s_vret hR dX12_decides_126 rfl (hQ G3 hMG3 (⟨hFG3, ⟨by rw [g_at (g_upd eG3)]; intro q; omega, fun j hj => ⟨by rw [g_ne (g_upd eG3) hj]; exact (Fr.call (Fr.rf) hfG1 (by decide) (by decide) : Fr [a_versionAt, a_above, a_cellAt, a_cellOf, a_table, a_workOn, a_workPhase, a_todo, a_reached, a_state, a_cellValue, a_left, a_right, a_number, a_count, a_actOn, a_actPhase, a_actFor, a_give, a_logOf] [63, 67, 69, 73, 79, 84, 88, 90] G G1).atA (by decide) (by decide), (Fr.setA (Fr.call (Fr.rf) hfG1 (by decide) (by decide)) eG3 (by decide) : Fr [a_versionAt, a_above, a_cellAt, a_cellOf, a_table, a_workOn, a_workPhase, a_todo, a_reached, a_state, a_cellValue, a_left, a_right, a_number, a_count, a_actOn, a_actPhase, a_actFor, a_give, a_logOf, a_choiceCode] [63, 67, 69, 73, 79, 84, 88, 90] G G3).atA (by decide) (by decide)⟩⟩⟩))
  · -- 22 to 25
    obtain ⟨I, hI, hT, hRq⟩ := hpG1 (by omega)
    have hI1 := hI.1
    have hI3 := hI.2.2.1
    have hrg := hRq.rng
    have hcw0 : (gS G3 1000 67) = (gS G1 1000 67) := (Fr.setA (Fr.rf) eG3 (by decide) : Fr [a_choiceCode] [] G1 G3).atF (by decide) (by decide)
    refine s_aload_n dX12_decides_25 rfl (Int.natCast_nonneg _) ?_
    refine s_aload_n dX12_decides_26 rfl (Int.natCast_nonneg _) ?_
    refine gf_nThird rfl dX12_decides_27 hMG3 ?_
    refine s_iload_n dX12_decides_30 rfl ?_
    refine s_iald dX12_decides_31 (mg_a_nThird hMG3) (by omega) (by omega) (Eq.trans (gsnE eG3 (by decide)) (Fr.atA hfG1 (by decide) (by decide))) ?_
    refine s_iconst dX12_decides_32 (by decide) ?_
    refine cv_X12_524 rfl gX12_shownBy dX12_decides_33 hMG3 (by rw [hcf]; decide) (as := [(0, gS G a_nThird ((n).toNat)), (0, 0)]) rfl (Nat.le_of_ble_eq_true rfl) ⟨gS G a_nThird ((n).toNat), 0, I, rfl, hMG3, (by exact hI.agr ((Fr.setA (Fr.rf) eG3 (by decide) : Fr [a_choiceCode] [] G1 G3).agr (by decide) (by decide) (by decide))), (by exact hT.cg (Int.le_refl _) (fun k _ _ => (Fr.setA (Fr.rf) eG3 (by decide) : Fr [a_choiceCode] [] G1 G3).atA (by decide) (by decide)) (fun j => (Fr.setA (Fr.rf) eG3 (by decide) : Fr [a_choiceCode] [] G1 G3).atA (by decide) (by decide))), (by omega), (by omega), fun r6 G5 hMG5 hpG5 => ?_⟩
    obtain ⟨hfG5, hpG5⟩ := hpG5
    have hFG5 : Fr nX12_decides jX12_decides G G5 := Fr.call hFG3 hfG5 (by decide) (by decide)
    show WP kX12_decides X 36 [some (2, ((1000 : Nat) : Int)), some (0, n), none, none] [(0, r6)] G5
    refine s_istore_n dX12_decides_36 (by decide) (lv' := [some (2, ((1000 : Nat) : Int)), some (0, n), some (0, r6), none]) rfl ?_
    have hsb9 := hpG5
    have hsv : ¬ r6 = -1 → (gS G1 a_state (r6).toNat) = 2 → 0 ≤ (gS G1 a_cellValue (r6).toNat) ∧ (gS G1 a_cellValue (r6).toNat) < (gS G1 1000 79) := fun z q => hRq.2.1 r6 (by omega) (by omega) q
    refine s_iload_n dX12_decides_37 rfl ?_
    refine s_iconst dX12_decides_38 (by decide) ?_
    have J8 : ∀ z7 : Int, ((r6 = ((-1))) ∧ z7 = 0) ∨ ((¬ r6 = ((-1))) ∧ (¬ (gS G1 a_state ((r6).toNat)) = 2) ∧ z7 = 0) ∨ ((¬ r6 = ((-1))) ∧ ((gS G1 a_state ((r6).toNat)) = 2) ∧ (¬ (gS G5 a_left ((gS G1 a_cellValue ((r6).toNat))).toNat) = -1) ∧ z7 = 0) ∨ ((¬ r6 = ((-1))) ∧ ((gS G1 a_state ((r6).toNat)) = 2) ∧ (¬ (¬ (gS G5 a_left ((gS G1 a_cellValue ((r6).toNat))).toNat) = -1)) ∧ z7 = 1) → WP kX12_decides X 70 [some (2, ((1000 : Nat) : Int)), some (0, n), some (0, r6), none] [(0, z7)] G5 := by
      intro z7 hz7
      refine s_istore_n dX12_decides_70 (by decide) (lv' := [some (2, ((1000 : Nat) : Int)), some (0, n), some (0, r6), some (0, z7)]) rfl ?_
      refine s_aload_n dX12_decides_71 rfl (Int.natCast_nonneg _) ?_
      refine gf_choiceCode rfl dX12_decides_72 hMG5 ?_
      refine s_iload_n dX12_decides_75 rfl ?_
      refine s_iload_n dX12_decides_76 rfl ?_
      have J10 : ∀ z9 : Int, ((z7 = 0) ∧ z9 = 11) ∨ ((¬ z7 = 0) ∧ z9 = 0) → WP kX12_decides X 86 [some (2, ((1000 : Nat) : Int)), some (0, n), some (0, r6), some (0, z7)] [(0, z9), (0, n), (2, ((a_choiceCode : Nat) : Int))] G5 := by
        intro z9 hz9
        refine r_iast dX12_decides_86 hMG5 (mg_a_choiceCode hMG5) (by decide) (by omega) (by omega) (fun G11 eG11 hMG11 => ?_)
        have hFG11 : Fr nX12_decides jX12_decides G G11 := Fr.setA hFG5 eG11 (by decide)
        show WP kX12_decides X 87 [some (2, ((1000 : Nat) : Int)), some (0, n), some (0, r6), some (0, z7)] [] G11
        refine s_aload_n dX12_decides_87 rfl (Int.natCast_nonneg _) ?_
        refine gf_taken rfl dX12_decides_88 hMG11 ?_
        refine s_iload_n dX12_decides_91 rfl ?_
        refine s_iload_n dX12_decides_92 rfl ?_
        have J13 : ∀ z12 : Int, ((z7 = 0) ∧ z12 = gS G a_nSecond ((n).toNat)) ∨ ((¬ z7 = 0) ∧ ((gS G1 a_number ((gS G1 a_cellValue ((r6).toNat)).toNat)) = 0) ∧ z12 = gS G a_nSecond ((n).toNat)) ∨ ((¬ z7 = 0) ∧ (¬ (gS G1 a_number ((gS G1 a_cellValue ((r6).toNat)).toNat)) = 0) ∧ z12 = gS G a_nFirst ((n).toNat)) → WP kX12_decides X 125 [some (2, ((1000 : Nat) : Int)), some (0, n), some (0, r6), some (0, z7)] [(0, z12), (0, n), (2, ((a_taken : Nat) : Int))] G11 := by
          intro z12 hz12
          refine r_iast dX12_decides_125 hMG11 (mg_a_taken hMG11) (by decide) (by omega) (by omega) (fun G14 eG14 hMG14 => ?_)
          have hFG14 : Fr nX12_decides jX12_decides G G14 := Fr.setA hFG11 eG14 (by decide)
          show WP kX12_decides X 126 [some (2, ((1000 : Nat) : Int)), some (0, n), some (0, r6), some (0, z7)] [] G14
          exact s_vret hR dX12_decides_126 rfl (hQ G14 hMG14 (⟨hFG14, ⟨fun _ => by rw [g_at (g_upd eG14)]; omega, fun j hj => ⟨by rw [gsnE eG14 (by decide), g_ne (g_upd eG11) hj, (Fr.call (Fr.rf) hfG5 (by decide) (by decide) : Fr [] [] G3 G5).atA (by decide) (by decide), g_ne (g_upd eG3) hj]; exact (Fr.call (Fr.rf) hfG1 (by decide) (by decide) : Fr [a_versionAt, a_above, a_cellAt, a_cellOf, a_table, a_workOn, a_workPhase, a_todo, a_reached, a_state, a_cellValue, a_left, a_right, a_number, a_count, a_actOn, a_actPhase, a_actFor, a_give, a_logOf] [63, 67, 69, 73, 79, 84, 88, 90] G G1).atA (by decide) (by decide), by rw [g_ne (g_upd eG14) hj]; exact (Fr.setA (Fr.call (Fr.setA (Fr.call (Fr.rf) hfG1 (by decide) (by decide)) eG3 (by decide)) hfG5 (by decide) (by decide)) eG11 (by decide) : Fr [a_versionAt, a_above, a_cellAt, a_cellOf, a_table, a_workOn, a_workPhase, a_todo, a_reached, a_state, a_cellValue, a_left, a_right, a_number, a_count, a_actOn, a_actPhase, a_actFor, a_give, a_logOf, a_choiceCode] [63, 67, 69, 73, 79, 84, 88, 90] G G11).atA (by decide) (by decide)⟩⟩⟩))
        refine s_if_eq (tgt := 119) dX12_decides_93 (by decide) (fun c15 => ?_) (fun c15 => ?_)
        · -- 93 to 119
          refine s_aload_n dX12_decides_119 rfl (Int.natCast_nonneg _) ?_
          refine gf_nSecond rfl dX12_decides_120 hMG11 ?_
          refine s_iload_n dX12_decides_123 rfl ?_
          refine s_iald dX12_decides_124 (mg_a_nSecond hMG11) (by omega) (by omega) (Eq.trans (gsnE eG11 (by decide)) (Eq.trans (Fr.atA hfG5 (by decide) (by decide)) (Eq.trans (gsnE eG3 (by decide)) (Fr.atA hfG1 (by decide) (by decide))))) ?_
          exact J13 _ (Or.inl ⟨c15, rfl⟩)
        · -- 93 to 96
          refine s_aload_n dX12_decides_96 rfl (Int.natCast_nonneg _) ?_
          refine gf_number rfl dX12_decides_97 hMG11 ?_
          refine s_aload_n dX12_decides_100 rfl (Int.natCast_nonneg _) ?_
          refine gf_cellValue rfl dX12_decides_101 hMG11 ?_
          refine s_iload_n dX12_decides_104 rfl ?_
          refine s_iald dX12_decides_105 (mg_a_cellValue hMG11) (by omega) (by omega) (Eq.trans (gsnE eG11 (by decide)) (Eq.trans (Fr.atA hfG5 (by decide) (by decide)) (gsnE eG3 (by decide)))) ?_
          refine s_iald dX12_decides_106 (mg_a_number hMG11) (by omega) (by omega) (Eq.trans (gsnE eG11 (by decide)) (Eq.trans (Fr.atA hfG5 (by decide) (by decide)) (gsnE eG3 (by decide)))) ?_
          refine s_if_eq (tgt := 119) dX12_decides_107 (by decide) (fun c16 => ?_) (fun c16 => ?_)
          · -- 107 to 119
            refine s_aload_n dX12_decides_119 rfl (Int.natCast_nonneg _) ?_
            refine gf_nSecond rfl dX12_decides_120 hMG11 ?_
            refine s_iload_n dX12_decides_123 rfl ?_
            refine s_iald dX12_decides_124 (mg_a_nSecond hMG11) (by omega) (by omega) (Eq.trans (gsnE eG11 (by decide)) (Eq.trans (Fr.atA hfG5 (by decide) (by decide)) (Eq.trans (gsnE eG3 (by decide)) (Fr.atA hfG1 (by decide) (by decide))))) ?_
            exact J13 _ (Or.inr (Or.inl ⟨c15, c16, rfl⟩))
          · -- 107 to 110
            refine s_aload_n dX12_decides_110 rfl (Int.natCast_nonneg _) ?_
            refine gf_nFirst rfl dX12_decides_111 hMG11 ?_
            refine s_iload_n dX12_decides_114 rfl ?_
            refine s_iald dX12_decides_115 (mg_a_nFirst hMG11) (by omega) (by omega) (Eq.trans (gsnE eG11 (by decide)) (Eq.trans (Fr.atA hfG5 (by decide) (by decide)) (Eq.trans (gsnE eG3 (by decide)) (Fr.atA hfG1 (by decide) (by decide))))) ?_
            refine s_goto (tgt := 125) dX12_decides_116 (by decide) ?_
            exact J13 _ (Or.inr (Or.inr (⟨c15, c16, rfl⟩)))
      refine s_if_eq (tgt := 84) dX12_decides_77 (by decide) (fun c17 => ?_) (fun c17 => ?_)
      · -- 77 to 84
        refine s_bipush dX12_decides_84 rfl (by decide) ?_
        exact J10 11 (Or.inl ⟨c17, rfl⟩)
      · -- 77 to 80
        refine s_iconst dX12_decides_80 (by decide) ?_
        refine s_goto (tgt := 86) dX12_decides_81 (by decide) ?_
        exact J10 0 (Or.inr (⟨c17, rfl⟩))
    refine s_icmp_eq (tgt := 69) dX12_decides_39 (by decide) (fun c18 => ?_) (fun c18 => ?_)
    · -- 39 to 69
      refine s_iconst dX12_decides_69 (by decide) ?_
      exact J8 0 (Or.inl ⟨c18, rfl⟩)
    · -- 39 to 42
      refine s_aload_n dX12_decides_42 rfl (Int.natCast_nonneg _) ?_
      refine gf_state rfl dX12_decides_43 hMG5 ?_
      refine s_iload_n dX12_decides_46 rfl ?_
      refine s_iald dX12_decides_47 (mg_a_state hMG5) (by omega) (by omega) (Eq.trans (Fr.atA hfG5 (by decide) (by decide)) (gsnE eG3 (by decide))) ?_
      refine s_iconst dX12_decides_48 (by decide) ?_
      refine s_icmp_ne (tgt := 69) dX12_decides_49 (by decide) (fun c19 => ?_) (fun c19 => ?_)
      · -- 49 to 69
        refine s_iconst dX12_decides_69 (by decide) ?_
        exact J8 0 (Or.inr (Or.inl ⟨c18, c19, rfl⟩))
      · -- 49 to 52
        refine s_aload_n dX12_decides_52 rfl (Int.natCast_nonneg _) ?_
        refine s_aload_n dX12_decides_53 rfl (Int.natCast_nonneg _) ?_
        refine gf_cellValue rfl dX12_decides_54 hMG5 ?_
        refine s_iload_n dX12_decides_57 rfl ?_
        refine s_iald dX12_decides_58 (mg_a_cellValue hMG5) (by omega) (by omega) (Eq.trans (Fr.atA hfG5 (by decide) (by decide)) (gsnE eG3 (by decide))) ?_
        refine cv_X12_552 rfl gX12_isPair dX12_decides_59 hMG5 (by rw [hcf]; decide) (as := [(0, gS G1 a_cellValue ((r6).toNat))]) rfl (Nat.le_of_ble_eq_true rfl) ⟨gS G1 a_cellValue ((r6).toNat), rfl, hMG5, (by first | assumption | omega), ?_⟩
        show WP kX12_decides X 62 [some (2, ((1000 : Nat) : Int)), some (0, n), some (0, r6), none] [(0, b2i (¬ (gS G5 a_left ((gS G1 a_cellValue ((r6).toNat))).toNat) = -1))] G5
        refine s_if_neB (tgt := 69) dX12_decides_62 (by decide) (fun c20 => ?_) (fun c20 => ?_)
        · -- 62 to 69
          refine s_iconst dX12_decides_69 (by decide) ?_
          exact J8 0 (Or.inr (Or.inr (Or.inl ⟨c18, c19, c20, rfl⟩)))
        · -- 62 to 65
          refine s_iconst dX12_decides_65 (by decide) ?_
          refine s_goto (tgt := 70) dX12_decides_66 (by decide) ?_
          exact J8 1 (Or.inr (Or.inr (Or.inr (⟨c18, c19, c20, rfl⟩))))

abbrev nX12_keeps : List Nat := [a_lastOf, a_lastLeft, a_lastRight, a_lastNumber, a_lastCount, a_lastLog]
abbrev jX12_keeps : List Nat := [92, 98, 100, 101]
def TX12_keeps : TR := fun as G Qr => ∃ (n : Int), as = [(2, ((1000 : Nat) : Int)), (0, n)] ∧ MG G ∧ (RDN G n) ∧ (0 ≤ n ∧ n < 40) ∧ ∀ G' : LG, MG G' → (Fr nX12_keeps jX12_keeps G G' ∧ (LR G')) → Qr (.inl none) G'
set_option maxHeartbeats 4000000 in
set_option maxRecDepth 100000 in
theorem gX12_keeps : Good kX12_keeps yX12_keeps 2 TX12_keeps := by
  refine good_of (by decide) rfl rfl (fun as G Qr h => ?_) (fun X as G Qr hcf hR hT oa => ?_)
  · obtain ⟨n, rfl, -⟩ := h; exact Nat.le_of_ble_eq_true rfl
  obtain ⟨n, rfl, hM, hR0, hn, hQ⟩ := hT
  show WP kX12_keeps X 0 [some (2, ((1000 : Nat) : Int)), some (0, n), none, none] [] G
  have hr_n : inR n := okv_R (oa _ (by simp))
  obtain ⟨I, hI, hT, hRq⟩ := hR0
  have hI1 := hI.1
  have hI3 := hI.2.2.1
  have hrg := hRq.rng
  have hva := hRq.1.2
  refine s_aload_n dX12_keeps_0 rfl (Int.natCast_nonneg _) ?_
  refine s_iconst dX12_keeps_1 (by decide) ?_
  refine pf_hasRun rfl dX12_keeps_2 hM (by omega)  (fun G1 eG1 hMG1 => ?_)
  have hFG1 : Fr nX12_keeps jX12_keeps G G1 := Fr.setF Fr.rf eG1 (by decide)
  refine s_iconst dX12_keeps_5 (by decide) ?_
  refine s_istore_n dX12_keeps_6 (by decide) (lv' := [some (2, ((1000 : Nat) : Int)), some (0, n), some (0, 0), none]) rfl ?_
  have L2 : ∀ (n2 : Nat) (k2 : Int) (G2 : LG), MG G2 → Fr nX12_keeps jX12_keeps G G2 → ((0 ≤ k2 ∧ k2 ≤ 10) ∧ (Fr [a_lastOf] [92] G G2) ∧ (∀ j : Int, 0 ≤ j → j < k2 → -1 ≤ (gS G2 a_lastOf (j).toNat) ∧ (gS G2 a_lastOf (j).toNat) < (gS G 1000 79))) → (10 - k2).toNat < n2 → WP kX12_keeps X 7 [some (2, ((1000 : Nat) : Int)), some (0, n), some (0, k2), none] [] G2 := by
    intro n2
    induction n2 with
    | zero => intro k2 G2 hMG2 hFG2 hi2 hm2; exact absurd hm2 (Nat.not_lt_zero _)
    | succ n2 ih2 =>
      intro k2 G2 hMG2 hFG2 hi2 hm2
      have hj2 := hi2
      obtain ⟨ik2, ir2, io2⟩ := hi2
      refine s_iload_n dX12_keeps_7 rfl ?_
      refine s_bipush dX12_keeps_8 rfl (by decide) ?_
      refine s_icmp_ge (tgt := 57) dX12_keeps_10 (by decide) (fun c3 => ?_) (fun c3 => ?_)
      · -- 10 to 57
        refine s_iconst dX12_keeps_57 (by decide) ?_
        refine s_istore_n dX12_keeps_58 (by decide) (lv' := [some (2, ((1000 : Nat) : Int)), some (0, n), some (0, 0), none]) rfl ?_
        have L4 : ∀ (n4 : Nat) (k4 : Int) (G4 : LG), MG G4 → Fr nX12_keeps jX12_keeps G G4 → ((0 ≤ k4 ∧ k4 ≤ (gS G 1000 79)) ∧ (Fr [a_lastOf, a_lastLeft, a_lastRight, a_lastNumber, a_lastCount] [92] G G4) ∧ (∀ j : Int, 0 ≤ j → j < 10 → -1 ≤ (gS G4 a_lastOf (j).toNat) ∧ (gS G4 a_lastOf (j).toNat) < (gS G 1000 79)) ∧ (∀ j : Int, 0 ≤ j → j < k4 → (gS G4 a_lastLeft (j).toNat) = -1 ∨ ((0 ≤ (gS G4 a_lastLeft (j).toNat) ∧ (gS G4 a_lastLeft (j).toNat) < j) ∧ 0 ≤ (gS G4 a_lastRight (j).toNat) ∧ (gS G4 a_lastRight (j).toNat) < j))) → ((gS G 1000 79) - k4).toNat < n4 → WP kX12_keeps X 59 [some (2, ((1000 : Nat) : Int)), some (0, n), some (0, k4), none] [] G4 := by
          intro n4
          induction n4 with
          | zero => intro k4 G4 hMG4 hFG4 hi4 hm4; exact absurd hm4 (Nat.not_lt_zero _)
          | succ n4 ih4 =>
            intro k4 G4 hMG4 hFG4 hi4 hm4
            have hj4 := hi4
            obtain ⟨ik4, ir4, io4, iv4⟩ := hi4
            have icv4 : (gS G4 1000 79) = (gS G 1000 79) := ir4.atF (by decide) (by decide)
            refine s_iload_n dX12_keeps_59 rfl ?_
            refine s_aload_n dX12_keeps_60 rfl (Int.natCast_nonneg _) ?_
            refine gf_values rfl dX12_keeps_61 hMG4 rfl ?_
            refine s_icmp_ge (tgt := 121) dX12_keeps_64 (by decide) (fun c5 => ?_) (fun c5 => ?_)
            · -- 64 to 121
              refine s_aload_n dX12_keeps_121 rfl (Int.natCast_nonneg _) ?_
              refine s_aload_n dX12_keeps_122 rfl (Int.natCast_nonneg _) ?_
              refine gf_logs rfl dX12_keeps_123 hMG4 rfl ?_
              refine pf_lastLogs rfl dX12_keeps_126 hMG4 (fun G6 eG6 hMG6 => ?_)
              have hFG6 : Fr nX12_keeps jX12_keeps G G6 := Fr.setF hFG4 eG6 (by decide)
              refine s_iconst dX12_keeps_129 (by decide) ?_
              refine s_istore_n dX12_keeps_130 (by decide) (lv' := [some (2, ((1000 : Nat) : Int)), some (0, n), some (0, 0), none]) rfl ?_
              have L7 : ∀ (n7 : Nat) (k7 : Int) (G7 : LG), MG G7 → Fr nX12_keeps jX12_keeps G G7 → ((0 ≤ k7 ∧ k7 ≤ (gS G 1000 90)) ∧ (Fr [a_lastOf, a_lastLeft, a_lastRight, a_lastNumber, a_lastCount, a_lastLog] [92, 98] G G7) ∧ (Fr [a_lastLog] [98] G4 G7) ∧ ((gS G7 1000 98) = (gS G 1000 90))) → ((gS G 1000 90) - k7).toNat < n7 → WP kX12_keeps X 131 [some (2, ((1000 : Nat) : Int)), some (0, n), some (0, k7), none] [] G7 := by
                intro n7
                induction n7 with
                | zero => intro k7 G7 hMG7 hFG7 hi7 hm7; exact absurd hm7 (Nat.not_lt_zero _)
                | succ n7 ih7 =>
                  intro k7 G7 hMG7 hFG7 hi7 hm7
                  have hj7 := hi7
                  obtain ⟨ik7, ir7, iq7, il7⟩ := hi7
                  have icl7 : (gS G7 1000 90) = (gS G 1000 90) := ir7.atF (by decide) (by decide)
                  refine s_iload_n dX12_keeps_131 rfl ?_
                  refine s_aload_n dX12_keeps_132 rfl (Int.natCast_nonneg _) ?_
                  refine gf_logs rfl dX12_keeps_133 hMG7 rfl ?_
                  refine s_icmp_ge (tgt := 157) dX12_keeps_136 (by decide) (fun c8 => ?_) (fun c8 => ?_)
                  · -- 136 to 157
                    refine s_aload_n dX12_keeps_157 rfl (Int.natCast_nonneg _) ?_
                    refine s_aload_n dX12_keeps_158 rfl (Int.natCast_nonneg _) ?_
                    refine gf_cells rfl dX12_keeps_159 hMG7 rfl ?_
                    refine pf_lastCells rfl dX12_keeps_162 hMG7 (fun G9 eG9 hMG9 => ?_)
                    have hFG9 : Fr nX12_keeps jX12_keeps G G9 := Fr.setF hFG7 eG9 (by decide)
                    refine s_aload_n dX12_keeps_165 rfl (Int.natCast_nonneg _) ?_
                    refine s_iconst dX12_keeps_166 (by decide) ?_
                    refine pf_lastDropped rfl dX12_keeps_167 hMG9 (fun G10 eG10 hMG10 => ?_)
                    have hFG10 : Fr nX12_keeps jX12_keeps G G10 := Fr.setF hFG9 eG10 (by decide)
                    refine s_iconst dX12_keeps_170 (by decide) ?_
                    refine s_istore_n dX12_keeps_171 (by decide) (lv' := [some (2, ((1000 : Nat) : Int)), some (0, n), some (0, 0), none]) rfl ?_
                    have L11 : ∀ (n11 : Nat) (k11 : Int) (G11 : LG), MG G11 → Fr nX12_keeps jX12_keeps G G11 → ((0 ≤ k11 ∧ k11 ≤ (gS G 1000 67)) ∧ (Fr [] [100, 101] G7 G11) ∧ (0 ≤ (gS G11 1000 101) ∧ (gS G11 1000 101) ≤ k11)) → ((gS G 1000 67) - k11).toNat < n11 → WP kX12_keeps X 172 [some (2, ((1000 : Nat) : Int)), some (0, n), some (0, k11), none] [] G11 := by
                      intro n11
                      induction n11 with
                      | zero => intro k11 G11 hMG11 hFG11 hi11 hm11; exact absurd hm11 (Nat.not_lt_zero _)
                      | succ n11 ih11 =>
                        intro k11 G11 hMG11 hFG11 hi11 hm11
                        have hj11 := hi11
                        obtain ⟨ik11, iq11, id11⟩ := hi11
                        have icc11 : (gS G11 1000 67) = (gS G 1000 67) := (iq11.atF (by decide) (by decide)).trans (ir7.atF (by decide) (by decide))
                        refine s_iload_n dX12_keeps_172 rfl ?_
                        refine s_aload_n dX12_keeps_173 rfl (Int.natCast_nonneg _) ?_
                        refine gf_cells rfl dX12_keeps_174 hMG11 rfl ?_
                        refine s_icmp_ge (tgt := 209) dX12_keeps_177 (by decide) (fun c12 => ?_) (fun c12 => ?_)
                        · -- 177 to 209
                          exact s_vret hR dX12_keeps_209 rfl (hQ G11 hMG11 (⟨hFG11, ⟨by rw [iq11.atF (j := 98) (by decide) (by decide), il7]; omega, fun _ => ⟨(gS G 1000 79), by omega, fun k k0 k1 => by rw [iq11.atA (by decide) (by decide), iq7.atA (by decide) (by decide)]; exact io4 k k0 k1, fun v v0 v1 => by rw [iq11.atA (n := a_lastLeft) (by decide) (by decide), iq7.atA (n := a_lastLeft) (by decide) (by decide), iq11.atA (n := a_lastRight) (by decide) (by decide), iq7.atA (n := a_lastRight) (by decide) (by decide)]; exact iv4 v v0 (by omega)⟩⟩⟩))
                        · -- 177 to 180
                          refine s_aload_n dX12_keeps_180 rfl (Int.natCast_nonneg _) ?_
                          refine s_dup dX12_keeps_181 (by decide) ?_
                          refine gf_lastDropped rfl dX12_keeps_182 hMG11 rfl ?_
                          refine s_aload_n dX12_keeps_185 rfl (Int.natCast_nonneg _) ?_
                          refine gf_reached rfl dX12_keeps_186 hMG11 ?_
                          refine s_iload_n dX12_keeps_189 rfl ?_
                          refine s_bald dX12_keeps_190 (mg_a_reached hMG11) (by omega) (by omega) rfl ?_
                          have J14 : ∀ z13 : Int, (((gS G11 a_reached ((k11).toNat)) = 0) ∧ z13 = 1) ∨ ((¬ (gS G11 a_reached ((k11).toNat)) = 0) ∧ z13 = 0) → WP kX12_keeps X 199 [some (2, ((1000 : Nat) : Int)), some (0, n), some (0, k11), none] [(0, z13), (0, gS G11 1000 101), (2, ((1000 : Nat) : Int))] G11 := by
                            intro z13 hz13
                            refine s_iadd dX12_keeps_199 (by omega) ?_
                            refine pf_lastDropped rfl dX12_keeps_200 hMG11 (fun G15 eG15 hMG15 => ?_)
                            have hFG15 : Fr nX12_keeps jX12_keeps G G15 := Fr.setF hFG11 eG15 (by decide)
                            refine s_iinc dX12_keeps_203 (v := k11) rfl (by omega) (by decide) (lv' := [some (2, ((1000 : Nat) : Int)), some (0, n), some (0, k11 + 1), none]) rfl ?_
                            refine s_goto (tgt := 172) dX12_keeps_206 (by decide) ?_
                            exact ih11 (k11 + 1) G15 hMG15 hFG15 (⟨(by omega), (by exact Fr.call iq11 (Fr.setF (Fr.rf) eG15 (by decide) : Fr [] [101] G11 G15) (by decide) (by decide)), (by rw [gsaE eG15]; omega)⟩) (by omega)
                          refine s_if_eq (tgt := 198) dX12_keeps_191 (by decide) (fun c16 => ?_) (fun c16 => ?_)
                          · -- 191 to 198
                            refine s_iconst dX12_keeps_198 (by decide) ?_
                            exact J14 1 (Or.inl ⟨c16, rfl⟩)
                          · -- 191 to 194
                            refine s_iconst dX12_keeps_194 (by decide) ?_
                            refine s_goto (tgt := 199) dX12_keeps_195 (by decide) ?_
                            exact J14 0 (Or.inr (⟨c16, rfl⟩))
                    exact L11 _ 0 G10 hMG10 hFG10 (⟨(by omega), (by exact Fr.call Fr.rf (Fr.setF (Fr.setF (Fr.rf) eG9 (by decide)) eG10 (by decide) : Fr [] [100, 101] G7 G10) (by decide) (by decide)), (by rw [gsaE eG10]; omega)⟩) (Nat.lt_succ_self _)
                  · -- 136 to 139
                    refine s_aload_n dX12_keeps_139 rfl (Int.natCast_nonneg _) ?_
                    refine gf_lastLog rfl dX12_keeps_140 hMG7 ?_
                    refine s_iload_n dX12_keeps_143 rfl ?_
                    refine s_aload_n dX12_keeps_144 rfl (Int.natCast_nonneg _) ?_
                    refine gf_logOf rfl dX12_keeps_145 hMG7 ?_
                    refine s_iload_n dX12_keeps_148 rfl ?_
                    refine s_iald dX12_keeps_149 (mg_a_logOf hMG7) (by omega) (by omega) rfl ?_
                    refine r_iast dX12_keeps_150 hMG7 (mg_a_lastLog hMG7) (by decide) (by omega) (by omega) (fun G17 eG17 hMG17 => ?_)
                    have hFG17 : Fr nX12_keeps jX12_keeps G G17 := Fr.setA hFG7 eG17 (by decide)
                    show WP kX12_keeps X 151 [some (2, ((1000 : Nat) : Int)), some (0, n), some (0, k7), none] [] G17
                    refine s_iinc dX12_keeps_151 (v := k7) rfl (by omega) (by decide) (lv' := [some (2, ((1000 : Nat) : Int)), some (0, n), some (0, k7 + 1), none]) rfl ?_
                    refine s_goto (tgt := 131) dX12_keeps_154 (by decide) ?_
                    exact ih7 (k7 + 1) G17 hMG17 hFG17 (⟨(by omega), (by exact Fr.call ir7 (Fr.setA (Fr.rf) eG17 (by decide) : Fr [a_lastLog] [] G7 G17) (by decide) (by decide)), (by exact Fr.call iq7 (Fr.setA (Fr.rf) eG17 (by decide) : Fr [a_lastLog] [] G7 G17) (by decide) (by decide)), (by rw [gsnE eG17 (by decide)]; exact il7)⟩) (by omega)
              exact L7 _ 0 G6 hMG6 hFG6 (⟨(by omega), (by exact Fr.call (Fr.call Fr.rf ir4 (by decide) (by decide)) (Fr.setF (Fr.rf) eG6 (by decide) : Fr [] [98] G4 G6) (by decide) (by decide)), (by exact Fr.call Fr.rf (Fr.setF (Fr.rf) eG6 (by decide) : Fr [] [98] G4 G6) (by decide) (by decide)), (by rw [gsaE eG6]; exact ir4.atF (by decide) (by decide))⟩) (Nat.lt_succ_self _)
            · -- 64 to 67
              have hvv4 := hva k4 (by omega) (by omega)
              have hvl4 : (gS G4 a_left (k4).toNat) = (gS G a_left (k4).toNat) := ir4.atA (by decide) (by decide)
              have hvr4 : (gS G4 a_right (k4).toNat) = (gS G a_right (k4).toNat) := ir4.atA (by decide) (by decide)
              refine s_aload_n dX12_keeps_67 rfl (Int.natCast_nonneg _) ?_
              refine gf_lastLeft rfl dX12_keeps_68 hMG4 ?_
              refine s_iload_n dX12_keeps_71 rfl ?_
              refine s_aload_n dX12_keeps_72 rfl (Int.natCast_nonneg _) ?_
              refine gf_left rfl dX12_keeps_73 hMG4 ?_
              refine s_iload_n dX12_keeps_76 rfl ?_
              refine s_iald dX12_keeps_77 (mg_a_left hMG4) (by omega) (by omega) rfl ?_
              refine r_iast dX12_keeps_78 hMG4 (mg_a_lastLeft hMG4) (by decide) (by omega) (by omega) (fun G18 eG18 hMG18 => ?_)
              have hFG18 : Fr nX12_keeps jX12_keeps G G18 := Fr.setA hFG4 eG18 (by decide)
              show WP kX12_keeps X 79 [some (2, ((1000 : Nat) : Int)), some (0, n), some (0, k4), none] [] G18
              refine s_aload_n dX12_keeps_79 rfl (Int.natCast_nonneg _) ?_
              refine gf_lastRight rfl dX12_keeps_80 hMG18 ?_
              refine s_iload_n dX12_keeps_83 rfl ?_
              refine s_aload_n dX12_keeps_84 rfl (Int.natCast_nonneg _) ?_
              refine gf_right rfl dX12_keeps_85 hMG18 ?_
              refine s_iload_n dX12_keeps_88 rfl ?_
              refine s_iald dX12_keeps_89 (mg_a_right hMG18) (by omega) (by omega) (gsnE eG18 (by decide)) ?_
              refine r_iast dX12_keeps_90 hMG18 (mg_a_lastRight hMG18) (by decide) (by omega) (by omega) (fun G19 eG19 hMG19 => ?_)
              have hFG19 : Fr nX12_keeps jX12_keeps G G19 := Fr.setA hFG18 eG19 (by decide)
              show WP kX12_keeps X 91 [some (2, ((1000 : Nat) : Int)), some (0, n), some (0, k4), none] [] G19
              refine s_aload_n dX12_keeps_91 rfl (Int.natCast_nonneg _) ?_
              refine gf_lastNumber rfl dX12_keeps_92 hMG19 ?_
              refine s_iload_n dX12_keeps_95 rfl ?_
              refine s_aload_n dX12_keeps_96 rfl (Int.natCast_nonneg _) ?_
              refine gf_number rfl dX12_keeps_97 hMG19 ?_
              refine s_iload_n dX12_keeps_100 rfl ?_
              refine s_iald dX12_keeps_101 (mg_a_number hMG19) (by omega) (by omega) (Eq.trans (gsnE eG19 (by decide)) (gsnE eG18 (by decide))) ?_
              refine r_iast dX12_keeps_102 hMG19 (mg_a_lastNumber hMG19) (by decide) (by omega) (by omega) (fun G20 eG20 hMG20 => ?_)
              have hFG20 : Fr nX12_keeps jX12_keeps G G20 := Fr.setA hFG19 eG20 (by decide)
              show WP kX12_keeps X 103 [some (2, ((1000 : Nat) : Int)), some (0, n), some (0, k4), none] [] G20
              refine s_aload_n dX12_keeps_103 rfl (Int.natCast_nonneg _) ?_
              refine gf_lastCount rfl dX12_keeps_104 hMG20 ?_
              refine s_iload_n dX12_keeps_107 rfl ?_
              refine s_aload_n dX12_keeps_108 rfl (Int.natCast_nonneg _) ?_
              refine gf_count rfl dX12_keeps_109 hMG20 ?_
              refine s_iload_n dX12_keeps_112 rfl ?_
              refine s_lald dX12_keeps_113 (mg_a_count hMG20) (by omega) (by omega) (Eq.trans (gsnE eG20 (by decide)) (Eq.trans (gsnE eG19 (by decide)) (gsnE eG18 (by decide)))) ?_
              refine r_last dX12_keeps_114 hMG20 (mg_a_lastCount hMG20) (by decide) (by omega) (by omega) (fun G21 eG21 hMG21 => ?_)
              have hFG21 : Fr nX12_keeps jX12_keeps G G21 := Fr.setA hFG20 eG21 (by decide)
              show WP kX12_keeps X 115 [some (2, ((1000 : Nat) : Int)), some (0, n), some (0, k4), none] [] G21
              refine s_iinc dX12_keeps_115 (v := k4) rfl (by omega) (by decide) (lv' := [some (2, ((1000 : Nat) : Int)), some (0, n), some (0, k4 + 1), none]) rfl ?_
              refine s_goto (tgt := 59) dX12_keeps_118 (by decide) ?_
              exact ih4 (k4 + 1) G21 hMG21 hFG21 (⟨(by omega), (by exact Fr.call ir4 (Fr.setA (Fr.setA (Fr.setA (Fr.setA (Fr.rf) eG18 (by decide)) eG19 (by decide)) eG20 (by decide)) eG21 (by decide) : Fr [a_lastLeft, a_lastRight, a_lastNumber, a_lastCount] [] G4 G21) (by decide) (by decide)), (by intro j j0 j1; rw [(Fr.setA (Fr.setA (Fr.setA (Fr.setA (Fr.rf) eG18 (by decide)) eG19 (by decide)) eG20 (by decide)) eG21 (by decide) : Fr [a_lastLeft, a_lastRight, a_lastNumber, a_lastCount] [] G4 G21).atA (by decide) (by decide)]; exact io4 j j0 j1), (by have u1 : ∀ j : Nat, gS G21 a_lastLeft j = if j = (k4).toNat then gS G4 a_left ((k4).toNat) else gS G4 a_lastLeft j := fun j => (by rw [gsnE eG21 (by decide), gsnE eG20 (by decide), gsnE eG19 (by decide), g_upd eG18]); have u2 : ∀ j : Nat, gS G21 a_lastRight j = if j = (k4).toNat then gS G4 a_right ((k4).toNat) else gS G4 a_lastRight j := fun j => (by rw [gsnE eG21 (by decide), gsnE eG20 (by decide), g_upd eG19, gsnE eG18 (by decide)]); intro j j0 j1; rw [u1, u2]; by_cases hj : j = k4; (subst hj; rw [if_pos rfl, if_pos rfl]; omega); (rw [if_neg (by omega), if_neg (by omega)]; exact iv4 j j0 (by omega)))⟩) (by omega)
        exact L4 _ 0 G2 hMG2 hFG2 (⟨(by omega), (by exact Fr.call Fr.rf ir2 (by decide) (by decide)), (by exact fun j j0 j1 => io2 j j0 (by omega)), (by intro j j0 j1; omega)⟩) (Nat.lt_succ_self _)
      · -- 10 to 13
        refine s_aload_n dX12_keeps_13 rfl (Int.natCast_nonneg _) ?_
        refine s_iload_n dX12_keeps_14 rfl ?_
        refine s_iload_n dX12_keeps_15 rfl ?_
        refine cv_X12_524 rfl gX12_shownBy dX12_keeps_16 hMG2 (by rw [hcf]; decide) (as := [(0, n), (0, k2)]) rfl (Nat.le_of_ble_eq_true rfl) ⟨n, k2, I, rfl, hMG2, (by exact hI.agr (ir2.agr (by decide) (by decide) (by decide))), (by exact hT.cg (Int.le_refl _) (fun k _ _ => ir2.atA (by decide) (by decide)) (fun j => ir2.atA (by decide) (by decide))), (by omega), (by omega), fun r23 G22 hMG22 hpG22 => ?_⟩
        obtain ⟨hfG22, hpG22⟩ := hpG22
        have hFG22 : Fr nX12_keeps jX12_keeps G G22 := Fr.call hFG2 hfG22 (by decide) (by decide)
        show WP kX12_keeps X 19 [some (2, ((1000 : Nat) : Int)), some (0, n), some (0, k2), none] [(0, r23)] G22
        refine s_istore_n dX12_keeps_19 (by decide) (lv' := [some (2, ((1000 : Nat) : Int)), some (0, n), some (0, k2), some (0, r23)]) rfl ?_
        have hsc9 := hpG22
        have hcc9 : (gS G2 1000 67) = (gS G 1000 67) := ir2.atF (by decide) (by decide)
        have hsv9 : ∀ c : Int, 0 ≤ c → c < (gS G 1000 67) → (gS G2 a_state (c).toNat) = 2 → 0 ≤ (gS G2 a_cellValue (c).toNat) ∧ (gS G2 a_cellValue (c).toNat) < (gS G 1000 79) := fun c c0 c1 q => by rw [ir2.atA (n := a_state) (by decide) (by decide)] at q; rw [ir2.atA (n := a_cellValue) (by decide) (by decide)]; exact hRq.2.1 c c0 c1 q
        have hsw9 : ¬ r23 = -1 → (gS G2 a_state (r23).toNat) = 2 → 0 ≤ (gS G2 a_cellValue (r23).toNat) ∧ (gS G2 a_cellValue (r23).toNat) < (gS G 1000 79) := fun z q => hsv9 r23 (by omega) (by omega) q
        refine s_aload_n dX12_keeps_20 rfl (Int.natCast_nonneg _) ?_
        refine gf_lastOf rfl dX12_keeps_21 hMG22 ?_
        refine s_iload_n dX12_keeps_24 rfl ?_
        refine s_iload_n dX12_keeps_25 rfl ?_
        refine s_iconst dX12_keeps_26 (by decide) ?_
        have J25 : ∀ z24 : Int, ((r23 = ((-1))) ∧ z24 = (-1)) ∨ ((¬ r23 = ((-1))) ∧ (¬ (gS G2 a_state ((r23).toNat)) = 2) ∧ z24 = (-1)) ∨ ((¬ r23 = ((-1))) ∧ ((gS G2 a_state ((r23).toNat)) = 2) ∧ z24 = gS G2 a_cellValue ((r23).toNat)) → WP kX12_keeps X 50 [some (2, ((1000 : Nat) : Int)), some (0, n), some (0, k2), some (0, r23)] [(0, z24), (0, k2), (2, ((a_lastOf : Nat) : Int))] G22 := by
          intro z24 hz24
          refine r_iast dX12_keeps_50 hMG22 (mg_a_lastOf hMG22) (by decide) (by omega) (by omega) (fun G26 eG26 hMG26 => ?_)
          have hFG26 : Fr nX12_keeps jX12_keeps G G26 := Fr.setA hFG22 eG26 (by decide)
          show WP kX12_keeps X 51 [some (2, ((1000 : Nat) : Int)), some (0, n), some (0, k2), some (0, r23)] [] G26
          refine s_iinc dX12_keeps_51 (v := k2) rfl (by omega) (by decide) (lv' := [some (2, ((1000 : Nat) : Int)), some (0, n), some (0, k2 + 1), some (0, r23)]) rfl ?_
          refine s_goto (tgt := 7) dX12_keeps_54 (by decide) ?_
          refine s_mask [true, true, true, false] (lv' := [some (2, ((1000 : Nat) : Int)), some (0, n), some (0, k2 + 1), none]) rfl ?_
          exact ih2 (k2 + 1) G26 hMG26 hFG26 (⟨(by omega), (by exact Fr.call ir2 (Fr.setA (Fr.call (Fr.rf) hfG22 (by decide) (by decide)) eG26 (by decide) : Fr [a_lastOf] [] G2 G26) (by decide) (by decide)), (by intro j j0 j1; by_cases hj : j = k2; (subst hj; rw [g_at (g_upd eG26)]; omega); (rw [g_ne (g_upd eG26) (by omega), hfG22.atA (by decide) (by decide)]; exact io2 j j0 (by omega)))⟩) (by omega)
        refine s_icmp_eq (tgt := 49) dX12_keeps_27 (by decide) (fun c27 => ?_) (fun c27 => ?_)
        · -- 27 to 49
          refine s_iconst dX12_keeps_49 (by decide) ?_
          exact J25 ((-1)) (Or.inl ⟨c27, rfl⟩)
        · -- 27 to 30
          refine s_aload_n dX12_keeps_30 rfl (Int.natCast_nonneg _) ?_
          refine gf_state rfl dX12_keeps_31 hMG22 ?_
          refine s_iload_n dX12_keeps_34 rfl ?_
          refine s_iald dX12_keeps_35 (mg_a_state hMG22) (by omega) (by omega) (Fr.atA hfG22 (by decide) (by decide)) ?_
          refine s_iconst dX12_keeps_36 (by decide) ?_
          refine s_icmp_ne (tgt := 49) dX12_keeps_37 (by decide) (fun c28 => ?_) (fun c28 => ?_)
          · -- 37 to 49
            refine s_iconst dX12_keeps_49 (by decide) ?_
            exact J25 ((-1)) (Or.inr (Or.inl ⟨c27, c28, rfl⟩))
          · -- 37 to 40
            refine s_aload_n dX12_keeps_40 rfl (Int.natCast_nonneg _) ?_
            refine gf_cellValue rfl dX12_keeps_41 hMG22 ?_
            refine s_iload_n dX12_keeps_44 rfl ?_
            refine s_iald dX12_keeps_45 (mg_a_cellValue hMG22) (by omega) (by omega) (Fr.atA hfG22 (by decide) (by decide)) ?_
            refine s_goto (tgt := 50) dX12_keeps_46 (by decide) ?_
            exact J25 _ (Or.inr (Or.inr (⟨c27, c28, rfl⟩)))
  exact L2 _ 0 G1 hMG1 hFG1 (⟨(by omega), (by exact Fr.setF Fr.rf eG1 (by decide)), (by intro j j0 j1; omega)⟩) (Nat.lt_succ_self _)
