abbrev nX12_value : List Nat := [a_left, a_right, a_number, a_count]
abbrev jX12_value : List Nat := [79]
def TX12_value : TR := fun as G Qr => ∃ (a b v : Int), as = [(2, ((1000 : Nat) : Int)), (0, a), (0, b), (0, v)] ∧ MG G ∧ (0 ≤ (gS G 1000 79) ∧ (gS G 1000 79) < 4000) ∧ (a = -1 ∨ ((0 ≤ a ∧ a < (gS G 1000 79)) ∧ 0 ≤ b ∧ b < (gS G 1000 79))) ∧ ∀ (r : Int) (G' : LG), MG G' → (Fr nX12_value jX12_value G G' ∧ (r = (gS G 1000 79) ∧ (gS G' 1000 79) = (gS G 1000 79) + 1 ∧ (VA G → VA G'))) → Qr (.inl (some (0, r))) G'
set_option maxHeartbeats 4000000 in
set_option maxRecDepth 100000 in
theorem gX12_value : Good kX12_value yX12_value 0 TX12_value := by
  refine good_of (by decide) rfl rfl (fun as G Qr h => ?_) (fun X as G Qr hcf hR hT oa => ?_)
  · obtain ⟨a, b, v, rfl, -⟩ := h; exact Nat.le_of_ble_eq_true rfl
  obtain ⟨a, b, v, rfl, hM, hv, hab, hQ⟩ := hT
  show WP kX12_value X 0 [some (2, ((1000 : Nat) : Int)), some (0, a), some (0, b), some (0, v)] [] G
  have hr_a : inR a := okv_R (oa _ (by simp))
  have hr_b : inR b := okv_R (oa _ (by simp))
  have hr_v : inR v := okv_R (oa _ (by simp))
  refine s_aload_n dX12_value_0 rfl (Int.natCast_nonneg _) ?_
  refine gf_left rfl dX12_value_1 hM ?_
  refine s_aload_n dX12_value_4 rfl (Int.natCast_nonneg _) ?_
  refine gf_values rfl dX12_value_5 hM rfl ?_
  refine s_iload_n dX12_value_8 rfl ?_
  refine r_iast dX12_value_9 hM (mg_a_left hM) (by decide) (by omega) (by omega) (fun G1 eG1 hMG1 => ?_)
  have hFG1 : Fr nX12_value jX12_value G G1 := Fr.setA Fr.rf eG1 (by decide)
  show WP kX12_value X 10 [some (2, ((1000 : Nat) : Int)), some (0, a), some (0, b), some (0, v)] [] G1
  refine s_aload_n dX12_value_10 rfl (Int.natCast_nonneg _) ?_
  refine gf_right rfl dX12_value_11 hMG1 ?_
  refine s_aload_n dX12_value_14 rfl (Int.natCast_nonneg _) ?_
  refine gf_values rfl dX12_value_15 hMG1 (gsnE eG1 (by decide)) ?_
  refine s_iload_n dX12_value_18 rfl ?_
  refine r_iast dX12_value_19 hMG1 (mg_a_right hMG1) (by decide) (by omega) (by omega) (fun G2 eG2 hMG2 => ?_)
  have hFG2 : Fr nX12_value jX12_value G G2 := Fr.setA hFG1 eG2 (by decide)
  show WP kX12_value X 20 [some (2, ((1000 : Nat) : Int)), some (0, a), some (0, b), some (0, v)] [] G2
  refine s_aload_n dX12_value_20 rfl (Int.natCast_nonneg _) ?_
  refine gf_number rfl dX12_value_21 hMG2 ?_
  refine s_aload_n dX12_value_24 rfl (Int.natCast_nonneg _) ?_
  refine gf_values rfl dX12_value_25 hMG2 (Eq.trans (gsnE eG2 (by decide)) (gsnE eG1 (by decide))) ?_
  refine s_iload_n dX12_value_28 rfl ?_
  refine r_iast dX12_value_29 hMG2 (mg_a_number hMG2) (by decide) (by omega) (by omega) (fun G3 eG3 hMG3 => ?_)
  have hFG3 : Fr nX12_value jX12_value G G3 := Fr.setA hFG2 eG3 (by decide)
  show WP kX12_value X 30 [some (2, ((1000 : Nat) : Int)), some (0, a), some (0, b), some (0, v)] [] G3
  refine s_aload_n dX12_value_30 rfl (Int.natCast_nonneg _) ?_
  refine gf_count rfl dX12_value_31 hMG3 ?_
  refine s_aload_n dX12_value_34 rfl (Int.natCast_nonneg _) ?_
  refine gf_values rfl dX12_value_35 hMG3 (Eq.trans (gsnE eG3 (by decide)) (Eq.trans (gsnE eG2 (by decide)) (gsnE eG1 (by decide)))) ?_
  refine s_iload_n dX12_value_38 rfl ?_
  refine s_iconst dX12_value_39 (by decide) ?_
  refine s_icmp_ne (tgt := 47) dX12_value_40 (by decide) (fun c4 => ?_) (fun c4 => ?_)
  · -- 40 to 47
    refine s_aload_n dX12_value_47 rfl (Int.natCast_nonneg _) ?_
    refine gf_count rfl dX12_value_48 hMG3 ?_
    refine s_iload_n dX12_value_51 rfl ?_
    refine s_lald dX12_value_52 (mg_a_count hMG3) (by omega) (by omega) (Eq.trans (gsnE eG3 (by decide)) (Eq.trans (gsnE eG2 (by decide)) (gsnE eG1 (by decide)))) ?_
    refine s_aload_n dX12_value_53 rfl (Int.natCast_nonneg _) ?_
    refine gf_count rfl dX12_value_54 hMG3 ?_
    refine s_iload_n dX12_value_57 rfl ?_
    refine s_lald dX12_value_58 (mg_a_count hMG3) (by omega) (by omega) (Eq.trans (gsnE eG3 (by decide)) (Eq.trans (gsnE eG2 (by decide)) (gsnE eG1 (by decide)))) ?_
    refine s_laddW dX12_value_59 (fun w5 hrw5 hew5 => ?_)
    refine r_last dX12_value_60 hMG3 (mg_a_count hMG3) (by decide) (by omega) (by omega) (fun G6 eG6 hMG6 => ?_)
    have hFG6 : Fr nX12_value jX12_value G G6 := Fr.setA hFG3 eG6 (by decide)
    show WP kX12_value X 61 [some (2, ((1000 : Nat) : Int)), some (0, a), some (0, b), some (0, v)] [] G6
    refine s_aload_n dX12_value_61 rfl (Int.natCast_nonneg _) ?_
    refine s_dup dX12_value_62 (by decide) ?_
    refine gf_values rfl dX12_value_63 hMG6 (Eq.trans (gsnE eG6 (by decide)) (Eq.trans (gsnE eG3 (by decide)) (Eq.trans (gsnE eG2 (by decide)) (gsnE eG1 (by decide))))) ?_
    refine s_iconst dX12_value_66 (by decide) ?_
    refine s_iadd dX12_value_67 (by omega) ?_
    refine pf_values rfl dX12_value_68 hMG6 (fun G7 eG7 hMG7 => ?_)
    have hFG7 : Fr nX12_value jX12_value G G7 := Fr.setF hFG6 eG7 (by decide)
    refine s_aload_n dX12_value_71 rfl (Int.natCast_nonneg _) ?_
    refine gf_values rfl dX12_value_72 hMG7 (gsaE eG7) ?_
    refine s_iconst dX12_value_75 (by decide) ?_
    refine s_isub dX12_value_76 (by omega) ?_
    exact s_iret hR dX12_value_77 rfl (hQ _ G7 hMG7 (⟨hFG7, ⟨by omega, (gsaE eG7), fun hV => hV.add ((gsaE eG7)) (fun j => by rw [gsnE eG7 (by decide), gsnE eG6 (by decide), gsnE eG3 (by decide), gsnE eG2 (by decide), g_upd eG1]) (fun j => by rw [gsnE eG7 (by decide), gsnE eG6 (by decide), gsnE eG3 (by decide), g_upd eG2, gsnE eG1 (by decide)]) hab⟩⟩))
  · -- 40 to 43
    refine s_lconst dX12_value_43 ?_
    show WP kX12_value X 44 [some (2, ((1000 : Nat) : Int)), some (0, a), some (0, b), some (0, v)] [(1, 1), (0, gS G 1000 79), (2, ((a_count : Nat) : Int))] G3
    refine s_goto (tgt := 60) dX12_value_44 (by decide) ?_
    refine r_last dX12_value_60 hMG3 (mg_a_count hMG3) (by decide) (by omega) (by omega) (fun G8 eG8 hMG8 => ?_)
    have hFG8 : Fr nX12_value jX12_value G G8 := Fr.setA hFG3 eG8 (by decide)
    show WP kX12_value X 61 [some (2, ((1000 : Nat) : Int)), some (0, a), some (0, b), some (0, v)] [] G8
    refine s_aload_n dX12_value_61 rfl (Int.natCast_nonneg _) ?_
    refine s_dup dX12_value_62 (by decide) ?_
    refine gf_values rfl dX12_value_63 hMG8 (Eq.trans (gsnE eG8 (by decide)) (Eq.trans (gsnE eG3 (by decide)) (Eq.trans (gsnE eG2 (by decide)) (gsnE eG1 (by decide))))) ?_
    refine s_iconst dX12_value_66 (by decide) ?_
    refine s_iadd dX12_value_67 (by omega) ?_
    refine pf_values rfl dX12_value_68 hMG8 (fun G9 eG9 hMG9 => ?_)
    have hFG9 : Fr nX12_value jX12_value G G9 := Fr.setF hFG8 eG9 (by decide)
    refine s_aload_n dX12_value_71 rfl (Int.natCast_nonneg _) ?_
    refine gf_values rfl dX12_value_72 hMG9 (gsaE eG9) ?_
    refine s_iconst dX12_value_75 (by decide) ?_
    refine s_isub dX12_value_76 (by omega) ?_
    exact s_iret hR dX12_value_77 rfl (hQ _ G9 hMG9 (⟨hFG9, ⟨by omega, (gsaE eG9), fun hV => hV.add ((gsaE eG9)) (fun j => by rw [gsnE eG9 (by decide), gsnE eG8 (by decide), gsnE eG3 (by decide), gsnE eG2 (by decide), g_upd eG1]) (fun j => by rw [gsnE eG9 (by decide), gsnE eG8 (by decide), gsnE eG3 (by decide), g_upd eG2, gsnE eG1 (by decide)]) hab⟩⟩))

abbrev nX12_beginsCell : List Nat := [a_state, a_actOn, a_actPhase, a_actFor]
abbrev jX12_beginsCell : List Nat := [84]
def TX12_beginsCell : TR := fun as G Qr => ∃ (c : Int) (Gz : LG) (I : Int) (st : List (Int × Int × Int)), as = [(2, ((1000 : Nat) : Int)), (0, c)] ∧ MG G ∧ (IN Gz I (10 * I)) ∧ (UV Gz) ∧ (EX Gz) ∧ (FI Gz) ∧ (Fr nRun jRun Gz G) ∧ (RU G Gz st 0 0 0) ∧ (0 ≤ c ∧ c < (gS Gz 1000 67)) ∧ ((gS G a_state (c).toNat) = 0) ∧ ∀ G' : LG, MG G' → (Fr nX12_beginsCell jX12_beginsCell G G' ∧ (RU G' Gz ((exprC Gz c, 0, c) :: (c, 2, c) :: st) 0 0 0 ∧ (gS G' 1000 88) = (gS G 1000 88) ∧ s0 G' ((gS Gz 1000 67)) + 1 ≤ s0 G ((gS Gz 1000 67)))) → Qr (.inl none) G'
set_option maxHeartbeats 4000000 in
set_option maxRecDepth 100000 in
theorem gX12_beginsCell : Good kX12_beginsCell yX12_beginsCell 1 TX12_beginsCell := by
  refine good_of (by decide) rfl rfl (fun as G Qr h => ?_) (fun X as G Qr hcf hR hT oa => ?_)
  · obtain ⟨c, Gz, I, st, rfl, -⟩ := h; exact Nat.le_of_ble_eq_true rfl
  obtain ⟨c, Gz, I, st, rfl, hM, hI, hUV, hEX, hFI, hZ, hRU, hc, h0, hQ⟩ := hT
  show WP kX12_beginsCell X 0 [some (2, ((1000 : Nat) : Int)), some (0, c)] [] G
  have hr_c : inR c := okv_R (oa _ (by simp))
  have hI3 := hI.2.2.1
  have hI1 := hI.1
  refine s_aload_n dX12_beginsCell_0 rfl (Int.natCast_nonneg _) ?_
  refine gf_state rfl dX12_beginsCell_1 hM ?_
  refine s_iload_n dX12_beginsCell_4 rfl ?_
  refine s_iconst dX12_beginsCell_5 (by decide) ?_
  refine r_iast dX12_beginsCell_6 hM (mg_a_state hM) (by decide) (by omega) (by omega) (fun G1 eG1 hMG1 => ?_)
  have hFG1 : Fr nX12_beginsCell jX12_beginsCell G G1 := Fr.setA Fr.rf eG1 (by decide)
  show WP kX12_beginsCell X 7 [some (2, ((1000 : Nat) : Int)), some (0, c)] [] G1
  have hu1 := hRU.beg hc h0 eG1
  have hl1 := hu1.len hEX (by omega) (by omega) (by omega)
  have hs1 := s0.beg (v := 1) (by decide) hc h0 (g_upd eG1)
  refine s_aload_n dX12_beginsCell_7 rfl (Int.natCast_nonneg _) ?_
  refine s_iload_n dX12_beginsCell_8 rfl ?_
  refine s_iconst dX12_beginsCell_9 (by decide) ?_
  refine s_iload_n dX12_beginsCell_10 rfl ?_
  refine cv_X12_536 rfl gX12_act dX12_beginsCell_11 hMG1 (by rw [hcf]; decide) (as := [(0, c), (0, 2), (0, c)]) rfl (Nat.le_of_ble_eq_true rfl) ⟨c, 2, c, rfl, hMG1, (by first | assumption | omega), fun G2 hMG2 hpG2 => ?_⟩
  obtain ⟨G4, G5, G6, eG4, eG5, eG6, eG2, hpG2⟩ := hpG2
  have hFG4 : Fr nX12_beginsCell jX12_beginsCell G G4 := Fr.setA hFG1 eG4 (by decide)
  have hFG5 : Fr nX12_beginsCell jX12_beginsCell G G5 := Fr.setA hFG4 eG5 (by decide)
  have hFG6 : Fr nX12_beginsCell jX12_beginsCell G G6 := Fr.setA hFG5 eG6 (by decide)
  have hFG2 : Fr nX12_beginsCell jX12_beginsCell G G2 := Fr.setF hFG6 eG2 (by decide)
  show WP kX12_beginsCell X 14 [some (2, ((1000 : Nat) : Int)), some (0, c)] [] G2
  have hu2 := hu1.push rfl (e := c) (q := 2) (c := c) (Or.inl ⟨rfl, hc⟩) eG4 eG5 eG6 eG2 hEX
  rw [po1.t.1, if_pos rfl] at hu2
  have hl2 := hu2.len hEX (by omega) (by omega) (by omega)
  have hzz : Fr nRun jRun Gz G2 := Fr.call (ns := nRun) (js := jRun) hZ (Fr.setF (Fr.setA (Fr.setA (Fr.setA (Fr.setA (Fr.rf) eG1 (by decide)) eG4 (by decide)) eG5 (by decide)) eG6 (by decide)) eG2 (by decide) : Fr [a_state, a_actOn, a_actPhase, a_actFor] [84] G G2) (by decide) (by decide)
  have hce := hI.cell hUV hc.1 hc.2
  have hx1 : (gS G2 a_cellOf (c).toNat) = (gS Gz a_cellOf (c).toNat) := hzz.atA (by decide) (by decide)
  have hx2 : (gS G2 a_versionAt ((gS G2 a_cellOf (c).toNat) / 10).toNat) = (gS Gz a_versionAt ((gS Gz a_cellOf (c).toNat) / 10).toNat) := by rw [hx1]; exact hzz.atA (by decide) (by decide)
  have hcx1 := hce.1
  have hcx2 := hce.2.1
  have hcx3 := hce.2.2
  refine s_aload_n dX12_beginsCell_14 rfl (Int.natCast_nonneg _) ?_
  refine s_aload_n dX12_beginsCell_15 rfl (Int.natCast_nonneg _) ?_
  refine s_iload_n dX12_beginsCell_16 rfl ?_
  refine cv_X12_515 rfl gX12_expressionOf dX12_beginsCell_17 hMG2 (by rw [hcf]; decide) (as := [(0, c)]) rfl (Nat.le_of_ble_eq_true rfl) ⟨c, rfl, hMG2, (by first | assumption | omega), (by first | assumption | omega), (by first | assumption | omega), ?_⟩
  show WP kX12_beginsCell X 20 [some (2, ((1000 : Nat) : Int)), some (0, c)] [(0, (gS G2 a_valueBy (10 * (gS G2 a_versionAt ((gS G2 a_cellOf (c).toNat) / 10).toNat) + (gS G2 a_cellOf (c).toNat) % 10).toNat)), (2, ((1000 : Nat) : Int))] G2
  rw [show (gS G2 a_valueBy (10 * (gS G2 a_versionAt ((gS G2 a_cellOf (c).toNat) / 10).toNat) + (gS G2 a_cellOf (c).toNat) % 10).toNat) = exprC Gz c from (by unfold exprC; rw [hx2, hx1]; exact hzz.atA (by decide) (by decide))]
  refine s_iconst dX12_beginsCell_20 (by decide) ?_
  refine s_iload_n dX12_beginsCell_21 rfl ?_
  refine cv_X12_536 rfl gX12_act dX12_beginsCell_22 hMG2 (by rw [hcf]; decide) (as := [(0, (exprC Gz c)), (0, 0), (0, c)]) rfl (Nat.le_of_ble_eq_true rfl) ⟨(exprC Gz c), 0, c, rfl, hMG2, (by first | assumption | omega), fun G7 hMG7 hpG7 => ?_⟩
  obtain ⟨G9, G10, G11, eG9, eG10, eG11, eG7, hpG7⟩ := hpG7
  have hFG9 : Fr nX12_beginsCell jX12_beginsCell G G9 := Fr.setA hFG2 eG9 (by decide)
  have hFG10 : Fr nX12_beginsCell jX12_beginsCell G G10 := Fr.setA hFG9 eG10 (by decide)
  have hFG11 : Fr nX12_beginsCell jX12_beginsCell G G11 := Fr.setA hFG10 eG11 (by decide)
  have hFG7 : Fr nX12_beginsCell jX12_beginsCell G G7 := Fr.setF hFG11 eG7 (by decide)
  show WP kX12_beginsCell X 25 [some (2, ((1000 : Nat) : Int)), some (0, c)] [] G7
  exact s_vret hR dX12_beginsCell_25 rfl (hQ G7 hMG7 (⟨hFG7, ⟨(by have hu3 := hu2.push rfl (e := exprC Gz c) (q := 0) (c := c) (Or.inr ⟨Or.inl rfl, hce.2.2.1, hc, fun _ _ _ q => q⟩) eG9 eG10 eG11 eG7 hEX; rw [po1.z.1, if_neg (by decide)] at hu3; have hw := (hEX.w hce.2.2.1.1 hce.2.2.1.2).2; exact hu3.weak (by omega) (by omega) (by omega)), (Fr.setF (Fr.setA (Fr.setA (Fr.setA (Fr.setF (Fr.setA (Fr.setA (Fr.setA (Fr.setA (Fr.rf) eG1 (by decide)) eG4 (by decide)) eG5 (by decide)) eG6 (by decide)) eG2 (by decide)) eG9 (by decide)) eG10 (by decide)) eG11 (by decide)) eG7 (by decide) : Fr [a_state, a_actOn, a_actPhase, a_actFor] [84] G G7).atF (by decide) (by decide), (by rw [show s0 G7 ((gS Gz 1000 67)) = s0 G1 ((gS Gz 1000 67)) from s0.cg (fun j => (Fr.setF (Fr.setA (Fr.setA (Fr.setA (Fr.setF (Fr.setA (Fr.setA (Fr.setA (Fr.rf) eG4 (by decide)) eG5 (by decide)) eG6 (by decide)) eG2 (by decide)) eG9 (by decide)) eG10 (by decide)) eG11 (by decide)) eG7 (by decide) : Fr [a_actOn, a_actPhase, a_actFor] [84] G1 G7).atA (by decide) (by decide))]; exact hs1)⟩⟩))

abbrev nX12_fails : List Nat := [a_state]
abbrev jX12_fails : List Nat := [84]
def TX12_fails : TR := fun as G Qr => ∃ (Gz : LG) (st : List (Int × Int × Int)), as = [(2, ((1000 : Nat) : Int))] ∧ MG G ∧ (EX Gz) ∧ (0 ≤ (gS Gz 1000 67) ∧ (gS Gz 1000 67) ≤ 240) ∧ (RU G Gz st 0 0 0) ∧ ∀ G' : LG, MG G' → (Fr nX12_fails jX12_fails G G' ∧ (RU G' Gz [] 0 0 0 ∧ s0 G' ((gS Gz 1000 67)) ≤ s0 G ((gS Gz 1000 67)))) → Qr (.inl none) G'
set_option maxHeartbeats 4000000 in
set_option maxRecDepth 100000 in
theorem gX12_fails : Good kX12_fails yX12_fails 0 TX12_fails := by
  refine good_of (by decide) rfl rfl (fun as G Qr h => ?_) (fun X as G Qr hcf hR hT oa => ?_)
  · obtain ⟨Gz, st, rfl, -⟩ := h; exact Nat.le_of_ble_eq_true rfl
  obtain ⟨Gz, st, rfl, hM, hEX, hcz, hRU, hQ⟩ := hT
  show WP kX12_fails X 0 [some (2, ((1000 : Nat) : Int))] [] G
  have L1 : ∀ (n1 : Nat) (st1 : List (Int × Int × Int)) (G1 : LG), MG G1 → Fr nX12_fails jX12_fails G G1 → ((RU G1 Gz st1 0 0 0) ∧ (s0 G1 ((gS Gz 1000 67)) ≤ s0 G ((gS Gz 1000 67)))) → ((gS G1 1000 84)).toNat < n1 → WP kX12_fails X 0 [some (2, ((1000 : Nat) : Int))] [] G1 := by
    intro n1
    induction n1 with
    | zero => intro st1 G1 hMG1 hFG1 hi1 hm1; exact absurd hm1 (Nat.not_lt_zero _)
    | succ n1 ih1 =>
      intro st1 G1 hMG1 hFG1 hi1 hm1
      have hj1 := hi1
      obtain ⟨iU1, is1⟩ := hi1
      have il1 := iU1.len hEX (by omega) (by omega) (by omega)
      refine s_aload_n dX12_fails_0 rfl (Int.natCast_nonneg _) ?_
      refine gf_acts rfl dX12_fails_1 hMG1 rfl ?_
      refine s_if_le (tgt := 48) dX12_fails_4 (by decide) (fun c2 => ?_) (fun c2 => ?_)
      · -- 4 to 48
        exact s_vret hR dX12_fails_48 rfl (hQ G1 hMG1 (⟨hFG1, ⟨by cases st1 with | nil => exact iU1 | cons a s => (obtain ⟨e, p, c⟩ := a; have := iU1.1.1; omega), is1⟩⟩))
      · -- 4 to 7
        obtain ⟨ee1, pp1, cc1, sq1, rfl, ⟨ho1, hp1, hf1⟩, hA1⟩ := iU1.1.pos (by omega)
        have hev1 := iU1.2.1.1
        refine s_aload_n dX12_fails_7 rfl (Int.natCast_nonneg _) ?_
        refine s_dup dX12_fails_8 (by decide) ?_
        refine gf_acts rfl dX12_fails_9 hMG1 rfl ?_
        refine s_iconst dX12_fails_12 (by decide) ?_
        refine s_isub dX12_fails_13 (by omega) ?_
        refine pf_acts rfl dX12_fails_14 hMG1 (fun G3 eG3 hMG3 => ?_)
        have hFG3 : Fr nX12_fails jX12_fails G G3 := Fr.setF hFG1 eG3 (by decide)
        have hu1 := (iU1.pop eG3).1
        have hpo1 := hev1.po hEX
        have hw1 : RU G3 Gz sq1 0 0 0 := hu1.weak (by omega) (by omega) (by split <;> omega)
        have he21 : pp1 = 2 → 0 ≤ ee1 ∧ ee1 < (gS Gz 1000 67) := fun q => by rcases hev1 with z | z; (exact z.2); (have := z.1; omega)
        refine s_aload_n dX12_fails_17 rfl (Int.natCast_nonneg _) ?_
        refine gf_actPhase rfl dX12_fails_18 hMG3 ?_
        refine s_aload_n dX12_fails_21 rfl (Int.natCast_nonneg _) ?_
        refine gf_acts rfl dX12_fails_22 hMG3 (gsaE eG3) ?_
        refine s_iald dX12_fails_25 (mg_a_actPhase hMG3) (by omega) (by omega) (gsnE eG3 (by decide)) ?_
        refine s_iconst dX12_fails_26 (by decide) ?_
        refine s_icmp_ne (tgt := 0) dX12_fails_27 (by decide) (fun c4 => ?_) (fun c4 => ?_)
        · -- 27 to 0
          have hd9 : (gS G3 1000 84) = (gS G1 1000 84) - 1 := by rw [gsaE eG3]
          exact ih1 sq1 G3 hMG3 hFG3 (⟨(by exact hw1), (by rw [s0.cg (G := G1) (G' := G3) (n := (gS Gz 1000 67)) (fun j => gsnE eG3 (by decide))]; exact is1)⟩) (by omega)
        · -- 27 to 30
          have he3 := he21 (by omega)
          refine s_aload_n dX12_fails_30 rfl (Int.natCast_nonneg _) ?_
          refine gf_state rfl dX12_fails_31 hMG3 ?_
          refine s_aload_n dX12_fails_34 rfl (Int.natCast_nonneg _) ?_
          refine gf_actOn rfl dX12_fails_35 hMG3 ?_
          refine s_aload_n dX12_fails_38 rfl (Int.natCast_nonneg _) ?_
          refine gf_acts rfl dX12_fails_39 hMG3 (gsaE eG3) ?_
          refine s_iald dX12_fails_42 (mg_a_actOn hMG3) (by omega) (by omega) (gsnE eG3 (by decide)) ?_
          refine s_iconst dX12_fails_43 (by decide) ?_
          refine r_iast dX12_fails_44 hMG3 (mg_a_state hMG3) (by decide) (by omega) (by omega) (fun G5 eG5 hMG5 => ?_)
          have hFG5 : Fr nX12_fails jX12_fails G G5 := Fr.setA hFG3 eG5 (by decide)
          show WP kX12_fails X 45 [some (2, ((1000 : Nat) : Int))] [] G5
          refine s_goto (tgt := 0) dX12_fails_45 (by decide) ?_
          have hd9 : (gS G5 1000 84) = (gS G1 1000 84) - 1 := by rw [gsnE eG5 (by decide), gsaE eG3]
          exact ih1 sq1 G5 hMG5 hFG5 (⟨(by exact hw1.no (by omega) eG5), (by have z9 := s0.set (G := G3) (n := (gS Gz 1000 67)) (v := 3) (by decide) (by omega) (g_upd eG5); rw [s0.cg (G := G1) (G' := G3) (n := (gS Gz 1000 67)) (fun j => gsnE eG3 (by decide))] at z9; omega)⟩) (by omega)
  exact L1 _ st G hM Fr.rf (⟨(by exact hRU), (by exact Int.le_refl _)⟩) (Nat.lt_succ_self _)
