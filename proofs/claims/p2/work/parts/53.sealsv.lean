abbrev nX12_sealsValue : List Nat := [a_fKind, a_fA, a_fB, a_fSize, a_fNext, a_fHead, a_fMark, a_thingKind, a_thingA, a_thingB, a_thingC, a_thingNext, a_thingHead, a_stackOf, a_fMemo]
abbrev jX12_sealsValue : List Nat := [26, 42, 35, 36]
def TX12_sealsValue : TR := fun as G Qr => ∃ (a b k : Int) (Hs : List (Int → Int)) (vv : Int → Int) (P : Int → Prop), as = [(2, ((1000 : Nat) : Int)), (0, a), (0, b), (0, k)] ∧ MG G ∧ (FU G) ∧ (TH G Hs) ∧ (vv ∈ Hs) ∧ (0 ≤ a ∧ a < 43) ∧ (0 ≤ b ∧ b < 43) ∧ (0 ≤ k ∧ k < 10) ∧ (BY G P) ∧ ((0 ≤ (gS G a_sValue (10 * b + k).toNat) ∧ (gS G a_sValue (10 * b + k).toNat) < (gS G 1000 26)) ∧ (gS G a_fSize ((gS G a_sValue (10 * b + k).toNat)).toNat) ≤ 200) ∧ ((gS G 1000 26) + 99 < 150000) ∧ ((gS G 1000 35) ≤ 1900000100) ∧ ∀ (r : Int) (G' : LG), MG G' → (Fr nX12_sealsValue jX12_sealsValue G G' ∧ (FE G G' Hs 99 1 ∧ BY G' P ∧ (r = 0 → ¬ (gS G a_sValue (10 * a + k).toNat) = -1))) → Qr (.inl (some (0, r))) G'
set_option maxHeartbeats 4000000 in
set_option maxRecDepth 100000 in
theorem gX12_sealsValue : Good kX12_sealsValue yX12_sealsValue 4 TX12_sealsValue := by
  refine good_of (by decide) rfl rfl (fun as G Qr h => ?_) (fun X as G Qr hcf hR hT oa => ?_)
  · obtain ⟨a, b, k, Hs, vv, P, rfl, -⟩ := h; exact Nat.le_of_ble_eq_true rfl
  obtain ⟨a, b, k, Hs, vv, P, rfl, hM, hFU, hTH, hvv, ha, hb, hk, hBY, hRVb, hc, hm, hQ⟩ := hT
  show WP kX12_sealsValue X 0 [some (2, ((1000 : Nat) : Int)), some (0, a), some (0, b), some (0, k), none] [] G
  have hr_a : inR a := okv_R (oa _ (by simp))
  have hr_b : inR b := okv_R (oa _ (by simp))
  have hr_k : inR k := okv_R (oa _ (by simp))
  have hFE0 := FE.rf hFU hTH
  have hff0 := hFU.f
  have hmk0 := hFU.2.1
  have hpl : pcost 0 ((gS G a_fSize ((gS G a_sValue (10 * b + k).toNat)).toNat)) ≤ 99 := by rw [pc_0]; omega
  refine s_aload_n dX12_sealsValue_0 rfl (Int.natCast_nonneg _) ?_
  refine s_iload_n dX12_sealsValue_1 rfl ?_
  refine s_iload_n dX12_sealsValue_2 rfl ?_
  refine cv_X12_388 rfl gX12_isOf dX12_sealsValue_3 hM (by rw [hcf]; decide) (as := [(0, a), (0, k)]) rfl (Nat.le_of_ble_eq_true rfl) ⟨a, k, rfl, hM, (by first | assumption | omega), (by first | assumption | omega), ?_⟩
  show WP kX12_sealsValue X 6 [some (2, ((1000 : Nat) : Int)), some (0, a), some (0, b), some (0, k), none] [(0, (gS G a_sValue (10 * a + k).toNat))] G
  refine s_iconst dX12_sealsValue_6 (by decide) ?_
  refine s_icmp_ne (tgt := 16) dX12_sealsValue_7 (by decide) (fun c1 => ?_) (fun c1 => ?_)
  · -- 7 to 16
    refine s_aload_n dX12_sealsValue_16 rfl (Int.natCast_nonneg _) ?_
    refine s_iconst dX12_sealsValue_17 (by decide) ?_
    refine s_aload_n dX12_sealsValue_18 rfl (Int.natCast_nonneg _) ?_
    refine s_iload_n dX12_sealsValue_19 rfl ?_
    refine s_iload_n dX12_sealsValue_20 rfl ?_
    refine cv_X12_388 rfl gX12_isOf dX12_sealsValue_21 hM (by rw [hcf]; decide) (as := [(0, b), (0, k)]) rfl (Nat.le_of_ble_eq_true rfl) ⟨b, k, rfl, hM, (by first | assumption | omega), (by first | assumption | omega), ?_⟩
    show WP kX12_sealsValue X 24 [some (2, ((1000 : Nat) : Int)), some (0, a), some (0, b), some (0, k), none] [(0, (gS G a_sValue (10 * b + k).toNat)), (0, 0), (2, ((1000 : Nat) : Int))] G
    refine cv_X12_378 rfl gX12_puts dX12_sealsValue_24 hM (by rw [hcf]; decide) (as := [(0, 0), (0, (gS G a_sValue (10 * b + k).toNat))]) rfl (Nat.le_of_ble_eq_true rfl) ⟨0, (gS G a_sValue (10 * b + k).toNat), Hs, vv, fun _ => True, rfl, hM, (by exact hFU), (by exact hTH), (by exact hvv), (by omega), (by omega), (by omega), (by omega), (by omega), (by exact fun _ q q0 q1 => (hBY q q0 q1).1), (by intro q; omega), (by intro q; omega), fun r3 G2 hMG2 hpG2 => ?_⟩
    obtain ⟨hfG2, hpG2⟩ := hpG2
    have hFG2 : Fr nX12_sealsValue jX12_sealsValue G G2 := Fr.call Fr.rf hfG2 (by decide) (by decide)
    show WP kX12_sealsValue X 27 [some (2, ((1000 : Nat) : Int)), some (0, a), some (0, b), some (0, k), none] [(0, r3)] G2
    have hr9 := hpG2.2.2.2.2.1
    have hf9 := hpG2.1.f
    refine s_istore dX12_sealsValue_27 (by decide) (lv' := [some (2, ((1000 : Nat) : Int)), some (0, a), some (0, b), some (0, k), some (0, r3)]) rfl ?_
    refine s_aload_n dX12_sealsValue_29 rfl (Int.natCast_nonneg _) ?_
    refine gf_fSize rfl dX12_sealsValue_30 hMG2 ?_
    refine s_iload dX12_sealsValue_33 rfl ?_
    refine s_iald dX12_sealsValue_35 (mg_a_fSize hMG2) (by omega) (by omega) rfl ?_
    refine s_sipush dX12_sealsValue_36 rfl (by decide) ?_
    refine s_icmp_le (tgt := 48) dX12_sealsValue_39 (by decide) (fun c4 => ?_) (fun c4 => ?_)
    · -- 39 to 48
      refine s_iload dX12_sealsValue_48 rfl ?_
      refine s_aload_n dX12_sealsValue_50 rfl (Int.natCast_nonneg _) ?_
      refine s_iload_n dX12_sealsValue_51 rfl ?_
      refine s_iload_n dX12_sealsValue_52 rfl ?_
      refine cv_X12_388 rfl gX12_isOf dX12_sealsValue_53 hMG2 (by rw [hcf]; decide) (as := [(0, a), (0, k)]) rfl (Nat.le_of_ble_eq_true rfl) ⟨a, k, rfl, hMG2, (by first | assumption | omega), (by first | assumption | omega), ?_⟩
      show WP kX12_sealsValue X 56 [some (2, ((1000 : Nat) : Int)), some (0, a), some (0, b), some (0, k), some (0, r3)] [(0, (gS G2 a_sValue (10 * a + k).toNat)), (0, r3)] G2
      refine s_icmp_eq (tgt := 65) dX12_sealsValue_56 (by decide) (fun c5 => ?_) (fun c5 => ?_)
      · -- 56 to 65
        refine s_aload_n dX12_sealsValue_65 rfl (Int.natCast_nonneg _) ?_
        refine s_iload_n dX12_sealsValue_66 rfl ?_
        refine s_iload_n dX12_sealsValue_67 rfl ?_
        refine cv_X12_410 rfl gX12_isGhost dX12_sealsValue_68 hMG2 (by rw [hcf]; decide) (as := [(0, a), (0, k)]) rfl (Nat.le_of_ble_eq_true rfl) ⟨a, k, rfl, hMG2, (by first | assumption | omega), (by first | assumption | omega), ?_⟩
        show WP kX12_sealsValue X 71 [some (2, ((1000 : Nat) : Int)), some (0, a), some (0, b), some (0, k), some (0, r3)] [(0, b2i (¬ i_and (gS G2 a_sFlags (10 * a + k).toNat) 2 = 0))] G2
        have J7 : ∀ z6 : Int, ((¬ (¬ i_and (gS G2 a_sFlags (10 * a + k).toNat) 2 = 0)) ∧ z6 = 0) ∨ ((¬ i_and (gS G2 a_sFlags (10 * a + k).toNat) 2 = 0) ∧ (¬ i_and (gS G2 a_sFlags (10 * b + k).toNat) 2 = 0) ∧ z6 = 0) ∨ ((¬ i_and (gS G2 a_sFlags (10 * a + k).toNat) 2 = 0) ∧ (¬ (¬ i_and (gS G2 a_sFlags (10 * b + k).toNat) 2 = 0)) ∧ z6 = 600 + k) → WP kX12_sealsValue X 92 [some (2, ((1000 : Nat) : Int)), some (0, a), some (0, b), some (0, k), some (0, r3)] [(0, z6)] G2 := by
          intro z6 hz6
          exact s_iret hR dX12_sealsValue_92 rfl (hQ _ G2 hMG2 (⟨hFG2, ⟨FE.puts hpG2 hpl, hBY.fx hpG2.2.1 hFU (fun j => hfG2.atA (by decide) (by decide)), fun q => by omega⟩⟩))
        refine s_if_eqB (tgt := 91) dX12_sealsValue_71 (by decide) (fun c8 => ?_) (fun c8 => ?_)
        · -- 71 to 91
          refine s_iconst dX12_sealsValue_91 (by decide) ?_
          exact J7 0 (Or.inl ⟨c8, rfl⟩)
        · -- 71 to 74
          refine s_aload_n dX12_sealsValue_74 rfl (Int.natCast_nonneg _) ?_
          refine s_iload_n dX12_sealsValue_75 rfl ?_
          refine s_iload_n dX12_sealsValue_76 rfl ?_
          refine cv_X12_410 rfl gX12_isGhost dX12_sealsValue_77 hMG2 (by rw [hcf]; decide) (as := [(0, b), (0, k)]) rfl (Nat.le_of_ble_eq_true rfl) ⟨b, k, rfl, hMG2, (by first | assumption | omega), (by first | assumption | omega), ?_⟩
          show WP kX12_sealsValue X 80 [some (2, ((1000 : Nat) : Int)), some (0, a), some (0, b), some (0, k), some (0, r3)] [(0, b2i (¬ i_and (gS G2 a_sFlags (10 * b + k).toNat) 2 = 0))] G2
          refine s_if_neB (tgt := 91) dX12_sealsValue_80 (by decide) (fun c9 => ?_) (fun c9 => ?_)
          · -- 80 to 91
            refine s_iconst dX12_sealsValue_91 (by decide) ?_
            exact J7 0 (Or.inr (Or.inl ⟨c8, c9, rfl⟩))
          · -- 80 to 83
            refine s_sipush dX12_sealsValue_83 rfl (by decide) ?_
            refine s_iload_n dX12_sealsValue_86 rfl ?_
            refine s_iadd dX12_sealsValue_87 (by omega) ?_
            refine s_goto (tgt := 92) dX12_sealsValue_88 (by decide) ?_
            exact J7 _ (Or.inr (Or.inr (⟨c8, c9, rfl⟩)))
      · -- 56 to 59
        refine s_sipush dX12_sealsValue_59 rfl (by decide) ?_
        refine s_iload_n dX12_sealsValue_62 rfl ?_
        refine s_iadd dX12_sealsValue_63 (by omega) ?_
        exact s_iret hR dX12_sealsValue_64 rfl (hQ _ G2 hMG2 (⟨hFG2, ⟨FE.puts hpG2 hpl, hBY.fx hpG2.2.1 hFU (fun j => hfG2.atA (by decide) (by decide)), fun q => by omega⟩⟩))
    · -- 39 to 42
      refine s_sipush dX12_sealsValue_42 rfl (by decide) ?_
      refine s_iload_n dX12_sealsValue_45 rfl ?_
      refine s_iadd dX12_sealsValue_46 (by omega) ?_
      exact s_iret hR dX12_sealsValue_47 rfl (hQ _ G2 hMG2 (⟨hFG2, ⟨FE.puts hpG2 hpl, hBY.fx hpG2.2.1 hFU (fun j => hfG2.atA (by decide) (by decide)), fun q => by omega⟩⟩))
  · -- 7 to 10
    refine s_sipush dX12_sealsValue_10 rfl (by decide) ?_
    refine s_iload_n dX12_sealsValue_13 rfl ?_
    refine s_iadd dX12_sealsValue_14 (by omega) ?_
    exact s_iret hR dX12_sealsValue_15 rfl (hQ _ G hM (⟨Fr.rf, ⟨hFE0.weak (by omega) (by omega), hBY, fun q => by omega⟩⟩))
