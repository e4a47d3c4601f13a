abbrev nX12_reachOf : List Nat := []
abbrev jX12_reachOf : List Nat := []
def TX12_reachOf : TR := fun as G Qr => ∃ (u : Int), as = [(2, ((1000 : Nat) : Int)), (1, u)] ∧ MG G ∧ (ND G) ∧ ∀ (r : Int) (G' : LG), MG G' → (Fr nX12_reachOf jX12_reachOf G G' ∧ (RCH G u r)) → Qr (.inl (some (1, r))) G'
set_option maxHeartbeats 4000000 in
set_option maxRecDepth 100000 in
theorem gX12_reachOf : Good kX12_reachOf yX12_reachOf 1 TX12_reachOf := by
  refine good_of (by decide) rfl rfl (fun as G Qr h => ?_) (fun X as G Qr hcf hR hT oa => ?_)
  · obtain ⟨u, rfl, -⟩ := h; exact Nat.le_of_ble_eq_true rfl
  obtain ⟨u, rfl, hM, hND, hQ⟩ := hT
  show WP kX12_reachOf X 0 [some (2, ((1000 : Nat) : Int)), some (1, u), none, none, none, none, none] [] G
  have hn4 := hND.1
  have hRC0 : RC1 G u u := ⟨fun _ _ _ q => q, fun S s1 _ m m0 m1 q => s1 m m0 m1 q⟩
  refine s_lload_n dX12_reachOf_0 rfl ?_
  refine s_lstore_n dX12_reachOf_1 (by decide) (lv' := [some (2, ((1000 : Nat) : Int)), some (1, u), none, some (1, u), none, none, none]) rfl ?_
  refine s_aload_n dX12_reachOf_2 rfl (Int.natCast_nonneg _) ?_
  refine gf_nodes rfl dX12_reachOf_3 hM rfl ?_
  refine s_iconst dX12_reachOf_6 (by decide) ?_
  refine s_isub dX12_reachOf_7 (by omega) ?_
  refine s_istore dX12_reachOf_8 (by decide) (lv' := [some (2, ((1000 : Nat) : Int)), some (1, u), none, some (1, u), none, some (0, (gS G 1000 18) - 1), none]) rfl ?_
  have L1 : ∀ (n1 : Nat) (a1 : Int) (x1 : Int), ((-1 ≤ x1 ∧ x1 < (gS G 1000 18)) ∧ (RC1 G u a1) ∧ (RC2 G a1 x1)) → (x1 + 1).toNat < n1 → WP kX12_reachOf X 10 [some (2, ((1000 : Nat) : Int)), some (1, u), none, some (1, a1), none, some (0, x1), none] [] G := by
    intro n1
    induction n1 with
    | zero => intro a1 x1 hi1 hm1; exact absurd hm1 (Nat.not_lt_zero _)
    | succ n1 ih1 =>
      intro a1 x1 hi1 hm1
      have hj1 := hi1
      obtain ⟨in1, i11, i21⟩ := hi1
      refine s_iload dX12_reachOf_10 rfl ?_
      refine s_if_lt (tgt := 65) dX12_reachOf_12 (by decide) (fun c2 => ?_) (fun c2 => ?_)
      · -- 12 to 65
        refine s_lload_n dX12_reachOf_65 rfl ?_
        exact s_lret hR dX12_reachOf_66 rfl (hQ _ G hM (⟨Fr.rf, ⟨i11.1, fun m m0 m1 => i21 m (by omega) m1, i11.2⟩⟩))
      · -- 12 to 15
        refine s_iconst dX12_reachOf_15 (by decide) ?_
        refine s_istore dX12_reachOf_16 (by decide) (lv' := [some (2, ((1000 : Nat) : Int)), some (1, u), none, some (1, a1), none, some (0, x1), some (0, 0)]) rfl ?_
        have L3 : ∀ (n3 : Nat) (a3 : Int) (k3 : Int), ((0 ≤ k3 ∧ k3 ≤ 3) ∧ (RC1 G u a3) ∧ (RC2 G a3 x1) ∧ (∀ j : Int, 0 ≤ j → j < k3 → j < nMany G x1 → bitL a3 (nPart G x1 j))) → (3 - k3).toNat < n3 → WP kX12_reachOf X 18 [some (2, ((1000 : Nat) : Int)), some (1, u), none, some (1, a3), none, some (0, x1), some (0, k3)] [] G := by
          intro n3
          induction n3 with
          | zero => intro a3 k3 hi3 hm3; exact absurd hm3 (Nat.not_lt_zero _)
          | succ n3 ih3 =>
            intro a3 k3 hi3 hm3
            have hj3 := hi3
            obtain ⟨ik3, i13, i23, id3⟩ := hi3
            refine s_lload_n dX12_reachOf_18 rfl ?_
            refine s_iload dX12_reachOf_19 rfl ?_
            refine s_lshr dX12_reachOf_21 ?_
            refine s_lconst dX12_reachOf_22 ?_
            show WP kX12_reachOf X 23 [some (2, ((1000 : Nat) : Int)), some (1, u), none, some (1, a3), none, some (0, x1), some (0, k3)] [(1, 1), (1, l_shr a3 x1)] G
            refine s_land dX12_reachOf_23 ?_
            refine s_lconst dX12_reachOf_24 ?_
            show WP kX12_reachOf X 25 [some (2, ((1000 : Nat) : Int)), some (1, u), none, some (1, a3), none, some (0, x1), some (0, k3)] [(1, 1), (1, l_and (l_shr a3 x1) 1)] G
            refine s_lcmp dX12_reachOf_25 (fun w4 hrw4 hcw4 hqw4 hgw4 => ?_)
            refine s_if_ne (tgt := 59) dX12_reachOf_26 (by decide) (fun c5 => ?_) (fun c5 => ?_)
            · -- 26 to 59
              refine s_iinc dX12_reachOf_59 (v := x1) rfl (by omega) (by decide) (lv' := [some (2, ((1000 : Nat) : Int)), some (1, u), none, some (1, a3), none, some (0, x1 + (-1)), some (0, k3)]) rfl ?_
              refine s_goto (tgt := 10) dX12_reachOf_62 (by decide) ?_
              refine s_mask [true, true, false, true, false, true, false] (lv' := [some (2, ((1000 : Nat) : Int)), some (1, u), none, some (1, a3), none, some (0, x1 + (-1)), none]) rfl ?_
              exact ih1 a3 (x1 + (-1)) (⟨(by omega), (by exact i13), (by intro m m0 m1 q r r0 r1; by_cases hm : m = x1; (subst hm; exact absurd (show l_and (l_shr a3 m) 1 = 1 from q) (by omega)); (exact i23 m (by omega) m1 q r r0 r1))⟩) (by omega)
            · -- 26 to 29
              refine s_iload dX12_reachOf_29 rfl ?_
              refine s_aload_n dX12_reachOf_31 rfl (Int.natCast_nonneg _) ?_
              refine s_iload dX12_reachOf_32 rfl ?_
              refine cv_X12_446 rfl gX12_partsOfNode dX12_reachOf_34 hM (by rw [hcf]; decide) (as := [(0, x1)]) rfl (Nat.le_of_ble_eq_true rfl) ⟨x1, rfl, hM, (by first | assumption | omega), ?_⟩
              show WP kX12_reachOf X 37 [some (2, ((1000 : Nat) : Int)), some (1, u), none, some (1, a3), none, some (0, x1), some (0, k3)] [(0, (if (gS G a_nKind (x1).toNat) = 0 then 0 else if 5 ≤ (gS G a_nKind (x1).toNat) then 1 else if (gS G a_nKind (x1).toNat) = 4 then 3 else 2)), (0, k3)] G
              refine s_icmp_ge (tgt := 59) dX12_reachOf_37 (by decide) (fun c6 => ?_) (fun c6 => ?_)
              · -- 37 to 59
                refine s_iinc dX12_reachOf_59 (v := x1) rfl (by omega) (by decide) (lv' := [some (2, ((1000 : Nat) : Int)), some (1, u), none, some (1, a3), none, some (0, x1 + (-1)), some (0, k3)]) rfl ?_
                refine s_goto (tgt := 10) dX12_reachOf_62 (by decide) ?_
                refine s_mask [true, true, false, true, false, true, false] (lv' := [some (2, ((1000 : Nat) : Int)), some (1, u), none, some (1, a3), none, some (0, x1 + (-1)), none]) rfl ?_
                exact ih1 a3 (x1 + (-1)) (⟨(by omega), (by exact i13), (by intro m m0 m1 q r r0 r1; by_cases hm : m = x1; (subst hm; exact id3 r r0 (by unfold nMany at r1; omega) r1); (exact i23 m (by omega) m1 q r r0 r1))⟩) (by omega)
              · -- 37 to 40
                have hb3 : bitL a3 x1 := by unfold bitL; omega
                have hk3 : 0 ≤ k3 ∧ k3 < nMany G x1 := ⟨by omega, by unfold nMany; omega⟩
                have hk33 : k3 < 3 := by have := nMany_rng (G := G) (n := x1); omega
                refine s_lload_n dX12_reachOf_40 rfl ?_
                refine s_lconst dX12_reachOf_41 ?_
                show WP kX12_reachOf X 42 [some (2, ((1000 : Nat) : Int)), some (1, u), none, some (1, a3), none, some (0, x1), some (0, k3)] [(1, 1), (1, a3)] G
                refine s_aload_n dX12_reachOf_42 rfl (Int.natCast_nonneg _) ?_
                refine s_iload dX12_reachOf_43 rfl ?_
                refine s_iload dX12_reachOf_45 rfl ?_
                refine cv_X12_449 rfl gX12_partOf dX12_reachOf_47 hM (by rw [hcf]; decide) (as := [(0, x1), (0, k3)]) rfl (Nat.le_of_ble_eq_true rfl) ⟨x1, k3, rfl, hM, (by first | assumption | omega), ?_⟩
                show WP kX12_reachOf X 50 [some (2, ((1000 : Nat) : Int)), some (1, u), none, some (1, a3), none, some (0, x1), some (0, k3)] [(0, (if k3 = 0 then (gS G a_nFirst (x1).toNat) else if k3 = 1 then (gS G a_nSecond (x1).toNat) else (gS G a_nThird (x1).toNat))), (1, 1), (1, a3)] G
                refine s_lshl dX12_reachOf_50 ?_
                refine s_lor dX12_reachOf_51 ?_
                refine s_lstore_n dX12_reachOf_52 (by decide) (lv' := [some (2, ((1000 : Nat) : Int)), some (1, u), none, some (1, l_or a3 (l_shl 1 ((if k3 = 0 then (gS G a_nFirst (x1).toNat) else if k3 = 1 then (gS G a_nSecond (x1).toNat) else (gS G a_nThird (x1).toNat))))), none, some (0, x1), some (0, k3)]) rfl ?_
                refine s_iinc dX12_reachOf_53 (v := k3) rfl (by omega) (by decide) (lv' := [some (2, ((1000 : Nat) : Int)), some (1, u), none, some (1, l_or a3 (l_shl 1 ((if k3 = 0 then (gS G a_nFirst (x1).toNat) else if k3 = 1 then (gS G a_nSecond (x1).toNat) else (gS G a_nThird (x1).toNat))))), none, some (0, x1), some (0, k3 + 1)]) rfl ?_
                refine s_goto (tgt := 18) dX12_reachOf_56 (by decide) ?_
                exact ih3 (l_or a3 (l_shl 1 ((if k3 = 0 then (gS G a_nFirst (x1).toNat) else if k3 = 1 then (gS G a_nSecond (x1).toNat) else (gS G a_nThird (x1).toNat))))) (k3 + 1) (⟨(by omega), (by exact i13.add hND ⟨by omega, by omega⟩ hb3 hk3), (by exact i23.add hND ⟨by omega, by omega⟩ hk3), (by intro j j0 j1 j2; have hpj := hND.part (n := x1) (k := j) (by omega) (by omega) j0 j2; refine (bitL_addn hND ⟨by omega, by omega⟩ hk3 (by omega) (by omega)).mpr ?_; by_cases hj : j = k3; (subst hj; exact Or.inr rfl); (exact Or.inl (id3 j j0 (by omega) j2)))⟩) (by omega)
        exact L3 _ a1 0 (⟨(by omega), (by exact i11), (by exact i21), (by intro j j0 j1; omega)⟩) (Nat.lt_succ_self _)
  exact L1 _ u ((gS G 1000 18) - 1) (⟨(by omega), (by exact hRC0), (by intro m m0 m1; omega)⟩) (Nat.lt_succ_self _)
