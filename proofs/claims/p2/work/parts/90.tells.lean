abbrev nX12_tellsVersion : List Nat := [a_build, a_todo]
abbrev jX12_tellsVersion : List Nat := [102]
def TX12_tellsVersion : TR := fun as G Qr => ∃ (v : Int), as = [(2, ((1000 : Nat) : Int)), (0, v)] ∧ MG G ∧ (TB G) ∧ (EX G) ∧ (UV G) ∧ (0 ≤ v ∧ v < 40) ∧ (0 ≤ (gS G 1000 102) ∧ (gS G 1000 102) + 651 ≤ 11000) ∧ ∀ G' : LG, MG G' → (Fr nX12_tellsVersion jX12_tellsVersion G G' ∧ ((gS G 1000 102) ≤ (gS G' 1000 102) ∧ (gS G' 1000 102) ≤ (gS G 1000 102) + 651)) → Qr (.inl none) G'
set_option maxHeartbeats 4000000 in
set_option maxRecDepth 100000 in
theorem gX12_tellsVersion : Good kX12_tellsVersion yX12_tellsVersion 2 TX12_tellsVersion := by
  refine good_of (by decide) rfl rfl (fun as G Qr h => ?_) (fun X as G Qr hcf hR hT oa => ?_)
  · obtain ⟨v, rfl, -⟩ := h; exact Nat.le_of_ble_eq_true rfl
  obtain ⟨v, rfl, hM, hTB, hEX, hUV, hv, hb, hQ⟩ := hT
  show WP kX12_tellsVersion X 0 [some (2, ((1000 : Nat) : Int)), some (0, v), none, none] [] G
  have hr_v : inR v := okv_R (oa _ (by simp))
  have hty := hTB.1
  have hexx := hEX.1
  refine s_aload_n dX12_tellsVersion_0 rfl (Int.natCast_nonneg _) ?_
  refine s_iload_n dX12_tellsVersion_1 rfl ?_
  refine cv_X12_610 rfl gX12_tellsOf dX12_tellsVersion_2 hM (by rw [hcf]; decide) (as := [(0, v)]) rfl (Nat.le_of_ble_eq_true rfl) ⟨v, rfl, hM, (by first | assumption | omega), fun G1 hMG1 hpG1 => ?_⟩
  obtain ⟨G3, eG3, eG1, hpG1⟩ := hpG1
  have hFG3 : Fr nX12_tellsVersion jX12_tellsVersion G G3 := Fr.setA Fr.rf eG3 (by decide)
  have hFG1 : Fr nX12_tellsVersion jX12_tellsVersion G G1 := Fr.setF hFG3 eG1 (by decide)
  show WP kX12_tellsVersion X 5 [some (2, ((1000 : Nat) : Int)), some (0, v), none, none] [] G1
  have hbwG1 : gS G1 1000 102 = (gS G 1000 102) + 1 := (gsaE eG1)
  refine s_iconst dX12_tellsVersion_5 (by decide) ?_
  refine s_istore_n dX12_tellsVersion_6 (by decide) (lv' := [some (2, ((1000 : Nat) : Int)), some (0, v), some (0, 0), none]) rfl ?_
  have L4 : ∀ (n4 : Nat) (k4 : Int) (G4 : LG), MG G4 → Fr nX12_tellsVersion jX12_tellsVersion G G4 → ((0 ≤ k4 ∧ k4 ≤ 6) ∧ (Fr [a_build, a_todo] [102] G G4) ∧ ((gS G 1000 102) ≤ (gS G4 1000 102) ∧ (gS G4 1000 102) ≤ (gS G 1000 102) + 1 + 25 * k4)) → (6 - k4).toNat < n4 → WP kX12_tellsVersion X 7 [some (2, ((1000 : Nat) : Int)), some (0, v), some (0, k4), none] [] G4 := by
    intro n4
    induction n4 with
    | zero => intro k4 G4 hMG4 hFG4 hi4 hm4; exact absurd hm4 (Nat.not_lt_zero _)
    | succ n4 ih4 =>
      intro k4 G4 hMG4 hFG4 hi4 hm4
      have hj4 := hi4
      obtain ⟨ik4, ir4, ib4⟩ := hi4
      refine s_iload_n dX12_tellsVersion_7 rfl ?_
      refine s_bipush dX12_tellsVersion_8 rfl (by decide) ?_
      refine s_icmp_ge (tgt := 53) dX12_tellsVersion_10 (by decide) (fun c5 => ?_) (fun c5 => ?_)
      · -- 10 to 53
        refine s_iconst dX12_tellsVersion_53 (by decide) ?_
        refine s_istore_n dX12_tellsVersion_54 (by decide) (lv' := [some (2, ((1000 : Nat) : Int)), some (0, v), some (0, 0), none]) rfl ?_
        have L6 : ∀ (n6 : Nat) (k6 : Int) (G6 : LG), MG G6 → Fr nX12_tellsVersion jX12_tellsVersion G G6 → ((0 ≤ k6 ∧ k6 ≤ 10) ∧ (Fr [a_build, a_todo] [102] G G6) ∧ ((gS G 1000 102) ≤ (gS G6 1000 102) ∧ (gS G6 1000 102) ≤ (gS G 1000 102) + 151 + 50 * k6)) → (10 - k6).toNat < n6 → WP kX12_tellsVersion X 55 [some (2, ((1000 : Nat) : Int)), some (0, v), some (0, k6), none] [] G6 := by
          intro n6
          induction n6 with
          | zero => intro k6 G6 hMG6 hFG6 hi6 hm6; exact absurd hm6 (Nat.not_lt_zero _)
          | succ n6 ih6 =>
            intro k6 G6 hMG6 hFG6 hi6 hm6
            have hj6 := hi6
            obtain ⟨ik6, ir6, ib6⟩ := hi6
            refine s_iload_n dX12_tellsVersion_55 rfl ?_
            refine s_bipush dX12_tellsVersion_56 rfl (by decide) ?_
            refine s_icmp_ge (tgt := 157) dX12_tellsVersion_58 (by decide) (fun c7 => ?_) (fun c7 => ?_)
            · -- 58 to 157
              exact s_vret hR dX12_tellsVersion_157 rfl (hQ G6 hMG6 (⟨hFG6, ⟨ib6.1, by omega⟩⟩))
            · -- 58 to 61
              refine s_bipush dX12_tellsVersion_61 rfl (by decide) ?_
              refine s_iload_n dX12_tellsVersion_63 rfl ?_
              refine s_imul dX12_tellsVersion_64 (by omega) ?_
              refine s_iload_n dX12_tellsVersion_65 rfl ?_
              refine s_iadd dX12_tellsVersion_66 (by omega) ?_
              refine s_istore_n dX12_tellsVersion_67 (by decide) (lv' := [some (2, ((1000 : Nat) : Int)), some (0, v), some (0, k6), some (0, (10 * v) + k6)]) rfl ?_
              have huv6 := hUV.2.2.2.2 v k6 (by omega) (by omega) (by omega) (by omega)
              have hut6 : (gS G6 a_valueType (10 * v + k6).toNat) = (gS G a_valueType (10 * v + k6).toNat) := hFG6.atA (by decide) (by decide)
              have hub6 : (gS G6 a_valueBy (10 * v + k6).toNat) = (gS G a_valueBy (10 * v + k6).toNat) := hFG6.atA (by decide) (by decide)
              refine s_aload_n dX12_tellsVersion_68 rfl (Int.natCast_nonneg _) ?_
              refine s_aload_n dX12_tellsVersion_69 rfl (Int.natCast_nonneg _) ?_
              refine gf_valueType rfl dX12_tellsVersion_70 hMG6 ?_
              refine s_iload_n dX12_tellsVersion_73 rfl ?_
              refine s_iald dX12_tellsVersion_74 (mg_a_valueType hMG6) (by omega) (by omega) rfl ?_
              refine s_iconst dX12_tellsVersion_75 (by decide) ?_
              have J9 : ∀ z8 : Int, ((¬ (gS G6 a_valueType (((10 * v) + k6).toNat)) = ((-1))) ∧ (¬ (gS G6 a_valueBy (((10 * v) + k6).toNat)) = ((-1))) ∧ z8 = 2) ∨ ((¬ (gS G6 a_valueType (((10 * v) + k6).toNat)) = ((-1))) ∧ ((gS G6 a_valueBy (((10 * v) + k6).toNat)) = ((-1))) ∧ z8 = 1) ∨ (((gS G6 a_valueType (((10 * v) + k6).toNat)) = ((-1))) ∧ z8 = 0) → WP kX12_tellsVersion X 98 [some (2, ((1000 : Nat) : Int)), some (0, v), some (0, k6), some (0, (10 * v) + k6)] [(0, z8), (2, ((1000 : Nat) : Int))] G6 := by
                intro z8 hz8
                refine cv_X12_610 rfl gX12_tellsOf dX12_tellsVersion_98 hMG6 (by rw [hcf]; decide) (as := [(0, z8)]) rfl (Nat.le_of_ble_eq_true rfl) ⟨z8, rfl, hMG6, (by first | assumption | omega), fun G10 hMG10 hpG10 => ?_⟩
                obtain ⟨G12, eG12, eG10, hpG10⟩ := hpG10
                have hFG12 : Fr nX12_tellsVersion jX12_tellsVersion G G12 := Fr.setA hFG6 eG12 (by decide)
                have hFG10 : Fr nX12_tellsVersion jX12_tellsVersion G G10 := Fr.setF hFG12 eG10 (by decide)
                show WP kX12_tellsVersion X 101 [some (2, ((1000 : Nat) : Int)), some (0, v), some (0, k6), some (0, (10 * v) + k6)] [] G10
                have hbwG10 : gS G10 1000 102 = (gS G6 1000 102) + 1 := (gsaE eG10)
                refine s_aload_n dX12_tellsVersion_101 rfl (Int.natCast_nonneg _) ?_
                refine gf_valueType rfl dX12_tellsVersion_102 hMG10 ?_
                refine s_iload_n dX12_tellsVersion_105 rfl ?_
                refine s_iald dX12_tellsVersion_106 (mg_a_valueType hMG10) (by omega) (by omega) (Eq.trans (gsnE eG10 (by decide)) (gsnE eG12 (by decide))) ?_
                refine s_iconst dX12_tellsVersion_107 (by decide) ?_
                refine s_icmp_eq (tgt := 151) dX12_tellsVersion_108 (by decide) (fun c13 => ?_) (fun c13 => ?_)
                · -- 108 to 151
                  refine s_iinc dX12_tellsVersion_151 (v := k6) rfl (by omega) (by decide) (lv' := [some (2, ((1000 : Nat) : Int)), some (0, v), some (0, k6 + 1), some (0, (10 * v) + k6)]) rfl ?_
                  refine s_goto (tgt := 55) dX12_tellsVersion_154 (by decide) ?_
                  refine s_mask [true, true, true, false] (lv' := [some (2, ((1000 : Nat) : Int)), some (0, v), some (0, k6 + 1), none]) rfl ?_
                  exact ih6 (k6 + 1) G10 hMG10 hFG10 (⟨(by omega), (by exact Fr.call ir6 (Fr.setF (Fr.setA (Fr.rf) eG12 (by decide)) eG10 (by decide) : Fr [a_build] [102] G6 G10) (by decide) (by decide)), (by rw [(gsaE eG10)]; omega)⟩) (by omega)
                · -- 108 to 111
                  have hv96 := huv6.2 (by omega)
                  refine s_aload_n dX12_tellsVersion_111 rfl (Int.natCast_nonneg _) ?_
                  refine s_aload_n dX12_tellsVersion_112 rfl (Int.natCast_nonneg _) ?_
                  refine gf_valueType rfl dX12_tellsVersion_113 hMG10 ?_
                  refine s_iload_n dX12_tellsVersion_116 rfl ?_
                  refine s_iald dX12_tellsVersion_117 (mg_a_valueType hMG10) (by omega) (by omega) (Eq.trans (gsnE eG10 (by decide)) (gsnE eG12 (by decide))) ?_
                  refine cv_X12_613 rfl gX12_tellsMade dX12_tellsVersion_118 hMG10 (by rw [hcf]; decide) (as := [(0, gS G6 a_valueType (((10 * v) + k6).toNat))]) rfl (Nat.le_of_ble_eq_true rfl) ⟨gS G6 a_valueType (((10 * v) + k6).toNat), rfl, hMG10, (by exact hTB.agr (hFG10.agr (by decide) (by decide) (by decide))), (by (have z9 := hFG10.atF (j := 0) (by decide) (by decide); omega)), (by omega), fun G14 hMG14 hpG14 => ?_⟩
                  obtain ⟨hfG14, hpG14⟩ := hpG14
                  have hFG14 : Fr nX12_tellsVersion jX12_tellsVersion G G14 := Fr.call hFG10 hfG14 (by decide) (by decide)
                  show WP kX12_tellsVersion X 121 [some (2, ((1000 : Nat) : Int)), some (0, v), some (0, k6), some (0, (10 * v) + k6)] [] G14
                  refine s_aload_n dX12_tellsVersion_121 rfl (Int.natCast_nonneg _) ?_
                  refine s_aload_n dX12_tellsVersion_122 rfl (Int.natCast_nonneg _) ?_
                  refine gf_valueFlags rfl dX12_tellsVersion_123 hMG14 ?_
                  refine s_iload_n dX12_tellsVersion_126 rfl ?_
                  refine s_iald dX12_tellsVersion_127 (mg_a_valueFlags hMG14) (by omega) (by omega) (Eq.trans (Fr.atA hfG14 (by decide) (by decide)) (Eq.trans (gsnE eG10 (by decide)) (gsnE eG12 (by decide)))) ?_
                  refine cv_X12_610 rfl gX12_tellsOf dX12_tellsVersion_128 hMG14 (by rw [hcf]; decide) (as := [(0, gS G6 a_valueFlags (((10 * v) + k6).toNat))]) rfl (Nat.le_of_ble_eq_true rfl) ⟨gS G6 a_valueFlags (((10 * v) + k6).toNat), rfl, hMG14, (by first | assumption | omega), fun G16 hMG16 hpG16 => ?_⟩
                  obtain ⟨G18, eG18, eG16, hpG16⟩ := hpG16
                  have hFG18 : Fr nX12_tellsVersion jX12_tellsVersion G G18 := Fr.setA hFG14 eG18 (by decide)
                  have hFG16 : Fr nX12_tellsVersion jX12_tellsVersion G G16 := Fr.setF hFG18 eG16 (by decide)
                  show WP kX12_tellsVersion X 131 [some (2, ((1000 : Nat) : Int)), some (0, v), some (0, k6), some (0, (10 * v) + k6)] [] G16
                  have hbwG16 : gS G16 1000 102 = (gS G14 1000 102) + 1 := (gsaE eG16)
                  refine s_aload_n dX12_tellsVersion_131 rfl (Int.natCast_nonneg _) ?_
                  refine gf_valueBy rfl dX12_tellsVersion_132 hMG16 ?_
                  refine s_iload_n dX12_tellsVersion_135 rfl ?_
                  refine s_iald dX12_tellsVersion_136 (mg_a_valueBy hMG16) (by omega) (by omega) (Eq.trans (gsnE eG16 (by decide)) (Eq.trans (gsnE eG18 (by decide)) (Eq.trans (Fr.atA hfG14 (by decide) (by decide)) (Eq.trans (gsnE eG10 (by decide)) (gsnE eG12 (by decide)))))) ?_
                  refine s_iconst dX12_tellsVersion_137 (by decide) ?_
                  refine s_icmp_eq (tgt := 151) dX12_tellsVersion_138 (by decide) (fun c19 => ?_) (fun c19 => ?_)
                  · -- 138 to 151
                    refine s_iinc dX12_tellsVersion_151 (v := k6) rfl (by omega) (by decide) (lv' := [some (2, ((1000 : Nat) : Int)), some (0, v), some (0, k6 + 1), some (0, (10 * v) + k6)]) rfl ?_
                    refine s_goto (tgt := 55) dX12_tellsVersion_154 (by decide) ?_
                    refine s_mask [true, true, true, false] (lv' := [some (2, ((1000 : Nat) : Int)), some (0, v), some (0, k6 + 1), none]) rfl ?_
                    exact ih6 (k6 + 1) G16 hMG16 hFG16 (⟨(by omega), (by exact Fr.call ir6 (Fr.setF (Fr.setA (Fr.call (Fr.setF (Fr.setA (Fr.rf) eG12 (by decide)) eG10 (by decide)) hfG14 (by decide) (by decide)) eG18 (by decide)) eG16 (by decide) : Fr [a_build, a_todo] [102] G6 G16) (by decide) (by decide)), (by rw [(gsaE eG16)]; omega)⟩) (by omega)
                  · -- 138 to 141
                    refine s_aload_n dX12_tellsVersion_141 rfl (Int.natCast_nonneg _) ?_
                    refine s_aload_n dX12_tellsVersion_142 rfl (Int.natCast_nonneg _) ?_
                    refine gf_valueBy rfl dX12_tellsVersion_143 hMG16 ?_
                    refine s_iload_n dX12_tellsVersion_146 rfl ?_
                    refine s_iald dX12_tellsVersion_147 (mg_a_valueBy hMG16) (by omega) (by omega) (Eq.trans (gsnE eG16 (by decide)) (Eq.trans (gsnE eG18 (by decide)) (Eq.trans (Fr.atA hfG14 (by decide) (by decide)) (Eq.trans (gsnE eG10 (by decide)) (gsnE eG12 (by decide)))))) ?_
                    refine cv_X12_616 rfl gX12_tellsExpression dX12_tellsVersion_148 hMG16 (by rw [hcf]; decide) (as := [(0, gS G6 a_valueBy (((10 * v) + k6).toNat))]) rfl (Nat.le_of_ble_eq_true rfl) ⟨gS G6 a_valueBy (((10 * v) + k6).toNat), rfl, hMG16, (by exact hEX.agr (hFG16.agr (by decide) (by decide) (by decide))), (by (have z9 := hFG16.atF (j := 6) (by decide) (by decide); omega)), (by omega), fun G20 hMG20 hpG20 => ?_⟩
                    obtain ⟨hfG20, hpG20⟩ := hpG20
                    have hFG20 : Fr nX12_tellsVersion jX12_tellsVersion G G20 := Fr.call hFG16 hfG20 (by decide) (by decide)
                    show WP kX12_tellsVersion X 151 [some (2, ((1000 : Nat) : Int)), some (0, v), some (0, k6), some (0, (10 * v) + k6)] [] G20
                    refine s_iinc dX12_tellsVersion_151 (v := k6) rfl (by omega) (by decide) (lv' := [some (2, ((1000 : Nat) : Int)), some (0, v), some (0, k6 + 1), some (0, (10 * v) + k6)]) rfl ?_
                    refine s_goto (tgt := 55) dX12_tellsVersion_154 (by decide) ?_
                    refine s_mask [true, true, true, false] (lv' := [some (2, ((1000 : Nat) : Int)), some (0, v), some (0, k6 + 1), none]) rfl ?_
                    exact ih6 (k6 + 1) G20 hMG20 hFG20 (⟨(by omega), (by exact Fr.call ir6 (Fr.call (Fr.setF (Fr.setA (Fr.call (Fr.setF (Fr.setA (Fr.rf) eG12 (by decide)) eG10 (by decide)) hfG14 (by decide) (by decide)) eG18 (by decide)) eG16 (by decide)) hfG20 (by decide) (by decide) : Fr [a_build, a_todo] [102] G6 G20) (by decide) (by decide)), (by omega)⟩) (by omega)
              refine s_icmp_ne (tgt := 83) dX12_tellsVersion_76 (by decide) (fun c22 => ?_) (fun c22 => ?_)
              · -- 76 to 83
                refine s_aload_n dX12_tellsVersion_83 rfl (Int.natCast_nonneg _) ?_
                refine gf_valueBy rfl dX12_tellsVersion_84 hMG6 ?_
                refine s_iload_n dX12_tellsVersion_87 rfl ?_
                refine s_iald dX12_tellsVersion_88 (mg_a_valueBy hMG6) (by omega) (by omega) rfl ?_
                refine s_iconst dX12_tellsVersion_89 (by decide) ?_
                refine s_icmp_ne (tgt := 97) dX12_tellsVersion_90 (by decide) (fun c23 => ?_) (fun c23 => ?_)
                · -- 90 to 97
                  refine s_iconst dX12_tellsVersion_97 (by decide) ?_
                  exact J9 2 (Or.inl ⟨c22, c23, rfl⟩)
                · -- 90 to 93
                  refine s_iconst dX12_tellsVersion_93 (by decide) ?_
                  refine s_goto (tgt := 98) dX12_tellsVersion_94 (by decide) ?_
                  exact J9 1 (Or.inr (Or.inl ⟨c22, c23, rfl⟩))
              · -- 76 to 79
                refine s_iconst dX12_tellsVersion_79 (by decide) ?_
                refine s_goto (tgt := 98) dX12_tellsVersion_80 (by decide) ?_
                exact J9 0 (Or.inr (Or.inr (⟨c22, rfl⟩)))
        exact L6 _ 0 G4 hMG4 hFG4 (⟨(by omega), (by exact ir4), (by omega)⟩) (Nat.lt_succ_self _)
      · -- 10 to 13
        refine s_aload_n dX12_tellsVersion_13 rfl (Int.natCast_nonneg _) ?_
        refine gf_typeOf rfl dX12_tellsVersion_14 hMG4 ?_
        refine s_bipush dX12_tellsVersion_17 rfl (by decide) ?_
        refine s_iload_n dX12_tellsVersion_19 rfl ?_
        refine s_imul dX12_tellsVersion_20 (by omega) ?_
        refine s_iload_n dX12_tellsVersion_21 rfl ?_
        refine s_iadd dX12_tellsVersion_22 (by omega) ?_
        refine s_iald dX12_tellsVersion_23 (mg_a_typeOf hMG4) (by omega) (by omega) rfl ?_
        refine s_istore_n dX12_tellsVersion_24 (by decide) (lv' := [some (2, ((1000 : Nat) : Int)), some (0, v), some (0, k4), some (0, gS G4 a_typeOf (((6 * v) + k4).toNat))]) rfl ?_
        have hut4 := hUV.2.2.2.1 v k4 (by omega) (by omega) (by omega) (by omega)
        have hue4 : (gS G4 a_typeOf (6 * v + k4).toNat) = (gS G a_typeOf (6 * v + k4).toNat) := hFG4.atA (by decide) (by decide)
        refine s_aload_n dX12_tellsVersion_25 rfl (Int.natCast_nonneg _) ?_
        refine s_iload_n dX12_tellsVersion_26 rfl ?_
        have J25 : ∀ z24 : Int, ((0 ≤ (gS G4 a_typeOf (((6 * v) + k4).toNat))) ∧ z24 = 0) ∨ ((¬ 0 ≤ (gS G4 a_typeOf (((6 * v) + k4).toNat))) ∧ z24 = gS G4 a_typeOf (((6 * v) + k4).toNat)) → WP kX12_tellsVersion X 35 [some (2, ((1000 : Nat) : Int)), some (0, v), some (0, k4), some (0, gS G4 a_typeOf (((6 * v) + k4).toNat))] [(0, z24), (2, ((1000 : Nat) : Int))] G4 := by
          intro z24 hz24
          refine cv_X12_610 rfl gX12_tellsOf dX12_tellsVersion_35 hMG4 (by rw [hcf]; decide) (as := [(0, z24)]) rfl (Nat.le_of_ble_eq_true rfl) ⟨z24, rfl, hMG4, (by first | assumption | omega), fun G26 hMG26 hpG26 => ?_⟩
          obtain ⟨G28, eG28, eG26, hpG26⟩ := hpG26
          have hFG28 : Fr nX12_tellsVersion jX12_tellsVersion G G28 := Fr.setA hFG4 eG28 (by decide)
          have hFG26 : Fr nX12_tellsVersion jX12_tellsVersion G G26 := Fr.setF hFG28 eG26 (by decide)
          show WP kX12_tellsVersion X 38 [some (2, ((1000 : Nat) : Int)), some (0, v), some (0, k4), some (0, gS G4 a_typeOf (((6 * v) + k4).toNat))] [] G26
          have hbwG26 : gS G26 1000 102 = (gS G4 1000 102) + 1 := (gsaE eG26)
          refine s_iload_n dX12_tellsVersion_38 rfl ?_
          refine s_if_lt (tgt := 47) dX12_tellsVersion_39 (by decide) (fun c29 => ?_) (fun c29 => ?_)
          · -- 39 to 47
            refine s_iinc dX12_tellsVersion_47 (v := k4) rfl (by omega) (by decide) (lv' := [some (2, ((1000 : Nat) : Int)), some (0, v), some (0, k4 + 1), some (0, gS G4 a_typeOf (((6 * v) + k4).toNat))]) rfl ?_
            refine s_goto (tgt := 7) dX12_tellsVersion_50 (by decide) ?_
            refine s_mask [true, true, true, false] (lv' := [some (2, ((1000 : Nat) : Int)), some (0, v), some (0, k4 + 1), none]) rfl ?_
            exact ih4 (k4 + 1) G26 hMG26 hFG26 (⟨(by omega), (by exact Fr.call ir4 (Fr.setF (Fr.setA (Fr.rf) eG28 (by decide)) eG26 (by decide) : Fr [a_build] [102] G4 G26) (by decide) (by decide)), (by rw [(gsaE eG26)]; omega)⟩) (by omega)
          · -- 39 to 42
            refine s_aload_n dX12_tellsVersion_42 rfl (Int.natCast_nonneg _) ?_
            refine s_iload_n dX12_tellsVersion_43 rfl ?_
            refine cv_X12_613 rfl gX12_tellsMade dX12_tellsVersion_44 hMG26 (by rw [hcf]; decide) (as := [(0, gS G4 a_typeOf (((6 * v) + k4).toNat))]) rfl (Nat.le_of_ble_eq_true rfl) ⟨gS G4 a_typeOf (((6 * v) + k4).toNat), rfl, hMG26, (by exact hTB.agr (hFG26.agr (by decide) (by decide) (by decide))), (by (have z9 := hFG26.atF (j := 0) (by decide) (by decide); omega)), (by omega), fun G30 hMG30 hpG30 => ?_⟩
            obtain ⟨hfG30, hpG30⟩ := hpG30
            have hFG30 : Fr nX12_tellsVersion jX12_tellsVersion G G30 := Fr.call hFG26 hfG30 (by decide) (by decide)
            show WP kX12_tellsVersion X 47 [some (2, ((1000 : Nat) : Int)), some (0, v), some (0, k4), some (0, gS G4 a_typeOf (((6 * v) + k4).toNat))] [] G30
            refine s_iinc dX12_tellsVersion_47 (v := k4) rfl (by omega) (by decide) (lv' := [some (2, ((1000 : Nat) : Int)), some (0, v), some (0, k4 + 1), some (0, gS G4 a_typeOf (((6 * v) + k4).toNat))]) rfl ?_
            refine s_goto (tgt := 7) dX12_tellsVersion_50 (by decide) ?_
            refine s_mask [true, true, true, false] (lv' := [some (2, ((1000 : Nat) : Int)), some (0, v), some (0, k4 + 1), none]) rfl ?_
            exact ih4 (k4 + 1) G30 hMG30 hFG30 (⟨(by omega), (by exact Fr.call ir4 (Fr.call (Fr.setF (Fr.setA (Fr.rf) eG28 (by decide)) eG26 (by decide)) hfG30 (by decide) (by decide) : Fr [a_build, a_todo] [102] G4 G30) (by decide) (by decide)), (by omega)⟩) (by omega)
        refine s_if_ge (tgt := 34) dX12_tellsVersion_27 (by decide) (fun c32 => ?_) (fun c32 => ?_)
        · -- 27 to 34
          refine s_iconst dX12_tellsVersion_34 (by decide) ?_
          exact J25 0 (Or.inl ⟨c32, rfl⟩)
        · -- 27 to 30
          refine s_iload_n dX12_tellsVersion_30 rfl ?_
          refine s_goto (tgt := 35) dX12_tellsVersion_31 (by decide) ?_
          exact J25 _ (Or.inr (⟨c32, rfl⟩))
  exact L4 _ 0 G1 hMG1 hFG1 (⟨(by omega), (by exact Fr.call Fr.rf (Fr.setF (Fr.setA (Fr.rf) eG3 (by decide)) eG1 (by decide) : Fr [a_build] [102] G G1) (by decide) (by decide)), (by rw [(gsaE eG1)]; omega)⟩) (Nat.lt_succ_self _)

abbrev nX12_tellsFace : List Nat := [a_build, a_stackOf]
abbrev jX12_tellsFace : List Nat := [102, 36]
def TX12_tellsFace : TR := fun as G Qr => ∃ (n s : Int), as = [(2, ((1000 : Nat) : Int)), (0, n), (0, s)] ∧ MG G ∧ (FU G) ∧ ((gS G 1000 42) ≤ 60000) ∧ (0 ≤ n ∧ n < 40) ∧ (RS1 G n) ∧ (0 ≤ (gS G 1000 102) ∧ (gS G 1000 102) + 3237 ≤ 11000) ∧ ∀ G' : LG, MG G' → (Fr nX12_tellsFace jX12_tellsFace G G' ∧ ((gS G 1000 102) ≤ (gS G' 1000 102) ∧ (gS G' 1000 102) ≤ (gS G 1000 102) + 3237)) → Qr (.inl none) G'
set_option maxHeartbeats 4000000 in
set_option maxRecDepth 100000 in
theorem gX12_tellsFace : Good kX12_tellsFace yX12_tellsFace 2 TX12_tellsFace := by
  refine good_of (by decide) rfl rfl (fun as G Qr h => ?_) (fun X as G Qr hcf hR hT oa => ?_)
  · obtain ⟨n, s, rfl, -⟩ := h; exact Nat.le_of_ble_eq_true rfl
  obtain ⟨n, s, rfl, hM, hFU, hth, hn, her, hb, hQ⟩ := hT
  show WP kX12_tellsFace X 0 [some (2, ((1000 : Nat) : Int)), some (0, n), some (0, s), none, none] [] G
  have hr_n : inR n := okv_R (oa _ (by simp))
  have hr_s : inR s := okv_R (oa _ (by simp))
  have hff0 := hFU.f
  refine s_aload_n dX12_tellsFace_0 rfl (Int.natCast_nonneg _) ?_
  refine s_aload_n dX12_tellsFace_1 rfl (Int.natCast_nonneg _) ?_
  refine gf_error rfl dX12_tellsFace_2 hM ?_
  refine s_iload_n dX12_tellsFace_5 rfl ?_
  refine s_iald dX12_tellsFace_6 (mg_a_error hM) (by omega) (by omega) rfl ?_
  refine cv_X12_610 rfl gX12_tellsOf dX12_tellsFace_7 hM (by rw [hcf]; decide) (as := [(0, gS G a_error ((n).toNat))]) rfl (Nat.le_of_ble_eq_true rfl) ⟨gS G a_error ((n).toNat), rfl, hM, (by first | assumption | omega), fun G1 hMG1 hpG1 => ?_⟩
  obtain ⟨G3, eG3, eG1, hpG1⟩ := hpG1
  have hFG3 : Fr nX12_tellsFace jX12_tellsFace G G3 := Fr.setA Fr.rf eG3 (by decide)
  have hFG1 : Fr nX12_tellsFace jX12_tellsFace G G1 := Fr.setF hFG3 eG1 (by decide)
  show WP kX12_tellsFace X 10 [some (2, ((1000 : Nat) : Int)), some (0, n), some (0, s), none, none] [] G1
  refine s_aload_n dX12_tellsFace_10 rfl (Int.natCast_nonneg _) ?_
  refine gf_error rfl dX12_tellsFace_11 hMG1 ?_
  refine s_iload_n dX12_tellsFace_14 rfl ?_
  refine s_iald dX12_tellsFace_15 (mg_a_error hMG1) (by omega) (by omega) (Eq.trans (gsnE eG1 (by decide)) (gsnE eG3 (by decide))) ?_
  refine s_if_eq (tgt := 20) dX12_tellsFace_16 (by decide) (fun c4 => ?_) (fun c4 => ?_)
  · -- 16 to 20
    have hbwG1 : gS G1 1000 102 = (gS G 1000 102) + 1 := (gsaE eG1)
    have hrr := her (by omega)
    have hrt := hrr.1
    have hrv := hrr.2
    refine s_iconst dX12_tellsFace_20 (by decide) ?_
    refine s_istore_n dX12_tellsFace_21 (by decide) (lv' := [some (2, ((1000 : Nat) : Int)), some (0, n), some (0, s), some (0, 0), none]) rfl ?_
    have L5 : ∀ (n5 : Nat) (k5 : Int) (G5 : LG), MG G5 → Fr nX12_tellsFace jX12_tellsFace G G5 → ((0 ≤ k5 ∧ k5 ≤ 6) ∧ (Fr [a_build, a_stackOf] [102, 36] G G5) ∧ ((gS G 1000 102) ≤ (gS G5 1000 102) ∧ (gS G5 1000 102) ≤ (gS G 1000 102) + 1 + 201 * k5)) → (6 - k5).toNat < n5 → WP kX12_tellsFace X 22 [some (2, ((1000 : Nat) : Int)), some (0, n), some (0, s), some (0, k5), none] [] G5 := by
      intro n5
      induction n5 with
      | zero => intro k5 G5 hMG5 hFG5 hi5 hm5; exact absurd hm5 (Nat.not_lt_zero _)
      | succ n5 ih5 =>
        intro k5 G5 hMG5 hFG5 hi5 hm5
        have hj5 := hi5
        obtain ⟨ik5, ir5, ib5⟩ := hi5
        refine s_iload_n dX12_tellsFace_22 rfl ?_
        refine s_bipush dX12_tellsFace_23 rfl (by decide) ?_
        refine s_icmp_ge (tgt := 68) dX12_tellsFace_25 (by decide) (fun c6 => ?_) (fun c6 => ?_)
        · -- 25 to 68
          refine s_iconst dX12_tellsFace_68 (by decide) ?_
          refine s_istore_n dX12_tellsFace_69 (by decide) (lv' := [some (2, ((1000 : Nat) : Int)), some (0, n), some (0, s), some (0, 0), none]) rfl ?_
          have L7 : ∀ (n7 : Nat) (k7 : Int) (G7 : LG), MG G7 → Fr nX12_tellsFace jX12_tellsFace G G7 → ((0 ≤ k7 ∧ k7 ≤ 10) ∧ (Fr [a_build, a_stackOf] [102, 36] G G7) ∧ ((gS G 1000 102) ≤ (gS G7 1000 102) ∧ (gS G7 1000 102) ≤ (gS G 1000 102) + 1207 + 203 * k7)) → (10 - k7).toNat < n7 → WP kX12_tellsFace X 70 [some (2, ((1000 : Nat) : Int)), some (0, n), some (0, s), some (0, k7), none] [] G7 := by
            intro n7
            induction n7 with
            | zero => intro k7 G7 hMG7 hFG7 hi7 hm7; exact absurd hm7 (Nat.not_lt_zero _)
            | succ n7 ih7 =>
              intro k7 G7 hMG7 hFG7 hi7 hm7
              have hj7 := hi7
              obtain ⟨ik7, ir7, ib7⟩ := hi7
              refine s_iload_n dX12_tellsFace_70 rfl ?_
              refine s_bipush dX12_tellsFace_71 rfl (by decide) ?_
              refine s_icmp_ge (tgt := 166) dX12_tellsFace_73 (by decide) (fun c8 => ?_) (fun c8 => ?_)
              · -- 73 to 166
                exact s_vret hR dX12_tellsFace_166 rfl (hQ G7 hMG7 (⟨hFG7, ⟨ib7.1, by omega⟩⟩))
              · -- 73 to 76
                refine s_aload_n dX12_tellsFace_76 rfl (Int.natCast_nonneg _) ?_
                refine s_iload_n dX12_tellsFace_77 rfl ?_
                refine s_iload_n dX12_tellsFace_78 rfl ?_
                refine cv_X12_388 rfl gX12_isOf dX12_tellsFace_79 hMG7 (by rw [hcf]; decide) (as := [(0, n), (0, k7)]) rfl (Nat.le_of_ble_eq_true rfl) ⟨n, k7, rfl, hMG7, (by first | assumption | omega), (by first | assumption | omega), ?_⟩
                show WP kX12_tellsFace X 82 [some (2, ((1000 : Nat) : Int)), some (0, n), some (0, s), some (0, k7), none] [(0, (gS G7 a_sValue (10 * n + k7).toNat))] G7
                refine s_iconst dX12_tellsFace_82 (by decide) ?_
                have J10 : ∀ z9 : Int, ((((gS G7 a_sValue (10 * n + k7).toNat)) = ((-1))) ∧ z9 = 0) ∨ ((¬ ((gS G7 a_sValue (10 * n + k7).toNat)) = ((-1))) ∧ (¬ (bitI s k7)) ∧ z9 = 0) ∨ ((¬ ((gS G7 a_sValue (10 * n + k7).toNat)) = ((-1))) ∧ (bitI s k7) ∧ z9 = 1) → WP kX12_tellsFace X 99 [some (2, ((1000 : Nat) : Int)), some (0, n), some (0, s), some (0, k7), none] [(0, z9)] G7 := by
                  intro z9 hz9
                  refine s_istore dX12_tellsFace_99 (by decide) (lv' := [some (2, ((1000 : Nat) : Int)), some (0, n), some (0, s), some (0, k7), some (0, z9)]) rfl ?_
                  refine s_aload_n dX12_tellsFace_101 rfl (Int.natCast_nonneg _) ?_
                  refine s_iload dX12_tellsFace_102 rfl ?_
                  have J12 : ∀ z11 : Int, ((z9 = 0) ∧ z11 = 0) ∨ ((¬ z9 = 0) ∧ z11 = 1) → WP kX12_tellsFace X 112 [some (2, ((1000 : Nat) : Int)), some (0, n), some (0, s), some (0, k7), some (0, z9)] [(0, z11), (2, ((1000 : Nat) : Int))] G7 := by
                    intro z11 hz11
                    refine cv_X12_610 rfl gX12_tellsOf dX12_tellsFace_112 hMG7 (by rw [hcf]; decide) (as := [(0, z11)]) rfl (Nat.le_of_ble_eq_true rfl) ⟨z11, rfl, hMG7, (by first | assumption | omega), fun G13 hMG13 hpG13 => ?_⟩
                    obtain ⟨G15, eG15, eG13, hpG13⟩ := hpG13
                    have hFG15 : Fr nX12_tellsFace jX12_tellsFace G G15 := Fr.setA hFG7 eG15 (by decide)
                    have hFG13 : Fr nX12_tellsFace jX12_tellsFace G G13 := Fr.setF hFG15 eG13 (by decide)
                    show WP kX12_tellsFace X 115 [some (2, ((1000 : Nat) : Int)), some (0, n), some (0, s), some (0, k7), some (0, z9)] [] G13
                    have hbwG13 : gS G13 1000 102 = (gS G7 1000 102) + 1 := (gsaE eG13)
                    refine s_iload dX12_tellsFace_115 rfl ?_
                    refine s_if_eq (tgt := 160) dX12_tellsFace_117 (by decide) (fun c16 => ?_) (fun c16 => ?_)
                    · -- 117 to 160
                      have hbwG13 : gS G13 1000 102 = (gS G7 1000 102) + 1 := (gsaE eG13)
                      refine s_iinc dX12_tellsFace_160 (v := k7) rfl (by omega) (by decide) (lv' := [some (2, ((1000 : Nat) : Int)), some (0, n), some (0, s), some (0, k7 + 1), some (0, z9)]) rfl ?_
                      refine s_goto (tgt := 70) dX12_tellsFace_163 (by decide) ?_
                      refine s_mask [true, true, true, true, false] (lv' := [some (2, ((1000 : Nat) : Int)), some (0, n), some (0, s), some (0, k7 + 1), none]) rfl ?_
                      exact ih7 (k7 + 1) G13 hMG13 hFG13 (⟨(by omega), (by exact Fr.call ir7 (Fr.setF (Fr.setA (Fr.rf) eG15 (by decide)) eG13 (by decide) : Fr [a_build] [102] G7 G13) (by decide) (by decide)), (by rw [(gsaE eG13)]; omega)⟩) (by omega)
                    · -- 117 to 120
                      have hbwG13 : gS G13 1000 102 = (gS G7 1000 102) + 1 := (gsaE eG13)
                      have hst7 := (hrv k7 (by omega) (by omega)).1
                      have hsq7 := (hrv k7 (by omega) (by omega)).2
                      have hse7 : (gS G13 a_sValue (10 * n + k7).toNat) = (gS G a_sValue (10 * n + k7).toNat) := hFG13.atA (by decide) (by decide)
                      have hsi7 : (gS G7 a_sValue (10 * n + k7).toNat) = (gS G a_sValue (10 * n + k7).toNat) := hFG7.atA (by decide) (by decide)
                      have hsz7 : (gS G13 a_fSize ((gS G13 a_sValue (10 * n + k7).toNat)).toNat) ≤ 200 := by rw [hse7, hFG13.atA (n := a_fSize) (by decide) (by decide)]; exact hsq7 (by omega)
                      refine s_aload_n dX12_tellsFace_120 rfl (Int.natCast_nonneg _) ?_
                      refine s_aload_n dX12_tellsFace_121 rfl (Int.natCast_nonneg _) ?_
                      refine s_iload_n dX12_tellsFace_122 rfl ?_
                      refine s_iload_n dX12_tellsFace_123 rfl ?_
                      refine cv_X12_388 rfl gX12_isOf dX12_tellsFace_124 hMG13 (by rw [hcf]; decide) (as := [(0, n), (0, k7)]) rfl (Nat.le_of_ble_eq_true rfl) ⟨n, k7, rfl, hMG13, (by first | assumption | omega), (by first | assumption | omega), ?_⟩
                      show WP kX12_tellsFace X 127 [some (2, ((1000 : Nat) : Int)), some (0, n), some (0, s), some (0, k7), some (0, z9)] [(0, (gS G13 a_sValue (10 * n + k7).toNat)), (2, ((1000 : Nat) : Int))] G13
                      refine cv_X12_619 rfl gX12_tellsFull dX12_tellsFace_127 hMG13 (by rw [hcf]; decide) (as := [(0, (gS G13 a_sValue (10 * n + k7).toNat))]) rfl (Nat.le_of_ble_eq_true rfl) ⟨(gS G13 a_sValue (10 * n + k7).toNat), rfl, hMG13, (by exact hFU.agr (hFG13.agr (by decide) (by decide) (by decide)) (by rw [hFG13.atF (j := 42) (by decide) (by decide)]; exact Int.le_refl _)), (by (have z9 := hFG13.atF (j := 26) (by decide) (by decide); omega)), (by exact hsz7), (by (have z9 := hFG13.atF (j := 42) (by decide) (by decide); omega)), (by omega), fun G17 hMG17 hpG17 => ?_⟩
                      obtain ⟨hfG17, hpG17⟩ := hpG17
                      have hFG17 : Fr nX12_tellsFace jX12_tellsFace G G17 := Fr.call hFG13 hfG17 (by decide) (by decide)
                      show WP kX12_tellsFace X 130 [some (2, ((1000 : Nat) : Int)), some (0, n), some (0, s), some (0, k7), some (0, z9)] [] G17
                      refine s_aload_n dX12_tellsFace_130 rfl (Int.natCast_nonneg _) ?_
                      refine s_aload_n dX12_tellsFace_131 rfl (Int.natCast_nonneg _) ?_
                      refine gf_sFlags rfl dX12_tellsFace_132 hMG17 ?_
                      refine s_bipush dX12_tellsFace_135 rfl (by decide) ?_
                      refine s_iload_n dX12_tellsFace_137 rfl ?_
                      refine s_imul dX12_tellsFace_138 (by omega) ?_
                      refine s_iload_n dX12_tellsFace_139 rfl ?_
                      refine s_iadd dX12_tellsFace_140 (by omega) ?_
                      refine s_iald dX12_tellsFace_141 (mg_a_sFlags hMG17) (by omega) (by omega) (Eq.trans (Fr.atA hfG17 (by decide) (by decide)) (Eq.trans (gsnE eG13 (by decide)) (gsnE eG15 (by decide)))) ?_
                      refine cv_X12_610 rfl gX12_tellsOf dX12_tellsFace_142 hMG17 (by rw [hcf]; decide) (as := [(0, gS G7 a_sFlags (((10 * n) + k7).toNat))]) rfl (Nat.le_of_ble_eq_true rfl) ⟨gS G7 a_sFlags (((10 * n) + k7).toNat), rfl, hMG17, (by first | assumption | omega), fun G19 hMG19 hpG19 => ?_⟩
                      obtain ⟨G21, eG21, eG19, hpG19⟩ := hpG19
                      have hFG21 : Fr nX12_tellsFace jX12_tellsFace G G21 := Fr.setA hFG17 eG21 (by decide)
                      have hFG19 : Fr nX12_tellsFace jX12_tellsFace G G19 := Fr.setF hFG21 eG19 (by decide)
                      show WP kX12_tellsFace X 145 [some (2, ((1000 : Nat) : Int)), some (0, n), some (0, s), some (0, k7), some (0, z9)] [] G19
                      have hbwG19 : gS G19 1000 102 = (gS G17 1000 102) + 1 := (gsaE eG19)
                      refine s_aload_n dX12_tellsFace_145 rfl (Int.natCast_nonneg _) ?_
                      refine s_aload_n dX12_tellsFace_146 rfl (Int.natCast_nonneg _) ?_
                      refine gf_sNumber rfl dX12_tellsFace_147 hMG19 ?_
                      refine s_bipush dX12_tellsFace_150 rfl (by decide) ?_
                      refine s_iload_n dX12_tellsFace_152 rfl ?_
                      refine s_imul dX12_tellsFace_153 (by omega) ?_
                      refine s_iload_n dX12_tellsFace_154 rfl ?_
                      refine s_iadd dX12_tellsFace_155 (by omega) ?_
                      refine s_iald dX12_tellsFace_156 (mg_a_sNumber hMG19) (by omega) (by omega) (Eq.trans (gsnE eG19 (by decide)) (Eq.trans (gsnE eG21 (by decide)) (Eq.trans (Fr.atA hfG17 (by decide) (by decide)) (Eq.trans (gsnE eG13 (by decide)) (gsnE eG15 (by decide)))))) ?_
                      refine cv_X12_610 rfl gX12_tellsOf dX12_tellsFace_157 hMG19 (by rw [hcf]; decide) (as := [(0, gS G7 a_sNumber (((10 * n) + k7).toNat))]) rfl (Nat.le_of_ble_eq_true rfl) ⟨gS G7 a_sNumber (((10 * n) + k7).toNat), rfl, hMG19, (by first | assumption | omega), fun G22 hMG22 hpG22 => ?_⟩
                      obtain ⟨G24, eG24, eG22, hpG22⟩ := hpG22
                      have hFG24 : Fr nX12_tellsFace jX12_tellsFace G G24 := Fr.setA hFG19 eG24 (by decide)
                      have hFG22 : Fr nX12_tellsFace jX12_tellsFace G G22 := Fr.setF hFG24 eG22 (by decide)
                      show WP kX12_tellsFace X 160 [some (2, ((1000 : Nat) : Int)), some (0, n), some (0, s), some (0, k7), some (0, z9)] [] G22
                      have hbwG22 : gS G22 1000 102 = (gS G19 1000 102) + 1 := (gsaE eG22)
                      refine s_iinc dX12_tellsFace_160 (v := k7) rfl (by omega) (by decide) (lv' := [some (2, ((1000 : Nat) : Int)), some (0, n), some (0, s), some (0, k7 + 1), some (0, z9)]) rfl ?_
                      refine s_goto (tgt := 70) dX12_tellsFace_163 (by decide) ?_
                      refine s_mask [true, true, true, true, false] (lv' := [some (2, ((1000 : Nat) : Int)), some (0, n), some (0, s), some (0, k7 + 1), none]) rfl ?_
                      exact ih7 (k7 + 1) G22 hMG22 hFG22 (⟨(by omega), (by exact Fr.call ir7 (Fr.setF (Fr.setA (Fr.setF (Fr.setA (Fr.call (Fr.setF (Fr.setA (Fr.rf) eG15 (by decide)) eG13 (by decide)) hfG17 (by decide) (by decide)) eG21 (by decide)) eG19 (by decide)) eG24 (by decide)) eG22 (by decide) : Fr [a_build, a_stackOf] [102, 36] G7 G22) (by decide) (by decide)), (by rw [(gsaE eG22)]; omega)⟩) (by omega)
                  refine s_if_eq (tgt := 111) dX12_tellsFace_104 (by decide) (fun c25 => ?_) (fun c25 => ?_)
                  · -- 104 to 111
                    refine s_iconst dX12_tellsFace_111 (by decide) ?_
                    exact J12 0 (Or.inl ⟨c25, rfl⟩)
                  · -- 104 to 107
                    refine s_iconst dX12_tellsFace_107 (by decide) ?_
                    refine s_goto (tgt := 112) dX12_tellsFace_108 (by decide) ?_
                    exact J12 1 (Or.inr (⟨c25, rfl⟩))
                refine s_icmp_eq (tgt := 98) dX12_tellsFace_83 (by decide) (fun c26 => ?_) (fun c26 => ?_)
                · -- 83 to 98
                  refine s_iconst dX12_tellsFace_98 (by decide) ?_
                  exact J10 0 (Or.inl ⟨c26, rfl⟩)
                · -- 83 to 86
                  refine s_iload_n dX12_tellsFace_86 rfl ?_
                  refine s_iload_n dX12_tellsFace_87 rfl ?_
                  refine cs_X12_367 rfl gX12_has dX12_tellsFace_88 (by rw [hcf]; decide) (as := [(0, s), (0, k7)]) rfl (Nat.le_of_ble_eq_true rfl) ⟨s, k7, rfl, ?_⟩
                  show WP kX12_tellsFace X 91 [some (2, ((1000 : Nat) : Int)), some (0, n), some (0, s), some (0, k7), none] [(0, b2i (bitI s k7))] G7
                  refine s_if_eqB (tgt := 98) dX12_tellsFace_91 (by decide) (fun c27 => ?_) (fun c27 => ?_)
                  · -- 91 to 98
                    refine s_iconst dX12_tellsFace_98 (by decide) ?_
                    exact J10 0 (Or.inr (Or.inl ⟨c26, c27, rfl⟩))
                  · -- 91 to 94
                    refine s_iconst dX12_tellsFace_94 (by decide) ?_
                    refine s_goto (tgt := 99) dX12_tellsFace_95 (by decide) ?_
                    exact J10 1 (Or.inr (Or.inr (⟨c26, c27, rfl⟩)))
          exact L7 _ 0 G5 hMG5 hFG5 (⟨(by omega), (by exact ir5), (by omega)⟩) (Nat.lt_succ_self _)
        · -- 25 to 28
          refine s_aload_n dX12_tellsFace_28 rfl (Int.natCast_nonneg _) ?_
          refine s_iload_n dX12_tellsFace_29 rfl ?_
          refine s_iload_n dX12_tellsFace_30 rfl ?_
          refine cv_X12_413 rfl gX12_isType_ dX12_tellsFace_31 hMG5 (by rw [hcf]; decide) (as := [(0, n), (0, k5)]) rfl (Nat.le_of_ble_eq_true rfl) ⟨n, k5, rfl, hMG5, (by first | assumption | omega), (by first | assumption | omega), ?_⟩
          show WP kX12_tellsFace X 34 [some (2, ((1000 : Nat) : Int)), some (0, n), some (0, s), some (0, k5), none] [(0, (gS G5 a_sType (6 * n + k5).toNat))] G5
          refine s_istore dX12_tellsFace_34 (by decide) (lv' := [some (2, ((1000 : Nat) : Int)), some (0, n), some (0, s), some (0, k5), some (0, (gS G5 a_sType (6 * n + k5).toNat))]) rfl ?_
          have hst5 := (hrt k5 (by omega) (by omega)).1
          have hsq5 := (hrt k5 (by omega) (by omega)).2
          have hse5 : (gS G5 a_sType (6 * n + k5).toNat) = (gS G a_sType (6 * n + k5).toNat) := hFG5.atA (by decide) (by decide)
          refine s_aload_n dX12_tellsFace_36 rfl (Int.natCast_nonneg _) ?_
          refine s_iload dX12_tellsFace_37 rfl ?_
          have J29 : ∀ z28 : Int, ((0 ≤ ((gS G5 a_sType (6 * n + k5).toNat))) ∧ z28 = 0) ∨ ((¬ 0 ≤ ((gS G5 a_sType (6 * n + k5).toNat))) ∧ z28 = (gS G5 a_sType (6 * n + k5).toNat)) → WP kX12_tellsFace X 48 [some (2, ((1000 : Nat) : Int)), some (0, n), some (0, s), some (0, k5), some (0, (gS G5 a_sType (6 * n + k5).toNat))] [(0, z28), (2, ((1000 : Nat) : Int))] G5 := by
            intro z28 hz28
            refine cv_X12_610 rfl gX12_tellsOf dX12_tellsFace_48 hMG5 (by rw [hcf]; decide) (as := [(0, z28)]) rfl (Nat.le_of_ble_eq_true rfl) ⟨z28, rfl, hMG5, (by first | assumption | omega), fun G30 hMG30 hpG30 => ?_⟩
            obtain ⟨G32, eG32, eG30, hpG30⟩ := hpG30
            have hFG32 : Fr nX12_tellsFace jX12_tellsFace G G32 := Fr.setA hFG5 eG32 (by decide)
            have hFG30 : Fr nX12_tellsFace jX12_tellsFace G G30 := Fr.setF hFG32 eG30 (by decide)
            show WP kX12_tellsFace X 51 [some (2, ((1000 : Nat) : Int)), some (0, n), some (0, s), some (0, k5), some (0, (gS G5 a_sType (6 * n + k5).toNat))] [] G30
            have hbwG30 : gS G30 1000 102 = (gS G5 1000 102) + 1 := (gsaE eG30)
            refine s_iload dX12_tellsFace_51 rfl ?_
            refine s_if_lt (tgt := 62) dX12_tellsFace_53 (by decide) (fun c33 => ?_) (fun c33 => ?_)
            · -- 53 to 62
              refine s_iinc dX12_tellsFace_62 (v := k5) rfl (by omega) (by decide) (lv' := [some (2, ((1000 : Nat) : Int)), some (0, n), some (0, s), some (0, k5 + 1), some (0, (gS G5 a_sType (6 * n + k5).toNat))]) rfl ?_
              refine s_goto (tgt := 22) dX12_tellsFace_65 (by decide) ?_
              refine s_mask [true, true, true, true, false] (lv' := [some (2, ((1000 : Nat) : Int)), some (0, n), some (0, s), some (0, k5 + 1), none]) rfl ?_
              exact ih5 (k5 + 1) G30 hMG30 hFG30 (⟨(by omega), (by exact Fr.call ir5 (Fr.setF (Fr.setA (Fr.rf) eG32 (by decide)) eG30 (by decide) : Fr [a_build] [102] G5 G30) (by decide) (by decide)), (by rw [(gsaE eG30)]; omega)⟩) (by omega)
            · -- 53 to 56
              have hbwG30 : gS G30 1000 102 = (gS G5 1000 102) + 1 := (gsaE eG30)
              have hsz5 : (gS G30 a_fSize ((gS G5 a_sType (6 * n + k5).toNat)).toNat) ≤ 200 := by rw [hse5, hFG30.atA (n := a_fSize) (by decide) (by decide)]; exact hsq5 (by omega)
              refine s_aload_n dX12_tellsFace_56 rfl (Int.natCast_nonneg _) ?_
              refine s_iload dX12_tellsFace_57 rfl ?_
              refine cv_X12_619 rfl gX12_tellsFull dX12_tellsFace_59 hMG30 (by rw [hcf]; decide) (as := [(0, (gS G5 a_sType (6 * n + k5).toNat))]) rfl (Nat.le_of_ble_eq_true rfl) ⟨(gS G5 a_sType (6 * n + k5).toNat), rfl, hMG30, (by exact hFU.agr (hFG30.agr (by decide) (by decide) (by decide)) (by rw [hFG30.atF (j := 42) (by decide) (by decide)]; exact Int.le_refl _)), (by (have z9 := hFG30.atF (j := 26) (by decide) (by decide); omega)), (by exact hsz5), (by (have z9 := hFG30.atF (j := 42) (by decide) (by decide); omega)), (by omega), fun G34 hMG34 hpG34 => ?_⟩
              obtain ⟨hfG34, hpG34⟩ := hpG34
              have hFG34 : Fr nX12_tellsFace jX12_tellsFace G G34 := Fr.call hFG30 hfG34 (by decide) (by decide)
              show WP kX12_tellsFace X 62 [some (2, ((1000 : Nat) : Int)), some (0, n), some (0, s), some (0, k5), some (0, (gS G5 a_sType (6 * n + k5).toNat))] [] G34
              refine s_iinc dX12_tellsFace_62 (v := k5) rfl (by omega) (by decide) (lv' := [some (2, ((1000 : Nat) : Int)), some (0, n), some (0, s), some (0, k5 + 1), some (0, (gS G5 a_sType (6 * n + k5).toNat))]) rfl ?_
              refine s_goto (tgt := 22) dX12_tellsFace_65 (by decide) ?_
              refine s_mask [true, true, true, true, false] (lv' := [some (2, ((1000 : Nat) : Int)), some (0, n), some (0, s), some (0, k5 + 1), none]) rfl ?_
              exact ih5 (k5 + 1) G34 hMG34 hFG34 (⟨(by omega), (by exact Fr.call ir5 (Fr.call (Fr.setF (Fr.setA (Fr.rf) eG32 (by decide)) eG30 (by decide)) hfG34 (by decide) (by decide) : Fr [a_build, a_stackOf] [102, 36] G5 G34) (by decide) (by decide)), (by omega)⟩) (by omega)
          refine s_if_ge (tgt := 47) dX12_tellsFace_39 (by decide) (fun c36 => ?_) (fun c36 => ?_)
          · -- 39 to 47
            refine s_iconst dX12_tellsFace_47 (by decide) ?_
            exact J29 0 (Or.inl ⟨c36, rfl⟩)
          · -- 39 to 42
            refine s_iload dX12_tellsFace_42 rfl ?_
            refine s_goto (tgt := 48) dX12_tellsFace_44 (by decide) ?_
            exact J29 _ (Or.inr (⟨c36, rfl⟩))
    exact L5 _ 0 G1 hMG1 hFG1 (⟨(by omega), (by exact Fr.call Fr.rf (Fr.setF (Fr.setA (Fr.rf) eG3 (by decide)) eG1 (by decide) : Fr [a_build] [102] G G1) (by decide) (by decide)), (by rw [(gsaE eG1)]; omega)⟩) (Nat.lt_succ_self _)
  · -- 16 to 19
    exact s_vret hR dX12_tellsFace_19 rfl (hQ G1 hMG1 (⟨hFG1, (by rw [(gsaE eG1)]; omega)⟩))

abbrev nX12_valuesOf : List Nat := []
abbrev jX12_valuesOf : List Nat := []
def TX12_valuesOf : TR := fun as G Qr => ∃ (n : Int), as = [(2, ((1000 : Nat) : Int)), (0, n)] ∧ MG G ∧ (0 ≤ n ∧ n < 40) ∧ ∀ (r : Int) (G' : LG), MG G' → (Fr nX12_valuesOf jX12_valuesOf G G' ∧ (True)) → Qr (.inl (some (0, r))) G'
set_option maxHeartbeats 4000000 in
set_option maxRecDepth 100000 in
theorem gX12_valuesOf : Good kX12_valuesOf yX12_valuesOf 1 TX12_valuesOf := by
  refine good_of (by decide) rfl rfl (fun as G Qr h => ?_) (fun X as G Qr hcf hR hT oa => ?_)
  · obtain ⟨n, rfl, -⟩ := h; exact Nat.le_of_ble_eq_true rfl
  obtain ⟨n, rfl, hM, hn, hQ⟩ := hT
  show WP kX12_valuesOf X 0 [some (2, ((1000 : Nat) : Int)), some (0, n), none, none] [] G
  have hr_n : inR n := okv_R (oa _ (by simp))
  refine s_iconst dX12_valuesOf_0 (by decide) ?_
  refine s_istore_n dX12_valuesOf_1 (by decide) (lv' := [some (2, ((1000 : Nat) : Int)), some (0, n), some (0, 0), none]) rfl ?_
  refine s_iconst dX12_valuesOf_2 (by decide) ?_
  refine s_istore_n dX12_valuesOf_3 (by decide) (lv' := [some (2, ((1000 : Nat) : Int)), some (0, n), some (0, 0), some (0, 0)]) rfl ?_
  have L1 : ∀ (n1 : Nat) (r1 : Int) (k1 : Int), ((0 ≤ k1 ∧ k1 ≤ 10)) → (10 - k1).toNat < n1 → WP kX12_valuesOf X 4 [some (2, ((1000 : Nat) : Int)), some (0, n), some (0, r1), some (0, k1)] [] G := by
    intro n1
    induction n1 with
    | zero => intro r1 k1 hi1 hm1; exact absurd hm1 (Nat.not_lt_zero _)
    | succ n1 ih1 =>
      intro r1 k1 hi1 hm1
      have hj1 := hi1
      obtain ⟨ik1⟩ := hi1
      refine s_iload_n dX12_valuesOf_4 rfl ?_
      refine s_bipush dX12_valuesOf_5 rfl (by decide) ?_
      refine s_icmp_ge (tgt := 45) dX12_valuesOf_7 (by decide) (fun c2 => ?_) (fun c2 => ?_)
      · -- 7 to 45
        refine s_iload_n dX12_valuesOf_45 rfl ?_
        exact s_iret hR dX12_valuesOf_46 rfl (hQ _ G hM (⟨Fr.rf, trivial⟩))
      · -- 7 to 10
        refine s_iload_n dX12_valuesOf_10 rfl ?_
        refine s_aload_n dX12_valuesOf_11 rfl (Int.natCast_nonneg _) ?_
        refine gf_error rfl dX12_valuesOf_12 hM ?_
        refine s_iload_n dX12_valuesOf_15 rfl ?_
        refine s_iald dX12_valuesOf_16 (mg_a_error hM) (by omega) (by omega) rfl ?_
        have J4 : ∀ z3 : Int, ((¬ (gS G a_error ((n).toNat)) = 0) ∧ z3 = 0) ∨ (((gS G a_error ((n).toNat)) = 0) ∧ (((gS G a_sValue (10 * n + k1).toNat)) = ((-1))) ∧ z3 = 0) ∨ (((gS G a_error ((n).toNat)) = 0) ∧ (¬ ((gS G a_sValue (10 * n + k1).toNat)) = ((-1))) ∧ z3 = i_shl 1 k1) → WP kX12_valuesOf X 37 [some (2, ((1000 : Nat) : Int)), some (0, n), some (0, r1), some (0, k1)] [(0, z3), (0, r1)] G := by
          intro z3 hz3
          refine s_ior dX12_valuesOf_37 ?_
          refine s_istore_n dX12_valuesOf_38 (by decide) (lv' := [some (2, ((1000 : Nat) : Int)), some (0, n), some (0, i_or r1 z3), some (0, k1)]) rfl ?_
          refine s_iinc dX12_valuesOf_39 (v := k1) rfl (by omega) (by decide) (lv' := [some (2, ((1000 : Nat) : Int)), some (0, n), some (0, i_or r1 z3), some (0, k1 + 1)]) rfl ?_
          refine s_goto (tgt := 4) dX12_valuesOf_42 (by decide) ?_
          exact ih1 (i_or r1 z3) (k1 + 1) ((by omega)) (by omega)
        refine s_if_ne (tgt := 36) dX12_valuesOf_17 (by decide) (fun c5 => ?_) (fun c5 => ?_)
        · -- 17 to 36
          refine s_iconst dX12_valuesOf_36 (by decide) ?_
          exact J4 0 (Or.inl ⟨c5, rfl⟩)
        · -- 17 to 20
          refine s_aload_n dX12_valuesOf_20 rfl (Int.natCast_nonneg _) ?_
          refine s_iload_n dX12_valuesOf_21 rfl ?_
          refine s_iload_n dX12_valuesOf_22 rfl ?_
          refine cv_X12_388 rfl gX12_isOf dX12_valuesOf_23 hM (by rw [hcf]; decide) (as := [(0, n), (0, k1)]) rfl (Nat.le_of_ble_eq_true rfl) ⟨n, k1, rfl, hM, (by first | assumption | omega), (by first | assumption | omega), ?_⟩
          show WP kX12_valuesOf X 26 [some (2, ((1000 : Nat) : Int)), some (0, n), some (0, r1), some (0, k1)] [(0, (gS G a_sValue (10 * n + k1).toNat)), (0, r1)] G
          refine s_iconst dX12_valuesOf_26 (by decide) ?_
          refine s_icmp_eq (tgt := 36) dX12_valuesOf_27 (by decide) (fun c6 => ?_) (fun c6 => ?_)
          · -- 27 to 36
            refine s_iconst dX12_valuesOf_36 (by decide) ?_
            exact J4 0 (Or.inr (Or.inl ⟨c5, c6, rfl⟩))
          · -- 27 to 30
            refine s_iconst dX12_valuesOf_30 (by decide) ?_
            refine s_iload_n dX12_valuesOf_31 rfl ?_
            refine s_ishl dX12_valuesOf_32 ?_
            refine s_goto (tgt := 37) dX12_valuesOf_33 (by decide) ?_
            exact J4 _ (Or.inr (Or.inr (⟨c5, c6, rfl⟩)))
  exact L1 _ 0 0 ((by omega)) (Nat.lt_succ_self _)

abbrev nX12_sees : List Nat := [a_build, a_todo, a_stackOf]
abbrev jX12_sees : List Nat := [102, 36]
def TX12_sees : TR := fun as G Qr => ∃ (n : Int), as = [(2, ((1000 : Nat) : Int)), (0, n)] ∧ MG G ∧ (TB G) ∧ (EX G) ∧ (UV G) ∧ (ND G) ∧ (FU G) ∧ ((gS G 1000 42) ≤ 60000) ∧ (0 ≤ n ∧ n < (gS G 1000 18)) ∧ (∀ k : Int, 0 ≤ k → k < nMany G n → RS1 G (nPart G n k)) ∧ ∀ G' : LG, MG G' → (Fr nX12_sees jX12_sees G G' ∧ (0 ≤ (gS G' 1000 102) ∧ (gS G' 1000 102) ≤ 9713)) → Qr (.inl none) G'
set_option maxHeartbeats 4000000 in
set_option maxRecDepth 100000 in
theorem gX12_sees : Good kX12_sees yX12_sees 3 TX12_sees := by
  refine good_of (by decide) rfl rfl (fun as G Qr h => ?_) (fun X as G Qr hcf hR hT oa => ?_)
  · obtain ⟨n, rfl, -⟩ := h; exact Nat.le_of_ble_eq_true rfl
  obtain ⟨n, rfl, hM, hTB, hEX, hUV, hND, hFU, hth, hn, hrw, hQ⟩ := hT
  show WP kX12_sees X 0 [some (2, ((1000 : Nat) : Int)), some (0, n), none, none, none, none] [] G
  have hr_n : inR n := okv_R (oa _ (by simp))
  have hn40 := hND.1
  obtain ⟨hnd4, hnd5, hnd6, hnd7, hnd8, hnd9⟩ := hND.2 n hn.1 hn.2
  clear hnd9
  have hnu := hUV.1
  refine s_aload_n dX12_sees_0 rfl (Int.natCast_nonneg _) ?_
  refine s_iconst dX12_sees_1 (by decide) ?_
  refine pf_built rfl dX12_sees_2 hM (fun G1 eG1 hMG1 => ?_)
  have hFG1 : Fr nX12_sees jX12_sees G G1 := Fr.setF Fr.rf eG1 (by decide)
  refine s_aload_n dX12_sees_5 rfl (Int.natCast_nonneg _) ?_
  refine gf_nKind rfl dX12_sees_6 hMG1 ?_
  refine s_iload_n dX12_sees_9 rfl ?_
  refine s_iald dX12_sees_10 (mg_a_nKind hMG1) (by omega) (by omega) (gsnE eG1 (by decide)) ?_
  refine s_istore_n dX12_sees_11 (by decide) (lv' := [some (2, ((1000 : Nat) : Int)), some (0, n), some (0, gS G a_nKind ((n).toNat)), none, none, none]) rfl ?_
  refine s_iload_n dX12_sees_12 rfl ?_
  refine s_if_ne (tgt := 26) dX12_sees_13 (by decide) (fun c2 => ?_) (fun c2 => ?_)
  · -- 13 to 26
    have hbwG1 : gS G1 1000 102 = 0 := (gsaE eG1)
    have hp1 := hnd6 (by omega)
    have hp2 := hnd7
    have hp3 := hnd8
    have hq1 := hrw 0 (Int.le_refl _) (nMany.k.1 (by omega))
    have hq2 := fun q => hrw 1 (by omega) (nMany.k.2.1 q)
    have hq3 := fun q => hrw 2 (by omega) (nMany.k.2.2 q)
    refine s_aload_n dX12_sees_26 rfl (Int.natCast_nonneg _) ?_
    refine gf_nFirst rfl dX12_sees_27 hMG1 ?_
    refine s_iload_n dX12_sees_30 rfl ?_
    refine s_iald dX12_sees_31 (mg_a_nFirst hMG1) (by omega) (by omega) (gsnE eG1 (by decide)) ?_
    refine s_istore_n dX12_sees_32 (by decide) (lv' := [some (2, ((1000 : Nat) : Int)), some (0, n), some (0, gS G a_nKind ((n).toNat)), some (0, gS G a_nFirst ((n).toNat)), none, none]) rfl ?_
    refine s_aload_n dX12_sees_33 rfl (Int.natCast_nonneg _) ?_
    refine gf_nSecond rfl dX12_sees_34 hMG1 ?_
    refine s_iload_n dX12_sees_37 rfl ?_
    refine s_iald dX12_sees_38 (mg_a_nSecond hMG1) (by omega) (by omega) (gsnE eG1 (by decide)) ?_
    refine s_istore dX12_sees_39 (by decide) (lv' := [some (2, ((1000 : Nat) : Int)), some (0, n), some (0, gS G a_nKind ((n).toNat)), some (0, gS G a_nFirst ((n).toNat)), some (0, gS G a_nSecond ((n).toNat)), none]) rfl ?_
    refine s_sipush dX12_sees_41 rfl (by decide) ?_
    refine s_istore dX12_sees_44 (by decide) (lv' := [some (2, ((1000 : Nat) : Int)), some (0, n), some (0, gS G a_nKind ((n).toNat)), some (0, gS G a_nFirst ((n).toNat)), some (0, gS G a_nSecond ((n).toNat)), some (0, 1023)]) rfl ?_
    refine s_aload_n dX12_sees_46 rfl (Int.natCast_nonneg _) ?_
    refine s_iload_n dX12_sees_47 rfl ?_
    refine s_iload_n dX12_sees_48 rfl ?_
    refine s_iconst dX12_sees_49 (by decide) ?_
    refine s_icmp_ne (tgt := 62) dX12_sees_50 (by decide) (fun c3 => ?_) (fun c3 => ?_)
    · -- 50 to 62
      refine s_iload dX12_sees_62 rfl ?_
      have hbwG1 : gS G1 1000 102 = 0 := (gsaE eG1)
      refine cv_X12_628 rfl gX12_tellsFace dX12_sees_64 hMG1 (by rw [hcf]; decide) (as := [(0, gS G a_nFirst ((n).toNat)), (0, 1023)]) rfl (Nat.le_of_ble_eq_true rfl) ⟨gS G a_nFirst ((n).toNat), 1023, rfl, hMG1, (by exact hFU.agr (hFG1.agr (by decide) (by decide) (by decide)) (by rw [hFG1.atF (j := 42) (by decide) (by decide)]; exact Int.le_refl _)), (by (have z9 := hFG1.atF (j := 42) (by decide) (by decide); omega)), (by omega), (by exact RS1.agr (hq1) (hFG1.agr (by decide) (by decide) (by decide))), (by omega), fun G4 hMG4 hpG4 => ?_⟩
      obtain ⟨hfG4, hpG4⟩ := hpG4
      have hFG4 : Fr nX12_sees jX12_sees G G4 := Fr.call hFG1 hfG4 (by decide) (by decide)
      show WP kX12_sees X 67 [some (2, ((1000 : Nat) : Int)), some (0, n), some (0, gS G a_nKind ((n).toNat)), some (0, gS G a_nFirst ((n).toNat)), some (0, gS G a_nSecond ((n).toNat)), some (0, 1023)] [] G4
      have hbwG4 : gS G4 1000 102 = gS G4 1000 102 := rfl
      refine s_iload_n dX12_sees_67 rfl ?_
      refine s_iconst dX12_sees_68 (by decide) ?_
      refine s_icmp_ge (tgt := 93) dX12_sees_69 (by decide) (fun c6 => ?_) (fun c6 => ?_)
      · -- 69 to 93
        have hbwG4 : gS G4 1000 102 = gS G4 1000 102 := rfl
        refine s_iload_n dX12_sees_93 rfl ?_
        refine s_iconst dX12_sees_94 (by decide) ?_
        refine s_icmp_ne (tgt := 110) dX12_sees_95 (by decide) (fun c7 => ?_) (fun c7 => ?_)
        · -- 95 to 110
          have hbwG4 : gS G4 1000 102 = gS G4 1000 102 := rfl
          refine s_iload_n dX12_sees_110 rfl ?_
          refine s_iconst dX12_sees_111 (by decide) ?_
          refine s_icmp_eq (tgt := 120) dX12_sees_112 (by decide) (fun c8 => ?_) (fun c8 => ?_)
          · -- 112 to 120
            refine s_aload_n dX12_sees_120 rfl (Int.natCast_nonneg _) ?_
            refine s_aload_n dX12_sees_121 rfl (Int.natCast_nonneg _) ?_
            refine gf_ident rfl dX12_sees_122 hMG4 ?_
            refine s_iload_n dX12_sees_125 rfl ?_
            refine s_iald dX12_sees_126 (mg_a_ident hMG4) (by omega) (by omega) (Eq.trans (Fr.atA hfG4 (by decide) (by decide)) (gsnE eG1 (by decide))) ?_
            refine cv_X12_610 rfl gX12_tellsOf dX12_sees_127 hMG4 (by rw [hcf]; decide) (as := [(0, gS G a_ident ((gS G a_nFirst ((n).toNat)).toNat))]) rfl (Nat.le_of_ble_eq_true rfl) ⟨gS G a_ident ((gS G a_nFirst ((n).toNat)).toNat), rfl, hMG4, (by omega), fun G9 hMG9 hpG9 => ?_⟩
            obtain ⟨G11, eG11, eG9, hpG9⟩ := hpG9
            have hFG11 : Fr nX12_sees jX12_sees G G11 := Fr.setA hFG4 eG11 (by decide)
            have hFG9 : Fr nX12_sees jX12_sees G G9 := Fr.setF hFG11 eG9 (by decide)
            show WP kX12_sees X 130 [some (2, ((1000 : Nat) : Int)), some (0, n), some (0, gS G a_nKind ((n).toNat)), some (0, gS G a_nFirst ((n).toNat)), some (0, gS G a_nSecond ((n).toNat)), some (0, 1023)] [] G9
            have hbwG9 : gS G9 1000 102 = (gS G4 1000 102) + 1 := (gsaE eG9)
            refine s_aload_n dX12_sees_130 rfl (Int.natCast_nonneg _) ?_
            refine s_aload_n dX12_sees_131 rfl (Int.natCast_nonneg _) ?_
            refine gf_ident rfl dX12_sees_132 hMG9 ?_
            refine s_iload dX12_sees_135 rfl ?_
            refine s_iald dX12_sees_137 (mg_a_ident hMG9) (by omega) (by omega) (Eq.trans (gsnE eG9 (by decide)) (Eq.trans (gsnE eG11 (by decide)) (Eq.trans (Fr.atA hfG4 (by decide) (by decide)) (gsnE eG1 (by decide))))) ?_
            refine cv_X12_610 rfl gX12_tellsOf dX12_sees_138 hMG9 (by rw [hcf]; decide) (as := [(0, gS G a_ident ((gS G a_nSecond ((n).toNat)).toNat))]) rfl (Nat.le_of_ble_eq_true rfl) ⟨gS G a_ident ((gS G a_nSecond ((n).toNat)).toNat), rfl, hMG9, (by omega), fun G12 hMG12 hpG12 => ?_⟩
            obtain ⟨G14, eG14, eG12, hpG12⟩ := hpG12
            have hFG14 : Fr nX12_sees jX12_sees G G14 := Fr.setA hFG9 eG14 (by decide)
            have hFG12 : Fr nX12_sees jX12_sees G G12 := Fr.setF hFG14 eG12 (by decide)
            show WP kX12_sees X 141 [some (2, ((1000 : Nat) : Int)), some (0, n), some (0, gS G a_nKind ((n).toNat)), some (0, gS G a_nFirst ((n).toNat)), some (0, gS G a_nSecond ((n).toNat)), some (0, 1023)] [] G12
            have hbwG12 : gS G12 1000 102 = (gS G9 1000 102) + 1 := (gsaE eG12)
            exact s_vret hR dX12_sees_141 rfl (hQ G12 hMG12 (⟨hFG12, (by rw [(gsaE eG12)]; omega)⟩))
          · -- 112 to 115
            refine s_iload_n dX12_sees_115 rfl ?_
            refine s_iconst dX12_sees_116 (by decide) ?_
            refine s_icmp_ne (tgt := 141) dX12_sees_117 (by decide) (fun c15 => ?_) (fun c15 => ?_)
            · -- 117 to 141
              have hbwG4 : gS G4 1000 102 = gS G4 1000 102 := rfl
              exact s_vret hR dX12_sees_141 rfl (hQ G4 hMG4 (⟨hFG4, (by omega)⟩))
            · -- 117 to 120
              refine s_aload_n dX12_sees_120 rfl (Int.natCast_nonneg _) ?_
              refine s_aload_n dX12_sees_121 rfl (Int.natCast_nonneg _) ?_
              refine gf_ident rfl dX12_sees_122 hMG4 ?_
              refine s_iload_n dX12_sees_125 rfl ?_
              refine s_iald dX12_sees_126 (mg_a_ident hMG4) (by omega) (by omega) (Eq.trans (Fr.atA hfG4 (by decide) (by decide)) (gsnE eG1 (by decide))) ?_
              refine cv_X12_610 rfl gX12_tellsOf dX12_sees_127 hMG4 (by rw [hcf]; decide) (as := [(0, gS G a_ident ((gS G a_nFirst ((n).toNat)).toNat))]) rfl (Nat.le_of_ble_eq_true rfl) ⟨gS G a_ident ((gS G a_nFirst ((n).toNat)).toNat), rfl, hMG4, (by omega), fun G16 hMG16 hpG16 => ?_⟩
              obtain ⟨G18, eG18, eG16, hpG16⟩ := hpG16
              have hFG18 : Fr nX12_sees jX12_sees G G18 := Fr.setA hFG4 eG18 (by decide)
              have hFG16 : Fr nX12_sees jX12_sees G G16 := Fr.setF hFG18 eG16 (by decide)
              show WP kX12_sees X 130 [some (2, ((1000 : Nat) : Int)), some (0, n), some (0, gS G a_nKind ((n).toNat)), some (0, gS G a_nFirst ((n).toNat)), some (0, gS G a_nSecond ((n).toNat)), some (0, 1023)] [] G16
              have hbwG16 : gS G16 1000 102 = (gS G4 1000 102) + 1 := (gsaE eG16)
              refine s_aload_n dX12_sees_130 rfl (Int.natCast_nonneg _) ?_
              refine s_aload_n dX12_sees_131 rfl (Int.natCast_nonneg _) ?_
              refine gf_ident rfl dX12_sees_132 hMG16 ?_
              refine s_iload dX12_sees_135 rfl ?_
              refine s_iald dX12_sees_137 (mg_a_ident hMG16) (by omega) (by omega) (Eq.trans (gsnE eG16 (by decide)) (Eq.trans (gsnE eG18 (by decide)) (Eq.trans (Fr.atA hfG4 (by decide) (by decide)) (gsnE eG1 (by decide))))) ?_
              refine cv_X12_610 rfl gX12_tellsOf dX12_sees_138 hMG16 (by rw [hcf]; decide) (as := [(0, gS G a_ident ((gS G a_nSecond ((n).toNat)).toNat))]) rfl (Nat.le_of_ble_eq_true rfl) ⟨gS G a_ident ((gS G a_nSecond ((n).toNat)).toNat), rfl, hMG16, (by omega), fun G19 hMG19 hpG19 => ?_⟩
              obtain ⟨G21, eG21, eG19, hpG19⟩ := hpG19
              have hFG21 : Fr nX12_sees jX12_sees G G21 := Fr.setA hFG16 eG21 (by decide)
              have hFG19 : Fr nX12_sees jX12_sees G G19 := Fr.setF hFG21 eG19 (by decide)
              show WP kX12_sees X 141 [some (2, ((1000 : Nat) : Int)), some (0, n), some (0, gS G a_nKind ((n).toNat)), some (0, gS G a_nFirst ((n).toNat)), some (0, gS G a_nSecond ((n).toNat)), some (0, 1023)] [] G19
              have hbwG19 : gS G19 1000 102 = (gS G16 1000 102) + 1 := (gsaE eG19)
              exact s_vret hR dX12_sees_141 rfl (hQ G19 hMG19 (⟨hFG19, (by rw [(gsaE eG19)]; omega)⟩))
        · -- 95 to 98
          refine s_aload_n dX12_sees_98 rfl (Int.natCast_nonneg _) ?_
          refine s_aload_n dX12_sees_99 rfl (Int.natCast_nonneg _) ?_
          refine gf_nThird rfl dX12_sees_100 hMG4 ?_
          refine s_iload_n dX12_sees_103 rfl ?_
          refine s_iald dX12_sees_104 (mg_a_nThird hMG4) (by omega) (by omega) (Eq.trans (Fr.atA hfG4 (by decide) (by decide)) (gsnE eG1 (by decide))) ?_
          refine s_iload dX12_sees_105 rfl ?_
          have hbwG4 : gS G4 1000 102 = gS G4 1000 102 := rfl
          refine cv_X12_628 rfl gX12_tellsFace dX12_sees_107 hMG4 (by rw [hcf]; decide) (as := [(0, gS G a_nThird ((n).toNat)), (0, 1023)]) rfl (Nat.le_of_ble_eq_true rfl) ⟨gS G a_nThird ((n).toNat), 1023, rfl, hMG4, (by exact hFU.agr (hFG4.agr (by decide) (by decide) (by decide)) (by rw [hFG4.atF (j := 42) (by decide) (by decide)]; exact Int.le_refl _)), (by (have z9 := hFG4.atF (j := 42) (by decide) (by decide); omega)), (by omega), (by exact RS1.agr (hq3 (by omega)) (hFG4.agr (by decide) (by decide) (by decide))), (by omega), fun G22 hMG22 hpG22 => ?_⟩
          obtain ⟨hfG22, hpG22⟩ := hpG22
          have hFG22 : Fr nX12_sees jX12_sees G G22 := Fr.call hFG4 hfG22 (by decide) (by decide)
          show WP kX12_sees X 110 [some (2, ((1000 : Nat) : Int)), some (0, n), some (0, gS G a_nKind ((n).toNat)), some (0, gS G a_nFirst ((n).toNat)), some (0, gS G a_nSecond ((n).toNat)), some (0, 1023)] [] G22
          have hbwG22 : gS G22 1000 102 = gS G22 1000 102 := rfl
          refine s_iload_n dX12_sees_110 rfl ?_
          refine s_iconst dX12_sees_111 (by decide) ?_
          refine s_icmp_eq (tgt := 120) dX12_sees_112 (by decide) (fun c24 => ?_) (fun c24 => ?_)
          · -- 112 to 120
            refine s_aload_n dX12_sees_120 rfl (Int.natCast_nonneg _) ?_
            refine s_aload_n dX12_sees_121 rfl (Int.natCast_nonneg _) ?_
            refine gf_ident rfl dX12_sees_122 hMG22 ?_
            refine s_iload_n dX12_sees_125 rfl ?_
            refine s_iald dX12_sees_126 (mg_a_ident hMG22) (by omega) (by omega) (Eq.trans (Fr.atA hfG22 (by decide) (by decide)) (Eq.trans (Fr.atA hfG4 (by decide) (by decide)) (gsnE eG1 (by decide)))) ?_
            refine cv_X12_610 rfl gX12_tellsOf dX12_sees_127 hMG22 (by rw [hcf]; decide) (as := [(0, gS G a_ident ((gS G a_nFirst ((n).toNat)).toNat))]) rfl (Nat.le_of_ble_eq_true rfl) ⟨gS G a_ident ((gS G a_nFirst ((n).toNat)).toNat), rfl, hMG22, (by omega), fun G25 hMG25 hpG25 => ?_⟩
            obtain ⟨G27, eG27, eG25, hpG25⟩ := hpG25
            have hFG27 : Fr nX12_sees jX12_sees G G27 := Fr.setA hFG22 eG27 (by decide)
            have hFG25 : Fr nX12_sees jX12_sees G G25 := Fr.setF hFG27 eG25 (by decide)
            show WP kX12_sees X 130 [some (2, ((1000 : Nat) : Int)), some (0, n), some (0, gS G a_nKind ((n).toNat)), some (0, gS G a_nFirst ((n).toNat)), some (0, gS G a_nSecond ((n).toNat)), some (0, 1023)] [] G25
            have hbwG25 : gS G25 1000 102 = (gS G22 1000 102) + 1 := (gsaE eG25)
            refine s_aload_n dX12_sees_130 rfl (Int.natCast_nonneg _) ?_
            refine s_aload_n dX12_sees_131 rfl (Int.natCast_nonneg _) ?_
            refine gf_ident rfl dX12_sees_132 hMG25 ?_
            refine s_iload dX12_sees_135 rfl ?_
            refine s_iald dX12_sees_137 (mg_a_ident hMG25) (by omega) (by omega) (Eq.trans (gsnE eG25 (by decide)) (Eq.trans (gsnE eG27 (by decide)) (Eq.trans (Fr.atA hfG22 (by decide) (by decide)) (Eq.trans (Fr.atA hfG4 (by decide) (by decide)) (gsnE eG1 (by decide)))))) ?_
            refine cv_X12_610 rfl gX12_tellsOf dX12_sees_138 hMG25 (by rw [hcf]; decide) (as := [(0, gS G a_ident ((gS G a_nSecond ((n).toNat)).toNat))]) rfl (Nat.le_of_ble_eq_true rfl) ⟨gS G a_ident ((gS G a_nSecond ((n).toNat)).toNat), rfl, hMG25, (by omega), fun G28 hMG28 hpG28 => ?_⟩
            obtain ⟨G30, eG30, eG28, hpG28⟩ := hpG28
            have hFG30 : Fr nX12_sees jX12_sees G G30 := Fr.setA hFG25 eG30 (by decide)
            have hFG28 : Fr nX12_sees jX12_sees G G28 := Fr.setF hFG30 eG28 (by decide)
            show WP kX12_sees X 141 [some (2, ((1000 : Nat) : Int)), some (0, n), some (0, gS G a_nKind ((n).toNat)), some (0, gS G a_nFirst ((n).toNat)), some (0, gS G a_nSecond ((n).toNat)), some (0, 1023)] [] G28
            have hbwG28 : gS G28 1000 102 = (gS G25 1000 102) + 1 := (gsaE eG28)
            exact s_vret hR dX12_sees_141 rfl (hQ G28 hMG28 (⟨hFG28, (by rw [(gsaE eG28)]; omega)⟩))
          · -- 112 to 115
            refine s_iload_n dX12_sees_115 rfl ?_
            refine s_iconst dX12_sees_116 (by decide) ?_
            refine s_icmp_ne (tgt := 141) dX12_sees_117 (by decide) (fun c31 => ?_) (fun c31 => ?_)
            · -- 117 to 141
              have hbwG22 : gS G22 1000 102 = gS G22 1000 102 := rfl
              exact s_vret hR dX12_sees_141 rfl (hQ G22 hMG22 (⟨hFG22, (by omega)⟩))
            · -- 117 to 120
              refine s_aload_n dX12_sees_120 rfl (Int.natCast_nonneg _) ?_
              refine s_aload_n dX12_sees_121 rfl (Int.natCast_nonneg _) ?_
              refine gf_ident rfl dX12_sees_122 hMG22 ?_
              refine s_iload_n dX12_sees_125 rfl ?_
              refine s_iald dX12_sees_126 (mg_a_ident hMG22) (by omega) (by omega) (Eq.trans (Fr.atA hfG22 (by decide) (by decide)) (Eq.trans (Fr.atA hfG4 (by decide) (by decide)) (gsnE eG1 (by decide)))) ?_
              refine cv_X12_610 rfl gX12_tellsOf dX12_sees_127 hMG22 (by rw [hcf]; decide) (as := [(0, gS G a_ident ((gS G a_nFirst ((n).toNat)).toNat))]) rfl (Nat.le_of_ble_eq_true rfl) ⟨gS G a_ident ((gS G a_nFirst ((n).toNat)).toNat), rfl, hMG22, (by omega), fun G32 hMG32 hpG32 => ?_⟩
              obtain ⟨G34, eG34, eG32, hpG32⟩ := hpG32
              have hFG34 : Fr nX12_sees jX12_sees G G34 := Fr.setA hFG22 eG34 (by decide)
              have hFG32 : Fr nX12_sees jX12_sees G G32 := Fr.setF hFG34 eG32 (by decide)
              show WP kX12_sees X 130 [some (2, ((1000 : Nat) : Int)), some (0, n), some (0, gS G a_nKind ((n).toNat)), some (0, gS G a_nFirst ((n).toNat)), some (0, gS G a_nSecond ((n).toNat)), some (0, 1023)] [] G32
              have hbwG32 : gS G32 1000 102 = (gS G22 1000 102) + 1 := (gsaE eG32)
              refine s_aload_n dX12_sees_130 rfl (Int.natCast_nonneg _) ?_
              refine s_aload_n dX12_sees_131 rfl (Int.natCast_nonneg _) ?_
              refine gf_ident rfl dX12_sees_132 hMG32 ?_
              refine s_iload dX12_sees_135 rfl ?_
              refine s_iald dX12_sees_137 (mg_a_ident hMG32) (by omega) (by omega) (Eq.trans (gsnE eG32 (by decide)) (Eq.trans (gsnE eG34 (by decide)) (Eq.trans (Fr.atA hfG22 (by decide) (by decide)) (Eq.trans (Fr.atA hfG4 (by decide) (by decide)) (gsnE eG1 (by decide)))))) ?_
              refine cv_X12_610 rfl gX12_tellsOf dX12_sees_138 hMG32 (by rw [hcf]; decide) (as := [(0, gS G a_ident ((gS G a_nSecond ((n).toNat)).toNat))]) rfl (Nat.le_of_ble_eq_true rfl) ⟨gS G a_ident ((gS G a_nSecond ((n).toNat)).toNat), rfl, hMG32, (by omega), fun G35 hMG35 hpG35 => ?_⟩
              obtain ⟨G37, eG37, eG35, hpG35⟩ := hpG35
              have hFG37 : Fr nX12_sees jX12_sees G G37 := Fr.setA hFG32 eG37 (by decide)
              have hFG35 : Fr nX12_sees jX12_sees G G35 := Fr.setF hFG37 eG35 (by decide)
              show WP kX12_sees X 141 [some (2, ((1000 : Nat) : Int)), some (0, n), some (0, gS G a_nKind ((n).toNat)), some (0, gS G a_nFirst ((n).toNat)), some (0, gS G a_nSecond ((n).toNat)), some (0, 1023)] [] G35
              have hbwG35 : gS G35 1000 102 = (gS G32 1000 102) + 1 := (gsaE eG35)
              exact s_vret hR dX12_sees_141 rfl (hQ G35 hMG35 (⟨hFG35, (by rw [(gsaE eG35)]; omega)⟩))
      · -- 69 to 72
        refine s_aload_n dX12_sees_72 rfl (Int.natCast_nonneg _) ?_
        refine s_iload dX12_sees_73 rfl ?_
        refine s_iload_n dX12_sees_75 rfl ?_
        refine s_iconst dX12_sees_76 (by decide) ?_
        refine s_icmp_ne (tgt := 88) dX12_sees_77 (by decide) (fun c38 => ?_) (fun c38 => ?_)
        · -- 77 to 88
          refine s_iload dX12_sees_88 rfl ?_
          have hbwG4 : gS G4 1000 102 = gS G4 1000 102 := rfl
          refine cv_X12_628 rfl gX12_tellsFace dX12_sees_90 hMG4 (by rw [hcf]; decide) (as := [(0, gS G a_nSecond ((n).toNat)), (0, 1023)]) rfl (Nat.le_of_ble_eq_true rfl) ⟨gS G a_nSecond ((n).toNat), 1023, rfl, hMG4, (by exact hFU.agr (hFG4.agr (by decide) (by decide) (by decide)) (by rw [hFG4.atF (j := 42) (by decide) (by decide)]; exact Int.le_refl _)), (by (have z9 := hFG4.atF (j := 42) (by decide) (by decide); omega)), (by omega), (by exact RS1.agr (hq2 (by omega)) (hFG4.agr (by decide) (by decide) (by decide))), (by omega), fun G39 hMG39 hpG39 => ?_⟩
          obtain ⟨hfG39, hpG39⟩ := hpG39
          have hFG39 : Fr nX12_sees jX12_sees G G39 := Fr.call hFG4 hfG39 (by decide) (by decide)
          show WP kX12_sees X 93 [some (2, ((1000 : Nat) : Int)), some (0, n), some (0, gS G a_nKind ((n).toNat)), some (0, gS G a_nFirst ((n).toNat)), some (0, gS G a_nSecond ((n).toNat)), some (0, 1023)] [] G39
          have hbwG39 : gS G39 1000 102 = gS G39 1000 102 := rfl
          refine s_iload_n dX12_sees_93 rfl ?_
          refine s_iconst dX12_sees_94 (by decide) ?_
          refine s_icmp_ne (tgt := 110) dX12_sees_95 (by decide) (fun c41 => ?_) (fun c41 => ?_)
          · -- 95 to 110
            have hbwG39 : gS G39 1000 102 = gS G39 1000 102 := rfl
            refine s_iload_n dX12_sees_110 rfl ?_
            refine s_iconst dX12_sees_111 (by decide) ?_
            refine s_icmp_eq (tgt := 120) dX12_sees_112 (by decide) (fun c42 => ?_) (fun c42 => ?_)
            · -- 112 to 120
              refine s_aload_n dX12_sees_120 rfl (Int.natCast_nonneg _) ?_
              refine s_aload_n dX12_sees_121 rfl (Int.natCast_nonneg _) ?_
              refine gf_ident rfl dX12_sees_122 hMG39 ?_
              refine s_iload_n dX12_sees_125 rfl ?_
              refine s_iald dX12_sees_126 (mg_a_ident hMG39) (by omega) (by omega) (Eq.trans (Fr.atA hfG39 (by decide) (by decide)) (Eq.trans (Fr.atA hfG4 (by decide) (by decide)) (gsnE eG1 (by decide)))) ?_
              refine cv_X12_610 rfl gX12_tellsOf dX12_sees_127 hMG39 (by rw [hcf]; decide) (as := [(0, gS G a_ident ((gS G a_nFirst ((n).toNat)).toNat))]) rfl (Nat.le_of_ble_eq_true rfl) ⟨gS G a_ident ((gS G a_nFirst ((n).toNat)).toNat), rfl, hMG39, (by omega), fun G43 hMG43 hpG43 => ?_⟩
              obtain ⟨G45, eG45, eG43, hpG43⟩ := hpG43
              have hFG45 : Fr nX12_sees jX12_sees G G45 := Fr.setA hFG39 eG45 (by decide)
              have hFG43 : Fr nX12_sees jX12_sees G G43 := Fr.setF hFG45 eG43 (by decide)
              show WP kX12_sees X 130 [some (2, ((1000 : Nat) : Int)), some (0, n), some (0, gS G a_nKind ((n).toNat)), some (0, gS G a_nFirst ((n).toNat)), some (0, gS G a_nSecond ((n).toNat)), some (0, 1023)] [] G43
              have hbwG43 : gS G43 1000 102 = (gS G39 1000 102) + 1 := (gsaE eG43)
              refine s_aload_n dX12_sees_130 rfl (Int.natCast_nonneg _) ?_
              refine s_aload_n dX12_sees_131 rfl (Int.natCast_nonneg _) ?_
              refine gf_ident rfl dX12_sees_132 hMG43 ?_
              refine s_iload dX12_sees_135 rfl ?_
              refine s_iald dX12_sees_137 (mg_a_ident hMG43) (by omega) (by omega) (Eq.trans (gsnE eG43 (by decide)) (Eq.trans (gsnE eG45 (by decide)) (Eq.trans (Fr.atA hfG39 (by decide) (by decide)) (Eq.trans (Fr.atA hfG4 (by decide) (by decide)) (gsnE eG1 (by decide)))))) ?_
              refine cv_X12_610 rfl gX12_tellsOf dX12_sees_138 hMG43 (by rw [hcf]; decide) (as := [(0, gS G a_ident ((gS G a_nSecond ((n).toNat)).toNat))]) rfl (Nat.le_of_ble_eq_true rfl) ⟨gS G a_ident ((gS G a_nSecond ((n).toNat)).toNat), rfl, hMG43, (by omega), fun G46 hMG46 hpG46 => ?_⟩
              obtain ⟨G48, eG48, eG46, hpG46⟩ := hpG46
              have hFG48 : Fr nX12_sees jX12_sees G G48 := Fr.setA hFG43 eG48 (by decide)
              have hFG46 : Fr nX12_sees jX12_sees G G46 := Fr.setF hFG48 eG46 (by decide)
              show WP kX12_sees X 141 [some (2, ((1000 : Nat) : Int)), some (0, n), some (0, gS G a_nKind ((n).toNat)), some (0, gS G a_nFirst ((n).toNat)), some (0, gS G a_nSecond ((n).toNat)), some (0, 1023)] [] G46
              have hbwG46 : gS G46 1000 102 = (gS G43 1000 102) + 1 := (gsaE eG46)
              exact s_vret hR dX12_sees_141 rfl (hQ G46 hMG46 (⟨hFG46, (by rw [(gsaE eG46)]; omega)⟩))
            · -- 112 to 115
              refine s_iload_n dX12_sees_115 rfl ?_
              refine s_iconst dX12_sees_116 (by decide) ?_
              refine s_icmp_ne (tgt := 141) dX12_sees_117 (by decide) (fun c49 => ?_) (fun c49 => ?_)
              · -- 117 to 141
                have hbwG39 : gS G39 1000 102 = gS G39 1000 102 := rfl
                exact s_vret hR dX12_sees_141 rfl (hQ G39 hMG39 (⟨hFG39, (by omega)⟩))
              · -- 117 to 120
                refine s_aload_n dX12_sees_120 rfl (Int.natCast_nonneg _) ?_
                refine s_aload_n dX12_sees_121 rfl (Int.natCast_nonneg _) ?_
                refine gf_ident rfl dX12_sees_122 hMG39 ?_
                refine s_iload_n dX12_sees_125 rfl ?_
                refine s_iald dX12_sees_126 (mg_a_ident hMG39) (by omega) (by omega) (Eq.trans (Fr.atA hfG39 (by decide) (by decide)) (Eq.trans (Fr.atA hfG4 (by decide) (by decide)) (gsnE eG1 (by decide)))) ?_
                refine cv_X12_610 rfl gX12_tellsOf dX12_sees_127 hMG39 (by rw [hcf]; decide) (as := [(0, gS G a_ident ((gS G a_nFirst ((n).toNat)).toNat))]) rfl (Nat.le_of_ble_eq_true rfl) ⟨gS G a_ident ((gS G a_nFirst ((n).toNat)).toNat), rfl, hMG39, (by omega), fun G50 hMG50 hpG50 => ?_⟩
                obtain ⟨G52, eG52, eG50, hpG50⟩ := hpG50
                have hFG52 : Fr nX12_sees jX12_sees G G52 := Fr.setA hFG39 eG52 (by decide)
                have hFG50 : Fr nX12_sees jX12_sees G G50 := Fr.setF hFG52 eG50 (by decide)
                show WP kX12_sees X 130 [some (2, ((1000 : Nat) : Int)), some (0, n), some (0, gS G a_nKind ((n).toNat)), some (0, gS G a_nFirst ((n).toNat)), some (0, gS G a_nSecond ((n).toNat)), some (0, 1023)] [] G50
                have hbwG50 : gS G50 1000 102 = (gS G39 1000 102) + 1 := (gsaE eG50)
                refine s_aload_n dX12_sees_130 rfl (Int.natCast_nonneg _) ?_
                refine s_aload_n dX12_sees_131 rfl (Int.natCast_nonneg _) ?_
                refine gf_ident rfl dX12_sees_132 hMG50 ?_
                refine s_iload dX12_sees_135 rfl ?_
                refine s_iald dX12_sees_137 (mg_a_ident hMG50) (by omega) (by omega) (Eq.trans (gsnE eG50 (by decide)) (Eq.trans (gsnE eG52 (by decide)) (Eq.trans (Fr.atA hfG39 (by decide) (by decide)) (Eq.trans (Fr.atA hfG4 (by decide) (by decide)) (gsnE eG1 (by decide)))))) ?_
                refine cv_X12_610 rfl gX12_tellsOf dX12_sees_138 hMG50 (by rw [hcf]; decide) (as := [(0, gS G a_ident ((gS G a_nSecond ((n).toNat)).toNat))]) rfl (Nat.le_of_ble_eq_true rfl) ⟨gS G a_ident ((gS G a_nSecond ((n).toNat)).toNat), rfl, hMG50, (by omega), fun G53 hMG53 hpG53 => ?_⟩
                obtain ⟨G55, eG55, eG53, hpG53⟩ := hpG53
                have hFG55 : Fr nX12_sees jX12_sees G G55 := Fr.setA hFG50 eG55 (by decide)
                have hFG53 : Fr nX12_sees jX12_sees G G53 := Fr.setF hFG55 eG53 (by decide)
                show WP kX12_sees X 141 [some (2, ((1000 : Nat) : Int)), some (0, n), some (0, gS G a_nKind ((n).toNat)), some (0, gS G a_nFirst ((n).toNat)), some (0, gS G a_nSecond ((n).toNat)), some (0, 1023)] [] G53
                have hbwG53 : gS G53 1000 102 = (gS G50 1000 102) + 1 := (gsaE eG53)
                exact s_vret hR dX12_sees_141 rfl (hQ G53 hMG53 (⟨hFG53, (by rw [(gsaE eG53)]; omega)⟩))
          · -- 95 to 98
            refine s_aload_n dX12_sees_98 rfl (Int.natCast_nonneg _) ?_
            refine s_aload_n dX12_sees_99 rfl (Int.natCast_nonneg _) ?_
            refine gf_nThird rfl dX12_sees_100 hMG39 ?_
            refine s_iload_n dX12_sees_103 rfl ?_
            refine s_iald dX12_sees_104 (mg_a_nThird hMG39) (by omega) (by omega) (Eq.trans (Fr.atA hfG39 (by decide) (by decide)) (Eq.trans (Fr.atA hfG4 (by decide) (by decide)) (gsnE eG1 (by decide)))) ?_
            refine s_iload dX12_sees_105 rfl ?_
            have hbwG39 : gS G39 1000 102 = gS G39 1000 102 := rfl
            refine cv_X12_628 rfl gX12_tellsFace dX12_sees_107 hMG39 (by rw [hcf]; decide) (as := [(0, gS G a_nThird ((n).toNat)), (0, 1023)]) rfl (Nat.le_of_ble_eq_true rfl) ⟨gS G a_nThird ((n).toNat), 1023, rfl, hMG39, (by exact hFU.agr (hFG39.agr (by decide) (by decide) (by decide)) (by rw [hFG39.atF (j := 42) (by decide) (by decide)]; exact Int.le_refl _)), (by (have z9 := hFG39.atF (j := 42) (by decide) (by decide); omega)), (by omega), (by exact RS1.agr (hq3 (by omega)) (hFG39.agr (by decide) (by decide) (by decide))), (by omega), fun G56 hMG56 hpG56 => ?_⟩
            obtain ⟨hfG56, hpG56⟩ := hpG56
            have hFG56 : Fr nX12_sees jX12_sees G G56 := Fr.call hFG39 hfG56 (by decide) (by decide)
            show WP kX12_sees X 110 [some (2, ((1000 : Nat) : Int)), some (0, n), some (0, gS G a_nKind ((n).toNat)), some (0, gS G a_nFirst ((n).toNat)), some (0, gS G a_nSecond ((n).toNat)), some (0, 1023)] [] G56
            have hbwG56 : gS G56 1000 102 = gS G56 1000 102 := rfl
            refine s_iload_n dX12_sees_110 rfl ?_
            refine s_iconst dX12_sees_111 (by decide) ?_
            refine s_icmp_eq (tgt := 120) dX12_sees_112 (by decide) (fun c58 => ?_) (fun c58 => ?_)
            · -- 112 to 120
              refine s_aload_n dX12_sees_120 rfl (Int.natCast_nonneg _) ?_
              refine s_aload_n dX12_sees_121 rfl (Int.natCast_nonneg _) ?_
              refine gf_ident rfl dX12_sees_122 hMG56 ?_
              refine s_iload_n dX12_sees_125 rfl ?_
              refine s_iald dX12_sees_126 (mg_a_ident hMG56) (by omega) (by omega) (Eq.trans (Fr.atA hfG56 (by decide) (by decide)) (Eq.trans (Fr.atA hfG39 (by decide) (by decide)) (Eq.trans (Fr.atA hfG4 (by decide) (by decide)) (gsnE eG1 (by decide))))) ?_
              refine cv_X12_610 rfl gX12_tellsOf dX12_sees_127 hMG56 (by rw [hcf]; decide) (as := [(0, gS G a_ident ((gS G a_nFirst ((n).toNat)).toNat))]) rfl (Nat.le_of_ble_eq_true rfl) ⟨gS G a_ident ((gS G a_nFirst ((n).toNat)).toNat), rfl, hMG56, (by omega), fun G59 hMG59 hpG59 => ?_⟩
              obtain ⟨G61, eG61, eG59, hpG59⟩ := hpG59
              have hFG61 : Fr nX12_sees jX12_sees G G61 := Fr.setA hFG56 eG61 (by decide)
              have hFG59 : Fr nX12_sees jX12_sees G G59 := Fr.setF hFG61 eG59 (by decide)
              show WP kX12_sees X 130 [some (2, ((1000 : Nat) : Int)), some (0, n), some (0, gS G a_nKind ((n).toNat)), some (0, gS G a_nFirst ((n).toNat)), some (0, gS G a_nSecond ((n).toNat)), some (0, 1023)] [] G59
              have hbwG59 : gS G59 1000 102 = (gS G56 1000 102) + 1 := (gsaE eG59)
              refine s_aload_n dX12_sees_130 rfl (Int.natCast_nonneg _) ?_
              refine s_aload_n dX12_sees_131 rfl (Int.natCast_nonneg _) ?_
              refine gf_ident rfl dX12_sees_132 hMG59 ?_
              refine s_iload dX12_sees_135 rfl ?_
              refine s_iald dX12_sees_137 (mg_a_ident hMG59) (by omega) (by omega) (Eq.trans (gsnE eG59 (by decide)) (Eq.trans (gsnE eG61 (by decide)) (Eq.trans (Fr.atA hfG56 (by decide) (by decide)) (Eq.trans (Fr.atA hfG39 (by decide) (by decide)) (Eq.trans (Fr.atA hfG4 (by decide) (by decide)) (gsnE eG1 (by decide))))))) ?_
              refine cv_X12_610 rfl gX12_tellsOf dX12_sees_138 hMG59 (by rw [hcf]; decide) (as := [(0, gS G a_ident ((gS G a_nSecond ((n).toNat)).toNat))]) rfl (Nat.le_of_ble_eq_true rfl) ⟨gS G a_ident ((gS G a_nSecond ((n).toNat)).toNat), rfl, hMG59, (by omega), fun G62 hMG62 hpG62 => ?_⟩
              obtain ⟨G64, eG64, eG62, hpG62⟩ := hpG62
              have hFG64 : Fr nX12_sees jX12_sees G G64 := Fr.setA hFG59 eG64 (by decide)
              have hFG62 : Fr nX12_sees jX12_sees G G62 := Fr.setF hFG64 eG62 (by decide)
              show WP kX12_sees X 141 [some (2, ((1000 : Nat) : Int)), some (0, n), some (0, gS G a_nKind ((n).toNat)), some (0, gS G a_nFirst ((n).toNat)), some (0, gS G a_nSecond ((n).toNat)), some (0, 1023)] [] G62
              have hbwG62 : gS G62 1000 102 = (gS G59 1000 102) + 1 := (gsaE eG62)
              exact s_vret hR dX12_sees_141 rfl (hQ G62 hMG62 (⟨hFG62, (by rw [(gsaE eG62)]; omega)⟩))
            · -- 112 to 115
              refine s_iload_n dX12_sees_115 rfl ?_
              refine s_iconst dX12_sees_116 (by decide) ?_
              refine s_icmp_ne (tgt := 141) dX12_sees_117 (by decide) (fun c65 => ?_) (fun c65 => ?_)
              · -- 117 to 141
                have hbwG56 : gS G56 1000 102 = gS G56 1000 102 := rfl
                exact s_vret hR dX12_sees_141 rfl (hQ G56 hMG56 (⟨hFG56, (by omega)⟩))
              · -- 117 to 120
                refine s_aload_n dX12_sees_120 rfl (Int.natCast_nonneg _) ?_
                refine s_aload_n dX12_sees_121 rfl (Int.natCast_nonneg _) ?_
                refine gf_ident rfl dX12_sees_122 hMG56 ?_
                refine s_iload_n dX12_sees_125 rfl ?_
                refine s_iald dX12_sees_126 (mg_a_ident hMG56) (by omega) (by omega) (Eq.trans (Fr.atA hfG56 (by decide) (by decide)) (Eq.trans (Fr.atA hfG39 (by decide) (by decide)) (Eq.trans (Fr.atA hfG4 (by decide) (by decide)) (gsnE eG1 (by decide))))) ?_
                refine cv_X12_610 rfl gX12_tellsOf dX12_sees_127 hMG56 (by rw [hcf]; decide) (as := [(0, gS G a_ident ((gS G a_nFirst ((n).toNat)).toNat))]) rfl (Nat.le_of_ble_eq_true rfl) ⟨gS G a_ident ((gS G a_nFirst ((n).toNat)).toNat), rfl, hMG56, (by omega), fun G66 hMG66 hpG66 => ?_⟩
                obtain ⟨G68, eG68, eG66, hpG66⟩ := hpG66
                have hFG68 : Fr nX12_sees jX12_sees G G68 := Fr.setA hFG56 eG68 (by decide)
                have hFG66 : Fr nX12_sees jX12_sees G G66 := Fr.setF hFG68 eG66 (by decide)
                show WP kX12_sees X 130 [some (2, ((1000 : Nat) : Int)), some (0, n), some (0, gS G a_nKind ((n).toNat)), some (0, gS G a_nFirst ((n).toNat)), some (0, gS G a_nSecond ((n).toNat)), some (0, 1023)] [] G66
                have hbwG66 : gS G66 1000 102 = (gS G56 1000 102) + 1 := (gsaE eG66)
                refine s_aload_n dX12_sees_130 rfl (Int.natCast_nonneg _) ?_
                refine s_aload_n dX12_sees_131 rfl (Int.natCast_nonneg _) ?_
                refine gf_ident rfl dX12_sees_132 hMG66 ?_
                refine s_iload dX12_sees_135 rfl ?_
                refine s_iald dX12_sees_137 (mg_a_ident hMG66) (by omega) (by omega) (Eq.trans (gsnE eG66 (by decide)) (Eq.trans (gsnE eG68 (by decide)) (Eq.trans (Fr.atA hfG56 (by decide) (by decide)) (Eq.trans (Fr.atA hfG39 (by decide) (by decide)) (Eq.trans (Fr.atA hfG4 (by decide) (by decide)) (gsnE eG1 (by decide))))))) ?_
                refine cv_X12_610 rfl gX12_tellsOf dX12_sees_138 hMG66 (by rw [hcf]; decide) (as := [(0, gS G a_ident ((gS G a_nSecond ((n).toNat)).toNat))]) rfl (Nat.le_of_ble_eq_true rfl) ⟨gS G a_ident ((gS G a_nSecond ((n).toNat)).toNat), rfl, hMG66, (by omega), fun G69 hMG69 hpG69 => ?_⟩
                obtain ⟨G71, eG71, eG69, hpG69⟩ := hpG69
                have hFG71 : Fr nX12_sees jX12_sees G G71 := Fr.setA hFG66 eG71 (by decide)
                have hFG69 : Fr nX12_sees jX12_sees G G69 := Fr.setF hFG71 eG69 (by decide)
                show WP kX12_sees X 141 [some (2, ((1000 : Nat) : Int)), some (0, n), some (0, gS G a_nKind ((n).toNat)), some (0, gS G a_nFirst ((n).toNat)), some (0, gS G a_nSecond ((n).toNat)), some (0, 1023)] [] G69
                have hbwG69 : gS G69 1000 102 = (gS G66 1000 102) + 1 := (gsaE eG69)
                exact s_vret hR dX12_sees_141 rfl (hQ G69 hMG69 (⟨hFG69, (by rw [(gsaE eG69)]; omega)⟩))
        · -- 77 to 80
          refine s_aload_n dX12_sees_80 rfl (Int.natCast_nonneg _) ?_
          refine s_iload_n dX12_sees_81 rfl ?_
          refine cv_X12_625 rfl gX12_valuesOf dX12_sees_82 hMG4 (by rw [hcf]; decide) (as := [(0, gS G a_nFirst ((n).toNat))]) rfl (Nat.le_of_ble_eq_true rfl) ⟨gS G a_nFirst ((n).toNat), rfl, hMG4, (by first | assumption | omega), fun r73 G72 hMG72 hpG72 => ?_⟩
          obtain ⟨hfG72, hpG72⟩ := hpG72
          have hFG72 : Fr nX12_sees jX12_sees G G72 := Fr.call hFG4 hfG72 (by decide) (by decide)
          show WP kX12_sees X 85 [some (2, ((1000 : Nat) : Int)), some (0, n), some (0, gS G a_nKind ((n).toNat)), some (0, gS G a_nFirst ((n).toNat)), some (0, gS G a_nSecond ((n).toNat)), some (0, 1023)] [(0, r73), (0, gS G a_nSecond ((n).toNat)), (2, ((1000 : Nat) : Int))] G72
          refine s_goto (tgt := 90) dX12_sees_85 (by decide) ?_
          have hbwG72 : gS G72 1000 102 = gS G4 1000 102 := (Fr.atF hfG72 (by decide) (by decide))
          refine cv_X12_628 rfl gX12_tellsFace dX12_sees_90 hMG72 (by rw [hcf]; decide) (as := [(0, gS G a_nSecond ((n).toNat)), (0, r73)]) rfl (Nat.le_of_ble_eq_true rfl) ⟨gS G a_nSecond ((n).toNat), r73, rfl, hMG72, (by exact hFU.agr (hFG72.agr (by decide) (by decide) (by decide)) (by rw [hFG72.atF (j := 42) (by decide) (by decide)]; exact Int.le_refl _)), (by (have z9 := hFG72.atF (j := 42) (by decide) (by decide); omega)), (by omega), (by exact RS1.agr (hq2 (by omega)) (hFG72.agr (by decide) (by decide) (by decide))), (by omega), fun G74 hMG74 hpG74 => ?_⟩
          obtain ⟨hfG74, hpG74⟩ := hpG74
          have hFG74 : Fr nX12_sees jX12_sees G G74 := Fr.call hFG72 hfG74 (by decide) (by decide)
          show WP kX12_sees X 93 [some (2, ((1000 : Nat) : Int)), some (0, n), some (0, gS G a_nKind ((n).toNat)), some (0, gS G a_nFirst ((n).toNat)), some (0, gS G a_nSecond ((n).toNat)), some (0, 1023)] [] G74
          have hbwG74 : gS G74 1000 102 = gS G74 1000 102 := rfl
          refine s_iload_n dX12_sees_93 rfl ?_
          refine s_iconst dX12_sees_94 (by decide) ?_
          refine s_icmp_ne (tgt := 110) dX12_sees_95 (by decide) (fun c76 => ?_) (fun c76 => ?_)
          · -- 95 to 110
            have hbwG74 : gS G74 1000 102 = gS G74 1000 102 := rfl
            refine s_iload_n dX12_sees_110 rfl ?_
            refine s_iconst dX12_sees_111 (by decide) ?_
            refine s_icmp_eq (tgt := 120) dX12_sees_112 (by decide) (fun c77 => ?_) (fun c77 => ?_)
            · -- 112 to 120
              refine s_aload_n dX12_sees_120 rfl (Int.natCast_nonneg _) ?_
              refine s_aload_n dX12_sees_121 rfl (Int.natCast_nonneg _) ?_
              refine gf_ident rfl dX12_sees_122 hMG74 ?_
              refine s_iload_n dX12_sees_125 rfl ?_
              refine s_iald dX12_sees_126 (mg_a_ident hMG74) (by omega) (by omega) (Eq.trans (Fr.atA hfG74 (by decide) (by decide)) (Eq.trans (Fr.atA hfG72 (by decide) (by decide)) (Eq.trans (Fr.atA hfG4 (by decide) (by decide)) (gsnE eG1 (by decide))))) ?_
              refine cv_X12_610 rfl gX12_tellsOf dX12_sees_127 hMG74 (by rw [hcf]; decide) (as := [(0, gS G a_ident ((gS G a_nFirst ((n).toNat)).toNat))]) rfl (Nat.le_of_ble_eq_true rfl) ⟨gS G a_ident ((gS G a_nFirst ((n).toNat)).toNat), rfl, hMG74, (by omega), fun G78 hMG78 hpG78 => ?_⟩
              obtain ⟨G80, eG80, eG78, hpG78⟩ := hpG78
              have hFG80 : Fr nX12_sees jX12_sees G G80 := Fr.setA hFG74 eG80 (by decide)
              have hFG78 : Fr nX12_sees jX12_sees G G78 := Fr.setF hFG80 eG78 (by decide)
              show WP kX12_sees X 130 [some (2, ((1000 : Nat) : Int)), some (0, n), some (0, gS G a_nKind ((n).toNat)), some (0, gS G a_nFirst ((n).toNat)), some (0, gS G a_nSecond ((n).toNat)), some (0, 1023)] [] G78
              have hbwG78 : gS G78 1000 102 = (gS G74 1000 102) + 1 := (gsaE eG78)
              refine s_aload_n dX12_sees_130 rfl (Int.natCast_nonneg _) ?_
              refine s_aload_n dX12_sees_131 rfl (Int.natCast_nonneg _) ?_
              refine gf_ident rfl dX12_sees_132 hMG78 ?_
              refine s_iload dX12_sees_135 rfl ?_
              refine s_iald dX12_sees_137 (mg_a_ident hMG78) (by omega) (by omega) (Eq.trans (gsnE eG78 (by decide)) (Eq.trans (gsnE eG80 (by decide)) (Eq.trans (Fr.atA hfG74 (by decide) (by decide)) (Eq.trans (Fr.atA hfG72 (by decide) (by decide)) (Eq.trans (Fr.atA hfG4 (by decide) (by decide)) (gsnE eG1 (by decide))))))) ?_
              refine cv_X12_610 rfl gX12_tellsOf dX12_sees_138 hMG78 (by rw [hcf]; decide) (as := [(0, gS G a_ident ((gS G a_nSecond ((n).toNat)).toNat))]) rfl (Nat.le_of_ble_eq_true rfl) ⟨gS G a_ident ((gS G a_nSecond ((n).toNat)).toNat), rfl, hMG78, (by omega), fun G81 hMG81 hpG81 => ?_⟩
              obtain ⟨G83, eG83, eG81, hpG81⟩ := hpG81
              have hFG83 : Fr nX12_sees jX12_sees G G83 := Fr.setA hFG78 eG83 (by decide)
              have hFG81 : Fr nX12_sees jX12_sees G G81 := Fr.setF hFG83 eG81 (by decide)
              show WP kX12_sees X 141 [some (2, ((1000 : Nat) : Int)), some (0, n), some (0, gS G a_nKind ((n).toNat)), some (0, gS G a_nFirst ((n).toNat)), some (0, gS G a_nSecond ((n).toNat)), some (0, 1023)] [] G81
              have hbwG81 : gS G81 1000 102 = (gS G78 1000 102) + 1 := (gsaE eG81)
              exact s_vret hR dX12_sees_141 rfl (hQ G81 hMG81 (⟨hFG81, (by rw [(gsaE eG81)]; omega)⟩))
            · -- 112 to 115
              refine s_iload_n dX12_sees_115 rfl ?_
              refine s_iconst dX12_sees_116 (by decide) ?_
              refine s_icmp_ne (tgt := 141) dX12_sees_117 (by decide) (fun c84 => ?_) (fun c84 => ?_)
              · -- 117 to 141
                have hbwG74 : gS G74 1000 102 = gS G74 1000 102 := rfl
                exact s_vret hR dX12_sees_141 rfl (hQ G74 hMG74 (⟨hFG74, (by omega)⟩))
              · -- 117 to 120
                refine s_aload_n dX12_sees_120 rfl (Int.natCast_nonneg _) ?_
                refine s_aload_n dX12_sees_121 rfl (Int.natCast_nonneg _) ?_
                refine gf_ident rfl dX12_sees_122 hMG74 ?_
                refine s_iload_n dX12_sees_125 rfl ?_
                refine s_iald dX12_sees_126 (mg_a_ident hMG74) (by omega) (by omega) (Eq.trans (Fr.atA hfG74 (by decide) (by decide)) (Eq.trans (Fr.atA hfG72 (by decide) (by decide)) (Eq.trans (Fr.atA hfG4 (by decide) (by decide)) (gsnE eG1 (by decide))))) ?_
                refine cv_X12_610 rfl gX12_tellsOf dX12_sees_127 hMG74 (by rw [hcf]; decide) (as := [(0, gS G a_ident ((gS G a_nFirst ((n).toNat)).toNat))]) rfl (Nat.le_of_ble_eq_true rfl) ⟨gS G a_ident ((gS G a_nFirst ((n).toNat)).toNat), rfl, hMG74, (by omega), fun G85 hMG85 hpG85 => ?_⟩
                obtain ⟨G87, eG87, eG85, hpG85⟩ := hpG85
                have hFG87 : Fr nX12_sees jX12_sees G G87 := Fr.setA hFG74 eG87 (by decide)
                have hFG85 : Fr nX12_sees jX12_sees G G85 := Fr.setF hFG87 eG85 (by decide)
                show WP kX12_sees X 130 [some (2, ((1000 : Nat) : Int)), some (0, n), some (0, gS G a_nKind ((n).toNat)), some (0, gS G a_nFirst ((n).toNat)), some (0, gS G a_nSecond ((n).toNat)), some (0, 1023)] [] G85
                have hbwG85 : gS G85 1000 102 = (gS G74 1000 102) + 1 := (gsaE eG85)
                refine s_aload_n dX12_sees_130 rfl (Int.natCast_nonneg _) ?_
                refine s_aload_n dX12_sees_131 rfl (Int.natCast_nonneg _) ?_
                refine gf_ident rfl dX12_sees_132 hMG85 ?_
                refine s_iload dX12_sees_135 rfl ?_
                refine s_iald dX12_sees_137 (mg_a_ident hMG85) (by omega) (by omega) (Eq.trans (gsnE eG85 (by decide)) (Eq.trans (gsnE eG87 (by decide)) (Eq.trans (Fr.atA hfG74 (by decide) (by decide)) (Eq.trans (Fr.atA hfG72 (by decide) (by decide)) (Eq.trans (Fr.atA hfG4 (by decide) (by decide)) (gsnE eG1 (by decide))))))) ?_
                refine cv_X12_610 rfl gX12_tellsOf dX12_sees_138 hMG85 (by rw [hcf]; decide) (as := [(0, gS G a_ident ((gS G a_nSecond ((n).toNat)).toNat))]) rfl (Nat.le_of_ble_eq_true rfl) ⟨gS G a_ident ((gS G a_nSecond ((n).toNat)).toNat), rfl, hMG85, (by omega), fun G88 hMG88 hpG88 => ?_⟩
                obtain ⟨G90, eG90, eG88, hpG88⟩ := hpG88
                have hFG90 : Fr nX12_sees jX12_sees G G90 := Fr.setA hFG85 eG90 (by decide)
                have hFG88 : Fr nX12_sees jX12_sees G G88 := Fr.setF hFG90 eG88 (by decide)
                show WP kX12_sees X 141 [some (2, ((1000 : Nat) : Int)), some (0, n), some (0, gS G a_nKind ((n).toNat)), some (0, gS G a_nFirst ((n).toNat)), some (0, gS G a_nSecond ((n).toNat)), some (0, 1023)] [] G88
                have hbwG88 : gS G88 1000 102 = (gS G85 1000 102) + 1 := (gsaE eG88)
                exact s_vret hR dX12_sees_141 rfl (hQ G88 hMG88 (⟨hFG88, (by rw [(gsaE eG88)]; omega)⟩))
          · -- 95 to 98
            refine s_aload_n dX12_sees_98 rfl (Int.natCast_nonneg _) ?_
            refine s_aload_n dX12_sees_99 rfl (Int.natCast_nonneg _) ?_
            refine gf_nThird rfl dX12_sees_100 hMG74 ?_
            refine s_iload_n dX12_sees_103 rfl ?_
            refine s_iald dX12_sees_104 (mg_a_nThird hMG74) (by omega) (by omega) (Eq.trans (Fr.atA hfG74 (by decide) (by decide)) (Eq.trans (Fr.atA hfG72 (by decide) (by decide)) (Eq.trans (Fr.atA hfG4 (by decide) (by decide)) (gsnE eG1 (by decide))))) ?_
            refine s_iload dX12_sees_105 rfl ?_
            have hbwG74 : gS G74 1000 102 = gS G74 1000 102 := rfl
            refine cv_X12_628 rfl gX12_tellsFace dX12_sees_107 hMG74 (by rw [hcf]; decide) (as := [(0, gS G a_nThird ((n).toNat)), (0, 1023)]) rfl (Nat.le_of_ble_eq_true rfl) ⟨gS G a_nThird ((n).toNat), 1023, rfl, hMG74, (by exact hFU.agr (hFG74.agr (by decide) (by decide) (by decide)) (by rw [hFG74.atF (j := 42) (by decide) (by decide)]; exact Int.le_refl _)), (by (have z9 := hFG74.atF (j := 42) (by decide) (by decide); omega)), (by omega), (by exact RS1.agr (hq3 (by omega)) (hFG74.agr (by decide) (by decide) (by decide))), (by omega), fun G91 hMG91 hpG91 => ?_⟩
            obtain ⟨hfG91, hpG91⟩ := hpG91
            have hFG91 : Fr nX12_sees jX12_sees G G91 := Fr.call hFG74 hfG91 (by decide) (by decide)
            show WP kX12_sees X 110 [some (2, ((1000 : Nat) : Int)), some (0, n), some (0, gS G a_nKind ((n).toNat)), some (0, gS G a_nFirst ((n).toNat)), some (0, gS G a_nSecond ((n).toNat)), some (0, 1023)] [] G91
            have hbwG91 : gS G91 1000 102 = gS G91 1000 102 := rfl
            refine s_iload_n dX12_sees_110 rfl ?_
            refine s_iconst dX12_sees_111 (by decide) ?_
            refine s_icmp_eq (tgt := 120) dX12_sees_112 (by decide) (fun c93 => ?_) (fun c93 => ?_)
            · -- 112 to 120
              refine s_aload_n dX12_sees_120 rfl (Int.natCast_nonneg _) ?_
              refine s_aload_n dX12_sees_121 rfl (Int.natCast_nonneg _) ?_
              refine gf_ident rfl dX12_sees_122 hMG91 ?_
              refine s_iload_n dX12_sees_125 rfl ?_
              refine s_iald dX12_sees_126 (mg_a_ident hMG91) (by omega) (by omega) (Eq.trans (Fr.atA hfG91 (by decide) (by decide)) (Eq.trans (Fr.atA hfG74 (by decide) (by decide)) (Eq.trans (Fr.atA hfG72 (by decide) (by decide)) (Eq.trans (Fr.atA hfG4 (by decide) (by decide)) (gsnE eG1 (by decide)))))) ?_
              refine cv_X12_610 rfl gX12_tellsOf dX12_sees_127 hMG91 (by rw [hcf]; decide) (as := [(0, gS G a_ident ((gS G a_nFirst ((n).toNat)).toNat))]) rfl (Nat.le_of_ble_eq_true rfl) ⟨gS G a_ident ((gS G a_nFirst ((n).toNat)).toNat), rfl, hMG91, (by omega), fun G94 hMG94 hpG94 => ?_⟩
              obtain ⟨G96, eG96, eG94, hpG94⟩ := hpG94
              have hFG96 : Fr nX12_sees jX12_sees G G96 := Fr.setA hFG91 eG96 (by decide)
              have hFG94 : Fr nX12_sees jX12_sees G G94 := Fr.setF hFG96 eG94 (by decide)
              show WP kX12_sees X 130 [some (2, ((1000 : Nat) : Int)), some (0, n), some (0, gS G a_nKind ((n).toNat)), some (0, gS G a_nFirst ((n).toNat)), some (0, gS G a_nSecond ((n).toNat)), some (0, 1023)] [] G94
              have hbwG94 : gS G94 1000 102 = (gS G91 1000 102) + 1 := (gsaE eG94)
              refine s_aload_n dX12_sees_130 rfl (Int.natCast_nonneg _) ?_
              refine s_aload_n dX12_sees_131 rfl (Int.natCast_nonneg _) ?_
              refine gf_ident rfl dX12_sees_132 hMG94 ?_
              refine s_iload dX12_sees_135 rfl ?_
              refine s_iald dX12_sees_137 (mg_a_ident hMG94) (by omega) (by omega) (Eq.trans (gsnE eG94 (by decide)) (Eq.trans (gsnE eG96 (by decide)) (Eq.trans (Fr.atA hfG91 (by decide) (by decide)) (Eq.trans (Fr.atA hfG74 (by decide) (by decide)) (Eq.trans (Fr.atA hfG72 (by decide) (by decide)) (Eq.trans (Fr.atA hfG4 (by decide) (by decide)) (gsnE eG1 (by decide)))))))) ?_
              refine cv_X12_610 rfl gX12_tellsOf dX12_sees_138 hMG94 (by rw [hcf]; decide) (as := [(0, gS G a_ident ((gS G a_nSecond ((n).toNat)).toNat))]) rfl (Nat.le_of_ble_eq_true rfl) ⟨gS G a_ident ((gS G a_nSecond ((n).toNat)).toNat), rfl, hMG94, (by omega), fun G97 hMG97 hpG97 => ?_⟩
              obtain ⟨G99, eG99, eG97, hpG97⟩ := hpG97
              have hFG99 : Fr nX12_sees jX12_sees G G99 := Fr.setA hFG94 eG99 (by decide)
              have hFG97 : Fr nX12_sees jX12_sees G G97 := Fr.setF hFG99 eG97 (by decide)
              show WP kX12_sees X 141 [some (2, ((1000 : Nat) : Int)), some (0, n), some (0, gS G a_nKind ((n).toNat)), some (0, gS G a_nFirst ((n).toNat)), some (0, gS G a_nSecond ((n).toNat)), some (0, 1023)] [] G97
              have hbwG97 : gS G97 1000 102 = (gS G94 1000 102) + 1 := (gsaE eG97)
              exact s_vret hR dX12_sees_141 rfl (hQ G97 hMG97 (⟨hFG97, (by rw [(gsaE eG97)]; omega)⟩))
            · -- 112 to 115
              refine s_iload_n dX12_sees_115 rfl ?_
              refine s_iconst dX12_sees_116 (by decide) ?_
              refine s_icmp_ne (tgt := 141) dX12_sees_117 (by decide) (fun c100 => ?_) (fun c100 => ?_)
              · -- 117 to 141
                have hbwG91 : gS G91 1000 102 = gS G91 1000 102 := rfl
                exact s_vret hR dX12_sees_141 rfl (hQ G91 hMG91 (⟨hFG91, (by omega)⟩))
              · -- 117 to 120
                refine s_aload_n dX12_sees_120 rfl (Int.natCast_nonneg _) ?_
                refine s_aload_n dX12_sees_121 rfl (Int.natCast_nonneg _) ?_
                refine gf_ident rfl dX12_sees_122 hMG91 ?_
                refine s_iload_n dX12_sees_125 rfl ?_
                refine s_iald dX12_sees_126 (mg_a_ident hMG91) (by omega) (by omega) (Eq.trans (Fr.atA hfG91 (by decide) (by decide)) (Eq.trans (Fr.atA hfG74 (by decide) (by decide)) (Eq.trans (Fr.atA hfG72 (by decide) (by decide)) (Eq.trans (Fr.atA hfG4 (by decide) (by decide)) (gsnE eG1 (by decide)))))) ?_
                refine cv_X12_610 rfl gX12_tellsOf dX12_sees_127 hMG91 (by rw [hcf]; decide) (as := [(0, gS G a_ident ((gS G a_nFirst ((n).toNat)).toNat))]) rfl (Nat.le_of_ble_eq_true rfl) ⟨gS G a_ident ((gS G a_nFirst ((n).toNat)).toNat), rfl, hMG91, (by omega), fun G101 hMG101 hpG101 => ?_⟩
                obtain ⟨G103, eG103, eG101, hpG101⟩ := hpG101
                have hFG103 : Fr nX12_sees jX12_sees G G103 := Fr.setA hFG91 eG103 (by decide)
                have hFG101 : Fr nX12_sees jX12_sees G G101 := Fr.setF hFG103 eG101 (by decide)
                show WP kX12_sees X 130 [some (2, ((1000 : Nat) : Int)), some (0, n), some (0, gS G a_nKind ((n).toNat)), some (0, gS G a_nFirst ((n).toNat)), some (0, gS G a_nSecond ((n).toNat)), some (0, 1023)] [] G101
                have hbwG101 : gS G101 1000 102 = (gS G91 1000 102) + 1 := (gsaE eG101)
                refine s_aload_n dX12_sees_130 rfl (Int.natCast_nonneg _) ?_
                refine s_aload_n dX12_sees_131 rfl (Int.natCast_nonneg _) ?_
                refine gf_ident rfl dX12_sees_132 hMG101 ?_
                refine s_iload dX12_sees_135 rfl ?_
                refine s_iald dX12_sees_137 (mg_a_ident hMG101) (by omega) (by omega) (Eq.trans (gsnE eG101 (by decide)) (Eq.trans (gsnE eG103 (by decide)) (Eq.trans (Fr.atA hfG91 (by decide) (by decide)) (Eq.trans (Fr.atA hfG74 (by decide) (by decide)) (Eq.trans (Fr.atA hfG72 (by decide) (by decide)) (Eq.trans (Fr.atA hfG4 (by decide) (by decide)) (gsnE eG1 (by decide)))))))) ?_
                refine cv_X12_610 rfl gX12_tellsOf dX12_sees_138 hMG101 (by rw [hcf]; decide) (as := [(0, gS G a_ident ((gS G a_nSecond ((n).toNat)).toNat))]) rfl (Nat.le_of_ble_eq_true rfl) ⟨gS G a_ident ((gS G a_nSecond ((n).toNat)).toNat), rfl, hMG101, (by omega), fun G104 hMG104 hpG104 => ?_⟩
                obtain ⟨G106, eG106, eG104, hpG104⟩ := hpG104
                have hFG106 : Fr nX12_sees jX12_sees G G106 := Fr.setA hFG101 eG106 (by decide)
                have hFG104 : Fr nX12_sees jX12_sees G G104 := Fr.setF hFG106 eG104 (by decide)
                show WP kX12_sees X 141 [some (2, ((1000 : Nat) : Int)), some (0, n), some (0, gS G a_nKind ((n).toNat)), some (0, gS G a_nFirst ((n).toNat)), some (0, gS G a_nSecond ((n).toNat)), some (0, 1023)] [] G104
                have hbwG104 : gS G104 1000 102 = (gS G101 1000 102) + 1 := (gsaE eG104)
                exact s_vret hR dX12_sees_141 rfl (hQ G104 hMG104 (⟨hFG104, (by rw [(gsaE eG104)]; omega)⟩))
    · -- 50 to 53
      refine s_aload_n dX12_sees_53 rfl (Int.natCast_nonneg _) ?_
      refine s_iload dX12_sees_54 rfl ?_
      refine cv_X12_625 rfl gX12_valuesOf dX12_sees_56 hMG1 (by rw [hcf]; decide) (as := [(0, gS G a_nSecond ((n).toNat))]) rfl (Nat.le_of_ble_eq_true rfl) ⟨gS G a_nSecond ((n).toNat), rfl, hMG1, (by first | assumption | omega), fun r108 G107 hMG107 hpG107 => ?_⟩
      obtain ⟨hfG107, hpG107⟩ := hpG107
      have hFG107 : Fr nX12_sees jX12_sees G G107 := Fr.call hFG1 hfG107 (by decide) (by decide)
      show WP kX12_sees X 59 [some (2, ((1000 : Nat) : Int)), some (0, n), some (0, gS G a_nKind ((n).toNat)), some (0, gS G a_nFirst ((n).toNat)), some (0, gS G a_nSecond ((n).toNat)), some (0, 1023)] [(0, r108), (0, gS G a_nFirst ((n).toNat)), (2, ((1000 : Nat) : Int))] G107
      refine s_goto (tgt := 64) dX12_sees_59 (by decide) ?_
      have hbwG107 : gS G107 1000 102 = 0 := (Eq.trans (Fr.atF hfG107 (by decide) (by decide)) (gsaE eG1))
      refine cv_X12_628 rfl gX12_tellsFace dX12_sees_64 hMG107 (by rw [hcf]; decide) (as := [(0, gS G a_nFirst ((n).toNat)), (0, r108)]) rfl (Nat.le_of_ble_eq_true rfl) ⟨gS G a_nFirst ((n).toNat), r108, rfl, hMG107, (by exact hFU.agr (hFG107.agr (by decide) (by decide) (by decide)) (by rw [hFG107.atF (j := 42) (by decide) (by decide)]; exact Int.le_refl _)), (by (have z9 := hFG107.atF (j := 42) (by decide) (by decide); omega)), (by omega), (by exact RS1.agr (hq1) (hFG107.agr (by decide) (by decide) (by decide))), (by omega), fun G109 hMG109 hpG109 => ?_⟩
      obtain ⟨hfG109, hpG109⟩ := hpG109
      have hFG109 : Fr nX12_sees jX12_sees G G109 := Fr.call hFG107 hfG109 (by decide) (by decide)
      show WP kX12_sees X 67 [some (2, ((1000 : Nat) : Int)), some (0, n), some (0, gS G a_nKind ((n).toNat)), some (0, gS G a_nFirst ((n).toNat)), some (0, gS G a_nSecond ((n).toNat)), some (0, 1023)] [] G109
      have hbwG109 : gS G109 1000 102 = gS G109 1000 102 := rfl
      refine s_iload_n dX12_sees_67 rfl ?_
      refine s_iconst dX12_sees_68 (by decide) ?_
      refine s_icmp_ge (tgt := 93) dX12_sees_69 (by decide) (fun c111 => ?_) (fun c111 => ?_)
      · -- 69 to 93
        have hbwG109 : gS G109 1000 102 = gS G109 1000 102 := rfl
        refine s_iload_n dX12_sees_93 rfl ?_
        refine s_iconst dX12_sees_94 (by decide) ?_
        refine s_icmp_ne (tgt := 110) dX12_sees_95 (by decide) (fun c112 => ?_) (fun c112 => ?_)
        · -- 95 to 110
          have hbwG109 : gS G109 1000 102 = gS G109 1000 102 := rfl
          refine s_iload_n dX12_sees_110 rfl ?_
          refine s_iconst dX12_sees_111 (by decide) ?_
          refine s_icmp_eq (tgt := 120) dX12_sees_112 (by decide) (fun c113 => ?_) (fun c113 => ?_)
          · -- 112 to 120
            refine s_aload_n dX12_sees_120 rfl (Int.natCast_nonneg _) ?_
            refine s_aload_n dX12_sees_121 rfl (Int.natCast_nonneg _) ?_
            refine gf_ident rfl dX12_sees_122 hMG109 ?_
            refine s_iload_n dX12_sees_125 rfl ?_
            refine s_iald dX12_sees_126 (mg_a_ident hMG109) (by omega) (by omega) (Eq.trans (Fr.atA hfG109 (by decide) (by decide)) (Eq.trans (Fr.atA hfG107 (by decide) (by decide)) (gsnE eG1 (by decide)))) ?_
            refine cv_X12_610 rfl gX12_tellsOf dX12_sees_127 hMG109 (by rw [hcf]; decide) (as := [(0, gS G a_ident ((gS G a_nFirst ((n).toNat)).toNat))]) rfl (Nat.le_of_ble_eq_true rfl) ⟨gS G a_ident ((gS G a_nFirst ((n).toNat)).toNat), rfl, hMG109, (by omega), fun G114 hMG114 hpG114 => ?_⟩
            obtain ⟨G116, eG116, eG114, hpG114⟩ := hpG114
            have hFG116 : Fr nX12_sees jX12_sees G G116 := Fr.setA hFG109 eG116 (by decide)
            have hFG114 : Fr nX12_sees jX12_sees G G114 := Fr.setF hFG116 eG114 (by decide)
            show WP kX12_sees X 130 [some (2, ((1000 : Nat) : Int)), some (0, n), some (0, gS G a_nKind ((n).toNat)), some (0, gS G a_nFirst ((n).toNat)), some (0, gS G a_nSecond ((n).toNat)), some (0, 1023)] [] G114
            have hbwG114 : gS G114 1000 102 = (gS G109 1000 102) + 1 := (gsaE eG114)
            refine s_aload_n dX12_sees_130 rfl (Int.natCast_nonneg _) ?_
            refine s_aload_n dX12_sees_131 rfl (Int.natCast_nonneg _) ?_
            refine gf_ident rfl dX12_sees_132 hMG114 ?_
            refine s_iload dX12_sees_135 rfl ?_
            refine s_iald dX12_sees_137 (mg_a_ident hMG114) (by omega) (by omega) (Eq.trans (gsnE eG114 (by decide)) (Eq.trans (gsnE eG116 (by decide)) (Eq.trans (Fr.atA hfG109 (by decide) (by decide)) (Eq.trans (Fr.atA hfG107 (by decide) (by decide)) (gsnE eG1 (by decide)))))) ?_
            refine cv_X12_610 rfl gX12_tellsOf dX12_sees_138 hMG114 (by rw [hcf]; decide) (as := [(0, gS G a_ident ((gS G a_nSecond ((n).toNat)).toNat))]) rfl (Nat.le_of_ble_eq_true rfl) ⟨gS G a_ident ((gS G a_nSecond ((n).toNat)).toNat), rfl, hMG114, (by omega), fun G117 hMG117 hpG117 => ?_⟩
            obtain ⟨G119, eG119, eG117, hpG117⟩ := hpG117
            have hFG119 : Fr nX12_sees jX12_sees G G119 := Fr.setA hFG114 eG119 (by decide)
            have hFG117 : Fr nX12_sees jX12_sees G G117 := Fr.setF hFG119 eG117 (by decide)
            show WP kX12_sees X 141 [some (2, ((1000 : Nat) : Int)), some (0, n), some (0, gS G a_nKind ((n).toNat)), some (0, gS G a_nFirst ((n).toNat)), some (0, gS G a_nSecond ((n).toNat)), some (0, 1023)] [] G117
            have hbwG117 : gS G117 1000 102 = (gS G114 1000 102) + 1 := (gsaE eG117)
            exact s_vret hR dX12_sees_141 rfl (hQ G117 hMG117 (⟨hFG117, (by rw [(gsaE eG117)]; omega)⟩))
          · -- 112 to 115
            refine s_iload_n dX12_sees_115 rfl ?_
            refine s_iconst dX12_sees_116 (by decide) ?_
            refine s_icmp_ne (tgt := 141) dX12_sees_117 (by decide) (fun c120 => ?_) (fun c120 => ?_)
            · -- 117 to 141
              have hbwG109 : gS G109 1000 102 = gS G109 1000 102 := rfl
              exact s_vret hR dX12_sees_141 rfl (hQ G109 hMG109 (⟨hFG109, (by omega)⟩))
            · -- 117 to 120
              refine s_aload_n dX12_sees_120 rfl (Int.natCast_nonneg _) ?_
              refine s_aload_n dX12_sees_121 rfl (Int.natCast_nonneg _) ?_
              refine gf_ident rfl dX12_sees_122 hMG109 ?_
              refine s_iload_n dX12_sees_125 rfl ?_
              refine s_iald dX12_sees_126 (mg_a_ident hMG109) (by omega) (by omega) (Eq.trans (Fr.atA hfG109 (by decide) (by decide)) (Eq.trans (Fr.atA hfG107 (by decide) (by decide)) (gsnE eG1 (by decide)))) ?_
              refine cv_X12_610 rfl gX12_tellsOf dX12_sees_127 hMG109 (by rw [hcf]; decide) (as := [(0, gS G a_ident ((gS G a_nFirst ((n).toNat)).toNat))]) rfl (Nat.le_of_ble_eq_true rfl) ⟨gS G a_ident ((gS G a_nFirst ((n).toNat)).toNat), rfl, hMG109, (by omega), fun G121 hMG121 hpG121 => ?_⟩
              obtain ⟨G123, eG123, eG121, hpG121⟩ := hpG121
              have hFG123 : Fr nX12_sees jX12_sees G G123 := Fr.setA hFG109 eG123 (by decide)
              have hFG121 : Fr nX12_sees jX12_sees G G121 := Fr.setF hFG123 eG121 (by decide)
              show WP kX12_sees X 130 [some (2, ((1000 : Nat) : Int)), some (0, n), some (0, gS G a_nKind ((n).toNat)), some (0, gS G a_nFirst ((n).toNat)), some (0, gS G a_nSecond ((n).toNat)), some (0, 1023)] [] G121
              have hbwG121 : gS G121 1000 102 = (gS G109 1000 102) + 1 := (gsaE eG121)
              refine s_aload_n dX12_sees_130 rfl (Int.natCast_nonneg _) ?_
              refine s_aload_n dX12_sees_131 rfl (Int.natCast_nonneg _) ?_
              refine gf_ident rfl dX12_sees_132 hMG121 ?_
              refine s_iload dX12_sees_135 rfl ?_
              refine s_iald dX12_sees_137 (mg_a_ident hMG121) (by omega) (by omega) (Eq.trans (gsnE eG121 (by decide)) (Eq.trans (gsnE eG123 (by decide)) (Eq.trans (Fr.atA hfG109 (by decide) (by decide)) (Eq.trans (Fr.atA hfG107 (by decide) (by decide)) (gsnE eG1 (by decide)))))) ?_
              refine cv_X12_610 rfl gX12_tellsOf dX12_sees_138 hMG121 (by rw [hcf]; decide) (as := [(0, gS G a_ident ((gS G a_nSecond ((n).toNat)).toNat))]) rfl (Nat.le_of_ble_eq_true rfl) ⟨gS G a_ident ((gS G a_nSecond ((n).toNat)).toNat), rfl, hMG121, (by omega), fun G124 hMG124 hpG124 => ?_⟩
              obtain ⟨G126, eG126, eG124, hpG124⟩ := hpG124
              have hFG126 : Fr nX12_sees jX12_sees G G126 := Fr.setA hFG121 eG126 (by decide)
              have hFG124 : Fr nX12_sees jX12_sees G G124 := Fr.setF hFG126 eG124 (by decide)
              show WP kX12_sees X 141 [some (2, ((1000 : Nat) : Int)), some (0, n), some (0, gS G a_nKind ((n).toNat)), some (0, gS G a_nFirst ((n).toNat)), some (0, gS G a_nSecond ((n).toNat)), some (0, 1023)] [] G124
              have hbwG124 : gS G124 1000 102 = (gS G121 1000 102) + 1 := (gsaE eG124)
              exact s_vret hR dX12_sees_141 rfl (hQ G124 hMG124 (⟨hFG124, (by rw [(gsaE eG124)]; omega)⟩))
        · -- 95 to 98
          refine s_aload_n dX12_sees_98 rfl (Int.natCast_nonneg _) ?_
          refine s_aload_n dX12_sees_99 rfl (Int.natCast_nonneg _) ?_
          refine gf_nThird rfl dX12_sees_100 hMG109 ?_
          refine s_iload_n dX12_sees_103 rfl ?_
          refine s_iald dX12_sees_104 (mg_a_nThird hMG109) (by omega) (by omega) (Eq.trans (Fr.atA hfG109 (by decide) (by decide)) (Eq.trans (Fr.atA hfG107 (by decide) (by decide)) (gsnE eG1 (by decide)))) ?_
          refine s_iload dX12_sees_105 rfl ?_
          have hbwG109 : gS G109 1000 102 = gS G109 1000 102 := rfl
          refine cv_X12_628 rfl gX12_tellsFace dX12_sees_107 hMG109 (by rw [hcf]; decide) (as := [(0, gS G a_nThird ((n).toNat)), (0, 1023)]) rfl (Nat.le_of_ble_eq_true rfl) ⟨gS G a_nThird ((n).toNat), 1023, rfl, hMG109, (by exact hFU.agr (hFG109.agr (by decide) (by decide) (by decide)) (by rw [hFG109.atF (j := 42) (by decide) (by decide)]; exact Int.le_refl _)), (by (have z9 := hFG109.atF (j := 42) (by decide) (by decide); omega)), (by omega), (by exact RS1.agr (hq3 (by omega)) (hFG109.agr (by decide) (by decide) (by decide))), (by omega), fun G127 hMG127 hpG127 => ?_⟩
          obtain ⟨hfG127, hpG127⟩ := hpG127
          have hFG127 : Fr nX12_sees jX12_sees G G127 := Fr.call hFG109 hfG127 (by decide) (by decide)
          show WP kX12_sees X 110 [some (2, ((1000 : Nat) : Int)), some (0, n), some (0, gS G a_nKind ((n).toNat)), some (0, gS G a_nFirst ((n).toNat)), some (0, gS G a_nSecond ((n).toNat)), some (0, 1023)] [] G127
          have hbwG127 : gS G127 1000 102 = gS G127 1000 102 := rfl
          refine s_iload_n dX12_sees_110 rfl ?_
          refine s_iconst dX12_sees_111 (by decide) ?_
          refine s_icmp_eq (tgt := 120) dX12_sees_112 (by decide) (fun c129 => ?_) (fun c129 => ?_)
          · -- 112 to 120
            refine s_aload_n dX12_sees_120 rfl (Int.natCast_nonneg _) ?_
            refine s_aload_n dX12_sees_121 rfl (Int.natCast_nonneg _) ?_
            refine gf_ident rfl dX12_sees_122 hMG127 ?_
            refine s_iload_n dX12_sees_125 rfl ?_
            refine s_iald dX12_sees_126 (mg_a_ident hMG127) (by omega) (by omega) (Eq.trans (Fr.atA hfG127 (by decide) (by decide)) (Eq.trans (Fr.atA hfG109 (by decide) (by decide)) (Eq.trans (Fr.atA hfG107 (by decide) (by decide)) (gsnE eG1 (by decide))))) ?_
            refine cv_X12_610 rfl gX12_tellsOf dX12_sees_127 hMG127 (by rw [hcf]; decide) (as := [(0, gS G a_ident ((gS G a_nFirst ((n).toNat)).toNat))]) rfl (Nat.le_of_ble_eq_true rfl) ⟨gS G a_ident ((gS G a_nFirst ((n).toNat)).toNat), rfl, hMG127, (by omega), fun G130 hMG130 hpG130 => ?_⟩
            obtain ⟨G132, eG132, eG130, hpG130⟩ := hpG130
            have hFG132 : Fr nX12_sees jX12_sees G G132 := Fr.setA hFG127 eG132 (by decide)
            have hFG130 : Fr nX12_sees jX12_sees G G130 := Fr.setF hFG132 eG130 (by decide)
            show WP kX12_sees X 130 [some (2, ((1000 : Nat) : Int)), some (0, n), some (0, gS G a_nKind ((n).toNat)), some (0, gS G a_nFirst ((n).toNat)), some (0, gS G a_nSecond ((n).toNat)), some (0, 1023)] [] G130
            have hbwG130 : gS G130 1000 102 = (gS G127 1000 102) + 1 := (gsaE eG130)
            refine s_aload_n dX12_sees_130 rfl (Int.natCast_nonneg _) ?_
            refine s_aload_n dX12_sees_131 rfl (Int.natCast_nonneg _) ?_
            refine gf_ident rfl dX12_sees_132 hMG130 ?_
            refine s_iload dX12_sees_135 rfl ?_
            refine s_iald dX12_sees_137 (mg_a_ident hMG130) (by omega) (by omega) (Eq.trans (gsnE eG130 (by decide)) (Eq.trans (gsnE eG132 (by decide)) (Eq.trans (Fr.atA hfG127 (by decide) (by decide)) (Eq.trans (Fr.atA hfG109 (by decide) (by decide)) (Eq.trans (Fr.atA hfG107 (by decide) (by decide)) (gsnE eG1 (by decide))))))) ?_
            refine cv_X12_610 rfl gX12_tellsOf dX12_sees_138 hMG130 (by rw [hcf]; decide) (as := [(0, gS G a_ident ((gS G a_nSecond ((n).toNat)).toNat))]) rfl (Nat.le_of_ble_eq_true rfl) ⟨gS G a_ident ((gS G a_nSecond ((n).toNat)).toNat), rfl, hMG130, (by omega), fun G133 hMG133 hpG133 => ?_⟩
            obtain ⟨G135, eG135, eG133, hpG133⟩ := hpG133
            have hFG135 : Fr nX12_sees jX12_sees G G135 := Fr.setA hFG130 eG135 (by decide)
            have hFG133 : Fr nX12_sees jX12_sees G G133 := Fr.setF hFG135 eG133 (by decide)
            show WP kX12_sees X 141 [some (2, ((1000 : Nat) : Int)), some (0, n), some (0, gS G a_nKind ((n).toNat)), some (0, gS G a_nFirst ((n).toNat)), some (0, gS G a_nSecond ((n).toNat)), some (0, 1023)] [] G133
            have hbwG133 : gS G133 1000 102 = (gS G130 1000 102) + 1 := (gsaE eG133)
            exact s_vret hR dX12_sees_141 rfl (hQ G133 hMG133 (⟨hFG133, (by rw [(gsaE eG133)]; omega)⟩))
          · -- 112 to 115
            refine s_iload_n dX12_sees_115 rfl ?_
            refine s_iconst dX12_sees_116 (by decide) ?_
            refine s_icmp_ne (tgt := 141) dX12_sees_117 (by decide) (fun c136 => ?_) (fun c136 => ?_)
            · -- 117 to 141
              have hbwG127 : gS G127 1000 102 = gS G127 1000 102 := rfl
              exact s_vret hR dX12_sees_141 rfl (hQ G127 hMG127 (⟨hFG127, (by omega)⟩))
            · -- 117 to 120
              refine s_aload_n dX12_sees_120 rfl (Int.natCast_nonneg _) ?_
              refine s_aload_n dX12_sees_121 rfl (Int.natCast_nonneg _) ?_
              refine gf_ident rfl dX12_sees_122 hMG127 ?_
              refine s_iload_n dX12_sees_125 rfl ?_
              refine s_iald dX12_sees_126 (mg_a_ident hMG127) (by omega) (by omega) (Eq.trans (Fr.atA hfG127 (by decide) (by decide)) (Eq.trans (Fr.atA hfG109 (by decide) (by decide)) (Eq.trans (Fr.atA hfG107 (by decide) (by decide)) (gsnE eG1 (by decide))))) ?_
              refine cv_X12_610 rfl gX12_tellsOf dX12_sees_127 hMG127 (by rw [hcf]; decide) (as := [(0, gS G a_ident ((gS G a_nFirst ((n).toNat)).toNat))]) rfl (Nat.le_of_ble_eq_true rfl) ⟨gS G a_ident ((gS G a_nFirst ((n).toNat)).toNat), rfl, hMG127, (by omega), fun G137 hMG137 hpG137 => ?_⟩
              obtain ⟨G139, eG139, eG137, hpG137⟩ := hpG137
              have hFG139 : Fr nX12_sees jX12_sees G G139 := Fr.setA hFG127 eG139 (by decide)
              have hFG137 : Fr nX12_sees jX12_sees G G137 := Fr.setF hFG139 eG137 (by decide)
              show WP kX12_sees X 130 [some (2, ((1000 : Nat) : Int)), some (0, n), some (0, gS G a_nKind ((n).toNat)), some (0, gS G a_nFirst ((n).toNat)), some (0, gS G a_nSecond ((n).toNat)), some (0, 1023)] [] G137
              have hbwG137 : gS G137 1000 102 = (gS G127 1000 102) + 1 := (gsaE eG137)
              refine s_aload_n dX12_sees_130 rfl (Int.natCast_nonneg _) ?_
              refine s_aload_n dX12_sees_131 rfl (Int.natCast_nonneg _) ?_
              refine gf_ident rfl dX12_sees_132 hMG137 ?_
              refine s_iload dX12_sees_135 rfl ?_
              refine s_iald dX12_sees_137 (mg_a_ident hMG137) (by omega) (by omega) (Eq.trans (gsnE eG137 (by decide)) (Eq.trans (gsnE eG139 (by decide)) (Eq.trans (Fr.atA hfG127 (by decide) (by decide)) (Eq.trans (Fr.atA hfG109 (by decide) (by decide)) (Eq.trans (Fr.atA hfG107 (by decide) (by decide)) (gsnE eG1 (by decide))))))) ?_
              refine cv_X12_610 rfl gX12_tellsOf dX12_sees_138 hMG137 (by rw [hcf]; decide) (as := [(0, gS G a_ident ((gS G a_nSecond ((n).toNat)).toNat))]) rfl (Nat.le_of_ble_eq_true rfl) ⟨gS G a_ident ((gS G a_nSecond ((n).toNat)).toNat), rfl, hMG137, (by omega), fun G140 hMG140 hpG140 => ?_⟩
              obtain ⟨G142, eG142, eG140, hpG140⟩ := hpG140
              have hFG142 : Fr nX12_sees jX12_sees G G142 := Fr.setA hFG137 eG142 (by decide)
              have hFG140 : Fr nX12_sees jX12_sees G G140 := Fr.setF hFG142 eG140 (by decide)
              show WP kX12_sees X 141 [some (2, ((1000 : Nat) : Int)), some (0, n), some (0, gS G a_nKind ((n).toNat)), some (0, gS G a_nFirst ((n).toNat)), some (0, gS G a_nSecond ((n).toNat)), some (0, 1023)] [] G140
              have hbwG140 : gS G140 1000 102 = (gS G137 1000 102) + 1 := (gsaE eG140)
              exact s_vret hR dX12_sees_141 rfl (hQ G140 hMG140 (⟨hFG140, (by rw [(gsaE eG140)]; omega)⟩))
      · -- 69 to 72
        refine s_aload_n dX12_sees_72 rfl (Int.natCast_nonneg _) ?_
        refine s_iload dX12_sees_73 rfl ?_
        refine s_iload_n dX12_sees_75 rfl ?_
        refine s_iconst dX12_sees_76 (by decide) ?_
        refine s_icmp_ne (tgt := 88) dX12_sees_77 (by decide) (fun c143 => ?_) (fun c143 => ?_)
        · -- 77 to 88
          refine s_iload dX12_sees_88 rfl ?_
          have hbwG109 : gS G109 1000 102 = gS G109 1000 102 := rfl
          refine cv_X12_628 rfl gX12_tellsFace dX12_sees_90 hMG109 (by rw [hcf]; decide) (as := [(0, gS G a_nSecond ((n).toNat)), (0, 1023)]) rfl (Nat.le_of_ble_eq_true rfl) ⟨gS G a_nSecond ((n).toNat), 1023, rfl, hMG109, (by exact hFU.agr (hFG109.agr (by decide) (by decide) (by decide)) (by rw [hFG109.atF (j := 42) (by decide) (by decide)]; exact Int.le_refl _)), (by (have z9 := hFG109.atF (j := 42) (by decide) (by decide); omega)), (by omega), (by exact RS1.agr (hq2 (by omega)) (hFG109.agr (by decide) (by decide) (by decide))), (by omega), fun G144 hMG144 hpG144 => ?_⟩
          obtain ⟨hfG144, hpG144⟩ := hpG144
          have hFG144 : Fr nX12_sees jX12_sees G G144 := Fr.call hFG109 hfG144 (by decide) (by decide)
          show WP kX12_sees X 93 [some (2, ((1000 : Nat) : Int)), some (0, n), some (0, gS G a_nKind ((n).toNat)), some (0, gS G a_nFirst ((n).toNat)), some (0, gS G a_nSecond ((n).toNat)), some (0, 1023)] [] G144
          have hbwG144 : gS G144 1000 102 = gS G144 1000 102 := rfl
          refine s_iload_n dX12_sees_93 rfl ?_
          refine s_iconst dX12_sees_94 (by decide) ?_
          refine s_icmp_ne (tgt := 110) dX12_sees_95 (by decide) (fun c146 => ?_) (fun c146 => ?_)
          · -- 95 to 110
            have hbwG144 : gS G144 1000 102 = gS G144 1000 102 := rfl
            refine s_iload_n dX12_sees_110 rfl ?_
            refine s_iconst dX12_sees_111 (by decide) ?_
            refine s_icmp_eq (tgt := 120) dX12_sees_112 (by decide) (fun c147 => ?_) (fun c147 => ?_)
            · -- 112 to 120
              refine s_aload_n dX12_sees_120 rfl (Int.natCast_nonneg _) ?_
              refine s_aload_n dX12_sees_121 rfl (Int.natCast_nonneg _) ?_
              refine gf_ident rfl dX12_sees_122 hMG144 ?_
              refine s_iload_n dX12_sees_125 rfl ?_
              refine s_iald dX12_sees_126 (mg_a_ident hMG144) (by omega) (by omega) (Eq.trans (Fr.atA hfG144 (by decide) (by decide)) (Eq.trans (Fr.atA hfG109 (by decide) (by decide)) (Eq.trans (Fr.atA hfG107 (by decide) (by decide)) (gsnE eG1 (by decide))))) ?_
              refine cv_X12_610 rfl gX12_tellsOf dX12_sees_127 hMG144 (by rw [hcf]; decide) (as := [(0, gS G a_ident ((gS G a_nFirst ((n).toNat)).toNat))]) rfl (Nat.le_of_ble_eq_true rfl) ⟨gS G a_ident ((gS G a_nFirst ((n).toNat)).toNat), rfl, hMG144, (by omega), fun G148 hMG148 hpG148 => ?_⟩
              obtain ⟨G150, eG150, eG148, hpG148⟩ := hpG148
              have hFG150 : Fr nX12_sees jX12_sees G G150 := Fr.setA hFG144 eG150 (by decide)
              have hFG148 : Fr nX12_sees jX12_sees G G148 := Fr.setF hFG150 eG148 (by decide)
              show WP kX12_sees X 130 [some (2, ((1000 : Nat) : Int)), some (0, n), some (0, gS G a_nKind ((n).toNat)), some (0, gS G a_nFirst ((n).toNat)), some (0, gS G a_nSecond ((n).toNat)), some (0, 1023)] [] G148
              have hbwG148 : gS G148 1000 102 = (gS G144 1000 102) + 1 := (gsaE eG148)
              refine s_aload_n dX12_sees_130 rfl (Int.natCast_nonneg _) ?_
              refine s_aload_n dX12_sees_131 rfl (Int.natCast_nonneg _) ?_
              refine gf_ident rfl dX12_sees_132 hMG148 ?_
              refine s_iload dX12_sees_135 rfl ?_
              refine s_iald dX12_sees_137 (mg_a_ident hMG148) (by omega) (by omega) (Eq.trans (gsnE eG148 (by decide)) (Eq.trans (gsnE eG150 (by decide)) (Eq.trans (Fr.atA hfG144 (by decide) (by decide)) (Eq.trans (Fr.atA hfG109 (by decide) (by decide)) (Eq.trans (Fr.atA hfG107 (by decide) (by decide)) (gsnE eG1 (by decide))))))) ?_
              refine cv_X12_610 rfl gX12_tellsOf dX12_sees_138 hMG148 (by rw [hcf]; decide) (as := [(0, gS G a_ident ((gS G a_nSecond ((n).toNat)).toNat))]) rfl (Nat.le_of_ble_eq_true rfl) ⟨gS G a_ident ((gS G a_nSecond ((n).toNat)).toNat), rfl, hMG148, (by omega), fun G151 hMG151 hpG151 => ?_⟩
              obtain ⟨G153, eG153, eG151, hpG151⟩ := hpG151
              have hFG153 : Fr nX12_sees jX12_sees G G153 := Fr.setA hFG148 eG153 (by decide)
              have hFG151 : Fr nX12_sees jX12_sees G G151 := Fr.setF hFG153 eG151 (by decide)
              show WP kX12_sees X 141 [some (2, ((1000 : Nat) : Int)), some (0, n), some (0, gS G a_nKind ((n).toNat)), some (0, gS G a_nFirst ((n).toNat)), some (0, gS G a_nSecond ((n).toNat)), some (0, 1023)] [] G151
              have hbwG151 : gS G151 1000 102 = (gS G148 1000 102) + 1 := (gsaE eG151)
              exact s_vret hR dX12_sees_141 rfl (hQ G151 hMG151 (⟨hFG151, (by rw [(gsaE eG151)]; omega)⟩))
            · -- 112 to 115
              refine s_iload_n dX12_sees_115 rfl ?_
              refine s_iconst dX12_sees_116 (by decide) ?_
              refine s_icmp_ne (tgt := 141) dX12_sees_117 (by decide) (fun c154 => ?_) (fun c154 => ?_)
              · -- 117 to 141
                have hbwG144 : gS G144 1000 102 = gS G144 1000 102 := rfl
                exact s_vret hR dX12_sees_141 rfl (hQ G144 hMG144 (⟨hFG144, (by omega)⟩))
              · -- 117 to 120
                refine s_aload_n dX12_sees_120 rfl (Int.natCast_nonneg _) ?_
                refine s_aload_n dX12_sees_121 rfl (Int.natCast_nonneg _) ?_
                refine gf_ident rfl dX12_sees_122 hMG144 ?_
                refine s_iload_n dX12_sees_125 rfl ?_
                refine s_iald dX12_sees_126 (mg_a_ident hMG144) (by omega) (by omega) (Eq.trans (Fr.atA hfG144 (by decide) (by decide)) (Eq.trans (Fr.atA hfG109 (by decide) (by decide)) (Eq.trans (Fr.atA hfG107 (by decide) (by decide)) (gsnE eG1 (by decide))))) ?_
                refine cv_X12_610 rfl gX12_tellsOf dX12_sees_127 hMG144 (by rw [hcf]; decide) (as := [(0, gS G a_ident ((gS G a_nFirst ((n).toNat)).toNat))]) rfl (Nat.le_of_ble_eq_true rfl) ⟨gS G a_ident ((gS G a_nFirst ((n).toNat)).toNat), rfl, hMG144, (by omega), fun G155 hMG155 hpG155 => ?_⟩
                obtain ⟨G157, eG157, eG155, hpG155⟩ := hpG155
                have hFG157 : Fr nX12_sees jX12_sees G G157 := Fr.setA hFG144 eG157 (by decide)
                have hFG155 : Fr nX12_sees jX12_sees G G155 := Fr.setF hFG157 eG155 (by decide)
                show WP kX12_sees X 130 [some (2, ((1000 : Nat) : Int)), some (0, n), some (0, gS G a_nKind ((n).toNat)), some (0, gS G a_nFirst ((n).toNat)), some (0, gS G a_nSecond ((n).toNat)), some (0, 1023)] [] G155
                have hbwG155 : gS G155 1000 102 = (gS G144 1000 102) + 1 := (gsaE eG155)
                refine s_aload_n dX12_sees_130 rfl (Int.natCast_nonneg _) ?_
                refine s_aload_n dX12_sees_131 rfl (Int.natCast_nonneg _) ?_
                refine gf_ident rfl dX12_sees_132 hMG155 ?_
                refine s_iload dX12_sees_135 rfl ?_
                refine s_iald dX12_sees_137 (mg_a_ident hMG155) (by omega) (by omega) (Eq.trans (gsnE eG155 (by decide)) (Eq.trans (gsnE eG157 (by decide)) (Eq.trans (Fr.atA hfG144 (by decide) (by decide)) (Eq.trans (Fr.atA hfG109 (by decide) (by decide)) (Eq.trans (Fr.atA hfG107 (by decide) (by decide)) (gsnE eG1 (by decide))))))) ?_
                refine cv_X12_610 rfl gX12_tellsOf dX12_sees_138 hMG155 (by rw [hcf]; decide) (as := [(0, gS G a_ident ((gS G a_nSecond ((n).toNat)).toNat))]) rfl (Nat.le_of_ble_eq_true rfl) ⟨gS G a_ident ((gS G a_nSecond ((n).toNat)).toNat), rfl, hMG155, (by omega), fun G158 hMG158 hpG158 => ?_⟩
                obtain ⟨G160, eG160, eG158, hpG158⟩ := hpG158
                have hFG160 : Fr nX12_sees jX12_sees G G160 := Fr.setA hFG155 eG160 (by decide)
                have hFG158 : Fr nX12_sees jX12_sees G G158 := Fr.setF hFG160 eG158 (by decide)
                show WP kX12_sees X 141 [some (2, ((1000 : Nat) : Int)), some (0, n), some (0, gS G a_nKind ((n).toNat)), some (0, gS G a_nFirst ((n).toNat)), some (0, gS G a_nSecond ((n).toNat)), some (0, 1023)] [] G158
                have hbwG158 : gS G158 1000 102 = (gS G155 1000 102) + 1 := (gsaE eG158)
                exact s_vret hR dX12_sees_141 rfl (hQ G158 hMG158 (⟨hFG158, (by rw [(gsaE eG158)]; omega)⟩))
          · -- 95 to 98
            refine s_aload_n dX12_sees_98 rfl (Int.natCast_nonneg _) ?_
            refine s_aload_n dX12_sees_99 rfl (Int.natCast_nonneg _) ?_
            refine gf_nThird rfl dX12_sees_100 hMG144 ?_
            refine s_iload_n dX12_sees_103 rfl ?_
            refine s_iald dX12_sees_104 (mg_a_nThird hMG144) (by omega) (by omega) (Eq.trans (Fr.atA hfG144 (by decide) (by decide)) (Eq.trans (Fr.atA hfG109 (by decide) (by decide)) (Eq.trans (Fr.atA hfG107 (by decide) (by decide)) (gsnE eG1 (by decide))))) ?_
            refine s_iload dX12_sees_105 rfl ?_
            have hbwG144 : gS G144 1000 102 = gS G144 1000 102 := rfl
            refine cv_X12_628 rfl gX12_tellsFace dX12_sees_107 hMG144 (by rw [hcf]; decide) (as := [(0, gS G a_nThird ((n).toNat)), (0, 1023)]) rfl (Nat.le_of_ble_eq_true rfl) ⟨gS G a_nThird ((n).toNat), 1023, rfl, hMG144, (by exact hFU.agr (hFG144.agr (by decide) (by decide) (by decide)) (by rw [hFG144.atF (j := 42) (by decide) (by decide)]; exact Int.le_refl _)), (by (have z9 := hFG144.atF (j := 42) (by decide) (by decide); omega)), (by omega), (by exact RS1.agr (hq3 (by omega)) (hFG144.agr (by decide) (by decide) (by decide))), (by omega), fun G161 hMG161 hpG161 => ?_⟩
            obtain ⟨hfG161, hpG161⟩ := hpG161
            have hFG161 : Fr nX12_sees jX12_sees G G161 := Fr.call hFG144 hfG161 (by decide) (by decide)
            show WP kX12_sees X 110 [some (2, ((1000 : Nat) : Int)), some (0, n), some (0, gS G a_nKind ((n).toNat)), some (0, gS G a_nFirst ((n).toNat)), some (0, gS G a_nSecond ((n).toNat)), some (0, 1023)] [] G161
            have hbwG161 : gS G161 1000 102 = gS G161 1000 102 := rfl
            refine s_iload_n dX12_sees_110 rfl ?_
            refine s_iconst dX12_sees_111 (by decide) ?_
            refine s_icmp_eq (tgt := 120) dX12_sees_112 (by decide) (fun c163 => ?_) (fun c163 => ?_)
            · -- 112 to 120
              refine s_aload_n dX12_sees_120 rfl (Int.natCast_nonneg _) ?_
              refine s_aload_n dX12_sees_121 rfl (Int.natCast_nonneg _) ?_
              refine gf_ident rfl dX12_sees_122 hMG161 ?_
              refine s_iload_n dX12_sees_125 rfl ?_
              refine s_iald dX12_sees_126 (mg_a_ident hMG161) (by omega) (by omega) (Eq.trans (Fr.atA hfG161 (by decide) (by decide)) (Eq.trans (Fr.atA hfG144 (by decide) (by decide)) (Eq.trans (Fr.atA hfG109 (by decide) (by decide)) (Eq.trans (Fr.atA hfG107 (by decide) (by decide)) (gsnE eG1 (by decide)))))) ?_
              refine cv_X12_610 rfl gX12_tellsOf dX12_sees_127 hMG161 (by rw [hcf]; decide) (as := [(0, gS G a_ident ((gS G a_nFirst ((n).toNat)).toNat))]) rfl (Nat.le_of_ble_eq_true rfl) ⟨gS G a_ident ((gS G a_nFirst ((n).toNat)).toNat), rfl, hMG161, (by omega), fun G164 hMG164 hpG164 => ?_⟩
              obtain ⟨G166, eG166, eG164, hpG164⟩ := hpG164
              have hFG166 : Fr nX12_sees jX12_sees G G166 := Fr.setA hFG161 eG166 (by decide)
              have hFG164 : Fr nX12_sees jX12_sees G G164 := Fr.setF hFG166 eG164 (by decide)
              show WP kX12_sees X 130 [some (2, ((1000 : Nat) : Int)), some (0, n), some (0, gS G a_nKind ((n).toNat)), some (0, gS G a_nFirst ((n).toNat)), some (0, gS G a_nSecond ((n).toNat)), some (0, 1023)] [] G164
              have hbwG164 : gS G164 1000 102 = (gS G161 1000 102) + 1 := (gsaE eG164)
              refine s_aload_n dX12_sees_130 rfl (Int.natCast_nonneg _) ?_
              refine s_aload_n dX12_sees_131 rfl (Int.natCast_nonneg _) ?_
              refine gf_ident rfl dX12_sees_132 hMG164 ?_
              refine s_iload dX12_sees_135 rfl ?_
              refine s_iald dX12_sees_137 (mg_a_ident hMG164) (by omega) (by omega) (Eq.trans (gsnE eG164 (by decide)) (Eq.trans (gsnE eG166 (by decide)) (Eq.trans (Fr.atA hfG161 (by decide) (by decide)) (Eq.trans (Fr.atA hfG144 (by decide) (by decide)) (Eq.trans (Fr.atA hfG109 (by decide) (by decide)) (Eq.trans (Fr.atA hfG107 (by decide) (by decide)) (gsnE eG1 (by decide)))))))) ?_
              refine cv_X12_610 rfl gX12_tellsOf dX12_sees_138 hMG164 (by rw [hcf]; decide) (as := [(0, gS G a_ident ((gS G a_nSecond ((n).toNat)).toNat))]) rfl (Nat.le_of_ble_eq_true rfl) ⟨gS G a_ident ((gS G a_nSecond ((n).toNat)).toNat), rfl, hMG164, (by omega), fun G167 hMG167 hpG167 => ?_⟩
              obtain ⟨G169, eG169, eG167, hpG167⟩ := hpG167
              have hFG169 : Fr nX12_sees jX12_sees G G169 := Fr.setA hFG164 eG169 (by decide)
              have hFG167 : Fr nX12_sees jX12_sees G G167 := Fr.setF hFG169 eG167 (by decide)
              show WP kX12_sees X 141 [some (2, ((1000 : Nat) : Int)), some (0, n), some (0, gS G a_nKind ((n).toNat)), some (0, gS G a_nFirst ((n).toNat)), some (0, gS G a_nSecond ((n).toNat)), some (0, 1023)] [] G167
              have hbwG167 : gS G167 1000 102 = (gS G164 1000 102) + 1 := (gsaE eG167)
              exact s_vret hR dX12_sees_141 rfl (hQ G167 hMG167 (⟨hFG167, (by rw [(gsaE eG167)]; omega)⟩))
            · -- 112 to 115
              refine s_iload_n dX12_sees_115 rfl ?_
              refine s_iconst dX12_sees_116 (by decide) ?_
              refine s_icmp_ne (tgt := 141) dX12_sees_117 (by decide) (fun c170 => ?_) (fun c170 => ?_)
              · -- 117 to 141
                have hbwG161 : gS G161 1000 102 = gS G161 1000 102 := rfl
                exact s_vret hR dX12_sees_141 rfl (hQ G161 hMG161 (⟨hFG161, (by omega)⟩))
              · -- 117 to 120
                refine s_aload_n dX12_sees_120 rfl (Int.natCast_nonneg _) ?_
                refine s_aload_n dX12_sees_121 rfl (Int.natCast_nonneg _) ?_
                refine gf_ident rfl dX12_sees_122 hMG161 ?_
                refine s_iload_n dX12_sees_125 rfl ?_
                refine s_iald dX12_sees_126 (mg_a_ident hMG161) (by omega) (by omega) (Eq.trans (Fr.atA hfG161 (by decide) (by decide)) (Eq.trans (Fr.atA hfG144 (by decide) (by decide)) (Eq.trans (Fr.atA hfG109 (by decide) (by decide)) (Eq.trans (Fr.atA hfG107 (by decide) (by decide)) (gsnE eG1 (by decide)))))) ?_
                refine cv_X12_610 rfl gX12_tellsOf dX12_sees_127 hMG161 (by rw [hcf]; decide) (as := [(0, gS G a_ident ((gS G a_nFirst ((n).toNat)).toNat))]) rfl (Nat.le_of_ble_eq_true rfl) ⟨gS G a_ident ((gS G a_nFirst ((n).toNat)).toNat), rfl, hMG161, (by omega), fun G171 hMG171 hpG171 => ?_⟩
                obtain ⟨G173, eG173, eG171, hpG171⟩ := hpG171
                have hFG173 : Fr nX12_sees jX12_sees G G173 := Fr.setA hFG161 eG173 (by decide)
                have hFG171 : Fr nX12_sees jX12_sees G G171 := Fr.setF hFG173 eG171 (by decide)
                show WP kX12_sees X 130 [some (2, ((1000 : Nat) : Int)), some (0, n), some (0, gS G a_nKind ((n).toNat)), some (0, gS G a_nFirst ((n).toNat)), some (0, gS G a_nSecond ((n).toNat)), some (0, 1023)] [] G171
                have hbwG171 : gS G171 1000 102 = (gS G161 1000 102) + 1 := (gsaE eG171)
                refine s_aload_n dX12_sees_130 rfl (Int.natCast_nonneg _) ?_
                refine s_aload_n dX12_sees_131 rfl (Int.natCast_nonneg _) ?_
                refine gf_ident rfl dX12_sees_132 hMG171 ?_
                refine s_iload dX12_sees_135 rfl ?_
                refine s_iald dX12_sees_137 (mg_a_ident hMG171) (by omega) (by omega) (Eq.trans (gsnE eG171 (by decide)) (Eq.trans (gsnE eG173 (by decide)) (Eq.trans (Fr.atA hfG161 (by decide) (by decide)) (Eq.trans (Fr.atA hfG144 (by decide) (by decide)) (Eq.trans (Fr.atA hfG109 (by decide) (by decide)) (Eq.trans (Fr.atA hfG107 (by decide) (by decide)) (gsnE eG1 (by decide)))))))) ?_
                refine cv_X12_610 rfl gX12_tellsOf dX12_sees_138 hMG171 (by rw [hcf]; decide) (as := [(0, gS G a_ident ((gS G a_nSecond ((n).toNat)).toNat))]) rfl (Nat.le_of_ble_eq_true rfl) ⟨gS G a_ident ((gS G a_nSecond ((n).toNat)).toNat), rfl, hMG171, (by omega), fun G174 hMG174 hpG174 => ?_⟩
                obtain ⟨G176, eG176, eG174, hpG174⟩ := hpG174
                have hFG176 : Fr nX12_sees jX12_sees G G176 := Fr.setA hFG171 eG176 (by decide)
                have hFG174 : Fr nX12_sees jX12_sees G G174 := Fr.setF hFG176 eG174 (by decide)
                show WP kX12_sees X 141 [some (2, ((1000 : Nat) : Int)), some (0, n), some (0, gS G a_nKind ((n).toNat)), some (0, gS G a_nFirst ((n).toNat)), some (0, gS G a_nSecond ((n).toNat)), some (0, 1023)] [] G174
                have hbwG174 : gS G174 1000 102 = (gS G171 1000 102) + 1 := (gsaE eG174)
                exact s_vret hR dX12_sees_141 rfl (hQ G174 hMG174 (⟨hFG174, (by rw [(gsaE eG174)]; omega)⟩))
        · -- 77 to 80
          refine s_aload_n dX12_sees_80 rfl (Int.natCast_nonneg _) ?_
          refine s_iload_n dX12_sees_81 rfl ?_
          refine cv_X12_625 rfl gX12_valuesOf dX12_sees_82 hMG109 (by rw [hcf]; decide) (as := [(0, gS G a_nFirst ((n).toNat))]) rfl (Nat.le_of_ble_eq_true rfl) ⟨gS G a_nFirst ((n).toNat), rfl, hMG109, (by first | assumption | omega), fun r178 G177 hMG177 hpG177 => ?_⟩
          obtain ⟨hfG177, hpG177⟩ := hpG177
          have hFG177 : Fr nX12_sees jX12_sees G G177 := Fr.call hFG109 hfG177 (by decide) (by decide)
          show WP kX12_sees X 85 [some (2, ((1000 : Nat) : Int)), some (0, n), some (0, gS G a_nKind ((n).toNat)), some (0, gS G a_nFirst ((n).toNat)), some (0, gS G a_nSecond ((n).toNat)), some (0, 1023)] [(0, r178), (0, gS G a_nSecond ((n).toNat)), (2, ((1000 : Nat) : Int))] G177
          refine s_goto (tgt := 90) dX12_sees_85 (by decide) ?_
          have hbwG177 : gS G177 1000 102 = gS G109 1000 102 := (Fr.atF hfG177 (by decide) (by decide))
          refine cv_X12_628 rfl gX12_tellsFace dX12_sees_90 hMG177 (by rw [hcf]; decide) (as := [(0, gS G a_nSecond ((n).toNat)), (0, r178)]) rfl (Nat.le_of_ble_eq_true rfl) ⟨gS G a_nSecond ((n).toNat), r178, rfl, hMG177, (by exact hFU.agr (hFG177.agr (by decide) (by decide) (by decide)) (by rw [hFG177.atF (j := 42) (by decide) (by decide)]; exact Int.le_refl _)), (by (have z9 := hFG177.atF (j := 42) (by decide) (by decide); omega)), (by omega), (by exact RS1.agr (hq2 (by omega)) (hFG177.agr (by decide) (by decide) (by decide))), (by omega), fun G179 hMG179 hpG179 => ?_⟩
          obtain ⟨hfG179, hpG179⟩ := hpG179
          have hFG179 : Fr nX12_sees jX12_sees G G179 := Fr.call hFG177 hfG179 (by decide) (by decide)
          show WP kX12_sees X 93 [some (2, ((1000 : Nat) : Int)), some (0, n), some (0, gS G a_nKind ((n).toNat)), some (0, gS G a_nFirst ((n).toNat)), some (0, gS G a_nSecond ((n).toNat)), some (0, 1023)] [] G179
          have hbwG179 : gS G179 1000 102 = gS G179 1000 102 := rfl
          refine s_iload_n dX12_sees_93 rfl ?_
          refine s_iconst dX12_sees_94 (by decide) ?_
          refine s_icmp_ne (tgt := 110) dX12_sees_95 (by decide) (fun c181 => ?_) (fun c181 => ?_)
          · -- 95 to 110
            have hbwG179 : gS G179 1000 102 = gS G179 1000 102 := rfl
            refine s_iload_n dX12_sees_110 rfl ?_
            refine s_iconst dX12_sees_111 (by decide) ?_
            refine s_icmp_eq (tgt := 120) dX12_sees_112 (by decide) (fun c182 => ?_) (fun c182 => ?_)
            · -- 112 to 120
              refine s_aload_n dX12_sees_120 rfl (Int.natCast_nonneg _) ?_
              refine s_aload_n dX12_sees_121 rfl (Int.natCast_nonneg _) ?_
              refine gf_ident rfl dX12_sees_122 hMG179 ?_
              refine s_iload_n dX12_sees_125 rfl ?_
              refine s_iald dX12_sees_126 (mg_a_ident hMG179) (by omega) (by omega) (Eq.trans (Fr.atA hfG179 (by decide) (by decide)) (Eq.trans (Fr.atA hfG177 (by decide) (by decide)) (Eq.trans (Fr.atA hfG109 (by decide) (by decide)) (Eq.trans (Fr.atA hfG107 (by decide) (by decide)) (gsnE eG1 (by decide)))))) ?_
              refine cv_X12_610 rfl gX12_tellsOf dX12_sees_127 hMG179 (by rw [hcf]; decide) (as := [(0, gS G a_ident ((gS G a_nFirst ((n).toNat)).toNat))]) rfl (Nat.le_of_ble_eq_true rfl) ⟨gS G a_ident ((gS G a_nFirst ((n).toNat)).toNat), rfl, hMG179, (by omega), fun G183 hMG183 hpG183 => ?_⟩
              obtain ⟨G185, eG185, eG183, hpG183⟩ := hpG183
              have hFG185 : Fr nX12_sees jX12_sees G G185 := Fr.setA hFG179 eG185 (by decide)
              have hFG183 : Fr nX12_sees jX12_sees G G183 := Fr.setF hFG185 eG183 (by decide)
              show WP kX12_sees X 130 [some (2, ((1000 : Nat) : Int)), some (0, n), some (0, gS G a_nKind ((n).toNat)), some (0, gS G a_nFirst ((n).toNat)), some (0, gS G a_nSecond ((n).toNat)), some (0, 1023)] [] G183
              have hbwG183 : gS G183 1000 102 = (gS G179 1000 102) + 1 := (gsaE eG183)
              refine s_aload_n dX12_sees_130 rfl (Int.natCast_nonneg _) ?_
              refine s_aload_n dX12_sees_131 rfl (Int.natCast_nonneg _) ?_
              refine gf_ident rfl dX12_sees_132 hMG183 ?_
              refine s_iload dX12_sees_135 rfl ?_
              refine s_iald dX12_sees_137 (mg_a_ident hMG183) (by omega) (by omega) (Eq.trans (gsnE eG183 (by decide)) (Eq.trans (gsnE eG185 (by decide)) (Eq.trans (Fr.atA hfG179 (by decide) (by decide)) (Eq.trans (Fr.atA hfG177 (by decide) (by decide)) (Eq.trans (Fr.atA hfG109 (by decide) (by decide)) (Eq.trans (Fr.atA hfG107 (by decide) (by decide)) (gsnE eG1 (by decide)))))))) ?_
              refine cv_X12_610 rfl gX12_tellsOf dX12_sees_138 hMG183 (by rw [hcf]; decide) (as := [(0, gS G a_ident ((gS G a_nSecond ((n).toNat)).toNat))]) rfl (Nat.le_of_ble_eq_true rfl) ⟨gS G a_ident ((gS G a_nSecond ((n).toNat)).toNat), rfl, hMG183, (by omega), fun G186 hMG186 hpG186 => ?_⟩
              obtain ⟨G188, eG188, eG186, hpG186⟩ := hpG186
              have hFG188 : Fr nX12_sees jX12_sees G G188 := Fr.setA hFG183 eG188 (by decide)
              have hFG186 : Fr nX12_sees jX12_sees G G186 := Fr.setF hFG188 eG186 (by decide)
              show WP kX12_sees X 141 [some (2, ((1000 : Nat) : Int)), some (0, n), some (0, gS G a_nKind ((n).toNat)), some (0, gS G a_nFirst ((n).toNat)), some (0, gS G a_nSecond ((n).toNat)), some (0, 1023)] [] G186
              have hbwG186 : gS G186 1000 102 = (gS G183 1000 102) + 1 := (gsaE eG186)
              exact s_vret hR dX12_sees_141 rfl (hQ G186 hMG186 (⟨hFG186, (by rw [(gsaE eG186)]; omega)⟩))
            · -- 112 to 115
              refine s_iload_n dX12_sees_115 rfl ?_
              refine s_iconst dX12_sees_116 (by decide) ?_
              refine s_icmp_ne (tgt := 141) dX12_sees_117 (by decide) (fun c189 => ?_) (fun c189 => ?_)
              · -- 117 to 141
                have hbwG179 : gS G179 1000 102 = gS G179 1000 102 := rfl
                exact s_vret hR dX12_sees_141 rfl (hQ G179 hMG179 (⟨hFG179, (by omega)⟩))
              · -- 117 to 120
                refine s_aload_n dX12_sees_120 rfl (Int.natCast_nonneg _) ?_
                refine s_aload_n dX12_sees_121 rfl (Int.natCast_nonneg _) ?_
                refine gf_ident rfl dX12_sees_122 hMG179 ?_
                refine s_iload_n dX12_sees_125 rfl ?_
                refine s_iald dX12_sees_126 (mg_a_ident hMG179) (by omega) (by omega) (Eq.trans (Fr.atA hfG179 (by decide) (by decide)) (Eq.trans (Fr.atA hfG177 (by decide) (by decide)) (Eq.trans (Fr.atA hfG109 (by decide) (by decide)) (Eq.trans (Fr.atA hfG107 (by decide) (by decide)) (gsnE eG1 (by decide)))))) ?_
                refine cv_X12_610 rfl gX12_tellsOf dX12_sees_127 hMG179 (by rw [hcf]; decide) (as := [(0, gS G a_ident ((gS G a_nFirst ((n).toNat)).toNat))]) rfl (Nat.le_of_ble_eq_true rfl) ⟨gS G a_ident ((gS G a_nFirst ((n).toNat)).toNat), rfl, hMG179, (by omega), fun G190 hMG190 hpG190 => ?_⟩
                obtain ⟨G192, eG192, eG190, hpG190⟩ := hpG190
                have hFG192 : Fr nX12_sees jX12_sees G G192 := Fr.setA hFG179 eG192 (by decide)
                have hFG190 : Fr nX12_sees jX12_sees G G190 := Fr.setF hFG192 eG190 (by decide)
                show WP kX12_sees X 130 [some (2, ((1000 : Nat) : Int)), some (0, n), some (0, gS G a_nKind ((n).toNat)), some (0, gS G a_nFirst ((n).toNat)), some (0, gS G a_nSecond ((n).toNat)), some (0, 1023)] [] G190
                have hbwG190 : gS G190 1000 102 = (gS G179 1000 102) + 1 := (gsaE eG190)
                refine s_aload_n dX12_sees_130 rfl (Int.natCast_nonneg _) ?_
                refine s_aload_n dX12_sees_131 rfl (Int.natCast_nonneg _) ?_
                refine gf_ident rfl dX12_sees_132 hMG190 ?_
                refine s_iload dX12_sees_135 rfl ?_
                refine s_iald dX12_sees_137 (mg_a_ident hMG190) (by omega) (by omega) (Eq.trans (gsnE eG190 (by decide)) (Eq.trans (gsnE eG192 (by decide)) (Eq.trans (Fr.atA hfG179 (by decide) (by decide)) (Eq.trans (Fr.atA hfG177 (by decide) (by decide)) (Eq.trans (Fr.atA hfG109 (by decide) (by decide)) (Eq.trans (Fr.atA hfG107 (by decide) (by decide)) (gsnE eG1 (by decide)))))))) ?_
                refine cv_X12_610 rfl gX12_tellsOf dX12_sees_138 hMG190 (by rw [hcf]; decide) (as := [(0, gS G a_ident ((gS G a_nSecond ((n).toNat)).toNat))]) rfl (Nat.le_of_ble_eq_true rfl) ⟨gS G a_ident ((gS G a_nSecond ((n).toNat)).toNat), rfl, hMG190, (by omega), fun G193 hMG193 hpG193 => ?_⟩
                obtain ⟨G195, eG195, eG193, hpG193⟩ := hpG193
                have hFG195 : Fr nX12_sees jX12_sees G G195 := Fr.setA hFG190 eG195 (by decide)
                have hFG193 : Fr nX12_sees jX12_sees G G193 := Fr.setF hFG195 eG193 (by decide)
                show WP kX12_sees X 141 [some (2, ((1000 : Nat) : Int)), some (0, n), some (0, gS G a_nKind ((n).toNat)), some (0, gS G a_nFirst ((n).toNat)), some (0, gS G a_nSecond ((n).toNat)), some (0, 1023)] [] G193
                have hbwG193 : gS G193 1000 102 = (gS G190 1000 102) + 1 := (gsaE eG193)
                exact s_vret hR dX12_sees_141 rfl (hQ G193 hMG193 (⟨hFG193, (by rw [(gsaE eG193)]; omega)⟩))
          · -- 95 to 98
            refine s_aload_n dX12_sees_98 rfl (Int.natCast_nonneg _) ?_
            refine s_aload_n dX12_sees_99 rfl (Int.natCast_nonneg _) ?_
            refine gf_nThird rfl dX12_sees_100 hMG179 ?_
            refine s_iload_n dX12_sees_103 rfl ?_
            refine s_iald dX12_sees_104 (mg_a_nThird hMG179) (by omega) (by omega) (Eq.trans (Fr.atA hfG179 (by decide) (by decide)) (Eq.trans (Fr.atA hfG177 (by decide) (by decide)) (Eq.trans (Fr.atA hfG109 (by decide) (by decide)) (Eq.trans (Fr.atA hfG107 (by decide) (by decide)) (gsnE eG1 (by decide)))))) ?_
            refine s_iload dX12_sees_105 rfl ?_
            have hbwG179 : gS G179 1000 102 = gS G179 1000 102 := rfl
            refine cv_X12_628 rfl gX12_tellsFace dX12_sees_107 hMG179 (by rw [hcf]; decide) (as := [(0, gS G a_nThird ((n).toNat)), (0, 1023)]) rfl (Nat.le_of_ble_eq_true rfl) ⟨gS G a_nThird ((n).toNat), 1023, rfl, hMG179, (by exact hFU.agr (hFG179.agr (by decide) (by decide) (by decide)) (by rw [hFG179.atF (j := 42) (by decide) (by decide)]; exact Int.le_refl _)), (by (have z9 := hFG179.atF (j := 42) (by decide) (by decide); omega)), (by omega), (by exact RS1.agr (hq3 (by omega)) (hFG179.agr (by decide) (by decide) (by decide))), (by omega), fun G196 hMG196 hpG196 => ?_⟩
            obtain ⟨hfG196, hpG196⟩ := hpG196
            have hFG196 : Fr nX12_sees jX12_sees G G196 := Fr.call hFG179 hfG196 (by decide) (by decide)
            show WP kX12_sees X 110 [some (2, ((1000 : Nat) : Int)), some (0, n), some (0, gS G a_nKind ((n).toNat)), some (0, gS G a_nFirst ((n).toNat)), some (0, gS G a_nSecond ((n).toNat)), some (0, 1023)] [] G196
            have hbwG196 : gS G196 1000 102 = gS G196 1000 102 := rfl
            refine s_iload_n dX12_sees_110 rfl ?_
            refine s_iconst dX12_sees_111 (by decide) ?_
            refine s_icmp_eq (tgt := 120) dX12_sees_112 (by decide) (fun c198 => ?_) (fun c198 => ?_)
            · -- 112 to 120
              refine s_aload_n dX12_sees_120 rfl (Int.natCast_nonneg _) ?_
              refine s_aload_n dX12_sees_121 rfl (Int.natCast_nonneg _) ?_
              refine gf_ident rfl dX12_sees_122 hMG196 ?_
              refine s_iload_n dX12_sees_125 rfl ?_
              refine s_iald dX12_sees_126 (mg_a_ident hMG196) (by omega) (by omega) (Eq.trans (Fr.atA hfG196 (by decide) (by decide)) (Eq.trans (Fr.atA hfG179 (by decide) (by decide)) (Eq.trans (Fr.atA hfG177 (by decide) (by decide)) (Eq.trans (Fr.atA hfG109 (by decide) (by decide)) (Eq.trans (Fr.atA hfG107 (by decide) (by decide)) (gsnE eG1 (by decide))))))) ?_
              refine cv_X12_610 rfl gX12_tellsOf dX12_sees_127 hMG196 (by rw [hcf]; decide) (as := [(0, gS G a_ident ((gS G a_nFirst ((n).toNat)).toNat))]) rfl (Nat.le_of_ble_eq_true rfl) ⟨gS G a_ident ((gS G a_nFirst ((n).toNat)).toNat), rfl, hMG196, (by omega), fun G199 hMG199 hpG199 => ?_⟩
              obtain ⟨G201, eG201, eG199, hpG199⟩ := hpG199
              have hFG201 : Fr nX12_sees jX12_sees G G201 := Fr.setA hFG196 eG201 (by decide)
              have hFG199 : Fr nX12_sees jX12_sees G G199 := Fr.setF hFG201 eG199 (by decide)
              show WP kX12_sees X 130 [some (2, ((1000 : Nat) : Int)), some (0, n), some (0, gS G a_nKind ((n).toNat)), some (0, gS G a_nFirst ((n).toNat)), some (0, gS G a_nSecond ((n).toNat)), some (0, 1023)] [] G199
              have hbwG199 : gS G199 1000 102 = (gS G196 1000 102) + 1 := (gsaE eG199)
              refine s_aload_n dX12_sees_130 rfl (Int.natCast_nonneg _) ?_
              refine s_aload_n dX12_sees_131 rfl (Int.natCast_nonneg _) ?_
              refine gf_ident rfl dX12_sees_132 hMG199 ?_
              refine s_iload dX12_sees_135 rfl ?_
              refine s_iald dX12_sees_137 (mg_a_ident hMG199) (by omega) (by omega) (Eq.trans (gsnE eG199 (by decide)) (Eq.trans (gsnE eG201 (by decide)) (Eq.trans (Fr.atA hfG196 (by decide) (by decide)) (Eq.trans (Fr.atA hfG179 (by decide) (by decide)) (Eq.trans (Fr.atA hfG177 (by decide) (by decide)) (Eq.trans (Fr.atA hfG109 (by decide) (by decide)) (Eq.trans (Fr.atA hfG107 (by decide) (by decide)) (gsnE eG1 (by decide))))))))) ?_
              refine cv_X12_610 rfl gX12_tellsOf dX12_sees_138 hMG199 (by rw [hcf]; decide) (as := [(0, gS G a_ident ((gS G a_nSecond ((n).toNat)).toNat))]) rfl (Nat.le_of_ble_eq_true rfl) ⟨gS G a_ident ((gS G a_nSecond ((n).toNat)).toNat), rfl, hMG199, (by omega), fun G202 hMG202 hpG202 => ?_⟩
              obtain ⟨G204, eG204, eG202, hpG202⟩ := hpG202
              have hFG204 : Fr nX12_sees jX12_sees G G204 := Fr.setA hFG199 eG204 (by decide)
              have hFG202 : Fr nX12_sees jX12_sees G G202 := Fr.setF hFG204 eG202 (by decide)
              show WP kX12_sees X 141 [some (2, ((1000 : Nat) : Int)), some (0, n), some (0, gS G a_nKind ((n).toNat)), some (0, gS G a_nFirst ((n).toNat)), some (0, gS G a_nSecond ((n).toNat)), some (0, 1023)] [] G202
              have hbwG202 : gS G202 1000 102 = (gS G199 1000 102) + 1 := (gsaE eG202)
              exact s_vret hR dX12_sees_141 rfl (hQ G202 hMG202 (⟨hFG202, (by rw [(gsaE eG202)]; omega)⟩))
            · -- 112 to 115
              refine s_iload_n dX12_sees_115 rfl ?_
              refine s_iconst dX12_sees_116 (by decide) ?_
              refine s_icmp_ne (tgt := 141) dX12_sees_117 (by decide) (fun c205 => ?_) (fun c205 => ?_)
              · -- 117 to 141
                have hbwG196 : gS G196 1000 102 = gS G196 1000 102 := rfl
                exact s_vret hR dX12_sees_141 rfl (hQ G196 hMG196 (⟨hFG196, (by omega)⟩))
              · -- 117 to 120
                refine s_aload_n dX12_sees_120 rfl (Int.natCast_nonneg _) ?_
                refine s_aload_n dX12_sees_121 rfl (Int.natCast_nonneg _) ?_
                refine gf_ident rfl dX12_sees_122 hMG196 ?_
                refine s_iload_n dX12_sees_125 rfl ?_
                refine s_iald dX12_sees_126 (mg_a_ident hMG196) (by omega) (by omega) (Eq.trans (Fr.atA hfG196 (by decide) (by decide)) (Eq.trans (Fr.atA hfG179 (by decide) (by decide)) (Eq.trans (Fr.atA hfG177 (by decide) (by decide)) (Eq.trans (Fr.atA hfG109 (by decide) (by decide)) (Eq.trans (Fr.atA hfG107 (by decide) (by decide)) (gsnE eG1 (by decide))))))) ?_
                refine cv_X12_610 rfl gX12_tellsOf dX12_sees_127 hMG196 (by rw [hcf]; decide) (as := [(0, gS G a_ident ((gS G a_nFirst ((n).toNat)).toNat))]) rfl (Nat.le_of_ble_eq_true rfl) ⟨gS G a_ident ((gS G a_nFirst ((n).toNat)).toNat), rfl, hMG196, (by omega), fun G206 hMG206 hpG206 => ?_⟩
                obtain ⟨G208, eG208, eG206, hpG206⟩ := hpG206
                have hFG208 : Fr nX12_sees jX12_sees G G208 := Fr.setA hFG196 eG208 (by decide)
                have hFG206 : Fr nX12_sees jX12_sees G G206 := Fr.setF hFG208 eG206 (by decide)
                show WP kX12_sees X 130 [some (2, ((1000 : Nat) : Int)), some (0, n), some (0, gS G a_nKind ((n).toNat)), some (0, gS G a_nFirst ((n).toNat)), some (0, gS G a_nSecond ((n).toNat)), some (0, 1023)] [] G206
                have hbwG206 : gS G206 1000 102 = (gS G196 1000 102) + 1 := (gsaE eG206)
                refine s_aload_n dX12_sees_130 rfl (Int.natCast_nonneg _) ?_
                refine s_aload_n dX12_sees_131 rfl (Int.natCast_nonneg _) ?_
                refine gf_ident rfl dX12_sees_132 hMG206 ?_
                refine s_iload dX12_sees_135 rfl ?_
                refine s_iald dX12_sees_137 (mg_a_ident hMG206) (by omega) (by omega) (Eq.trans (gsnE eG206 (by decide)) (Eq.trans (gsnE eG208 (by decide)) (Eq.trans (Fr.atA hfG196 (by decide) (by decide)) (Eq.trans (Fr.atA hfG179 (by decide) (by decide)) (Eq.trans (Fr.atA hfG177 (by decide) (by decide)) (Eq.trans (Fr.atA hfG109 (by decide) (by decide)) (Eq.trans (Fr.atA hfG107 (by decide) (by decide)) (gsnE eG1 (by decide))))))))) ?_
                refine cv_X12_610 rfl gX12_tellsOf dX12_sees_138 hMG206 (by rw [hcf]; decide) (as := [(0, gS G a_ident ((gS G a_nSecond ((n).toNat)).toNat))]) rfl (Nat.le_of_ble_eq_true rfl) ⟨gS G a_ident ((gS G a_nSecond ((n).toNat)).toNat), rfl, hMG206, (by omega), fun G209 hMG209 hpG209 => ?_⟩
                obtain ⟨G211, eG211, eG209, hpG209⟩ := hpG209
                have hFG211 : Fr nX12_sees jX12_sees G G211 := Fr.setA hFG206 eG211 (by decide)
                have hFG209 : Fr nX12_sees jX12_sees G G209 := Fr.setF hFG211 eG209 (by decide)
                show WP kX12_sees X 141 [some (2, ((1000 : Nat) : Int)), some (0, n), some (0, gS G a_nKind ((n).toNat)), some (0, gS G a_nFirst ((n).toNat)), some (0, gS G a_nSecond ((n).toNat)), some (0, 1023)] [] G209
                have hbwG209 : gS G209 1000 102 = (gS G206 1000 102) + 1 := (gsaE eG209)
                exact s_vret hR dX12_sees_141 rfl (hQ G209 hMG209 (⟨hFG209, (by rw [(gsaE eG209)]; omega)⟩))
  · -- 13 to 16
    have h50 := hnd5 (by omega)
    have h51 := hUV.2.1 ((gS G a_nFirst (n).toNat)) (by omega) (by omega)
    have h52 := hUV.2.2.1 ((gS G a_nFirst (n).toNat)) (by omega) (by omega)
    have h5f : (gS G1 a_nFirst (n).toNat) = (gS G a_nFirst (n).toNat) := hFG1.atA (by decide) (by decide)
    have h5s : (gS G1 a_nSecond (n).toNat) = (gS G a_nSecond (n).toNat) := hFG1.atA (by decide) (by decide)
    have h5v : (gS G1 a_versions ((gS G1 a_nFirst (n).toNat)).toNat) = (gS G a_versions ((gS G a_nFirst (n).toNat)).toNat) := by rw [h5f]; exact hFG1.atA (by decide) (by decide)
    refine s_aload_n dX12_sees_16 rfl (Int.natCast_nonneg _) ?_
    refine s_aload_n dX12_sees_17 rfl (Int.natCast_nonneg _) ?_
    refine s_iload_n dX12_sees_18 rfl ?_
    refine cv_X12_440 rfl gX12_versionOf dX12_sees_19 hMG1 (by rw [hcf]; decide) (as := [(0, n)]) rfl (Nat.le_of_ble_eq_true rfl) ⟨n, rfl, hMG1, (by first | assumption | omega), (by first | assumption | omega), (by first | assumption | omega), (by first | assumption | omega), ?_⟩
    show WP kX12_sees X 22 [some (2, ((1000 : Nat) : Int)), some (0, n), some (0, gS G a_nKind ((n).toNat)), none, none, none] [(0, (if (gS G1 a_nSecond (n).toNat) = -1 then 5 * (gS G1 a_nFirst (n).toNat) + ((gS G1 a_versions ((gS G1 a_nFirst (n).toNat)).toNat) - 1) else 5 * (gS G1 a_nFirst (n).toNat) + (gS G1 a_nSecond (n).toNat))), (2, ((1000 : Nat) : Int))] G1
    have hbwG1 : gS G1 1000 102 = 0 := (gsaE eG1)
    refine cv_X12_622 rfl gX12_tellsVersion dX12_sees_22 hMG1 (by rw [hcf]; decide) (as := [(0, (if (gS G1 a_nSecond (n).toNat) = -1 then 5 * (gS G1 a_nFirst (n).toNat) + ((gS G1 a_versions ((gS G1 a_nFirst (n).toNat)).toNat) - 1) else 5 * (gS G1 a_nFirst (n).toNat) + (gS G1 a_nSecond (n).toNat)))]) rfl (Nat.le_of_ble_eq_true rfl) ⟨(if (gS G1 a_nSecond (n).toNat) = -1 then 5 * (gS G1 a_nFirst (n).toNat) + ((gS G1 a_versions ((gS G1 a_nFirst (n).toNat)).toNat) - 1) else 5 * (gS G1 a_nFirst (n).toNat) + (gS G1 a_nSecond (n).toNat)), rfl, hMG1, (by exact hTB.agr (hFG1.agr (by decide) (by decide) (by decide))), (by exact hEX.agr (hFG1.agr (by decide) (by decide) (by decide))), (by exact hUV.agr (hFG1.agr (by decide) (by decide) (by decide))), (by split <;> omega), (by omega), fun G212 hMG212 hpG212 => ?_⟩
    obtain ⟨hfG212, hpG212⟩ := hpG212
    have hFG212 : Fr nX12_sees jX12_sees G G212 := Fr.call hFG1 hfG212 (by decide) (by decide)
    show WP kX12_sees X 25 [some (2, ((1000 : Nat) : Int)), some (0, n), some (0, gS G a_nKind ((n).toNat)), none, none, none] [] G212
    exact s_vret hR dX12_sees_25 rfl (hQ G212 hMG212 (⟨hFG212, (by omega)⟩))
