abbrev nX12_joins : List Nat := [a_fKind, a_fA, a_fB, a_fSize, a_fNext, a_fHead, a_fMark]
abbrev jX12_joins : List Nat := [26]
def TX12_joins : TR := fun as G Qr => ∃ (e a : Int), as = [(2, ((1000 : Nat) : Int)), (0, e), (0, a)] ∧ MG G ∧ (FU G) ∧ ((gS G 1000 26) + 2 ≤ 150000) ∧ (EX G) ∧ (0 ≤ e ∧ e < (gS G 1000 6)) ∧ (2 ≤ (gS G a_eKind (e).toNat)) ∧ (0 ≤ a ∧ a ≤ 150) ∧ (∀ j : Int, 0 ≤ j → j < eMany G e → 0 ≤ (gS G a_found (a + j).toNat) ∧ (gS G a_found (a + j).toNat) < (gS G 1000 26)) ∧ ∀ (r : Int) (G' : LG), MG G' → (Fr nX12_joins jX12_joins G G' ∧ (FU G' ∧ FX G G' ∧ (gS G' 1000 26) ≤ (gS G 1000 26) + 2 ∧ (r = -2 ∨ (0 ≤ r ∧ r < (gS G' 1000 26))))) → Qr (.inl (some (0, r))) G'
set_option maxHeartbeats 4000000 in
set_option maxRecDepth 100000 in
theorem gX12_joins : Good kX12_joins yX12_joins 1 TX12_joins := by
  refine good_of (by decide) rfl rfl (fun as G Qr h => ?_) (fun X as G Qr hcf hR hT oa => ?_)
  · obtain ⟨e, a, rfl, -⟩ := h; exact Nat.le_of_ble_eq_true rfl
  obtain ⟨e, a, rfl, hM, hFU, hc, hEX, he, hk, ha, hf, hQ⟩ := hT
  show WP kX12_joins X 0 [some (2, ((1000 : Nat) : Int)), some (0, e), some (0, a), none] [] G
  have hr_e : inR e := okv_R (oa _ (by simp))
  have hr_a : inR a := okv_R (oa _ (by simp))
  have hent := (hEX.2 e he.1 he.2).1
  have hex := hEX.1
  have hf0 : 0 ≤ (gS G a_found (a).toNat) ∧ (gS G a_found (a).toNat) < (gS G 1000 26) := by have z9 := hf 0 (by omega) (by unfold eMany; split <;> (try split) <;> (try split) <;> omega); rw [Int.add_zero] at z9; exact z9
  have hf1 : ¬ ((gS G a_eKind (e).toNat) = 4 ∨ (gS G a_eKind (e).toNat) = 5) → 0 ≤ (gS G a_found (a + 1).toNat) ∧ (gS G a_found (a + 1).toNat) < (gS G 1000 26) := fun q => hf 1 (by omega) (by unfold eMany; split <;> (try split) <;> (try split) <;> omega)
  have hf2 : (gS G a_eKind (e).toNat) = 6 → 0 ≤ (gS G a_found (a + 2).toNat) ∧ (gS G a_found (a + 2).toNat) < (gS G 1000 26) := fun q => hf 2 (by omega) (by unfold eMany; split <;> (try split) <;> (try split) <;> omega)
  clear hf
  refine s_aload_n dX12_joins_0 rfl (Int.natCast_nonneg _) ?_
  refine s_iconst dX12_joins_1 (by decide) ?_
  refine s_iconst dX12_joins_2 (by decide) ?_
  refine s_iconst dX12_joins_3 (by decide) ?_
  refine cv_X12_338 rfl gX12_full dX12_joins_4 hM (by rw [hcf]; decide) (as := [(0, 0), (0, 0), (0, 0)]) rfl (Nat.le_of_ble_eq_true rfl) ⟨0, 0, 0, rfl, hM, (by first | assumption | omega), (by first | assumption | omega), (by first | assumption | omega), (by first | assumption | omega), (by first | assumption | omega), (by first | assumption | omega), fun r2 G1 hMG1 hpG1 => ?_⟩
  obtain ⟨hfG1, hpG1⟩ := hpG1
  have hFG1 : Fr nX12_joins jX12_joins G G1 := Fr.call Fr.rf hfG1 (by decide) (by decide)
  show WP kX12_joins X 7 [some (2, ((1000 : Nat) : Int)), some (0, e), some (0, a), none] [(0, r2)] G1
  obtain ⟨hFU1, hr1, hFX1, -⟩ := hpG1
  have hfl := hFX1.1
  have hff := hFU1.f
  refine s_istore_n dX12_joins_7 (by decide) (lv' := [some (2, ((1000 : Nat) : Int)), some (0, e), some (0, a), some (0, r2)]) rfl ?_
  refine s_aload_n dX12_joins_8 rfl (Int.natCast_nonneg _) ?_
  refine gf_eKind rfl dX12_joins_9 hMG1 ?_
  refine s_iload_n dX12_joins_12 rfl ?_
  refine s_iald dX12_joins_13 (mg_a_eKind hMG1) (by omega) (by omega) (Fr.atA hfG1 (by decide) (by decide)) ?_
  by_cases c3_0 : (gS G a_eKind ((e).toNat)) = 2
  · -- case 2
    refine s_tableIn (tgt := 48) (off := 34) dX12_joins_14 (by omega) (by omega) (by rw [c3_0]; rfl) (by decide) ?_
    refine s_aload_n dX12_joins_48 rfl (Int.natCast_nonneg _) ?_
    refine gf_found rfl dX12_joins_49 hMG1 ?_
    refine s_iload_n dX12_joins_52 rfl ?_
    refine s_iald dX12_joins_53 (mg_a_found hMG1) (by omega) (by omega) (Fr.atA hfG1 (by decide) (by decide)) ?_
    refine s_iload_n dX12_joins_54 rfl ?_
    have J5 : ∀ z4 : Int, ((¬ (gS G a_found ((a).toNat)) = r2) ∧ z4 = (-2)) ∨ (((gS G a_found ((a).toNat)) = r2) ∧ (¬ (gS G a_found ((a + 1).toNat)) = r2) ∧ z4 = (-2)) ∨ (((gS G a_found ((a).toNat)) = r2) ∧ ((gS G a_found ((a + 1).toNat)) = r2) ∧ z4 = r2) → WP kX12_joins X 76 [some (2, ((1000 : Nat) : Int)), some (0, e), some (0, a), some (0, r2)] [(0, z4)] G1 := by
      intro z4 hz4
      exact s_iret hR dX12_joins_76 rfl (hQ _ G1 hMG1 (⟨hFG1, ⟨hFU1, hFX1, by omega, by omega⟩⟩))
    refine s_icmp_ne (tgt := 74) dX12_joins_55 (by decide) (fun c6 => ?_) (fun c6 => ?_)
    · -- 55 to 74
      refine s_bipush dX12_joins_74 rfl (by decide) ?_
      exact J5 (-2) (Or.inl ⟨c6, rfl⟩)
    · -- 55 to 58
      refine s_aload_n dX12_joins_58 rfl (Int.natCast_nonneg _) ?_
      refine gf_found rfl dX12_joins_59 hMG1 ?_
      refine s_iload_n dX12_joins_62 rfl ?_
      refine s_iconst dX12_joins_63 (by decide) ?_
      refine s_iadd dX12_joins_64 (by omega) ?_
      refine s_iald dX12_joins_65 (mg_a_found hMG1) (by omega) (by omega) (Fr.atA hfG1 (by decide) (by decide)) ?_
      refine s_iload_n dX12_joins_66 rfl ?_
      refine s_icmp_ne (tgt := 74) dX12_joins_67 (by decide) (fun c7 => ?_) (fun c7 => ?_)
      · -- 67 to 74
        refine s_bipush dX12_joins_74 rfl (by decide) ?_
        exact J5 (-2) (Or.inr (Or.inl ⟨c6, c7, rfl⟩))
      · -- 67 to 70
        refine s_iload_n dX12_joins_70 rfl ?_
        refine s_goto (tgt := 76) dX12_joins_71 (by decide) ?_
        exact J5 r2 (Or.inr (Or.inr (⟨c6, c7, rfl⟩)))
  by_cases c3_1 : (gS G a_eKind ((e).toNat)) = 3
  · -- case 3
    refine s_tableIn (tgt := 77) (off := 63) dX12_joins_14 (by omega) (by omega) (by rw [c3_1]; rfl) (by decide) ?_
    refine s_aload_n dX12_joins_77 rfl (Int.natCast_nonneg _) ?_
    refine s_iconst dX12_joins_78 (by decide) ?_
    refine s_aload_n dX12_joins_79 rfl (Int.natCast_nonneg _) ?_
    refine gf_found rfl dX12_joins_80 hMG1 ?_
    refine s_iload_n dX12_joins_83 rfl ?_
    refine s_iald dX12_joins_84 (mg_a_found hMG1) (by omega) (by omega) (Fr.atA hfG1 (by decide) (by decide)) ?_
    refine s_aload_n dX12_joins_85 rfl (Int.natCast_nonneg _) ?_
    refine gf_found rfl dX12_joins_86 hMG1 ?_
    refine s_iload_n dX12_joins_89 rfl ?_
    refine s_iconst dX12_joins_90 (by decide) ?_
    refine s_iadd dX12_joins_91 (by omega) ?_
    refine s_iald dX12_joins_92 (mg_a_found hMG1) (by omega) (by omega) (Fr.atA hfG1 (by decide) (by decide)) ?_
    refine cv_X12_338 rfl gX12_full dX12_joins_93 hMG1 (by rw [hcf]; decide) (as := [(0, 3), (0, gS G a_found ((a).toNat)), (0, gS G a_found ((a + 1).toNat))]) rfl (Nat.le_of_ble_eq_true rfl) ⟨3, gS G a_found ((a).toNat), gS G a_found ((a + 1).toNat), rfl, hMG1, (by first | assumption | omega), (by first | assumption | omega), (by first | assumption | omega), (by first | assumption | omega), (by first | assumption | omega), (by first | assumption | omega), fun r9 G8 hMG8 hpG8 => ?_⟩
    obtain ⟨hfG8, hpG8⟩ := hpG8
    have hFG8 : Fr nX12_joins jX12_joins G G8 := Fr.call hFG1 hfG8 (by decide) (by decide)
    show WP kX12_joins X 96 [some (2, ((1000 : Nat) : Int)), some (0, e), some (0, a), some (0, r2)] [(0, r9)] G8
    exact s_iret hR dX12_joins_96 rfl (hQ _ G8 hMG8 (⟨hFG8, ⟨hpG8.1, hFX1.trans hpG8.2.2.1, by have z9 := hpG8.2.1; omega, Or.inr ⟨hpG8.2.1.1, hpG8.2.1.2.1⟩⟩⟩))
  by_cases c3_2 : (gS G a_eKind ((e).toNat)) = 4
  · -- case 4
    refine s_tableIn (tgt := 140) (off := 126) dX12_joins_14 (by omega) (by omega) (by rw [c3_2]; rfl) (by decide) ?_
    refine s_aload_n dX12_joins_140 rfl (Int.natCast_nonneg _) ?_
    refine gf_fKind rfl dX12_joins_141 hMG1 ?_
    refine s_aload_n dX12_joins_144 rfl (Int.natCast_nonneg _) ?_
    refine gf_found rfl dX12_joins_145 hMG1 ?_
    refine s_iload_n dX12_joins_148 rfl ?_
    refine s_iald dX12_joins_149 (mg_a_found hMG1) (by omega) (by omega) (Fr.atA hfG1 (by decide) (by decide)) ?_
    refine s_iald dX12_joins_150 (mg_a_fKind hMG1) (by omega) (by omega) rfl ?_
    refine s_iconst dX12_joins_151 (by decide) ?_
    have hpr := fun q => hFU1.pr (k := (gS G a_found (a).toNat)) hf0.1 (by omega) q
    have J11 : ∀ z10 : Int, (((gS G1 a_fKind ((gS G a_found ((a).toNat)).toNat)) = 3) ∧ (¬ (gS G a_eKind ((e).toNat)) = 4) ∧ z10 = gS G1 a_fB ((gS G a_found ((a).toNat)).toNat)) ∨ (((gS G1 a_fKind ((gS G a_found ((a).toNat)).toNat)) = 3) ∧ ((gS G a_eKind ((e).toNat)) = 4) ∧ z10 = gS G1 a_fA ((gS G a_found ((a).toNat)).toNat)) ∨ ((¬ (gS G1 a_fKind ((gS G a_found ((a).toNat)).toNat)) = 3) ∧ z10 = (-2)) → WP kX12_joins X 195 [some (2, ((1000 : Nat) : Int)), some (0, e), some (0, a), some (0, r2)] [(0, z10)] G1 := by
      intro z10 hz10
      exact s_iret hR dX12_joins_195 rfl (hQ _ G1 hMG1 (⟨hFG1, ⟨hFU1, hFX1, by omega, by omega⟩⟩))
    refine s_icmp_eq (tgt := 160) dX12_joins_152 (by decide) (fun c12 => ?_) (fun c12 => ?_)
    · -- 152 to 160
      refine s_aload_n dX12_joins_160 rfl (Int.natCast_nonneg _) ?_
      refine gf_eKind rfl dX12_joins_161 hMG1 ?_
      refine s_iload_n dX12_joins_164 rfl ?_
      refine s_iald dX12_joins_165 (mg_a_eKind hMG1) (by omega) (by omega) (Fr.atA hfG1 (by decide) (by decide)) ?_
      refine s_iconst dX12_joins_166 (by decide) ?_
      refine s_icmp_ne (tgt := 184) dX12_joins_167 (by decide) (fun c13 => ?_) (fun c13 => ?_)
      · -- 167 to 184
        refine s_aload_n dX12_joins_184 rfl (Int.natCast_nonneg _) ?_
        refine gf_fB rfl dX12_joins_185 hMG1 ?_
        refine s_aload_n dX12_joins_188 rfl (Int.natCast_nonneg _) ?_
        refine gf_found rfl dX12_joins_189 hMG1 ?_
        refine s_iload_n dX12_joins_192 rfl ?_
        refine s_iald dX12_joins_193 (mg_a_found hMG1) (by omega) (by omega) (Fr.atA hfG1 (by decide) (by decide)) ?_
        refine s_iald dX12_joins_194 (mg_a_fB hMG1) (by omega) (by omega) rfl ?_
        exact J11 _ (Or.inl ⟨c12, c13, rfl⟩)
      · -- 167 to 170
        refine s_aload_n dX12_joins_170 rfl (Int.natCast_nonneg _) ?_
        refine gf_fA rfl dX12_joins_171 hMG1 ?_
        refine s_aload_n dX12_joins_174 rfl (Int.natCast_nonneg _) ?_
        refine gf_found rfl dX12_joins_175 hMG1 ?_
        refine s_iload_n dX12_joins_178 rfl ?_
        refine s_iald dX12_joins_179 (mg_a_found hMG1) (by omega) (by omega) (Fr.atA hfG1 (by decide) (by decide)) ?_
        refine s_iald dX12_joins_180 (mg_a_fA hMG1) (by omega) (by omega) rfl ?_
        refine s_goto (tgt := 195) dX12_joins_181 (by decide) ?_
        exact J11 _ (Or.inr (Or.inl ⟨c12, c13, rfl⟩))
    · -- 152 to 155
      refine s_bipush dX12_joins_155 rfl (by decide) ?_
      refine s_goto (tgt := 195) dX12_joins_157 (by decide) ?_
      exact J11 (-2) (Or.inr (Or.inr (⟨c12, rfl⟩)))
  by_cases c3_3 : (gS G a_eKind ((e).toNat)) = 5
  · -- case 5
    refine s_tableIn (tgt := 140) (off := 126) dX12_joins_14 (by omega) (by omega) (by rw [c3_3]; rfl) (by decide) ?_
    refine s_aload_n dX12_joins_140 rfl (Int.natCast_nonneg _) ?_
    refine gf_fKind rfl dX12_joins_141 hMG1 ?_
    refine s_aload_n dX12_joins_144 rfl (Int.natCast_nonneg _) ?_
    refine gf_found rfl dX12_joins_145 hMG1 ?_
    refine s_iload_n dX12_joins_148 rfl ?_
    refine s_iald dX12_joins_149 (mg_a_found hMG1) (by omega) (by omega) (Fr.atA hfG1 (by decide) (by decide)) ?_
    refine s_iald dX12_joins_150 (mg_a_fKind hMG1) (by omega) (by omega) rfl ?_
    refine s_iconst dX12_joins_151 (by decide) ?_
    have hpr := fun q => hFU1.pr (k := (gS G a_found (a).toNat)) hf0.1 (by omega) q
    have J15 : ∀ z14 : Int, (((gS G1 a_fKind ((gS G a_found ((a).toNat)).toNat)) = 3) ∧ (¬ (gS G a_eKind ((e).toNat)) = 4) ∧ z14 = gS G1 a_fB ((gS G a_found ((a).toNat)).toNat)) ∨ (((gS G1 a_fKind ((gS G a_found ((a).toNat)).toNat)) = 3) ∧ ((gS G a_eKind ((e).toNat)) = 4) ∧ z14 = gS G1 a_fA ((gS G a_found ((a).toNat)).toNat)) ∨ ((¬ (gS G1 a_fKind ((gS G a_found ((a).toNat)).toNat)) = 3) ∧ z14 = (-2)) → WP kX12_joins X 195 [some (2, ((1000 : Nat) : Int)), some (0, e), some (0, a), some (0, r2)] [(0, z14)] G1 := by
      intro z14 hz14
      exact s_iret hR dX12_joins_195 rfl (hQ _ G1 hMG1 (⟨hFG1, ⟨hFU1, hFX1, by omega, by omega⟩⟩))
    refine s_icmp_eq (tgt := 160) dX12_joins_152 (by decide) (fun c16 => ?_) (fun c16 => ?_)
    · -- 152 to 160
      refine s_aload_n dX12_joins_160 rfl (Int.natCast_nonneg _) ?_
      refine gf_eKind rfl dX12_joins_161 hMG1 ?_
      refine s_iload_n dX12_joins_164 rfl ?_
      refine s_iald dX12_joins_165 (mg_a_eKind hMG1) (by omega) (by omega) (Fr.atA hfG1 (by decide) (by decide)) ?_
      refine s_iconst dX12_joins_166 (by decide) ?_
      refine s_icmp_ne (tgt := 184) dX12_joins_167 (by decide) (fun c17 => ?_) (fun c17 => ?_)
      · -- 167 to 184
        refine s_aload_n dX12_joins_184 rfl (Int.natCast_nonneg _) ?_
        refine gf_fB rfl dX12_joins_185 hMG1 ?_
        refine s_aload_n dX12_joins_188 rfl (Int.natCast_nonneg _) ?_
        refine gf_found rfl dX12_joins_189 hMG1 ?_
        refine s_iload_n dX12_joins_192 rfl ?_
        refine s_iald dX12_joins_193 (mg_a_found hMG1) (by omega) (by omega) (Fr.atA hfG1 (by decide) (by decide)) ?_
        refine s_iald dX12_joins_194 (mg_a_fB hMG1) (by omega) (by omega) rfl ?_
        exact J15 _ (Or.inl ⟨c16, c17, rfl⟩)
      · -- 167 to 170
        refine s_aload_n dX12_joins_170 rfl (Int.natCast_nonneg _) ?_
        refine gf_fA rfl dX12_joins_171 hMG1 ?_
        refine s_aload_n dX12_joins_174 rfl (Int.natCast_nonneg _) ?_
        refine gf_found rfl dX12_joins_175 hMG1 ?_
        refine s_iload_n dX12_joins_178 rfl ?_
        refine s_iald dX12_joins_179 (mg_a_found hMG1) (by omega) (by omega) (Fr.atA hfG1 (by decide) (by decide)) ?_
        refine s_iald dX12_joins_180 (mg_a_fA hMG1) (by omega) (by omega) rfl ?_
        refine s_goto (tgt := 195) dX12_joins_181 (by decide) ?_
        exact J15 _ (Or.inr (Or.inl ⟨c16, c17, rfl⟩))
    · -- 152 to 155
      refine s_bipush dX12_joins_155 rfl (by decide) ?_
      refine s_goto (tgt := 195) dX12_joins_157 (by decide) ?_
      exact J15 (-2) (Or.inr (Or.inr (⟨c16, rfl⟩)))
  by_cases c3_4 : (gS G a_eKind ((e).toNat)) = 6
  · -- case 6
    refine s_tableIn (tgt := 97) (off := 83) dX12_joins_14 (by omega) (by omega) (by rw [c3_4]; rfl) (by decide) ?_
    refine s_aload_n dX12_joins_97 rfl (Int.natCast_nonneg _) ?_
    refine gf_found rfl dX12_joins_98 hMG1 ?_
    refine s_iload_n dX12_joins_101 rfl ?_
    refine s_iald dX12_joins_102 (mg_a_found hMG1) (by omega) (by omega) (Fr.atA hfG1 (by decide) (by decide)) ?_
    refine s_iload_n dX12_joins_103 rfl ?_
    have J19 : ∀ z18 : Int, ((¬ (gS G a_found ((a).toNat)) = r2) ∧ z18 = (-2)) ∨ (((gS G a_found ((a).toNat)) = r2) ∧ (¬ (gS G a_found ((a + 1).toNat)) = (gS G a_found ((a + 2).toNat))) ∧ z18 = (-2)) ∨ (((gS G a_found ((a).toNat)) = r2) ∧ ((gS G a_found ((a + 1).toNat)) = (gS G a_found ((a + 2).toNat))) ∧ z18 = gS G a_found ((a + 1).toNat)) → WP kX12_joins X 139 [some (2, ((1000 : Nat) : Int)), some (0, e), some (0, a), some (0, r2)] [(0, z18)] G1 := by
      intro z18 hz18
      exact s_iret hR dX12_joins_139 rfl (hQ _ G1 hMG1 (⟨hFG1, ⟨hFU1, hFX1, by omega, by omega⟩⟩))
    refine s_icmp_ne (tgt := 137) dX12_joins_104 (by decide) (fun c20 => ?_) (fun c20 => ?_)
    · -- 104 to 137
      refine s_bipush dX12_joins_137 rfl (by decide) ?_
      exact J19 (-2) (Or.inl ⟨c20, rfl⟩)
    · -- 104 to 107
      refine s_aload_n dX12_joins_107 rfl (Int.natCast_nonneg _) ?_
      refine gf_found rfl dX12_joins_108 hMG1 ?_
      refine s_iload_n dX12_joins_111 rfl ?_
      refine s_iconst dX12_joins_112 (by decide) ?_
      refine s_iadd dX12_joins_113 (by omega) ?_
      refine s_iald dX12_joins_114 (mg_a_found hMG1) (by omega) (by omega) (Fr.atA hfG1 (by decide) (by decide)) ?_
      refine s_aload_n dX12_joins_115 rfl (Int.natCast_nonneg _) ?_
      refine gf_found rfl dX12_joins_116 hMG1 ?_
      refine s_iload_n dX12_joins_119 rfl ?_
      refine s_iconst dX12_joins_120 (by decide) ?_
      refine s_iadd dX12_joins_121 (by omega) ?_
      refine s_iald dX12_joins_122 (mg_a_found hMG1) (by omega) (by omega) (Fr.atA hfG1 (by decide) (by decide)) ?_
      refine s_icmp_ne (tgt := 137) dX12_joins_123 (by decide) (fun c21 => ?_) (fun c21 => ?_)
      · -- 123 to 137
        refine s_bipush dX12_joins_137 rfl (by decide) ?_
        exact J19 (-2) (Or.inr (Or.inl ⟨c20, c21, rfl⟩))
      · -- 123 to 126
        refine s_aload_n dX12_joins_126 rfl (Int.natCast_nonneg _) ?_
        refine gf_found rfl dX12_joins_127 hMG1 ?_
        refine s_iload_n dX12_joins_130 rfl ?_
        refine s_iconst dX12_joins_131 (by decide) ?_
        refine s_iadd dX12_joins_132 (by omega) ?_
        refine s_iald dX12_joins_133 (mg_a_found hMG1) (by omega) (by omega) (Fr.atA hfG1 (by decide) (by decide)) ?_
        refine s_goto (tgt := 139) dX12_joins_134 (by decide) ?_
        exact J19 _ (Or.inr (Or.inr (⟨c20, c21, rfl⟩)))
  refine s_tableOut (tgt := 140) dX12_joins_14 (by omega) (by decide) ?_
  refine s_aload_n dX12_joins_140 rfl (Int.natCast_nonneg _) ?_
  refine gf_fKind rfl dX12_joins_141 hMG1 ?_
  refine s_aload_n dX12_joins_144 rfl (Int.natCast_nonneg _) ?_
  refine gf_found rfl dX12_joins_145 hMG1 ?_
  refine s_iload_n dX12_joins_148 rfl ?_
  refine s_iald dX12_joins_149 (mg_a_found hMG1) (by omega) (by omega) (Fr.atA hfG1 (by decide) (by decide)) ?_
  refine s_iald dX12_joins_150 (mg_a_fKind hMG1) (by omega) (by omega) rfl ?_
  refine s_iconst dX12_joins_151 (by decide) ?_
  have hpr := fun q => hFU1.pr (k := (gS G a_found (a).toNat)) hf0.1 (by omega) q
  have J23 : ∀ z22 : Int, (((gS G1 a_fKind ((gS G a_found ((a).toNat)).toNat)) = 3) ∧ (¬ (gS G a_eKind ((e).toNat)) = 4) ∧ z22 = gS G1 a_fB ((gS G a_found ((a).toNat)).toNat)) ∨ (((gS G1 a_fKind ((gS G a_found ((a).toNat)).toNat)) = 3) ∧ ((gS G a_eKind ((e).toNat)) = 4) ∧ z22 = gS G1 a_fA ((gS G a_found ((a).toNat)).toNat)) ∨ ((¬ (gS G1 a_fKind ((gS G a_found ((a).toNat)).toNat)) = 3) ∧ z22 = (-2)) → WP kX12_joins X 195 [some (2, ((1000 : Nat) : Int)), some (0, e), some (0, a), some (0, r2)] [(0, z22)] G1 := by
    intro z22 hz22
    exact s_iret hR dX12_joins_195 rfl (hQ _ G1 hMG1 (⟨hFG1, ⟨hFU1, hFX1, by omega, by omega⟩⟩))
  refine s_icmp_eq (tgt := 160) dX12_joins_152 (by decide) (fun c24 => ?_) (fun c24 => ?_)
  · -- 152 to 160
    refine s_aload_n dX12_joins_160 rfl (Int.natCast_nonneg _) ?_
    refine gf_eKind rfl dX12_joins_161 hMG1 ?_
    refine s_iload_n dX12_joins_164 rfl ?_
    refine s_iald dX12_joins_165 (mg_a_eKind hMG1) (by omega) (by omega) (Fr.atA hfG1 (by decide) (by decide)) ?_
    refine s_iconst dX12_joins_166 (by decide) ?_
    refine s_icmp_ne (tgt := 184) dX12_joins_167 (by decide) (fun c25 => ?_) (fun c25 => ?_)
    · -- 167 to 184
      refine s_aload_n dX12_joins_184 rfl (Int.natCast_nonneg _) ?_
      refine gf_fB rfl dX12_joins_185 hMG1 ?_
      refine s_aload_n dX12_joins_188 rfl (Int.natCast_nonneg _) ?_
      refine gf_found rfl dX12_joins_189 hMG1 ?_
      refine s_iload_n dX12_joins_192 rfl ?_
      refine s_iald dX12_joins_193 (mg_a_found hMG1) (by omega) (by omega) (Fr.atA hfG1 (by decide) (by decide)) ?_
      refine s_iald dX12_joins_194 (mg_a_fB hMG1) (by omega) (by omega) rfl ?_
      exact J23 _ (Or.inl ⟨c24, c25, rfl⟩)
    · -- 167 to 170
      refine s_aload_n dX12_joins_170 rfl (Int.natCast_nonneg _) ?_
      refine gf_fA rfl dX12_joins_171 hMG1 ?_
      refine s_aload_n dX12_joins_174 rfl (Int.natCast_nonneg _) ?_
      refine gf_found rfl dX12_joins_175 hMG1 ?_
      refine s_iload_n dX12_joins_178 rfl ?_
      refine s_iald dX12_joins_179 (mg_a_found hMG1) (by omega) (by omega) (Fr.atA hfG1 (by decide) (by decide)) ?_
      refine s_iald dX12_joins_180 (mg_a_fA hMG1) (by omega) (by omega) rfl ?_
      refine s_goto (tgt := 195) dX12_joins_181 (by decide) ?_
      exact J23 _ (Or.inr (Or.inl ⟨c24, c25, rfl⟩))
  · -- 152 to 155
    refine s_bipush dX12_joins_155 rfl (by decide) ?_
    refine s_goto (tgt := 195) dX12_joins_157 (by decide) ?_
    exact J23 (-2) (Or.inr (Or.inr (⟨c24, rfl⟩)))
