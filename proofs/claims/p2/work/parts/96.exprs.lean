abbrev nX12_expression : List Nat := [a_eKind, a_eFirst, a_eSecond, a_eThird, a_eWeight]
abbrev jX12_expression : List Nat := [6, 25]
def TX12_expression : TR := fun as G Qr => ∃ (k a b c : Int), as = [(2, ((1000 : Nat) : Int)), (0, k), (0, a), (0, b), (0, c)] ∧ MG G ∧ (EX G) ∧ ∀ (r : Int) (G' : LG), MG G' → (Fr nX12_expression jX12_expression G G' ∧ (EXP G (exT G k a b c) (exW G k a b c) r G' ∧ EX G')) → Qr (.inl (some (0, r))) G'
set_option maxHeartbeats 4000000 in
set_option maxRecDepth 100000 in
theorem gX12_expression : Good kX12_expression yX12_expression 2 TX12_expression := by
  refine good_of (by decide) rfl rfl (fun as G Qr h => ?_) (fun X as G Qr hcf hR hT oa => ?_)
  · obtain ⟨k, a, b, c, rfl, -⟩ := h; exact Nat.le_of_ble_eq_true rfl
  obtain ⟨k, a, b, c, rfl, hM, hEX, hQ⟩ := hT
  show WP kX12_expression X 0 [some (2, ((1000 : Nat) : Int)), some (0, k), some (0, a), some (0, b), some (0, c), none, none, none, none] [] G
  have hr_k : inR k := okv_R (oa _ (by simp))
  have hr_a : inR a := okv_R (oa _ (by simp))
  have hr_b : inR b := okv_R (oa _ (by simp))
  have hr_c : inR c := okv_R (oa _ (by simp))
  have hexx := hEX.1
  refine s_iload_n dX12_expression_0 rfl ?_
  refine s_iconst dX12_expression_1 (by decide) ?_
  refine s_iconst dX12_expression_2 (by decide) ?_
  refine cs_X12_278 rfl gX12_in dX12_expression_3 (by rw [hcf]; decide) (as := [(0, k), (0, 0), (0, 4)]) rfl (Nat.le_of_ble_eq_true rfl) ⟨k, 0, 4, rfl, ?_⟩
  show WP kX12_expression X 6 [some (2, ((1000 : Nat) : Int)), some (0, k), some (0, a), some (0, b), some (0, c), none, none, none, none] [(0, b2i (0 ≤ k ∧ k ≤ 4))] G
  refine s_istore dX12_expression_6 (by decide) (lv' := [some (2, ((1000 : Nat) : Int)), some (0, k), some (0, a), some (0, b), some (0, c), some (0, b2i (0 ≤ k ∧ k ≤ 4)), none, none, none]) rfl ?_
  refine s_iload dX12_expression_8 rfl ?_
  have J2 : ∀ z1 : Int, ((¬ (0 ≤ k ∧ k ≤ 4)) ∧ z1 = 0) ∨ ((0 ≤ k ∧ k ≤ 4) ∧ z1 = (if (k + 2) < 2 then 0 else if (k + 2) = 4 ∨ (k + 2) = 5 then 1 else if (k + 2) = 6 then 3 else 2)) → WP kX12_expression X 23 [some (2, ((1000 : Nat) : Int)), some (0, k), some (0, a), some (0, b), some (0, c), some (0, b2i (0 ≤ k ∧ k ≤ 4)), none, none, none] [(0, z1)] G := by
    intro z1 hz1
    refine s_istore dX12_expression_23 (by decide) (lv' := [some (2, ((1000 : Nat) : Int)), some (0, k), some (0, a), some (0, b), some (0, c), some (0, b2i (0 ≤ k ∧ k ≤ 4)), some (0, z1), none, none]) rfl ?_
    have hm9 : z1 = exM k := by unfold exM; rcases hz1 with ⟨q, hz1⟩ | ⟨q, hz1⟩ <;> rw [hz1] <;> (repeat' split) <;> omega
    clear hz1
    have hb5 : (b2i (0 ≤ k ∧ k ≤ 4) = 1 ∧ (0 ≤ k ∧ k ≤ 4)) ∨ (b2i (0 ≤ k ∧ k ≤ 4) = 0 ∧ ¬ (0 ≤ k ∧ k ≤ 4)) := by (by_cases q : 0 ≤ k ∧ k ≤ 4; exact Or.inl ⟨b2i_t q, q⟩; exact Or.inr ⟨b2i_f q, q⟩)
    have hmf : (b2i (0 ≤ k ∧ k ≤ 4) = 0 ∧ (k < 0 ∨ 4 < k) ∧ z1 = 0) ∨ (b2i (0 ≤ k ∧ k ≤ 4) = 1 ∧ 0 ≤ k ∧ k ≤ 1 ∧ z1 = 2) ∨ (b2i (0 ≤ k ∧ k ≤ 4) = 1 ∧ 2 ≤ k ∧ k ≤ 3 ∧ z1 = 1) ∨ (b2i (0 ≤ k ∧ k ≤ 4) = 1 ∧ k = 4 ∧ z1 = 3) := by rw [hm9]; unfold exM; (repeat' split) <;> omega
    clear hb5
    refine s_iload dX12_expression_25 rfl ?_
    refine s_iconst dX12_expression_27 (by decide) ?_
    have J4 : ∀ z3 : Int, ((z1 < 1) ∧ (z1 < 2) ∧ (z1 < 3) ∧ z3 = 1) ∨ ((z1 < 1) ∧ (z1 < 2) ∧ (¬ z1 < 3) ∧ (¬ (0 ≤ c ∧ c < (gS G 1000 6))) ∧ z3 = 0) ∨ ((z1 < 1) ∧ (z1 < 2) ∧ (¬ z1 < 3) ∧ (0 ≤ c ∧ c < (gS G 1000 6)) ∧ z3 = 1) ∨ ((z1 < 1) ∧ (¬ z1 < 2) ∧ (¬ (0 ≤ b ∧ b < (gS G 1000 6))) ∧ z3 = 0) ∨ ((z1 < 1) ∧ (¬ z1 < 2) ∧ (0 ≤ b ∧ b < (gS G 1000 6)) ∧ (z1 < 3) ∧ z3 = 1) ∨ ((z1 < 1) ∧ (¬ z1 < 2) ∧ (0 ≤ b ∧ b < (gS G 1000 6)) ∧ (¬ z1 < 3) ∧ (¬ (0 ≤ c ∧ c < (gS G 1000 6))) ∧ z3 = 0) ∨ ((z1 < 1) ∧ (¬ z1 < 2) ∧ (0 ≤ b ∧ b < (gS G 1000 6)) ∧ (¬ z1 < 3) ∧ (0 ≤ c ∧ c < (gS G 1000 6)) ∧ z3 = 1) ∨ ((¬ z1 < 1) ∧ (¬ (0 ≤ a ∧ a < (gS G 1000 6))) ∧ z3 = 0) ∨ ((¬ z1 < 1) ∧ (0 ≤ a ∧ a < (gS G 1000 6)) ∧ (z1 < 2) ∧ (z1 < 3) ∧ z3 = 1) ∨ ((¬ z1 < 1) ∧ (0 ≤ a ∧ a < (gS G 1000 6)) ∧ (z1 < 2) ∧ (¬ z1 < 3) ∧ (¬ (0 ≤ c ∧ c < (gS G 1000 6))) ∧ z3 = 0) ∨ ((¬ z1 < 1) ∧ (0 ≤ a ∧ a < (gS G 1000 6)) ∧ (z1 < 2) ∧ (¬ z1 < 3) ∧ (0 ≤ c ∧ c < (gS G 1000 6)) ∧ z3 = 1) ∨ ((¬ z1 < 1) ∧ (0 ≤ a ∧ a < (gS G 1000 6)) ∧ (¬ z1 < 2) ∧ (¬ (0 ≤ b ∧ b < (gS G 1000 6))) ∧ z3 = 0) ∨ ((¬ z1 < 1) ∧ (0 ≤ a ∧ a < (gS G 1000 6)) ∧ (¬ z1 < 2) ∧ (0 ≤ b ∧ b < (gS G 1000 6)) ∧ (z1 < 3) ∧ z3 = 1) ∨ ((¬ z1 < 1) ∧ (0 ≤ a ∧ a < (gS G 1000 6)) ∧ (¬ z1 < 2) ∧ (0 ≤ b ∧ b < (gS G 1000 6)) ∧ (¬ z1 < 3) ∧ (¬ (0 ≤ c ∧ c < (gS G 1000 6))) ∧ z3 = 0) ∨ ((¬ z1 < 1) ∧ (0 ≤ a ∧ a < (gS G 1000 6)) ∧ (¬ z1 < 2) ∧ (0 ≤ b ∧ b < (gS G 1000 6)) ∧ (¬ z1 < 3) ∧ (0 ≤ c ∧ c < (gS G 1000 6)) ∧ z3 = 1) → WP kX12_expression X 73 [some (2, ((1000 : Nat) : Int)), some (0, k), some (0, a), some (0, b), some (0, c), some (0, b2i (0 ≤ k ∧ k ≤ 4)), some (0, z1), none, none] [(0, z3)] G := by
      intro z3 hz3
      refine s_istore dX12_expression_73 (by decide) (lv' := [some (2, ((1000 : Nat) : Int)), some (0, k), some (0, a), some (0, b), some (0, c), some (0, b2i (0 ≤ k ∧ k ≤ 4)), some (0, z1), some (0, z3), none]) rfl ?_
      have hh9 : (z3 = 1 ∧ ((z1 < 1 ∨ (0 ≤ a ∧ a < (gS G 1000 6))) ∧ (z1 < 2 ∨ (0 ≤ b ∧ b < (gS G 1000 6))) ∧ (z1 < 3 ∨ (0 ≤ c ∧ c < (gS G 1000 6))))) ∨ (z3 = 0 ∧ ¬ ((z1 < 1 ∨ (0 ≤ a ∧ a < (gS G 1000 6))) ∧ (z1 < 2 ∨ (0 ≤ b ∧ b < (gS G 1000 6))) ∧ (z1 < 3 ∨ (0 ≤ c ∧ c < (gS G 1000 6))))) := by clear hm9 hmf; rcases hz3 with hz3 | hz3 | hz3 | hz3 | hz3 | hz3 | hz3 | hz3 | hz3 | hz3 | hz3 | hz3 | hz3 | hz3 | hz3 <;> omega
      clear hz3
      refine s_iconst dX12_expression_75 (by decide) ?_
      refine s_istore dX12_expression_76 (by decide) (lv' := [some (2, ((1000 : Nat) : Int)), some (0, k), some (0, a), some (0, b), some (0, c), some (0, b2i (0 ≤ k ∧ k ≤ 4)), some (0, z1), some (0, z3), some (0, 1)]) rfl ?_
      refine s_iload dX12_expression_78 rfl ?_
      refine s_if_eqB (tgt := 134) dX12_expression_80 (by decide) (fun c5 => ?_) (fun c5 => ?_)
      · -- 80 to 134
        have hw9 : (0 ≤ k ∧ k ≤ 4) → ¬ z3 = 0 → (1 : Int) = exW G k a b c := by intro q1 q2; first | (exfalso; omega) | (unfold exW; rw [← hm9]; (repeat' split) <;> omega)
        refine s_aload_n dX12_expression_134 rfl (Int.natCast_nonneg _) ?_
        refine s_iload dX12_expression_135 rfl ?_
        refine s_iload dX12_expression_137 rfl ?_
        refine s_aload_n dX12_expression_139 rfl (Int.natCast_nonneg _) ?_
        refine gf_expressions rfl dX12_expression_140 hM rfl ?_
        refine s_bipush dX12_expression_143 rfl (by decide) ?_
        have J7 : ∀ z6 : Int, ((120 ≤ (gS G 1000 6)) ∧ z6 = 0) ∨ ((¬ 120 ≤ (gS G 1000 6)) ∧ (12 < ((1 : Int))) ∧ z6 = 0) ∨ ((¬ 120 ≤ (gS G 1000 6)) ∧ (¬ 12 < ((1 : Int))) ∧ z6 = 1) → WP kX12_expression X 160 [some (2, ((1000 : Nat) : Int)), some (0, k), some (0, a), some (0, b), some (0, c), some (0, b2i (0 ≤ k ∧ k ≤ 4)), some (0, z1), some (0, z3), some (0, (1 : Int))] [(0, z6), (0, z3), (0, b2i (0 ≤ k ∧ k ≤ 4)), (2, ((1000 : Nat) : Int))] G := by
          intro z6 hz6
          refine cv_X12_298 rfl gX12_goes dX12_expression_160 hM (by rw [hcf]; decide) (as := [(0, b2i (0 ≤ k ∧ k ≤ 4)), (0, z3), (0, z6)]) rfl (Nat.le_of_ble_eq_true rfl) ⟨b2i (0 ≤ k ∧ k ≤ 4), z3, z6, rfl, hM, fun r9 G8 hMG8 hpG8 => ?_⟩
          obtain ⟨eG8, hpG8⟩ := hpG8
          have hFG8 : Fr nX12_expression jX12_expression G G8 := Fr.setF Fr.rf eG8 (by decide)
          show WP kX12_expression X 163 [some (2, ((1000 : Nat) : Int)), some (0, k), some (0, a), some (0, b), some (0, c), some (0, b2i (0 ≤ k ∧ k ≤ 4)), some (0, z1), some (0, z3), some (0, (1 : Int))] [(0, r9)] G8
          refine s_if_ne (tgt := 168) dX12_expression_163 (by decide) (fun c10 => ?_) (fun c10 => ?_)
          · -- 163 to 168
            exfalso; have hg9 := goes_r hpG8 c10; omega
          · -- 163 to 166
            have hr0 := goes_0 hpG8 (by omega)
            have ht9 : (if (b2i (0 ≤ k ∧ k ≤ 4)) = 0 then 1 else if z3 = 0 then 2 else if z6 = 0 then 3 else 0) = exT G k a b c := by unfold exT; rw [← hm9]; (repeat' split) <;> omega
            have hn9 : ¬ exT G k a b c = 0 := by rw [← ht9]; (repeat' split) <;> omega
            refine s_iconst dX12_expression_166 (by decide) ?_
            exact s_iret hR dX12_expression_167 rfl (hQ _ G8 hMG8 (⟨hFG8, ⟨⟨((gsaE eG8)).trans ht9, fun _ => ⟨rfl, (Fr.setF Fr.rf eG8 (by decide) : Fr [] [25] G G8)⟩, fun q => absurd q hn9⟩, hEX.agr ((Fr.setF Fr.rf eG8 (by decide) : Fr [] [25] G G8).agr (by decide) (by decide) (by decide))⟩⟩))
        refine s_icmp_ge (tgt := 159) dX12_expression_145 (by decide) (fun c11 => ?_) (fun c11 => ?_)
        · -- 145 to 159
          refine s_iconst dX12_expression_159 (by decide) ?_
          exact J7 0 (Or.inl ⟨c11, rfl⟩)
        · -- 145 to 148
          refine s_iload dX12_expression_148 rfl ?_
          refine s_bipush dX12_expression_150 rfl (by decide) ?_
          refine s_icmp_gt (tgt := 159) dX12_expression_152 (by decide) (fun c12 => ?_) (fun c12 => ?_)
          · -- 152 to 159
            refine s_iconst dX12_expression_159 (by decide) ?_
            exact J7 0 (Or.inr (Or.inl ⟨c11, c12, rfl⟩))
          · -- 152 to 155
            refine s_iconst dX12_expression_155 (by decide) ?_
            refine s_goto (tgt := 160) dX12_expression_156 (by decide) ?_
            exact J7 1 (Or.inr (Or.inr (⟨c11, c12, rfl⟩)))
      · -- 80 to 83
        refine s_iload dX12_expression_83 rfl ?_
        refine s_if_eq (tgt := 134) dX12_expression_85 (by decide) (fun c13 => ?_) (fun c13 => ?_)
        · -- 85 to 134
          have hw9 : (0 ≤ k ∧ k ≤ 4) → ¬ z3 = 0 → (1 : Int) = exW G k a b c := by intro q1 q2; first | (exfalso; omega) | (unfold exW; rw [← hm9]; (repeat' split) <;> omega)
          refine s_aload_n dX12_expression_134 rfl (Int.natCast_nonneg _) ?_
          refine s_iload dX12_expression_135 rfl ?_
          refine s_iload dX12_expression_137 rfl ?_
          refine s_aload_n dX12_expression_139 rfl (Int.natCast_nonneg _) ?_
          refine gf_expressions rfl dX12_expression_140 hM rfl ?_
          refine s_bipush dX12_expression_143 rfl (by decide) ?_
          have J15 : ∀ z14 : Int, ((120 ≤ (gS G 1000 6)) ∧ z14 = 0) ∨ ((¬ 120 ≤ (gS G 1000 6)) ∧ (12 < ((1 : Int))) ∧ z14 = 0) ∨ ((¬ 120 ≤ (gS G 1000 6)) ∧ (¬ 12 < ((1 : Int))) ∧ z14 = 1) → WP kX12_expression X 160 [some (2, ((1000 : Nat) : Int)), some (0, k), some (0, a), some (0, b), some (0, c), some (0, b2i (0 ≤ k ∧ k ≤ 4)), some (0, z1), some (0, z3), some (0, (1 : Int))] [(0, z14), (0, z3), (0, b2i (0 ≤ k ∧ k ≤ 4)), (2, ((1000 : Nat) : Int))] G := by
            intro z14 hz14
            refine cv_X12_298 rfl gX12_goes dX12_expression_160 hM (by rw [hcf]; decide) (as := [(0, b2i (0 ≤ k ∧ k ≤ 4)), (0, z3), (0, z14)]) rfl (Nat.le_of_ble_eq_true rfl) ⟨b2i (0 ≤ k ∧ k ≤ 4), z3, z14, rfl, hM, fun r17 G16 hMG16 hpG16 => ?_⟩
            obtain ⟨eG16, hpG16⟩ := hpG16
            have hFG16 : Fr nX12_expression jX12_expression G G16 := Fr.setF Fr.rf eG16 (by decide)
            show WP kX12_expression X 163 [some (2, ((1000 : Nat) : Int)), some (0, k), some (0, a), some (0, b), some (0, c), some (0, b2i (0 ≤ k ∧ k ≤ 4)), some (0, z1), some (0, z3), some (0, (1 : Int))] [(0, r17)] G16
            refine s_if_ne (tgt := 168) dX12_expression_163 (by decide) (fun c18 => ?_) (fun c18 => ?_)
            · -- 163 to 168
              exfalso; have hg9 := goes_r hpG16 c18; omega
            · -- 163 to 166
              have hr0 := goes_0 hpG16 (by omega)
              have ht9 : (if (b2i (0 ≤ k ∧ k ≤ 4)) = 0 then 1 else if z3 = 0 then 2 else if z14 = 0 then 3 else 0) = exT G k a b c := by unfold exT; rw [← hm9]; (repeat' split) <;> omega
              have hn9 : ¬ exT G k a b c = 0 := by rw [← ht9]; (repeat' split) <;> omega
              refine s_iconst dX12_expression_166 (by decide) ?_
              exact s_iret hR dX12_expression_167 rfl (hQ _ G16 hMG16 (⟨hFG16, ⟨⟨((gsaE eG16)).trans ht9, fun _ => ⟨rfl, (Fr.setF Fr.rf eG16 (by decide) : Fr [] [25] G G16)⟩, fun q => absurd q hn9⟩, hEX.agr ((Fr.setF Fr.rf eG16 (by decide) : Fr [] [25] G G16).agr (by decide) (by decide) (by decide))⟩⟩))
          refine s_icmp_ge (tgt := 159) dX12_expression_145 (by decide) (fun c19 => ?_) (fun c19 => ?_)
          · -- 145 to 159
            refine s_iconst dX12_expression_159 (by decide) ?_
            exact J15 0 (Or.inl ⟨c19, rfl⟩)
          · -- 145 to 148
            refine s_iload dX12_expression_148 rfl ?_
            refine s_bipush dX12_expression_150 rfl (by decide) ?_
            refine s_icmp_gt (tgt := 159) dX12_expression_152 (by decide) (fun c20 => ?_) (fun c20 => ?_)
            · -- 152 to 159
              refine s_iconst dX12_expression_159 (by decide) ?_
              exact J15 0 (Or.inr (Or.inl ⟨c19, c20, rfl⟩))
            · -- 152 to 155
              refine s_iconst dX12_expression_155 (by decide) ?_
              refine s_goto (tgt := 160) dX12_expression_156 (by decide) ?_
              exact J15 1 (Or.inr (Or.inr (⟨c19, c20, rfl⟩)))
        · -- 85 to 88
          have hz9 : z3 = 1 := by omega
          have hA9 : 0 ≤ a ∧ a < (gS G 1000 6) := by omega
          have hB9 : z1 < 2 ∨ (0 ≤ b ∧ b < (gS G 1000 6)) := by omega
          have hC9 : z1 < 3 ∨ (0 ≤ c ∧ c < (gS G 1000 6)) := by omega
          clear hh9
          have hwa := hEX.w (x := a) (by omega) (by omega)
          have hwb : 1 < z1 → 1 ≤ (gS G a_eWeight (b).toNat) ∧ (gS G a_eWeight (b).toNat) ≤ 12 := fun q => hEX.w (by omega) (by omega)
          have hwc : 2 < z1 → 1 ≤ (gS G a_eWeight (c).toNat) ∧ (gS G a_eWeight (c).toNat) ≤ 12 := fun q => hEX.w (by omega) (by omega)
          refine s_iload dX12_expression_88 rfl ?_
          refine s_aload_n dX12_expression_90 rfl (Int.natCast_nonneg _) ?_
          refine gf_eWeight rfl dX12_expression_91 hM ?_
          refine s_iload_n dX12_expression_94 rfl ?_
          refine s_iald dX12_expression_95 (mg_a_eWeight hM) (by omega) (by omega) rfl ?_
          refine s_iload dX12_expression_96 rfl ?_
          refine s_iconst dX12_expression_98 (by decide) ?_
          have J22 : ∀ z21 : Int, ((z1 ≤ 1) ∧ z21 = 0) ∨ ((¬ z1 ≤ 1) ∧ z21 = gS G a_eWeight ((b).toNat)) → WP kX12_expression X 112 [some (2, ((1000 : Nat) : Int)), some (0, k), some (0, a), some (0, b), some (0, c), some (0, b2i (0 ≤ k ∧ k ≤ 4)), some (0, z1), some (0, z3), some (0, (1 : Int))] [(0, z21), (0, gS G a_eWeight ((a).toNat)), (0, (1 : Int))] G := by
            intro z21 hz21
            refine s_iadd dX12_expression_112 (by omega) ?_
            refine s_iload dX12_expression_113 rfl ?_
            refine s_iconst dX12_expression_115 (by decide) ?_
            have J24 : ∀ z23 : Int, ((z1 ≤ 2) ∧ z23 = 0) ∨ ((¬ z1 ≤ 2) ∧ z23 = gS G a_eWeight ((c).toNat)) → WP kX12_expression X 130 [some (2, ((1000 : Nat) : Int)), some (0, k), some (0, a), some (0, b), some (0, c), some (0, b2i (0 ≤ k ∧ k ≤ 4)), some (0, z1), some (0, z3), some (0, (1 : Int))] [(0, z23), (0, (gS G a_eWeight ((a).toNat)) + z21), (0, (1 : Int))] G := by
              intro z23 hz23
              refine s_iadd dX12_expression_130 (by omega) ?_
              refine s_iadd dX12_expression_131 (by omega) ?_
              refine s_istore dX12_expression_132 (by decide) (lv' := [some (2, ((1000 : Nat) : Int)), some (0, k), some (0, a), some (0, b), some (0, c), some (0, b2i (0 ≤ k ∧ k ≤ 4)), some (0, z1), some (0, z3), some (0, ((1 : Int)) + (((gS G a_eWeight ((a).toNat)) + z21) + z23))]) rfl ?_
              have hw9 : (0 ≤ k ∧ k ≤ 4) → ¬ z3 = 0 → ((1 : Int)) + (((gS G a_eWeight ((a).toNat)) + z21) + z23) = exW G k a b c := by intro q1 q2; first | (exfalso; omega) | (unfold exW; rw [← hm9]; (repeat' split) <;> omega)
              refine s_aload_n dX12_expression_134 rfl (Int.natCast_nonneg _) ?_
              refine s_iload dX12_expression_135 rfl ?_
              refine s_iload dX12_expression_137 rfl ?_
              refine s_aload_n dX12_expression_139 rfl (Int.natCast_nonneg _) ?_
              refine gf_expressions rfl dX12_expression_140 hM rfl ?_
              refine s_bipush dX12_expression_143 rfl (by decide) ?_
              have J26 : ∀ z25 : Int, ((120 ≤ (gS G 1000 6)) ∧ z25 = 0) ∨ ((¬ 120 ≤ (gS G 1000 6)) ∧ (12 < (((1 : Int)) + (((gS G a_eWeight ((a).toNat)) + z21) + z23))) ∧ z25 = 0) ∨ ((¬ 120 ≤ (gS G 1000 6)) ∧ (¬ 12 < (((1 : Int)) + (((gS G a_eWeight ((a).toNat)) + z21) + z23))) ∧ z25 = 1) → WP kX12_expression X 160 [some (2, ((1000 : Nat) : Int)), some (0, k), some (0, a), some (0, b), some (0, c), some (0, b2i (0 ≤ k ∧ k ≤ 4)), some (0, z1), some (0, z3), some (0, ((1 : Int)) + (((gS G a_eWeight ((a).toNat)) + z21) + z23))] [(0, z25), (0, z3), (0, b2i (0 ≤ k ∧ k ≤ 4)), (2, ((1000 : Nat) : Int))] G := by
                intro z25 hz25
                refine cv_X12_298 rfl gX12_goes dX12_expression_160 hM (by rw [hcf]; decide) (as := [(0, b2i (0 ≤ k ∧ k ≤ 4)), (0, z3), (0, z25)]) rfl (Nat.le_of_ble_eq_true rfl) ⟨b2i (0 ≤ k ∧ k ≤ 4), z3, z25, rfl, hM, fun r28 G27 hMG27 hpG27 => ?_⟩
                obtain ⟨eG27, hpG27⟩ := hpG27
                have hFG27 : Fr nX12_expression jX12_expression G G27 := Fr.setF Fr.rf eG27 (by decide)
                show WP kX12_expression X 163 [some (2, ((1000 : Nat) : Int)), some (0, k), some (0, a), some (0, b), some (0, c), some (0, b2i (0 ≤ k ∧ k ≤ 4)), some (0, z1), some (0, z3), some (0, ((1 : Int)) + (((gS G a_eWeight ((a).toNat)) + z21) + z23))] [(0, r28)] G27
                refine s_if_ne (tgt := 168) dX12_expression_163 (by decide) (fun c29 => ?_) (fun c29 => ?_)
                · -- 163 to 168
                  have hie9 : (gS G27 1000 6) = (gS G 1000 6) := (gsjE eG27 (by decide))
                  have hg9 := goes_r hpG27 (by assumption)
                  have hw9 := hw9 (by omega) (by omega)
                  have hn9 : exT G k a b c = 0 := by unfold exT; rw [← hm9]; (repeat' split) <;> omega
                  refine s_aload_n dX12_expression_168 rfl (Int.natCast_nonneg _) ?_
                  refine s_iload_n dX12_expression_169 rfl ?_
                  refine s_iconst dX12_expression_170 (by decide) ?_
                  refine s_iadd dX12_expression_171 (by omega) ?_
                  refine s_iload_n dX12_expression_172 rfl ?_
                  refine s_iload dX12_expression_173 rfl ?_
                  refine s_iconst dX12_expression_175 (by decide) ?_
                  have J31 : ∀ z30 : Int, ((z1 ≤ 1) ∧ z30 = 0) ∨ ((¬ z1 ≤ 1) ∧ z30 = b) → WP kX12_expression X 184 [some (2, ((1000 : Nat) : Int)), some (0, k), some (0, a), some (0, b), some (0, c), some (0, b2i (0 ≤ k ∧ k ≤ 4)), some (0, z1), some (0, z3), some (0, ((1 : Int)) + (((gS G a_eWeight ((a).toNat)) + z21) + z23))] [(0, z30), (0, a), (0, k + 2), (2, ((1000 : Nat) : Int))] G27 := by
                    intro z30 hz30
                    refine s_iload dX12_expression_184 rfl ?_
                    refine s_iconst dX12_expression_186 (by decide) ?_
                    have J33 : ∀ z32 : Int, ((z1 ≤ 2) ∧ z32 = 0) ∨ ((¬ z1 ≤ 2) ∧ z32 = c) → WP kX12_expression X 196 [some (2, ((1000 : Nat) : Int)), some (0, k), some (0, a), some (0, b), some (0, c), some (0, b2i (0 ≤ k ∧ k ≤ 4)), some (0, z1), some (0, z3), some (0, ((1 : Int)) + (((gS G a_eWeight ((a).toNat)) + z21) + z23))] [(0, z32), (0, z30), (0, a), (0, k + 2), (2, ((1000 : Nat) : Int))] G27 := by
                      intro z32 hz32
                      refine s_iload dX12_expression_196 rfl ?_
                      refine cv_X12_305 rfl gX12_made dX12_expression_198 hMG27 (by rw [hcf]; decide) (as := [(0, k + 2), (0, a), (0, z30), (0, z32), (0, ((1 : Int)) + (((gS G a_eWeight ((a).toNat)) + z21) + z23))]) rfl (Nat.le_of_ble_eq_true rfl) ⟨k + 2, a, z30, z32, ((1 : Int)) + (((gS G a_eWeight ((a).toNat)) + z21) + z23), rfl, hMG27, (by first | assumption | omega), fun r35 G34 hMG34 hpG34 => ?_⟩
                      obtain ⟨G36, G37, G38, G39, G40, eG36, eG37, eG38, eG39, eG40, eG34, hpG34⟩ := hpG34
                      have hFG36 : Fr nX12_expression jX12_expression G G36 := Fr.setA hFG27 eG36 (by decide)
                      have hFG37 : Fr nX12_expression jX12_expression G G37 := Fr.setA hFG36 eG37 (by decide)
                      have hFG38 : Fr nX12_expression jX12_expression G G38 := Fr.setA hFG37 eG38 (by decide)
                      have hFG39 : Fr nX12_expression jX12_expression G G39 := Fr.setA hFG38 eG39 (by decide)
                      have hFG40 : Fr nX12_expression jX12_expression G G40 := Fr.setA hFG39 eG40 (by decide)
                      have hFG34 : Fr nX12_expression jX12_expression G G34 := Fr.setF hFG40 eG34 (by decide)
                      show WP kX12_expression X 201 [some (2, ((1000 : Nat) : Int)), some (0, k), some (0, a), some (0, b), some (0, c), some (0, b2i (0 ≤ k ∧ k ≤ 4)), some (0, z1), some (0, z3), some (0, ((1 : Int)) + (((gS G a_eWeight ((a).toNat)) + z21) + z23))] [(0, r35)] G34
                      exact s_iret hR dX12_expression_201 rfl (hQ _ G34 hMG34 (⟨hFG34, ⟨⟨(by rw [hn9, (Eq.trans (gsjE eG34 (by decide)) (Eq.trans (gsnE eG40 (by decide)) (Eq.trans (gsnE eG39 (by decide)) (Eq.trans (gsnE eG38 (by decide)) (Eq.trans (gsnE eG37 (by decide)) (Eq.trans (gsnE eG36 (by decide)) (gsaE eG27))))))), if_neg hg9.1, if_neg hg9.2.1, if_neg hg9.2.2]), fun q => absurd hn9 q, fun _ => ⟨hpG34.trans ((gsjE eG27 (by decide))), ((gsaE eG34)).trans (by rw [(gsjE eG27 (by decide))]), (by rw [← hw9]; exact (fun j => by rw [gsnE eG34 (by decide), g_upd eG40, gsnE eG39 (by decide), gsnE eG38 (by decide), gsnE eG37 (by decide), gsnE eG36 (by decide), show (gS G27 1000 6) = (gS G 1000 6) from (gsjE eG27 (by decide)), gsnE eG27 (by decide)]))⟩⟩, hEX.add (by omega) (((gsaE eG34)).trans (by rw [(gsjE eG27 (by decide))])) (fun j => by rw [gsnE eG34 (by decide), gsnE eG40 (by decide), gsnE eG39 (by decide), gsnE eG38 (by decide), gsnE eG37 (by decide), g_upd eG36, show (gS G27 1000 6) = (gS G 1000 6) from (gsjE eG27 (by decide)), gsnE eG27 (by decide)]) (fun j => by rw [gsnE eG34 (by decide), gsnE eG40 (by decide), gsnE eG39 (by decide), gsnE eG38 (by decide), g_upd eG37, gsnE eG36 (by decide), show (gS G27 1000 6) = (gS G 1000 6) from (gsjE eG27 (by decide)), gsnE eG27 (by decide)]) (fun j => by rw [gsnE eG34 (by decide), gsnE eG40 (by decide), gsnE eG39 (by decide), g_upd eG38, gsnE eG37 (by decide), gsnE eG36 (by decide), show (gS G27 1000 6) = (gS G 1000 6) from (gsjE eG27 (by decide)), gsnE eG27 (by decide)]) (fun j => by rw [gsnE eG34 (by decide), gsnE eG40 (by decide), g_upd eG39, gsnE eG38 (by decide), gsnE eG37 (by decide), gsnE eG36 (by decide), show (gS G27 1000 6) = (gS G 1000 6) from (gsjE eG27 (by decide)), gsnE eG27 (by decide)]) (fun j => by rw [gsnE eG34 (by decide), g_upd eG40, gsnE eG39 (by decide), gsnE eG38 (by decide), gsnE eG37 (by decide), gsnE eG36 (by decide), show (gS G27 1000 6) = (gS G 1000 6) from (gsjE eG27 (by decide)), gsnE eG27 (by decide)]) (by omega) (by omega) (by omega) (by omega) (by omega) (by omega) (fun q => by rw [show z30 = b by omega]; omega) (fun q => by omega) (fun q => by rw [show z30 = b by omega, show z32 = c by omega]; omega)⟩⟩))
                    refine s_icmp_le (tgt := 195) dX12_expression_187 (by decide) (fun c41 => ?_) (fun c41 => ?_)
                    · -- 187 to 195
                      refine s_iconst dX12_expression_195 (by decide) ?_
                      exact J33 0 (Or.inl ⟨c41, rfl⟩)
                    · -- 187 to 190
                      refine s_iload dX12_expression_190 rfl ?_
                      refine s_goto (tgt := 196) dX12_expression_192 (by decide) ?_
                      exact J33 c (Or.inr (⟨c41, rfl⟩))
                  refine s_icmp_le (tgt := 183) dX12_expression_176 (by decide) (fun c42 => ?_) (fun c42 => ?_)
                  · -- 176 to 183
                    refine s_iconst dX12_expression_183 (by decide) ?_
                    exact J31 0 (Or.inl ⟨c42, rfl⟩)
                  · -- 176 to 179
                    refine s_iload_n dX12_expression_179 rfl ?_
                    refine s_goto (tgt := 184) dX12_expression_180 (by decide) ?_
                    exact J31 b (Or.inr (⟨c42, rfl⟩))
                · -- 163 to 166
                  have hr0 := goes_0 hpG27 (by omega)
                  have ht9 : (if (b2i (0 ≤ k ∧ k ≤ 4)) = 0 then 1 else if z3 = 0 then 2 else if z25 = 0 then 3 else 0) = exT G k a b c := by unfold exT; rw [← hm9]; (repeat' split) <;> omega
                  have hn9 : ¬ exT G k a b c = 0 := by rw [← ht9]; (repeat' split) <;> omega
                  refine s_iconst dX12_expression_166 (by decide) ?_
                  exact s_iret hR dX12_expression_167 rfl (hQ _ G27 hMG27 (⟨hFG27, ⟨⟨((gsaE eG27)).trans ht9, fun _ => ⟨rfl, (Fr.setF Fr.rf eG27 (by decide) : Fr [] [25] G G27)⟩, fun q => absurd q hn9⟩, hEX.agr ((Fr.setF Fr.rf eG27 (by decide) : Fr [] [25] G G27).agr (by decide) (by decide) (by decide))⟩⟩))
              refine s_icmp_ge (tgt := 159) dX12_expression_145 (by decide) (fun c43 => ?_) (fun c43 => ?_)
              · -- 145 to 159
                refine s_iconst dX12_expression_159 (by decide) ?_
                exact J26 0 (Or.inl ⟨c43, rfl⟩)
              · -- 145 to 148
                refine s_iload dX12_expression_148 rfl ?_
                refine s_bipush dX12_expression_150 rfl (by decide) ?_
                refine s_icmp_gt (tgt := 159) dX12_expression_152 (by decide) (fun c44 => ?_) (fun c44 => ?_)
                · -- 152 to 159
                  refine s_iconst dX12_expression_159 (by decide) ?_
                  exact J26 0 (Or.inr (Or.inl ⟨c43, c44, rfl⟩))
                · -- 152 to 155
                  refine s_iconst dX12_expression_155 (by decide) ?_
                  refine s_goto (tgt := 160) dX12_expression_156 (by decide) ?_
                  exact J26 1 (Or.inr (Or.inr (⟨c43, c44, rfl⟩)))
            refine s_icmp_le (tgt := 129) dX12_expression_116 (by decide) (fun c45 => ?_) (fun c45 => ?_)
            · -- 116 to 129
              refine s_iconst dX12_expression_129 (by decide) ?_
              exact J24 0 (Or.inl ⟨c45, rfl⟩)
            · -- 116 to 119
              refine s_aload_n dX12_expression_119 rfl (Int.natCast_nonneg _) ?_
              refine gf_eWeight rfl dX12_expression_120 hM ?_
              refine s_iload dX12_expression_123 rfl ?_
              refine s_iald dX12_expression_125 (mg_a_eWeight hM) (by omega) (by omega) rfl ?_
              refine s_goto (tgt := 130) dX12_expression_126 (by decide) ?_
              exact J24 _ (Or.inr (⟨c45, rfl⟩))
          refine s_icmp_le (tgt := 111) dX12_expression_99 (by decide) (fun c46 => ?_) (fun c46 => ?_)
          · -- 99 to 111
            refine s_iconst dX12_expression_111 (by decide) ?_
            exact J22 0 (Or.inl ⟨c46, rfl⟩)
          · -- 99 to 102
            refine s_aload_n dX12_expression_102 rfl (Int.natCast_nonneg _) ?_
            refine gf_eWeight rfl dX12_expression_103 hM ?_
            refine s_iload_n dX12_expression_106 rfl ?_
            refine s_iald dX12_expression_107 (mg_a_eWeight hM) (by omega) (by omega) rfl ?_
            refine s_goto (tgt := 112) dX12_expression_108 (by decide) ?_
            exact J22 _ (Or.inr (⟨c46, rfl⟩))
    refine s_icmp_lt (tgt := 39) dX12_expression_28 (by decide) (fun c47 => ?_) (fun c47 => ?_)
    · -- 28 to 39
      refine s_iload dX12_expression_39 rfl ?_
      refine s_iconst dX12_expression_41 (by decide) ?_
      refine s_icmp_lt (tgt := 53) dX12_expression_42 (by decide) (fun c48 => ?_) (fun c48 => ?_)
      · -- 42 to 53
        refine s_iload dX12_expression_53 rfl ?_
        refine s_iconst dX12_expression_55 (by decide) ?_
        refine s_icmp_lt (tgt := 68) dX12_expression_56 (by decide) (fun c49 => ?_) (fun c49 => ?_)
        · -- 56 to 68
          refine s_iconst dX12_expression_68 (by decide) ?_
          refine s_goto (tgt := 73) dX12_expression_69 (by decide) ?_
          exact J4 1 (Or.inl ⟨c47, c48, c49, rfl⟩)
        · -- 56 to 59
          refine s_aload_n dX12_expression_59 rfl (Int.natCast_nonneg _) ?_
          refine s_iload dX12_expression_60 rfl ?_
          refine cv_X12_313 rfl gX12_isExpression dX12_expression_62 hM (by rw [hcf]; decide) (as := [(0, c)]) rfl (Nat.le_of_ble_eq_true rfl) ⟨c, rfl, hM, (by first | assumption | omega), ?_⟩
          show WP kX12_expression X 65 [some (2, ((1000 : Nat) : Int)), some (0, k), some (0, a), some (0, b), some (0, c), some (0, b2i (0 ≤ k ∧ k ≤ 4)), some (0, z1), none, none] [(0, b2i (0 ≤ c ∧ c < (gS G 1000 6)))] G
          refine s_if_eqB (tgt := 72) dX12_expression_65 (by decide) (fun c50 => ?_) (fun c50 => ?_)
          · -- 65 to 72
            refine s_iconst dX12_expression_72 (by decide) ?_
            exact J4 0 (Or.inr (Or.inl ⟨c47, c48, c49, c50, rfl⟩))
          · -- 65 to 68
            refine s_iconst dX12_expression_68 (by decide) ?_
            refine s_goto (tgt := 73) dX12_expression_69 (by decide) ?_
            exact J4 1 (Or.inr (Or.inr (Or.inl ⟨c47, c48, c49, c50, rfl⟩)))
      · -- 42 to 45
        refine s_aload_n dX12_expression_45 rfl (Int.natCast_nonneg _) ?_
        refine s_iload_n dX12_expression_46 rfl ?_
        refine cv_X12_313 rfl gX12_isExpression dX12_expression_47 hM (by rw [hcf]; decide) (as := [(0, b)]) rfl (Nat.le_of_ble_eq_true rfl) ⟨b, rfl, hM, (by first | assumption | omega), ?_⟩
        show WP kX12_expression X 50 [some (2, ((1000 : Nat) : Int)), some (0, k), some (0, a), some (0, b), some (0, c), some (0, b2i (0 ≤ k ∧ k ≤ 4)), some (0, z1), none, none] [(0, b2i (0 ≤ b ∧ b < (gS G 1000 6)))] G
        refine s_if_eqB (tgt := 72) dX12_expression_50 (by decide) (fun c51 => ?_) (fun c51 => ?_)
        · -- 50 to 72
          refine s_iconst dX12_expression_72 (by decide) ?_
          exact J4 0 (Or.inr (Or.inr (Or.inr (Or.inl ⟨c47, c48, c51, rfl⟩))))
        · -- 50 to 53
          refine s_iload dX12_expression_53 rfl ?_
          refine s_iconst dX12_expression_55 (by decide) ?_
          refine s_icmp_lt (tgt := 68) dX12_expression_56 (by decide) (fun c52 => ?_) (fun c52 => ?_)
          · -- 56 to 68
            refine s_iconst dX12_expression_68 (by decide) ?_
            refine s_goto (tgt := 73) dX12_expression_69 (by decide) ?_
            exact J4 1 (Or.inr (Or.inr (Or.inr (Or.inr (Or.inl ⟨c47, c48, c51, c52, rfl⟩)))))
          · -- 56 to 59
            refine s_aload_n dX12_expression_59 rfl (Int.natCast_nonneg _) ?_
            refine s_iload dX12_expression_60 rfl ?_
            refine cv_X12_313 rfl gX12_isExpression dX12_expression_62 hM (by rw [hcf]; decide) (as := [(0, c)]) rfl (Nat.le_of_ble_eq_true rfl) ⟨c, rfl, hM, (by first | assumption | omega), ?_⟩
            show WP kX12_expression X 65 [some (2, ((1000 : Nat) : Int)), some (0, k), some (0, a), some (0, b), some (0, c), some (0, b2i (0 ≤ k ∧ k ≤ 4)), some (0, z1), none, none] [(0, b2i (0 ≤ c ∧ c < (gS G 1000 6)))] G
            refine s_if_eqB (tgt := 72) dX12_expression_65 (by decide) (fun c53 => ?_) (fun c53 => ?_)
            · -- 65 to 72
              refine s_iconst dX12_expression_72 (by decide) ?_
              exact J4 0 (Or.inr (Or.inr (Or.inr (Or.inr (Or.inr (Or.inl ⟨c47, c48, c51, c52, c53, rfl⟩))))))
            · -- 65 to 68
              refine s_iconst dX12_expression_68 (by decide) ?_
              refine s_goto (tgt := 73) dX12_expression_69 (by decide) ?_
              exact J4 1 (Or.inr (Or.inr (Or.inr (Or.inr (Or.inr (Or.inr (Or.inl ⟨c47, c48, c51, c52, c53, rfl⟩)))))))
    · -- 28 to 31
      refine s_aload_n dX12_expression_31 rfl (Int.natCast_nonneg _) ?_
      refine s_iload_n dX12_expression_32 rfl ?_
      refine cv_X12_313 rfl gX12_isExpression dX12_expression_33 hM (by rw [hcf]; decide) (as := [(0, a)]) rfl (Nat.le_of_ble_eq_true rfl) ⟨a, rfl, hM, (by first | assumption | omega), ?_⟩
      show WP kX12_expression X 36 [some (2, ((1000 : Nat) : Int)), some (0, k), some (0, a), some (0, b), some (0, c), some (0, b2i (0 ≤ k ∧ k ≤ 4)), some (0, z1), none, none] [(0, b2i (0 ≤ a ∧ a < (gS G 1000 6)))] G
      refine s_if_eqB (tgt := 72) dX12_expression_36 (by decide) (fun c54 => ?_) (fun c54 => ?_)
      · -- 36 to 72
        refine s_iconst dX12_expression_72 (by decide) ?_
        exact J4 0 (Or.inr (Or.inr (Or.inr (Or.inr (Or.inr (Or.inr (Or.inr (Or.inl ⟨c47, c54, rfl⟩))))))))
      · -- 36 to 39
        refine s_iload dX12_expression_39 rfl ?_
        refine s_iconst dX12_expression_41 (by decide) ?_
        refine s_icmp_lt (tgt := 53) dX12_expression_42 (by decide) (fun c55 => ?_) (fun c55 => ?_)
        · -- 42 to 53
          refine s_iload dX12_expression_53 rfl ?_
          refine s_iconst dX12_expression_55 (by decide) ?_
          refine s_icmp_lt (tgt := 68) dX12_expression_56 (by decide) (fun c56 => ?_) (fun c56 => ?_)
          · -- 56 to 68
            refine s_iconst dX12_expression_68 (by decide) ?_
            refine s_goto (tgt := 73) dX12_expression_69 (by decide) ?_
            exact J4 1 (Or.inr (Or.inr (Or.inr (Or.inr (Or.inr (Or.inr (Or.inr (Or.inr (Or.inl ⟨c47, c54, c55, c56, rfl⟩)))))))))
          · -- 56 to 59
            refine s_aload_n dX12_expression_59 rfl (Int.natCast_nonneg _) ?_
            refine s_iload dX12_expression_60 rfl ?_
            refine cv_X12_313 rfl gX12_isExpression dX12_expression_62 hM (by rw [hcf]; decide) (as := [(0, c)]) rfl (Nat.le_of_ble_eq_true rfl) ⟨c, rfl, hM, (by first | assumption | omega), ?_⟩
            show WP kX12_expression X 65 [some (2, ((1000 : Nat) : Int)), some (0, k), some (0, a), some (0, b), some (0, c), some (0, b2i (0 ≤ k ∧ k ≤ 4)), some (0, z1), none, none] [(0, b2i (0 ≤ c ∧ c < (gS G 1000 6)))] G
            refine s_if_eqB (tgt := 72) dX12_expression_65 (by decide) (fun c57 => ?_) (fun c57 => ?_)
            · -- 65 to 72
              refine s_iconst dX12_expression_72 (by decide) ?_
              exact J4 0 (Or.inr (Or.inr (Or.inr (Or.inr (Or.inr (Or.inr (Or.inr (Or.inr (Or.inr (Or.inl ⟨c47, c54, c55, c56, c57, rfl⟩))))))))))
            · -- 65 to 68
              refine s_iconst dX12_expression_68 (by decide) ?_
              refine s_goto (tgt := 73) dX12_expression_69 (by decide) ?_
              exact J4 1 (Or.inr (Or.inr (Or.inr (Or.inr (Or.inr (Or.inr (Or.inr (Or.inr (Or.inr (Or.inr (Or.inl ⟨c47, c54, c55, c56, c57, rfl⟩)))))))))))
        · -- 42 to 45
          refine s_aload_n dX12_expression_45 rfl (Int.natCast_nonneg _) ?_
          refine s_iload_n dX12_expression_46 rfl ?_
          refine cv_X12_313 rfl gX12_isExpression dX12_expression_47 hM (by rw [hcf]; decide) (as := [(0, b)]) rfl (Nat.le_of_ble_eq_true rfl) ⟨b, rfl, hM, (by first | assumption | omega), ?_⟩
          show WP kX12_expression X 50 [some (2, ((1000 : Nat) : Int)), some (0, k), some (0, a), some (0, b), some (0, c), some (0, b2i (0 ≤ k ∧ k ≤ 4)), some (0, z1), none, none] [(0, b2i (0 ≤ b ∧ b < (gS G 1000 6)))] G
          refine s_if_eqB (tgt := 72) dX12_expression_50 (by decide) (fun c58 => ?_) (fun c58 => ?_)
          · -- 50 to 72
            refine s_iconst dX12_expression_72 (by decide) ?_
            exact J4 0 (Or.inr (Or.inr (Or.inr (Or.inr (Or.inr (Or.inr (Or.inr (Or.inr (Or.inr (Or.inr (Or.inr (Or.inl ⟨c47, c54, c55, c58, rfl⟩))))))))))))
          · -- 50 to 53
            refine s_iload dX12_expression_53 rfl ?_
            refine s_iconst dX12_expression_55 (by decide) ?_
            refine s_icmp_lt (tgt := 68) dX12_expression_56 (by decide) (fun c59 => ?_) (fun c59 => ?_)
            · -- 56 to 68
              refine s_iconst dX12_expression_68 (by decide) ?_
              refine s_goto (tgt := 73) dX12_expression_69 (by decide) ?_
              exact J4 1 (Or.inr (Or.inr (Or.inr (Or.inr (Or.inr (Or.inr (Or.inr (Or.inr (Or.inr (Or.inr (Or.inr (Or.inr (Or.inl ⟨c47, c54, c55, c58, c59, rfl⟩)))))))))))))
            · -- 56 to 59
              refine s_aload_n dX12_expression_59 rfl (Int.natCast_nonneg _) ?_
              refine s_iload dX12_expression_60 rfl ?_
              refine cv_X12_313 rfl gX12_isExpression dX12_expression_62 hM (by rw [hcf]; decide) (as := [(0, c)]) rfl (Nat.le_of_ble_eq_true rfl) ⟨c, rfl, hM, (by first | assumption | omega), ?_⟩
              show WP kX12_expression X 65 [some (2, ((1000 : Nat) : Int)), some (0, k), some (0, a), some (0, b), some (0, c), some (0, b2i (0 ≤ k ∧ k ≤ 4)), some (0, z1), none, none] [(0, b2i (0 ≤ c ∧ c < (gS G 1000 6)))] G
              refine s_if_eqB (tgt := 72) dX12_expression_65 (by decide) (fun c60 => ?_) (fun c60 => ?_)
              · -- 65 to 72
                refine s_iconst dX12_expression_72 (by decide) ?_
                exact J4 0 (Or.inr (Or.inr (Or.inr (Or.inr (Or.inr (Or.inr (Or.inr (Or.inr (Or.inr (Or.inr (Or.inr (Or.inr (Or.inr (Or.inl ⟨c47, c54, c55, c58, c59, c60, rfl⟩))))))))))))))
              · -- 65 to 68
                refine s_iconst dX12_expression_68 (by decide) ?_
                refine s_goto (tgt := 73) dX12_expression_69 (by decide) ?_
                exact J4 1 (Or.inr (Or.inr (Or.inr (Or.inr (Or.inr (Or.inr (Or.inr (Or.inr (Or.inr (Or.inr (Or.inr (Or.inr (Or.inr (Or.inr (⟨c47, c54, c55, c58, c59, c60, rfl⟩)))))))))))))))
  refine s_if_eqB (tgt := 22) dX12_expression_10 (by decide) (fun c61 => ?_) (fun c61 => ?_)
  · -- 10 to 22
    refine s_iconst dX12_expression_22 (by decide) ?_
    exact J2 0 (Or.inl ⟨c61, rfl⟩)
  · -- 10 to 13
    refine s_iload_n dX12_expression_13 rfl ?_
    refine s_iconst dX12_expression_14 (by decide) ?_
    refine s_iadd dX12_expression_15 (by omega) ?_
    refine cs_X12_309 rfl gX12_partsOf dX12_expression_16 (by rw [hcf]; decide) (as := [(0, k + 2)]) rfl (Nat.le_of_ble_eq_true rfl) ⟨k + 2, rfl, ?_⟩
    show WP kX12_expression X 19 [some (2, ((1000 : Nat) : Int)), some (0, k), some (0, a), some (0, b), some (0, c), some (0, b2i (0 ≤ k ∧ k ≤ 4)), none, none, none] [(0, (if (k + 2) < 2 then 0 else if (k + 2) = 4 ∨ (k + 2) = 5 then 1 else if (k + 2) = 6 then 3 else 2))] G
    refine s_goto (tgt := 23) dX12_expression_19 (by decide) ?_
    exact J2 _ (Or.inr (⟨c61, rfl⟩))
