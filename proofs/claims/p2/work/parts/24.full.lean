abbrev nX12_full : List Nat := [a_fKind, a_fA, a_fB, a_fSize, a_fNext, a_fHead, a_fMark]
abbrev jX12_full : List Nat := [26]
def TX12_full : TR := fun as G Qr => ∃ (k a b : Int), as = [(2, ((1000 : Nat) : Int)), (0, k), (0, a), (0, b)] ∧ MG G ∧ (FU G) ∧ ((gS G 1000 26) < 150000) ∧ (0 ≤ k ∧ k ≤ 3) ∧ (k = 1 → 0 ≤ a ∧ a ≤ 5) ∧ (k = 2 → 0 ≤ a ∧ a < (gS G 1000 42)) ∧ (k = 3 → 0 ≤ a ∧ a < (gS G 1000 26) ∧ 0 ≤ b ∧ b < (gS G 1000 26)) ∧ ∀ (r : Int) (G' : LG), MG G' → (Fr nX12_full jX12_full G G' ∧ (FU G' ∧ (0 ≤ r ∧ r < (gS G' 1000 26) ∧ (gS G' 1000 26) ≤ (gS G 1000 26) + 1) ∧ FX G G' ∧ (∀ j : Int, 0 ≤ j → j < (gS G 1000 26) → (gS G' a_fMark (j).toNat) = (gS G a_fMark (j).toNat)) ∧ (gS G' a_fKind (r).toNat) = k ∧ (gS G' a_fA (r).toNat) = a ∧ (gS G' a_fB (r).toNat) = b)) → Qr (.inl (some (0, r))) G'
set_option maxHeartbeats 4000000 in
set_option maxRecDepth 100000 in
theorem gX12_full : Good kX12_full yX12_full 0 TX12_full := by
  refine good_of (by decide) rfl rfl (fun as G Qr h => ?_) (fun X as G Qr hcf hR hT oa => ?_)
  · obtain ⟨k, a, b, rfl, -⟩ := h; exact Nat.le_of_ble_eq_true rfl
  obtain ⟨k, a, b, rfl, hM, hFU, hc, hk, h1, h2, h3, hQ⟩ := hT
  show WP kX12_full X 0 [some (2, ((1000 : Nat) : Int)), some (0, k), some (0, a), some (0, b), none, none] [] G
  have hr_k : inR k := okv_R (oa _ (by simp))
  have hr_a : inR a := okv_R (oa _ (by simp))
  have hr_b : inR b := okv_R (oa _ (by simp))
  have hFU0 := hFU
  obtain ⟨hf, hmk, hth, hhd, hent⟩ := hFU
  refine s_iload_n dX12_full_0 rfl ?_
  refine s_bipush dX12_full_1 rfl (by decide) ?_
  refine s_iload_n dX12_full_3 rfl ?_
  refine s_imulW dX12_full_4 (fun w1 hrw1 hew1 => ?_)
  refine s_iaddW dX12_full_5 (fun w2 hrw2 hew2 => ?_)
  refine s_sipush dX12_full_6 rfl (by decide) ?_
  refine s_iload_n dX12_full_9 rfl ?_
  refine s_imulW dX12_full_10 (fun w3 hrw3 hew3 => ?_)
  refine s_iaddW dX12_full_11 (fun w4 hrw4 hew4 => ?_)
  refine s_ldc_w dX12_full_12 (v := 2147483647) m_395 (by decide) rfl ?_
  refine s_iand dX12_full_15 ?_
  refine s_sipush dX12_full_16 rfl (by decide) ?_
  have h19 := i_and_nn w4
  refine s_irem dX12_full_19 (by omega) (by omega) ?_
  refine s_istore dX12_full_20 (by decide) (lv' := [some (2, ((1000 : Nat) : Int)), some (0, k), some (0, a), some (0, b), some (0, (i_and w4 2147483647) % 16384), none]) rfl ?_
  refine s_aload_n dX12_full_22 rfl (Int.natCast_nonneg _) ?_
  refine gf_fHead rfl dX12_full_23 hM ?_
  refine s_iload dX12_full_26 rfl ?_
  refine s_iald dX12_full_28 (mg_a_fHead hM) (by omega) (by omega) rfl ?_
  have h28 := hhd ((i_and w4 2147483647) % 16384) (by omega) (by omega) 
  refine s_istore dX12_full_29 (by decide) (lv' := [some (2, ((1000 : Nat) : Int)), some (0, k), some (0, a), some (0, b), some (0, (i_and w4 2147483647) % 16384), some (0, gS G a_fHead (((i_and w4 2147483647) % 16384).toNat))]) rfl ?_
  have L5 : ∀ (n5 : Nat) (k55 : Int), ((-1 ≤ k55 ∧ k55 < (gS G 1000 26))) → (k55 + 1).toNat < n5 → WP kX12_full X 31 [some (2, ((1000 : Nat) : Int)), some (0, k), some (0, a), some (0, b), some (0, (i_and w4 2147483647) % 16384), some (0, k55)] [] G := by
    intro n5
    induction n5 with
    | zero => intro k55 hi5 hm5; exact absurd hm5 (Nat.not_lt_zero _)
    | succ n5 ih5 =>
      intro k55 hi5 hm5
      have hj5 := hi5
      obtain ⟨hk55⟩ := hi5
      refine s_iload dX12_full_31 rfl ?_
      refine s_iconst dX12_full_33 (by decide) ?_
      refine s_icmp_eq (tgt := 85) dX12_full_34 (by decide) (fun c6 => ?_) (fun c6 => ?_)
      · -- 34 to 85
        refine s_aload_n dX12_full_85 rfl (Int.natCast_nonneg _) ?_
        refine gf_fKind rfl dX12_full_86 hM ?_
        refine s_aload_n dX12_full_89 rfl (Int.natCast_nonneg _) ?_
        refine gf_fulls rfl dX12_full_90 hM rfl ?_
        refine s_iload_n dX12_full_93 rfl ?_
        refine r_iast dX12_full_94 hM (mg_a_fKind hM) (by decide) (by omega) (by omega) (fun G7 eG7 hMG7 => ?_)
        have hFG7 : Fr nX12_full jX12_full G G7 := Fr.setA Fr.rf eG7 (by decide)
        show WP kX12_full X 95 [some (2, ((1000 : Nat) : Int)), some (0, k), some (0, a), some (0, b), some (0, (i_and w4 2147483647) % 16384), some (0, k55)] [] G7
        refine s_aload_n dX12_full_95 rfl (Int.natCast_nonneg _) ?_
        refine gf_fA rfl dX12_full_96 hMG7 ?_
        refine s_aload_n dX12_full_99 rfl (Int.natCast_nonneg _) ?_
        refine gf_fulls rfl dX12_full_100 hMG7 (gsnE eG7 (by decide)) ?_
        refine s_iload_n dX12_full_103 rfl ?_
        refine r_iast dX12_full_104 hMG7 (mg_a_fA hMG7) (by decide) (by omega) (by omega) (fun G8 eG8 hMG8 => ?_)
        have hFG8 : Fr nX12_full jX12_full G G8 := Fr.setA hFG7 eG8 (by decide)
        show WP kX12_full X 105 [some (2, ((1000 : Nat) : Int)), some (0, k), some (0, a), some (0, b), some (0, (i_and w4 2147483647) % 16384), some (0, k55)] [] G8
        refine s_aload_n dX12_full_105 rfl (Int.natCast_nonneg _) ?_
        refine gf_fB rfl dX12_full_106 hMG8 ?_
        refine s_aload_n dX12_full_109 rfl (Int.natCast_nonneg _) ?_
        refine gf_fulls rfl dX12_full_110 hMG8 (Eq.trans (gsnE eG8 (by decide)) (gsnE eG7 (by decide))) ?_
        refine s_iload_n dX12_full_113 rfl ?_
        refine r_iast dX12_full_114 hMG8 (mg_a_fB hMG8) (by decide) (by omega) (by omega) (fun G9 eG9 hMG9 => ?_)
        have hFG9 : Fr nX12_full jX12_full G G9 := Fr.setA hFG8 eG9 (by decide)
        show WP kX12_full X 115 [some (2, ((1000 : Nat) : Int)), some (0, k), some (0, a), some (0, b), some (0, (i_and w4 2147483647) % 16384), some (0, k55)] [] G9
        have h115 : k = 3 → (1 ≤ (gS G a_fSize (a).toNat) ∧ (gS G a_fSize (a).toNat) ≤ 1000000 ∧ (gS G a_fSize (b).toNat) ≤ 1000000 ∧ 1 ≤ (gS G a_fSize (b).toNat)) := fun q => by have s1 := (hent a (h3 q).1 (h3 q).2.1).2.2.2.2.1; have s2 := (hent b (h3 q).2.2.1 (h3 q).2.2.2).2.2.2.2.1; omega
        refine s_iload_n dX12_full_115 rfl ?_
        refine s_iconst dX12_full_116 (by decide) ?_
        have J11 : ∀ z10 : Int, ((¬ k = 3) ∧ z10 = 1) ∨ ((k = 3) ∧ z10 = (1 + (gS G a_fSize ((a).toNat))) + (gS G a_fSize ((b).toNat))) → WP kX12_full X 139 [some (2, ((1000 : Nat) : Int)), some (0, k), some (0, a), some (0, b), some (0, (i_and w4 2147483647) % 16384), some (0, k55)] [(0, z10)] G9 := by
          intro z10 hz10
          refine s_istore dX12_full_139 (by decide) (lv' := [some (2, ((1000 : Nat) : Int)), some (0, k), some (0, a), some (0, b), some (0, (i_and w4 2147483647) % 16384), some (0, z10)]) rfl ?_
          refine s_aload_n dX12_full_141 rfl (Int.natCast_nonneg _) ?_
          refine gf_fSize rfl dX12_full_142 hMG9 ?_
          refine s_aload_n dX12_full_145 rfl (Int.natCast_nonneg _) ?_
          refine gf_fulls rfl dX12_full_146 hMG9 (Eq.trans (gsnE eG9 (by decide)) (Eq.trans (gsnE eG8 (by decide)) (gsnE eG7 (by decide)))) ?_
          refine s_iload dX12_full_149 rfl ?_
          refine s_ldc_w dX12_full_151 (v := 1000000) m_396 (by decide) rfl ?_
          have J13 : ∀ z12 : Int, ((z10 ≤ 1000000) ∧ z12 = z10) ∨ ((¬ z10 ≤ 1000000) ∧ z12 = 1000000) → WP kX12_full X 165 [some (2, ((1000 : Nat) : Int)), some (0, k), some (0, a), some (0, b), some (0, (i_and w4 2147483647) % 16384), some (0, z10)] [(0, z12), (0, gS G 1000 26), (2, ((a_fSize : Nat) : Int))] G9 := by
            intro z12 hz12
            refine r_iast dX12_full_165 hMG9 (mg_a_fSize hMG9) (by decide) (by omega) (by omega) (fun G14 eG14 hMG14 => ?_)
            have hFG14 : Fr nX12_full jX12_full G G14 := Fr.setA hFG9 eG14 (by decide)
            show WP kX12_full X 166 [some (2, ((1000 : Nat) : Int)), some (0, k), some (0, a), some (0, b), some (0, (i_and w4 2147483647) % 16384), some (0, z10)] [] G14
            refine s_aload_n dX12_full_166 rfl (Int.natCast_nonneg _) ?_
            refine gf_fMark rfl dX12_full_167 hMG14 ?_
            refine s_aload_n dX12_full_170 rfl (Int.natCast_nonneg _) ?_
            refine gf_fulls rfl dX12_full_171 hMG14 (Eq.trans (gsnE eG14 (by decide)) (Eq.trans (gsnE eG9 (by decide)) (Eq.trans (gsnE eG8 (by decide)) (gsnE eG7 (by decide))))) ?_
            refine s_iconst dX12_full_174 (by decide) ?_
            refine r_iast dX12_full_175 hMG14 (mg_a_fMark hMG14) (by decide) (by omega) (by omega) (fun G15 eG15 hMG15 => ?_)
            have hFG15 : Fr nX12_full jX12_full G G15 := Fr.setA hFG14 eG15 (by decide)
            show WP kX12_full X 176 [some (2, ((1000 : Nat) : Int)), some (0, k), some (0, a), some (0, b), some (0, (i_and w4 2147483647) % 16384), some (0, z10)] [] G15
            refine s_aload_n dX12_full_176 rfl (Int.natCast_nonneg _) ?_
            refine gf_fNext rfl dX12_full_177 hMG15 ?_
            refine s_aload_n dX12_full_180 rfl (Int.natCast_nonneg _) ?_
            refine gf_fulls rfl dX12_full_181 hMG15 (Eq.trans (gsnE eG15 (by decide)) (Eq.trans (gsnE eG14 (by decide)) (Eq.trans (gsnE eG9 (by decide)) (Eq.trans (gsnE eG8 (by decide)) (gsnE eG7 (by decide)))))) ?_
            refine s_aload_n dX12_full_184 rfl (Int.natCast_nonneg _) ?_
            refine gf_fHead rfl dX12_full_185 hMG15 ?_
            refine s_iload dX12_full_188 rfl ?_
            refine s_iald dX12_full_190 (mg_a_fHead hMG15) (by omega) (by omega) (Eq.trans (gsnE eG15 (by decide)) (Eq.trans (gsnE eG14 (by decide)) (Eq.trans (gsnE eG9 (by decide)) (Eq.trans (gsnE eG8 (by decide)) (gsnE eG7 (by decide)))))) ?_
            refine r_iast dX12_full_191 hMG15 (mg_a_fNext hMG15) (by decide) (by omega) (by omega) (fun G16 eG16 hMG16 => ?_)
            have hFG16 : Fr nX12_full jX12_full G G16 := Fr.setA hFG15 eG16 (by decide)
            show WP kX12_full X 192 [some (2, ((1000 : Nat) : Int)), some (0, k), some (0, a), some (0, b), some (0, (i_and w4 2147483647) % 16384), some (0, z10)] [] G16
            refine s_aload_n dX12_full_192 rfl (Int.natCast_nonneg _) ?_
            refine gf_fHead rfl dX12_full_193 hMG16 ?_
            refine s_iload dX12_full_196 rfl ?_
            refine s_aload_n dX12_full_198 rfl (Int.natCast_nonneg _) ?_
            refine gf_fulls rfl dX12_full_199 hMG16 (Eq.trans (gsnE eG16 (by decide)) (Eq.trans (gsnE eG15 (by decide)) (Eq.trans (gsnE eG14 (by decide)) (Eq.trans (gsnE eG9 (by decide)) (Eq.trans (gsnE eG8 (by decide)) (gsnE eG7 (by decide))))))) ?_
            refine r_iast dX12_full_202 hMG16 (mg_a_fHead hMG16) (by decide) (by omega) (by omega) (fun G17 eG17 hMG17 => ?_)
            have hFG17 : Fr nX12_full jX12_full G G17 := Fr.setA hFG16 eG17 (by decide)
            show WP kX12_full X 203 [some (2, ((1000 : Nat) : Int)), some (0, k), some (0, a), some (0, b), some (0, (i_and w4 2147483647) % 16384), some (0, z10)] [] G17
            refine s_aload_n dX12_full_203 rfl (Int.natCast_nonneg _) ?_
            refine s_dup dX12_full_204 (by decide) ?_
            refine gf_fulls rfl dX12_full_205 hMG17 (Eq.trans (gsnE eG17 (by decide)) (Eq.trans (gsnE eG16 (by decide)) (Eq.trans (gsnE eG15 (by decide)) (Eq.trans (gsnE eG14 (by decide)) (Eq.trans (gsnE eG9 (by decide)) (Eq.trans (gsnE eG8 (by decide)) (gsnE eG7 (by decide)))))))) ?_
            refine s_iconst dX12_full_208 (by decide) ?_
            refine s_iadd dX12_full_209 (by omega) ?_
            refine pf_fulls rfl dX12_full_210 hMG17 (fun G18 eG18 hMG18 => ?_)
            have hFG18 : Fr nX12_full jX12_full G G18 := Fr.setF hFG17 eG18 (by decide)
            refine s_aload_n dX12_full_213 rfl (Int.natCast_nonneg _) ?_
            refine gf_fulls rfl dX12_full_214 hMG18 (gsaE eG18) ?_
            refine s_iconst dX12_full_217 (by decide) ?_
            refine s_isub dX12_full_218 (by omega) ?_
            have he : ((gS G 1000 26) + 1) - 1 = (gS G 1000 26) := by omega
            obtain ⟨q1, q2, q3, q4, q5, q6, q7⟩ := full_new (k := k) (a := a) (b := b) hFU0 rfl hc hk h1 h2 h3 ⟨fun q => by omega, fun q => by omega⟩ ⟨by omega, by omega⟩ eG7 eG8 eG9 eG14 eG15 eG16 eG17 eG18
            rw [he]
            exact s_iret hR dX12_full_219 rfl (hQ _ G18 hMG18 (⟨hFG18, ⟨q1, by rw [q2]; omega, q3, q4, q5, q6, q7⟩⟩))
          refine s_icmp_le (tgt := 163) dX12_full_154 (by decide) (fun c19 => ?_) (fun c19 => ?_)
          · -- 154 to 163
            refine s_iload dX12_full_163 rfl ?_
            exact J13 z10 (Or.inl ⟨c19, rfl⟩)
          · -- 154 to 157
            refine s_ldc_w dX12_full_157 (v := 1000000) m_396 (by decide) rfl ?_
            refine s_goto (tgt := 165) dX12_full_160 (by decide) ?_
            exact J13 1000000 (Or.inr (⟨c19, rfl⟩))
        refine s_icmp_ne (tgt := 138) dX12_full_117 (by decide) (fun c20 => ?_) (fun c20 => ?_)
        · -- 117 to 138
          refine s_iconst dX12_full_138 (by decide) ?_
          exact J11 1 (Or.inl ⟨c20, rfl⟩)
        · -- 117 to 120
          refine s_iconst dX12_full_120 (by decide) ?_
          refine s_aload_n dX12_full_121 rfl (Int.natCast_nonneg _) ?_
          refine gf_fSize rfl dX12_full_122 hMG9 ?_
          refine s_iload_n dX12_full_125 rfl ?_
          refine s_iald dX12_full_126 (mg_a_fSize hMG9) (by omega) (by omega) (Eq.trans (gsnE eG9 (by decide)) (Eq.trans (gsnE eG8 (by decide)) (gsnE eG7 (by decide)))) ?_
          refine s_iadd dX12_full_127 (by omega) ?_
          refine s_aload_n dX12_full_128 rfl (Int.natCast_nonneg _) ?_
          refine gf_fSize rfl dX12_full_129 hMG9 ?_
          refine s_iload_n dX12_full_132 rfl ?_
          refine s_iald dX12_full_133 (mg_a_fSize hMG9) (by omega) (by omega) (Eq.trans (gsnE eG9 (by decide)) (Eq.trans (gsnE eG8 (by decide)) (gsnE eG7 (by decide)))) ?_
          refine s_iadd dX12_full_134 (by omega) ?_
          refine s_goto (tgt := 139) dX12_full_135 (by decide) ?_
          exact J11 _ (Or.inr (⟨c20, rfl⟩))
      · -- 34 to 37
        refine s_aload_n dX12_full_37 rfl (Int.natCast_nonneg _) ?_
        refine gf_fKind rfl dX12_full_38 hM ?_
        refine s_iload dX12_full_41 rfl ?_
        refine s_iald dX12_full_43 (mg_a_fKind hM) (by omega) (by omega) rfl ?_
        refine s_iload_n dX12_full_44 rfl ?_
        refine s_icmp_ne (tgt := 73) dX12_full_45 (by decide) (fun c21 => ?_) (fun c21 => ?_)
        · -- 45 to 73
          have h73 := (hent k55 (by omega) (by omega)).2.2.2.2.2.2.2.2
          refine s_aload_n dX12_full_73 rfl (Int.natCast_nonneg _) ?_
          refine gf_fNext rfl dX12_full_74 hM ?_
          refine s_iload dX12_full_77 rfl ?_
          refine s_iald dX12_full_79 (mg_a_fNext hM) (by omega) (by omega) rfl ?_
          refine s_istore dX12_full_80 (by decide) (lv' := [some (2, ((1000 : Nat) : Int)), some (0, k), some (0, a), some (0, b), some (0, (i_and w4 2147483647) % 16384), some (0, gS G a_fNext ((k55).toNat))]) rfl ?_
          refine s_goto (tgt := 31) dX12_full_82 (by decide) ?_
          exact ih5 (gS G a_fNext ((k55).toNat)) ((by omega)) (by omega)
        · -- 45 to 48
          refine s_aload_n dX12_full_48 rfl (Int.natCast_nonneg _) ?_
          refine gf_fA rfl dX12_full_49 hM ?_
          refine s_iload dX12_full_52 rfl ?_
          refine s_iald dX12_full_54 (mg_a_fA hM) (by omega) (by omega) rfl ?_
          refine s_iload_n dX12_full_55 rfl ?_
          refine s_icmp_ne (tgt := 73) dX12_full_56 (by decide) (fun c22 => ?_) (fun c22 => ?_)
          · -- 56 to 73
            have h73 := (hent k55 (by omega) (by omega)).2.2.2.2.2.2.2.2
            refine s_aload_n dX12_full_73 rfl (Int.natCast_nonneg _) ?_
            refine gf_fNext rfl dX12_full_74 hM ?_
            refine s_iload dX12_full_77 rfl ?_
            refine s_iald dX12_full_79 (mg_a_fNext hM) (by omega) (by omega) rfl ?_
            refine s_istore dX12_full_80 (by decide) (lv' := [some (2, ((1000 : Nat) : Int)), some (0, k), some (0, a), some (0, b), some (0, (i_and w4 2147483647) % 16384), some (0, gS G a_fNext ((k55).toNat))]) rfl ?_
            refine s_goto (tgt := 31) dX12_full_82 (by decide) ?_
            exact ih5 (gS G a_fNext ((k55).toNat)) ((by omega)) (by omega)
          · -- 56 to 59
            refine s_aload_n dX12_full_59 rfl (Int.natCast_nonneg _) ?_
            refine gf_fB rfl dX12_full_60 hM ?_
            refine s_iload dX12_full_63 rfl ?_
            refine s_iald dX12_full_65 (mg_a_fB hM) (by omega) (by omega) rfl ?_
            refine s_iload_n dX12_full_66 rfl ?_
            refine s_icmp_ne (tgt := 73) dX12_full_67 (by decide) (fun c23 => ?_) (fun c23 => ?_)
            · -- 67 to 73
              have h73 := (hent k55 (by omega) (by omega)).2.2.2.2.2.2.2.2
              refine s_aload_n dX12_full_73 rfl (Int.natCast_nonneg _) ?_
              refine gf_fNext rfl dX12_full_74 hM ?_
              refine s_iload dX12_full_77 rfl ?_
              refine s_iald dX12_full_79 (mg_a_fNext hM) (by omega) (by omega) rfl ?_
              refine s_istore dX12_full_80 (by decide) (lv' := [some (2, ((1000 : Nat) : Int)), some (0, k), some (0, a), some (0, b), some (0, (i_and w4 2147483647) % 16384), some (0, gS G a_fNext ((k55).toNat))]) rfl ?_
              refine s_goto (tgt := 31) dX12_full_82 (by decide) ?_
              exact ih5 (gS G a_fNext ((k55).toNat)) ((by omega)) (by omega)
            · -- 67 to 70
              refine s_iload dX12_full_70 rfl ?_
              exact s_iret hR dX12_full_72 rfl (hQ _ G hM (⟨Fr.rf, ⟨hFU0, ⟨by omega, by omega, by omega⟩, FX.rf, fun _ _ _ => rfl, by omega, by omega, by omega⟩⟩))
  exact L5 _ (gS G a_fHead (((i_and w4 2147483647) % 16384).toNat)) ((by omega)) (Nat.lt_succ_self _)
