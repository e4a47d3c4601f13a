abbrev nX12_thing : List Nat := [a_thingKind, a_thingA, a_thingB, a_thingC, a_thingNext, a_thingHead]
abbrev jX12_thing : List Nat := [42]
def TX12_thing : TR := fun as G Qr => ∃ (k a b c : Int) (Hs : List (Int → Int)) (v : Int → Int), as = [(2, ((1000 : Nat) : Int)), (0, k), (0, a), (0, b), (0, c)] ∧ MG G ∧ (TH G Hs) ∧ (v ∈ Hs) ∧ (∀ G' : LG, TX G G' → ∀ t, key G' t k a b c → ∃ n : Int, (0 ≤ n ∧ n < (gS G' 1000 18)) ∧ mkN G' v n t) ∧ ∀ (r : Int) (G' : LG), MG G' → (Fr nX12_thing jX12_thing G G' ∧ (TH G' Hs ∧ TX G G' ∧ key G' r k a b c ∧ (gS G' 1000 42) ≤ (gS G 1000 42) + 1)) → Qr (.inl (some (0, r))) G'
set_option maxHeartbeats 4000000 in
set_option maxRecDepth 100000 in
theorem gX12_thing : Good kX12_thing yX12_thing 0 TX12_thing := by
  refine good_of (by decide) rfl rfl (fun as G Qr h => ?_) (fun X as G Qr hcf hR hT oa => ?_)
  · obtain ⟨k, a, b, c, Hs, v, rfl, -⟩ := h; exact Nat.le_of_ble_eq_true rfl
  obtain ⟨k, a, b, c, Hs, v, rfl, hM, hTH, hv, hA, hQ⟩ := hT
  show WP kX12_thing X 0 [some (2, ((1000 : Nat) : Int)), some (0, k), some (0, a), some (0, b), some (0, c), none, none] [] G
  have hr_k : inR k := okv_R (oa _ (by simp))
  have hr_a : inR a := okv_R (oa _ (by simp))
  have hr_b : inR b := okv_R (oa _ (by simp))
  have hr_c : inR c := okv_R (oa _ (by simp))
  have hTH0 := hTH
  obtain ⟨⟨hc0, hc1, hc2, hc3⟩, hdis, hHI, hND, hcov⟩ := hTH
  have hbd := th_bound hTH0
  have hTH := hTH0
  refine s_iload_n dX12_thing_0 rfl ?_
  refine s_bipush dX12_thing_1 rfl (by decide) ?_
  refine s_iload_n dX12_thing_3 rfl ?_
  refine s_imulW dX12_thing_4 (fun w1 hrw1 hew1 => ?_)
  refine s_iaddW dX12_thing_5 (fun w2 hrw2 hew2 => ?_)
  refine s_sipush dX12_thing_6 rfl (by decide) ?_
  refine s_iload_n dX12_thing_9 rfl ?_
  refine s_imulW dX12_thing_10 (fun w3 hrw3 hew3 => ?_)
  refine s_iaddW dX12_thing_11 (fun w4 hrw4 hew4 => ?_)
  refine s_sipush dX12_thing_12 rfl (by decide) ?_
  refine s_iload dX12_thing_15 rfl ?_
  refine s_imulW dX12_thing_17 (fun w5 hrw5 hew5 => ?_)
  refine s_iaddW dX12_thing_18 (fun w6 hrw6 hew6 => ?_)
  refine s_ldc_w dX12_thing_19 (v := 2147483647) m_395 (by decide) rfl ?_
  refine s_iand dX12_thing_22 ?_
  refine s_sipush dX12_thing_23 rfl (by decide) ?_
  have hpl : i_and w6 2147483647 % 4096 = hsh k a b c := by unfold hsh; rw [i_and_congr (y := k + 17 * a + 257 * b + 4099 * c) (by simp only [hew6, hew5, hew4, hew3, hew2, hew1, Int32.ofInt_add])]
  have h19 := i_and_nn w6
  refine s_irem dX12_thing_26 (by omega) (by omega) ?_
  refine s_istore dX12_thing_27 (by decide) (lv' := [some (2, ((1000 : Nat) : Int)), some (0, k), some (0, a), some (0, b), some (0, c), some (0, (i_and w6 2147483647) % 4096), none]) rfl ?_
  refine s_aload_n dX12_thing_29 rfl (Int.natCast_nonneg _) ?_
  refine gf_thingHead rfl dX12_thing_30 hM ?_
  refine s_iload dX12_thing_33 rfl ?_
  refine s_iald dX12_thing_35 (mg_a_thingHead hM) (by omega) (by omega) rfl ?_
  have h36 := hc1 ((i_and w6 2147483647) % 4096) (by omega) (by omega)
  refine s_iconst dX12_thing_36 (by decide) ?_
  refine s_isub dX12_thing_37 (by omega) ?_
  refine s_istore dX12_thing_38 (by decide) (lv' := [some (2, ((1000 : Nat) : Int)), some (0, k), some (0, a), some (0, b), some (0, c), some (0, (i_and w6 2147483647) % 4096), some (0, (gS G a_thingHead (((i_and w6 2147483647) % 4096).toNat)) - 1)]) rfl ?_
  have L7 : ∀ (n7 : Nat) (k67 : Int), ((-1 ≤ k67 ∧ k67 < (gS G 1000 42)) ∧ (∀ t, key G t k a b c → ∃ m, Rch G m k67 t)) → (k67 + 1).toNat < n7 → WP kX12_thing X 40 [some (2, ((1000 : Nat) : Int)), some (0, k), some (0, a), some (0, b), some (0, c), some (0, (i_and w6 2147483647) % 4096), some (0, k67)] [] G := by
    intro n7
    induction n7 with
    | zero => intro k67 hi7 hm7; exact absurd hm7 (Nat.not_lt_zero _)
    | succ n7 ih7 =>
      intro k67 hi7 hm7
      have hj7 := hi7
      obtain ⟨hk67, hr67⟩ := hi7
      refine s_iload dX12_thing_40 rfl ?_
      refine s_iconst dX12_thing_42 (by decide) ?_
      refine s_icmp_eq (tgt := 108) dX12_thing_43 (by decide) (fun c8 => ?_) (fun c8 => ?_)
      · -- 43 to 108
        have hno : ∀ t, ¬ key G t k a b c := fun t ht => by obtain ⟨m, hm⟩ := hr67 t ht; match m, hm with | 0, hm => exact hm | m + 1, hm => have h0 := hm.1; omega
        refine s_aload_n dX12_thing_108 rfl (Int.natCast_nonneg _) ?_
        refine gf_thingKind rfl dX12_thing_109 hM ?_
        refine s_aload_n dX12_thing_112 rfl (Int.natCast_nonneg _) ?_
        refine gf_things rfl dX12_thing_113 hM rfl ?_
        refine s_iload_n dX12_thing_116 rfl ?_
        refine r_iast dX12_thing_117 hM (mg_a_thingKind hM) (by decide) (by omega) (by omega) (fun G9 eG9 hMG9 => ?_)
        have hFG9 : Fr nX12_thing jX12_thing G G9 := Fr.setA Fr.rf eG9 (by decide)
        show WP kX12_thing X 118 [some (2, ((1000 : Nat) : Int)), some (0, k), some (0, a), some (0, b), some (0, c), some (0, (i_and w6 2147483647) % 4096), some (0, k67)] [] G9
        refine s_aload_n dX12_thing_118 rfl (Int.natCast_nonneg _) ?_
        refine gf_thingA rfl dX12_thing_119 hMG9 ?_
        refine s_aload_n dX12_thing_122 rfl (Int.natCast_nonneg _) ?_
        refine gf_things rfl dX12_thing_123 hMG9 (gsnE eG9 (by decide)) ?_
        refine s_iload_n dX12_thing_126 rfl ?_
        refine r_iast dX12_thing_127 hMG9 (mg_a_thingA hMG9) (by decide) (by omega) (by omega) (fun G10 eG10 hMG10 => ?_)
        have hFG10 : Fr nX12_thing jX12_thing G G10 := Fr.setA hFG9 eG10 (by decide)
        show WP kX12_thing X 128 [some (2, ((1000 : Nat) : Int)), some (0, k), some (0, a), some (0, b), some (0, c), some (0, (i_and w6 2147483647) % 4096), some (0, k67)] [] G10
        refine s_aload_n dX12_thing_128 rfl (Int.natCast_nonneg _) ?_
        refine gf_thingB rfl dX12_thing_129 hMG10 ?_
        refine s_aload_n dX12_thing_132 rfl (Int.natCast_nonneg _) ?_
        refine gf_things rfl dX12_thing_133 hMG10 (Eq.trans (gsnE eG10 (by decide)) (gsnE eG9 (by decide))) ?_
        refine s_iload_n dX12_thing_136 rfl ?_
        refine r_iast dX12_thing_137 hMG10 (mg_a_thingB hMG10) (by decide) (by omega) (by omega) (fun G11 eG11 hMG11 => ?_)
        have hFG11 : Fr nX12_thing jX12_thing G G11 := Fr.setA hFG10 eG11 (by decide)
        show WP kX12_thing X 138 [some (2, ((1000 : Nat) : Int)), some (0, k), some (0, a), some (0, b), some (0, c), some (0, (i_and w6 2147483647) % 4096), some (0, k67)] [] G11
        refine s_aload_n dX12_thing_138 rfl (Int.natCast_nonneg _) ?_
        refine gf_thingC rfl dX12_thing_139 hMG11 ?_
        refine s_aload_n dX12_thing_142 rfl (Int.natCast_nonneg _) ?_
        refine gf_things rfl dX12_thing_143 hMG11 (Eq.trans (gsnE eG11 (by decide)) (Eq.trans (gsnE eG10 (by decide)) (gsnE eG9 (by decide)))) ?_
        refine s_iload dX12_thing_146 rfl ?_
        refine r_iast dX12_thing_148 hMG11 (mg_a_thingC hMG11) (by decide) (by omega) (by omega) (fun G12 eG12 hMG12 => ?_)
        have hFG12 : Fr nX12_thing jX12_thing G G12 := Fr.setA hFG11 eG12 (by decide)
        show WP kX12_thing X 149 [some (2, ((1000 : Nat) : Int)), some (0, k), some (0, a), some (0, b), some (0, c), some (0, (i_and w6 2147483647) % 4096), some (0, k67)] [] G12
        refine s_aload_n dX12_thing_149 rfl (Int.natCast_nonneg _) ?_
        refine gf_thingNext rfl dX12_thing_150 hMG12 ?_
        refine s_aload_n dX12_thing_153 rfl (Int.natCast_nonneg _) ?_
        refine gf_things rfl dX12_thing_154 hMG12 (Eq.trans (gsnE eG12 (by decide)) (Eq.trans (gsnE eG11 (by decide)) (Eq.trans (gsnE eG10 (by decide)) (gsnE eG9 (by decide))))) ?_
        refine s_aload_n dX12_thing_157 rfl (Int.natCast_nonneg _) ?_
        refine gf_thingHead rfl dX12_thing_158 hMG12 ?_
        refine s_iload dX12_thing_161 rfl ?_
        refine s_iald dX12_thing_163 (mg_a_thingHead hMG12) (by omega) (by omega) (Eq.trans (gsnE eG12 (by decide)) (Eq.trans (gsnE eG11 (by decide)) (Eq.trans (gsnE eG10 (by decide)) (gsnE eG9 (by decide))))) ?_
        refine r_iast dX12_thing_164 hMG12 (mg_a_thingNext hMG12) (by decide) (by omega) (by omega) (fun G13 eG13 hMG13 => ?_)
        have hFG13 : Fr nX12_thing jX12_thing G G13 := Fr.setA hFG12 eG13 (by decide)
        show WP kX12_thing X 165 [some (2, ((1000 : Nat) : Int)), some (0, k), some (0, a), some (0, b), some (0, c), some (0, (i_and w6 2147483647) % 4096), some (0, k67)] [] G13
        refine s_aload_n dX12_thing_165 rfl (Int.natCast_nonneg _) ?_
        refine gf_thingHead rfl dX12_thing_166 hMG13 ?_
        refine s_iload dX12_thing_169 rfl ?_
        refine s_aload_n dX12_thing_171 rfl (Int.natCast_nonneg _) ?_
        refine gf_things rfl dX12_thing_172 hMG13 (Eq.trans (gsnE eG13 (by decide)) (Eq.trans (gsnE eG12 (by decide)) (Eq.trans (gsnE eG11 (by decide)) (Eq.trans (gsnE eG10 (by decide)) (gsnE eG9 (by decide)))))) ?_
        refine s_iconst dX12_thing_175 (by decide) ?_
        refine s_iadd dX12_thing_176 (by omega) ?_
        refine r_iast dX12_thing_177 hMG13 (mg_a_thingHead hMG13) (by decide) (by omega) (by omega) (fun G14 eG14 hMG14 => ?_)
        have hFG14 : Fr nX12_thing jX12_thing G G14 := Fr.setA hFG13 eG14 (by decide)
        show WP kX12_thing X 178 [some (2, ((1000 : Nat) : Int)), some (0, k), some (0, a), some (0, b), some (0, c), some (0, (i_and w6 2147483647) % 4096), some (0, k67)] [] G14
        refine s_aload_n dX12_thing_178 rfl (Int.natCast_nonneg _) ?_
        refine s_dup dX12_thing_179 (by decide) ?_
        refine gf_things rfl dX12_thing_180 hMG14 (Eq.trans (gsnE eG14 (by decide)) (Eq.trans (gsnE eG13 (by decide)) (Eq.trans (gsnE eG12 (by decide)) (Eq.trans (gsnE eG11 (by decide)) (Eq.trans (gsnE eG10 (by decide)) (gsnE eG9 (by decide))))))) ?_
        refine s_iconst dX12_thing_183 (by decide) ?_
        refine s_iadd dX12_thing_184 (by omega) ?_
        refine pf_things rfl dX12_thing_185 hMG14 (fun G15 eG15 hMG15 => ?_)
        have hFG15 : Fr nX12_thing jX12_thing G G15 := Fr.setF hFG14 eG15 (by decide)
        refine s_aload_n dX12_thing_188 rfl (Int.natCast_nonneg _) ?_
        refine gf_things rfl dX12_thing_189 hMG15 (gsaE eG15) ?_
        refine s_iconst dX12_thing_192 (by decide) ?_
        refine s_isub dX12_thing_193 (by omega) ?_
        have he : ((gS G 1000 42) + 1) - 1 = (gS G 1000 42) := by omega
        obtain ⟨q1, q2, q3, q4⟩ := thing_new (k := k) (a := a) (b := b) (c := c) hTH hv hA rfl hpl ⟨by omega, by omega⟩ hno eG9 eG10 eG11 eG12 eG13 eG14 eG15
        rw [he]
        exact s_iret hR dX12_thing_194 rfl (hQ _ G15 hMG15 (⟨hFG15, ⟨q1, q2, q3, by rw [q4]; omega⟩⟩))
      · -- 43 to 46
        refine s_aload_n dX12_thing_46 rfl (Int.natCast_nonneg _) ?_
        refine gf_thingKind rfl dX12_thing_47 hM ?_
        refine s_iload dX12_thing_50 rfl ?_
        refine s_iald dX12_thing_52 (mg_a_thingKind hM) (by omega) (by omega) rfl ?_
        refine s_iload_n dX12_thing_53 rfl ?_
        refine s_icmp_ne (tgt := 94) dX12_thing_54 (by decide) (fun c16 => ?_) (fun c16 => ?_)
        · -- 54 to 94
          have h94 := hc2 k67 (by omega) (by omega)
          refine s_aload_n dX12_thing_94 rfl (Int.natCast_nonneg _) ?_
          refine gf_thingNext rfl dX12_thing_95 hM ?_
          refine s_iload dX12_thing_98 rfl ?_
          refine s_iald dX12_thing_100 (mg_a_thingNext hM) (by omega) (by omega) rfl ?_
          refine s_iconst dX12_thing_101 (by decide) ?_
          refine s_isub dX12_thing_102 (by omega) ?_
          refine s_istore dX12_thing_103 (by decide) (lv' := [some (2, ((1000 : Nat) : Int)), some (0, k), some (0, a), some (0, b), some (0, c), some (0, (i_and w6 2147483647) % 4096), some (0, (gS G a_thingNext ((k67).toNat)) - 1)]) rfl ?_
          refine s_goto (tgt := 40) dX12_thing_105 (by decide) ?_
          exact ih7 ((gS G a_thingNext ((k67).toNat)) - 1) (⟨(by omega), (by intro t ht; obtain ⟨m, hm⟩ := hr67 t ht; match m, hm with | 0, hm => exact hm.elim | m + 1, hm => rcases hm.2 with q | q; (exfalso; subst q; obtain ⟨-, z2, z3, z4, z5⟩ := ht; omega); exact ⟨m, q⟩)⟩) (by omega)
        · -- 54 to 57
          refine s_aload_n dX12_thing_57 rfl (Int.natCast_nonneg _) ?_
          refine gf_thingA rfl dX12_thing_58 hM ?_
          refine s_iload dX12_thing_61 rfl ?_
          refine s_iald dX12_thing_63 (mg_a_thingA hM) (by omega) (by omega) rfl ?_
          refine s_iload_n dX12_thing_64 rfl ?_
          refine s_icmp_ne (tgt := 94) dX12_thing_65 (by decide) (fun c17 => ?_) (fun c17 => ?_)
          · -- 65 to 94
            have h94 := hc2 k67 (by omega) (by omega)
            refine s_aload_n dX12_thing_94 rfl (Int.natCast_nonneg _) ?_
            refine gf_thingNext rfl dX12_thing_95 hM ?_
            refine s_iload dX12_thing_98 rfl ?_
            refine s_iald dX12_thing_100 (mg_a_thingNext hM) (by omega) (by omega) rfl ?_
            refine s_iconst dX12_thing_101 (by decide) ?_
            refine s_isub dX12_thing_102 (by omega) ?_
            refine s_istore dX12_thing_103 (by decide) (lv' := [some (2, ((1000 : Nat) : Int)), some (0, k), some (0, a), some (0, b), some (0, c), some (0, (i_and w6 2147483647) % 4096), some (0, (gS G a_thingNext ((k67).toNat)) - 1)]) rfl ?_
            refine s_goto (tgt := 40) dX12_thing_105 (by decide) ?_
            exact ih7 ((gS G a_thingNext ((k67).toNat)) - 1) (⟨(by omega), (by intro t ht; obtain ⟨m, hm⟩ := hr67 t ht; match m, hm with | 0, hm => exact hm.elim | m + 1, hm => rcases hm.2 with q | q; (exfalso; subst q; obtain ⟨-, z2, z3, z4, z5⟩ := ht; omega); exact ⟨m, q⟩)⟩) (by omega)
          · -- 65 to 68
            refine s_aload_n dX12_thing_68 rfl (Int.natCast_nonneg _) ?_
            refine gf_thingB rfl dX12_thing_69 hM ?_
            refine s_iload dX12_thing_72 rfl ?_
            refine s_iald dX12_thing_74 (mg_a_thingB hM) (by omega) (by omega) rfl ?_
            refine s_iload_n dX12_thing_75 rfl ?_
            refine s_icmp_ne (tgt := 94) dX12_thing_76 (by decide) (fun c18 => ?_) (fun c18 => ?_)
            · -- 76 to 94
              have h94 := hc2 k67 (by omega) (by omega)
              refine s_aload_n dX12_thing_94 rfl (Int.natCast_nonneg _) ?_
              refine gf_thingNext rfl dX12_thing_95 hM ?_
              refine s_iload dX12_thing_98 rfl ?_
              refine s_iald dX12_thing_100 (mg_a_thingNext hM) (by omega) (by omega) rfl ?_
              refine s_iconst dX12_thing_101 (by decide) ?_
              refine s_isub dX12_thing_102 (by omega) ?_
              refine s_istore dX12_thing_103 (by decide) (lv' := [some (2, ((1000 : Nat) : Int)), some (0, k), some (0, a), some (0, b), some (0, c), some (0, (i_and w6 2147483647) % 4096), some (0, (gS G a_thingNext ((k67).toNat)) - 1)]) rfl ?_
              refine s_goto (tgt := 40) dX12_thing_105 (by decide) ?_
              exact ih7 ((gS G a_thingNext ((k67).toNat)) - 1) (⟨(by omega), (by intro t ht; obtain ⟨m, hm⟩ := hr67 t ht; match m, hm with | 0, hm => exact hm.elim | m + 1, hm => rcases hm.2 with q | q; (exfalso; subst q; obtain ⟨-, z2, z3, z4, z5⟩ := ht; omega); exact ⟨m, q⟩)⟩) (by omega)
            · -- 76 to 79
              refine s_aload_n dX12_thing_79 rfl (Int.natCast_nonneg _) ?_
              refine gf_thingC rfl dX12_thing_80 hM ?_
              refine s_iload dX12_thing_83 rfl ?_
              refine s_iald dX12_thing_85 (mg_a_thingC hM) (by omega) (by omega) rfl ?_
              refine s_iload dX12_thing_86 rfl ?_
              refine s_icmp_ne (tgt := 94) dX12_thing_88 (by decide) (fun c19 => ?_) (fun c19 => ?_)
              · -- 88 to 94
                have h94 := hc2 k67 (by omega) (by omega)
                refine s_aload_n dX12_thing_94 rfl (Int.natCast_nonneg _) ?_
                refine gf_thingNext rfl dX12_thing_95 hM ?_
                refine s_iload dX12_thing_98 rfl ?_
                refine s_iald dX12_thing_100 (mg_a_thingNext hM) (by omega) (by omega) rfl ?_
                refine s_iconst dX12_thing_101 (by decide) ?_
                refine s_isub dX12_thing_102 (by omega) ?_
                refine s_istore dX12_thing_103 (by decide) (lv' := [some (2, ((1000 : Nat) : Int)), some (0, k), some (0, a), some (0, b), some (0, c), some (0, (i_and w6 2147483647) % 4096), some (0, (gS G a_thingNext ((k67).toNat)) - 1)]) rfl ?_
                refine s_goto (tgt := 40) dX12_thing_105 (by decide) ?_
                exact ih7 ((gS G a_thingNext ((k67).toNat)) - 1) (⟨(by omega), (by intro t ht; obtain ⟨m, hm⟩ := hr67 t ht; match m, hm with | 0, hm => exact hm.elim | m + 1, hm => rcases hm.2 with q | q; (exfalso; subst q; obtain ⟨-, z2, z3, z4, z5⟩ := ht; omega); exact ⟨m, q⟩)⟩) (by omega)
              · -- 88 to 91
                refine s_iload dX12_thing_91 rfl ?_
                exact s_iret hR dX12_thing_93 rfl (hQ _ G hM (⟨Fr.rf, ⟨hTH0, TX.rf, ⟨⟨by omega, by omega⟩, by omega, by omega, by omega, by omega⟩, by omega⟩⟩))
  exact L7 _ ((gS G a_thingHead (((i_and w6 2147483647) % 4096).toNat)) - 1) (⟨(by omega), (by intro t ht; obtain ⟨⟨z0, z1⟩, z2, z3, z4, z5⟩ := id ht; obtain ⟨m, hm⟩ := hc3 t z0 z1; rw [z2, z3, z4, z5, ← hpl] at hm; exact ⟨m, hm⟩)⟩) (Nat.lt_succ_self _)

abbrev nX12_stamp : List Nat := [a_thingKind, a_thingA, a_thingB, a_thingC, a_thingNext, a_thingHead]
abbrev jX12_stamp : List Nat := [42]
def TX12_stamp : TR := fun as G Qr => ∃ (k o s : Int) (Hs : List (Int → Int)) (v : Int → Int), as = [(2, ((1000 : Nat) : Int)), (0, k), (0, o), (0, s)] ∧ MG G ∧ (TH G Hs) ∧ (v ∈ Hs) ∧ (∀ G' : LG, TX G G' → ∀ t, key G' t k o s 0 → ∃ n : Int, (0 ≤ n ∧ n < (gS G' 1000 18)) ∧ mkN G' v n t) ∧ ∀ (r : Int) (G' : LG), MG G' → (Fr nX12_stamp jX12_stamp G G' ∧ (TH G' Hs ∧ TX G G' ∧ key G' r k o s 0 ∧ (gS G' 1000 42) ≤ (gS G 1000 42) + 1)) → Qr (.inl (some (0, r))) G'
set_option maxHeartbeats 4000000 in
set_option maxRecDepth 100000 in
theorem gX12_stamp : Good kX12_stamp yX12_stamp 1 TX12_stamp := by
  refine good_of (by decide) rfl rfl (fun as G Qr h => ?_) (fun X as G Qr hcf hR hT oa => ?_)
  · obtain ⟨k, o, s, Hs, v, rfl, -⟩ := h; exact Nat.le_of_ble_eq_true rfl
  obtain ⟨k, o, s, Hs, v, rfl, hM, hTH, hv, hA, hQ⟩ := hT
  show WP kX12_stamp X 0 [some (2, ((1000 : Nat) : Int)), some (0, k), some (0, o), some (0, s)] [] G
  have hr_k : inR k := okv_R (oa _ (by simp))
  have hr_o : inR o := okv_R (oa _ (by simp))
  have hr_s : inR s := okv_R (oa _ (by simp))
  refine s_aload_n dX12_stamp_0 rfl (Int.natCast_nonneg _) ?_
  refine s_iload_n dX12_stamp_1 rfl ?_
  refine s_iload_n dX12_stamp_2 rfl ?_
  refine s_iload_n dX12_stamp_3 rfl ?_
  refine s_iconst dX12_stamp_4 (by decide) ?_
  refine cv_X12_363 rfl gX12_thing dX12_stamp_5 hM (by rw [hcf]; decide) (as := [(0, k), (0, o), (0, s), (0, 0)]) rfl (by decide) ⟨k, o, s, 0, Hs, v, rfl, hM, (by first | assumption | omega), (by first | assumption | omega), (by first | assumption | omega), fun r2 G1 hMG1 hpG1 => ?_⟩
  obtain ⟨hfG1, hpG1⟩ := hpG1
  have hFG1 : Fr nX12_stamp jX12_stamp G G1 := Fr.call Fr.rf hfG1 (by decide) (by decide)
  show WP kX12_stamp X 8 [some (2, ((1000 : Nat) : Int)), some (0, k), some (0, o), some (0, s)] [(0, r2)] G1
  exact s_iret hR dX12_stamp_8 rfl (hQ _ G1 hMG1 (⟨hFG1, hpG1⟩))
