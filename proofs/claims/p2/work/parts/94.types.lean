abbrev nX12_type : List Nat := [a_tKind, a_tFirst, a_tSecond, a_tWeight, a_tNames]
abbrev jX12_type : List Nat := [0, 25]
def TX12_type : TR := fun as G Qr => ∃ (k a b : Int), as = [(2, ((1000 : Nat) : Int)), (0, k), (0, a), (0, b)] ∧ MG G ∧ (TB G) ∧ ∀ (r : Int) (G' : LG), MG G' → (Fr nX12_type jX12_type G G' ∧ (TYP G k a b r G' ∧ TB G')) → Qr (.inl (some (0, r))) G'
set_option maxHeartbeats 4000000 in
set_option maxRecDepth 100000 in
theorem gX12_type : Good kX12_type yX12_type 2 TX12_type := by
  refine good_of (by decide) rfl rfl (fun as G Qr h => ?_) (fun X as G Qr hcf hR hT oa => ?_)
  · obtain ⟨k, a, b, rfl, -⟩ := h; exact Nat.le_of_ble_eq_true rfl
  obtain ⟨k, a, b, rfl, hM, hTB, hQ⟩ := hT
  show WP kX12_type X 0 [some (2, ((1000 : Nat) : Int)), some (0, k), some (0, a), some (0, b), none, none, none] [] G
  have hr_k : inR k := okv_R (oa _ (by simp))
  have hr_a : inR a := okv_R (oa _ (by simp))
  have hr_b : inR b := okv_R (oa _ (by simp))
  have hty := hTB.1
  refine s_iload_n dX12_type_0 rfl ?_
  refine s_iconst dX12_type_1 (by decide) ?_
  refine s_iconst dX12_type_2 (by decide) ?_
  refine cs_X12_278 rfl gX12_in dX12_type_3 (by rw [hcf]; decide) (as := [(0, k), (0, 0), (0, 2)]) rfl (Nat.le_of_ble_eq_true rfl) ⟨k, 0, 2, rfl, ?_⟩
  show WP kX12_type X 6 [some (2, ((1000 : Nat) : Int)), some (0, k), some (0, a), some (0, b), none, none, none] [(0, b2i (0 ≤ k ∧ k ≤ 2))] G
  have J2 : ∀ z1 : Int, ((¬ (0 ≤ k ∧ k ≤ 2)) ∧ z1 = 0) ∨ ((0 ≤ k ∧ k ≤ 2) ∧ (¬ k = 2) ∧ z1 = 1) ∨ ((0 ≤ k ∧ k ≤ 2) ∧ (k = 2) ∧ (¬ (0 ≤ a ∧ a ≤ 5)) ∧ z1 = 0) ∨ ((0 ≤ k ∧ k ≤ 2) ∧ (k = 2) ∧ (0 ≤ a ∧ a ≤ 5) ∧ z1 = 1) → WP kX12_type X 26 [some (2, ((1000 : Nat) : Int)), some (0, k), some (0, a), some (0, b), none, none, none] [(0, z1)] G := by
    intro z1 hz1
    refine s_istore dX12_type_26 (by decide) (lv' := [some (2, ((1000 : Nat) : Int)), some (0, k), some (0, a), some (0, b), some (0, z1), none, none]) rfl ?_
    refine s_iload_n dX12_type_28 rfl ?_
    refine s_iconst dX12_type_29 (by decide) ?_
    have J4 : ∀ z3 : Int, ((¬ k = 1) ∧ z3 = 1) ∨ ((k = 1) ∧ (¬ (0 ≤ a ∧ a < (gS G 1000 0))) ∧ z3 = 0) ∨ ((k = 1) ∧ (0 ≤ a ∧ a < (gS G 1000 0)) ∧ (¬ (0 ≤ b ∧ b < (gS G 1000 0))) ∧ z3 = 0) ∨ ((k = 1) ∧ (0 ≤ a ∧ a < (gS G 1000 0)) ∧ (0 ≤ b ∧ b < (gS G 1000 0)) ∧ z3 = 1) → WP kX12_type X 54 [some (2, ((1000 : Nat) : Int)), some (0, k), some (0, a), some (0, b), some (0, z1), none, none] [(0, z3)] G := by
      intro z3 hz3
      refine s_istore dX12_type_54 (by decide) (lv' := [some (2, ((1000 : Nat) : Int)), some (0, k), some (0, a), some (0, b), some (0, z1), some (0, z3), none]) rfl ?_
      refine s_iload dX12_type_56 rfl ?_
      have J6 : ∀ z5 : Int, ((z1 = 0) ∧ z5 = 1) ∨ ((¬ z1 = 0) ∧ (z3 = 0) ∧ z5 = 1) ∨ ((¬ z1 = 0) ∧ (¬ z3 = 0) ∧ (¬ k = 1) ∧ z5 = 1) ∨ ((¬ z1 = 0) ∧ (¬ z3 = 0) ∧ (k = 1) ∧ z5 = (1 + (gS G a_tWeight ((a).toNat))) + (gS G a_tWeight ((b).toNat))) → WP kX12_type X 90 [some (2, ((1000 : Nat) : Int)), some (0, k), some (0, a), some (0, b), some (0, z1), some (0, z3), none] [(0, z5)] G := by
        intro z5 hz5
        refine s_istore dX12_type_90 (by decide) (lv' := [some (2, ((1000 : Nat) : Int)), some (0, k), some (0, a), some (0, b), some (0, z1), some (0, z3), some (0, z5)]) rfl ?_
        refine s_aload_n dX12_type_92 rfl (Int.natCast_nonneg _) ?_
        refine s_iload dX12_type_93 rfl ?_
        refine s_iload dX12_type_95 rfl ?_
        refine s_aload_n dX12_type_97 rfl (Int.natCast_nonneg _) ?_
        refine gf_types rfl dX12_type_98 hM rfl ?_
        refine s_bipush dX12_type_101 rfl (by decide) ?_
        have J8 : ∀ z7 : Int, ((60 ≤ (gS G 1000 0)) ∧ z7 = 0) ∨ ((¬ 60 ≤ (gS G 1000 0)) ∧ (12 < z5) ∧ z7 = 0) ∨ ((¬ 60 ≤ (gS G 1000 0)) ∧ (¬ 12 < z5) ∧ z7 = 1) → WP kX12_type X 118 [some (2, ((1000 : Nat) : Int)), some (0, k), some (0, a), some (0, b), some (0, z1), some (0, z3), some (0, z5)] [(0, z7), (0, z3), (0, z1), (2, ((1000 : Nat) : Int))] G := by
          intro z7 hz7
          refine cv_X12_298 rfl gX12_goes dX12_type_118 hM (by rw [hcf]; decide) (as := [(0, z1), (0, z3), (0, z7)]) rfl (Nat.le_of_ble_eq_true rfl) ⟨z1, z3, z7, rfl, hM, fun r10 G9 hMG9 hpG9 => ?_⟩
          obtain ⟨eG9, hpG9⟩ := hpG9
          have hFG9 : Fr nX12_type jX12_type G G9 := Fr.setF Fr.rf eG9 (by decide)
          show WP kX12_type X 121 [some (2, ((1000 : Nat) : Int)), some (0, k), some (0, a), some (0, b), some (0, z1), some (0, z3), some (0, z5)] [(0, r10)] G9
          refine s_if_ne (tgt := 126) dX12_type_121 (by decide) (fun c11 => ?_) (fun c11 => ?_)
          · -- 121 to 126
            have hg9 := goes_r hpG9 (by assumption)
            have hw9 : z5 = tyW G k a b := by unfold tyW; split <;> omega
            have hn9 : tyT G k a b = 0 := by unfold tyT; repeat' split <;> omega
            have hwl : 1 ≤ z5 := by (by_cases q : k = 1; (have h1 := hTB.w (x := a) (by omega) (by omega); have h2 := hTB.w (x := b) (by omega) (by omega); omega); omega)
            refine s_aload_n dX12_type_126 rfl (Int.natCast_nonneg _) ?_
            refine gf_tKind rfl dX12_type_127 hMG9 ?_
            refine s_aload_n dX12_type_130 rfl (Int.natCast_nonneg _) ?_
            refine gf_types rfl dX12_type_131 hMG9 (gsjE eG9 (by decide)) ?_
            refine s_iload_n dX12_type_134 rfl ?_
            refine r_iast dX12_type_135 hMG9 (mg_a_tKind hMG9) (by decide) (by omega) (by omega) (fun G12 eG12 hMG12 => ?_)
            have hFG12 : Fr nX12_type jX12_type G G12 := Fr.setA hFG9 eG12 (by decide)
            show WP kX12_type X 136 [some (2, ((1000 : Nat) : Int)), some (0, k), some (0, a), some (0, b), some (0, z1), some (0, z3), some (0, z5)] [] G12
            refine s_aload_n dX12_type_136 rfl (Int.natCast_nonneg _) ?_
            refine gf_tFirst rfl dX12_type_137 hMG12 ?_
            refine s_aload_n dX12_type_140 rfl (Int.natCast_nonneg _) ?_
            refine gf_types rfl dX12_type_141 hMG12 (Eq.trans (gsnE eG12 (by decide)) (gsjE eG9 (by decide))) ?_
            refine s_iload_n dX12_type_144 rfl ?_
            have J14 : ∀ z13 : Int, ((¬ k = 0) ∧ z13 = a) ∨ ((k = 0) ∧ z13 = 0) → WP kX12_type X 153 [some (2, ((1000 : Nat) : Int)), some (0, k), some (0, a), some (0, b), some (0, z1), some (0, z3), some (0, z5)] [(0, z13), (0, gS G 1000 0), (2, ((a_tFirst : Nat) : Int))] G12 := by
              intro z13 hz13
              refine r_iast dX12_type_153 hMG12 (mg_a_tFirst hMG12) (by decide) (by omega) (by omega) (fun G15 eG15 hMG15 => ?_)
              have hFG15 : Fr nX12_type jX12_type G G15 := Fr.setA hFG12 eG15 (by decide)
              show WP kX12_type X 154 [some (2, ((1000 : Nat) : Int)), some (0, k), some (0, a), some (0, b), some (0, z1), some (0, z3), some (0, z5)] [] G15
              refine s_aload_n dX12_type_154 rfl (Int.natCast_nonneg _) ?_
              refine gf_tSecond rfl dX12_type_155 hMG15 ?_
              refine s_aload_n dX12_type_158 rfl (Int.natCast_nonneg _) ?_
              refine gf_types rfl dX12_type_159 hMG15 (Eq.trans (gsnE eG15 (by decide)) (Eq.trans (gsnE eG12 (by decide)) (gsjE eG9 (by decide)))) ?_
              refine s_iload_n dX12_type_162 rfl ?_
              refine s_iconst dX12_type_163 (by decide) ?_
              have J17 : ∀ z16 : Int, ((¬ k = 1) ∧ z16 = 0) ∨ ((k = 1) ∧ z16 = b) → WP kX12_type X 172 [some (2, ((1000 : Nat) : Int)), some (0, k), some (0, a), some (0, b), some (0, z1), some (0, z3), some (0, z5)] [(0, z16), (0, gS G 1000 0), (2, ((a_tSecond : Nat) : Int))] G15 := by
                intro z16 hz16
                refine r_iast dX12_type_172 hMG15 (mg_a_tSecond hMG15) (by decide) (by omega) (by omega) (fun G18 eG18 hMG18 => ?_)
                have hFG18 : Fr nX12_type jX12_type G G18 := Fr.setA hFG15 eG18 (by decide)
                show WP kX12_type X 173 [some (2, ((1000 : Nat) : Int)), some (0, k), some (0, a), some (0, b), some (0, z1), some (0, z3), some (0, z5)] [] G18
                refine s_aload_n dX12_type_173 rfl (Int.natCast_nonneg _) ?_
                refine gf_tWeight rfl dX12_type_174 hMG18 ?_
                refine s_aload_n dX12_type_177 rfl (Int.natCast_nonneg _) ?_
                refine gf_types rfl dX12_type_178 hMG18 (Eq.trans (gsnE eG18 (by decide)) (Eq.trans (gsnE eG15 (by decide)) (Eq.trans (gsnE eG12 (by decide)) (gsjE eG9 (by decide))))) ?_
                refine s_iload dX12_type_181 rfl ?_
                refine r_iast dX12_type_183 hMG18 (mg_a_tWeight hMG18) (by decide) (by omega) (by omega) (fun G19 eG19 hMG19 => ?_)
                have hFG19 : Fr nX12_type jX12_type G G19 := Fr.setA hFG18 eG19 (by decide)
                show WP kX12_type X 184 [some (2, ((1000 : Nat) : Int)), some (0, k), some (0, a), some (0, b), some (0, z1), some (0, z3), some (0, z5)] [] G19
                refine s_aload_n dX12_type_184 rfl (Int.natCast_nonneg _) ?_
                refine gf_tNames rfl dX12_type_185 hMG19 ?_
                refine s_aload_n dX12_type_188 rfl (Int.natCast_nonneg _) ?_
                refine gf_types rfl dX12_type_189 hMG19 (Eq.trans (gsnE eG19 (by decide)) (Eq.trans (gsnE eG18 (by decide)) (Eq.trans (gsnE eG15 (by decide)) (Eq.trans (gsnE eG12 (by decide)) (gsjE eG9 (by decide)))))) ?_
                refine s_iload_n dX12_type_192 rfl ?_
                refine s_iconst dX12_type_193 (by decide) ?_
                have J21 : ∀ z20 : Int, ((¬ k = 2) ∧ (¬ k = 1) ∧ z20 = 0) ∨ ((¬ k = 2) ∧ (k = 1) ∧ z20 = i_or (gS G a_tNames ((a).toNat)) (gS G a_tNames ((b).toNat))) ∨ ((k = 2) ∧ z20 = i_shl 1 a) → WP kX12_type X 225 [some (2, ((1000 : Nat) : Int)), some (0, k), some (0, a), some (0, b), some (0, z1), some (0, z3), some (0, z5)] [(0, z20), (0, gS G 1000 0), (2, ((a_tNames : Nat) : Int))] G19 := by
                  intro z20 hz20
                  refine r_iast dX12_type_225 hMG19 (mg_a_tNames hMG19) (by decide) (by omega) (by omega) (fun G22 eG22 hMG22 => ?_)
                  have hFG22 : Fr nX12_type jX12_type G G22 := Fr.setA hFG19 eG22 (by decide)
                  show WP kX12_type X 226 [some (2, ((1000 : Nat) : Int)), some (0, k), some (0, a), some (0, b), some (0, z1), some (0, z3), some (0, z5)] [] G22
                  refine s_aload_n dX12_type_226 rfl (Int.natCast_nonneg _) ?_
                  refine s_dup dX12_type_227 (by decide) ?_
                  refine gf_types rfl dX12_type_228 hMG22 (Eq.trans (gsnE eG22 (by decide)) (Eq.trans (gsnE eG19 (by decide)) (Eq.trans (gsnE eG18 (by decide)) (Eq.trans (gsnE eG15 (by decide)) (Eq.trans (gsnE eG12 (by decide)) (gsjE eG9 (by decide))))))) ?_
                  refine s_iconst dX12_type_231 (by decide) ?_
                  refine s_iadd dX12_type_232 (by omega) ?_
                  refine pf_types rfl dX12_type_233 hMG22 (fun G23 eG23 hMG23 => ?_)
                  have hFG23 : Fr nX12_type jX12_type G G23 := Fr.setF hFG22 eG23 (by decide)
                  refine s_aload_n dX12_type_236 rfl (Int.natCast_nonneg _) ?_
                  refine gf_types rfl dX12_type_237 hMG23 (gsaE eG23) ?_
                  refine s_iconst dX12_type_240 (by decide) ?_
                  refine s_isub dX12_type_241 (by omega) ?_
                  exact s_iret hR dX12_type_242 rfl (hQ _ G23 hMG23 (⟨hFG23, ⟨⟨(by rw [hn9, (Eq.trans (gsjE eG23 (by decide)) (Eq.trans (gsnE eG22 (by decide)) (Eq.trans (gsnE eG19 (by decide)) (Eq.trans (gsnE eG18 (by decide)) (Eq.trans (gsnE eG15 (by decide)) (Eq.trans (gsnE eG12 (by decide)) (gsaE eG9))))))), if_neg hg9.1, if_neg hg9.2.1, if_neg hg9.2.2]), fun q => absurd hn9 q, fun _ => ⟨by omega, (gsaE eG23), (by rw [← hw9]; exact (fun j => by rw [gsnE eG23 (by decide), gsnE eG22 (by decide), g_upd eG19, gsnE eG18 (by decide), gsnE eG15 (by decide), gsnE eG12 (by decide), gsnE eG9 (by decide)]))⟩⟩, hTB.add (by omega) ((gsaE eG23)) (fun j => by rw [gsnE eG23 (by decide), gsnE eG22 (by decide), gsnE eG19 (by decide), gsnE eG18 (by decide), gsnE eG15 (by decide), g_upd eG12, gsnE eG9 (by decide)]) (fun j => by rw [gsnE eG23 (by decide), gsnE eG22 (by decide), gsnE eG19 (by decide), gsnE eG18 (by decide), g_upd eG15, gsnE eG12 (by decide), gsnE eG9 (by decide)]) (fun j => by rw [gsnE eG23 (by decide), gsnE eG22 (by decide), gsnE eG19 (by decide), g_upd eG18, gsnE eG15 (by decide), gsnE eG12 (by decide), gsnE eG9 (by decide)]) (fun j => by rw [gsnE eG23 (by decide), gsnE eG22 (by decide), g_upd eG19, gsnE eG18 (by decide), gsnE eG15 (by decide), gsnE eG12 (by decide), gsnE eG9 (by decide)]) (by omega) (by omega) (fun q => by rw [show z13 = a by omega, show z16 = b by omega]; omega) (by omega)⟩⟩))
                refine s_icmp_ne (tgt := 203) dX12_type_194 (by decide) (fun c24 => ?_) (fun c24 => ?_)
                · -- 194 to 203
                  refine s_iload_n dX12_type_203 rfl ?_
                  refine s_iconst dX12_type_204 (by decide) ?_
                  refine s_icmp_ne (tgt := 224) dX12_type_205 (by decide) (fun c25 => ?_) (fun c25 => ?_)
                  · -- 205 to 224
                    refine s_iconst dX12_type_224 (by decide) ?_
                    exact J21 0 (Or.inl ⟨c24, c25, rfl⟩)
                  · -- 205 to 208
                    refine s_aload_n dX12_type_208 rfl (Int.natCast_nonneg _) ?_
                    refine gf_tNames rfl dX12_type_209 hMG19 ?_
                    refine s_iload_n dX12_type_212 rfl ?_
                    refine s_iald dX12_type_213 (mg_a_tNames hMG19) (by omega) (by omega) (Eq.trans (gsnE eG19 (by decide)) (Eq.trans (gsnE eG18 (by decide)) (Eq.trans (gsnE eG15 (by decide)) (Eq.trans (gsnE eG12 (by decide)) (gsnE eG9 (by decide)))))) ?_
                    refine s_aload_n dX12_type_214 rfl (Int.natCast_nonneg _) ?_
                    refine gf_tNames rfl dX12_type_215 hMG19 ?_
                    refine s_iload_n dX12_type_218 rfl ?_
                    refine s_iald dX12_type_219 (mg_a_tNames hMG19) (by omega) (by omega) (Eq.trans (gsnE eG19 (by decide)) (Eq.trans (gsnE eG18 (by decide)) (Eq.trans (gsnE eG15 (by decide)) (Eq.trans (gsnE eG12 (by decide)) (gsnE eG9 (by decide)))))) ?_
                    refine s_ior dX12_type_220 ?_
                    refine s_goto (tgt := 225) dX12_type_221 (by decide) ?_
                    exact J21 _ (Or.inr (Or.inl ⟨c24, c25, rfl⟩))
                · -- 194 to 197
                  refine s_iconst dX12_type_197 (by decide) ?_
                  refine s_iload_n dX12_type_198 rfl ?_
                  refine s_ishl dX12_type_199 ?_
                  refine s_goto (tgt := 225) dX12_type_200 (by decide) ?_
                  exact J21 _ (Or.inr (Or.inr (⟨c24, rfl⟩)))
              refine s_icmp_ne (tgt := 171) dX12_type_164 (by decide) (fun c26 => ?_) (fun c26 => ?_)
              · -- 164 to 171
                refine s_iconst dX12_type_171 (by decide) ?_
                exact J17 0 (Or.inl ⟨c26, rfl⟩)
              · -- 164 to 167
                refine s_iload_n dX12_type_167 rfl ?_
                refine s_goto (tgt := 172) dX12_type_168 (by decide) ?_
                exact J17 b (Or.inr (⟨c26, rfl⟩))
            refine s_if_ne (tgt := 152) dX12_type_145 (by decide) (fun c27 => ?_) (fun c27 => ?_)
            · -- 145 to 152
              refine s_iload_n dX12_type_152 rfl ?_
              exact J14 a (Or.inl ⟨c27, rfl⟩)
            · -- 145 to 148
              refine s_iconst dX12_type_148 (by decide) ?_
              refine s_goto (tgt := 153) dX12_type_149 (by decide) ?_
              exact J14 0 (Or.inr (⟨c27, rfl⟩))
          · -- 121 to 124
            have hr0 := goes_0 hpG9 (by omega)
            have hw9 : ¬ z1 = 0 → ¬ z3 = 0 → z5 = tyW G k a b := by intro q1 q2; unfold tyW; split <;> omega
            have ht9 : (if z1 = 0 then 1 else if z3 = 0 then 2 else if z7 = 0 then 3 else 0) = tyT G k a b := by unfold tyT; repeat' split <;> omega
            have hn9 : ¬ tyT G k a b = 0 := by rw [← ht9]; repeat' split <;> omega
            refine s_iconst dX12_type_124 (by decide) ?_
            exact s_iret hR dX12_type_125 rfl (hQ _ G9 hMG9 (⟨hFG9, ⟨⟨((gsaE eG9)).trans ht9, fun _ => ⟨rfl, (Fr.setF Fr.rf eG9 (by decide) : Fr [] [25] G G9)⟩, fun q => absurd q hn9⟩, hTB.agr ((Fr.setF Fr.rf eG9 (by decide) : Fr [] [25] G G9).agr (by decide) (by decide) (by decide))⟩⟩))
        refine s_icmp_ge (tgt := 117) dX12_type_103 (by decide) (fun c28 => ?_) (fun c28 => ?_)
        · -- 103 to 117
          refine s_iconst dX12_type_117 (by decide) ?_
          exact J8 0 (Or.inl ⟨c28, rfl⟩)
        · -- 103 to 106
          refine s_iload dX12_type_106 rfl ?_
          refine s_bipush dX12_type_108 rfl (by decide) ?_
          refine s_icmp_gt (tgt := 117) dX12_type_110 (by decide) (fun c29 => ?_) (fun c29 => ?_)
          · -- 110 to 117
            refine s_iconst dX12_type_117 (by decide) ?_
            exact J8 0 (Or.inr (Or.inl ⟨c28, c29, rfl⟩))
          · -- 110 to 113
            refine s_iconst dX12_type_113 (by decide) ?_
            refine s_goto (tgt := 118) dX12_type_114 (by decide) ?_
            exact J8 1 (Or.inr (Or.inr (⟨c28, c29, rfl⟩)))
      refine s_if_eq (tgt := 89) dX12_type_58 (by decide) (fun c30 => ?_) (fun c30 => ?_)
      · -- 58 to 89
        refine s_iconst dX12_type_89 (by decide) ?_
        exact J6 1 (Or.inl ⟨c30, rfl⟩)
      · -- 58 to 61
        refine s_iload dX12_type_61 rfl ?_
        refine s_if_eq (tgt := 89) dX12_type_63 (by decide) (fun c31 => ?_) (fun c31 => ?_)
        · -- 63 to 89
          refine s_iconst dX12_type_89 (by decide) ?_
          exact J6 1 (Or.inr (Or.inl ⟨c30, c31, rfl⟩))
        · -- 63 to 66
          refine s_iload_n dX12_type_66 rfl ?_
          refine s_iconst dX12_type_67 (by decide) ?_
          refine s_icmp_ne (tgt := 89) dX12_type_68 (by decide) (fun c32 => ?_) (fun c32 => ?_)
          · -- 68 to 89
            refine s_iconst dX12_type_89 (by decide) ?_
            exact J6 1 (Or.inr (Or.inr (Or.inl ⟨c30, c31, c32, rfl⟩)))
          · -- 68 to 71
            have hwa := hTB.w (x := a) (by omega) (by omega)
            have hwb := hTB.w (x := b) (by omega) (by omega)
            refine s_iconst dX12_type_71 (by decide) ?_
            refine s_aload_n dX12_type_72 rfl (Int.natCast_nonneg _) ?_
            refine gf_tWeight rfl dX12_type_73 hM ?_
            refine s_iload_n dX12_type_76 rfl ?_
            refine s_iald dX12_type_77 (mg_a_tWeight hM) (by omega) (by omega) rfl ?_
            refine s_iadd dX12_type_78 (by omega) ?_
            refine s_aload_n dX12_type_79 rfl (Int.natCast_nonneg _) ?_
            refine gf_tWeight rfl dX12_type_80 hM ?_
            refine s_iload_n dX12_type_83 rfl ?_
            refine s_iald dX12_type_84 (mg_a_tWeight hM) (by omega) (by omega) rfl ?_
            refine s_iadd dX12_type_85 (by omega) ?_
            refine s_goto (tgt := 90) dX12_type_86 (by decide) ?_
            exact J6 _ (Or.inr (Or.inr (Or.inr (⟨c30, c31, c32, rfl⟩))))
    refine s_icmp_ne (tgt := 49) dX12_type_30 (by decide) (fun c33 => ?_) (fun c33 => ?_)
    · -- 30 to 49
      refine s_iconst dX12_type_49 (by decide) ?_
      refine s_goto (tgt := 54) dX12_type_50 (by decide) ?_
      exact J4 1 (Or.inl ⟨c33, rfl⟩)
    · -- 30 to 33
      refine s_aload_n dX12_type_33 rfl (Int.natCast_nonneg _) ?_
      refine s_iload_n dX12_type_34 rfl ?_
      refine cv_X12_295 rfl gX12_isType dX12_type_35 hM (by rw [hcf]; decide) (as := [(0, a)]) rfl (Nat.le_of_ble_eq_true rfl) ⟨a, rfl, hM, (by first | assumption | omega), ?_⟩
      show WP kX12_type X 38 [some (2, ((1000 : Nat) : Int)), some (0, k), some (0, a), some (0, b), some (0, z1), none, none] [(0, b2i (0 ≤ a ∧ a < (gS G 1000 0)))] G
      refine s_if_eqB (tgt := 53) dX12_type_38 (by decide) (fun c34 => ?_) (fun c34 => ?_)
      · -- 38 to 53
        refine s_iconst dX12_type_53 (by decide) ?_
        exact J4 0 (Or.inr (Or.inl ⟨c33, c34, rfl⟩))
      · -- 38 to 41
        refine s_aload_n dX12_type_41 rfl (Int.natCast_nonneg _) ?_
        refine s_iload_n dX12_type_42 rfl ?_
        refine cv_X12_295 rfl gX12_isType dX12_type_43 hM (by rw [hcf]; decide) (as := [(0, b)]) rfl (Nat.le_of_ble_eq_true rfl) ⟨b, rfl, hM, (by first | assumption | omega), ?_⟩
        show WP kX12_type X 46 [some (2, ((1000 : Nat) : Int)), some (0, k), some (0, a), some (0, b), some (0, z1), none, none] [(0, b2i (0 ≤ b ∧ b < (gS G 1000 0)))] G
        refine s_if_eqB (tgt := 53) dX12_type_46 (by decide) (fun c35 => ?_) (fun c35 => ?_)
        · -- 46 to 53
          refine s_iconst dX12_type_53 (by decide) ?_
          exact J4 0 (Or.inr (Or.inr (Or.inl ⟨c33, c34, c35, rfl⟩)))
        · -- 46 to 49
          refine s_iconst dX12_type_49 (by decide) ?_
          refine s_goto (tgt := 54) dX12_type_50 (by decide) ?_
          exact J4 1 (Or.inr (Or.inr (Or.inr (⟨c33, c34, c35, rfl⟩))))
  refine s_if_eqB (tgt := 25) dX12_type_6 (by decide) (fun c36 => ?_) (fun c36 => ?_)
  · -- 6 to 25
    refine s_iconst dX12_type_25 (by decide) ?_
    exact J2 0 (Or.inl ⟨c36, rfl⟩)
  · -- 6 to 9
    refine s_iload_n dX12_type_9 rfl ?_
    refine s_iconst dX12_type_10 (by decide) ?_
    refine s_icmp_ne (tgt := 21) dX12_type_11 (by decide) (fun c37 => ?_) (fun c37 => ?_)
    · -- 11 to 21
      refine s_iconst dX12_type_21 (by decide) ?_
      refine s_goto (tgt := 26) dX12_type_22 (by decide) ?_
      exact J2 1 (Or.inr (Or.inl ⟨c36, c37, rfl⟩))
    · -- 11 to 14
      refine s_iload_n dX12_type_14 rfl ?_
      refine cs_X12_291 rfl gX12_isName dX12_type_15 (by rw [hcf]; decide) (as := [(0, a)]) rfl (Nat.le_of_ble_eq_true rfl) ⟨a, rfl, ?_⟩
      show WP kX12_type X 18 [some (2, ((1000 : Nat) : Int)), some (0, k), some (0, a), some (0, b), none, none, none] [(0, b2i (0 ≤ a ∧ a ≤ 5))] G
      refine s_if_eqB (tgt := 25) dX12_type_18 (by decide) (fun c38 => ?_) (fun c38 => ?_)
      · -- 18 to 25
        refine s_iconst dX12_type_25 (by decide) ?_
        exact J2 0 (Or.inr (Or.inr (Or.inl ⟨c36, c37, c38, rfl⟩)))
      · -- 18 to 21
        refine s_iconst dX12_type_21 (by decide) ?_
        refine s_goto (tgt := 26) dX12_type_22 (by decide) ?_
        exact J2 1 (Or.inr (Or.inr (Or.inr (⟨c36, c37, c38, rfl⟩))))
