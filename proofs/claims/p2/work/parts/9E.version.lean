abbrev nX12_version : List Nat := [a_typeOf, a_valueType, a_valueBy, a_valueFlags, a_versions]
abbrev jX12_version : List Nat := [25]
def TX12_version : TR := fun as G Qr => ∃ (u : Int) (Hs : List (Int → Int)), as = [(2, ((1000 : Nat) : Int)), (0, u)] ∧ MG G ∧ (UV G) ∧ (TB G) ∧ (EX G) ∧ (TH G Hs) ∧ (UZ G) ∧ (HM G Hs) ∧ ∀ (r : Int) (G' : LG), MG G' → (Fr nX12_version jX12_version G G' ∧ ((gS G' 1000 25) = (if ¬ (0 ≤ u ∧ u < (gS G 1000 12)) then (1 : Int) else if ¬ (gS G a_versions (u).toNat) < 5 then 2 else 0) ∧ (¬ (if ¬ (0 ≤ u ∧ u < (gS G 1000 12)) then (1 : Int) else if ¬ (gS G a_versions (u).toNat) < 5 then 2 else 0) = 0 → r = 0 ∧ Fr [] [25] G G') ∧ ((if ¬ (0 ≤ u ∧ u < (gS G 1000 12)) then (1 : Int) else if ¬ (gS G a_versions (u).toNat) < 5 then 2 else 0) = 0 → r = (gS G a_versions (u).toNat) ∧ (∀ j : Nat, gS G' a_versions j = if j = (u).toNat then (gS G a_versions (u).toNat) + 1 else gS G a_versions j) ∧ UZ G' ∧ TH G' (cur G' :: Hs) ∧ HM G' (cur G' :: Hs)) ∧ UV G')) → Qr (.inl (some (0, r))) G'
set_option maxHeartbeats 4000000 in
set_option maxRecDepth 100000 in
theorem gX12_version : Good kX12_version yX12_version 2 TX12_version := by
  refine good_of (by decide) rfl rfl (fun as G Qr h => ?_) (fun X as G Qr hcf hR hT oa => ?_)
  · obtain ⟨u, Hs, rfl, -⟩ := h; exact Nat.le_of_ble_eq_true rfl
  obtain ⟨u, Hs, rfl, hM, hUV, hTB, hEX, hTH, hUZ, hHM, hQ⟩ := hT
  show WP kX12_version X 0 [some (2, ((1000 : Nat) : Int)), some (0, u), none, none, none] [] G
  have hr_u : inR u := okv_R (oa _ (by simp))
  have huu := hUV.1
  have hb9 : (b2i (0 ≤ u ∧ u < (gS G 1000 12)) = 1 ∧ (0 ≤ u ∧ u < (gS G 1000 12))) ∨ (b2i (0 ≤ u ∧ u < (gS G 1000 12)) = 0 ∧ ¬ (0 ≤ u ∧ u < (gS G 1000 12))) := by (by_cases q : 0 ≤ u ∧ u < (gS G 1000 12); exact Or.inl ⟨b2i_t q, q⟩; exact Or.inr ⟨b2i_f q, q⟩)
  refine s_aload_n dX12_version_0 rfl (Int.natCast_nonneg _) ?_
  refine s_iload_n dX12_version_1 rfl ?_
  refine cv_X12_320 rfl gX12_isUnit dX12_version_2 hM (by rw [hcf]; decide) (as := [(0, u)]) rfl (Nat.le_of_ble_eq_true rfl) ⟨u, rfl, hM, (by first | assumption | omega), ?_⟩
  show WP kX12_version X 5 [some (2, ((1000 : Nat) : Int)), some (0, u), none, none, none] [(0, b2i (0 ≤ u ∧ u < (gS G 1000 12)))] G
  refine s_istore_n dX12_version_5 (by decide) (lv' := [some (2, ((1000 : Nat) : Int)), some (0, u), some (0, b2i (0 ≤ u ∧ u < (gS G 1000 12))), none, none]) rfl ?_
  refine s_aload_n dX12_version_6 rfl (Int.natCast_nonneg _) ?_
  refine s_iload_n dX12_version_7 rfl ?_
  refine s_iload_n dX12_version_8 rfl ?_
  have J2 : ∀ z1 : Int, ((¬ (0 ≤ u ∧ u < (gS G 1000 12))) ∧ z1 = 0) ∨ ((0 ≤ u ∧ u < (gS G 1000 12)) ∧ (5 ≤ (gS G a_versions ((u).toNat))) ∧ z1 = 0) ∨ ((0 ≤ u ∧ u < (gS G 1000 12)) ∧ (¬ 5 ≤ (gS G a_versions ((u).toNat))) ∧ z1 = 1) → WP kX12_version X 27 [some (2, ((1000 : Nat) : Int)), some (0, u), some (0, b2i (0 ≤ u ∧ u < (gS G 1000 12))), none, none] [(0, z1), (0, b2i (0 ≤ u ∧ u < (gS G 1000 12))), (2, ((1000 : Nat) : Int))] G := by
    intro z1 hz1
    refine s_iconst dX12_version_27 (by decide) ?_
    refine cv_X12_298 rfl gX12_goes dX12_version_28 hM (by rw [hcf]; decide) (as := [(0, b2i (0 ≤ u ∧ u < (gS G 1000 12))), (0, z1), (0, 1)]) rfl (Nat.le_of_ble_eq_true rfl) ⟨b2i (0 ≤ u ∧ u < (gS G 1000 12)), z1, 1, rfl, hM, fun r4 G3 hMG3 hpG3 => ?_⟩
    obtain ⟨eG3, hpG3⟩ := hpG3
    have hFG3 : Fr nX12_version jX12_version G G3 := Fr.setF Fr.rf eG3 (by decide)
    show WP kX12_version X 31 [some (2, ((1000 : Nat) : Int)), some (0, u), some (0, b2i (0 ≤ u ∧ u < (gS G 1000 12))), none, none] [(0, r4)] G3
    refine s_if_ne (tgt := 36) dX12_version_31 (by decide) (fun c5 => ?_) (fun c5 => ?_)
    · -- 31 to 36
      have hg9 := goes_r hpG3 (by assumption)
      have ht9 : (if (b2i (0 ≤ u ∧ u < (gS G 1000 12))) = 0 then 1 else if z1 = 0 then 2 else if 1 = 0 then 3 else 0) = (if ¬ (0 ≤ u ∧ u < (gS G 1000 12)) then (1 : Int) else if ¬ (gS G a_versions (u).toNat) < 5 then 2 else 0) := by (repeat' split) <;> omega
      have hn9 : (if ¬ (0 ≤ u ∧ u < (gS G 1000 12)) then (1 : Int) else if ¬ (gS G a_versions (u).toNat) < 5 then 2 else 0) = 0 := by (repeat' split) <;> omega
      have hu9 : 0 ≤ u ∧ u < (gS G 1000 12) := by omega
      have hv8 := hUV.2.1 u (by omega) (by omega)
      have hv9 := hUV.2.2.1 u hu9.1 hu9.2
      have hve9 : (gS G3 a_versions (u).toNat) = (gS G a_versions (u).toNat) := (Fr.setF Fr.rf eG3 (by decide) : Fr [] [25] G G3).atA (by decide) (by decide)
      refine s_aload_n dX12_version_36 rfl (Int.natCast_nonneg _) ?_
      refine s_iload_n dX12_version_37 rfl ?_
      refine cv_X12_323 rfl gX12_latest dX12_version_38 hMG3 (by rw [hcf]; decide) (as := [(0, u)]) rfl (Nat.le_of_ble_eq_true rfl) ⟨u, rfl, hMG3, (by first | assumption | omega), (by first | assumption | omega), ?_⟩
      show WP kX12_version X 41 [some (2, ((1000 : Nat) : Int)), some (0, u), some (0, b2i (0 ≤ u ∧ u < (gS G 1000 12))), none, none] [(0, 5 * u + ((gS G3 a_versions (u).toNat) - 1))] G3
      refine s_istore_n dX12_version_41 (by decide) (lv' := [some (2, ((1000 : Nat) : Int)), some (0, u), some (0, b2i (0 ≤ u ∧ u < (gS G 1000 12))), some (0, 5 * u + ((gS G3 a_versions (u).toNat) - 1)), none]) rfl ?_
      have ho9 : 0 ≤ 5 * u + ((gS G3 a_versions (u).toNat) - 1) ∧ 5 * u + ((gS G3 a_versions (u).toNat) - 1) < 39 := by omega
      generalize hO9 : 5 * u + ((gS G3 a_versions (u).toNat) - 1) = o9 at *
      refine s_iconst dX12_version_42 (by decide) ?_
      refine s_istore dX12_version_43 (by decide) (lv' := [some (2, ((1000 : Nat) : Int)), some (0, u), some (0, b2i (0 ≤ u ∧ u < (gS G 1000 12))), some (0, o9), some (0, 0)]) rfl ?_
      have L6 : ∀ (n6 : Nat) (k6 : Int) (G6 : LG), MG G6 → Fr nX12_version jX12_version G G6 → ((0 ≤ k6 ∧ k6 ≤ 6) ∧ (Fr [a_typeOf] [25] G G6) ∧ (UV G6) ∧ ((gS G6 1000 25) = (if ¬ (0 ≤ u ∧ u < (gS G 1000 12)) then (1 : Int) else if ¬ (gS G a_versions (u).toNat) < 5 then 2 else 0))) → (6 - k6).toNat < n6 → WP kX12_version X 45 [some (2, ((1000 : Nat) : Int)), some (0, u), some (0, b2i (0 ≤ u ∧ u < (gS G 1000 12))), some (0, o9), some (0, k6)] [] G6 := by
        intro n6
        induction n6 with
        | zero => intro k6 G6 hMG6 hFG6 hi6 hm6; exact absurd hm6 (Nat.not_lt_zero _)
        | succ n6 ih6 =>
          intro k6 G6 hMG6 hFG6 hi6 hm6
          have hj6 := hi6
          obtain ⟨ik6, ir6, iU6, it6⟩ := hi6
          refine s_iload dX12_version_45 rfl ?_
          refine s_bipush dX12_version_47 rfl (by decide) ?_
          refine s_icmp_ge (tgt := 84) dX12_version_49 (by decide) (fun c7 => ?_) (fun c7 => ?_)
          · -- 49 to 84
            refine s_iconst dX12_version_84 (by decide) ?_
            refine s_istore dX12_version_85 (by decide) (lv' := [some (2, ((1000 : Nat) : Int)), some (0, u), some (0, b2i (0 ≤ u ∧ u < (gS G 1000 12))), some (0, o9), some (0, 0)]) rfl ?_
            have L8 : ∀ (n8 : Nat) (k8 : Int) (G8 : LG), MG G8 → Fr nX12_version jX12_version G G8 → ((0 ≤ k8 ∧ k8 ≤ 10) ∧ (Fr [a_typeOf, a_valueType, a_valueBy, a_valueFlags] [25] G G8) ∧ (UV G8) ∧ ((gS G8 1000 25) = (if ¬ (0 ≤ u ∧ u < (gS G 1000 12)) then (1 : Int) else if ¬ (gS G a_versions (u).toNat) < 5 then 2 else 0))) → (10 - k8).toNat < n8 → WP kX12_version X 87 [some (2, ((1000 : Nat) : Int)), some (0, u), some (0, b2i (0 ≤ u ∧ u < (gS G 1000 12))), some (0, o9), some (0, k8)] [] G8 := by
              intro n8
              induction n8 with
              | zero => intro k8 G8 hMG8 hFG8 hi8 hm8; exact absurd hm8 (Nat.not_lt_zero _)
              | succ n8 ih8 =>
                intro k8 G8 hMG8 hFG8 hi8 hm8
                have hj8 := hi8
                obtain ⟨ik8, ir8, iU8, it8⟩ := hi8
                refine s_iload dX12_version_87 rfl ?_
                refine s_bipush dX12_version_89 rfl (by decide) ?_
                refine s_icmp_ge (tgt := 178) dX12_version_91 (by decide) (fun c9 => ?_) (fun c9 => ?_)
                · -- 91 to 178
                  have hvq9 : (gS G8 a_versions (u).toNat) = (gS G a_versions (u).toNat) := ir8.atA (by decide) (by decide)
                  refine s_aload_n dX12_version_178 rfl (Int.natCast_nonneg _) ?_
                  refine gf_versions rfl dX12_version_179 hMG8 ?_
                  refine s_iload_n dX12_version_182 rfl ?_
                  refine s_dup2 dX12_version_183 (by simp) (by simp) ?_
                  refine s_iald dX12_version_184 (mg_a_versions hMG8) (by omega) (by omega) rfl ?_
                  refine s_iconst dX12_version_185 (by decide) ?_
                  refine s_iadd dX12_version_186 (by omega) ?_
                  refine r_iast dX12_version_187 hMG8 (mg_a_versions hMG8) (by decide) (by omega) (by omega) (fun G10 eG10 hMG10 => ?_)
                  have hFG10 : Fr nX12_version jX12_version G G10 := Fr.setA hFG8 eG10 (by decide)
                  show WP kX12_version X 188 [some (2, ((1000 : Nat) : Int)), some (0, u), some (0, b2i (0 ≤ u ∧ u < (gS G 1000 12))), some (0, o9), some (0, k8)] [] G10
                  refine s_aload_n dX12_version_188 rfl (Int.natCast_nonneg _) ?_
                  refine gf_versions rfl dX12_version_189 hMG10 ?_
                  refine s_iload_n dX12_version_192 rfl ?_
                  refine s_iald dX12_version_193 (mg_a_versions hMG10) (by omega) (by omega) (gsaE eG10) ?_
                  refine s_iconst dX12_version_194 (by decide) ?_
                  refine s_isub dX12_version_195 (by omega) ?_
                  exact s_iret hR dX12_version_196 rfl (hQ _ G10 hMG10 (⟨hFG10, (have hfz : Fr [a_typeOf, a_valueType, a_valueBy, a_valueFlags, a_versions] [25] G G10 := (Fr.setA (Fr.call (ns := [a_typeOf, a_valueType, a_valueBy, a_valueFlags, a_versions]) (js := [25]) Fr.rf ir8 (by decide) (by decide)) eG10 (by decide)); have hlz : Fr [a_typeOf, a_valueType, a_valueBy, a_valueFlags] [25] G G8 := ir8; have hvz : ∀ j : Nat, gS G8 a_versions j = gS G a_versions j := fun j => hlz.atA (by decide) (by decide); have u1 : ∀ j : Nat, gS G10 a_versions j = if j = (u).toNat then (gS G a_versions (u).toNat) + 1 else gS G a_versions j := fun j => (by rw [g_upd eG10, hvz, hvz]); have e12 : (gS G10 1000 12) = (gS G 1000 12) := hfz.atF (by decide) (by decide); have hUz : UV G10 := iU8.vp (u := u) (by rw [hlz.atF (j := 12) (by decide) (by decide)]; exact hu9) (by rw [hvz]; omega) (fun j => by rw [g_upd eG10, hvz]) ((Fr.setA Fr.rf eG10 (by decide) : Fr [a_versions] [] G8 G10).agr (by decide) (by decide) (by decide)); have hZz : UZ G10 := hUZ.vp hu9 e12 u1; ⟨(by rw [gsnE eG10 (by decide)]; exact it8), (fun q => absurd hn9 q), (fun _ => ⟨(by have z1 := u1 (u).toNat; rw [if_pos rfl] at z1; omega), u1, hZz, TH.vp hTH hHM hUV hUz hZz hu9 u1 (hfz.agr (by decide) (by decide) (by decide))⟩), hUz⟩)⟩))
                · -- 91 to 94
                  have hr8 := iU8.2.2.2.2 o9 k8 (by omega) (by omega) (by omega) (by omega)
                  refine s_aload_n dX12_version_94 rfl (Int.natCast_nonneg _) ?_
                  refine gf_valueType rfl dX12_version_95 hMG8 ?_
                  refine s_bipush dX12_version_98 rfl (by decide) ?_
                  refine s_iload_n dX12_version_100 rfl ?_
                  refine s_iconst dX12_version_101 (by decide) ?_
                  refine s_iadd dX12_version_102 (by omega) ?_
                  refine s_imul dX12_version_103 (by omega) ?_
                  refine s_iload dX12_version_104 rfl ?_
                  refine s_iadd dX12_version_106 (by omega) ?_
                  refine s_aload_n dX12_version_107 rfl (Int.natCast_nonneg _) ?_
                  refine gf_valueType rfl dX12_version_108 hMG8 ?_
                  refine s_bipush dX12_version_111 rfl (by decide) ?_
                  refine s_iload_n dX12_version_113 rfl ?_
                  refine s_imul dX12_version_114 (by omega) ?_
                  refine s_iload dX12_version_115 rfl ?_
                  refine s_iadd dX12_version_117 (by omega) ?_
                  refine s_iald dX12_version_118 (mg_a_valueType hMG8) (by omega) (by omega) rfl ?_
                  refine r_iast dX12_version_119 hMG8 (mg_a_valueType hMG8) (by decide) (by omega) (by omega) (fun G11 eG11 hMG11 => ?_)
                  have hFG11 : Fr nX12_version jX12_version G G11 := Fr.setA hFG8 eG11 (by decide)
                  show WP kX12_version X 120 [some (2, ((1000 : Nat) : Int)), some (0, u), some (0, b2i (0 ≤ u ∧ u < (gS G 1000 12))), some (0, o9), some (0, k8)] [] G11
                  refine s_aload_n dX12_version_120 rfl (Int.natCast_nonneg _) ?_
                  refine gf_valueBy rfl dX12_version_121 hMG11 ?_
                  refine s_bipush dX12_version_124 rfl (by decide) ?_
                  refine s_iload_n dX12_version_126 rfl ?_
                  refine s_iconst dX12_version_127 (by decide) ?_
                  refine s_iadd dX12_version_128 (by omega) ?_
                  refine s_imul dX12_version_129 (by omega) ?_
                  refine s_iload dX12_version_130 rfl ?_
                  refine s_iadd dX12_version_132 (by omega) ?_
                  refine s_aload_n dX12_version_133 rfl (Int.natCast_nonneg _) ?_
                  refine gf_valueBy rfl dX12_version_134 hMG11 ?_
                  refine s_bipush dX12_version_137 rfl (by decide) ?_
                  refine s_iload_n dX12_version_139 rfl ?_
                  refine s_imul dX12_version_140 (by omega) ?_
                  refine s_iload dX12_version_141 rfl ?_
                  refine s_iadd dX12_version_143 (by omega) ?_
                  refine s_iald dX12_version_144 (mg_a_valueBy hMG11) (by omega) (by omega) (gsnE eG11 (by decide)) ?_
                  refine r_iast dX12_version_145 hMG11 (mg_a_valueBy hMG11) (by decide) (by omega) (by omega) (fun G12 eG12 hMG12 => ?_)
                  have hFG12 : Fr nX12_version jX12_version G G12 := Fr.setA hFG11 eG12 (by decide)
                  show WP kX12_version X 146 [some (2, ((1000 : Nat) : Int)), some (0, u), some (0, b2i (0 ≤ u ∧ u < (gS G 1000 12))), some (0, o9), some (0, k8)] [] G12
                  refine s_aload_n dX12_version_146 rfl (Int.natCast_nonneg _) ?_
                  refine gf_valueFlags rfl dX12_version_147 hMG12 ?_
                  refine s_bipush dX12_version_150 rfl (by decide) ?_
                  refine s_iload_n dX12_version_152 rfl ?_
                  refine s_iconst dX12_version_153 (by decide) ?_
                  refine s_iadd dX12_version_154 (by omega) ?_
                  refine s_imul dX12_version_155 (by omega) ?_
                  refine s_iload dX12_version_156 rfl ?_
                  refine s_iadd dX12_version_158 (by omega) ?_
                  refine s_aload_n dX12_version_159 rfl (Int.natCast_nonneg _) ?_
                  refine gf_valueFlags rfl dX12_version_160 hMG12 ?_
                  refine s_bipush dX12_version_163 rfl (by decide) ?_
                  refine s_iload_n dX12_version_165 rfl ?_
                  refine s_imul dX12_version_166 (by omega) ?_
                  refine s_iload dX12_version_167 rfl ?_
                  refine s_iadd dX12_version_169 (by omega) ?_
                  refine s_iald dX12_version_170 (mg_a_valueFlags hMG12) (by omega) (by omega) (Eq.trans (gsnE eG12 (by decide)) (gsnE eG11 (by decide))) ?_
                  refine r_iast dX12_version_171 hMG12 (mg_a_valueFlags hMG12) (by decide) (by omega) (by omega) (fun G13 eG13 hMG13 => ?_)
                  have hFG13 : Fr nX12_version jX12_version G G13 := Fr.setA hFG12 eG13 (by decide)
                  show WP kX12_version X 172 [some (2, ((1000 : Nat) : Int)), some (0, u), some (0, b2i (0 ≤ u ∧ u < (gS G 1000 12))), some (0, o9), some (0, k8)] [] G13
                  refine s_iinc dX12_version_172 (v := k8) rfl (by omega) (by decide) (lv' := [some (2, ((1000 : Nat) : Int)), some (0, u), some (0, b2i (0 ≤ u ∧ u < (gS G 1000 12))), some (0, o9), some (0, k8 + 1)]) rfl ?_
                  refine s_goto (tgt := 87) dX12_version_175 (by decide) ?_
                  exact ih8 (k8 + 1) G13 hMG13 hFG13 (⟨(by omega), (by exact Fr.call ir8 (Fr.setA (Fr.setA (Fr.setA (Fr.rf) eG11 (by decide)) eG12 (by decide)) eG13 (by decide) : Fr [a_valueType, a_valueBy, a_valueFlags] [] G8 G13) (by decide) (by decide)), (by exact UV.sw (i := ((10 * (o9 + 1)) + k8).toNat) (t := gS G8 a_valueType (((10 * o9) + k8).toNat)) (e := gS G8 a_valueBy (((10 * o9) + k8).toNat)) (f := gS G8 a_valueFlags (((10 * o9) + k8).toNat)) iU8 hr8.1 hr8.2 (fun j => by rw [gsnE eG13 (by decide), gsnE eG12 (by decide), g_upd eG11]) (fun j => by rw [gsnE eG13 (by decide), g_upd eG12, gsnE eG11 (by decide)]) (fun j => by rw [g_upd eG13, gsnE eG12 (by decide), gsnE eG11 (by decide)]) ((Fr.setA (Fr.setA (Fr.setA (Fr.rf) eG11 (by decide)) eG12 (by decide)) eG13 (by decide) : Fr [a_valueType, a_valueBy, a_valueFlags] [] G8 G13).agr (by decide) (by decide) (by decide))), (by rw [(Fr.setA (Fr.setA (Fr.setA (Fr.rf) eG11 (by decide)) eG12 (by decide)) eG13 (by decide) : Fr [a_valueType, a_valueBy, a_valueFlags] [] G8 G13).atF (j := 25) (by decide) (by decide)]; exact it8)⟩) (by omega)
            exact L8 _ 0 G6 hMG6 hFG6 (⟨(by omega), (by exact Fr.call Fr.rf ir6 (by decide) (by decide)), (by exact iU6), (by exact it6)⟩) (Nat.lt_succ_self _)
          · -- 49 to 52
            have hr6 := iU6.2.2.2.1 o9 k6 (by omega) (by omega) (by omega) (by omega)
            refine s_aload_n dX12_version_52 rfl (Int.natCast_nonneg _) ?_
            refine gf_typeOf rfl dX12_version_53 hMG6 ?_
            refine s_bipush dX12_version_56 rfl (by decide) ?_
            refine s_iload_n dX12_version_58 rfl ?_
            refine s_iconst dX12_version_59 (by decide) ?_
            refine s_iadd dX12_version_60 (by omega) ?_
            refine s_imul dX12_version_61 (by omega) ?_
            refine s_iload dX12_version_62 rfl ?_
            refine s_iadd dX12_version_64 (by omega) ?_
            refine s_aload_n dX12_version_65 rfl (Int.natCast_nonneg _) ?_
            refine gf_typeOf rfl dX12_version_66 hMG6 ?_
            refine s_bipush dX12_version_69 rfl (by decide) ?_
            refine s_iload_n dX12_version_71 rfl ?_
            refine s_imul dX12_version_72 (by omega) ?_
            refine s_iload dX12_version_73 rfl ?_
            refine s_iadd dX12_version_75 (by omega) ?_
            refine s_iald dX12_version_76 (mg_a_typeOf hMG6) (by omega) (by omega) rfl ?_
            refine r_iast dX12_version_77 hMG6 (mg_a_typeOf hMG6) (by decide) (by omega) (by omega) (fun G14 eG14 hMG14 => ?_)
            have hFG14 : Fr nX12_version jX12_version G G14 := Fr.setA hFG6 eG14 (by decide)
            show WP kX12_version X 78 [some (2, ((1000 : Nat) : Int)), some (0, u), some (0, b2i (0 ≤ u ∧ u < (gS G 1000 12))), some (0, o9), some (0, k6)] [] G14
            refine s_iinc dX12_version_78 (v := k6) rfl (by omega) (by decide) (lv' := [some (2, ((1000 : Nat) : Int)), some (0, u), some (0, b2i (0 ≤ u ∧ u < (gS G 1000 12))), some (0, o9), some (0, k6 + 1)]) rfl ?_
            refine s_goto (tgt := 45) dX12_version_81 (by decide) ?_
            exact ih6 (k6 + 1) G14 hMG14 hFG14 (⟨(by omega), (by exact Fr.call ir6 (Fr.setA (Fr.rf) eG14 (by decide) : Fr [a_typeOf] [] G6 G14) (by decide) (by decide)), (by exact iU6.st (by have z9 := hr6; omega) (fun j => by rw [g_upd eG14]) ((Fr.setA (Fr.rf) eG14 (by decide) : Fr [a_typeOf] [] G6 G14).agr (by decide) (by decide) (by decide))), (by rw [(Fr.setA (Fr.rf) eG14 (by decide) : Fr [a_typeOf] [] G6 G14).atF (j := 25) (by decide) (by decide)]; exact it6)⟩) (by omega)
      exact L6 _ 0 G3 hMG3 hFG3 (⟨(by omega), (by exact Fr.call Fr.rf (Fr.setF (Fr.rf) eG3 (by decide) : Fr [] [25] G G3) (by decide) (by decide)), (by exact hUV.agr ((Fr.setF (Fr.rf) eG3 (by decide) : Fr [] [25] G G3).agr (by decide) (by decide) (by decide))), (by exact ((gsaE eG3)).trans ht9)⟩) (Nat.lt_succ_self _)
    · -- 31 to 34
      have hr0 := goes_0 hpG3 (by omega)
      have ht9 : (if (b2i (0 ≤ u ∧ u < (gS G 1000 12))) = 0 then 1 else if z1 = 0 then 2 else if 1 = 0 then 3 else 0) = (if ¬ (0 ≤ u ∧ u < (gS G 1000 12)) then (1 : Int) else if ¬ (gS G a_versions (u).toNat) < 5 then 2 else 0) := by (repeat' split) <;> omega
      have hn9 : ¬ (if ¬ (0 ≤ u ∧ u < (gS G 1000 12)) then (1 : Int) else if ¬ (gS G a_versions (u).toNat) < 5 then 2 else 0) = 0 := by rw [← ht9]; (repeat' split) <;> omega
      refine s_iconst dX12_version_34 (by decide) ?_
      exact s_iret hR dX12_version_35 rfl (hQ _ G3 hMG3 (⟨hFG3, ⟨((gsaE eG3)).trans ht9, fun _ => ⟨rfl, (Fr.setF Fr.rf eG3 (by decide) : Fr [] [25] G G3)⟩, (fun q => absurd q hn9), hUV.agr ((Fr.setF Fr.rf eG3 (by decide) : Fr [] [25] G G3).agr (by decide) (by decide) (by decide))⟩⟩))
  refine s_if_eqB (tgt := 26) dX12_version_9 (by decide) (fun c15 => ?_) (fun c15 => ?_)
  · -- 9 to 26
    refine s_iconst dX12_version_26 (by decide) ?_
    exact J2 0 (Or.inl ⟨c15, rfl⟩)
  · -- 9 to 12
    refine s_aload_n dX12_version_12 rfl (Int.natCast_nonneg _) ?_
    have hv8 := hUV.2.1 u (by omega) (by omega)
    refine gf_versions rfl dX12_version_13 hM ?_
    refine s_iload_n dX12_version_16 rfl ?_
    refine s_iald dX12_version_17 (mg_a_versions hM) (by omega) (by omega) rfl ?_
    refine s_iconst dX12_version_18 (by decide) ?_
    refine s_icmp_ge (tgt := 26) dX12_version_19 (by decide) (fun c16 => ?_) (fun c16 => ?_)
    · -- 19 to 26
      refine s_iconst dX12_version_26 (by decide) ?_
      exact J2 0 (Or.inr (Or.inl ⟨c15, c16, rfl⟩))
    · -- 19 to 22
      refine s_iconst dX12_version_22 (by decide) ?_
      refine s_goto (tgt := 27) dX12_version_23 (by decide) ?_
      exact J2 1 (Or.inr (Or.inr (⟨c15, c16, rfl⟩)))
