abbrev nX12_typeFor : List Nat := [a_fKind, a_fA, a_fB, a_fSize, a_fNext, a_fHead, a_fMark, a_todo, a_phase, a_found]
abbrev jX12_typeFor : List Nat := [26]
def TX12_typeFor : TR := fun as G Qr => ∃ (s e : Int), as = [(2, ((1000 : Nat) : Int)), (0, s), (0, e)] ∧ MG G ∧ (FU G) ∧ ((gS G 1000 26) + 29 < 150000) ∧ (EX G) ∧ (0 ≤ s ∧ s < 43) ∧ (0 ≤ e ∧ e < (gS G 1000 6)) ∧ (∀ k : Int, 0 ≤ k → k < 10 → -1 ≤ (gS G a_sValue (10 * s + k).toNat) ∧ (gS G a_sValue (10 * s + k).toNat) < (gS G 1000 26)) ∧ ∀ (r : Int) (G' : LG), MG G' → (Fr nX12_typeFor jX12_typeFor G G' ∧ (FU G' ∧ FX G G' ∧ (gS G' 1000 26) ≤ (gS G 1000 26) + 29 ∧ (-2 ≤ r ∧ r < (gS G' 1000 26)))) → Qr (.inl (some (0, r))) G'
set_option maxHeartbeats 4000000 in
set_option maxRecDepth 100000 in
theorem gX12_typeFor : Good kX12_typeFor yX12_typeFor 2 TX12_typeFor := by
  refine good_of (by decide) rfl rfl (fun as G Qr h => ?_) (fun X as G Qr hcf hR hT oa => ?_)
  · obtain ⟨s, e, rfl, -⟩ := h; exact Nat.le_of_ble_eq_true rfl
  obtain ⟨s, e, rfl, hM, hFU, hc, hEX, hs, he, hrow, hQ⟩ := hT
  show WP kX12_typeFor X 0 [some (2, ((1000 : Nat) : Int)), some (0, s), some (0, e), none, none, none, none, none] [] G
  have hr_s : inR s := okv_R (oa _ (by simp))
  have hr_e : inR e := okv_R (oa _ (by simp))
  have hf9 := hFU.f
  have hexx := hEX.1
  refine s_iconst dX12_typeFor_0 (by decide) ?_
  refine s_istore_n dX12_typeFor_1 (by decide) (lv' := [some (2, ((1000 : Nat) : Int)), some (0, s), some (0, e), some (0, 1), none, none, none, none]) rfl ?_
  refine s_iconst dX12_typeFor_2 (by decide) ?_
  refine s_istore dX12_typeFor_3 (by decide) (lv' := [some (2, ((1000 : Nat) : Int)), some (0, s), some (0, e), some (0, 1), some (0, 0), none, none, none]) rfl ?_
  refine s_aload_n dX12_typeFor_5 rfl (Int.natCast_nonneg _) ?_
  refine gf_todo rfl dX12_typeFor_6 hM ?_
  refine s_iconst dX12_typeFor_9 (by decide) ?_
  refine s_iload_n dX12_typeFor_10 rfl ?_
  refine r_iast dX12_typeFor_11 hM (mg_a_todo hM) (by decide) (by omega) (by omega) (fun G1 eG1 hMG1 => ?_)
  have hFG1 : Fr nX12_typeFor jX12_typeFor G G1 := Fr.setA Fr.rf eG1 (by decide)
  show WP kX12_typeFor X 12 [some (2, ((1000 : Nat) : Int)), some (0, s), some (0, e), some (0, 1), some (0, 0), none, none, none] [] G1
  refine s_aload_n dX12_typeFor_12 rfl (Int.natCast_nonneg _) ?_
  refine gf_phase rfl dX12_typeFor_13 hMG1 ?_
  refine s_iconst dX12_typeFor_16 (by decide) ?_
  refine s_iconst dX12_typeFor_17 (by decide) ?_
  refine r_iast dX12_typeFor_18 hMG1 (mg_a_phase hMG1) (by decide) (by omega) (by omega) (fun G2 eG2 hMG2 => ?_)
  have hFG2 : Fr nX12_typeFor jX12_typeFor G G2 := Fr.setA hFG1 eG2 (by decide)
  show WP kX12_typeFor X 19 [some (2, ((1000 : Nat) : Int)), some (0, s), some (0, e), some (0, 1), some (0, 0), none, none, none] [] G2
  have L3 : ∀ (n3 : Nat) (y3 : Int) (m3 : Int) (z3 : Int) (G3 : LG), MG G3 → Fr nX12_typeFor jX12_typeFor G G3 → ((FU G3) ∧ (FX G G3) ∧ (2 * (gS G3 1000 26) + z3 ≤ 2 * (gS G 1000 26) + 59) ∧ (TFE G3 G y3 m3 z3) ∧ (∀ j : Int, 0 ≤ j → j < m3 → 0 ≤ (gS G3 a_found (j).toNat) ∧ (gS G3 a_found (j).toNat) < (gS G3 1000 26)) ∧ (z3 ≤ 59)) → (z3).toNat < n3 → WP kX12_typeFor X 19 [some (2, ((1000 : Nat) : Int)), some (0, s), some (0, e), some (0, y3), some (0, m3), none, none, none] [] G3 := by
    intro n3
    induction n3 with
    | zero => intro y3 m3 z3 G3 hMG3 hFG3 hi3 hm3; exact absurd hm3 (Nat.not_lt_zero _)
    | succ n3 ih3 =>
      intro y3 m3 z3 G3 hMG3 hFG3 hi3 hm3
      have hj3 := hi3
      obtain ⟨iF3, iX3, ib3, ik3, if3, il3⟩ := hi3
      have hle3 := ik3.le hEX
      have hff3 := iF3.f
      refine s_iload_n dX12_typeFor_19 rfl ?_
      refine s_if_le (tgt := 224) dX12_typeFor_20 (by decide) (fun c4 => ?_) (fun c4 => ?_)
      · -- 20 to 224
        refine s_aload_n dX12_typeFor_224 rfl (Int.natCast_nonneg _) ?_
        refine gf_found rfl dX12_typeFor_225 hMG3 ?_
        refine s_iconst dX12_typeFor_228 (by decide) ?_
        refine s_iald dX12_typeFor_229 (mg_a_found hMG3) (by omega) (by omega) rfl ?_
        exact s_iret hR dX12_typeFor_230 rfl (hQ _ G3 hMG3 (⟨hFG3, ⟨iF3, iX3, by omega, by have z9 := if3 0 (by omega) (by have z8 := ik3; obtain ⟨z1, z2, z3, z4, z5, z6⟩ := z8; have z7 : y3 = 0 := (by omega); rw [z7] at z6; have : ssum (tfg G3 G) (0 : Int).toNat = 0 := rfl; omega); omega⟩⟩))
      · -- 20 to 23
        refine s_iinc dX12_typeFor_23 (v := y3) rfl (by omega) (by decide) (lv' := [some (2, ((1000 : Nat) : Int)), some (0, s), some (0, e), some (0, y3 + (-1)), some (0, m3), none, none, none]) rfl ?_
        refine s_aload_n dX12_typeFor_26 rfl (Int.natCast_nonneg _) ?_
        refine gf_todo rfl dX12_typeFor_27 hMG3 ?_
        refine s_iload_n dX12_typeFor_30 rfl ?_
        refine s_iald dX12_typeFor_31 (mg_a_todo hMG3) (by omega) (by omega) rfl ?_
        refine s_istore dX12_typeFor_32 (by decide) (lv' := [some (2, ((1000 : Nat) : Int)), some (0, s), some (0, e), some (0, y3 + (-1)), some (0, m3), some (0, gS G3 a_todo ((y3 + (-1)).toNat)), none, none]) rfl ?_
        have hyx3 : (gS G3 a_todo (y3 - 1).toNat) = (gS G3 a_todo ((y3 + (-1)).toNat)) := by rw [show y3 - 1 = y3 + -1 by omega]
        have hph3 : (gS G3 a_phase (y3 - 1).toNat) = (gS G3 a_phase (y3 + -1).toNat) := by rw [show y3 - 1 = y3 + -1 by omega]
        have hat3 := ik3.at (by omega)
        rw [hyx3, hph3] at hat3
        have hek3 : (gS G3 a_eKind ((gS G3 a_todo ((y3 + (-1)).toNat))).toNat) = (gS G a_eKind ((gS G3 a_todo ((y3 + (-1)).toNat))).toNat) := hFG3.atA (by decide) (by decide)
        have hef3 : (gS G3 a_eFirst ((gS G3 a_todo ((y3 + (-1)).toNat))).toNat) = (gS G a_eFirst ((gS G3 a_todo ((y3 + (-1)).toNat))).toNat) := hFG3.atA (by decide) (by decide)
        have hent3 := hEX.2 _ hat3.1.1 hat3.1.2
        have hent03 := hent3.1
        have hent13 := hent3.2.1
        clear hent3
        refine s_aload_n dX12_typeFor_34 rfl (Int.natCast_nonneg _) ?_
        refine gf_eKind rfl dX12_typeFor_35 hMG3 ?_
        refine s_iload dX12_typeFor_38 rfl ?_
        refine s_iald dX12_typeFor_40 (mg_a_eKind hMG3) (by omega) (by omega) rfl ?_
        refine cs_X12_309 rfl gX12_partsOf dX12_typeFor_41 (by rw [hcf]; decide) (as := [(0, gS G3 a_eKind ((gS G3 a_todo ((y3 + (-1)).toNat)).toNat))]) rfl (Nat.le_of_ble_eq_true rfl) ⟨gS G3 a_eKind ((gS G3 a_todo ((y3 + (-1)).toNat)).toNat), rfl, ?_⟩
        show WP kX12_typeFor X 44 [some (2, ((1000 : Nat) : Int)), some (0, s), some (0, e), some (0, y3 + (-1)), some (0, m3), some (0, gS G3 a_todo ((y3 + (-1)).toNat)), none, none] [(0, (if (gS G3 a_eKind ((gS G3 a_todo ((y3 + (-1)).toNat)).toNat)) < 2 then 0 else if (gS G3 a_eKind ((gS G3 a_todo ((y3 + (-1)).toNat)).toNat)) = 4 ∨ (gS G3 a_eKind ((gS G3 a_todo ((y3 + (-1)).toNat)).toNat)) = 5 then 1 else if (gS G3 a_eKind ((gS G3 a_todo ((y3 + (-1)).toNat)).toNat)) = 6 then 3 else 2))] G3
        refine s_istore dX12_typeFor_44 (by decide) (lv' := [some (2, ((1000 : Nat) : Int)), some (0, s), some (0, e), some (0, y3 + (-1)), some (0, m3), some (0, gS G3 a_todo ((y3 + (-1)).toNat)), some (0, (if (gS G3 a_eKind ((gS G3 a_todo ((y3 + (-1)).toNat)).toNat)) < 2 then 0 else if (gS G3 a_eKind ((gS G3 a_todo ((y3 + (-1)).toNat)).toNat)) = 4 ∨ (gS G3 a_eKind ((gS G3 a_todo ((y3 + (-1)).toNat)).toNat)) = 5 then 1 else if (gS G3 a_eKind ((gS G3 a_todo ((y3 + (-1)).toNat)).toNat)) = 6 then 3 else 2)), none]) rfl ?_
        generalize hP3 : (((if (gS G3 a_eKind ((gS G3 a_todo ((y3 + (-1)).toNat)).toNat)) < 2 then 0 else if (gS G3 a_eKind ((gS G3 a_todo ((y3 + (-1)).toNat)).toNat)) = 4 ∨ (gS G3 a_eKind ((gS G3 a_todo ((y3 + (-1)).toNat)).toNat)) = 5 then 1 else if (gS G3 a_eKind ((gS G3 a_todo ((y3 + (-1)).toNat)).toNat)) = 6 then 3 else 2)) : Int) = P3
        have em3 : P3 = eMany G (gS G3 a_todo ((y3 + (-1)).toNat)) := by rw [← hP3, ← eMany_fr hFG3 (by decide)]; rfl
        clear hP3
        have hmr3 := eMany_rng G (gS G3 a_todo ((y3 + (-1)).toNat))
        have hmk3 : eMany G (gS G3 a_todo ((y3 + (-1)).toNat)) ≤ 0 → (gS G a_eKind ((gS G3 a_todo ((y3 + (-1)).toNat))).toNat) < 2 := fun q => Classical.byContradiction fun z => by unfold eMany at q; rw [if_neg z] at q; split at q <;> (try split at q) <;> omega
        have hmk23 : 0 < eMany G (gS G3 a_todo ((y3 + (-1)).toNat)) → 2 ≤ (gS G a_eKind ((gS G3 a_todo ((y3 + (-1)).toNat))).toNat) := fun q => Classical.byContradiction fun z => by unfold eMany at q; rw [if_pos (by omega)] at q; omega
        refine s_iload dX12_typeFor_46 rfl ?_
        refine s_if_le (tgt := 144) dX12_typeFor_48 (by decide) (fun c5 => ?_) (fun c5 => ?_)
        · -- 48 to 144
          have hl3 : (gS G3 a_phase (y3 - 1).toNat) = 0 → eMany G (gS G3 a_todo ((y3 + (-1)).toNat)) = 0 := by rw [hph3]; intro q; omega
          have hpop3 := fun (G2 : LG) g1 g2 => TFE.pop (G2 := G2) hEX ik3 (by omega) hyx3 hl3 g1 g2
          have hq13 := (hpop3 G3 (fun _ _ _ => rfl) (fun _ _ _ => rfl)).1
          have hq23 := (hpop3 G3 (fun _ _ _ => rfl) (fun _ _ _ => rfl)).2.le hEX
          have hEXi3 : EX G3 := hEX.agr (hFG3.agr (by decide) (by decide) (by decide))
          have hexp3 : (gS G3 1000 6) = (gS G 1000 6) := hFG3.atF (by decide) (by decide)
          refine s_iload dX12_typeFor_144 rfl ?_
          refine s_iload dX12_typeFor_146 rfl ?_
          refine s_isub dX12_typeFor_148 (by omega) ?_
          refine s_istore dX12_typeFor_149 (by decide) (lv' := [some (2, ((1000 : Nat) : Int)), some (0, s), some (0, e), some (0, y3 + (-1)), some (0, m3 - P3), some (0, gS G3 a_todo ((y3 + (-1)).toNat)), some (0, P3), none]) rfl ?_
          refine s_iload dX12_typeFor_151 rfl ?_
          refine s_if_le (tgt := 167) dX12_typeFor_153 (by decide) (fun c6 => ?_) (fun c6 => ?_)
          · -- 153 to 167
            refine s_aload_n dX12_typeFor_167 rfl (Int.natCast_nonneg _) ?_
            refine gf_eKind rfl dX12_typeFor_168 hMG3 ?_
            refine s_iload dX12_typeFor_171 rfl ?_
            refine s_iald dX12_typeFor_173 (mg_a_eKind hMG3) (by omega) (by omega) rfl ?_
            refine s_if_ne (tgt := 187) dX12_typeFor_174 (by decide) (fun c7 => ?_) (fun c7 => ?_)
            · -- 174 to 187
              refine s_aload_n dX12_typeFor_187 rfl (Int.natCast_nonneg _) ?_
              refine s_iload_n dX12_typeFor_188 rfl ?_
              refine s_aload_n dX12_typeFor_189 rfl (Int.natCast_nonneg _) ?_
              refine gf_eFirst rfl dX12_typeFor_190 hMG3 ?_
              refine s_iload dX12_typeFor_193 rfl ?_
              refine s_iald dX12_typeFor_195 (mg_a_eFirst hMG3) (by omega) (by omega) rfl ?_
              refine cv_X12_388 rfl gX12_isOf dX12_typeFor_196 hMG3 (by rw [hcf]; decide) (as := [(0, s), (0, gS G3 a_eFirst ((gS G3 a_todo ((y3 + (-1)).toNat)).toNat))]) rfl (Nat.le_of_ble_eq_true rfl) ⟨s, gS G3 a_eFirst ((gS G3 a_todo ((y3 + (-1)).toNat)).toNat), rfl, hMG3, (by first | assumption | omega), (by first | assumption | omega), ?_⟩
              show WP kX12_typeFor X 199 [some (2, ((1000 : Nat) : Int)), some (0, s), some (0, e), some (0, y3 + (-1)), some (0, m3 - P3), some (0, gS G3 a_todo ((y3 + (-1)).toNat)), some (0, P3), none] [(0, (gS G3 a_sValue (10 * s + (gS G3 a_eFirst ((gS G3 a_todo ((y3 + (-1)).toNat)).toNat))).toNat))] G3
              have hsv3 := hrow ((gS G3 a_eFirst (gS G3 a_todo ((y3 + (-1)).toNat)).toNat)) (by omega) (by omega)
              have hsw3 : (gS G3 a_sValue (10 * s + (gS G3 a_eFirst (gS G3 a_todo ((y3 + (-1)).toNat)).toNat)).toNat) = (gS G a_sValue (10 * s + (gS G3 a_eFirst (gS G3 a_todo ((y3 + (-1)).toNat)).toNat)).toNat) := hFG3.atA (by decide) (by decide)
              have hsx3 := iX3.1
              refine s_istore dX12_typeFor_199 (by decide) (lv' := [some (2, ((1000 : Nat) : Int)), some (0, s), some (0, e), some (0, y3 + (-1)), some (0, m3 - P3), some (0, gS G3 a_todo ((y3 + (-1)).toNat)), some (0, P3), some (0, (gS G3 a_sValue (10 * s + (gS G3 a_eFirst ((gS G3 a_todo ((y3 + (-1)).toNat)).toNat))).toNat))]) rfl ?_
              refine s_iload dX12_typeFor_201 rfl ?_
              refine s_if_ge (tgt := 209) dX12_typeFor_203 (by decide) (fun c8 => ?_) (fun c8 => ?_)
              · -- 203 to 209
                refine s_aload_n dX12_typeFor_209 rfl (Int.natCast_nonneg _) ?_
                refine gf_found rfl dX12_typeFor_210 hMG3 ?_
                refine s_iload dX12_typeFor_213 rfl ?_
                refine s_iload dX12_typeFor_215 rfl ?_
                refine r_iast dX12_typeFor_217 hMG3 (mg_a_found hMG3) (by decide) (by omega) (by omega) (fun G9 eG9 hMG9 => ?_)
                have hFG9 : Fr nX12_typeFor jX12_typeFor G G9 := Fr.setA hFG3 eG9 (by decide)
                show WP kX12_typeFor X 218 [some (2, ((1000 : Nat) : Int)), some (0, s), some (0, e), some (0, y3 + (-1)), some (0, m3 - P3), some (0, gS G3 a_todo ((y3 + (-1)).toNat)), some (0, P3), some (0, (gS G3 a_sValue (10 * s + (gS G3 a_eFirst ((gS G3 a_todo ((y3 + (-1)).toNat)).toNat))).toNat))] [] G9
                refine s_iinc dX12_typeFor_218 (v := m3 - P3) rfl (by omega) (by decide) (lv' := [some (2, ((1000 : Nat) : Int)), some (0, s), some (0, e), some (0, y3 + (-1)), some (0, (m3 - P3) + 1), some (0, gS G3 a_todo ((y3 + (-1)).toNat)), some (0, P3), some (0, (gS G3 a_sValue (10 * s + (gS G3 a_eFirst ((gS G3 a_todo ((y3 + (-1)).toNat)).toNat))).toNat))]) rfl ?_
                refine s_goto (tgt := 19) dX12_typeFor_221 (by decide) ?_
                refine s_mask [true, true, true, true, true, false, false, false] (lv' := [some (2, ((1000 : Nat) : Int)), some (0, s), some (0, e), some (0, y3 + (-1)), some (0, (m3 - P3) + 1), none, none, none]) rfl ?_
                exact ih3 (y3 + (-1)) ((m3 - P3) + 1) (z3 - 4) G9 hMG9 hFG9 (⟨(by exact (iF3).agr ((Fr.setA (Fr.rf) eG9 (by decide) : Fr [a_found] [] G3 G9).agr (by decide) (by decide) (by decide)) (by rw [(Fr.setA (Fr.rf) eG9 (by decide) : Fr [a_found] [] G3 G9).atF (j := 42) (by decide) (by decide)]; exact Int.le_refl _)), (by exact iX3.trans (FX.agf (Fr.setA (Fr.rf) eG9 (by decide) : Fr [a_found] [] G3 G9) (by decide) (by decide) (by decide))), (by rw [(Fr.setA (Fr.rf) eG9 (by decide) : Fr [a_found] [] G3 G9).atF (j := 26) (by decide) (by decide)]; omega), (by have z9 := (hpop3 G9 (fun j _ _ => (Fr.setA (Fr.rf) eG9 (by decide) : Fr [a_found] [] G3 G9).atA (by decide) (by decide)) (fun j _ _ => (Fr.setA (Fr.rf) eG9 (by decide) : Fr [a_found] [] G3 G9).atA (by decide) (by decide))).2; rw [em3, show y3 + -1 = y3 - 1 by omega]; exact z9), (by intro j j0 j1; by_cases hj : j = m3 - P3; (subst hj; rw [g_at (g_upd eG9), (Fr.setA (Fr.rf) eG9 (by decide) : Fr [a_found] [] G3 G9).atF (j := 26) (by decide) (by decide)]; omega); (rw [g_ne (g_upd eG9) (by omega), (Fr.setA (Fr.rf) eG9 (by decide) : Fr [a_found] [] G3 G9).atF (j := 26) (by decide) (by decide)]; have z9 := if3 j j0 (by omega); omega)), (by omega)⟩) (by omega)
              · -- 203 to 206
                refine s_iload dX12_typeFor_206 rfl ?_
                exact s_iret hR dX12_typeFor_208 rfl (hQ _ G3 hMG3 (⟨hFG3, ⟨iF3, iX3, by have z9 := hsx3; omega, by omega⟩⟩))
            · -- 174 to 177
              refine s_aload_n dX12_typeFor_177 rfl (Int.natCast_nonneg _) ?_
              refine s_iconst dX12_typeFor_178 (by decide) ?_
              refine s_iconst dX12_typeFor_179 (by decide) ?_
              refine s_iconst dX12_typeFor_180 (by decide) ?_
              refine cv_X12_338 rfl gX12_full dX12_typeFor_181 hMG3 (by rw [hcf]; decide) (as := [(0, 0), (0, 0), (0, 0)]) rfl (Nat.le_of_ble_eq_true rfl) ⟨0, 0, 0, rfl, hMG3, (by first | assumption | omega), (by first | assumption | omega), (by first | assumption | omega), (by first | assumption | omega), (by first | assumption | omega), (by first | assumption | omega), fun r11 G10 hMG10 hpG10 => ?_⟩
              obtain ⟨hfG10, hpG10⟩ := hpG10
              have hFG10 : Fr nX12_typeFor jX12_typeFor G G10 := Fr.call hFG3 hfG10 (by decide) (by decide)
              show WP kX12_typeFor X 184 [some (2, ((1000 : Nat) : Int)), some (0, s), some (0, e), some (0, y3 + (-1)), some (0, m3 - P3), some (0, gS G3 a_todo ((y3 + (-1)).toNat)), some (0, P3), none] [(0, r11)] G10
              refine s_goto (tgt := 199) dX12_typeFor_184 (by decide) ?_
              have hsx3 := hpG10.2.2.1.1
              have hsy3 := hpG10.2.1
              refine s_istore dX12_typeFor_199 (by decide) (lv' := [some (2, ((1000 : Nat) : Int)), some (0, s), some (0, e), some (0, y3 + (-1)), some (0, m3 - P3), some (0, gS G3 a_todo ((y3 + (-1)).toNat)), some (0, P3), some (0, r11)]) rfl ?_
              refine s_iload dX12_typeFor_201 rfl ?_
              refine s_if_ge (tgt := 209) dX12_typeFor_203 (by decide) (fun c12 => ?_) (fun c12 => ?_)
              · -- 203 to 209
                refine s_aload_n dX12_typeFor_209 rfl (Int.natCast_nonneg _) ?_
                refine gf_found rfl dX12_typeFor_210 hMG10 ?_
                refine s_iload dX12_typeFor_213 rfl ?_
                refine s_iload dX12_typeFor_215 rfl ?_
                refine r_iast dX12_typeFor_217 hMG10 (mg_a_found hMG10) (by decide) (by omega) (by omega) (fun G13 eG13 hMG13 => ?_)
                have hFG13 : Fr nX12_typeFor jX12_typeFor G G13 := Fr.setA hFG10 eG13 (by decide)
                show WP kX12_typeFor X 218 [some (2, ((1000 : Nat) : Int)), some (0, s), some (0, e), some (0, y3 + (-1)), some (0, m3 - P3), some (0, gS G3 a_todo ((y3 + (-1)).toNat)), some (0, P3), some (0, r11)] [] G13
                refine s_iinc dX12_typeFor_218 (v := m3 - P3) rfl (by omega) (by decide) (lv' := [some (2, ((1000 : Nat) : Int)), some (0, s), some (0, e), some (0, y3 + (-1)), some (0, (m3 - P3) + 1), some (0, gS G3 a_todo ((y3 + (-1)).toNat)), some (0, P3), some (0, r11)]) rfl ?_
                refine s_goto (tgt := 19) dX12_typeFor_221 (by decide) ?_
                refine s_mask [true, true, true, true, true, false, false, false] (lv' := [some (2, ((1000 : Nat) : Int)), some (0, s), some (0, e), some (0, y3 + (-1)), some (0, (m3 - P3) + 1), none, none, none]) rfl ?_
                exact ih3 (y3 + (-1)) ((m3 - P3) + 1) (z3 - 4) G13 hMG13 hFG13 (⟨(by exact (hpG10.1).agr ((Fr.setA (Fr.rf) eG13 (by decide) : Fr [a_found] [] G10 G13).agr (by decide) (by decide) (by decide)) (by rw [(Fr.setA (Fr.rf) eG13 (by decide) : Fr [a_found] [] G10 G13).atF (j := 42) (by decide) (by decide)]; exact Int.le_refl _)), (by exact (iX3.trans hpG10.2.2.1).trans (FX.agf (Fr.setA (Fr.rf) eG13 (by decide) : Fr [a_found] [] G10 G13) (by decide) (by decide) (by decide))), (by rw [(Fr.setA (Fr.rf) eG13 (by decide) : Fr [a_found] [] G10 G13).atF (j := 26) (by decide) (by decide)]; omega), (by have z9 := (hpop3 G13 (fun j _ _ => (Fr.setA (Fr.call (Fr.rf) hfG10 (by decide) (by decide)) eG13 (by decide) : Fr [a_fKind, a_fA, a_fB, a_fSize, a_fNext, a_fHead, a_fMark, a_found] [26] G3 G13).atA (by decide) (by decide)) (fun j _ _ => (Fr.setA (Fr.call (Fr.rf) hfG10 (by decide) (by decide)) eG13 (by decide) : Fr [a_fKind, a_fA, a_fB, a_fSize, a_fNext, a_fHead, a_fMark, a_found] [26] G3 G13).atA (by decide) (by decide))).2; rw [em3, show y3 + -1 = y3 - 1 by omega]; exact z9), (by intro j j0 j1; by_cases hj : j = m3 - P3; (subst hj; rw [g_at (g_upd eG13), (Fr.setA (Fr.rf) eG13 (by decide) : Fr [a_found] [] G10 G13).atF (j := 26) (by decide) (by decide)]; omega); (rw [g_ne (g_upd eG13) (by omega), (Fr.call (Fr.rf) hfG10 (by decide) (by decide) : Fr [a_fKind, a_fA, a_fB, a_fSize, a_fNext, a_fHead, a_fMark] [26] G3 G10).atA (n := a_found) (by decide) (by decide), (Fr.setA (Fr.rf) eG13 (by decide) : Fr [a_found] [] G10 G13).atF (j := 26) (by decide) (by decide)]; have z9 := if3 j j0 (by omega); omega)), (by omega)⟩) (by omega)
              · -- 203 to 206
                refine s_iload dX12_typeFor_206 rfl ?_
                exact s_iret hR dX12_typeFor_208 rfl (hQ _ G10 hMG10 (⟨hFG10, ⟨hpG10.1, iX3.trans hpG10.2.2.1, by have z9 := hsx3; omega, by omega⟩⟩))
          · -- 153 to 156
            refine s_aload_n dX12_typeFor_156 rfl (Int.natCast_nonneg _) ?_
            refine s_iload dX12_typeFor_157 rfl ?_
            refine s_iload dX12_typeFor_159 rfl ?_
            refine cv_X12_385 rfl gX12_joins dX12_typeFor_161 hMG3 (by rw [hcf]; decide) (as := [(0, gS G3 a_todo ((y3 + (-1)).toNat)), (0, m3 - P3)]) rfl (Nat.le_of_ble_eq_true rfl) ⟨gS G3 a_todo ((y3 + (-1)).toNat), m3 - P3, rfl, hMG3, (by exact iF3), (by omega), (by exact hEXi3), (by omega), (by omega), (by omega), (by intro j j0 j1; rw [eMany_fr hFG3 (by decide)] at j1; exact if3 _ (by omega) (by omega)), fun r15 G14 hMG14 hpG14 => ?_⟩
            obtain ⟨hfG14, hpG14⟩ := hpG14
            have hFG14 : Fr nX12_typeFor jX12_typeFor G G14 := Fr.call hFG3 hfG14 (by decide) (by decide)
            show WP kX12_typeFor X 164 [some (2, ((1000 : Nat) : Int)), some (0, s), some (0, e), some (0, y3 + (-1)), some (0, m3 - P3), some (0, gS G3 a_todo ((y3 + (-1)).toNat)), some (0, P3), none] [(0, r15)] G14
            refine s_goto (tgt := 199) dX12_typeFor_164 (by decide) ?_
            have hsx3 := hpG14.2.1.1
            have hsy3 := hpG14.2.2.1
            have hsz3 := hpG14.2.2.2
            refine s_istore dX12_typeFor_199 (by decide) (lv' := [some (2, ((1000 : Nat) : Int)), some (0, s), some (0, e), some (0, y3 + (-1)), some (0, m3 - P3), some (0, gS G3 a_todo ((y3 + (-1)).toNat)), some (0, P3), some (0, r15)]) rfl ?_
            refine s_iload dX12_typeFor_201 rfl ?_
            refine s_if_ge (tgt := 209) dX12_typeFor_203 (by decide) (fun c16 => ?_) (fun c16 => ?_)
            · -- 203 to 209
              refine s_aload_n dX12_typeFor_209 rfl (Int.natCast_nonneg _) ?_
              refine gf_found rfl dX12_typeFor_210 hMG14 ?_
              refine s_iload dX12_typeFor_213 rfl ?_
              refine s_iload dX12_typeFor_215 rfl ?_
              refine r_iast dX12_typeFor_217 hMG14 (mg_a_found hMG14) (by decide) (by omega) (by omega) (fun G17 eG17 hMG17 => ?_)
              have hFG17 : Fr nX12_typeFor jX12_typeFor G G17 := Fr.setA hFG14 eG17 (by decide)
              show WP kX12_typeFor X 218 [some (2, ((1000 : Nat) : Int)), some (0, s), some (0, e), some (0, y3 + (-1)), some (0, m3 - P3), some (0, gS G3 a_todo ((y3 + (-1)).toNat)), some (0, P3), some (0, r15)] [] G17
              refine s_iinc dX12_typeFor_218 (v := m3 - P3) rfl (by omega) (by decide) (lv' := [some (2, ((1000 : Nat) : Int)), some (0, s), some (0, e), some (0, y3 + (-1)), some (0, (m3 - P3) + 1), some (0, gS G3 a_todo ((y3 + (-1)).toNat)), some (0, P3), some (0, r15)]) rfl ?_
              refine s_goto (tgt := 19) dX12_typeFor_221 (by decide) ?_
              refine s_mask [true, true, true, true, true, false, false, false] (lv' := [some (2, ((1000 : Nat) : Int)), some (0, s), some (0, e), some (0, y3 + (-1)), some (0, (m3 - P3) + 1), none, none, none]) rfl ?_
              exact ih3 (y3 + (-1)) ((m3 - P3) + 1) (z3 - 4) G17 hMG17 hFG17 (⟨(by exact (hpG14.1).agr ((Fr.setA (Fr.rf) eG17 (by decide) : Fr [a_found] [] G14 G17).agr (by decide) (by decide) (by decide)) (by rw [(Fr.setA (Fr.rf) eG17 (by decide) : Fr [a_found] [] G14 G17).atF (j := 42) (by decide) (by decide)]; exact Int.le_refl _)), (by exact (iX3.trans hpG14.2.1).trans (FX.agf (Fr.setA (Fr.rf) eG17 (by decide) : Fr [a_found] [] G14 G17) (by decide) (by decide) (by decide))), (by rw [(Fr.setA (Fr.rf) eG17 (by decide) : Fr [a_found] [] G14 G17).atF (j := 26) (by decide) (by decide)]; omega), (by have z9 := (hpop3 G17 (fun j _ _ => (Fr.setA (Fr.call (Fr.rf) hfG14 (by decide) (by decide)) eG17 (by decide) : Fr [a_fKind, a_fA, a_fB, a_fSize, a_fNext, a_fHead, a_fMark, a_found] [26] G3 G17).atA (by decide) (by decide)) (fun j _ _ => (Fr.setA (Fr.call (Fr.rf) hfG14 (by decide) (by decide)) eG17 (by decide) : Fr [a_fKind, a_fA, a_fB, a_fSize, a_fNext, a_fHead, a_fMark, a_found] [26] G3 G17).atA (by decide) (by decide))).2; rw [em3, show y3 + -1 = y3 - 1 by omega]; exact z9), (by intro j j0 j1; by_cases hj : j = m3 - P3; (subst hj; rw [g_at (g_upd eG17), (Fr.setA (Fr.rf) eG17 (by decide) : Fr [a_found] [] G14 G17).atF (j := 26) (by decide) (by decide)]; omega); (rw [g_ne (g_upd eG17) (by omega), (Fr.call (Fr.rf) hfG14 (by decide) (by decide) : Fr [a_fKind, a_fA, a_fB, a_fSize, a_fNext, a_fHead, a_fMark] [26] G3 G14).atA (n := a_found) (by decide) (by decide), (Fr.setA (Fr.rf) eG17 (by decide) : Fr [a_found] [] G14 G17).atF (j := 26) (by decide) (by decide)]; have z9 := if3 j j0 (by omega); omega)), (by omega)⟩) (by omega)
            · -- 203 to 206
              refine s_iload dX12_typeFor_206 rfl ?_
              exact s_iret hR dX12_typeFor_208 rfl (hQ _ G14 hMG14 (⟨hFG14, ⟨hpG14.1, iX3.trans hpG14.2.1, by have z9 := hsx3; omega, by omega⟩⟩))
        · -- 48 to 51
          refine s_aload_n dX12_typeFor_51 rfl (Int.natCast_nonneg _) ?_
          refine gf_phase rfl dX12_typeFor_52 hMG3 ?_
          refine s_iload_n dX12_typeFor_55 rfl ?_
          refine s_iald dX12_typeFor_56 (mg_a_phase hMG3) (by omega) (by omega) rfl ?_
          refine s_if_ne (tgt := 144) dX12_typeFor_57 (by decide) (fun c18 => ?_) (fun c18 => ?_)
          · -- 57 to 144
            have hl3 : (gS G3 a_phase (y3 - 1).toNat) = 0 → eMany G (gS G3 a_todo ((y3 + (-1)).toNat)) = 0 := by rw [hph3]; intro q; omega
            have hpop3 := fun (G2 : LG) g1 g2 => TFE.pop (G2 := G2) hEX ik3 (by omega) hyx3 hl3 g1 g2
            have hq13 := (hpop3 G3 (fun _ _ _ => rfl) (fun _ _ _ => rfl)).1
            have hq23 := (hpop3 G3 (fun _ _ _ => rfl) (fun _ _ _ => rfl)).2.le hEX
            have hEXi3 : EX G3 := hEX.agr (hFG3.agr (by decide) (by decide) (by decide))
            have hexp3 : (gS G3 1000 6) = (gS G 1000 6) := hFG3.atF (by decide) (by decide)
            refine s_iload dX12_typeFor_144 rfl ?_
            refine s_iload dX12_typeFor_146 rfl ?_
            refine s_isub dX12_typeFor_148 (by omega) ?_
            refine s_istore dX12_typeFor_149 (by decide) (lv' := [some (2, ((1000 : Nat) : Int)), some (0, s), some (0, e), some (0, y3 + (-1)), some (0, m3 - P3), some (0, gS G3 a_todo ((y3 + (-1)).toNat)), some (0, P3), none]) rfl ?_
            refine s_iload dX12_typeFor_151 rfl ?_
            refine s_if_le (tgt := 167) dX12_typeFor_153 (by decide) (fun c19 => ?_) (fun c19 => ?_)
            · -- 153 to 167
              refine s_aload_n dX12_typeFor_167 rfl (Int.natCast_nonneg _) ?_
              refine gf_eKind rfl dX12_typeFor_168 hMG3 ?_
              refine s_iload dX12_typeFor_171 rfl ?_
              refine s_iald dX12_typeFor_173 (mg_a_eKind hMG3) (by omega) (by omega) rfl ?_
              refine s_if_ne (tgt := 187) dX12_typeFor_174 (by decide) (fun c20 => ?_) (fun c20 => ?_)
              · -- 174 to 187
                refine s_aload_n dX12_typeFor_187 rfl (Int.natCast_nonneg _) ?_
                refine s_iload_n dX12_typeFor_188 rfl ?_
                refine s_aload_n dX12_typeFor_189 rfl (Int.natCast_nonneg _) ?_
                refine gf_eFirst rfl dX12_typeFor_190 hMG3 ?_
                refine s_iload dX12_typeFor_193 rfl ?_
                refine s_iald dX12_typeFor_195 (mg_a_eFirst hMG3) (by omega) (by omega) rfl ?_
                refine cv_X12_388 rfl gX12_isOf dX12_typeFor_196 hMG3 (by rw [hcf]; decide) (as := [(0, s), (0, gS G3 a_eFirst ((gS G3 a_todo ((y3 + (-1)).toNat)).toNat))]) rfl (Nat.le_of_ble_eq_true rfl) ⟨s, gS G3 a_eFirst ((gS G3 a_todo ((y3 + (-1)).toNat)).toNat), rfl, hMG3, (by first | assumption | omega), (by first | assumption | omega), ?_⟩
                show WP kX12_typeFor X 199 [some (2, ((1000 : Nat) : Int)), some (0, s), some (0, e), some (0, y3 + (-1)), some (0, m3 - P3), some (0, gS G3 a_todo ((y3 + (-1)).toNat)), some (0, P3), none] [(0, (gS G3 a_sValue (10 * s + (gS G3 a_eFirst ((gS G3 a_todo ((y3 + (-1)).toNat)).toNat))).toNat))] G3
                have hsv3 := hrow ((gS G3 a_eFirst (gS G3 a_todo ((y3 + (-1)).toNat)).toNat)) (by omega) (by omega)
                have hsw3 : (gS G3 a_sValue (10 * s + (gS G3 a_eFirst (gS G3 a_todo ((y3 + (-1)).toNat)).toNat)).toNat) = (gS G a_sValue (10 * s + (gS G3 a_eFirst (gS G3 a_todo ((y3 + (-1)).toNat)).toNat)).toNat) := hFG3.atA (by decide) (by decide)
                have hsx3 := iX3.1
                refine s_istore dX12_typeFor_199 (by decide) (lv' := [some (2, ((1000 : Nat) : Int)), some (0, s), some (0, e), some (0, y3 + (-1)), some (0, m3 - P3), some (0, gS G3 a_todo ((y3 + (-1)).toNat)), some (0, P3), some (0, (gS G3 a_sValue (10 * s + (gS G3 a_eFirst ((gS G3 a_todo ((y3 + (-1)).toNat)).toNat))).toNat))]) rfl ?_
                refine s_iload dX12_typeFor_201 rfl ?_
                refine s_if_ge (tgt := 209) dX12_typeFor_203 (by decide) (fun c21 => ?_) (fun c21 => ?_)
                · -- 203 to 209
                  refine s_aload_n dX12_typeFor_209 rfl (Int.natCast_nonneg _) ?_
                  refine gf_found rfl dX12_typeFor_210 hMG3 ?_
                  refine s_iload dX12_typeFor_213 rfl ?_
                  refine s_iload dX12_typeFor_215 rfl ?_
                  refine r_iast dX12_typeFor_217 hMG3 (mg_a_found hMG3) (by decide) (by omega) (by omega) (fun G22 eG22 hMG22 => ?_)
                  have hFG22 : Fr nX12_typeFor jX12_typeFor G G22 := Fr.setA hFG3 eG22 (by decide)
                  show WP kX12_typeFor X 218 [some (2, ((1000 : Nat) : Int)), some (0, s), some (0, e), some (0, y3 + (-1)), some (0, m3 - P3), some (0, gS G3 a_todo ((y3 + (-1)).toNat)), some (0, P3), some (0, (gS G3 a_sValue (10 * s + (gS G3 a_eFirst ((gS G3 a_todo ((y3 + (-1)).toNat)).toNat))).toNat))] [] G22
                  refine s_iinc dX12_typeFor_218 (v := m3 - P3) rfl (by omega) (by decide) (lv' := [some (2, ((1000 : Nat) : Int)), some (0, s), some (0, e), some (0, y3 + (-1)), some (0, (m3 - P3) + 1), some (0, gS G3 a_todo ((y3 + (-1)).toNat)), some (0, P3), some (0, (gS G3 a_sValue (10 * s + (gS G3 a_eFirst ((gS G3 a_todo ((y3 + (-1)).toNat)).toNat))).toNat))]) rfl ?_
                  refine s_goto (tgt := 19) dX12_typeFor_221 (by decide) ?_
                  refine s_mask [true, true, true, true, true, false, false, false] (lv' := [some (2, ((1000 : Nat) : Int)), some (0, s), some (0, e), some (0, y3 + (-1)), some (0, (m3 - P3) + 1), none, none, none]) rfl ?_
                  exact ih3 (y3 + (-1)) ((m3 - P3) + 1) (z3 - 4) G22 hMG22 hFG22 (⟨(by exact (iF3).agr ((Fr.setA (Fr.rf) eG22 (by decide) : Fr [a_found] [] G3 G22).agr (by decide) (by decide) (by decide)) (by rw [(Fr.setA (Fr.rf) eG22 (by decide) : Fr [a_found] [] G3 G22).atF (j := 42) (by decide) (by decide)]; exact Int.le_refl _)), (by exact iX3.trans (FX.agf (Fr.setA (Fr.rf) eG22 (by decide) : Fr [a_found] [] G3 G22) (by decide) (by decide) (by decide))), (by rw [(Fr.setA (Fr.rf) eG22 (by decide) : Fr [a_found] [] G3 G22).atF (j := 26) (by decide) (by decide)]; omega), (by have z9 := (hpop3 G22 (fun j _ _ => (Fr.setA (Fr.rf) eG22 (by decide) : Fr [a_found] [] G3 G22).atA (by decide) (by decide)) (fun j _ _ => (Fr.setA (Fr.rf) eG22 (by decide) : Fr [a_found] [] G3 G22).atA (by decide) (by decide))).2; rw [em3, show y3 + -1 = y3 - 1 by omega]; exact z9), (by intro j j0 j1; by_cases hj : j = m3 - P3; (subst hj; rw [g_at (g_upd eG22), (Fr.setA (Fr.rf) eG22 (by decide) : Fr [a_found] [] G3 G22).atF (j := 26) (by decide) (by decide)]; omega); (rw [g_ne (g_upd eG22) (by omega), (Fr.setA (Fr.rf) eG22 (by decide) : Fr [a_found] [] G3 G22).atF (j := 26) (by decide) (by decide)]; have z9 := if3 j j0 (by omega); omega)), (by omega)⟩) (by omega)
                · -- 203 to 206
                  refine s_iload dX12_typeFor_206 rfl ?_
                  exact s_iret hR dX12_typeFor_208 rfl (hQ _ G3 hMG3 (⟨hFG3, ⟨iF3, iX3, by have z9 := hsx3; omega, by omega⟩⟩))
              · -- 174 to 177
                refine s_aload_n dX12_typeFor_177 rfl (Int.natCast_nonneg _) ?_
                refine s_iconst dX12_typeFor_178 (by decide) ?_
                refine s_iconst dX12_typeFor_179 (by decide) ?_
                refine s_iconst dX12_typeFor_180 (by decide) ?_
                refine cv_X12_338 rfl gX12_full dX12_typeFor_181 hMG3 (by rw [hcf]; decide) (as := [(0, 0), (0, 0), (0, 0)]) rfl (Nat.le_of_ble_eq_true rfl) ⟨0, 0, 0, rfl, hMG3, (by first | assumption | omega), (by first | assumption | omega), (by first | assumption | omega), (by first | assumption | omega), (by first | assumption | omega), (by first | assumption | omega), fun r24 G23 hMG23 hpG23 => ?_⟩
                obtain ⟨hfG23, hpG23⟩ := hpG23
                have hFG23 : Fr nX12_typeFor jX12_typeFor G G23 := Fr.call hFG3 hfG23 (by decide) (by decide)
                show WP kX12_typeFor X 184 [some (2, ((1000 : Nat) : Int)), some (0, s), some (0, e), some (0, y3 + (-1)), some (0, m3 - P3), some (0, gS G3 a_todo ((y3 + (-1)).toNat)), some (0, P3), none] [(0, r24)] G23
                refine s_goto (tgt := 199) dX12_typeFor_184 (by decide) ?_
                have hsx3 := hpG23.2.2.1.1
                have hsy3 := hpG23.2.1
                refine s_istore dX12_typeFor_199 (by decide) (lv' := [some (2, ((1000 : Nat) : Int)), some (0, s), some (0, e), some (0, y3 + (-1)), some (0, m3 - P3), some (0, gS G3 a_todo ((y3 + (-1)).toNat)), some (0, P3), some (0, r24)]) rfl ?_
                refine s_iload dX12_typeFor_201 rfl ?_
                refine s_if_ge (tgt := 209) dX12_typeFor_203 (by decide) (fun c25 => ?_) (fun c25 => ?_)
                · -- 203 to 209
                  refine s_aload_n dX12_typeFor_209 rfl (Int.natCast_nonneg _) ?_
                  refine gf_found rfl dX12_typeFor_210 hMG23 ?_
                  refine s_iload dX12_typeFor_213 rfl ?_
                  refine s_iload dX12_typeFor_215 rfl ?_
                  refine r_iast dX12_typeFor_217 hMG23 (mg_a_found hMG23) (by decide) (by omega) (by omega) (fun G26 eG26 hMG26 => ?_)
                  have hFG26 : Fr nX12_typeFor jX12_typeFor G G26 := Fr.setA hFG23 eG26 (by decide)
                  show WP kX12_typeFor X 218 [some (2, ((1000 : Nat) : Int)), some (0, s), some (0, e), some (0, y3 + (-1)), some (0, m3 - P3), some (0, gS G3 a_todo ((y3 + (-1)).toNat)), some (0, P3), some (0, r24)] [] G26
                  refine s_iinc dX12_typeFor_218 (v := m3 - P3) rfl (by omega) (by decide) (lv' := [some (2, ((1000 : Nat) : Int)), some (0, s), some (0, e), some (0, y3 + (-1)), some (0, (m3 - P3) + 1), some (0, gS G3 a_todo ((y3 + (-1)).toNat)), some (0, P3), some (0, r24)]) rfl ?_
                  refine s_goto (tgt := 19) dX12_typeFor_221 (by decide) ?_
                  refine s_mask [true, true, true, true, true, false, false, false] (lv' := [some (2, ((1000 : Nat) : Int)), some (0, s), some (0, e), some (0, y3 + (-1)), some (0, (m3 - P3) + 1), none, none, none]) rfl ?_
                  exact ih3 (y3 + (-1)) ((m3 - P3) + 1) (z3 - 4) G26 hMG26 hFG26 (⟨(by exact (hpG23.1).agr ((Fr.setA (Fr.rf) eG26 (by decide) : Fr [a_found] [] G23 G26).agr (by decide) (by decide) (by decide)) (by rw [(Fr.setA (Fr.rf) eG26 (by decide) : Fr [a_found] [] G23 G26).atF (j := 42) (by decide) (by decide)]; exact Int.le_refl _)), (by exact (iX3.trans hpG23.2.2.1).trans (FX.agf (Fr.setA (Fr.rf) eG26 (by decide) : Fr [a_found] [] G23 G26) (by decide) (by decide) (by decide))), (by rw [(Fr.setA (Fr.rf) eG26 (by decide) : Fr [a_found] [] G23 G26).atF (j := 26) (by decide) (by decide)]; omega), (by have z9 := (hpop3 G26 (fun j _ _ => (Fr.setA (Fr.call (Fr.rf) hfG23 (by decide) (by decide)) eG26 (by decide) : Fr [a_fKind, a_fA, a_fB, a_fSize, a_fNext, a_fHead, a_fMark, a_found] [26] G3 G26).atA (by decide) (by decide)) (fun j _ _ => (Fr.setA (Fr.call (Fr.rf) hfG23 (by decide) (by decide)) eG26 (by decide) : Fr [a_fKind, a_fA, a_fB, a_fSize, a_fNext, a_fHead, a_fMark, a_found] [26] G3 G26).atA (by decide) (by decide))).2; rw [em3, show y3 + -1 = y3 - 1 by omega]; exact z9), (by intro j j0 j1; by_cases hj : j = m3 - P3; (subst hj; rw [g_at (g_upd eG26), (Fr.setA (Fr.rf) eG26 (by decide) : Fr [a_found] [] G23 G26).atF (j := 26) (by decide) (by decide)]; omega); (rw [g_ne (g_upd eG26) (by omega), (Fr.call (Fr.rf) hfG23 (by decide) (by decide) : Fr [a_fKind, a_fA, a_fB, a_fSize, a_fNext, a_fHead, a_fMark] [26] G3 G23).atA (n := a_found) (by decide) (by decide), (Fr.setA (Fr.rf) eG26 (by decide) : Fr [a_found] [] G23 G26).atF (j := 26) (by decide) (by decide)]; have z9 := if3 j j0 (by omega); omega)), (by omega)⟩) (by omega)
                · -- 203 to 206
                  refine s_iload dX12_typeFor_206 rfl ?_
                  exact s_iret hR dX12_typeFor_208 rfl (hQ _ G23 hMG23 (⟨hFG23, ⟨hpG23.1, iX3.trans hpG23.2.2.1, by have z9 := hsx3; omega, by omega⟩⟩))
            · -- 153 to 156
              refine s_aload_n dX12_typeFor_156 rfl (Int.natCast_nonneg _) ?_
              refine s_iload dX12_typeFor_157 rfl ?_
              refine s_iload dX12_typeFor_159 rfl ?_
              refine cv_X12_385 rfl gX12_joins dX12_typeFor_161 hMG3 (by rw [hcf]; decide) (as := [(0, gS G3 a_todo ((y3 + (-1)).toNat)), (0, m3 - P3)]) rfl (Nat.le_of_ble_eq_true rfl) ⟨gS G3 a_todo ((y3 + (-1)).toNat), m3 - P3, rfl, hMG3, (by exact iF3), (by omega), (by exact hEXi3), (by omega), (by omega), (by omega), (by intro j j0 j1; rw [eMany_fr hFG3 (by decide)] at j1; exact if3 _ (by omega) (by omega)), fun r28 G27 hMG27 hpG27 => ?_⟩
              obtain ⟨hfG27, hpG27⟩ := hpG27
              have hFG27 : Fr nX12_typeFor jX12_typeFor G G27 := Fr.call hFG3 hfG27 (by decide) (by decide)
              show WP kX12_typeFor X 164 [some (2, ((1000 : Nat) : Int)), some (0, s), some (0, e), some (0, y3 + (-1)), some (0, m3 - P3), some (0, gS G3 a_todo ((y3 + (-1)).toNat)), some (0, P3), none] [(0, r28)] G27
              refine s_goto (tgt := 199) dX12_typeFor_164 (by decide) ?_
              have hsx3 := hpG27.2.1.1
              have hsy3 := hpG27.2.2.1
              have hsz3 := hpG27.2.2.2
              refine s_istore dX12_typeFor_199 (by decide) (lv' := [some (2, ((1000 : Nat) : Int)), some (0, s), some (0, e), some (0, y3 + (-1)), some (0, m3 - P3), some (0, gS G3 a_todo ((y3 + (-1)).toNat)), some (0, P3), some (0, r28)]) rfl ?_
              refine s_iload dX12_typeFor_201 rfl ?_
              refine s_if_ge (tgt := 209) dX12_typeFor_203 (by decide) (fun c29 => ?_) (fun c29 => ?_)
              · -- 203 to 209
                refine s_aload_n dX12_typeFor_209 rfl (Int.natCast_nonneg _) ?_
                refine gf_found rfl dX12_typeFor_210 hMG27 ?_
                refine s_iload dX12_typeFor_213 rfl ?_
                refine s_iload dX12_typeFor_215 rfl ?_
                refine r_iast dX12_typeFor_217 hMG27 (mg_a_found hMG27) (by decide) (by omega) (by omega) (fun G30 eG30 hMG30 => ?_)
                have hFG30 : Fr nX12_typeFor jX12_typeFor G G30 := Fr.setA hFG27 eG30 (by decide)
                show WP kX12_typeFor X 218 [some (2, ((1000 : Nat) : Int)), some (0, s), some (0, e), some (0, y3 + (-1)), some (0, m3 - P3), some (0, gS G3 a_todo ((y3 + (-1)).toNat)), some (0, P3), some (0, r28)] [] G30
                refine s_iinc dX12_typeFor_218 (v := m3 - P3) rfl (by omega) (by decide) (lv' := [some (2, ((1000 : Nat) : Int)), some (0, s), some (0, e), some (0, y3 + (-1)), some (0, (m3 - P3) + 1), some (0, gS G3 a_todo ((y3 + (-1)).toNat)), some (0, P3), some (0, r28)]) rfl ?_
                refine s_goto (tgt := 19) dX12_typeFor_221 (by decide) ?_
                refine s_mask [true, true, true, true, true, false, false, false] (lv' := [some (2, ((1000 : Nat) : Int)), some (0, s), some (0, e), some (0, y3 + (-1)), some (0, (m3 - P3) + 1), none, none, none]) rfl ?_
                exact ih3 (y3 + (-1)) ((m3 - P3) + 1) (z3 - 4) G30 hMG30 hFG30 (⟨(by exact (hpG27.1).agr ((Fr.setA (Fr.rf) eG30 (by decide) : Fr [a_found] [] G27 G30).agr (by decide) (by decide) (by decide)) (by rw [(Fr.setA (Fr.rf) eG30 (by decide) : Fr [a_found] [] G27 G30).atF (j := 42) (by decide) (by decide)]; exact Int.le_refl _)), (by exact (iX3.trans hpG27.2.1).trans (FX.agf (Fr.setA (Fr.rf) eG30 (by decide) : Fr [a_found] [] G27 G30) (by decide) (by decide) (by decide))), (by rw [(Fr.setA (Fr.rf) eG30 (by decide) : Fr [a_found] [] G27 G30).atF (j := 26) (by decide) (by decide)]; omega), (by have z9 := (hpop3 G30 (fun j _ _ => (Fr.setA (Fr.call (Fr.rf) hfG27 (by decide) (by decide)) eG30 (by decide) : Fr [a_fKind, a_fA, a_fB, a_fSize, a_fNext, a_fHead, a_fMark, a_found] [26] G3 G30).atA (by decide) (by decide)) (fun j _ _ => (Fr.setA (Fr.call (Fr.rf) hfG27 (by decide) (by decide)) eG30 (by decide) : Fr [a_fKind, a_fA, a_fB, a_fSize, a_fNext, a_fHead, a_fMark, a_found] [26] G3 G30).atA (by decide) (by decide))).2; rw [em3, show y3 + -1 = y3 - 1 by omega]; exact z9), (by intro j j0 j1; by_cases hj : j = m3 - P3; (subst hj; rw [g_at (g_upd eG30), (Fr.setA (Fr.rf) eG30 (by decide) : Fr [a_found] [] G27 G30).atF (j := 26) (by decide) (by decide)]; omega); (rw [g_ne (g_upd eG30) (by omega), (Fr.call (Fr.rf) hfG27 (by decide) (by decide) : Fr [a_fKind, a_fA, a_fB, a_fSize, a_fNext, a_fHead, a_fMark] [26] G3 G27).atA (n := a_found) (by decide) (by decide), (Fr.setA (Fr.rf) eG30 (by decide) : Fr [a_found] [] G27 G30).atF (j := 26) (by decide) (by decide)]; have z9 := if3 j j0 (by omega); omega)), (by omega)⟩) (by omega)
              · -- 203 to 206
                refine s_iload dX12_typeFor_206 rfl ?_
                exact s_iret hR dX12_typeFor_208 rfl (hQ _ G27 hMG27 (⟨hFG27, ⟨hpG27.1, iX3.trans hpG27.2.1, by have z9 := hsx3; omega, by omega⟩⟩))
          · -- 57 to 60
            refine s_aload_n dX12_typeFor_60 rfl (Int.natCast_nonneg _) ?_
            refine gf_phase rfl dX12_typeFor_61 hMG3 ?_
            refine s_iload_n dX12_typeFor_64 rfl ?_
            refine s_iconst dX12_typeFor_65 (by decide) ?_
            refine r_iast dX12_typeFor_66 hMG3 (mg_a_phase hMG3) (by decide) (by omega) (by omega) (fun G31 eG31 hMG31 => ?_)
            have hFG31 : Fr nX12_typeFor jX12_typeFor G G31 := Fr.setA hFG3 eG31 (by decide)
            show WP kX12_typeFor X 67 [some (2, ((1000 : Nat) : Int)), some (0, s), some (0, e), some (0, y3 + (-1)), some (0, m3), some (0, gS G3 a_todo ((y3 + (-1)).toNat)), some (0, P3), none] [] G31
            refine s_iinc dX12_typeFor_67 (v := y3 + (-1)) rfl (by omega) (by decide) (lv' := [some (2, ((1000 : Nat) : Int)), some (0, s), some (0, e), some (0, (y3 + (-1)) + 1), some (0, m3), some (0, gS G3 a_todo ((y3 + (-1)).toNat)), some (0, P3), none]) rfl ?_
            refine s_iload dX12_typeFor_70 rfl ?_
            refine s_iconst dX12_typeFor_72 (by decide) ?_
            refine s_isub dX12_typeFor_73 (by omega) ?_
            refine s_istore dX12_typeFor_74 (by decide) (lv' := [some (2, ((1000 : Nat) : Int)), some (0, s), some (0, e), some (0, (y3 + (-1)) + 1), some (0, m3), some (0, gS G3 a_todo ((y3 + (-1)).toNat)), some (0, P3), some (0, P3 - 1)]) rfl ?_
            have L32 : ∀ (n32 : Nat) (p32 : Int) (k32 : Int) (G32 : LG), MG G32 → Fr nX12_typeFor jX12_typeFor G G32 → ((-1 ≤ k32 ∧ k32 < P3) ∧ (p32 = y3 + (P3 - 1 - k32)) ∧ (Fr [a_todo, a_phase] [] G3 G32) ∧ (∀ j : Int, 0 ≤ j → j < y3 → (gS G32 a_todo (j).toNat) = (gS G3 a_todo (j).toNat)) ∧ (∀ j : Int, 0 ≤ j → j < y3 - 1 → (gS G32 a_phase (j).toNat) = (gS G3 a_phase (j).toNat)) ∧ ((gS G32 a_phase (y3 - 1).toNat) = 1) ∧ (∀ q : Int, 0 ≤ q → q < P3 - 1 - k32 → (gS G32 a_todo (y3 + q).toNat) = ePart G (gS G3 a_todo ((y3 + (-1)).toNat)) (P3 - 1 - q) ∧ (gS G32 a_phase (y3 + q).toNat) = 0)) → (k32 + 1).toNat < n32 → WP kX12_typeFor X 76 [some (2, ((1000 : Nat) : Int)), some (0, s), some (0, e), some (0, p32), some (0, m3), some (0, gS G3 a_todo ((y3 + (-1)).toNat)), some (0, P3), some (0, k32)] [] G32 := by
              intro n32
              induction n32 with
              | zero => intro p32 k32 G32 hMG32 hFG32 hi32 hm32; exact absurd hm32 (Nat.not_lt_zero _)
              | succ n32 ih32 =>
                intro p32 k32 G32 hMG32 hFG32 hi32 hm32
                have hj32 := hi32
                obtain ⟨iq32, ip32, ir32, ia32, ib32, ic32, id32⟩ := hi32
                refine s_iload dX12_typeFor_76 rfl ?_
                refine s_if_lt (tgt := 141) dX12_typeFor_78 (by decide) (fun c33 => ?_) (fun c33 => ?_)
                · -- 78 to 141
                  refine s_goto (tgt := 221) dX12_typeFor_141 (by decide) ?_
                  refine s_goto (tgt := 19) dX12_typeFor_221 (by decide) ?_
                  refine s_mask [true, true, true, true, true, false, false, false] (lv' := [some (2, ((1000 : Nat) : Int)), some (0, s), some (0, e), some (0, p32), some (0, m3), none, none, none]) rfl ?_
                  exact ih3 p32 m3 (z3 - 1) G32 hMG32 hFG32 (⟨(by exact iF3.agr (ir32.agr (by decide) (by decide) (by decide)) (by rw [ir32.atF (j := 42) (by decide) (by decide)]; exact Int.le_refl _)), (by exact iX3.trans (FX.agf ir32 (by decide) (by decide) (by decide))), (by rw [ir32.atF (j := 26) (by decide) (by decide)]; omega), (by have hp9 : p32 = y3 + eMany G (gS G3 a_todo ((y3 + (-1)).toNat)) := (by omega); rw [hp9]; exact ik3.grow hEX (by omega) hyx3 (by rw [hph3]; assumption) (by omega) (fun j j0 j1 => ia32 j j0 j1) (fun j j0 j1 => ib32 j j0 j1) ic32 (fun q q0 q1 => by have z9 := id32 q q0 (by omega); rw [em3] at z9; exact z9)), (by intro j j0 j1; rw [ir32.atA (n := a_found) (by decide) (by decide), ir32.atF (j := 26) (by decide) (by decide)]; exact if3 j j0 j1), (by omega)⟩) (by omega)
                · -- 78 to 81
                  refine s_aload_n dX12_typeFor_81 rfl (Int.natCast_nonneg _) ?_
                  refine gf_todo rfl dX12_typeFor_82 hMG32 ?_
                  refine s_iload_n dX12_typeFor_85 rfl ?_
                  refine s_iload dX12_typeFor_86 rfl ?_
                  have J35 : ∀ z34 : Int, ((¬ k32 = 0) ∧ (¬ k32 = 1) ∧ z34 = gS G32 a_eThird ((gS G3 a_todo ((y3 + (-1)).toNat)).toNat)) ∨ ((¬ k32 = 0) ∧ (k32 = 1) ∧ z34 = gS G32 a_eSecond ((gS G3 a_todo ((y3 + (-1)).toNat)).toNat)) ∨ ((k32 = 0) ∧ z34 = gS G32 a_eFirst ((gS G3 a_todo ((y3 + (-1)).toNat)).toNat)) → WP kX12_typeFor X 124 [some (2, ((1000 : Nat) : Int)), some (0, s), some (0, e), some (0, p32), some (0, m3), some (0, gS G3 a_todo ((y3 + (-1)).toNat)), some (0, P3), some (0, k32)] [(0, z34), (0, p32), (2, ((a_todo : Nat) : Int))] G32 := by
                    intro z34 hz34
                    refine r_iast dX12_typeFor_124 hMG32 (mg_a_todo hMG32) (by decide) (by omega) (by omega) (fun G36 eG36 hMG36 => ?_)
                    have hFG36 : Fr nX12_typeFor jX12_typeFor G G36 := Fr.setA hFG32 eG36 (by decide)
                    show WP kX12_typeFor X 125 [some (2, ((1000 : Nat) : Int)), some (0, s), some (0, e), some (0, p32), some (0, m3), some (0, gS G3 a_todo ((y3 + (-1)).toNat)), some (0, P3), some (0, k32)] [] G36
                    refine s_aload_n dX12_typeFor_125 rfl (Int.natCast_nonneg _) ?_
                    refine gf_phase rfl dX12_typeFor_126 hMG36 ?_
                    refine s_iload_n dX12_typeFor_129 rfl ?_
                    refine s_iconst dX12_typeFor_130 (by decide) ?_
                    refine r_iast dX12_typeFor_131 hMG36 (mg_a_phase hMG36) (by decide) (by omega) (by omega) (fun G37 eG37 hMG37 => ?_)
                    have hFG37 : Fr nX12_typeFor jX12_typeFor G G37 := Fr.setA hFG36 eG37 (by decide)
                    show WP kX12_typeFor X 132 [some (2, ((1000 : Nat) : Int)), some (0, s), some (0, e), some (0, p32), some (0, m3), some (0, gS G3 a_todo ((y3 + (-1)).toNat)), some (0, P3), some (0, k32)] [] G37
                    refine s_iinc dX12_typeFor_132 (v := p32) rfl (by omega) (by decide) (lv' := [some (2, ((1000 : Nat) : Int)), some (0, s), some (0, e), some (0, p32 + 1), some (0, m3), some (0, gS G3 a_todo ((y3 + (-1)).toNat)), some (0, P3), some (0, k32)]) rfl ?_
                    refine s_iinc dX12_typeFor_135 (v := k32) rfl (by omega) (by decide) (lv' := [some (2, ((1000 : Nat) : Int)), some (0, s), some (0, e), some (0, p32 + 1), some (0, m3), some (0, gS G3 a_todo ((y3 + (-1)).toNat)), some (0, P3), some (0, k32 + (-1))]) rfl ?_
                    refine s_goto (tgt := 76) dX12_typeFor_138 (by decide) ?_
                    exact ih32 (p32 + 1) (k32 + (-1)) G37 hMG37 hFG37 (⟨(by omega), (by omega), (by exact Fr.setA (Fr.setA ir32 eG36 (by decide)) eG37 (by decide)), (by intro j j0 j1; rw [gsnE eG37 (by decide), g_ne (g_upd eG36) (by omega)]; exact ia32 j j0 j1), (by intro j j0 j1; rw [g_ne (g_upd eG37) (by omega), gsnE eG36 (by decide)]; exact ib32 j j0 j1), (by rw [g_ne (g_upd eG37) (by omega), gsnE eG36 (by decide)]; exact ic32), (by intro q q0 q1; by_cases hj : q = P3 - 1 - k32; (subst hj; rw [gsnE eG37 (by decide), show y3 + (P3 - 1 - k32) = p32 by omega, g_at (g_upd eG36), g_at (g_upd eG37)]; refine ⟨?_, rfl⟩; rw [show P3 - 1 - (P3 - 1 - k32) = k32 by omega]; unfold ePart; rcases hz34 with ⟨q1, q2, q3⟩ | ⟨q1, q2, q3⟩ | ⟨q1, q2⟩; (rw [if_neg (by omega), if_neg (by omega), ← hFG32.atA (by decide) (by decide)]; exact q3); (rw [if_neg (by omega), if_pos (by omega), ← hFG32.atA (by decide) (by decide)]; exact q3); (rw [if_pos (by omega), ← hFG32.atA (by decide) (by decide)]; exact q2)); (rw [gsnE eG37 (by decide), g_ne (g_upd eG36) (by omega), g_ne (g_upd eG37) (by omega), gsnE eG36 (by decide)]; exact id32 q q0 (by omega)))⟩) (by omega)
                  refine s_if_ne (tgt := 101) dX12_typeFor_88 (by decide) (fun c38 => ?_) (fun c38 => ?_)
                  · -- 88 to 101
                    refine s_iload dX12_typeFor_101 rfl ?_
                    refine s_iconst dX12_typeFor_103 (by decide) ?_
                    refine s_icmp_ne (tgt := 117) dX12_typeFor_104 (by decide) (fun c39 => ?_) (fun c39 => ?_)
                    · -- 104 to 117
                      refine s_aload_n dX12_typeFor_117 rfl (Int.natCast_nonneg _) ?_
                      refine gf_eThird rfl dX12_typeFor_118 hMG32 ?_
                      refine s_iload dX12_typeFor_121 rfl ?_
                      refine s_iald dX12_typeFor_123 (mg_a_eThird hMG32) (by omega) (by omega) rfl ?_
                      exact J35 _ (Or.inl ⟨c38, c39, rfl⟩)
                    · -- 104 to 107
                      refine s_aload_n dX12_typeFor_107 rfl (Int.natCast_nonneg _) ?_
                      refine gf_eSecond rfl dX12_typeFor_108 hMG32 ?_
                      refine s_iload dX12_typeFor_111 rfl ?_
                      refine s_iald dX12_typeFor_113 (mg_a_eSecond hMG32) (by omega) (by omega) rfl ?_
                      refine s_goto (tgt := 124) dX12_typeFor_114 (by decide) ?_
                      exact J35 _ (Or.inr (Or.inl ⟨c38, c39, rfl⟩))
                  · -- 88 to 91
                    refine s_aload_n dX12_typeFor_91 rfl (Int.natCast_nonneg _) ?_
                    refine gf_eFirst rfl dX12_typeFor_92 hMG32 ?_
                    refine s_iload dX12_typeFor_95 rfl ?_
                    refine s_iald dX12_typeFor_97 (mg_a_eFirst hMG32) (by omega) (by omega) rfl ?_
                    refine s_goto (tgt := 124) dX12_typeFor_98 (by decide) ?_
                    exact J35 _ (Or.inr (Or.inr (⟨c38, rfl⟩)))
            exact L32 _ ((y3 + (-1)) + 1) (P3 - 1) G31 hMG31 hFG31 (⟨(by omega), (by omega), (by exact (Fr.setA (Fr.rf) eG31 (by decide) : Fr [a_todo, a_phase] [] G3 G31)), (by intro j j0 j1; exact gsnE eG31 (by decide)), (by intro j j0 j1; exact g_ne (g_upd eG31) (by omega)), (by rw [show y3 - 1 = y3 + -1 by omega]; exact g_at (g_upd eG31)), (by intro q q0 q1; omega)⟩) (Nat.lt_succ_self _)
  exact L3 _ 1 0 59 G2 hMG2 hFG2 (⟨(by exact (hFU).agr ((Fr.setA (Fr.setA (Fr.rf) eG1 (by decide)) eG2 (by decide) : Fr [a_todo, a_phase] [] G G2).agr (by decide) (by decide) (by decide)) (by rw [(Fr.setA (Fr.setA (Fr.rf) eG1 (by decide)) eG2 (by decide) : Fr [a_todo, a_phase] [] G G2).atF (j := 42) (by decide) (by decide)]; exact Int.le_refl _)), (by exact FX.agf (Fr.setA (Fr.setA (Fr.rf) eG1 (by decide)) eG2 (by decide) : Fr [a_todo, a_phase] [] G G2) (by decide) (by decide) (by decide)), (by rw [(Fr.setA (Fr.setA (Fr.rf) eG1 (by decide)) eG2 (by decide) : Fr [a_todo, a_phase] [] G G2).atF (j := 26) (by decide) (by decide)]; omega), (by exact TFE.one hEX he ((Eq.trans (gsnE eG2 (by decide)) (gsaE eG1))) ((gsaE eG2))), (by intro j j0 j1; omega), (by omega)⟩) (Nat.lt_succ_self _)
