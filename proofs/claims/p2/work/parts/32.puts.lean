abbrev nX12_puts : List Nat := [a_fKind, a_fA, a_fB, a_fSize, a_fNext, a_fHead, a_fMark, a_thingKind, a_thingA, a_thingB, a_thingC, a_thingNext, a_thingHead, a_stackOf, a_fMemo]
abbrev jX12_puts : List Nat := [26, 42, 35, 36]
def TX12_puts : TR := fun as G Qr => ∃ (w t : Int) (Hs : List (Int → Int)) (v : Int → Int) (P : Int → Prop), as = [(2, ((1000 : Nat) : Int)), (0, w), (0, t)] ∧ MG G ∧ (FU G) ∧ (TH G Hs) ∧ (v ∈ Hs) ∧ (0 ≤ t ∧ t < (gS G 1000 26)) ∧ (0 ≤ w ∧ w ≤ 2) ∧ ((gS G a_fSize (t).toNat) ≤ 200) ∧ ((gS G 1000 26) + pcost w ((gS G a_fSize (t).toNat)) < 150000) ∧ ((gS G 1000 35) ≤ 2000000000) ∧ (w = 0 → ∀ k : Int, 0 ≤ k → k < 6 → -1 ≤ (gS G a_by (k).toNat) ∧ (gS G a_by (k).toNat) < (gS G 1000 26)) ∧ (w = 2 → ∀ k : Int, 0 ≤ k → k < 6 → 0 ≤ (gS G a_by (k).toNat) → 0 ≤ (gS G a_byStamp (k).toNat) ∧ (gS G a_byStamp (k).toNat) < (gS G 1000 42)) ∧ (w = 1 → okS G P t ∧ mayA G v P) ∧ ∀ (r : Int) (G' : LG), MG G' → (Fr nX12_puts jX12_puts G G' ∧ (FU G' ∧ FX G G' ∧ TH G' Hs ∧ TX G G' ∧ (0 ≤ r ∧ r < (gS G' 1000 26)) ∧ (gS G' 1000 26) ≤ (gS G 1000 26) + pcost w ((gS G a_fSize (t).toNat)) ∧ (gS G' 1000 35) = (gS G 1000 35) + 1 ∧ PS G G' P w t r)) → Qr (.inl (some (0, r))) G'
set_option maxHeartbeats 4000000 in
set_option maxRecDepth 100000 in
theorem gX12_puts : Good kX12_puts yX12_puts 3 TX12_puts := by
  refine good_of (by decide) rfl rfl (fun as G Qr h => ?_) (fun X as G Qr hcf hR hT oa => ?_)
  · obtain ⟨w, t, Hs, v, P, rfl, -⟩ := h; exact Nat.le_of_ble_eq_true rfl
  obtain ⟨w, t, Hs, v, P, rfl, hM, hFU, hTH, hv, ht, hw, hz, hc, hm, h0, h2, h1, hQ⟩ := hT
  show WP kX12_puts X 0 [some (2, ((1000 : Nat) : Int)), some (0, w), some (0, t), none, none, none, none, none, none] [] G
  have hr_w : inR w := okv_R (oa _ (by simp))
  have hr_t : inR t := okv_R (oa _ (by simp))
  have hmk0 := hFU.2.1
  have hf9 := hFU.f
  refine s_aload_n dX12_puts_0 rfl (Int.natCast_nonneg _) ?_
  refine s_dup dX12_puts_1 (by decide) ?_
  refine gf_mark rfl dX12_puts_2 hM rfl ?_
  refine s_iconst dX12_puts_5 (by decide) ?_
  refine s_iadd dX12_puts_6 (by omega) ?_
  refine pf_mark rfl dX12_puts_7 hM (fun G1 eG1 hMG1 => ?_)
  have hFG1 : Fr nX12_puts jX12_puts G G1 := Fr.setF Fr.rf eG1 (by decide)
  refine s_aload_n dX12_puts_10 rfl (Int.natCast_nonneg _) ?_
  refine s_iconst dX12_puts_11 (by decide) ?_
  refine pf_stack rfl dX12_puts_12 hMG1 (fun G2 eG2 hMG2 => ?_)
  have hFG2 : Fr nX12_puts jX12_puts G G2 := Fr.setF hFG1 eG2 (by decide)
  refine s_aload_n dX12_puts_15 rfl (Int.natCast_nonneg _) ?_
  refine gf_stackOf rfl dX12_puts_16 hMG2 ?_
  refine s_iconst dX12_puts_19 (by decide) ?_
  refine s_iload_n dX12_puts_20 rfl ?_
  refine r_iast dX12_puts_21 hMG2 (mg_a_stackOf hMG2) (by decide) (by omega) (by omega) (fun G3 eG3 hMG3 => ?_)
  have hFG3 : Fr nX12_puts jX12_puts G G3 := Fr.setA hFG2 eG3 (by decide)
  show WP kX12_puts X 22 [some (2, ((1000 : Nat) : Int)), some (0, w), some (0, t), none, none, none, none, none, none] [] G3
  refine s_aload_n dX12_puts_22 rfl (Int.natCast_nonneg _) ?_
  refine s_dup dX12_puts_23 (by decide) ?_
  refine gf_stack rfl dX12_puts_24 hMG3 (Eq.trans (gsnE eG3 (by decide)) (gsaE eG2)) ?_
  refine s_iconst dX12_puts_27 (by decide) ?_
  refine s_iadd dX12_puts_28 (by omega) ?_
  refine pf_stack rfl dX12_puts_29 hMG3 (fun G4 eG4 hMG4 => ?_)
  have hFG4 : Fr nX12_puts jX12_puts G G4 := Fr.setF hFG3 eG4 (by decide)
  obtain ⟨hJ0, hX0, hT0, hB0⟩ := puts_init (w := w) (P := P) hFU hTH (Fr.setF (Fr.setA (Fr.setF (Fr.setF Fr.rf eG1 (by decide)) eG2 (by decide)) eG3 (by decide)) eG4 (by decide)) (by rw [(Eq.trans (gsjE eG4 (by decide)) (Eq.trans (gsnE eG3 (by decide)) (Eq.trans (gsjE eG2 (by decide)) (gsaE eG1))))])
  have hFs : FU G4 := hJ0.1
  have e26s : (gS G4 1000 26) = (gS G 1000 26) := by rw [(Eq.trans (gsjE eG4 (by decide)) (Eq.trans (gsnE eG3 (by decide)) (Eq.trans (gsjE eG2 (by decide)) (gsjE eG1 (by decide)))))]
  have h0s : w = 0 → ∀ k : Int, 0 ≤ k → k < 6 → -1 ≤ (gS G4 a_by (k).toNat) ∧ (gS G4 a_by (k).toNat) < (gS G4 1000 26) := fun q k k0 k1 => by rw [hB0.a (n := a_by) (by decide), e26s]; exact h0 q k k0 k1
  have h2s : w = 2 → ∀ k : Int, 0 ≤ k → k < 6 → 0 ≤ (gS G4 a_by (k).toNat) → 0 ≤ (gS G4 a_byStamp (k).toNat) ∧ (gS G4 a_byStamp (k).toNat) < (gS G4 1000 42) := fun q k k0 k1 kb => by have ht := hT0.1; rw [hB0.a (n := a_by) (by decide)] at kb; rw [hB0.a (n := a_byStamp) (by decide)]; have := h2 q k k0 k1 kb; omega
  have h1s : w = 1 → mayA G4 v P := fun q => (h1 q).2.mono hT0 hB0
  have hoks : w = 1 → okS G4 P t := fun q => (h1 q).1.fx hX0 hFU ht.1 ht.2
  have Q : ∀ (x sp : Int) (Gq : LG), MG Gq → Fr nX12_puts jX12_puts G Gq → PJ G4 Gq Hs P w → (0 ≤ sp ∧ sp < 19990) → (gS Gq 1000 36) = sp + 1 → (gS Gq a_stackOf (sp).toNat) = x → (0 ≤ x ∧ x < (gS G4 1000 26)) → (gS Gq 1000 26) < 150000 → ((gS Gq a_fMark (x).toNat) = (gS G4 1000 35) ∨ ¬ (gS G4 a_fKind (x).toNat) = 3 ∨ ((gS Gq a_fMark ((gS G4 a_fA (x).toNat)).toNat) = (gS G4 1000 35) ∧ (gS Gq a_fMark ((gS G4 a_fB (x).toNat)).toNat) = (gS G4 1000 35))) → (w = 1 → okS G4 P x) → (∀ G2 : LG, MG G2 → Fr nX12_puts jX12_puts G G2 → PK G4 Gq G2 Hs P w x sp (if w = 0 ∧ ¬ (gS G4 a_fKind (x).toNat) = 3 then 0 else 1) → WP kX12_puts X 32 [some (2, ((1000 : Nat) : Int)), some (0, w), some (0, t), none, none, none, none, none, none] [] G2) → WP kX12_puts X 32 [some (2, ((1000 : Nat) : Int)), some (0, w), some (0, t), none, none, none, none, none, none] [] Gq := by
    intro x sp Gq hMGq hFGq hJ hsp hstk hst hxN hc hrd hok hk
    have hN := hJ.2.1.1
    have hmk := hJ.2.2.2.2.1
    obtain ⟨hFq, hTq, hxq, h0q, h2q, h1q⟩ := hJ.pre (v := v) hFs h0s h2s h1s hxN hok
    have hxs := hJ.2.1.2 x hxN.1 hxN.2
    refine s_aload_n dX12_puts_32 rfl (Int.natCast_nonneg _) ?_
    refine gf_stack rfl dX12_puts_33 hMGq rfl ?_
    refine s_if_le (tgt := 247) dX12_puts_36 (by decide) (fun c5 => ?_) (fun c5 => ?_)
    · -- 36 to 247
      exfalso; omega
    · -- 36 to 39
      refine s_aload_n dX12_puts_39 rfl (Int.natCast_nonneg _) ?_
      refine gf_stackOf rfl dX12_puts_40 hMGq ?_
      refine s_aload_n dX12_puts_43 rfl (Int.natCast_nonneg _) ?_
      refine gf_stack rfl dX12_puts_44 hMGq rfl ?_
      refine s_iconst dX12_puts_47 (by decide) ?_
      refine s_isub dX12_puts_48 (by omega) ?_
      refine s_iald (v := x) dX12_puts_49 (mg_a_stackOf hMGq) (by omega) (by omega) (by rw [show (gS Gq 1000 36) - 1 = sp by omega]; exact hst) ?_
      refine s_istore_n dX12_puts_50 (by decide) (lv' := [some (2, ((1000 : Nat) : Int)), some (0, w), some (0, t), some (0, x), none, none, none, none, none]) rfl ?_
      refine s_aload_n dX12_puts_51 rfl (Int.natCast_nonneg _) ?_
      refine gf_fMark rfl dX12_puts_52 hMGq ?_
      refine s_iload_n dX12_puts_55 rfl ?_
      refine s_iald dX12_puts_56 (mg_a_fMark hMGq) (by omega) (by omega) rfl ?_
      refine s_aload_n dX12_puts_57 rfl (Int.natCast_nonneg _) ?_
      refine gf_mark rfl dX12_puts_58 hMGq rfl ?_
      refine s_icmp_ne (tgt := 77) dX12_puts_61 (by decide) (fun c6 => ?_) (fun c6 => ?_)
      · -- 61 to 77
        refine s_aload_n dX12_puts_77 rfl (Int.natCast_nonneg _) ?_
        refine s_iload_n dX12_puts_78 rfl ?_
        refine s_iload_n dX12_puts_79 rfl ?_
        refine cv_X12_357 rfl gX12_putsOne dX12_puts_80 hMGq (by rw [hcf]; decide) (as := [(0, w), (0, x)]) rfl (Nat.le_of_ble_eq_true rfl) ⟨w, x, Hs, v, P, rfl, hMGq, (by exact hFq), (by exact hTq), (by exact hv), (by exact hxq), (by exact hw), (by exact hc), (by exact h0q), (by exact h2q), (by exact h1q), fun r8 G7 hMG7 hpG7 => ?_⟩
        obtain ⟨hfG7, hpG7⟩ := hpG7
        have hFG7 : Fr nX12_puts jX12_puts G G7 := Fr.call hFGq hfG7 (by decide) (by decide)
        show WP kX12_puts X 83 [some (2, ((1000 : Nat) : Int)), some (0, w), some (0, t), some (0, x), none, none, none, none, none] [(0, r8)] G7
        have hPO := hpG7
        have hfP := hfG7
        have hxp := hPO.2.1.2 x hxq.1 hxq.2
        have hmk2 : (gS G7 1000 35) = (gS Gq 1000 35) := hfG7.atF (by decide) (by decide)
        have hfl := hPO.2.1.1
        refine s_istore dX12_puts_83 (by decide) (lv' := [some (2, ((1000 : Nat) : Int)), some (0, w), some (0, t), some (0, x), some (0, r8), none, none, none, none]) rfl ?_
        refine s_aload_n dX12_puts_85 rfl (Int.natCast_nonneg _) ?_
        refine gf_fA rfl dX12_puts_86 hMG7 ?_
        refine s_iload_n dX12_puts_89 rfl ?_
        refine s_iald dX12_puts_90 (mg_a_fA hMG7) (by omega) (by omega) rfl ?_
        refine s_istore dX12_puts_91 (by decide) (lv' := [some (2, ((1000 : Nat) : Int)), some (0, w), some (0, t), some (0, x), some (0, r8), some (0, gS G7 a_fA ((x).toNat)), none, none, none]) rfl ?_
        refine s_aload_n dX12_puts_93 rfl (Int.natCast_nonneg _) ?_
        refine gf_fB rfl dX12_puts_94 hMG7 ?_
        refine s_iload_n dX12_puts_97 rfl ?_
        refine s_iald dX12_puts_98 (mg_a_fB hMG7) (by omega) (by omega) rfl ?_
        refine s_istore dX12_puts_99 (by decide) (lv' := [some (2, ((1000 : Nat) : Int)), some (0, w), some (0, t), some (0, x), some (0, r8), some (0, gS G7 a_fA ((x).toNat)), some (0, gS G7 a_fB ((x).toNat)), none, none]) rfl ?_
        by_cases hone : r8 = -1
        · -- case
          have hk3 := hPO.2.2.2.2.2.2.2.1 hone
          have hab := hFs.pr hxN.1 hxN.2 (by omega)
          have hsa : (gS G7 a_fA ((x).toNat)) = (gS G4 a_fA (x).toNat) := hxp.2.1.trans hxs.2.1
          have hsb : (gS G7 a_fB ((x).toNat)) = (gS G4 a_fB (x).toNat) := hxp.2.2.1.trans hxs.2.2.1
          have hma := hPO.2.2.2.2.1 (gS G7 a_fA ((x).toNat)) (by omega) (by omega)
          have hmb := hPO.2.2.2.2.1 (gS G7 a_fB ((x).toNat)) (by omega) (by omega)
          have hra : (gS Gq a_fMark ((gS G7 a_fA ((x).toNat))).toNat) = (gS Gq a_fMark ((gS G4 a_fA (x).toNat)).toNat) := by rw [hsa]
          have hrb : (gS Gq a_fMark ((gS G7 a_fB ((x).toNat))).toNat) = (gS Gq a_fMark ((gS G4 a_fB (x).toNat)).toNat) := by rw [hsb]
          refine s_iload dX12_puts_101 rfl ?_
          refine s_iconst dX12_puts_103 (by decide) ?_
          have J10 : ∀ z9 : Int, ((¬ r8 = ((-1))) ∧ z9 = 1) ∨ ((r8 = ((-1))) ∧ (¬ (gS G7 a_fMark ((gS G7 a_fA ((x).toNat)).toNat)) = (gS Gq 1000 35)) ∧ z9 = 0) ∨ ((r8 = ((-1))) ∧ ((gS G7 a_fMark ((gS G7 a_fA ((x).toNat)).toNat)) = (gS Gq 1000 35)) ∧ (¬ (gS G7 a_fMark ((gS G7 a_fB ((x).toNat)).toNat)) = (gS Gq 1000 35)) ∧ z9 = 0) ∨ ((r8 = ((-1))) ∧ ((gS G7 a_fMark ((gS G7 a_fA ((x).toNat)).toNat)) = (gS Gq 1000 35)) ∧ ((gS G7 a_fMark ((gS G7 a_fB ((x).toNat)).toNat)) = (gS Gq 1000 35)) ∧ z9 = 1) → WP kX12_puts X 140 [some (2, ((1000 : Nat) : Int)), some (0, w), some (0, t), some (0, x), some (0, r8), some (0, gS G7 a_fA ((x).toNat)), some (0, gS G7 a_fB ((x).toNat)), none, none] [(0, z9)] G7 := by
            intro z9 hz9
            refine s_istore dX12_puts_140 (by decide) (lv' := [some (2, ((1000 : Nat) : Int)), some (0, w), some (0, t), some (0, x), some (0, r8), some (0, gS G7 a_fA ((x).toNat)), some (0, gS G7 a_fB ((x).toNat)), some (0, z9), none]) rfl ?_
            refine s_iload dX12_puts_142 rfl ?_
            refine s_if_eq (tgt := 210) dX12_puts_144 (by decide) (fun c11 => ?_) (fun c11 => ?_)
            · -- 144 to 210
              refine s_aload_n dX12_puts_210 rfl (Int.natCast_nonneg _) ?_
              refine gf_stackOf rfl dX12_puts_211 hMG7 ?_
              refine s_aload_n dX12_puts_214 rfl (Int.natCast_nonneg _) ?_
              refine gf_stack rfl dX12_puts_215 hMG7 (Fr.atF hfG7 (by decide) (by decide)) ?_
              refine s_iload dX12_puts_218 rfl ?_
              refine r_iast dX12_puts_220 hMG7 (mg_a_stackOf hMG7) (by decide) (by omega) (by omega) (fun G12 eG12 hMG12 => ?_)
              have hFG12 : Fr nX12_puts jX12_puts G G12 := Fr.setA hFG7 eG12 (by decide)
              show WP kX12_puts X 221 [some (2, ((1000 : Nat) : Int)), some (0, w), some (0, t), some (0, x), some (0, r8), some (0, gS G7 a_fA ((x).toNat)), some (0, gS G7 a_fB ((x).toNat)), some (0, z9), none] [] G12
              refine s_aload_n dX12_puts_221 rfl (Int.natCast_nonneg _) ?_
              refine gf_stackOf rfl dX12_puts_222 hMG12 ?_
              refine s_aload_n dX12_puts_225 rfl (Int.natCast_nonneg _) ?_
              refine gf_stack rfl dX12_puts_226 hMG12 (Eq.trans (gsnE eG12 (by decide)) (Fr.atF hfG7 (by decide) (by decide))) ?_
              refine s_iconst dX12_puts_229 (by decide) ?_
              refine s_iadd dX12_puts_230 (by omega) ?_
              refine s_iload dX12_puts_231 rfl ?_
              refine r_iast dX12_puts_233 hMG12 (mg_a_stackOf hMG12) (by decide) (by omega) (by omega) (fun G13 eG13 hMG13 => ?_)
              have hFG13 : Fr nX12_puts jX12_puts G G13 := Fr.setA hFG12 eG13 (by decide)
              show WP kX12_puts X 234 [some (2, ((1000 : Nat) : Int)), some (0, w), some (0, t), some (0, x), some (0, r8), some (0, gS G7 a_fA ((x).toNat)), some (0, gS G7 a_fB ((x).toNat)), some (0, z9), none] [] G13
              refine s_aload_n dX12_puts_234 rfl (Int.natCast_nonneg _) ?_
              refine s_dup dX12_puts_235 (by decide) ?_
              refine gf_stack rfl dX12_puts_236 hMG13 (Eq.trans (gsnE eG13 (by decide)) (Eq.trans (gsnE eG12 (by decide)) (Fr.atF hfG7 (by decide) (by decide)))) ?_
              refine s_iconst dX12_puts_239 (by decide) ?_
              refine s_iadd dX12_puts_240 (by omega) ?_
              refine pf_stack rfl dX12_puts_241 hMG13 (fun G14 eG14 hMG14 => ?_)
              have hFG14 : Fr nX12_puts jX12_puts G G14 := Fr.setF hFG13 eG14 (by decide)
              refine s_goto (tgt := 32) dX12_puts_244 (by decide) ?_
              refine s_mask [true, true, true, false, false, false, false, false, false] (lv' := [some (2, ((1000 : Nat) : Int)), some (0, w), some (0, t), none, none, none, none, none, none]) rfl ?_
              exfalso; omega
            · -- 144 to 147
              refine s_iload dX12_puts_147 rfl ?_
              refine s_iconst dX12_puts_149 (by decide) ?_
              refine s_icmp_eq (tgt := 158) dX12_puts_150 (by decide) (fun c15 => ?_) (fun c15 => ?_)
              · -- 150 to 158
                have hja := hJ.2.2.2.2.2.2 (gS G7 a_fA ((x).toNat)) (by omega) (by omega) (by omega)
                have hjb := hJ.2.2.2.2.2.2 (gS G7 a_fB ((x).toNat)) (by omega) (by omega) (by omega)
                refine s_aload_n dX12_puts_158 rfl (Int.natCast_nonneg _) ?_
                refine s_iconst dX12_puts_159 (by decide) ?_
                refine s_aload_n dX12_puts_160 rfl (Int.natCast_nonneg _) ?_
                refine gf_fMemo rfl dX12_puts_161 hMG7 ?_
                refine s_iload dX12_puts_164 rfl ?_
                refine s_iald dX12_puts_166 (mg_a_fMemo hMG7) (by omega) (by omega) (Fr.atA hfG7 (by decide) (by decide)) ?_
                refine s_aload_n dX12_puts_167 rfl (Int.natCast_nonneg _) ?_
                refine gf_fMemo rfl dX12_puts_168 hMG7 ?_
                refine s_iload dX12_puts_171 rfl ?_
                refine s_iald dX12_puts_173 (mg_a_fMemo hMG7) (by omega) (by omega) (Fr.atA hfG7 (by decide) (by decide)) ?_
                refine cv_X12_338 rfl gX12_full dX12_puts_174 hMG7 (by rw [hcf]; decide) (as := [(0, 3), (0, gS Gq a_fMemo ((gS G7 a_fA ((x).toNat)).toNat)), (0, gS Gq a_fMemo ((gS G7 a_fB ((x).toNat)).toNat))]) rfl (Nat.le_of_ble_eq_true rfl) ⟨3, gS Gq a_fMemo ((gS G7 a_fA ((x).toNat)).toNat), gS Gq a_fMemo ((gS G7 a_fB ((x).toNat)).toNat), rfl, hMG7, (by exact hPO.1), (by omega), (by omega), (by omega), (by omega), (by omega), fun r17 G16 hMG16 hpG16 => ?_⟩
                obtain ⟨hfG16, hpG16⟩ := hpG16
                have hFG16 : Fr nX12_puts jX12_puts G G16 := Fr.call hFG7 hfG16 (by decide) (by decide)
                show WP kX12_puts X 177 [some (2, ((1000 : Nat) : Int)), some (0, w), some (0, t), some (0, x), some (0, r8), some (0, gS G7 a_fA ((x).toNat)), some (0, gS G7 a_fB ((x).toNat)), some (0, z9), none] [(0, r17)] G16
                refine s_istore dX12_puts_177 (by decide) (lv' := [some (2, ((1000 : Nat) : Int)), some (0, w), some (0, t), some (0, x), some (0, r8), some (0, gS G7 a_fA ((x).toNat)), some (0, gS G7 a_fB ((x).toNat)), some (0, z9), some (0, r17)]) rfl ?_
                refine s_aload_n dX12_puts_179 rfl (Int.natCast_nonneg _) ?_
                refine gf_fMemo rfl dX12_puts_180 hMG16 ?_
                refine s_iload_n dX12_puts_183 rfl ?_
                refine s_iload dX12_puts_184 rfl ?_
                refine r_iast dX12_puts_186 hMG16 (mg_a_fMemo hMG16) (by decide) (by omega) (by omega) (fun G18 eG18 hMG18 => ?_)
                have hFG18 : Fr nX12_puts jX12_puts G G18 := Fr.setA hFG16 eG18 (by decide)
                show WP kX12_puts X 187 [some (2, ((1000 : Nat) : Int)), some (0, w), some (0, t), some (0, x), some (0, r8), some (0, gS G7 a_fA ((x).toNat)), some (0, gS G7 a_fB ((x).toNat)), some (0, z9), some (0, r17)] [] G18
                refine s_aload_n dX12_puts_187 rfl (Int.natCast_nonneg _) ?_
                refine gf_fMark rfl dX12_puts_188 hMG18 ?_
                refine s_iload_n dX12_puts_191 rfl ?_
                refine s_aload_n dX12_puts_192 rfl (Int.natCast_nonneg _) ?_
                refine gf_mark rfl dX12_puts_193 hMG18 (Eq.trans (gsnE eG18 (by decide)) (Eq.trans (Fr.atF hfG16 (by decide) (by decide)) (Fr.atF hfG7 (by decide) (by decide)))) ?_
                refine r_iast dX12_puts_196 hMG18 (mg_a_fMark hMG18) (by decide) (by omega) (by omega) (fun G19 eG19 hMG19 => ?_)
                have hFG19 : Fr nX12_puts jX12_puts G G19 := Fr.setA hFG18 eG19 (by decide)
                show WP kX12_puts X 197 [some (2, ((1000 : Nat) : Int)), some (0, w), some (0, t), some (0, x), some (0, r8), some (0, gS G7 a_fA ((x).toNat)), some (0, gS G7 a_fB ((x).toNat)), some (0, z9), some (0, r17)] [] G19
                refine s_aload_n dX12_puts_197 rfl (Int.natCast_nonneg _) ?_
                refine s_dup dX12_puts_198 (by decide) ?_
                refine gf_stack rfl dX12_puts_199 hMG19 (Eq.trans (gsnE eG19 (by decide)) (Eq.trans (gsnE eG18 (by decide)) (Eq.trans (Fr.atF hfG16 (by decide) (by decide)) (Fr.atF hfG7 (by decide) (by decide))))) ?_
                refine s_iconst dX12_puts_202 (by decide) ?_
                refine s_isub dX12_puts_203 (by omega) ?_
                refine pf_stack rfl dX12_puts_204 hMG19 (fun G20 eG20 hMG20 => ?_)
                have hFG20 : Fr nX12_puts jX12_puts G G20 := Fr.setF hFG19 eG20 (by decide)
                refine s_goto (tgt := 244) dX12_puts_207 (by decide) ?_
                refine s_goto (tgt := 32) dX12_puts_244 (by decide) ?_
                refine s_mask [true, true, true, false, false, false, false, false, false] (lv' := [some (2, ((1000 : Nat) : Int)), some (0, w), some (0, t), none, none, none, none, none, none]) rfl ?_
                obtain ⟨u1, ⟨u2, u3, u4⟩, u5, u6, u7, u8, u9⟩ := hpG16
                have aT9 : Agr thA thJ G7 G16 := hfG16.agr (by decide) (by decide) (by decide)
                have hfr9 : Fr nPut [26, 42] Gq G16 := Fr.call (Fr.call Fr.rf hfP (by decide) (by decide)) hfG16 (by decide) (by decide)
                have hX9 : FX Gq G16 := hPO.2.1.trans u5
                have hY9 : TX Gq G16 := hPO.2.2.2.1.trans (TX.agr aT9)
                have hS9 : PS G4 G16 P w x r17 := PS.pair hFs hxN u1 ⟨u2, u3⟩ (by omega) u7 (by rw [← hsa]; exact hja.2.mono hFq hja.1 hX9 hY9) (by rw [← hsb]; exact hjb.2.mono hFq hjb.1 hX9 hY9) u8 u9
                have hPK : PK G4 Gq G20 Hs P w x sp (if w = 0 ∧ ¬ (gS G4 a_fKind (x).toNat) = 3 then 0 else 1) := PJ.done hJ hxN (hfr := hfr9) u1 hX9 (hPO.2.2.1.agr aT9) hY9 (fun j j0 j1 => (u6 j j0 (by omega)).trans (hPO.2.2.2.2.1 j j0 j1)) ⟨u2, u3⟩ hS9 (by rw [if_neg (fun q9 => q9.2 (by omega))]; omega) (G2 := G18) (G3 := G19) (e2 := eG18) (e3 := by rw [eG19]; try (congr 1 <;> omega)) (e4 := by rw [eG20]; try (congr 1 <;> omega))
                exact hk G20 hMG20 hFG20 hPK
              · -- 150 to 153
                exact absurd hone c15
          refine s_icmp_ne (tgt := 135) dX12_puts_104 (by decide) (fun c21 => ?_) (fun c21 => ?_)
          · -- 104 to 135
            refine s_iconst dX12_puts_135 (by decide) ?_
            refine s_goto (tgt := 140) dX12_puts_136 (by decide) ?_
            exact J10 1 (Or.inl ⟨c21, rfl⟩)
          · -- 104 to 107
            refine s_aload_n dX12_puts_107 rfl (Int.natCast_nonneg _) ?_
            refine gf_fMark rfl dX12_puts_108 hMG7 ?_
            refine s_iload dX12_puts_111 rfl ?_
            refine s_iald dX12_puts_113 (mg_a_fMark hMG7) (by omega) (by omega) rfl ?_
            refine s_aload_n dX12_puts_114 rfl (Int.natCast_nonneg _) ?_
            refine gf_mark rfl dX12_puts_115 hMG7 (Fr.atF hfG7 (by decide) (by decide)) ?_
            refine s_icmp_ne (tgt := 139) dX12_puts_118 (by decide) (fun c22 => ?_) (fun c22 => ?_)
            · -- 118 to 139
              refine s_iconst dX12_puts_139 (by decide) ?_
              exact J10 0 (Or.inr (Or.inl ⟨c21, c22, rfl⟩))
            · -- 118 to 121
              refine s_aload_n dX12_puts_121 rfl (Int.natCast_nonneg _) ?_
              refine gf_fMark rfl dX12_puts_122 hMG7 ?_
              refine s_iload dX12_puts_125 rfl ?_
              refine s_iald dX12_puts_127 (mg_a_fMark hMG7) (by omega) (by omega) rfl ?_
              refine s_aload_n dX12_puts_128 rfl (Int.natCast_nonneg _) ?_
              refine gf_mark rfl dX12_puts_129 hMG7 (Fr.atF hfG7 (by decide) (by decide)) ?_
              refine s_icmp_ne (tgt := 139) dX12_puts_132 (by decide) (fun c23 => ?_) (fun c23 => ?_)
              · -- 132 to 139
                refine s_iconst dX12_puts_139 (by decide) ?_
                exact J10 0 (Or.inr (Or.inr (Or.inl ⟨c21, c22, c23, rfl⟩)))
              · -- 132 to 135
                refine s_iconst dX12_puts_135 (by decide) ?_
                refine s_goto (tgt := 140) dX12_puts_136 (by decide) ?_
                exact J10 1 (Or.inr (Or.inr (Or.inr (⟨c21, c22, c23, rfl⟩))))
        · -- case
          have hcp := hPO.2.2.2.2.2.2.1
          have hr1 := hPO.2.2.2.2.2.1
          refine s_iload dX12_puts_101 rfl ?_
          refine s_iconst dX12_puts_103 (by decide) ?_
          have J25 : ∀ z24 : Int, ((¬ r8 = ((-1))) ∧ z24 = 1) ∨ ((r8 = ((-1))) ∧ (¬ (gS G7 a_fMark ((gS G7 a_fA ((x).toNat)).toNat)) = (gS Gq 1000 35)) ∧ z24 = 0) ∨ ((r8 = ((-1))) ∧ ((gS G7 a_fMark ((gS G7 a_fA ((x).toNat)).toNat)) = (gS Gq 1000 35)) ∧ (¬ (gS G7 a_fMark ((gS G7 a_fB ((x).toNat)).toNat)) = (gS Gq 1000 35)) ∧ z24 = 0) ∨ ((r8 = ((-1))) ∧ ((gS G7 a_fMark ((gS G7 a_fA ((x).toNat)).toNat)) = (gS Gq 1000 35)) ∧ ((gS G7 a_fMark ((gS G7 a_fB ((x).toNat)).toNat)) = (gS Gq 1000 35)) ∧ z24 = 1) → WP kX12_puts X 140 [some (2, ((1000 : Nat) : Int)), some (0, w), some (0, t), some (0, x), some (0, r8), some (0, gS G7 a_fA ((x).toNat)), some (0, gS G7 a_fB ((x).toNat)), none, none] [(0, z24)] G7 := by
            intro z24 hz24
            refine s_istore dX12_puts_140 (by decide) (lv' := [some (2, ((1000 : Nat) : Int)), some (0, w), some (0, t), some (0, x), some (0, r8), some (0, gS G7 a_fA ((x).toNat)), some (0, gS G7 a_fB ((x).toNat)), some (0, z24), none]) rfl ?_
            refine s_iload dX12_puts_142 rfl ?_
            refine s_if_eq (tgt := 210) dX12_puts_144 (by decide) (fun c26 => ?_) (fun c26 => ?_)
            · -- 144 to 210
              exfalso; omega
            · -- 144 to 147
              refine s_iload dX12_puts_147 rfl ?_
              refine s_iconst dX12_puts_149 (by decide) ?_
              refine s_icmp_eq (tgt := 158) dX12_puts_150 (by decide) (fun c27 => ?_) (fun c27 => ?_)
              · -- 150 to 158
                exact absurd c27 hone
              · -- 150 to 153
                refine s_iload dX12_puts_153 rfl ?_
                refine s_goto (tgt := 177) dX12_puts_155 (by decide) ?_
                refine s_istore dX12_puts_177 (by decide) (lv' := [some (2, ((1000 : Nat) : Int)), some (0, w), some (0, t), some (0, x), some (0, r8), some (0, gS G7 a_fA ((x).toNat)), some (0, gS G7 a_fB ((x).toNat)), some (0, z24), some (0, r8)]) rfl ?_
                refine s_aload_n dX12_puts_179 rfl (Int.natCast_nonneg _) ?_
                refine gf_fMemo rfl dX12_puts_180 hMG7 ?_
                refine s_iload_n dX12_puts_183 rfl ?_
                refine s_iload dX12_puts_184 rfl ?_
                refine r_iast dX12_puts_186 hMG7 (mg_a_fMemo hMG7) (by decide) (by omega) (by omega) (fun G28 eG28 hMG28 => ?_)
                have hFG28 : Fr nX12_puts jX12_puts G G28 := Fr.setA hFG7 eG28 (by decide)
                show WP kX12_puts X 187 [some (2, ((1000 : Nat) : Int)), some (0, w), some (0, t), some (0, x), some (0, r8), some (0, gS G7 a_fA ((x).toNat)), some (0, gS G7 a_fB ((x).toNat)), some (0, z24), some (0, r8)] [] G28
                refine s_aload_n dX12_puts_187 rfl (Int.natCast_nonneg _) ?_
                refine gf_fMark rfl dX12_puts_188 hMG28 ?_
                refine s_iload_n dX12_puts_191 rfl ?_
                refine s_aload_n dX12_puts_192 rfl (Int.natCast_nonneg _) ?_
                refine gf_mark rfl dX12_puts_193 hMG28 (Eq.trans (gsnE eG28 (by decide)) (Fr.atF hfG7 (by decide) (by decide))) ?_
                refine r_iast dX12_puts_196 hMG28 (mg_a_fMark hMG28) (by decide) (by omega) (by omega) (fun G29 eG29 hMG29 => ?_)
                have hFG29 : Fr nX12_puts jX12_puts G G29 := Fr.setA hFG28 eG29 (by decide)
                show WP kX12_puts X 197 [some (2, ((1000 : Nat) : Int)), some (0, w), some (0, t), some (0, x), some (0, r8), some (0, gS G7 a_fA ((x).toNat)), some (0, gS G7 a_fB ((x).toNat)), some (0, z24), some (0, r8)] [] G29
                refine s_aload_n dX12_puts_197 rfl (Int.natCast_nonneg _) ?_
                refine s_dup dX12_puts_198 (by decide) ?_
                refine gf_stack rfl dX12_puts_199 hMG29 (Eq.trans (gsnE eG29 (by decide)) (Eq.trans (gsnE eG28 (by decide)) (Fr.atF hfG7 (by decide) (by decide)))) ?_
                refine s_iconst dX12_puts_202 (by decide) ?_
                refine s_isub dX12_puts_203 (by omega) ?_
                refine pf_stack rfl dX12_puts_204 hMG29 (fun G30 eG30 hMG30 => ?_)
                have hFG30 : Fr nX12_puts jX12_puts G G30 := Fr.setF hFG29 eG30 (by decide)
                refine s_goto (tgt := 244) dX12_puts_207 (by decide) ?_
                refine s_goto (tgt := 32) dX12_puts_244 (by decide) ?_
                refine s_mask [true, true, true, false, false, false, false, false, false] (lv' := [some (2, ((1000 : Nat) : Int)), some (0, w), some (0, t), none, none, none, none, none, none]) rfl ?_
                have hPK : PK G4 Gq G30 Hs P w x sp (if w = 0 ∧ ¬ (gS G4 a_fKind (x).toNat) = 3 then 0 else 1) := PJ.done hJ hxN (hfr := Fr.call Fr.rf hfP (by decide) (by decide)) hPO.1 hPO.2.1 hPO.2.2.1 hPO.2.2.2.1 hPO.2.2.2.2.1 ⟨by omega, hPO.2.2.2.2.2.1.2⟩ (PS.of hJ hFs h0s hxN hPO (by omega)) hPO.c (G2 := G28) (G3 := G29) (e2 := eG28) (e3 := by rw [eG29]; try (congr 1 <;> omega)) (e4 := by rw [eG30]; try (congr 1 <;> omega))
                exact hk G30 hMG30 hFG30 hPK
          refine s_icmp_ne (tgt := 135) dX12_puts_104 (by decide) (fun c31 => ?_) (fun c31 => ?_)
          · -- 104 to 135
            refine s_iconst dX12_puts_135 (by decide) ?_
            refine s_goto (tgt := 140) dX12_puts_136 (by decide) ?_
            exact J25 1 (Or.inl ⟨c31, rfl⟩)
          · -- 104 to 107
            refine s_aload_n dX12_puts_107 rfl (Int.natCast_nonneg _) ?_
            refine gf_fMark rfl dX12_puts_108 hMG7 ?_
            refine s_iload dX12_puts_111 rfl ?_
            refine s_iald dX12_puts_113 (mg_a_fMark hMG7) (by omega) (by omega) rfl ?_
            refine s_aload_n dX12_puts_114 rfl (Int.natCast_nonneg _) ?_
            refine gf_mark rfl dX12_puts_115 hMG7 (Fr.atF hfG7 (by decide) (by decide)) ?_
            refine s_icmp_ne (tgt := 139) dX12_puts_118 (by decide) (fun c32 => ?_) (fun c32 => ?_)
            · -- 118 to 139
              refine s_iconst dX12_puts_139 (by decide) ?_
              exact J25 0 (Or.inr (Or.inl ⟨c31, c32, rfl⟩))
            · -- 118 to 121
              refine s_aload_n dX12_puts_121 rfl (Int.natCast_nonneg _) ?_
              refine gf_fMark rfl dX12_puts_122 hMG7 ?_
              refine s_iload dX12_puts_125 rfl ?_
              refine s_iald dX12_puts_127 (mg_a_fMark hMG7) (by omega) (by omega) rfl ?_
              refine s_aload_n dX12_puts_128 rfl (Int.natCast_nonneg _) ?_
              refine gf_mark rfl dX12_puts_129 hMG7 (Fr.atF hfG7 (by decide) (by decide)) ?_
              refine s_icmp_ne (tgt := 139) dX12_puts_132 (by decide) (fun c33 => ?_) (fun c33 => ?_)
              · -- 132 to 139
                refine s_iconst dX12_puts_139 (by decide) ?_
                exact J25 0 (Or.inr (Or.inr (Or.inl ⟨c31, c32, c33, rfl⟩)))
              · -- 132 to 135
                refine s_iconst dX12_puts_135 (by decide) ?_
                refine s_goto (tgt := 140) dX12_puts_136 (by decide) ?_
                exact J25 1 (Or.inr (Or.inr (Or.inr (⟨c31, c32, c33, rfl⟩))))
      · -- 61 to 64
        refine s_aload_n dX12_puts_64 rfl (Int.natCast_nonneg _) ?_
        refine s_dup dX12_puts_65 (by decide) ?_
        refine gf_stack rfl dX12_puts_66 hMGq rfl ?_
        refine s_iconst dX12_puts_69 (by decide) ?_
        refine s_isub dX12_puts_70 (by omega) ?_
        refine pf_stack rfl dX12_puts_71 hMGq (fun G34 eG34 hMG34 => ?_)
        have hFG34 : Fr nX12_puts jX12_puts G G34 := Fr.setF hFGq eG34 (by decide)
        refine s_goto (tgt := 244) dX12_puts_74 (by decide) ?_
        refine s_goto (tgt := 32) dX12_puts_244 (by decide) ?_
        refine s_mask [true, true, true, false, false, false, false, false, false] (lv' := [some (2, ((1000 : Nat) : Int)), some (0, w), some (0, t), none, none, none, none, none, none]) rfl ?_
        exact hk G34 hMG34 hFG34 (PJ.pop hJ (by omega) (by rw [eG34]; try (congr 1 <;> omega)) if_nn)
  have R : ∀ (n : Nat) (x sp : Int) (Gq : LG), x < n → MG Gq → Fr nX12_puts jX12_puts G Gq → PJ G4 Gq Hs P w → 0 ≤ sp → sp + (gS G4 a_fSize (x).toNat) < 19990 → (gS Gq 1000 36) = sp + 1 → (gS Gq a_stackOf (sp).toNat) = x → (0 ≤ x ∧ x < (gS G4 1000 26)) → (gS G4 a_fSize (x).toNat) ≤ 200 → (gS Gq 1000 26) + pcost w ((gS G4 a_fSize (x).toNat)) < 150000 → (w = 1 → okS G4 P x) → (∀ G2 : LG, MG G2 → Fr nX12_puts jX12_puts G G2 → PK G4 Gq G2 Hs P w x sp (pcost w ((gS G4 a_fSize (x).toNat))) → WP kX12_puts X 32 [some (2, ((1000 : Nat) : Int)), some (0, w), some (0, t), none, none, none, none, none, none] [] G2) → WP kX12_puts X 32 [some (2, ((1000 : Nat) : Int)), some (0, w), some (0, t), none, none, none, none, none, none] [] Gq := by
    intro n
    induction n with
    | zero => intro x sp Gq h1 _ _ _ _ _ _ _ hxN; omega
    | succ n ih =>
      intro x sp Gq hxn hMGq hFGq hJ hsp0 hspz hstk hst hxN hz hcz hok hk
      have hz1 := (hFs.sz hxN.1 hxN.2).1
      have hpz : 0 ≤ pcost w ((gS G4 a_fSize (x).toNat)) ∧ (if w = 0 ∧ ¬ (gS G4 a_fKind (x).toNat) = 3 then 0 else 1) ≤ pcost w ((gS G4 a_fSize (x).toNat)) := ⟨pc_nn hz1, pc_one hz1 (fun q => by have z9 := hFs.ps hxN.1 hxN.2 q hz; omega)⟩
      have hc : (gS Gq 1000 26) < 150000 := by omega
      by_cases hrd : ((gS Gq a_fMark (x).toNat) = (gS G4 1000 35) ∨ ¬ (gS G4 a_fKind (x).toNat) = 3 ∨ ((gS Gq a_fMark ((gS G4 a_fA (x).toNat)).toNat) = (gS G4 1000 35) ∧ (gS Gq a_fMark ((gS G4 a_fB (x).toNat)).toNat) = (gS G4 1000 35)))
      · exact Q x sp Gq hMGq hFGq hJ ⟨hsp0, by omega⟩ hstk hst hxN hc hrd hok (fun G2 a b c => hk G2 a b (c.weak hpz.2))
      · -- a pair whose parts come first
        have hN := hJ.2.1.1
        have hmk := hJ.2.2.2.2.1
        obtain ⟨hFq, hTq, hxq, h0q, h2q, h1q⟩ := hJ.pre (v := v) hFs h0s h2s h1s hxN hok
        have hxs := hJ.2.1.2 x hxN.1 hxN.2
        refine s_aload_n dX12_puts_32 rfl (Int.natCast_nonneg _) ?_
        refine gf_stack rfl dX12_puts_33 hMGq rfl ?_
        refine s_if_le (tgt := 247) dX12_puts_36 (by decide) (fun c35 => ?_) (fun c35 => ?_)
        · -- 36 to 247
          exfalso; omega
        · -- 36 to 39
          refine s_aload_n dX12_puts_39 rfl (Int.natCast_nonneg _) ?_
          refine gf_stackOf rfl dX12_puts_40 hMGq ?_
          refine s_aload_n dX12_puts_43 rfl (Int.natCast_nonneg _) ?_
          refine gf_stack rfl dX12_puts_44 hMGq rfl ?_
          refine s_iconst dX12_puts_47 (by decide) ?_
          refine s_isub dX12_puts_48 (by omega) ?_
          refine s_iald (v := x) dX12_puts_49 (mg_a_stackOf hMGq) (by omega) (by omega) (by rw [show (gS Gq 1000 36) - 1 = sp by omega]; exact hst) ?_
          refine s_istore_n dX12_puts_50 (by decide) (lv' := [some (2, ((1000 : Nat) : Int)), some (0, w), some (0, t), some (0, x), none, none, none, none, none]) rfl ?_
          refine s_aload_n dX12_puts_51 rfl (Int.natCast_nonneg _) ?_
          refine gf_fMark rfl dX12_puts_52 hMGq ?_
          refine s_iload_n dX12_puts_55 rfl ?_
          refine s_iald dX12_puts_56 (mg_a_fMark hMGq) (by omega) (by omega) rfl ?_
          refine s_aload_n dX12_puts_57 rfl (Int.natCast_nonneg _) ?_
          refine gf_mark rfl dX12_puts_58 hMGq rfl ?_
          refine s_icmp_ne (tgt := 77) dX12_puts_61 (by decide) (fun c36 => ?_) (fun c36 => ?_)
          · -- 61 to 77
            refine s_aload_n dX12_puts_77 rfl (Int.natCast_nonneg _) ?_
            refine s_iload_n dX12_puts_78 rfl ?_
            refine s_iload_n dX12_puts_79 rfl ?_
            refine cv_X12_357 rfl gX12_putsOne dX12_puts_80 hMGq (by rw [hcf]; decide) (as := [(0, w), (0, x)]) rfl (Nat.le_of_ble_eq_true rfl) ⟨w, x, Hs, v, P, rfl, hMGq, (by exact hFq), (by exact hTq), (by exact hv), (by exact hxq), (by exact hw), (by exact hc), (by exact h0q), (by exact h2q), (by exact h1q), fun r38 G37 hMG37 hpG37 => ?_⟩
            obtain ⟨hfG37, hpG37⟩ := hpG37
            have hFG37 : Fr nX12_puts jX12_puts G G37 := Fr.call hFGq hfG37 (by decide) (by decide)
            show WP kX12_puts X 83 [some (2, ((1000 : Nat) : Int)), some (0, w), some (0, t), some (0, x), none, none, none, none, none] [(0, r38)] G37
            have hPO := hpG37
            have hfP := hfG37
            have hxp := hPO.2.1.2 x hxq.1 hxq.2
            have hmk2 : (gS G37 1000 35) = (gS Gq 1000 35) := hfG37.atF (by decide) (by decide)
            have hfl := hPO.2.1.1
            refine s_istore dX12_puts_83 (by decide) (lv' := [some (2, ((1000 : Nat) : Int)), some (0, w), some (0, t), some (0, x), some (0, r38), none, none, none, none]) rfl ?_
            refine s_aload_n dX12_puts_85 rfl (Int.natCast_nonneg _) ?_
            refine gf_fA rfl dX12_puts_86 hMG37 ?_
            refine s_iload_n dX12_puts_89 rfl ?_
            refine s_iald dX12_puts_90 (mg_a_fA hMG37) (by omega) (by omega) rfl ?_
            refine s_istore dX12_puts_91 (by decide) (lv' := [some (2, ((1000 : Nat) : Int)), some (0, w), some (0, t), some (0, x), some (0, r38), some (0, gS G37 a_fA ((x).toNat)), none, none, none]) rfl ?_
            refine s_aload_n dX12_puts_93 rfl (Int.natCast_nonneg _) ?_
            refine gf_fB rfl dX12_puts_94 hMG37 ?_
            refine s_iload_n dX12_puts_97 rfl ?_
            refine s_iald dX12_puts_98 (mg_a_fB hMG37) (by omega) (by omega) rfl ?_
            refine s_istore dX12_puts_99 (by decide) (lv' := [some (2, ((1000 : Nat) : Int)), some (0, w), some (0, t), some (0, x), some (0, r38), some (0, gS G37 a_fA ((x).toNat)), some (0, gS G37 a_fB ((x).toNat)), none, none]) rfl ?_
            by_cases hone : r38 = -1
            · -- case
              have hk3 := hPO.2.2.2.2.2.2.2.1 hone
              have hab := hFs.pr hxN.1 hxN.2 (by omega)
              have hsa : (gS G37 a_fA ((x).toNat)) = (gS G4 a_fA (x).toNat) := hxp.2.1.trans hxs.2.1
              have hsb : (gS G37 a_fB ((x).toNat)) = (gS G4 a_fB (x).toNat) := hxp.2.2.1.trans hxs.2.2.1
              have hma := hPO.2.2.2.2.1 (gS G37 a_fA ((x).toNat)) (by omega) (by omega)
              have hmb := hPO.2.2.2.2.1 (gS G37 a_fB ((x).toNat)) (by omega) (by omega)
              have hra : (gS Gq a_fMark ((gS G37 a_fA ((x).toNat))).toNat) = (gS Gq a_fMark ((gS G4 a_fA (x).toNat)).toNat) := by rw [hsa]
              have hrb : (gS Gq a_fMark ((gS G37 a_fB ((x).toNat))).toNat) = (gS Gq a_fMark ((gS G4 a_fB (x).toNat)).toNat) := by rw [hsb]
              refine s_iload dX12_puts_101 rfl ?_
              refine s_iconst dX12_puts_103 (by decide) ?_
              have J40 : ∀ z39 : Int, ((¬ r38 = ((-1))) ∧ z39 = 1) ∨ ((r38 = ((-1))) ∧ (¬ (gS G37 a_fMark ((gS G37 a_fA ((x).toNat)).toNat)) = (gS Gq 1000 35)) ∧ z39 = 0) ∨ ((r38 = ((-1))) ∧ ((gS G37 a_fMark ((gS G37 a_fA ((x).toNat)).toNat)) = (gS Gq 1000 35)) ∧ (¬ (gS G37 a_fMark ((gS G37 a_fB ((x).toNat)).toNat)) = (gS Gq 1000 35)) ∧ z39 = 0) ∨ ((r38 = ((-1))) ∧ ((gS G37 a_fMark ((gS G37 a_fA ((x).toNat)).toNat)) = (gS Gq 1000 35)) ∧ ((gS G37 a_fMark ((gS G37 a_fB ((x).toNat)).toNat)) = (gS Gq 1000 35)) ∧ z39 = 1) → WP kX12_puts X 140 [some (2, ((1000 : Nat) : Int)), some (0, w), some (0, t), some (0, x), some (0, r38), some (0, gS G37 a_fA ((x).toNat)), some (0, gS G37 a_fB ((x).toNat)), none, none] [(0, z39)] G37 := by
                intro z39 hz39
                refine s_istore dX12_puts_140 (by decide) (lv' := [some (2, ((1000 : Nat) : Int)), some (0, w), some (0, t), some (0, x), some (0, r38), some (0, gS G37 a_fA ((x).toNat)), some (0, gS G37 a_fB ((x).toNat)), some (0, z39), none]) rfl ?_
                refine s_iload dX12_puts_142 rfl ?_
                refine s_if_eq (tgt := 210) dX12_puts_144 (by decide) (fun c41 => ?_) (fun c41 => ?_)
                · -- 144 to 210
                  refine s_aload_n dX12_puts_210 rfl (Int.natCast_nonneg _) ?_
                  refine gf_stackOf rfl dX12_puts_211 hMG37 ?_
                  refine s_aload_n dX12_puts_214 rfl (Int.natCast_nonneg _) ?_
                  refine gf_stack rfl dX12_puts_215 hMG37 (Fr.atF hfG37 (by decide) (by decide)) ?_
                  refine s_iload dX12_puts_218 rfl ?_
                  refine r_iast dX12_puts_220 hMG37 (mg_a_stackOf hMG37) (by decide) (by omega) (by omega) (fun G42 eG42 hMG42 => ?_)
                  have hFG42 : Fr nX12_puts jX12_puts G G42 := Fr.setA hFG37 eG42 (by decide)
                  show WP kX12_puts X 221 [some (2, ((1000 : Nat) : Int)), some (0, w), some (0, t), some (0, x), some (0, r38), some (0, gS G37 a_fA ((x).toNat)), some (0, gS G37 a_fB ((x).toNat)), some (0, z39), none] [] G42
                  refine s_aload_n dX12_puts_221 rfl (Int.natCast_nonneg _) ?_
                  refine gf_stackOf rfl dX12_puts_222 hMG42 ?_
                  refine s_aload_n dX12_puts_225 rfl (Int.natCast_nonneg _) ?_
                  refine gf_stack rfl dX12_puts_226 hMG42 (Eq.trans (gsnE eG42 (by decide)) (Fr.atF hfG37 (by decide) (by decide))) ?_
                  refine s_iconst dX12_puts_229 (by decide) ?_
                  refine s_iadd dX12_puts_230 (by omega) ?_
                  refine s_iload dX12_puts_231 rfl ?_
                  refine r_iast dX12_puts_233 hMG42 (mg_a_stackOf hMG42) (by decide) (by omega) (by omega) (fun G43 eG43 hMG43 => ?_)
                  have hFG43 : Fr nX12_puts jX12_puts G G43 := Fr.setA hFG42 eG43 (by decide)
                  show WP kX12_puts X 234 [some (2, ((1000 : Nat) : Int)), some (0, w), some (0, t), some (0, x), some (0, r38), some (0, gS G37 a_fA ((x).toNat)), some (0, gS G37 a_fB ((x).toNat)), some (0, z39), none] [] G43
                  refine s_aload_n dX12_puts_234 rfl (Int.natCast_nonneg _) ?_
                  refine s_dup dX12_puts_235 (by decide) ?_
                  refine gf_stack rfl dX12_puts_236 hMG43 (Eq.trans (gsnE eG43 (by decide)) (Eq.trans (gsnE eG42 (by decide)) (Fr.atF hfG37 (by decide) (by decide)))) ?_
                  refine s_iconst dX12_puts_239 (by decide) ?_
                  refine s_iadd dX12_puts_240 (by omega) ?_
                  refine pf_stack rfl dX12_puts_241 hMG43 (fun G44 eG44 hMG44 => ?_)
                  have hFG44 : Fr nX12_puts jX12_puts G G44 := Fr.setF hFG43 eG44 (by decide)
                  refine s_goto (tgt := 32) dX12_puts_244 (by decide) ?_
                  refine s_mask [true, true, true, false, false, false, false, false, false] (lv' := [some (2, ((1000 : Nat) : Int)), some (0, w), some (0, t), none, none, none, none, none, none]) rfl ?_
                  obtain ⟨hJc, hmc, hfc⟩ := PJ.push (Gc := G44) hJ (by have z9 : r38 = -1 := (by omega); rw [← z9]; exact hPO) (Fr.call Fr.rf hfP (by decide) (by decide)) (Fr.setF (Fr.setA (Fr.setA Fr.rf eG42 (by decide)) eG43 (by decide)) eG44 (by decide))
                  have hss := hFs.ps hxN.1 hxN.2 (by omega) hz
                  have hpc := pc_sum (w := w) hss.1 hss.2.1 hss.2.2
                  have hp0 := pc_nn (w := w) hss.2.1
                  have hp1 := pc_nn (w := w) hss.2.2
                  have es1 : (gS G44 1000 36) = sp + 3 := by rw [gsaE eG44]; omega
                  have es2 : ∀ y, gS G44 a_stackOf y = if y = ((gS Gq 1000 36) + 1).toNat then gS G37 a_fA ((x).toNat) else if y = ((gS Gq 1000 36)).toNat then gS G37 a_fB ((x).toNat) else gS G37 a_stackOf y := fun y => by rw [gsnE eG44 (by decide), g_upd eG43, g_upd eG42]
                  have es3 : (gS G44 a_stackOf (sp + 2).toNat) = (gS G4 a_fA (x).toNat) := by rw [es2, if_pos (by omega)]; exact hsa
                  have es4 : (gS G44 a_stackOf (sp + 1).toNat) = (gS G4 a_fB (x).toNat) := by rw [es2, if_neg (by omega), if_pos (by omega)]; exact hsb
                  have es5 : ∀ j : Int, 0 ≤ j → j < sp + 1 → (gS G44 a_stackOf (j).toNat) = (gS Gq a_stackOf (j).toNat) := fun j j0 j1 => by rw [es2, if_neg (by omega), if_neg (by omega)]; exact hfP.atA (by decide) (by decide)
                  refine ih (gS G4 a_fA (x).toNat) (sp + 2) G44 (by omega) hMG44 hFG44 hJc (by omega) (by omega) (by omega) es3 ⟨by omega, by omega⟩ (by omega) (by omega) (fun q => (hok q).a (by omega)) (fun Ga hMa hFa hka => ?_)
                  refine ih (gS G4 a_fB (x).toNat) (sp + 1) Ga (by omega) hMa hFa hka.1 (by omega) (by omega) (by have := hka.2.1; omega) (by rw [hka.2.2.1 _ (by omega) (by omega)]; exact es4) ⟨by omega, by omega⟩ (by omega) (by have := hka.2.2.2.2.2; omega) (fun q => (hok q).b (by omega)) (fun Gb hMb hFb hkb => ?_)
                  refine Q x sp Gb hMb hFb hkb.1 ⟨by omega, by omega⟩ (by have := hkb.2.1; omega) (by rw [hkb.2.2.1 _ (by omega) (by omega), hka.2.2.1 _ (by omega) (by omega), es5 _ (by omega) (by omega)]; exact hst) hxN (by have := hka.2.2.2.2.2; have := hkb.2.2.2.2.2; omega) (Or.inr (Or.inr ⟨hkb.2.2.2.2.1 _ (by omega) (by omega) hka.2.2.2.1, hkb.2.2.2.1⟩)) hok (fun Gd hMd hFd hkd => hk Gd hMd hFd ?_)
                  exact PK.join hmc hfc (fun j j0 j1 => es5 j j0 (by omega)) hka hkb (hkd.weak if_le1) hpc
                · -- 144 to 147
                  refine s_iload dX12_puts_147 rfl ?_
                  refine s_iconst dX12_puts_149 (by decide) ?_
                  refine s_icmp_eq (tgt := 158) dX12_puts_150 (by decide) (fun c45 => ?_) (fun c45 => ?_)
                  · -- 150 to 158
                    have hja := hJ.2.2.2.2.2.2 (gS G37 a_fA ((x).toNat)) (by omega) (by omega) (by omega)
                    have hjb := hJ.2.2.2.2.2.2 (gS G37 a_fB ((x).toNat)) (by omega) (by omega) (by omega)
                    refine s_aload_n dX12_puts_158 rfl (Int.natCast_nonneg _) ?_
                    refine s_iconst dX12_puts_159 (by decide) ?_
                    refine s_aload_n dX12_puts_160 rfl (Int.natCast_nonneg _) ?_
                    refine gf_fMemo rfl dX12_puts_161 hMG37 ?_
                    refine s_iload dX12_puts_164 rfl ?_
                    refine s_iald dX12_puts_166 (mg_a_fMemo hMG37) (by omega) (by omega) (Fr.atA hfG37 (by decide) (by decide)) ?_
                    refine s_aload_n dX12_puts_167 rfl (Int.natCast_nonneg _) ?_
                    refine gf_fMemo rfl dX12_puts_168 hMG37 ?_
                    refine s_iload dX12_puts_171 rfl ?_
                    refine s_iald dX12_puts_173 (mg_a_fMemo hMG37) (by omega) (by omega) (Fr.atA hfG37 (by decide) (by decide)) ?_
                    refine cv_X12_338 rfl gX12_full dX12_puts_174 hMG37 (by rw [hcf]; decide) (as := [(0, 3), (0, gS Gq a_fMemo ((gS G37 a_fA ((x).toNat)).toNat)), (0, gS Gq a_fMemo ((gS G37 a_fB ((x).toNat)).toNat))]) rfl (Nat.le_of_ble_eq_true rfl) ⟨3, gS Gq a_fMemo ((gS G37 a_fA ((x).toNat)).toNat), gS Gq a_fMemo ((gS G37 a_fB ((x).toNat)).toNat), rfl, hMG37, (by exact hPO.1), (by omega), (by omega), (by omega), (by omega), (by omega), fun r47 G46 hMG46 hpG46 => ?_⟩
                    obtain ⟨hfG46, hpG46⟩ := hpG46
                    have hFG46 : Fr nX12_puts jX12_puts G G46 := Fr.call hFG37 hfG46 (by decide) (by decide)
                    show WP kX12_puts X 177 [some (2, ((1000 : Nat) : Int)), some (0, w), some (0, t), some (0, x), some (0, r38), some (0, gS G37 a_fA ((x).toNat)), some (0, gS G37 a_fB ((x).toNat)), some (0, z39), none] [(0, r47)] G46
                    refine s_istore dX12_puts_177 (by decide) (lv' := [some (2, ((1000 : Nat) : Int)), some (0, w), some (0, t), some (0, x), some (0, r38), some (0, gS G37 a_fA ((x).toNat)), some (0, gS G37 a_fB ((x).toNat)), some (0, z39), some (0, r47)]) rfl ?_
                    refine s_aload_n dX12_puts_179 rfl (Int.natCast_nonneg _) ?_
                    refine gf_fMemo rfl dX12_puts_180 hMG46 ?_
                    refine s_iload_n dX12_puts_183 rfl ?_
                    refine s_iload dX12_puts_184 rfl ?_
                    refine r_iast dX12_puts_186 hMG46 (mg_a_fMemo hMG46) (by decide) (by omega) (by omega) (fun G48 eG48 hMG48 => ?_)
                    have hFG48 : Fr nX12_puts jX12_puts G G48 := Fr.setA hFG46 eG48 (by decide)
                    show WP kX12_puts X 187 [some (2, ((1000 : Nat) : Int)), some (0, w), some (0, t), some (0, x), some (0, r38), some (0, gS G37 a_fA ((x).toNat)), some (0, gS G37 a_fB ((x).toNat)), some (0, z39), some (0, r47)] [] G48
                    refine s_aload_n dX12_puts_187 rfl (Int.natCast_nonneg _) ?_
                    refine gf_fMark rfl dX12_puts_188 hMG48 ?_
                    refine s_iload_n dX12_puts_191 rfl ?_
                    refine s_aload_n dX12_puts_192 rfl (Int.natCast_nonneg _) ?_
                    refine gf_mark rfl dX12_puts_193 hMG48 (Eq.trans (gsnE eG48 (by decide)) (Eq.trans (Fr.atF hfG46 (by decide) (by decide)) (Fr.atF hfG37 (by decide) (by decide)))) ?_
                    refine r_iast dX12_puts_196 hMG48 (mg_a_fMark hMG48) (by decide) (by omega) (by omega) (fun G49 eG49 hMG49 => ?_)
                    have hFG49 : Fr nX12_puts jX12_puts G G49 := Fr.setA hFG48 eG49 (by decide)
                    show WP kX12_puts X 197 [some (2, ((1000 : Nat) : Int)), some (0, w), some (0, t), some (0, x), some (0, r38), some (0, gS G37 a_fA ((x).toNat)), some (0, gS G37 a_fB ((x).toNat)), some (0, z39), some (0, r47)] [] G49
                    refine s_aload_n dX12_puts_197 rfl (Int.natCast_nonneg _) ?_
                    refine s_dup dX12_puts_198 (by decide) ?_
                    refine gf_stack rfl dX12_puts_199 hMG49 (Eq.trans (gsnE eG49 (by decide)) (Eq.trans (gsnE eG48 (by decide)) (Eq.trans (Fr.atF hfG46 (by decide) (by decide)) (Fr.atF hfG37 (by decide) (by decide))))) ?_
                    refine s_iconst dX12_puts_202 (by decide) ?_
                    refine s_isub dX12_puts_203 (by omega) ?_
                    refine pf_stack rfl dX12_puts_204 hMG49 (fun G50 eG50 hMG50 => ?_)
                    have hFG50 : Fr nX12_puts jX12_puts G G50 := Fr.setF hFG49 eG50 (by decide)
                    refine s_goto (tgt := 244) dX12_puts_207 (by decide) ?_
                    refine s_goto (tgt := 32) dX12_puts_244 (by decide) ?_
                    refine s_mask [true, true, true, false, false, false, false, false, false] (lv' := [some (2, ((1000 : Nat) : Int)), some (0, w), some (0, t), none, none, none, none, none, none]) rfl ?_
                    obtain ⟨u1, ⟨u2, u3, u4⟩, u5, u6, u7, u8, u9⟩ := hpG46
                    have aT9 : Agr thA thJ G37 G46 := hfG46.agr (by decide) (by decide) (by decide)
                    have hfr9 : Fr nPut [26, 42] Gq G46 := Fr.call (Fr.call Fr.rf hfP (by decide) (by decide)) hfG46 (by decide) (by decide)
                    have hX9 : FX Gq G46 := hPO.2.1.trans u5
                    have hY9 : TX Gq G46 := hPO.2.2.2.1.trans (TX.agr aT9)
                    have hS9 : PS G4 G46 P w x r47 := PS.pair hFs hxN u1 ⟨u2, u3⟩ (by omega) u7 (by rw [← hsa]; exact hja.2.mono hFq hja.1 hX9 hY9) (by rw [← hsb]; exact hjb.2.mono hFq hjb.1 hX9 hY9) u8 u9
                    have hPK : PK G4 Gq G50 Hs P w x sp (if w = 0 ∧ ¬ (gS G4 a_fKind (x).toNat) = 3 then 0 else 1) := PJ.done hJ hxN (hfr := hfr9) u1 hX9 (hPO.2.2.1.agr aT9) hY9 (fun j j0 j1 => (u6 j j0 (by omega)).trans (hPO.2.2.2.2.1 j j0 j1)) ⟨u2, u3⟩ hS9 (by rw [if_neg (fun q9 => q9.2 (by omega))]; omega) (G2 := G48) (G3 := G49) (e2 := eG48) (e3 := by rw [eG49]; try (congr 1 <;> omega)) (e4 := by rw [eG50]; try (congr 1 <;> omega))
                    exact hk G50 hMG50 hFG50 (hPK.weak hpz.2)
                  · -- 150 to 153
                    exact absurd hone c45
              refine s_icmp_ne (tgt := 135) dX12_puts_104 (by decide) (fun c51 => ?_) (fun c51 => ?_)
              · -- 104 to 135
                refine s_iconst dX12_puts_135 (by decide) ?_
                refine s_goto (tgt := 140) dX12_puts_136 (by decide) ?_
                exact J40 1 (Or.inl ⟨c51, rfl⟩)
              · -- 104 to 107
                refine s_aload_n dX12_puts_107 rfl (Int.natCast_nonneg _) ?_
                refine gf_fMark rfl dX12_puts_108 hMG37 ?_
                refine s_iload dX12_puts_111 rfl ?_
                refine s_iald dX12_puts_113 (mg_a_fMark hMG37) (by omega) (by omega) rfl ?_
                refine s_aload_n dX12_puts_114 rfl (Int.natCast_nonneg _) ?_
                refine gf_mark rfl dX12_puts_115 hMG37 (Fr.atF hfG37 (by decide) (by decide)) ?_
                refine s_icmp_ne (tgt := 139) dX12_puts_118 (by decide) (fun c52 => ?_) (fun c52 => ?_)
                · -- 118 to 139
                  refine s_iconst dX12_puts_139 (by decide) ?_
                  exact J40 0 (Or.inr (Or.inl ⟨c51, c52, rfl⟩))
                · -- 118 to 121
                  refine s_aload_n dX12_puts_121 rfl (Int.natCast_nonneg _) ?_
                  refine gf_fMark rfl dX12_puts_122 hMG37 ?_
                  refine s_iload dX12_puts_125 rfl ?_
                  refine s_iald dX12_puts_127 (mg_a_fMark hMG37) (by omega) (by omega) rfl ?_
                  refine s_aload_n dX12_puts_128 rfl (Int.natCast_nonneg _) ?_
                  refine gf_mark rfl dX12_puts_129 hMG37 (Fr.atF hfG37 (by decide) (by decide)) ?_
                  refine s_icmp_ne (tgt := 139) dX12_puts_132 (by decide) (fun c53 => ?_) (fun c53 => ?_)
                  · -- 132 to 139
                    refine s_iconst dX12_puts_139 (by decide) ?_
                    exact J40 0 (Or.inr (Or.inr (Or.inl ⟨c51, c52, c53, rfl⟩)))
                  · -- 132 to 135
                    refine s_iconst dX12_puts_135 (by decide) ?_
                    refine s_goto (tgt := 140) dX12_puts_136 (by decide) ?_
                    exact J40 1 (Or.inr (Or.inr (Or.inr (⟨c51, c52, c53, rfl⟩))))
            · -- case
              have hcp := hPO.2.2.2.2.2.2.1
              have hr1 := hPO.2.2.2.2.2.1
              refine s_iload dX12_puts_101 rfl ?_
              refine s_iconst dX12_puts_103 (by decide) ?_
              have J55 : ∀ z54 : Int, ((¬ r38 = ((-1))) ∧ z54 = 1) ∨ ((r38 = ((-1))) ∧ (¬ (gS G37 a_fMark ((gS G37 a_fA ((x).toNat)).toNat)) = (gS Gq 1000 35)) ∧ z54 = 0) ∨ ((r38 = ((-1))) ∧ ((gS G37 a_fMark ((gS G37 a_fA ((x).toNat)).toNat)) = (gS Gq 1000 35)) ∧ (¬ (gS G37 a_fMark ((gS G37 a_fB ((x).toNat)).toNat)) = (gS Gq 1000 35)) ∧ z54 = 0) ∨ ((r38 = ((-1))) ∧ ((gS G37 a_fMark ((gS G37 a_fA ((x).toNat)).toNat)) = (gS Gq 1000 35)) ∧ ((gS G37 a_fMark ((gS G37 a_fB ((x).toNat)).toNat)) = (gS Gq 1000 35)) ∧ z54 = 1) → WP kX12_puts X 140 [some (2, ((1000 : Nat) : Int)), some (0, w), some (0, t), some (0, x), some (0, r38), some (0, gS G37 a_fA ((x).toNat)), some (0, gS G37 a_fB ((x).toNat)), none, none] [(0, z54)] G37 := by
                intro z54 hz54
                refine s_istore dX12_puts_140 (by decide) (lv' := [some (2, ((1000 : Nat) : Int)), some (0, w), some (0, t), some (0, x), some (0, r38), some (0, gS G37 a_fA ((x).toNat)), some (0, gS G37 a_fB ((x).toNat)), some (0, z54), none]) rfl ?_
                refine s_iload dX12_puts_142 rfl ?_
                refine s_if_eq (tgt := 210) dX12_puts_144 (by decide) (fun c56 => ?_) (fun c56 => ?_)
                · -- 144 to 210
                  exfalso; omega
                · -- 144 to 147
                  refine s_iload dX12_puts_147 rfl ?_
                  refine s_iconst dX12_puts_149 (by decide) ?_
                  refine s_icmp_eq (tgt := 158) dX12_puts_150 (by decide) (fun c57 => ?_) (fun c57 => ?_)
                  · -- 150 to 158
                    exact absurd c57 hone
                  · -- 150 to 153
                    refine s_iload dX12_puts_153 rfl ?_
                    refine s_goto (tgt := 177) dX12_puts_155 (by decide) ?_
                    refine s_istore dX12_puts_177 (by decide) (lv' := [some (2, ((1000 : Nat) : Int)), some (0, w), some (0, t), some (0, x), some (0, r38), some (0, gS G37 a_fA ((x).toNat)), some (0, gS G37 a_fB ((x).toNat)), some (0, z54), some (0, r38)]) rfl ?_
                    refine s_aload_n dX12_puts_179 rfl (Int.natCast_nonneg _) ?_
                    refine gf_fMemo rfl dX12_puts_180 hMG37 ?_
                    refine s_iload_n dX12_puts_183 rfl ?_
                    refine s_iload dX12_puts_184 rfl ?_
                    refine r_iast dX12_puts_186 hMG37 (mg_a_fMemo hMG37) (by decide) (by omega) (by omega) (fun G58 eG58 hMG58 => ?_)
                    have hFG58 : Fr nX12_puts jX12_puts G G58 := Fr.setA hFG37 eG58 (by decide)
                    show WP kX12_puts X 187 [some (2, ((1000 : Nat) : Int)), some (0, w), some (0, t), some (0, x), some (0, r38), some (0, gS G37 a_fA ((x).toNat)), some (0, gS G37 a_fB ((x).toNat)), some (0, z54), some (0, r38)] [] G58
                    refine s_aload_n dX12_puts_187 rfl (Int.natCast_nonneg _) ?_
                    refine gf_fMark rfl dX12_puts_188 hMG58 ?_
                    refine s_iload_n dX12_puts_191 rfl ?_
                    refine s_aload_n dX12_puts_192 rfl (Int.natCast_nonneg _) ?_
                    refine gf_mark rfl dX12_puts_193 hMG58 (Eq.trans (gsnE eG58 (by decide)) (Fr.atF hfG37 (by decide) (by decide))) ?_
                    refine r_iast dX12_puts_196 hMG58 (mg_a_fMark hMG58) (by decide) (by omega) (by omega) (fun G59 eG59 hMG59 => ?_)
                    have hFG59 : Fr nX12_puts jX12_puts G G59 := Fr.setA hFG58 eG59 (by decide)
                    show WP kX12_puts X 197 [some (2, ((1000 : Nat) : Int)), some (0, w), some (0, t), some (0, x), some (0, r38), some (0, gS G37 a_fA ((x).toNat)), some (0, gS G37 a_fB ((x).toNat)), some (0, z54), some (0, r38)] [] G59
                    refine s_aload_n dX12_puts_197 rfl (Int.natCast_nonneg _) ?_
                    refine s_dup dX12_puts_198 (by decide) ?_
                    refine gf_stack rfl dX12_puts_199 hMG59 (Eq.trans (gsnE eG59 (by decide)) (Eq.trans (gsnE eG58 (by decide)) (Fr.atF hfG37 (by decide) (by decide)))) ?_
                    refine s_iconst dX12_puts_202 (by decide) ?_
                    refine s_isub dX12_puts_203 (by omega) ?_
                    refine pf_stack rfl dX12_puts_204 hMG59 (fun G60 eG60 hMG60 => ?_)
                    have hFG60 : Fr nX12_puts jX12_puts G G60 := Fr.setF hFG59 eG60 (by decide)
                    refine s_goto (tgt := 244) dX12_puts_207 (by decide) ?_
                    refine s_goto (tgt := 32) dX12_puts_244 (by decide) ?_
                    refine s_mask [true, true, true, false, false, false, false, false, false] (lv' := [some (2, ((1000 : Nat) : Int)), some (0, w), some (0, t), none, none, none, none, none, none]) rfl ?_
                    have hPK : PK G4 Gq G60 Hs P w x sp (if w = 0 ∧ ¬ (gS G4 a_fKind (x).toNat) = 3 then 0 else 1) := PJ.done hJ hxN (hfr := Fr.call Fr.rf hfP (by decide) (by decide)) hPO.1 hPO.2.1 hPO.2.2.1 hPO.2.2.2.1 hPO.2.2.2.2.1 ⟨by omega, hPO.2.2.2.2.2.1.2⟩ (PS.of hJ hFs h0s hxN hPO (by omega)) hPO.c (G2 := G58) (G3 := G59) (e2 := eG58) (e3 := by rw [eG59]; try (congr 1 <;> omega)) (e4 := by rw [eG60]; try (congr 1 <;> omega))
                    exact hk G60 hMG60 hFG60 (hPK.weak hpz.2)
              refine s_icmp_ne (tgt := 135) dX12_puts_104 (by decide) (fun c61 => ?_) (fun c61 => ?_)
              · -- 104 to 135
                refine s_iconst dX12_puts_135 (by decide) ?_
                refine s_goto (tgt := 140) dX12_puts_136 (by decide) ?_
                exact J55 1 (Or.inl ⟨c61, rfl⟩)
              · -- 104 to 107
                refine s_aload_n dX12_puts_107 rfl (Int.natCast_nonneg _) ?_
                refine gf_fMark rfl dX12_puts_108 hMG37 ?_
                refine s_iload dX12_puts_111 rfl ?_
                refine s_iald dX12_puts_113 (mg_a_fMark hMG37) (by omega) (by omega) rfl ?_
                refine s_aload_n dX12_puts_114 rfl (Int.natCast_nonneg _) ?_
                refine gf_mark rfl dX12_puts_115 hMG37 (Fr.atF hfG37 (by decide) (by decide)) ?_
                refine s_icmp_ne (tgt := 139) dX12_puts_118 (by decide) (fun c62 => ?_) (fun c62 => ?_)
                · -- 118 to 139
                  refine s_iconst dX12_puts_139 (by decide) ?_
                  exact J55 0 (Or.inr (Or.inl ⟨c61, c62, rfl⟩))
                · -- 118 to 121
                  refine s_aload_n dX12_puts_121 rfl (Int.natCast_nonneg _) ?_
                  refine gf_fMark rfl dX12_puts_122 hMG37 ?_
                  refine s_iload dX12_puts_125 rfl ?_
                  refine s_iald dX12_puts_127 (mg_a_fMark hMG37) (by omega) (by omega) rfl ?_
                  refine s_aload_n dX12_puts_128 rfl (Int.natCast_nonneg _) ?_
                  refine gf_mark rfl dX12_puts_129 hMG37 (Fr.atF hfG37 (by decide) (by decide)) ?_
                  refine s_icmp_ne (tgt := 139) dX12_puts_132 (by decide) (fun c63 => ?_) (fun c63 => ?_)
                  · -- 132 to 139
                    refine s_iconst dX12_puts_139 (by decide) ?_
                    exact J55 0 (Or.inr (Or.inr (Or.inl ⟨c61, c62, c63, rfl⟩)))
                  · -- 132 to 135
                    refine s_iconst dX12_puts_135 (by decide) ?_
                    refine s_goto (tgt := 140) dX12_puts_136 (by decide) ?_
                    exact J55 1 (Or.inr (Or.inr (Or.inr (⟨c61, c62, c63, rfl⟩))))
          · -- 61 to 64
            refine s_aload_n dX12_puts_64 rfl (Int.natCast_nonneg _) ?_
            refine s_dup dX12_puts_65 (by decide) ?_
            refine gf_stack rfl dX12_puts_66 hMGq rfl ?_
            refine s_iconst dX12_puts_69 (by decide) ?_
            refine s_isub dX12_puts_70 (by omega) ?_
            refine pf_stack rfl dX12_puts_71 hMGq (fun G64 eG64 hMG64 => ?_)
            have hFG64 : Fr nX12_puts jX12_puts G G64 := Fr.setF hFGq eG64 (by decide)
            refine s_goto (tgt := 244) dX12_puts_74 (by decide) ?_
            refine s_goto (tgt := 32) dX12_puts_244 (by decide) ?_
            refine s_mask [true, true, true, false, false, false, false, false, false] (lv' := [some (2, ((1000 : Nat) : Int)), some (0, w), some (0, t), none, none, none, none, none, none]) rfl ?_
            exact absurd (Or.inl (by omega)) hrd
  have hxt := (hX0.2 t ht.1 ht.2).2.2.2
  rw [← hxt] at hz hc
  refine R ((gS G4 1000 26)).toNat t 0 G4 (by omega) hMG4 hFG4 hJ0 (by omega) (by omega) (by rw [(gsaE eG4)] <;> rfl) (by rw [(Eq.trans (gsnE eG4 (by decide)) (gsaE eG3))] <;> rfl) ⟨ht.1, by omega⟩ (by omega) (by omega) hoks (fun Gz hMGz hFGz hkz => ?_)
  have hz0 := hkz.2.1
  have hmz := hkz.1.2.2.2.2.2.2 t ht.1 (by omega) hkz.2.2.2.1
  have hm35 : (gS G4 1000 35) = (gS G 1000 35) + 1 := by rw [(Eq.trans (gsjE eG4 (by decide)) (Eq.trans (gsnE eG3 (by decide)) (Eq.trans (gsjE eG2 (by decide)) (gsaE eG1))))]
  refine s_aload_n dX12_puts_32 rfl (Int.natCast_nonneg _) ?_
  refine gf_stack rfl dX12_puts_33 hMGz rfl ?_
  refine s_if_le (tgt := 247) dX12_puts_36 (by decide) (fun c65 => ?_) (fun c65 => ?_)
  · -- 36 to 247
    refine s_aload_n dX12_puts_247 rfl (Int.natCast_nonneg _) ?_
    refine gf_fMemo rfl dX12_puts_248 hMGz ?_
    refine s_iload_n dX12_puts_251 rfl ?_
    refine s_iald dX12_puts_252 (mg_a_fMemo hMGz) (by omega) (by omega) rfl ?_
    exact s_iret hR dX12_puts_253 rfl (hQ _ Gz hMGz (⟨hFGz, ⟨hkz.1.1, hX0.trans hkz.1.2.1, hkz.1.2.2.1, hT0.trans hkz.1.2.2.2.1, hmz.1, by have z9 := hkz.2.2.2.2.2; rw [hxt] at z9; omega, by have := hkz.1.2.2.2.2.1; omega, hmz.2.base hFU hX0 hB0 h0 ht⟩⟩))
  · -- 36 to 39
    exfalso; omega
