abbrev nX12_putsOne : List Nat := [a_fKind, a_fA, a_fB, a_fSize, a_fNext, a_fHead, a_fMark, a_thingKind, a_thingA, a_thingB, a_thingC, a_thingNext, a_thingHead]
abbrev jX12_putsOne : List Nat := [26, 42]
def TX12_putsOne : TR := fun as G Qr => ∃ (w i : Int) (Hs : List (Int → Int)) (v : Int → Int) (P : Int → Prop), as = [(2, ((1000 : Nat) : Int)), (0, w), (0, i)] ∧ MG G ∧ (FU G) ∧ (TH G Hs) ∧ (v ∈ Hs) ∧ (0 ≤ i ∧ i < (gS G 1000 26)) ∧ (0 ≤ w ∧ w ≤ 2) ∧ ((gS G 1000 26) < 150000) ∧ (w = 0 → ∀ k : Int, 0 ≤ k → k < 6 → -1 ≤ (gS G a_by (k).toNat) ∧ (gS G a_by (k).toNat) < (gS G 1000 26)) ∧ (w = 2 → ∀ k : Int, 0 ≤ k → k < 6 → 0 ≤ (gS G a_by (k).toNat) → 0 ≤ (gS G a_byStamp (k).toNat) ∧ (gS G a_byStamp (k).toNat) < (gS G 1000 42)) ∧ (w = 1 → okS G P i ∧ mayA G v P) ∧ ∀ (r : Int) (G' : LG), MG G' → (Fr nX12_putsOne jX12_putsOne G G' ∧ (PO G G' Hs P w i r)) → Qr (.inl (some (0, r))) G'
set_option maxHeartbeats 4000000 in
set_option maxRecDepth 100000 in
theorem gX12_putsOne : Good kX12_putsOne yX12_putsOne 2 TX12_putsOne := by
  refine good_of (by decide) rfl rfl (fun as G Qr h => ?_) (fun X as G Qr hcf hR hT oa => ?_)
  · obtain ⟨w, i, Hs, v, P, rfl, -⟩ := h; exact Nat.le_of_ble_eq_true rfl
  obtain ⟨w, i, Hs, v, P, rfl, hM, hFU, hTH, hv, hi, hw, hc, h0, h2, h1, hQ⟩ := hT
  show WP kX12_putsOne X 0 [some (2, ((1000 : Nat) : Int)), some (0, w), some (0, i), none] [] G
  have hr_w : inR w := okv_R (oa _ (by simp))
  have hr_i : inR i := okv_R (oa _ (by simp))
  have hent := hFU.2.2.2.2 i hi.1 hi.2
  have hf := hFU.1
  refine s_iload_n dX12_putsOne_0 rfl ?_
  refine s_iconst dX12_putsOne_1 (by decide) ?_
  refine s_icmp_ne (tgt := 42) dX12_putsOne_2 (by decide) (fun c1 => ?_) (fun c1 => ?_)
  · -- 2 to 42
    refine s_aload_n dX12_putsOne_42 rfl (Int.natCast_nonneg _) ?_
    refine gf_fKind rfl dX12_putsOne_43 hM ?_
    refine s_iload_n dX12_putsOne_46 rfl ?_
    refine s_iald dX12_putsOne_47 (mg_a_fKind hM) (by omega) (by omega) rfl ?_
    refine s_iconst dX12_putsOne_48 (by decide) ?_
    refine s_icmp_ne (tgt := 54) dX12_putsOne_49 (by decide) (fun c2 => ?_) (fun c2 => ?_)
    · -- 49 to 54
      refine s_iload_n dX12_putsOne_54 rfl ?_
      refine s_if_ne (tgt := 99) dX12_putsOne_55 (by decide) (fun c3 => ?_) (fun c3 => ?_)
      · -- 55 to 99
        refine s_iload_n dX12_putsOne_99 rfl ?_
        refine s_iconst dX12_putsOne_100 (by decide) ?_
        refine s_icmp_ne (tgt := 141) dX12_putsOne_101 (by decide) (fun c4 => ?_) (fun c4 => ?_)
        · -- 101 to 141
          refine s_iload_n dX12_putsOne_141 rfl ?_
          exact s_iret hR dX12_putsOne_142 rfl (hQ _ G hM (⟨Fr.rf, PO.its hFU hTH hi (by omega) (fun q => by omega)⟩))
        · -- 101 to 104
          refine s_aload_n dX12_putsOne_104 rfl (Int.natCast_nonneg _) ?_
          refine gf_fKind rfl dX12_putsOne_105 hM ?_
          refine s_iload_n dX12_putsOne_108 rfl ?_
          refine s_iald dX12_putsOne_109 (mg_a_fKind hM) (by omega) (by omega) rfl ?_
          refine s_iconst dX12_putsOne_110 (by decide) ?_
          refine s_icmp_ne (tgt := 141) dX12_putsOne_111 (by decide) (fun c5 => ?_) (fun c5 => ?_)
          · -- 111 to 141
            refine s_iload_n dX12_putsOne_141 rfl ?_
            exact s_iret hR dX12_putsOne_142 rfl (hQ _ G hM (⟨Fr.rf, PO.its hFU hTH hi (by omega) (fun q => by omega)⟩))
          · -- 111 to 114
            refine s_aload_n dX12_putsOne_114 rfl (Int.natCast_nonneg _) ?_
            refine s_iconst dX12_putsOne_115 (by decide) ?_
            refine s_aload_n dX12_putsOne_116 rfl (Int.natCast_nonneg _) ?_
            refine s_aload_n dX12_putsOne_117 rfl (Int.natCast_nonneg _) ?_
            refine gf_stampKind rfl dX12_putsOne_118 hM rfl ?_
            refine s_aload_n dX12_putsOne_121 rfl (Int.natCast_nonneg _) ?_
            refine gf_stampOf rfl dX12_putsOne_122 hM rfl ?_
            refine s_aload_n dX12_putsOne_125 rfl (Int.natCast_nonneg _) ?_
            refine gf_fA rfl dX12_putsOne_126 hM ?_
            refine s_iload_n dX12_putsOne_129 rfl ?_
            refine s_iald dX12_putsOne_130 (mg_a_fA hM) (by omega) (by omega) rfl ?_
            have hy := h1 (by omega)
            have hz := hent.2.2.1 (by omega)
            have hmay := hy.2 _ (hy.1.s (by omega))
            refine cv_X12_348 rfl gX12_stamp dX12_putsOne_131 hM (by rw [hcf]; decide) (as := [(0, gS G 1000 40), (0, gS G 1000 41), (0, gS G a_fA ((i).toNat))]) rfl (Nat.le_of_ble_eq_true rfl) ⟨gS G 1000 40, gS G 1000 41, gS G a_fA ((i).toNat), Hs, v, rfl, hM, (by exact hTH), (by exact hv), (by exact hmay), fun r7 G6 hMG6 hpG6 => ?_⟩
            obtain ⟨hfG6, hpG6⟩ := hpG6
            have hFG6 : Fr nX12_putsOne jX12_putsOne G G6 := Fr.call Fr.rf hfG6 (by decide) (by decide)
            show WP kX12_putsOne X 134 [some (2, ((1000 : Nat) : Int)), some (0, w), some (0, i), none] [(0, r7), (0, 2), (2, ((1000 : Nat) : Int))] G6
            have ag1 : Agr tabA [26, 35] G G6 := hfG6.agr (by decide) (by decide) (by decide)
            have hFU1 : FU G6 := hFU.agr ag1 hpG6.2.1.1
            have e26 : (gS G6 1000 26) = (gS G 1000 26) := ag1.f (by decide)
            have hk9 := hpG6.2.2.1.1
            refine s_iconst dX12_putsOne_134 (by decide) ?_
            refine cv_X12_338 rfl gX12_full dX12_putsOne_135 hMG6 (by rw [hcf]; decide) (as := [(0, 2), (0, r7), (0, 0)]) rfl (Nat.le_of_ble_eq_true rfl) ⟨2, r7, 0, rfl, hMG6, (by exact hFU1), (by first | assumption | omega), (by first | assumption | omega), (by first | assumption | omega), (by first | assumption | omega), (by first | assumption | omega), fun r9 G8 hMG8 hpG8 => ?_⟩
            obtain ⟨hfG8, hpG8⟩ := hpG8
            have hFG8 : Fr nX12_putsOne jX12_putsOne G G8 := Fr.call hFG6 hfG8 (by decide) (by decide)
            show WP kX12_putsOne X 138 [some (2, ((1000 : Nat) : Int)), some (0, w), some (0, i), none] [(0, r9)] G8
            refine s_goto (tgt := 142) dX12_putsOne_138 (by decide) ?_
            exact s_iret hR dX12_putsOne_142 rfl (hQ _ G8 hMG8 (⟨hFG8, PO.stamp hFU (by omega) hi hy.1 (by omega) hfG6 hpG6 hfG8 hpG8⟩))
      · -- 55 to 58
        refine s_aload_n dX12_putsOne_58 rfl (Int.natCast_nonneg _) ?_
        refine gf_fKind rfl dX12_putsOne_59 hM ?_
        refine s_iload_n dX12_putsOne_62 rfl ?_
        refine s_iald dX12_putsOne_63 (mg_a_fKind hM) (by omega) (by omega) rfl ?_
        refine s_iconst dX12_putsOne_64 (by decide) ?_
        refine s_icmp_ne (tgt := 99) dX12_putsOne_65 (by decide) (fun c10 => ?_) (fun c10 => ?_)
        · -- 65 to 99
          refine s_iload_n dX12_putsOne_99 rfl ?_
          refine s_iconst dX12_putsOne_100 (by decide) ?_
          refine s_icmp_ne (tgt := 141) dX12_putsOne_101 (by decide) (fun c11 => ?_) (fun c11 => ?_)
          · -- 101 to 141
            refine s_iload_n dX12_putsOne_141 rfl ?_
            exact s_iret hR dX12_putsOne_142 rfl (hQ _ G hM (⟨Fr.rf, PO.its hFU hTH hi (by omega) (fun q => by omega)⟩))
          · -- 101 to 104
            refine s_aload_n dX12_putsOne_104 rfl (Int.natCast_nonneg _) ?_
            refine gf_fKind rfl dX12_putsOne_105 hM ?_
            refine s_iload_n dX12_putsOne_108 rfl ?_
            refine s_iald dX12_putsOne_109 (mg_a_fKind hM) (by omega) (by omega) rfl ?_
            refine s_iconst dX12_putsOne_110 (by decide) ?_
            refine s_icmp_ne (tgt := 141) dX12_putsOne_111 (by decide) (fun c12 => ?_) (fun c12 => ?_)
            · -- 111 to 141
              refine s_iload_n dX12_putsOne_141 rfl ?_
              exact s_iret hR dX12_putsOne_142 rfl (hQ _ G hM (⟨Fr.rf, PO.its hFU hTH hi (by omega) (fun q => by omega)⟩))
            · -- 111 to 114
              refine s_aload_n dX12_putsOne_114 rfl (Int.natCast_nonneg _) ?_
              refine s_iconst dX12_putsOne_115 (by decide) ?_
              refine s_aload_n dX12_putsOne_116 rfl (Int.natCast_nonneg _) ?_
              refine s_aload_n dX12_putsOne_117 rfl (Int.natCast_nonneg _) ?_
              refine gf_stampKind rfl dX12_putsOne_118 hM rfl ?_
              refine s_aload_n dX12_putsOne_121 rfl (Int.natCast_nonneg _) ?_
              refine gf_stampOf rfl dX12_putsOne_122 hM rfl ?_
              refine s_aload_n dX12_putsOne_125 rfl (Int.natCast_nonneg _) ?_
              refine gf_fA rfl dX12_putsOne_126 hM ?_
              refine s_iload_n dX12_putsOne_129 rfl ?_
              refine s_iald dX12_putsOne_130 (mg_a_fA hM) (by omega) (by omega) rfl ?_
              have hy := h1 (by omega)
              have hz := hent.2.2.1 (by omega)
              have hmay := hy.2 _ (hy.1.s (by omega))
              refine cv_X12_348 rfl gX12_stamp dX12_putsOne_131 hM (by rw [hcf]; decide) (as := [(0, gS G 1000 40), (0, gS G 1000 41), (0, gS G a_fA ((i).toNat))]) rfl (Nat.le_of_ble_eq_true rfl) ⟨gS G 1000 40, gS G 1000 41, gS G a_fA ((i).toNat), Hs, v, rfl, hM, (by exact hTH), (by exact hv), (by exact hmay), fun r14 G13 hMG13 hpG13 => ?_⟩
              obtain ⟨hfG13, hpG13⟩ := hpG13
              have hFG13 : Fr nX12_putsOne jX12_putsOne G G13 := Fr.call Fr.rf hfG13 (by decide) (by decide)
              show WP kX12_putsOne X 134 [some (2, ((1000 : Nat) : Int)), some (0, w), some (0, i), none] [(0, r14), (0, 2), (2, ((1000 : Nat) : Int))] G13
              have ag1 : Agr tabA [26, 35] G G13 := hfG13.agr (by decide) (by decide) (by decide)
              have hFU1 : FU G13 := hFU.agr ag1 hpG13.2.1.1
              have e26 : (gS G13 1000 26) = (gS G 1000 26) := ag1.f (by decide)
              have hk9 := hpG13.2.2.1.1
              refine s_iconst dX12_putsOne_134 (by decide) ?_
              refine cv_X12_338 rfl gX12_full dX12_putsOne_135 hMG13 (by rw [hcf]; decide) (as := [(0, 2), (0, r14), (0, 0)]) rfl (Nat.le_of_ble_eq_true rfl) ⟨2, r14, 0, rfl, hMG13, (by exact hFU1), (by first | assumption | omega), (by first | assumption | omega), (by first | assumption | omega), (by first | assumption | omega), (by first | assumption | omega), fun r16 G15 hMG15 hpG15 => ?_⟩
              obtain ⟨hfG15, hpG15⟩ := hpG15
              have hFG15 : Fr nX12_putsOne jX12_putsOne G G15 := Fr.call hFG13 hfG15 (by decide) (by decide)
              show WP kX12_putsOne X 138 [some (2, ((1000 : Nat) : Int)), some (0, w), some (0, i), none] [(0, r16)] G15
              refine s_goto (tgt := 142) dX12_putsOne_138 (by decide) ?_
              exact s_iret hR dX12_putsOne_142 rfl (hQ _ G15 hMG15 (⟨hFG15, PO.stamp hFU (by omega) hi hy.1 (by omega) hfG13 hpG13 hfG15 hpG15⟩))
        · -- 65 to 68
          have hz := hent.2.1 (by omega)
          have hb := h0 (by omega) ((gS G a_fA (i).toNat)) (by omega) (by omega)
          refine s_aload_n dX12_putsOne_68 rfl (Int.natCast_nonneg _) ?_
          refine gf_by rfl dX12_putsOne_69 hM ?_
          refine s_aload_n dX12_putsOne_72 rfl (Int.natCast_nonneg _) ?_
          refine gf_fA rfl dX12_putsOne_73 hM ?_
          refine s_iload_n dX12_putsOne_76 rfl ?_
          refine s_iald dX12_putsOne_77 (mg_a_fA hM) (by omega) (by omega) rfl ?_
          refine s_iald dX12_putsOne_78 (mg_a_by hM) (by omega) (by omega) rfl ?_
          refine s_iconst dX12_putsOne_79 (by decide) ?_
          have J18 : ∀ z17 : Int, ((¬ (gS G a_by ((gS G a_fA ((i).toNat)).toNat)) = ((-1))) ∧ z17 = gS G a_by ((gS G a_fA ((i).toNat)).toNat)) ∨ (((gS G a_by ((gS G a_fA ((i).toNat)).toNat)) = ((-1))) ∧ z17 = i) → WP kX12_putsOne X 98 [some (2, ((1000 : Nat) : Int)), some (0, w), some (0, i), none] [(0, z17)] G := by
            intro z17 hz17
            exact s_iret hR dX12_putsOne_98 rfl (hQ _ G hM (⟨Fr.rf, by rcases hz17 with ⟨q1, q2⟩ | ⟨q1, q2⟩; (rw [q2]; exact PO.by (k := (gS G a_fA (i).toNat)) hFU hTH (by omega) (by omega) (by omega) hi); (rw [q2]; exact PO.its hFU hTH hi (by omega) (fun q => by omega))⟩))
          refine s_icmp_ne (tgt := 87) dX12_putsOne_80 (by decide) (fun c19 => ?_) (fun c19 => ?_)
          · -- 80 to 87
            refine s_aload_n dX12_putsOne_87 rfl (Int.natCast_nonneg _) ?_
            refine gf_by rfl dX12_putsOne_88 hM ?_
            refine s_aload_n dX12_putsOne_91 rfl (Int.natCast_nonneg _) ?_
            refine gf_fA rfl dX12_putsOne_92 hM ?_
            refine s_iload_n dX12_putsOne_95 rfl ?_
            refine s_iald dX12_putsOne_96 (mg_a_fA hM) (by omega) (by omega) rfl ?_
            refine s_iald dX12_putsOne_97 (mg_a_by hM) (by omega) (by omega) rfl ?_
            exact J18 _ (Or.inl ⟨c19, rfl⟩)
          · -- 80 to 83
            refine s_iload_n dX12_putsOne_83 rfl ?_
            refine s_goto (tgt := 98) dX12_putsOne_84 (by decide) ?_
            exact J18 i (Or.inr (⟨c19, rfl⟩))
    · -- 49 to 52
      refine s_iconst dX12_putsOne_52 (by decide) ?_
      exact s_iret hR dX12_putsOne_53 rfl (hQ _ G hM (⟨Fr.rf, PO.none hFU hTH (by omega)⟩))
  · -- 2 to 5
    refine s_iconst dX12_putsOne_5 (by decide) ?_
    refine s_istore_n dX12_putsOne_6 (by decide) (lv' := [some (2, ((1000 : Nat) : Int)), some (0, w), some (0, i), some (0, 0)]) rfl ?_
    have L20 : ∀ (n20 : Nat) (k20 : Int), ((0 ≤ k20 ∧ k20 ≤ 6)) → (6 - k20).toNat < n20 → WP kX12_putsOne X 7 [some (2, ((1000 : Nat) : Int)), some (0, w), some (0, i), some (0, k20)] [] G := by
      intro n20
      induction n20 with
      | zero => intro k20 hi20 hm20; exact absurd hm20 (Nat.not_lt_zero _)
      | succ n20 ih20 =>
        intro k20 hi20 hm20
        have hj20 := hi20
        obtain ⟨hk20⟩ := hi20
        refine s_iload_n dX12_putsOne_7 rfl ?_
        refine s_bipush dX12_putsOne_8 rfl (by decide) ?_
        refine s_icmp_ge (tgt := 42) dX12_putsOne_10 (by decide) (fun c21 => ?_) (fun c21 => ?_)
        · -- 10 to 42
          refine s_aload_n dX12_putsOne_42 rfl (Int.natCast_nonneg _) ?_
          refine gf_fKind rfl dX12_putsOne_43 hM ?_
          refine s_iload_n dX12_putsOne_46 rfl ?_
          refine s_iald dX12_putsOne_47 (mg_a_fKind hM) (by omega) (by omega) rfl ?_
          refine s_iconst dX12_putsOne_48 (by decide) ?_
          refine s_icmp_ne (tgt := 54) dX12_putsOne_49 (by decide) (fun c22 => ?_) (fun c22 => ?_)
          · -- 49 to 54
            refine s_iload_n dX12_putsOne_54 rfl ?_
            refine s_if_ne (tgt := 99) dX12_putsOne_55 (by decide) (fun c23 => ?_) (fun c23 => ?_)
            · -- 55 to 99
              refine s_iload_n dX12_putsOne_99 rfl ?_
              refine s_iconst dX12_putsOne_100 (by decide) ?_
              refine s_icmp_ne (tgt := 141) dX12_putsOne_101 (by decide) (fun c24 => ?_) (fun c24 => ?_)
              · -- 101 to 141
                refine s_iload_n dX12_putsOne_141 rfl ?_
                exact s_iret hR dX12_putsOne_142 rfl (hQ _ G hM (⟨Fr.rf, PO.its hFU hTH hi (by omega) (fun q => by omega)⟩))
              · -- 101 to 104
                refine s_aload_n dX12_putsOne_104 rfl (Int.natCast_nonneg _) ?_
                refine gf_fKind rfl dX12_putsOne_105 hM ?_
                refine s_iload_n dX12_putsOne_108 rfl ?_
                refine s_iald dX12_putsOne_109 (mg_a_fKind hM) (by omega) (by omega) rfl ?_
                refine s_iconst dX12_putsOne_110 (by decide) ?_
                refine s_icmp_ne (tgt := 141) dX12_putsOne_111 (by decide) (fun c25 => ?_) (fun c25 => ?_)
                · -- 111 to 141
                  refine s_iload_n dX12_putsOne_141 rfl ?_
                  exact s_iret hR dX12_putsOne_142 rfl (hQ _ G hM (⟨Fr.rf, PO.its hFU hTH hi (by omega) (fun q => by omega)⟩))
                · -- 111 to 114
                  refine s_aload_n dX12_putsOne_114 rfl (Int.natCast_nonneg _) ?_
                  refine s_iconst dX12_putsOne_115 (by decide) ?_
                  refine s_aload_n dX12_putsOne_116 rfl (Int.natCast_nonneg _) ?_
                  refine s_aload_n dX12_putsOne_117 rfl (Int.natCast_nonneg _) ?_
                  refine gf_stampKind rfl dX12_putsOne_118 hM rfl ?_
                  refine s_aload_n dX12_putsOne_121 rfl (Int.natCast_nonneg _) ?_
                  refine gf_stampOf rfl dX12_putsOne_122 hM rfl ?_
                  refine s_aload_n dX12_putsOne_125 rfl (Int.natCast_nonneg _) ?_
                  refine gf_fA rfl dX12_putsOne_126 hM ?_
                  refine s_iload_n dX12_putsOne_129 rfl ?_
                  refine s_iald dX12_putsOne_130 (mg_a_fA hM) (by omega) (by omega) rfl ?_
                  have hy := h1 (by omega)
                  have hz := hent.2.2.1 (by omega)
                  have hmay := hy.2 _ (hy.1.s (by omega))
                  refine cv_X12_348 rfl gX12_stamp dX12_putsOne_131 hM (by rw [hcf]; decide) (as := [(0, gS G 1000 40), (0, gS G 1000 41), (0, gS G a_fA ((i).toNat))]) rfl (Nat.le_of_ble_eq_true rfl) ⟨gS G 1000 40, gS G 1000 41, gS G a_fA ((i).toNat), Hs, v, rfl, hM, (by exact hTH), (by exact hv), (by exact hmay), fun r27 G26 hMG26 hpG26 => ?_⟩
                  obtain ⟨hfG26, hpG26⟩ := hpG26
                  have hFG26 : Fr nX12_putsOne jX12_putsOne G G26 := Fr.call Fr.rf hfG26 (by decide) (by decide)
                  show WP kX12_putsOne X 134 [some (2, ((1000 : Nat) : Int)), some (0, w), some (0, i), some (0, k20)] [(0, r27), (0, 2), (2, ((1000 : Nat) : Int))] G26
                  have ag1 : Agr tabA [26, 35] G G26 := hfG26.agr (by decide) (by decide) (by decide)
                  have hFU1 : FU G26 := hFU.agr ag1 hpG26.2.1.1
                  have e26 : (gS G26 1000 26) = (gS G 1000 26) := ag1.f (by decide)
                  have hk9 := hpG26.2.2.1.1
                  refine s_iconst dX12_putsOne_134 (by decide) ?_
                  refine cv_X12_338 rfl gX12_full dX12_putsOne_135 hMG26 (by rw [hcf]; decide) (as := [(0, 2), (0, r27), (0, 0)]) rfl (Nat.le_of_ble_eq_true rfl) ⟨2, r27, 0, rfl, hMG26, (by exact hFU1), (by first | assumption | omega), (by first | assumption | omega), (by first | assumption | omega), (by first | assumption | omega), (by first | assumption | omega), fun r29 G28 hMG28 hpG28 => ?_⟩
                  obtain ⟨hfG28, hpG28⟩ := hpG28
                  have hFG28 : Fr nX12_putsOne jX12_putsOne G G28 := Fr.call hFG26 hfG28 (by decide) (by decide)
                  show WP kX12_putsOne X 138 [some (2, ((1000 : Nat) : Int)), some (0, w), some (0, i), some (0, k20)] [(0, r29)] G28
                  refine s_goto (tgt := 142) dX12_putsOne_138 (by decide) ?_
                  exact s_iret hR dX12_putsOne_142 rfl (hQ _ G28 hMG28 (⟨hFG28, PO.stamp hFU (by omega) hi hy.1 (by omega) hfG26 hpG26 hfG28 hpG28⟩))
            · -- 55 to 58
              refine s_aload_n dX12_putsOne_58 rfl (Int.natCast_nonneg _) ?_
              refine gf_fKind rfl dX12_putsOne_59 hM ?_
              refine s_iload_n dX12_putsOne_62 rfl ?_
              refine s_iald dX12_putsOne_63 (mg_a_fKind hM) (by omega) (by omega) rfl ?_
              refine s_iconst dX12_putsOne_64 (by decide) ?_
              refine s_icmp_ne (tgt := 99) dX12_putsOne_65 (by decide) (fun c30 => ?_) (fun c30 => ?_)
              · -- 65 to 99
                refine s_iload_n dX12_putsOne_99 rfl ?_
                refine s_iconst dX12_putsOne_100 (by decide) ?_
                refine s_icmp_ne (tgt := 141) dX12_putsOne_101 (by decide) (fun c31 => ?_) (fun c31 => ?_)
                · -- 101 to 141
                  refine s_iload_n dX12_putsOne_141 rfl ?_
                  exact s_iret hR dX12_putsOne_142 rfl (hQ _ G hM (⟨Fr.rf, PO.its hFU hTH hi (by omega) (fun q => by omega)⟩))
                · -- 101 to 104
                  refine s_aload_n dX12_putsOne_104 rfl (Int.natCast_nonneg _) ?_
                  refine gf_fKind rfl dX12_putsOne_105 hM ?_
                  refine s_iload_n dX12_putsOne_108 rfl ?_
                  refine s_iald dX12_putsOne_109 (mg_a_fKind hM) (by omega) (by omega) rfl ?_
                  refine s_iconst dX12_putsOne_110 (by decide) ?_
                  refine s_icmp_ne (tgt := 141) dX12_putsOne_111 (by decide) (fun c32 => ?_) (fun c32 => ?_)
                  · -- 111 to 141
                    refine s_iload_n dX12_putsOne_141 rfl ?_
                    exact s_iret hR dX12_putsOne_142 rfl (hQ _ G hM (⟨Fr.rf, PO.its hFU hTH hi (by omega) (fun q => by omega)⟩))
                  · -- 111 to 114
                    refine s_aload_n dX12_putsOne_114 rfl (Int.natCast_nonneg _) ?_
                    refine s_iconst dX12_putsOne_115 (by decide) ?_
                    refine s_aload_n dX12_putsOne_116 rfl (Int.natCast_nonneg _) ?_
                    refine s_aload_n dX12_putsOne_117 rfl (Int.natCast_nonneg _) ?_
                    refine gf_stampKind rfl dX12_putsOne_118 hM rfl ?_
                    refine s_aload_n dX12_putsOne_121 rfl (Int.natCast_nonneg _) ?_
                    refine gf_stampOf rfl dX12_putsOne_122 hM rfl ?_
                    refine s_aload_n dX12_putsOne_125 rfl (Int.natCast_nonneg _) ?_
                    refine gf_fA rfl dX12_putsOne_126 hM ?_
                    refine s_iload_n dX12_putsOne_129 rfl ?_
                    refine s_iald dX12_putsOne_130 (mg_a_fA hM) (by omega) (by omega) rfl ?_
                    have hy := h1 (by omega)
                    have hz := hent.2.2.1 (by omega)
                    have hmay := hy.2 _ (hy.1.s (by omega))
                    refine cv_X12_348 rfl gX12_stamp dX12_putsOne_131 hM (by rw [hcf]; decide) (as := [(0, gS G 1000 40), (0, gS G 1000 41), (0, gS G a_fA ((i).toNat))]) rfl (Nat.le_of_ble_eq_true rfl) ⟨gS G 1000 40, gS G 1000 41, gS G a_fA ((i).toNat), Hs, v, rfl, hM, (by exact hTH), (by exact hv), (by exact hmay), fun r34 G33 hMG33 hpG33 => ?_⟩
                    obtain ⟨hfG33, hpG33⟩ := hpG33
                    have hFG33 : Fr nX12_putsOne jX12_putsOne G G33 := Fr.call Fr.rf hfG33 (by decide) (by decide)
                    show WP kX12_putsOne X 134 [some (2, ((1000 : Nat) : Int)), some (0, w), some (0, i), some (0, k20)] [(0, r34), (0, 2), (2, ((1000 : Nat) : Int))] G33
                    have ag1 : Agr tabA [26, 35] G G33 := hfG33.agr (by decide) (by decide) (by decide)
                    have hFU1 : FU G33 := hFU.agr ag1 hpG33.2.1.1
                    have e26 : (gS G33 1000 26) = (gS G 1000 26) := ag1.f (by decide)
                    have hk9 := hpG33.2.2.1.1
                    refine s_iconst dX12_putsOne_134 (by decide) ?_
                    refine cv_X12_338 rfl gX12_full dX12_putsOne_135 hMG33 (by rw [hcf]; decide) (as := [(0, 2), (0, r34), (0, 0)]) rfl (Nat.le_of_ble_eq_true rfl) ⟨2, r34, 0, rfl, hMG33, (by exact hFU1), (by first | assumption | omega), (by first | assumption | omega), (by first | assumption | omega), (by first | assumption | omega), (by first | assumption | omega), fun r36 G35 hMG35 hpG35 => ?_⟩
                    obtain ⟨hfG35, hpG35⟩ := hpG35
                    have hFG35 : Fr nX12_putsOne jX12_putsOne G G35 := Fr.call hFG33 hfG35 (by decide) (by decide)
                    show WP kX12_putsOne X 138 [some (2, ((1000 : Nat) : Int)), some (0, w), some (0, i), some (0, k20)] [(0, r36)] G35
                    refine s_goto (tgt := 142) dX12_putsOne_138 (by decide) ?_
                    exact s_iret hR dX12_putsOne_142 rfl (hQ _ G35 hMG35 (⟨hFG35, PO.stamp hFU (by omega) hi hy.1 (by omega) hfG33 hpG33 hfG35 hpG35⟩))
              · -- 65 to 68
                have hz := hent.2.1 (by omega)
                have hb := h0 (by omega) ((gS G a_fA (i).toNat)) (by omega) (by omega)
                refine s_aload_n dX12_putsOne_68 rfl (Int.natCast_nonneg _) ?_
                refine gf_by rfl dX12_putsOne_69 hM ?_
                refine s_aload_n dX12_putsOne_72 rfl (Int.natCast_nonneg _) ?_
                refine gf_fA rfl dX12_putsOne_73 hM ?_
                refine s_iload_n dX12_putsOne_76 rfl ?_
                refine s_iald dX12_putsOne_77 (mg_a_fA hM) (by omega) (by omega) rfl ?_
                refine s_iald dX12_putsOne_78 (mg_a_by hM) (by omega) (by omega) rfl ?_
                refine s_iconst dX12_putsOne_79 (by decide) ?_
                have J38 : ∀ z37 : Int, ((¬ (gS G a_by ((gS G a_fA ((i).toNat)).toNat)) = ((-1))) ∧ z37 = gS G a_by ((gS G a_fA ((i).toNat)).toNat)) ∨ (((gS G a_by ((gS G a_fA ((i).toNat)).toNat)) = ((-1))) ∧ z37 = i) → WP kX12_putsOne X 98 [some (2, ((1000 : Nat) : Int)), some (0, w), some (0, i), some (0, k20)] [(0, z37)] G := by
                  intro z37 hz37
                  exact s_iret hR dX12_putsOne_98 rfl (hQ _ G hM (⟨Fr.rf, by rcases hz37 with ⟨q1, q2⟩ | ⟨q1, q2⟩; (rw [q2]; exact PO.by (k := (gS G a_fA (i).toNat)) hFU hTH (by omega) (by omega) (by omega) hi); (rw [q2]; exact PO.its hFU hTH hi (by omega) (fun q => by omega))⟩))
                refine s_icmp_ne (tgt := 87) dX12_putsOne_80 (by decide) (fun c39 => ?_) (fun c39 => ?_)
                · -- 80 to 87
                  refine s_aload_n dX12_putsOne_87 rfl (Int.natCast_nonneg _) ?_
                  refine gf_by rfl dX12_putsOne_88 hM ?_
                  refine s_aload_n dX12_putsOne_91 rfl (Int.natCast_nonneg _) ?_
                  refine gf_fA rfl dX12_putsOne_92 hM ?_
                  refine s_iload_n dX12_putsOne_95 rfl ?_
                  refine s_iald dX12_putsOne_96 (mg_a_fA hM) (by omega) (by omega) rfl ?_
                  refine s_iald dX12_putsOne_97 (mg_a_by hM) (by omega) (by omega) rfl ?_
                  exact J38 _ (Or.inl ⟨c39, rfl⟩)
                · -- 80 to 83
                  refine s_iload_n dX12_putsOne_83 rfl ?_
                  refine s_goto (tgt := 98) dX12_putsOne_84 (by decide) ?_
                  exact J38 i (Or.inr (⟨c39, rfl⟩))
          · -- 49 to 52
            refine s_iconst dX12_putsOne_52 (by decide) ?_
            exact s_iret hR dX12_putsOne_53 rfl (hQ _ G hM (⟨Fr.rf, PO.none hFU hTH (by omega)⟩))
        · -- 10 to 13
          refine s_aload_n dX12_putsOne_13 rfl (Int.natCast_nonneg _) ?_
          refine gf_by rfl dX12_putsOne_14 hM ?_
          refine s_iload_n dX12_putsOne_17 rfl ?_
          refine s_iald dX12_putsOne_18 (mg_a_by hM) (by omega) (by omega) rfl ?_
          refine s_iload_n dX12_putsOne_19 rfl ?_
          refine s_icmp_ne (tgt := 36) dX12_putsOne_20 (by decide) (fun c40 => ?_) (fun c40 => ?_)
          · -- 20 to 36
            refine s_iinc dX12_putsOne_36 (v := k20) rfl (by omega) (by decide) (lv' := [some (2, ((1000 : Nat) : Int)), some (0, w), some (0, i), some (0, k20 + 1)]) rfl ?_
            refine s_goto (tgt := 7) dX12_putsOne_39 (by decide) ?_
            exact ih20 (k20 + 1) ((by omega)) (by omega)
          · -- 20 to 23
            refine s_aload_n dX12_putsOne_23 rfl (Int.natCast_nonneg _) ?_
            refine s_iconst dX12_putsOne_24 (by decide) ?_
            refine s_aload_n dX12_putsOne_25 rfl (Int.natCast_nonneg _) ?_
            refine gf_byStamp rfl dX12_putsOne_26 hM ?_
            refine s_iload_n dX12_putsOne_29 rfl ?_
            refine s_iald dX12_putsOne_30 (mg_a_byStamp hM) (by omega) (by omega) rfl ?_
            refine s_iconst dX12_putsOne_31 (by decide) ?_
            have hz := h2 (by omega) k20 (by omega) (by omega) (by omega)
            refine cv_X12_338 rfl gX12_full dX12_putsOne_32 hM (by rw [hcf]; decide) (as := [(0, 2), (0, gS G a_byStamp ((k20).toNat)), (0, 0)]) rfl (Nat.le_of_ble_eq_true rfl) ⟨2, gS G a_byStamp ((k20).toNat), 0, rfl, hM, (by first | assumption | omega), (by first | assumption | omega), (by first | assumption | omega), (by first | assumption | omega), (by first | assumption | omega), (by first | assumption | omega), fun r42 G41 hMG41 hpG41 => ?_⟩
            obtain ⟨hfG41, hpG41⟩ := hpG41
            have hFG41 : Fr nX12_putsOne jX12_putsOne G G41 := Fr.call Fr.rf hfG41 (by decide) (by decide)
            show WP kX12_putsOne X 35 [some (2, ((1000 : Nat) : Int)), some (0, w), some (0, i), some (0, k20)] [(0, r42)] G41
            exact s_iret hR dX12_putsOne_35 rfl (hQ _ G41 hMG41 (⟨hFG41, PO.types (k := k20) hFU hTH (by omega) hi (by omega) (by omega) hfG41 hpG41⟩))
    exact L20 _ 0 ((by omega)) (Nat.lt_succ_self _)
