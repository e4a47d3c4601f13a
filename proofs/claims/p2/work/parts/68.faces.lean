abbrev nX12_beginsFulls : List Nat := [a_fHead]
abbrev jX12_beginsFulls : List Nat := [26]
def TX12_beginsFulls : TR := fun as G Qr => as = [(2, ((1000 : Nat) : Int))] ∧ MG G ∧ ∀ G' : LG, MG G' → (Fr nX12_beginsFulls jX12_beginsFulls G G' ∧ ((gS G' 1000 26) = 0 ∧ ∀ p : Int, 0 ≤ p → p < 16384 → (gS G' a_fHead (p).toNat) = -1)) → Qr (.inl none) G'
set_option maxHeartbeats 4000000 in
set_option maxRecDepth 100000 in
theorem gX12_beginsFulls : Good kX12_beginsFulls yX12_beginsFulls 0 TX12_beginsFulls := by
  refine good_of (by decide) rfl rfl (fun as G Qr h => ?_) (fun X as G Qr hcf hR hT oa => ?_)
  · obtain ⟨rfl, -⟩ := h; exact Nat.le_of_ble_eq_true rfl
  obtain ⟨rfl, hM, hQ⟩ := hT
  show WP kX12_beginsFulls X 0 [some (2, ((1000 : Nat) : Int)), none] [] G
  refine s_aload_n dX12_beginsFulls_0 rfl (Int.natCast_nonneg _) ?_
  refine s_iconst dX12_beginsFulls_1 (by decide) ?_
  refine pf_fulls rfl dX12_beginsFulls_2 hM (fun G1 eG1 hMG1 => ?_)
  have hFG1 : Fr nX12_beginsFulls jX12_beginsFulls G G1 := Fr.setF Fr.rf eG1 (by decide)
  refine s_iconst dX12_beginsFulls_5 (by decide) ?_
  refine s_istore_n dX12_beginsFulls_6 (by decide) (lv' := [some (2, ((1000 : Nat) : Int)), some (0, 0)]) rfl ?_
  have L2 : ∀ (n2 : Nat) (k2 : Int) (G2 : LG), MG G2 → Fr nX12_beginsFulls jX12_beginsFulls G G2 → ((0 ≤ k2 ∧ k2 ≤ 16384) ∧ ((gS G2 1000 26) = 0) ∧ (∀ j : Int, 0 ≤ j → j < k2 → (gS G2 a_fHead (j).toNat) = -1)) → (16384 - k2).toNat < n2 → WP kX12_beginsFulls X 7 [some (2, ((1000 : Nat) : Int)), some (0, k2)] [] G2 := by
    intro n2
    induction n2 with
    | zero => intro k2 G2 hMG2 hFG2 hi2 hm2; exact absurd hm2 (Nat.not_lt_zero _)
    | succ n2 ih2 =>
      intro k2 G2 hMG2 hFG2 hi2 hm2
      have hj2 := hi2
      obtain ⟨ik2, iz2, iq2⟩ := hi2
      refine s_iload_n dX12_beginsFulls_7 rfl ?_
      refine s_sipush dX12_beginsFulls_8 rfl (by decide) ?_
      refine s_icmp_ge (tgt := 27) dX12_beginsFulls_11 (by decide) (fun c3 => ?_) (fun c3 => ?_)
      · -- 11 to 27
        exact s_vret hR dX12_beginsFulls_27 rfl (hQ G2 hMG2 (⟨hFG2, ⟨iz2, fun p p0 p1 => iq2 p p0 (by omega)⟩⟩))
      · -- 11 to 14
        refine s_aload_n dX12_beginsFulls_14 rfl (Int.natCast_nonneg _) ?_
        refine gf_fHead rfl dX12_beginsFulls_15 hMG2 ?_
        refine s_iload_n dX12_beginsFulls_18 rfl ?_
        refine s_iconst dX12_beginsFulls_19 (by decide) ?_
        refine r_iast dX12_beginsFulls_20 hMG2 (mg_a_fHead hMG2) (by decide) (by omega) (by omega) (fun G4 eG4 hMG4 => ?_)
        have hFG4 : Fr nX12_beginsFulls jX12_beginsFulls G G4 := Fr.setA hFG2 eG4 (by decide)
        show WP kX12_beginsFulls X 21 [some (2, ((1000 : Nat) : Int)), some (0, k2)] [] G4
        refine s_iinc dX12_beginsFulls_21 (v := k2) rfl (by omega) (by decide) (lv' := [some (2, ((1000 : Nat) : Int)), some (0, k2 + 1)]) rfl ?_
        refine s_goto (tgt := 7) dX12_beginsFulls_24 (by decide) ?_
        exact ih2 (k2 + 1) G4 hMG4 hFG4 (⟨(by omega), (by rw [gsnE eG4 (by decide)]; exact iz2), (by intro j j0 j1; by_cases hj : j = k2; (subst hj; exact g_at (g_upd eG4)); (rw [g_ne (g_upd eG4) (by omega)]; exact iq2 j j0 (by omega)))⟩) (by omega)
  exact L2 _ 0 G1 hMG1 hFG1 (⟨(by omega), (by exact gsaE eG1), (by intro j j0 j1; omega)⟩) (Nat.lt_succ_self _)

abbrev nX12_faces : List Nat := [a_fHead, a_raw, a_error, a_ident, a_byStamp, a_equation, a_uses, a_reaches, a_solved, a_by, a_fKind, a_fA, a_fB, a_fSize, a_fNext, a_fMark, a_thingKind, a_thingA, a_thingB, a_thingC, a_thingNext, a_thingHead, a_stackOf, a_fMemo, a_sType, a_sValue, a_sFlags, a_sNumber, a_todo, a_phase, a_found]
abbrev jX12_faces : List Nat := [26, 42, 35, 36, 40, 41]
def TX12_faces : TR := fun as G Qr => ∃ (u : Int) (Hs : List (Int → Int)) (vv : Int → Int) (ra rb : Int), as = [(2, ((1000 : Nat) : Int)), (1, u)] ∧ MG G ∧ (TH G Hs) ∧ (vv ∈ Hs) ∧ (vv = cur G) ∧ (TB G) ∧ (EX G) ∧ (UV G) ∧ (0 ≤ (gS G 1000 35) ∧ (gS G 1000 35) ≤ 1700000000) ∧ (0 ≤ ra ∧ ra < (gS G 1000 18)) ∧ (0 ≤ rb ∧ rb < (gS G 1000 18)) ∧ (∀ m : Int, 0 ≤ m → m < 64 → bitL u m → m = ra ∨ m = rb) ∧ ∀ G' : LG, MG G' → (Fr nX12_faces jX12_faces G G' ∧ (FP G G' Hs vv u)) → Qr (.inl none) G'
set_option maxHeartbeats 4000000 in
set_option maxRecDepth 100000 in
theorem gX12_faces : Good kX12_faces yX12_faces 9 TX12_faces := by
  refine good_of (by decide) rfl rfl (fun as G Qr h => ?_) (fun X as G Qr hcf hR hT oa => ?_)
  · obtain ⟨u, Hs, vv, ra, rb, rfl, -⟩ := h; exact Nat.le_of_ble_eq_true rfl
  obtain ⟨u, Hs, vv, ra, rb, rfl, hM, hTH, hvv, hcu, hTB, hEX, hUV, hm, hr, hs2, hu, hQ⟩ := hT
  show WP kX12_faces X 0 [some (2, ((1000 : Nat) : Int)), some (1, u), none, none, none, none] [] G
  have hND := hTH.2.2.2.1
  have hnd := hND.1
  have htb := hTB.1
  refine s_aload_n dX12_faces_0 rfl (Int.natCast_nonneg _) ?_
  refine cv_X12_467 rfl gX12_beginsFulls dX12_faces_1 hM (by rw [hcf]; decide) (as := []) rfl (Nat.le_of_ble_eq_true rfl) ⟨rfl, hM, fun G1 hMG1 hpG1 => ?_⟩
  obtain ⟨hfG1, hpG1⟩ := hpG1
  have hFG1 : Fr nX12_faces jX12_faces G G1 := Fr.call Fr.rf hfG1 (by decide) (by decide)
  show WP kX12_faces X 4 [some (2, ((1000 : Nat) : Int)), some (1, u), none, none, none, none] [] G1
  have hF1 : FU G1 := FU.zero hpG1.1 hpG1.2 (by rw [hfG1.atF (by decide) (by decide)]; exact hm.1) (by rw [hfG1.atF (by decide) (by decide)]; exact hTH.1.1)
  have hz1 := hpG1.1
  refine s_iconst dX12_faces_4 (by decide) ?_
  refine s_istore_n dX12_faces_5 (by decide) (lv' := [some (2, ((1000 : Nat) : Int)), some (1, u), none, some (0, 0), none, none]) rfl ?_
  have L3 : ∀ (n3 : Nat) (k3 : Int) (G3 : LG), MG G3 → Fr nX12_faces jX12_faces G G3 → ((0 ≤ k3 ∧ k3 ≤ (gS G 1000 0)) ∧ (FU G3) ∧ ((gS G3 1000 26) ≤ k3) ∧ (RK G3 k3) ∧ (Fr (a_raw :: tabA) [26] G G3)) → ((gS G 1000 0) - k3).toNat < n3 → WP kX12_faces X 6 [some (2, ((1000 : Nat) : Int)), some (1, u), none, some (0, k3), none, none] [] G3 := by
    intro n3
    induction n3 with
    | zero => intro k3 G3 hMG3 hFG3 hi3 hm3; exact absurd hm3 (Nat.not_lt_zero _)
    | succ n3 ih3 =>
      intro k3 G3 hMG3 hFG3 hi3 hm3
      have hj3 := hi3
      obtain ⟨ik3, iF3, if3, iK3, ir3⟩ := hi3
      have hty03 : (gS G3 1000 0) = (gS G 1000 0) := ir3.atF (by decide) (by decide)
      have hTBi3 : TB G3 := hTB.agr (ir3.agr (by decide) (by decide) (by decide))
      refine s_iload_n dX12_faces_6 rfl ?_
      refine s_aload_n dX12_faces_7 rfl (Int.natCast_nonneg _) ?_
      refine gf_types rfl dX12_faces_8 hMG3 rfl ?_
      refine s_icmp_ge (tgt := 97) dX12_faces_11 (by decide) (fun c4 => ?_) (fun c4 => ?_)
      · -- 11 to 97
        have hf6 := ir3
        have hT6 : TH G3 Hs := hTH.agr (hf6.agr (by decide) (by decide) (by decide))
        have hX6 : TX G G3 := TX.agr (hf6.agr (by decide) (by decide) (by decide))
        have hk6 : k3 = (gS G 1000 0) := by omega
        have hW6 : RW G3 := RK.rw (hTB.agr (hf6.agr (by decide) (by decide) (by decide))) (by rw [hf6.atF (by decide) (by decide), ← hk6]; exact iK3)
        have hff6 := iF3.f
        refine s_aload_n dX12_faces_97 rfl (Int.natCast_nonneg _) ?_
        refine s_lload_n dX12_faces_98 rfl ?_
        refine cv_X12_470 rfl gX12_reachOf dX12_faces_99 hMG3 (by rw [hcf]; decide) (as := [(1, u)]) rfl (Nat.le_of_ble_eq_true rfl) ⟨u, rfl, hMG3, (by exact hT6.2.2.2.1), fun r6 G5 hMG5 hpG5 => ?_⟩
        obtain ⟨hfG5, hpG5⟩ := hpG5
        have hFG5 : Fr nX12_faces jX12_faces G G5 := Fr.call hFG3 hfG5 (by decide) (by decide)
        show WP kX12_faces X 102 [some (2, ((1000 : Nat) : Int)), some (1, u), none, some (0, k3), none, none] [(1, r6)] G5
        refine s_lstore_n dX12_faces_102 (by decide) (lv' := [some (2, ((1000 : Nat) : Int)), some (1, u), none, some (1, r6), none, none]) rfl ?_
        have hRC : RCH G u r6 := (hpG5).fr hf6 (by decide) (by decide) (by decide) (by decide) (by decide) (by decide)
        have hRC40 := hRC.cost hND hr hs2 hu
        have hfb := hfG5
        refine s_iconst dX12_faces_103 (by decide) ?_
        refine s_istore dX12_faces_104 (by decide) (lv' := [some (2, ((1000 : Nat) : Int)), some (1, u), none, some (1, r6), none, some (0, 0)]) rfl ?_
        have L7 : ∀ (n7 : Nat) (x7 : Int) (G7 : LG), MG G7 → Fr nX12_faces jX12_faces G G7 → ((0 ≤ x7 ∧ x7 ≤ (gS G 1000 18)) ∧ (FU G7) ∧ (TH G7 Hs) ∧ (TX G G7) ∧ (RW G7) ∧ ((gS G7 1000 26) ≤ (gS G 1000 0) + csum G r6 (x7).toNat) ∧ ((gS G 1000 35) ≤ (gS G7 1000 35) ∧ (gS G7 1000 35) ≤ (gS G 1000 35) + 100 * x7) ∧ (∀ m : Int, 0 ≤ m → m < x7 → bitL r6 m → FD G7 vv m)) → ((gS G 1000 18) - x7).toNat < n7 → WP kX12_faces X 106 [some (2, ((1000 : Nat) : Int)), some (1, u), none, some (1, r6), none, some (0, x7)] [] G7 := by
          intro n7
          induction n7 with
          | zero => intro x7 G7 hMG7 hFG7 hi7 hm7; exact absurd hm7 (Nat.not_lt_zero _)
          | succ n7 ih7 =>
            intro x7 G7 hMG7 hFG7 hi7 hm7
            have hj7 := hi7
            obtain ⟨ik7, iF7, iT7, iX7, iW7, ic7, im7, iD7⟩ := hi7
            have hn97 : (gS G7 1000 18) = (gS G 1000 18) := iX7.2.1
            refine s_iload dX12_faces_106 rfl ?_
            refine s_aload_n dX12_faces_108 rfl (Int.natCast_nonneg _) ?_
            refine gf_nodes rfl dX12_faces_109 hMG7 rfl ?_
            refine s_icmp_ge (tgt := 145) dX12_faces_112 (by decide) (fun c8 => ?_) (fun c8 => ?_)
            · -- 112 to 145
              exact s_vret hR dX12_faces_145 rfl (hQ G7 hMG7 (⟨hFG7, ⟨iF7, iT7, iX7, by omega, r6, hRC, fun m m0 m1 q => iD7 m m0 (by omega) q⟩⟩))
            · -- 112 to 115
              refine s_lload_n dX12_faces_115 rfl ?_
              refine s_iload dX12_faces_116 rfl ?_
              refine s_lshr dX12_faces_118 ?_
              refine s_lconst dX12_faces_119 ?_
              show WP kX12_faces X 120 [some (2, ((1000 : Nat) : Int)), some (1, u), none, some (1, r6), none, some (0, x7)] [(1, 1), (1, l_shr r6 x7)] G7
              refine s_land dX12_faces_120 ?_
              refine s_lconst dX12_faces_121 ?_
              show WP kX12_faces X 122 [some (2, ((1000 : Nat) : Int)), some (1, u), none, some (1, r6), none, some (0, x7)] [(1, 1), (1, l_and (l_shr r6 x7) 1)] G7
              refine s_lcmp dX12_faces_122 (fun w9 hrw9 hcw9 hqw9 hgw9 => ?_)
              refine s_if_ne (tgt := 139) dX12_faces_123 (by decide) (fun c10 => ?_) (fun c10 => ?_)
              · -- 123 to 139
                refine s_iinc dX12_faces_139 (v := x7) rfl (by omega) (by decide) (lv' := [some (2, ((1000 : Nat) : Int)), some (1, u), none, some (1, r6), none, some (0, x7 + 1)]) rfl ?_
                refine s_goto (tgt := 106) dX12_faces_142 (by decide) ?_
                exact ih7 (x7 + 1) G7 hMG7 hFG7 (⟨(by omega), (by exact iF7), (by exact iT7), (by exact iX7), (by exact iW7), (by have z9 := (csum_s (G := G) (a := r6) (n := x7) (by omega)).2 (by unfold bitL; omega); omega), (by omega), (by intro m m0 m1 q; by_cases hj : m = x7; (subst hj; exact absurd (show l_and (l_shr r6 m) 1 = 1 from q) (by omega)); (exact iD7 m m0 (by omega) q))⟩) (by omega)
              · -- 123 to 126
                have hb7 : bitL r6 x7 := by unfold bitL; omega
                have hcs7 := (csum_s (G := G) (a := r6) (n := x7) (by omega)).1 hb7
                have hcm7 := csum_mono (G := G) (a := r6) (m := (x7 + 1).toNat) (n := 40) (by omega)
                have hnc7 : ncost G7 x7 = ncost G x7 := ncost.fr hFG7 (by decide) _
                have hnm7 : nMany G7 x7 = nMany G x7 := nMany.fr hFG7 (by decide) _
                have hff7 := iF7.f
                have htt7 := hTB.1
                refine s_aload_n dX12_faces_126 rfl (Int.natCast_nonneg _) ?_
                refine gf_error rfl dX12_faces_127 hMG7 ?_
                refine s_iload dX12_faces_130 rfl ?_
                refine s_aload_n dX12_faces_132 rfl (Int.natCast_nonneg _) ?_
                refine s_iload dX12_faces_133 rfl ?_
                refine cv_X12_474 rfl gX12_faceOf dX12_faces_135 hMG7 (by rw [hcf]; decide) (as := [(0, x7)]) rfl (Nat.le_of_ble_eq_true rfl) ⟨x7, Hs, vv, rfl, hMG7, (by exact iF7), (by exact iT7), (by exact hvv), (by rw [iX7.cur]; exact hcu), (by exact hTB.agr (hFG7.agr (by decide) (by decide) (by decide))), (by exact hEX.agr (hFG7.agr (by decide) (by decide) (by decide))), (by exact hUV.agr (hFG7.agr (by decide) (by decide) (by decide))), (by exact iW7), (by omega), (by intro k k0 k1; rw [hnm7] at k1; rw [nPart.fr hFG7 (by decide) (by decide) (by decide)]; have z9 := hND.part (n := x7) (k := k) (by omega) (by omega) k0 k1; exact (iD7 _ z9.1 z9.2 (hRC.2.1 x7 (by omega) (by omega) hb7 k k0 k1)).1), (by omega), (by omega), fun r12 G11 hMG11 hpG11 => ?_⟩
                obtain ⟨hfG11, hpG11⟩ := hpG11
                have hFG11 : Fr nX12_faces jX12_faces G G11 := Fr.call hFG7 hfG11 (by decide) (by decide)
                show WP kX12_faces X 138 [some (2, ((1000 : Nat) : Int)), some (1, u), none, some (1, r6), none, some (0, x7)] [(0, r12), (0, x7), (2, ((a_error : Nat) : Int))] G11
                refine r_iast dX12_faces_138 hMG11 (mg_a_error hMG11) (by decide) (by omega) (by omega) (fun G13 eG13 hMG13 => ?_)
                have hFG13 : Fr nX12_faces jX12_faces G G13 := Fr.setA hFG11 eG13 (by decide)
                show WP kX12_faces X 139 [some (2, ((1000 : Nat) : Int)), some (1, u), none, some (1, r6), none, some (0, x7)] [] G13
                refine s_iinc dX12_faces_139 (v := x7) rfl (by omega) (by decide) (lv' := [some (2, ((1000 : Nat) : Int)), some (1, u), none, some (1, r6), none, some (0, x7 + 1)]) rfl ?_
                refine s_goto (tgt := 106) dX12_faces_142 (by decide) ?_
                have hp9 := hpG11
                have hf9 := (Fr.setA (Fr.rf) eG13 (by decide) : Fr [a_error] [] G11 G13)
                have hu9 := g_upd eG13
                have hF9 : FU G13 := (hp9.1.fr hf9 (by decide) (by decide) (by decide)).1
                have hT9 : TH G13 Hs := (hp9.1.fr hf9 (by decide) (by decide) (by decide)).2.2.1
                have hX9 : TX G7 G13 := (hp9.1.fr hf9 (by decide) (by decide) (by decide)).2.2.2.1
                have hW9 : FX G7 G13 := (hp9.1.fr hf9 (by decide) (by decide) (by decide)).2.1
                have hc9 := (hp9.1.fr hf9 (by decide) (by decide) (by decide)).2.2.2.2
                have hs9 : SlotFa x7 G7 G13 := hp9.2.1.trans (SlotFr.fa (SlotFr.agr (hf9.agr (by decide) (by decide) (by decide))))
                exact ih7 (x7 + 1) G13 hMG13 hFG13 (⟨(by omega), (by exact hF9), (by exact hT9), (by exact iX7.trans hX9), (by exact iW7.fx hW9 iF7 (fun j => (hf9.atA (by decide) (by decide)).trans (hfG11.atA (by decide) (by decide))) ((hf9.atF (by decide) (by decide)).trans (hfG11.atF (by decide) (by decide)))), (by omega), (by omega), (by intro m m0 m1 q; by_cases hj : m = x7; (subst hj; refine ⟨⟨?_, fun q9 => ⟨(hp9.2.2.2.2.1.fx (FX.agf hf9 (by decide) (by decide) (by decide)) hp9.1.1 (fun j _ _ => hf9.atA (by decide) (by decide))).mono (fun t z => (TX.agr (hf9.agr (by decide) (by decide) (by decide))).stN z), (hp9.2.2.2.2.2.1.fx (FX.agf hf9 (by decide) (by decide) (by decide)) hp9.1.1 (fun j _ _ => hf9.atA (by decide) (by decide))).mono (fun t z => (TX.agr (hf9.agr (by decide) (by decide) (by decide))).stN z)⟩⟩, fun q9 => ?_⟩; (rw [hf9.atA (n := a_ident) (by decide) (by decide)]; exact (TX.agr (hf9.agr (by decide) (by decide) (by decide))).idN hp9.2.2.2.1); (rw [g_at hu9] at q9; have z9 := hp9.2.2.2.2.2.2 q9; refine ⟨z9.1.agr (hf9.agr (by decide) (by decide) (by decide)), fun k k0 k1 => ?_⟩; rw [nMany.fr (Fr.call (ns := nX12_faces) (js := jX12_faces) (Fr.call (ns := nX12_faces) (js := jX12_faces) Fr.rf hfG11 (by decide) (by decide)) hf9 (by decide) (by decide)) (by decide)] at k1; rw [nPart.fr (Fr.call (ns := nX12_faces) (js := jX12_faces) (Fr.call (ns := nX12_faces) (js := jX12_faces) Fr.rf hfG11 (by decide) (by decide)) hf9 (by decide) (by decide)) (by decide) (by decide) (by decide)]; have z8 := (iT7.2.2.2.1).part (n := m) (k := k) (by omega) (by omega) k0 k1; rw [g_ne hu9 (by omega), hfG11.atA (n := a_error) (by decide) (by decide)]; exact z9.2 k k0 k1)); (have z7 := iD7 m m0 (by omega) q; exact FD.cg (iT7.2.2.2.1) (hUV.agr (hFG7.agr (by decide) (by decide) (by decide))) z7 ⟨m0, by omega⟩ (by omega) hX9 hW9 iF7 hs9 (fun j => (hf9.atA (by decide) (by decide)).trans (hfG11.atA (by decide) (by decide))) (fun j hj => (hf9.atA (by decide) (by decide)).trans (hp9.2.2.1 j hj)) (fun j hj => by rw [g_ne hu9 hj]; exact hfG11.atA (by decide) (by decide))))⟩) (by omega)
        exact L7 _ 0 G5 hMG5 hFG5 (⟨(by omega), (by exact iF3.agr (hfb.agr (by decide) (by decide) (by decide)) (by rw [hfb.atF (by decide) (by decide)]; exact Int.le_refl _)), (by exact hT6.agr (hfb.agr (by decide) (by decide) (by decide))), (by exact hX6.trans (TX.agr (hfb.agr (by decide) (by decide) (by decide)))), (by exact hW6.fx (FX.agf hfb (by decide) (by decide) (by decide)) iF3 (fun j => hfb.atA (by decide) (by decide)) (hfb.atF (by decide) (by decide))), (by have z9 : csum G r6 (0 : Int).toNat = 0 := rfl; rw [z9, hfb.atF (by decide) (by decide)]; omega), (by rw [hfb.atF (by decide) (by decide), hf6.atF (j := 35) (by decide) (by decide)]; omega), (by intro m m0 m1; omega)⟩) (Nat.lt_succ_self _)
      · -- 11 to 14
        have hty3 := hTBi3.2 k3 (by omega) (by omega)
        have hty13 := hty3.1
        have hty23 := hty3.2.1
        have hty33 := hty3.2.2.1
        have hty43 := hty3.2.2.2
        clear hty3
        refine s_aload_n dX12_faces_14 rfl (Int.natCast_nonneg _) ?_
        refine gf_raw rfl dX12_faces_15 hMG3 ?_
        refine s_iload_n dX12_faces_18 rfl ?_
        refine s_aload_n dX12_faces_19 rfl (Int.natCast_nonneg _) ?_
        refine gf_tKind rfl dX12_faces_20 hMG3 ?_
        refine s_iload_n dX12_faces_23 rfl ?_
        refine s_iald dX12_faces_24 (mg_a_tKind hMG3) (by omega) (by omega) rfl ?_
        refine s_if_ne (tgt := 38) dX12_faces_25 (by decide) (fun c14 => ?_) (fun c14 => ?_)
        · -- 25 to 38
          refine s_aload_n dX12_faces_38 rfl (Int.natCast_nonneg _) ?_
          refine gf_tKind rfl dX12_faces_39 hMG3 ?_
          refine s_iload_n dX12_faces_42 rfl ?_
          refine s_iald dX12_faces_43 (mg_a_tKind hMG3) (by omega) (by omega) rfl ?_
          refine s_iconst dX12_faces_44 (by decide) ?_
          refine s_icmp_ne (tgt := 63) dX12_faces_45 (by decide) (fun c15 => ?_) (fun c15 => ?_)
          · -- 45 to 63
            have hpr3 := hty33 (by omega)
            have hra3 := (iK3 ((gS G3 a_tFirst (k3).toNat)) (by omega) (by omega)).1
            have hrb3 := (iK3 ((gS G3 a_tSecond (k3).toNat)) (by omega) (by omega)).1
            refine s_aload_n dX12_faces_63 rfl (Int.natCast_nonneg _) ?_
            refine s_iconst dX12_faces_64 (by decide) ?_
            refine s_aload_n dX12_faces_65 rfl (Int.natCast_nonneg _) ?_
            refine gf_raw rfl dX12_faces_66 hMG3 ?_
            refine s_aload_n dX12_faces_69 rfl (Int.natCast_nonneg _) ?_
            refine gf_tFirst rfl dX12_faces_70 hMG3 ?_
            refine s_iload_n dX12_faces_73 rfl ?_
            refine s_iald dX12_faces_74 (mg_a_tFirst hMG3) (by omega) (by omega) rfl ?_
            refine s_iald dX12_faces_75 (mg_a_raw hMG3) (by omega) (by omega) rfl ?_
            refine s_aload_n dX12_faces_76 rfl (Int.natCast_nonneg _) ?_
            refine gf_raw rfl dX12_faces_77 hMG3 ?_
            refine s_aload_n dX12_faces_80 rfl (Int.natCast_nonneg _) ?_
            refine gf_tSecond rfl dX12_faces_81 hMG3 ?_
            refine s_iload_n dX12_faces_84 rfl ?_
            refine s_iald dX12_faces_85 (mg_a_tSecond hMG3) (by omega) (by omega) rfl ?_
            refine s_iald dX12_faces_86 (mg_a_raw hMG3) (by omega) (by omega) rfl ?_
            refine cv_X12_338 rfl gX12_full dX12_faces_87 hMG3 (by rw [hcf]; decide) (as := [(0, 3), (0, gS G3 a_raw ((gS G3 a_tFirst ((k3).toNat)).toNat)), (0, gS G3 a_raw ((gS G3 a_tSecond ((k3).toNat)).toNat))]) rfl (Nat.le_of_ble_eq_true rfl) ⟨3, gS G3 a_raw ((gS G3 a_tFirst ((k3).toNat)).toNat), gS G3 a_raw ((gS G3 a_tSecond ((k3).toNat)).toNat), rfl, hMG3, (by exact iF3), (by omega), (by omega), (by intro q; omega), (by intro q; omega), (by intro q; omega), fun r17 G16 hMG16 hpG16 => ?_⟩
            obtain ⟨hfG16, hpG16⟩ := hpG16
            have hFG16 : Fr nX12_faces jX12_faces G G16 := Fr.call hFG3 hfG16 (by decide) (by decide)
            show WP kX12_faces X 90 [some (2, ((1000 : Nat) : Int)), some (1, u), none, some (0, k3), none, none] [(0, r17), (0, k3), (2, ((a_raw : Nat) : Int))] G16
            refine r_iast dX12_faces_90 hMG16 (mg_a_raw hMG16) (by decide) (by omega) (by omega) (fun G18 eG18 hMG18 => ?_)
            have hFG18 : Fr nX12_faces jX12_faces G G18 := Fr.setA hFG16 eG18 (by decide)
            show WP kX12_faces X 91 [some (2, ((1000 : Nat) : Int)), some (1, u), none, some (0, k3), none, none] [] G18
            refine s_iinc dX12_faces_91 (v := k3) rfl (by omega) (by decide) (lv' := [some (2, ((1000 : Nat) : Int)), some (1, u), none, some (0, k3 + 1), none, none]) rfl ?_
            refine s_goto (tgt := 6) dX12_faces_94 (by decide) ?_
            exact ih3 (k3 + 1) G18 hMG18 hFG18 (⟨(by omega), (by exact (RK.set iK3 iF3 hfG16 hpG16 eG18 (by omega) hty43 (Or.inr ⟨rfl, (gS G3 a_tFirst (k3).toNat), (gS G3 a_tSecond (k3).toNat), ⟨by omega, by omega⟩, ⟨by omega, by omega⟩, rfl, rfl, by omega⟩)).2.1), (by have z9 := (RK.set iK3 iF3 hfG16 hpG16 eG18 (by omega) hty43 (Or.inr ⟨rfl, (gS G3 a_tFirst (k3).toNat), (gS G3 a_tSecond (k3).toNat), ⟨by omega, by omega⟩, ⟨by omega, by omega⟩, rfl, rfl, by omega⟩)).2.2; omega), (by exact (RK.set iK3 iF3 hfG16 hpG16 eG18 (by omega) hty43 (Or.inr ⟨rfl, (gS G3 a_tFirst (k3).toNat), (gS G3 a_tSecond (k3).toNat), ⟨by omega, by omega⟩, ⟨by omega, by omega⟩, rfl, rfl, by omega⟩)).1), (by exact Fr.setA (Fr.call ir3 hfG16 (by decide) (by decide)) eG18 (by decide))⟩) (by omega)
          · -- 45 to 48
            refine s_aload_n dX12_faces_48 rfl (Int.natCast_nonneg _) ?_
            refine s_iconst dX12_faces_49 (by decide) ?_
            refine s_aload_n dX12_faces_50 rfl (Int.natCast_nonneg _) ?_
            refine gf_tFirst rfl dX12_faces_51 hMG3 ?_
            refine s_iload_n dX12_faces_54 rfl ?_
            refine s_iald dX12_faces_55 (mg_a_tFirst hMG3) (by omega) (by omega) rfl ?_
            refine s_iconst dX12_faces_56 (by decide) ?_
            refine cv_X12_338 rfl gX12_full dX12_faces_57 hMG3 (by rw [hcf]; decide) (as := [(0, 1), (0, gS G3 a_tFirst ((k3).toNat)), (0, 0)]) rfl (Nat.le_of_ble_eq_true rfl) ⟨1, gS G3 a_tFirst ((k3).toNat), 0, rfl, hMG3, (by exact iF3), (by omega), (by omega), (by intro q; exact hty23 (by omega)), (by intro q; omega), (by intro q; omega), fun r20 G19 hMG19 hpG19 => ?_⟩
            obtain ⟨hfG19, hpG19⟩ := hpG19
            have hFG19 : Fr nX12_faces jX12_faces G G19 := Fr.call hFG3 hfG19 (by decide) (by decide)
            show WP kX12_faces X 60 [some (2, ((1000 : Nat) : Int)), some (1, u), none, some (0, k3), none, none] [(0, r20), (0, k3), (2, ((a_raw : Nat) : Int))] G19
            refine s_goto (tgt := 90) dX12_faces_60 (by decide) ?_
            refine r_iast dX12_faces_90 hMG19 (mg_a_raw hMG19) (by decide) (by omega) (by omega) (fun G21 eG21 hMG21 => ?_)
            have hFG21 : Fr nX12_faces jX12_faces G G21 := Fr.setA hFG19 eG21 (by decide)
            show WP kX12_faces X 91 [some (2, ((1000 : Nat) : Int)), some (1, u), none, some (0, k3), none, none] [] G21
            refine s_iinc dX12_faces_91 (v := k3) rfl (by omega) (by decide) (lv' := [some (2, ((1000 : Nat) : Int)), some (1, u), none, some (0, k3 + 1), none, none]) rfl ?_
            refine s_goto (tgt := 6) dX12_faces_94 (by decide) ?_
            exact ih3 (k3 + 1) G21 hMG21 hFG21 (⟨(by omega), (by exact (RK.set iK3 iF3 hfG19 hpG19 eG21 (by omega) hty43 (Or.inl (by omega))).2.1), (by have z9 := (RK.set iK3 iF3 hfG19 hpG19 eG21 (by omega) hty43 (Or.inl (by omega))).2.2; omega), (by exact (RK.set iK3 iF3 hfG19 hpG19 eG21 (by omega) hty43 (Or.inl (by omega))).1), (by exact Fr.setA (Fr.call ir3 hfG19 (by decide) (by decide)) eG21 (by decide))⟩) (by omega)
        · -- 25 to 28
          refine s_aload_n dX12_faces_28 rfl (Int.natCast_nonneg _) ?_
          refine s_iconst dX12_faces_29 (by decide) ?_
          refine s_iconst dX12_faces_30 (by decide) ?_
          refine s_iconst dX12_faces_31 (by decide) ?_
          refine cv_X12_338 rfl gX12_full dX12_faces_32 hMG3 (by rw [hcf]; decide) (as := [(0, 0), (0, 0), (0, 0)]) rfl (Nat.le_of_ble_eq_true rfl) ⟨0, 0, 0, rfl, hMG3, (by exact iF3), (by omega), (by omega), (by intro q; omega), (by intro q; omega), (by intro q; omega), fun r23 G22 hMG22 hpG22 => ?_⟩
          obtain ⟨hfG22, hpG22⟩ := hpG22
          have hFG22 : Fr nX12_faces jX12_faces G G22 := Fr.call hFG3 hfG22 (by decide) (by decide)
          show WP kX12_faces X 35 [some (2, ((1000 : Nat) : Int)), some (1, u), none, some (0, k3), none, none] [(0, r23), (0, k3), (2, ((a_raw : Nat) : Int))] G22
          refine s_goto (tgt := 90) dX12_faces_35 (by decide) ?_
          refine r_iast dX12_faces_90 hMG22 (mg_a_raw hMG22) (by decide) (by omega) (by omega) (fun G24 eG24 hMG24 => ?_)
          have hFG24 : Fr nX12_faces jX12_faces G G24 := Fr.setA hFG22 eG24 (by decide)
          show WP kX12_faces X 91 [some (2, ((1000 : Nat) : Int)), some (1, u), none, some (0, k3), none, none] [] G24
          refine s_iinc dX12_faces_91 (v := k3) rfl (by omega) (by decide) (lv' := [some (2, ((1000 : Nat) : Int)), some (1, u), none, some (0, k3 + 1), none, none]) rfl ?_
          refine s_goto (tgt := 6) dX12_faces_94 (by decide) ?_
          exact ih3 (k3 + 1) G24 hMG24 hFG24 (⟨(by omega), (by exact (RK.set iK3 iF3 hfG22 hpG22 eG24 (by omega) hty43 (Or.inl (by omega))).2.1), (by have z9 := (RK.set iK3 iF3 hfG22 hpG22 eG24 (by omega) hty43 (Or.inl (by omega))).2.2; omega), (by exact (RK.set iK3 iF3 hfG22 hpG22 eG24 (by omega) hty43 (Or.inl (by omega))).1), (by exact Fr.setA (Fr.call ir3 hfG22 (by decide) (by decide)) eG24 (by decide))⟩) (by omega)
  exact L3 _ 0 G1 hMG1 hFG1 (⟨(by omega), (by exact hF1), (by omega), (by intro j j0 j1; omega), (by exact Fr.call Fr.rf hfG1 (by decide) (by decide))⟩) (Nat.lt_succ_self _)
