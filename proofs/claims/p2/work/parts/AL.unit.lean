abbrev kX8_checkDefinition : KD := (RX8, cX8_checkDefinition, 6, (some .int), [])
def TX8_checkDefinition : TR := fun as G Qr => ∃ (o : Nat) (k : Int) (f : Nat) (a b : Nat), as = [(2, ((327684 : Nat) : Int)), (2, ((o : Nat) : Int)), (0, k), (2, ((f : Nat) : Int))] ∧ CI a b G ∧ (a ≤ 2840000 ∧ b ≤ 590000) ∧ (isVr o) ∧ (0 ≤ k ∧ k < 10) ∧ (¬ gS G (o + 2) k.toNat = -2 ∧ ¬ gS G (o + 3) k.toNat = -1) ∧ (isFc f) ∧ (FSZ G f) ∧ ∀ (r : Int) (G' : LG), CI a b G' → KX G G' → WX (fun x => x = 327684 ∨ x = 327690) G G' → (0 ≤ r ∧ r ≤ 8) → Qr (.inl (some (0, r))) G'
set_option maxHeartbeats 4000000 in
set_option maxRecDepth 100000 in
theorem gX8_checkDefinition : Good kX8_checkDefinition yX8_checkDefinition 57 TX8_checkDefinition := by
  refine good_of (by decide) rfl rfl (fun as G Qr h => ?_) (fun X as G Qr hcf hR hT oa => ?_)
  · obtain ⟨o, k, f, a, b, rfl, -⟩ := h; exact Nat.le_of_ble_eq_true rfl
  obtain ⟨o, k, f, a, b, rfl, hC, hab, ho, hk, hdef, hf, hsz, hQ⟩ := hT
  show WP kX8_checkDefinition X 0 [some (2, ((327684 : Nat) : Int)), some (2, ((o : Nat) : Int)), some (0, k), some (2, ((f : Nat) : Int)), none, none] [] G
  have hr_k : inR k := okv_R (oa _ (by simp))
  refine s_alvl 327684 (k := 0) rfl (fun al0 => ?_)
  obtain ⟨qs, Ls, hs1, hs2, hs3, hs4, hs5, hs6⟩ := hC.stk al0
  have h8 := hC.2.2.2.2.2.2.2.1.1 ((o - 131072) / 64) k.toNat (by omega) (by omega)
  rw [show 131072 + 64 * ((o - 131072) / 64) = o by omega] at h8
  have h8b := h8 hdef.1
  refine s_aload_n dX8_checkDefinition_0 rfl (Int.natCast_nonneg _) ?_
  refine s_alv (o) (by simp) (fun al1 => ?_)
  have hk2 : gK G (o) = (19, 0) := hC.1.k (by rw [cde_v (by omega) (by omega)]; omega : cde o = 200) al1
  have hv3 : gS G o 2 = ((o + 3 : Nat) : Int) := by have h9 : (gS G o 2) = (((o % 1048576) + 3 : Nat) : Int) := hC.1.v (j := 2) (by rw [cde_v (by omega) (by omega)]; omega : cde o = 200) al1 (by rw [hk2]; exact Nat.le_of_ble_eq_true rfl); omega
  refine s_getf (ci := 11) (k := 2) (C := RX10) (T := TX10) (N := 4) (n := o) (L := 0) (t := 2) dX8_checkDefinition_1 rfl wi_67 m_672 (Nat.le_of_ble_eq_true rfl) rfl rfl hk2 hv3 ?_
  refine s_iload_n dX8_checkDefinition_4 rfl ?_
  refine s_alv (o + 3) (by simp) (fun al4 => ?_)
  have hk5 : gK G (o + 3) = (1, 10) := hC.1.k (by rw [cde_v (by omega) (by omega)]; omega : cde (o + 3) = 203) al4
  have hv6 : -1 ≤ (gS G (o + 3) (k : Int).toNat) ∧ (gS G (o + 3) (k : Int).toNat) ≤ 119 := hC.1.v (j := (k : Int).toNat) (by rw [cde_v (by omega) (by omega)]; omega : cde (o + 3) = 203) al4 (by rw [hk5]; show (k : Int).toNat < 10; omega)
  refine s_iald dX8_checkDefinition_5 hk5 (by omega) (by omega) rfl ?_
  have h6 := hC.2.2.2.2.2.2.1.w (e := gS G (o + 3) k.toNat) (by omega) (by omega)
  refine s_istore dX8_checkDefinition_6 (by decide) (lv' := [some (2, ((327684 : Nat) : Int)), some (2, ((o : Nat) : Int)), some (0, k), some (2, ((f : Nat) : Int)), some (0, gS G (o + 3) ((k : Int).toNat)), none]) rfl ?_
  refine s_aload_n dX8_checkDefinition_8 rfl (Int.natCast_nonneg _) ?_
  refine s_iconst dX8_checkDefinition_9 (by decide) ?_
  have hk7 : gK G (327684) = (17, 0) := hC.1.k (by decide : cde 327684 = 504) al0
  refine s_putf (ci := 9) (k := 4) (C := RX8) (T := TX8) (N := 5) (n := 327684) (L := 0) dX8_checkDefinition_10 rfl wi_76 m_676 (Nat.le_of_ble_eq_true rfl) rfl rfl tyX8_ok nmX8 rfl (Or.inl rfl) hk7 ?_
  generalize eG8r : gset G 327684 4 0 = G8
  have eG8 := eG8r.symm
  have hCG8 : CI a b G8 := by rw [eG8]; exact hC.top hs1 hs3 (by omega) (by omega)
  have hXG8 : KX G G8 := KX.set KX.rf eG8
  have hFG8 : WX (fun x => x = 327684 ∨ x = 327690) G G8 := WX.set WX.rf eG8 (by show _; first | decide | omega)
  show WP kX8_checkDefinition X 13 [some (2, ((327684 : Nat) : Int)), some (2, ((o : Nat) : Int)), some (0, k), some (2, ((f : Nat) : Int)), some (0, gS G (o + 3) ((k : Int).toNat)), none] [] G8
  refine s_aload_n dX8_checkDefinition_13 rfl (Int.natCast_nonneg _) ?_
  refine s_iload dX8_checkDefinition_14 rfl ?_
  refine s_aload_n dX8_checkDefinition_16 rfl (Int.natCast_nonneg _) ?_
  refine s_iconst dX8_checkDefinition_17 (by decide) ?_
  have hpc : gS G8 327681 = gS G 327681 := gset_o eG8 (by decide)
  have hp5 : gS G8 327705 = gS G 327705 := gset_o eG8 (by decide)
  have hw5 : gS G8 327705 (gS G (o + 3) k.toNat).toNat = gS G 327705 (gS G (o + 3) k.toNat).toNat := by rw [hp5]
  have hp12 : gS G8 327681 12 = gS G 327681 12 := by rw [hpc]
  have htop : gS G8 327684 4 = 0 := gsaE eG8
  have hsz9 := hsz.wx hXG8 hFG8 (by show ¬ _; omega) (by show ¬ _; omega)
  have hk11 : gK G8 (327684) = (17, 0) := ((hXG8).k hk7 (by decide))
  refine s_callV (as := [(0, gS G (o + 3) ((k : Int).toNat)), (2, ((f : Nat) : Int)), (0, 0)]) (rest := []) (n := 327684) (ci := 9) gX8_check dX8_checkDefinition_18 m_1419 m_996 m_1719 m_722 m_344 ⟨by decide, by decide, show (parseMethodDescriptor yX8_check.desc).map (fun d => d.parameters.length) = some 3 from by decide +kernel⟩ (Nat.le_of_ble_eq_true rfl) (by rw [hcf]; exact Nat.le_of_ble_eq_true rfl) hk11 rfl rfl (Nat.le_of_ble_eq_true rfl) ⟨gS G (o + 3) ((k : Int).toNat), 0, f, a, b, rfl, hCG8, hab, (by omega), (by omega), (by omega), (by omega), (by exact hsz9), fun rr10 G9 hCG9 hXG9 hfG9 hpG9 => ?_⟩
  have hFG9 : WX (fun x => x = 327684 ∨ x = 327690) G G9 := WX.trans hFG8 hXG8 (WX.mono hfG9 (fun x hx => by omega))
  show WP kX8_checkDefinition X 21 [some (2, ((327684 : Nat) : Int)), some (2, ((o : Nat) : Int)), some (0, k), some (2, ((f : Nat) : Int)), some (0, gS G (o + 3) ((k : Int).toNat)), none] [(0, rr10)] G9
  refine s_istore dX8_checkDefinition_21 (by decide) (lv' := [some (2, ((327684 : Nat) : Int)), some (2, ((o : Nat) : Int)), some (0, k), some (2, ((f : Nat) : Int)), some (0, gS G (o + 3) ((k : Int).toNat)), some (0, rr10)]) rfl ?_
  refine s_iload dX8_checkDefinition_23 rfl ?_
  refine s_if_ne (tgt := 63) dX8_checkDefinition_25 (by decide) (fun c12 => ?_) (fun c12 => ?_)
  · -- 25 to 63
    refine s_iload dX8_checkDefinition_63 rfl ?_
    refine s_if_ne (tgt := 98) dX8_checkDefinition_65 (by decide) (fun c13 => ?_) (fun c13 => ?_)
    · -- 65 to 98
      refine s_iload dX8_checkDefinition_98 rfl ?_
      exact s_iret hR dX8_checkDefinition_100 rfl (hQ rr10 G9 hCG9 (KX.trans hXG8 hXG9) hFG9 (by omega))
    · -- 65 to 68
      refine s_aload_n dX8_checkDefinition_68 rfl (Int.natCast_nonneg _) ?_
      refine s_iload_n dX8_checkDefinition_69 rfl ?_
      have hk16 : gK G9 (o) = (19, 0) := ((hXG9).k ((hXG8).k hk2 (by decide)) (by decide))
      refine s_callV (as := [(0, k)]) (rest := []) (n := o) (ci := 11) gX10_isGhost dX8_checkDefinition_70 m_1420 m_759 m_1499 m_713 m_86 ⟨by decide, by decide, show (parseMethodDescriptor yX10_isGhost.desc).map (fun d => d.parameters.length) = some 1 from by decide +kernel⟩ (Nat.le_of_ble_eq_true rfl) (by rw [hcf]; exact Nat.le_of_ble_eq_true rfl) hk16 rfl rfl (Nat.le_of_ble_eq_true rfl) ⟨o, k, a, b, rfl, hCG9, hab, (by first | assumption | omega), (by first | assumption | omega), fun rr14 hp15 => ?_⟩
      show WP kX8_checkDefinition X 73 [some (2, ((327684 : Nat) : Int)), some (2, ((o : Nat) : Int)), some (0, k), some (2, ((f : Nat) : Int)), some (0, gS G (o + 3) ((k : Int).toNat)), some (0, rr10)] [(0, rr14)] G9
      refine s_if_ne (tgt := 98) dX8_checkDefinition_73 (by decide) (fun c17 => ?_) (fun c17 => ?_)
      · -- 73 to 98
        refine s_iload dX8_checkDefinition_98 rfl ?_
        exact s_iret hR dX8_checkDefinition_100 rfl (hQ rr10 G9 hCG9 (KX.trans hXG8 hXG9) hFG9 (by omega))
      · -- 73 to 76
        refine s_aload_n dX8_checkDefinition_76 rfl (Int.natCast_nonneg _) ?_
        have hk18 : gK G9 (327684) = (17, 0) := ((hXG9).k hk11 (by decide))
        refine s_alv (327684) (by simp) (fun al19 => ?_)
        have hv20 : gS G9 327684 0 = ((327681 : Nat) : Int) := by have h9 : (gS G9 327684 0) = 327681 := hCG9.1.v (j := 0) (by decide : cde 327684 = 504) al19 (by rw [hk18]; exact Nat.le_of_ble_eq_true rfl); omega
        refine s_getf (ci := 9) (k := 0) (C := RX8) (T := TX8) (N := 5) (n := 327684) (L := 0) (t := 2) dX8_checkDefinition_77 rfl wi_76 m_681 (Nat.le_of_ble_eq_true rfl) rfl rfl hk18 hv20 ?_
        refine s_alv (327681) (by simp) (fun al21 => ?_)
        have hk22 : gK G9 (327681) = (14, 0) := hCG9.1.k (by decide : cde 327681 = 501) al21
        have hv23 : gS G9 327681 10 = ((327706 : Nat) : Int) := by have h9 : (gS G9 327681 10) = 327706 := hCG9.1.v (j := 10) (by decide : cde 327681 = 501) al21 (by rw [hk22]; exact Nat.le_of_ble_eq_true rfl); omega
        refine s_getf (ci := 6) (k := 10) (C := RX5) (T := TX5) (N := 18) (n := 327681) (L := 0) (t := 2) dX8_checkDefinition_80 rfl wi_73 m_679 (Nat.le_of_ble_eq_true rfl) rfl rfl hk22 hv23 ?_
        refine s_iload dX8_checkDefinition_83 rfl ?_
        refine s_alv (327706) (by simp) (fun al24 => ?_)
        have hk25 : gK G9 (327706) = (1, 120) := hCG9.1.k (by decide : cde 327706 = 526) al24
        refine s_iald dX8_checkDefinition_85 hk25 (by omega) (by omega) rfl ?_
        refine s_aload_n dX8_checkDefinition_86 rfl (Int.natCast_nonneg _) ?_
        refine s_callV (as := []) (rest := [(0, gS G9 327706 ((gS G (o + 3) ((k : Int).toNat) : Int).toNat))]) (n := o) (ci := 11) gX10_ghostNames dX8_checkDefinition_87 m_1421 m_755 m_1496 m_713 m_82 ⟨by decide, by decide, show (parseMethodDescriptor yX10_ghostNames.desc).map (fun d => d.parameters.length) = some 0 from by decide +kernel⟩ (Nat.le_of_ble_eq_true rfl) (by rw [hcf]; exact Nat.le_of_ble_eq_true rfl) hk16 rfl rfl (Nat.le_of_ble_eq_true rfl) ⟨o, a, b, rfl, hCG9, hab, (by first | assumption | omega), fun rr26 hp27 => ?_⟩
        show WP kX8_checkDefinition X 90 [some (2, ((327684 : Nat) : Int)), some (2, ((o : Nat) : Int)), some (0, k), some (2, ((f : Nat) : Int)), some (0, gS G (o + 3) ((k : Int).toNat)), some (0, rr10)] [(0, rr26), (0, gS G9 327706 ((gS G (o + 3) ((k : Int).toNat) : Int).toNat))] G9
        refine s_iand dX8_checkDefinition_90 ?_
        refine s_if_eq (tgt := 98) dX8_checkDefinition_91 (by decide) (fun c28 => ?_) (fun c28 => ?_)
        · -- 91 to 98
          refine s_iload dX8_checkDefinition_98 rfl ?_
          exact s_iret hR dX8_checkDefinition_100 rfl (hQ rr10 G9 hCG9 (KX.trans hXG8 hXG9) hFG9 (by omega))
        · -- 91 to 94
          refine s_bipush dX8_checkDefinition_94 rfl (by decide) ?_
          refine s_istore dX8_checkDefinition_96 (by decide) (lv' := [some (2, ((327684 : Nat) : Int)), some (2, ((o : Nat) : Int)), some (0, k), some (2, ((f : Nat) : Int)), some (0, gS G (o + 3) ((k : Int).toNat)), some (0, 6)]) rfl ?_
          refine s_iload dX8_checkDefinition_98 rfl ?_
          exact s_iret hR dX8_checkDefinition_100 rfl (hQ 6 G9 hCG9 (KX.trans hXG8 hXG9) hFG9 (by omega))
  · -- 25 to 28
    refine s_aload_n dX8_checkDefinition_28 rfl (Int.natCast_nonneg _) ?_
    have hk29 : gK G9 (327684) = (17, 0) := ((hXG9).k hk11 (by decide))
    refine s_alv (327684) (by simp) (fun al30 => ?_)
    obtain ⟨q32, hv31⟩ : ∃ q : Nat, gS G9 327684 3 = (q : Int) := ⟨(gS G9 327684 3).toNat, by have h9 : 0 ≤ (gS G9 327684 3) ∧ (gS G9 327684 3) % 1048576 = 327690 := hCG9.1.v (j := 3) (by decide : cde 327684 = 504) al30 (by rw [hk29]; exact Nat.le_of_ble_eq_true rfl); omega⟩
    have hv31a : 0 ≤ (q32 : Int) ∧ (q32 : Int) % 1048576 = 327690 := by have h9 : 0 ≤ (gS G9 327684 3) ∧ (gS G9 327684 3) % 1048576 = 327690 := hCG9.1.v (j := 3) (by decide : cde 327684 = 504) al30 (by rw [hk29]; exact Nat.le_of_ble_eq_true rfl); omega
    refine s_getf (ci := 9) (k := 3) (C := RX8) (T := TX8) (N := 5) (n := 327684) (L := 0) (t := 2) dX8_checkDefinition_29 rfl wi_76 m_680 (Nat.le_of_ble_eq_true rfl) rfl rfl hk29 hv31 ?_
    refine s_aload_n dX8_checkDefinition_32 rfl (Int.natCast_nonneg _) ?_
    have hv33 : 0 ≤ (gS G9 327684 4) ∧ (gS G9 327684 4) ≤ 2412 := hCG9.1.v (j := 4) (by decide : cde 327684 = 504) al30 (by rw [hk29]; exact Nat.le_of_ble_eq_true rfl)
    refine s_getf (ci := 9) (k := 4) (C := RX8) (T := TX8) (N := 5) (n := 327684) (L := 0) (t := 0) dX8_checkDefinition_33 rfl wi_76 m_676 (Nat.le_of_ble_eq_true rfl) rfl rfl hk29 rfl ?_
    refine s_aload_n dX8_checkDefinition_36 rfl (Int.natCast_nonneg _) ?_
    refine s_alv (f) (by simp) (fun al34 => ?_)
    have hk35 : gK G9 (f) = (9, 0) := hCG9.1.k (by rw [cde_n (by omega) (by omega)]; omega : cde f = 101) al34
    have hv36 : gS G9 f 3 = ((f + 3 : Nat) : Int) := by have h9 : (gS G9 f 3) = (((f % 1048576) + 3 : Nat) : Int) := hCG9.1.v (j := 3) (by rw [cde_n (by omega) (by omega)]; omega : cde f = 101) al34 (by rw [hk35]; exact Nat.le_of_ble_eq_true rfl); omega
    refine s_getf (ci := 1) (k := 3) (C := RX0) (T := TX0) (N := 7) (n := f) (L := 0) (t := 2) dX8_checkDefinition_37 rfl wi_65 m_677 (Nat.le_of_ble_eq_true rfl) rfl rfl hk35 hv36 ?_
    refine s_bipush dX8_checkDefinition_40 rfl (by decide) ?_
    refine s_iload_n dX8_checkDefinition_42 rfl ?_
    refine s_iadd dX8_checkDefinition_43 (by omega) ?_
    refine s_alv (f + 3) (by simp) (fun al37 => ?_)
    have hk38 : gK G9 (f + 3) = (4, 16) := hCG9.1.k (by rw [cde_n (by omega) (by omega)]; omega : cde (f + 3) = 104) al37
    have hv40b : 0 ≤ (gS G9 (f + 3) (6 + k : Int).toNat) ∧ (gS G9 (f + 3) (6 + k : Int).toNat) % 1048576 = ((((f + 3) % 1048576) + 4 + ((6 + k : Int).toNat) : Nat) : Int) := hCG9.1.v (j := (6 + k : Int).toNat) (by rw [cde_n (by omega) (by omega)]; omega : cde (f + 3) = 104) al37 (by rw [hk38]; show (6 + k : Int).toNat < 16; omega)
    obtain ⟨q39, hv40⟩ : ∃ q : Nat, gS G9 (f + 3) (6 + k : Int).toNat = (q : Int) := ⟨(gS G9 (f + 3) (6 + k : Int).toNat).toNat, by omega⟩
    rw [hv40] at hv40b
    refine s_aald4 dX8_checkDefinition_44 hk38 (by omega) (by omega) hv40 ?_
    refine s_aload_n dX8_checkDefinition_45 rfl (Int.natCast_nonneg _) ?_
    have hv41 : gS G9 f 4 = ((f + 4 : Nat) : Int) := by have h9 : (gS G9 f 4) = (((f % 1048576) + 4 : Nat) : Int) := hCG9.1.v (j := 4) (by rw [cde_n (by omega) (by omega)]; omega : cde f = 101) al34 (by rw [hk35]; exact Nat.le_of_ble_eq_true rfl); omega
    refine s_getf (ci := 1) (k := 4) (C := RX0) (T := TX0) (N := 7) (n := f) (L := 0) (t := 2) dX8_checkDefinition_46 rfl wi_65 m_678 (Nat.le_of_ble_eq_true rfl) rfl rfl hk35 hv41 ?_
    refine s_bipush dX8_checkDefinition_49 rfl (by decide) ?_
    refine s_iload_n dX8_checkDefinition_51 rfl ?_
    refine s_iadd dX8_checkDefinition_52 (by omega) ?_
    refine s_alv (f + 4) (by simp) (fun al42 => ?_)
    have hk43 : gK G9 (f + 4) = (1, 16) := hCG9.1.k (by rw [cde_n (by omega) (by omega)]; omega : cde (f + 4) = 105) al42
    have hv44 : 0 ≤ (gS G9 (f + 4) (6 + k : Int).toNat) ∧ (gS G9 (f + 4) (6 + k : Int).toNat) ≤ 200 := hCG9.1.v (j := (6 + k : Int).toNat) (by rw [cde_n (by omega) (by omega)]; omega : cde (f + 4) = 105) al42 (by rw [hk43]; show (6 + k : Int).toNat < 16; omega)
    refine s_iald dX8_checkDefinition_53 hk43 (by omega) (by omega) rfl ?_
    refine s_alv (q32) (by simp) (fun al45 => ?_)
    obtain ⟨L47, hk46, hL47a, hL47b⟩ : ∃ L, gK G9 (q32) = (1, L) ∧ 64 ≤ L ∧ L ≤ 2412 := hCG9.1.k (by rw [cde_s (by omega) (by omega)]; omega : cde q32 = 510) al45
    refine s_alv (q39) (by simp) (fun al48 => ?_)
    obtain ⟨L50, hk49, hL50a, hL50b⟩ := hCG9.1.kr (show 108 ≤ cde q39 ∧ cde q39 < 124 from by rw [cde_n (by omega) (by omega)]; omega) al48
    refine s_callSN (own := RX8) rfl (by decide +kernel) (as := [(2, ((q32 : Nat) : Int)), (0, gS G9 327684 4), (2, ((q39 : Nat) : Int)), (0, gS G9 (f + 4) ((6 + k : Int).toNat))]) (rest := []) gX11_isSameRow dX8_checkDefinition_54 m_1778 m_714 m_98 ⟨by decide, by decide, show (parseMethodDescriptor yX11_isSameRow.desc).map (fun d => d.parameters.length) = some 4 from by decide +kernel⟩ (Nat.le_of_ble_eq_true rfl) (by rw [hcf]; exact Nat.le_of_ble_eq_true rfl) rfl (Nat.le_of_ble_eq_true rfl) ⟨q32, L47, gS G9 327684 4, q39, L50, gS G9 (f + 4) ((6 + k : Int).toNat), rfl, hk46, (by first | assumption | omega), hk49, (by first | assumption | omega), fun rr51 hp52 => ?_⟩
    show WP kX8_checkDefinition X 57 [some (2, ((327684 : Nat) : Int)), some (2, ((o : Nat) : Int)), some (0, k), some (2, ((f : Nat) : Int)), some (0, gS G (o + 3) ((k : Int).toNat)), some (0, rr10)] [(0, rr51)] G9
    refine s_if_ne (tgt := 63) dX8_checkDefinition_57 (by decide) (fun c53 => ?_) (fun c53 => ?_)
    · -- 57 to 63
      refine s_iload dX8_checkDefinition_63 rfl ?_
      refine s_if_ne (tgt := 98) dX8_checkDefinition_65 (by decide) (fun c54 => ?_) (fun c54 => ?_)
      · -- 65 to 98
        refine s_iload dX8_checkDefinition_98 rfl ?_
        exact s_iret hR dX8_checkDefinition_100 rfl (hQ rr10 G9 hCG9 (KX.trans hXG8 hXG9) hFG9 (by omega))
      · -- 65 to 68
        refine s_aload_n dX8_checkDefinition_68 rfl (Int.natCast_nonneg _) ?_
        refine s_iload_n dX8_checkDefinition_69 rfl ?_
        have hk57 : gK G9 (o) = (19, 0) := ((hXG9).k ((hXG8).k hk2 (by decide)) (by decide))
        refine s_callV (as := [(0, k)]) (rest := []) (n := o) (ci := 11) gX10_isGhost dX8_checkDefinition_70 m_1420 m_759 m_1499 m_713 m_86 ⟨by decide, by decide, show (parseMethodDescriptor yX10_isGhost.desc).map (fun d => d.parameters.length) = some 1 from by decide +kernel⟩ (Nat.le_of_ble_eq_true rfl) (by rw [hcf]; exact Nat.le_of_ble_eq_true rfl) hk57 rfl rfl (Nat.le_of_ble_eq_true rfl) ⟨o, k, a, b, rfl, hCG9, hab, (by first | assumption | omega), (by first | assumption | omega), fun rr55 hp56 => ?_⟩
        show WP kX8_checkDefinition X 73 [some (2, ((327684 : Nat) : Int)), some (2, ((o : Nat) : Int)), some (0, k), some (2, ((f : Nat) : Int)), some (0, gS G (o + 3) ((k : Int).toNat)), some (0, rr10)] [(0, rr55)] G9
        refine s_if_ne (tgt := 98) dX8_checkDefinition_73 (by decide) (fun c58 => ?_) (fun c58 => ?_)
        · -- 73 to 98
          refine s_iload dX8_checkDefinition_98 rfl ?_
          exact s_iret hR dX8_checkDefinition_100 rfl (hQ rr10 G9 hCG9 (KX.trans hXG8 hXG9) hFG9 (by omega))
        · -- 73 to 76
          refine s_aload_n dX8_checkDefinition_76 rfl (Int.natCast_nonneg _) ?_
          have hv59 : gS G9 327684 0 = ((327681 : Nat) : Int) := by have h9 : (gS G9 327684 0) = 327681 := hCG9.1.v (j := 0) (by decide : cde 327684 = 504) al30 (by rw [hk29]; exact Nat.le_of_ble_eq_true rfl); omega
          refine s_getf (ci := 9) (k := 0) (C := RX8) (T := TX8) (N := 5) (n := 327684) (L := 0) (t := 2) dX8_checkDefinition_77 rfl wi_76 m_681 (Nat.le_of_ble_eq_true rfl) rfl rfl hk29 hv59 ?_
          refine s_alv (327681) (by simp) (fun al60 => ?_)
          have hk61 : gK G9 (327681) = (14, 0) := hCG9.1.k (by decide : cde 327681 = 501) al60
          have hv62 : gS G9 327681 10 = ((327706 : Nat) : Int) := by have h9 : (gS G9 327681 10) = 327706 := hCG9.1.v (j := 10) (by decide : cde 327681 = 501) al60 (by rw [hk61]; exact Nat.le_of_ble_eq_true rfl); omega
          refine s_getf (ci := 6) (k := 10) (C := RX5) (T := TX5) (N := 18) (n := 327681) (L := 0) (t := 2) dX8_checkDefinition_80 rfl wi_73 m_679 (Nat.le_of_ble_eq_true rfl) rfl rfl hk61 hv62 ?_
          refine s_iload dX8_checkDefinition_83 rfl ?_
          refine s_alv (327706) (by simp) (fun al63 => ?_)
          have hk64 : gK G9 (327706) = (1, 120) := hCG9.1.k (by decide : cde 327706 = 526) al63
          refine s_iald dX8_checkDefinition_85 hk64 (by omega) (by omega) rfl ?_
          refine s_aload_n dX8_checkDefinition_86 rfl (Int.natCast_nonneg _) ?_
          refine s_callV (as := []) (rest := [(0, gS G9 327706 ((gS G (o + 3) ((k : Int).toNat) : Int).toNat))]) (n := o) (ci := 11) gX10_ghostNames dX8_checkDefinition_87 m_1421 m_755 m_1496 m_713 m_82 ⟨by decide, by decide, show (parseMethodDescriptor yX10_ghostNames.desc).map (fun d => d.parameters.length) = some 0 from by decide +kernel⟩ (Nat.le_of_ble_eq_true rfl) (by rw [hcf]; exact Nat.le_of_ble_eq_true rfl) hk57 rfl rfl (Nat.le_of_ble_eq_true rfl) ⟨o, a, b, rfl, hCG9, hab, (by first | assumption | omega), fun rr65 hp66 => ?_⟩
          show WP kX8_checkDefinition X 90 [some (2, ((327684 : Nat) : Int)), some (2, ((o : Nat) : Int)), some (0, k), some (2, ((f : Nat) : Int)), some (0, gS G (o + 3) ((k : Int).toNat)), some (0, rr10)] [(0, rr65), (0, gS G9 327706 ((gS G (o + 3) ((k : Int).toNat) : Int).toNat))] G9
          refine s_iand dX8_checkDefinition_90 ?_
          refine s_if_eq (tgt := 98) dX8_checkDefinition_91 (by decide) (fun c67 => ?_) (fun c67 => ?_)
          · -- 91 to 98
            refine s_iload dX8_checkDefinition_98 rfl ?_
            exact s_iret hR dX8_checkDefinition_100 rfl (hQ rr10 G9 hCG9 (KX.trans hXG8 hXG9) hFG9 (by omega))
          · -- 91 to 94
            refine s_bipush dX8_checkDefinition_94 rfl (by decide) ?_
            refine s_istore dX8_checkDefinition_96 (by decide) (lv' := [some (2, ((327684 : Nat) : Int)), some (2, ((o : Nat) : Int)), some (0, k), some (2, ((f : Nat) : Int)), some (0, gS G (o + 3) ((k : Int).toNat)), some (0, 6)]) rfl ?_
            refine s_iload dX8_checkDefinition_98 rfl ?_
            exact s_iret hR dX8_checkDefinition_100 rfl (hQ 6 G9 hCG9 (KX.trans hXG8 hXG9) hFG9 (by omega))
    · -- 57 to 60
      refine s_iconst dX8_checkDefinition_60 (by decide) ?_
      refine s_istore dX8_checkDefinition_61 (by decide) (lv' := [some (2, ((327684 : Nat) : Int)), some (2, ((o : Nat) : Int)), some (0, k), some (2, ((f : Nat) : Int)), some (0, gS G (o + 3) ((k : Int).toNat)), some (0, 2)]) rfl ?_
      refine s_iload dX8_checkDefinition_63 rfl ?_
      refine s_if_ne (tgt := 98) dX8_checkDefinition_65 (by decide) (fun c68 => ?_) (fun c68 => ?_)
      · -- 65 to 98
        refine s_iload dX8_checkDefinition_98 rfl ?_
        exact s_iret hR dX8_checkDefinition_100 rfl (hQ 2 G9 hCG9 (KX.trans hXG8 hXG9) hFG9 (by omega))
      · -- 65 to 68
        refine s_aload_n dX8_checkDefinition_68 rfl (Int.natCast_nonneg _) ?_
        refine s_iload_n dX8_checkDefinition_69 rfl ?_
        have hk71 : gK G9 (o) = (19, 0) := ((hXG9).k ((hXG8).k hk2 (by decide)) (by decide))
        refine s_callV (as := [(0, k)]) (rest := []) (n := o) (ci := 11) gX10_isGhost dX8_checkDefinition_70 m_1420 m_759 m_1499 m_713 m_86 ⟨by decide, by decide, show (parseMethodDescriptor yX10_isGhost.desc).map (fun d => d.parameters.length) = some 1 from by decide +kernel⟩ (Nat.le_of_ble_eq_true rfl) (by rw [hcf]; exact Nat.le_of_ble_eq_true rfl) hk71 rfl rfl (Nat.le_of_ble_eq_true rfl) ⟨o, k, a, b, rfl, hCG9, hab, (by first | assumption | omega), (by first | assumption | omega), fun rr69 hp70 => ?_⟩
        show WP kX8_checkDefinition X 73 [some (2, ((327684 : Nat) : Int)), some (2, ((o : Nat) : Int)), some (0, k), some (2, ((f : Nat) : Int)), some (0, gS G (o + 3) ((k : Int).toNat)), some (0, 2)] [(0, rr69)] G9
        refine s_if_ne (tgt := 98) dX8_checkDefinition_73 (by decide) (fun c72 => ?_) (fun c72 => ?_)
        · -- 73 to 98
          refine s_iload dX8_checkDefinition_98 rfl ?_
          exact s_iret hR dX8_checkDefinition_100 rfl (hQ 2 G9 hCG9 (KX.trans hXG8 hXG9) hFG9 (by omega))
        · -- 73 to 76
          refine s_aload_n dX8_checkDefinition_76 rfl (Int.natCast_nonneg _) ?_
          have hv73 : gS G9 327684 0 = ((327681 : Nat) : Int) := by have h9 : (gS G9 327684 0) = 327681 := hCG9.1.v (j := 0) (by decide : cde 327684 = 504) al30 (by rw [hk29]; exact Nat.le_of_ble_eq_true rfl); omega
          refine s_getf (ci := 9) (k := 0) (C := RX8) (T := TX8) (N := 5) (n := 327684) (L := 0) (t := 2) dX8_checkDefinition_77 rfl wi_76 m_681 (Nat.le_of_ble_eq_true rfl) rfl rfl hk29 hv73 ?_
          refine s_alv (327681) (by simp) (fun al74 => ?_)
          have hk75 : gK G9 (327681) = (14, 0) := hCG9.1.k (by decide : cde 327681 = 501) al74
          have hv76 : gS G9 327681 10 = ((327706 : Nat) : Int) := by have h9 : (gS G9 327681 10) = 327706 := hCG9.1.v (j := 10) (by decide : cde 327681 = 501) al74 (by rw [hk75]; exact Nat.le_of_ble_eq_true rfl); omega
          refine s_getf (ci := 6) (k := 10) (C := RX5) (T := TX5) (N := 18) (n := 327681) (L := 0) (t := 2) dX8_checkDefinition_80 rfl wi_73 m_679 (Nat.le_of_ble_eq_true rfl) rfl rfl hk75 hv76 ?_
          refine s_iload dX8_checkDefinition_83 rfl ?_
          refine s_alv (327706) (by simp) (fun al77 => ?_)
          have hk78 : gK G9 (327706) = (1, 120) := hCG9.1.k (by decide : cde 327706 = 526) al77
          refine s_iald dX8_checkDefinition_85 hk78 (by omega) (by omega) rfl ?_
          refine s_aload_n dX8_checkDefinition_86 rfl (Int.natCast_nonneg _) ?_
          refine s_callV (as := []) (rest := [(0, gS G9 327706 ((gS G (o + 3) ((k : Int).toNat) : Int).toNat))]) (n := o) (ci := 11) gX10_ghostNames dX8_checkDefinition_87 m_1421 m_755 m_1496 m_713 m_82 ⟨by decide, by decide, show (parseMethodDescriptor yX10_ghostNames.desc).map (fun d => d.parameters.length) = some 0 from by decide +kernel⟩ (Nat.le_of_ble_eq_true rfl) (by rw [hcf]; exact Nat.le_of_ble_eq_true rfl) hk71 rfl rfl (Nat.le_of_ble_eq_true rfl) ⟨o, a, b, rfl, hCG9, hab, (by first | assumption | omega), fun rr79 hp80 => ?_⟩
          show WP kX8_checkDefinition X 90 [some (2, ((327684 : Nat) : Int)), some (2, ((o : Nat) : Int)), some (0, k), some (2, ((f : Nat) : Int)), some (0, gS G (o + 3) ((k : Int).toNat)), some (0, 2)] [(0, rr79), (0, gS G9 327706 ((gS G (o + 3) ((k : Int).toNat) : Int).toNat))] G9
          refine s_iand dX8_checkDefinition_90 ?_
          refine s_if_eq (tgt := 98) dX8_checkDefinition_91 (by decide) (fun c81 => ?_) (fun c81 => ?_)
          · -- 91 to 98
            refine s_iload dX8_checkDefinition_98 rfl ?_
            exact s_iret hR dX8_checkDefinition_100 rfl (hQ 2 G9 hCG9 (KX.trans hXG8 hXG9) hFG9 (by omega))
          · -- 91 to 94
            refine s_bipush dX8_checkDefinition_94 rfl (by decide) ?_
            refine s_istore dX8_checkDefinition_96 (by decide) (lv' := [some (2, ((327684 : Nat) : Int)), some (2, ((o : Nat) : Int)), some (0, k), some (2, ((f : Nat) : Int)), some (0, gS G (o + 3) ((k : Int).toNat)), some (0, 6)]) rfl ?_
            refine s_iload dX8_checkDefinition_98 rfl ?_
            exact s_iret hR dX8_checkDefinition_100 rfl (hQ 6 G9 hCG9 (KX.trans hXG8 hXG9) hFG9 (by omega))

abbrev kX8_findTypes : KD := (RX8, cX8_findTypes, 6, (some .int), [])
def TX8_findTypes : TR := fun as G Qr => ∃ (o f : Nat) (a b : Nat), as = [(2, ((327684 : Nat) : Int)), (2, ((o : Nat) : Int)), (2, ((f : Nat) : Int))] ∧ CI a b G ∧ (a ≤ 2840000 ∧ b ≤ 590000) ∧ (isVr o) ∧ (isFc f) ∧ ∀ (r : Int) (G' : LG), CI a b G' → KX G G' → WX (fun x => (262144 ≤ x ∧ x < 262208) ∨ x = f + 1 ∨ x = f + 3 ∨ x = f + 4 ∨ (f + 7 ≤ x ∧ x ≤ f + 12)) G G' → ((r = 0 → ∀ P : Int → Prop, SMP P → ∀ k : Nat, k < 6 → FIP P G' 262144 k) ∧ ∀ P : Int → Prop, SMP P → FPa P G f → FPa P G' f) → Qr (.inl (some (0, r))) G'
set_option maxHeartbeats 4000000 in
set_option maxRecDepth 100000 in
theorem gX8_findTypes : Good kX8_findTypes yX8_findTypes 3 TX8_findTypes := by
  refine good_of (by decide) rfl rfl (fun as G Qr h => ?_) (fun X as G Qr hcf hR hT oa => ?_)
  · obtain ⟨o, f, a, b, rfl, -⟩ := h; exact Nat.le_of_ble_eq_true rfl
  obtain ⟨o, f, a, b, rfl, hC, hab, ho, hf, hQ⟩ := hT
  show WP kX8_findTypes X 0 [some (2, ((327684 : Nat) : Int)), some (2, ((o : Nat) : Int)), some (2, ((f : Nat) : Int)), none, none, none] [] G
  refine s_alvl 327684 (k := 0) rfl (fun al0 => ?_)
  refine s_alvl f (k := 2) rfl (fun alf => ?_)
  refine s_alvl o (k := 1) rfl (fun alo => ?_)
  refine s_lk (fun hlk => ?_)
  have hfc := hlk.fc hC hf alf
  obtain ⟨hfk0, hfk1, hfk2, hfk3, hfk4, hfk5, hfk6⟩ := hfc.1
  have hu0 : gK G 327684 = (17, 0) := hC.1.k (c := 504) (by decide) al0
  have hu1 : gS G 327684 1 = ((262144 : Nat) : Int) := by have h9 : gS G 327684 1 = 262144 := hC.1.v (c := 504) (j := 1) (by decide) al0 (by rw [hu0]; exact Nat.le_of_ble_eq_true rfl); omega
  have alF : (gK G 262144).1 ≠ 0 := hlk.at al0 (by rw [hu0]; exact Nat.le_of_ble_eq_true rfl) (by rw [hu0]; rfl) hu1
  have hkF : gK G 262144 = (10, 0) := hC.1.k (c := 400) (by decide) alF
  have hF1v : gS G 262144 1 = ((262146 : Nat) : Int) := hC.1.v (c := 400) (j := 1) (by decide) alF (by rw [hkF]; exact Nat.le_of_ble_eq_true rfl)
  have al2 : (gK G 262146).1 ≠ 0 := hlk.at alF (by rw [hkF]; exact Nat.le_of_ble_eq_true rfl) (by rw [hkF]; rfl) hF1v
  have hF4v : gS G 262144 4 = ((262149 : Nat) : Int) := hC.1.v (c := 400) (j := 4) (by decide) alF (by rw [hkF]; exact Nat.le_of_ble_eq_true rfl)
  have al5 : (gK G 262149).1 ≠ 0 := hlk.at alF (by rw [hkF]; exact Nat.le_of_ble_eq_true rfl) (by rw [hkF]; rfl) hF4v
  have hIG : ∀ P : Int → Prop, SMP P → FPa P G f → FPa P G f := fun P _ h => h
  refine s_aload_n dX8_findTypes_0 rfl (Int.natCast_nonneg _) ?_
  have hk3 : gK G (o) = (19, 0) := hC.1.k (by rw [cde_v (by omega) (by omega)]; omega : cde o = 200) alo
  refine s_callV (as := []) (rest := []) (n := o) (ci := 11) gX10_typeNames dX8_findTypes_1 m_1441 m_760 m_1500 m_713 m_87 ⟨by decide, by decide, show (parseMethodDescriptor yX10_typeNames.desc).map (fun d => d.parameters.length) = some 0 from by decide +kernel⟩ (Nat.le_of_ble_eq_true rfl) (by rw [hcf]; exact Nat.le_of_ble_eq_true rfl) hk3 rfl rfl (Nat.le_of_ble_eq_true rfl) ⟨o, a, b, rfl, hC, hab, (by first | assumption | omega), fun rr1 hp2 => ?_⟩
  show WP kX8_findTypes X 4 [some (2, ((327684 : Nat) : Int)), some (2, ((o : Nat) : Int)), some (2, ((f : Nat) : Int)), none, none, none] [(0, rr1)] G
  refine s_istore_n dX8_findTypes_4 (by decide) (lv' := [some (2, ((327684 : Nat) : Int)), some (2, ((o : Nat) : Int)), some (2, ((f : Nat) : Int)), some (0, rr1), none, none]) rfl ?_
  refine s_aload_n dX8_findTypes_5 rfl (Int.natCast_nonneg _) ?_
  have hv4 : gS G 327684 1 = ((262144 : Nat) : Int) := by have h9 : (gS G 327684 1) = 262144 := hC.1.v (j := 1) (by decide : cde 327684 = 504) al0 (by rw [hu0]; exact Nat.le_of_ble_eq_true rfl); omega
  refine s_getf (ci := 9) (k := 1) (C := RX8) (T := TX8) (N := 5) (n := 327684) (L := 0) (t := 2) dX8_findTypes_6 rfl wi_76 m_684 (Nat.le_of_ble_eq_true rfl) rfl rfl hu0 hv4 ?_
  refine s_callV (as := []) (rest := []) (n := 262144) (ci := 2) gX1_clear dX8_findTypes_9 m_1442 m_911 m_1487 m_712 m_252 ⟨by decide, by decide, show (parseMethodDescriptor yX1_clear.desc).map (fun d => d.parameters.length) = some 0 from by decide +kernel⟩ (Nat.le_of_ble_eq_true rfl) (by rw [hcf]; exact Nat.le_of_ble_eq_true rfl) hkF rfl rfl (Nat.le_of_ble_eq_true rfl) ⟨262144, a, b, rfl, hC, hab, (by first | assumption | omega), fun G5 hCG5 hXG5 hfG5 hpG5 => ?_⟩
  have hFG5 : WX (fun x => (262144 ≤ x ∧ x < 262208) ∨ x = f + 1 ∨ x = f + 3 ∨ x = f + 4 ∨ (f + 7 ≤ x ∧ x ≤ f + 12)) G G5 := WX.trans WX.rf KX.rf (WX.mono hfG5 (fun x hx => by omega))
  have hTLG5 : ∀ P : Int → Prop, SMP P → ∀ k : Nat, k < 6 → TLP P G5 262144 k := fun P hP k hk => TLP.zero (hpG5 k hk).1
  have hFIG5 : ∀ P : Int → Prop, SMP P → ∀ k : Nat, k < 6 → FIP P G5 262144 k := fun P hP k hk => FIP.zero (hpG5 k hk).2
  have hIGG5 : ∀ P : Int → Prop, SMP P → FPa P G f → FPa P G5 f := fun P hP hF => (hIG P hP hF).wx hXG5 hfG5 ⟨KX.al KX.rf (kne hfk3 (by decide)), KX.al KX.rf (kne hfk4 (by decide))⟩ (by show ¬ _; omega) (by show ¬ _; omega) (fun p hp => by show ¬ _; omega)
  show WP kX8_findTypes X 12 [some (2, ((327684 : Nat) : Int)), some (2, ((o : Nat) : Int)), some (2, ((f : Nat) : Int)), some (0, rr1), none, none] [] G5
  refine s_iconst dX8_findTypes_12 (by decide) ?_
  refine s_istore dX8_findTypes_13 (by decide) (lv' := [some (2, ((327684 : Nat) : Int)), some (2, ((o : Nat) : Int)), some (2, ((f : Nat) : Int)), some (0, rr1), some (0, 0), none]) rfl ?_
  have L7 : ∀ (fu7 : Nat) (n7 : Int) (G7 : LG), CI a b G7 → KX G5 G7 → WX (fun x => (262144 ≤ x ∧ x < 262208) ∨ x = f + 1 ∨ x = f + 3 ∨ x = f + 4 ∨ (f + 7 ≤ x ∧ x ≤ f + 12)) G G7 → ((0 ≤ n7 ∧ n7 ≤ 6) ∧ (∀ P : Int → Prop, SMP P → ∀ k : Nat, k < 6 → TLP P G7 262144 k) ∧ (∀ P : Int → Prop, SMP P → ∀ k : Nat, k < 6 → FIP P G7 262144 k) ∧ (∀ P : Int → Prop, SMP P → FPa P G f → FPa P G7 f)) → (6 - n7).toNat < fu7 → WP kX8_findTypes X 15 [some (2, ((327684 : Nat) : Int)), some (2, ((o : Nat) : Int)), some (2, ((f : Nat) : Int)), some (0, rr1), some (0, n7), none] [] G7 := by
    intro fu7
    induction fu7 with
    | zero => intro n7 G7 hCG7 hXG7 hFG7 hi7 hm7; exact absurd hm7 (Nat.not_lt_zero _)
    | succ fu7 ih7 =>
      intro n7 G7 hCG7 hXG7 hFG7 hi7 hm7
      obtain ⟨in_7, hTLG7, hFIG7, hIGG7⟩ := hi7
      refine s_iload dX8_findTypes_15 rfl ?_
      refine s_bipush dX8_findTypes_17 rfl (by decide) ?_
      refine s_icmp_ge (tgt := 95) dX8_findTypes_19 (by decide) (fun c8 => ?_) (fun c8 => ?_)
      · -- 19 to 95
        refine s_aload_n dX8_findTypes_95 rfl (Int.natCast_nonneg _) ?_
        have hk9 : gK G7 (327684) = (17, 0) := ((hXG7).k ((hXG5).k hu0 (by decide)) (by decide))
        refine s_alv (327684) (by simp) (fun al10 => ?_)
        have hv11 : gS G7 327684 1 = ((262144 : Nat) : Int) := by have h9 : (gS G7 327684 1) = 262144 := hCG7.1.v (j := 1) (by decide : cde 327684 = 504) al10 (by rw [hk9]; exact Nat.le_of_ble_eq_true rfl); omega
        refine s_getf (ci := 9) (k := 1) (C := RX8) (T := TX8) (N := 5) (n := 327684) (L := 0) (t := 2) dX8_findTypes_96 rfl wi_76 m_684 (Nat.le_of_ble_eq_true rfl) rfl rfl hk9 hv11 ?_
        have hk14 : gK G7 (262144) = (10, 0) := ((hXG7).k ((hXG5).k hkF (by decide)) (by decide))
        refine s_callV (as := []) (rest := []) (n := 262144) (ci := 2) gX1_makeFull dX8_findTypes_99 m_1444 m_917 m_1492 m_712 m_259 ⟨by decide, by decide, show (parseMethodDescriptor yX1_makeFull.desc).map (fun d => d.parameters.length) = some 0 from by decide +kernel⟩ (Nat.le_of_ble_eq_true rfl) (by rw [hcf]; exact Nat.le_of_ble_eq_true rfl) hk14 rfl rfl (Nat.le_of_ble_eq_true rfl) ⟨262144, a, b, rfl, hCG7, hab, (by first | assumption | omega), fun rr13 G12 hCG12 hXG12 hfG12 hpG12 => ?_⟩
        have hFG12 : WX (fun x => (262144 ≤ x ∧ x < 262208) ∨ x = f + 1 ∨ x = f + 3 ∨ x = f + 4 ∨ (f + 7 ≤ x ∧ x ≤ f + 12)) G G12 := WX.trans hFG7 (KX.trans hXG5 hXG7) (WX.mono hfG12 (fun x hx => by omega))
        have hFIG12 : ∀ P : Int → Prop, SMP P → ∀ k : Nat, k < 6 → FIP P G12 262144 k := fun P hP => hpG12.2 P (hTLG7 P hP) (hFIG7 P hP)
        have hIGG12 : ∀ P : Int → Prop, SMP P → FPa P G f → FPa P G12 f := fun P hP hF => (hIGG7 P hP hF).wx hXG12 hfG12 ⟨KX.al (KX.trans hXG5 hXG7) (kne hfk3 (by decide)), KX.al (KX.trans hXG5 hXG7) (kne hfk4 (by decide))⟩ (by show ¬ _; omega) (by show ¬ _; omega) (fun p hp => by show ¬ _; omega)
        show WP kX8_findTypes X 102 [some (2, ((327684 : Nat) : Int)), some (2, ((o : Nat) : Int)), some (2, ((f : Nat) : Int)), some (0, rr1), some (0, n7), none] [(0, rr13)] G12
        refine s_istore dX8_findTypes_102 (by decide) (lv' := [some (2, ((327684 : Nat) : Int)), some (2, ((o : Nat) : Int)), some (2, ((f : Nat) : Int)), some (0, rr1), some (0, rr13), none]) rfl ?_
        refine s_iconst dX8_findTypes_104 (by decide) ?_
        refine s_istore dX8_findTypes_105 (by decide) (lv' := [some (2, ((327684 : Nat) : Int)), some (2, ((o : Nat) : Int)), some (2, ((f : Nat) : Int)), some (0, rr1), some (0, rr13), some (0, 0)]) rfl ?_
        have L15 : ∀ (n15 : Nat) (e15 : Int) (G15 : LG), CI a b G15 → KX G12 G15 → WX (fun x => (262144 ≤ x ∧ x < 262208) ∨ x = f + 1 ∨ x = f + 3 ∨ x = f + 4 ∨ (f + 7 ≤ x ∧ x ≤ f + 12)) G G15 → ((0 ≤ e15 ∧ e15 ≤ 6) ∧ (rr13 = 0 → ∀ k : Nat, k < 6 → gS G15 262149 k ≤ 200) ∧ (∀ P : Int → Prop, SMP P → ∀ k : Nat, k < 6 → FIP P G15 262144 k) ∧ (∀ P : Int → Prop, SMP P → FPa P G f → FPa P G15 f)) → (6 - e15).toNat < n15 → WP kX8_findTypes X 107 [some (2, ((327684 : Nat) : Int)), some (2, ((o : Nat) : Int)), some (2, ((f : Nat) : Int)), some (0, rr1), some (0, rr13), some (0, e15)] [] G15 := by
          intro n15
          induction n15 with
          | zero => intro e15 G15 hCG15 hXG15 hFG15 hi15 hm15; exact absurd hm15 (Nat.not_lt_zero _)
          | succ n15 ih15 =>
            intro e15 G15 hCG15 hXG15 hFG15 hi15 hm15
            obtain ⟨ie15, is15, hFIG15, hIGG15⟩ := hi15
            refine s_iload dX8_findTypes_107 rfl ?_
            refine s_bipush dX8_findTypes_109 rfl (by decide) ?_
            refine s_icmp_ge (tgt := 181) dX8_findTypes_111 (by decide) (fun c16 => ?_) (fun c16 => ?_)
            · -- 111 to 181
              refine s_iload dX8_findTypes_181 rfl ?_
              exact s_iret hR dX8_findTypes_183 rfl (hQ rr13 G15 hCG15 (KX.trans (KX.trans (KX.trans hXG5 hXG7) hXG12) hXG15) hFG15 ⟨fun _ => hFIG15, hIGG15⟩)
            · -- 111 to 114
              refine s_iload dX8_findTypes_114 rfl ?_
              refine s_if_ne (tgt := 181) dX8_findTypes_116 (by decide) (fun c17 => ?_) (fun c17 => ?_)
              · -- 116 to 181
                refine s_iload dX8_findTypes_181 rfl ?_
                exact s_iret hR dX8_findTypes_183 rfl (hQ rr13 G15 hCG15 (KX.trans (KX.trans (KX.trans hXG5 hXG7) hXG12) hXG15) hFG15 ⟨fun _ => hFIG15, hIGG15⟩)
              · -- 116 to 119
                refine s_aload_n dX8_findTypes_119 rfl (Int.natCast_nonneg _) ?_
                have hk18 : gK G15 (o) = (19, 0) := ((hXG15).k ((hXG12).k ((hXG7).k ((hXG5).k hk3 (by decide)) (by decide)) (by decide)) (by decide))
                refine s_alv (o) (by simp) (fun al19 => ?_)
                have hv20 : gS G15 o 0 = ((o + 1 : Nat) : Int) := by have h9 : (gS G15 o 0) = (((o % 1048576) + 1 : Nat) : Int) := hCG15.1.v (j := 0) (by rw [cde_v (by omega) (by omega)]; omega : cde o = 200) al19 (by rw [hk18]; exact Nat.le_of_ble_eq_true rfl); omega
                refine s_getf (ci := 11) (k := 0) (C := RX10) (T := TX10) (N := 4) (n := o) (L := 0) (t := 2) dX8_findTypes_120 rfl wi_67 m_685 (Nat.le_of_ble_eq_true rfl) rfl rfl hk18 hv20 ?_
                refine s_iload dX8_findTypes_123 rfl ?_
                refine s_alv (o + 1) (by simp) (fun al21 => ?_)
                have hk22 : gK G15 (o + 1) = (1, 6) := hCG15.1.k (by rw [cde_v (by omega) (by omega)]; omega : cde (o + 1) = 201) al21
                have hv23 : -2 ≤ (gS G15 (o + 1) (e15 : Int).toNat) ∧ (gS G15 (o + 1) (e15 : Int).toNat) ≤ 59 := hCG15.1.v (j := (e15 : Int).toNat) (by rw [cde_v (by omega) (by omega)]; omega : cde (o + 1) = 201) al21 (by rw [hk22]; show (e15 : Int).toNat < 6; omega)
                refine s_iald dX8_findTypes_125 hk22 (by omega) (by omega) rfl ?_
                refine s_iconst dX8_findTypes_126 (by decide) ?_
                refine s_icmp_ne (tgt := 139) dX8_findTypes_127 (by decide) (fun c24 => ?_) (fun c24 => ?_)
                · -- 127 to 139
                  refine s_aload_n dX8_findTypes_139 rfl (Int.natCast_nonneg _) ?_
                  have hv25 : gS G15 o 0 = ((o + 1 : Nat) : Int) := by have h9 : (gS G15 o 0) = (((o % 1048576) + 1 : Nat) : Int) := hCG15.1.v (j := 0) (by rw [cde_v (by omega) (by omega)]; omega : cde o = 200) al19 (by rw [hk18]; exact Nat.le_of_ble_eq_true rfl); omega
                  refine s_getf (ci := 11) (k := 0) (C := RX10) (T := TX10) (N := 4) (n := o) (L := 0) (t := 2) dX8_findTypes_140 rfl wi_67 m_685 (Nat.le_of_ble_eq_true rfl) rfl rfl hk18 hv25 ?_
                  refine s_iload dX8_findTypes_143 rfl ?_
                  have hv26 : -2 ≤ (gS G15 (o + 1) (e15 : Int).toNat) ∧ (gS G15 (o + 1) (e15 : Int).toNat) ≤ 59 := hCG15.1.v (j := (e15 : Int).toNat) (by rw [cde_v (by omega) (by omega)]; omega : cde (o + 1) = 201) al21 (by rw [hk22]; show (e15 : Int).toNat < 6; omega)
                  refine s_iald dX8_findTypes_145 hk22 (by omega) (by omega) rfl ?_
                  refine s_if_lt (tgt := 175) dX8_findTypes_146 (by decide) (fun c27 => ?_) (fun c27 => ?_)
                  · -- 146 to 175
                    refine s_iinc dX8_findTypes_175 (v := e15) rfl (by omega) (by decide) (lv' := [some (2, ((327684 : Nat) : Int)), some (2, ((o : Nat) : Int)), some (2, ((f : Nat) : Int)), some (0, rr1), some (0, rr13), some (0, e15 + 1)]) rfl ?_
                    refine s_goto (tgt := 107) dX8_findTypes_178 (by decide) ?_
                    exact ih15 (e15 + 1) G15 hCG15 hXG15 hFG15 (⟨(by omega), (by exact is15), (by exact hFIG15), (by exact hIGG15)⟩) (by omega)
                  · -- 146 to 149
                    have hs9 := is15 (by omega) (e15 : Int).toNat (by omega)
                    refine s_aload_n dX8_findTypes_149 rfl (Int.natCast_nonneg _) ?_
                    refine s_iload dX8_findTypes_150 rfl ?_
                    refine s_aload_n dX8_findTypes_152 rfl (Int.natCast_nonneg _) ?_
                    have hk28 : gK G15 (327684) = (17, 0) := ((hXG15).k ((hXG12).k hk9 (by decide)) (by decide))
                    refine s_alv (327684) (by simp) (fun al29 => ?_)
                    have hv30 : gS G15 327684 1 = ((262144 : Nat) : Int) := by have h9 : (gS G15 327684 1) = 262144 := hCG15.1.v (j := 1) (by decide : cde 327684 = 504) al29 (by rw [hk28]; exact Nat.le_of_ble_eq_true rfl); omega
                    refine s_getf (ci := 9) (k := 1) (C := RX8) (T := TX8) (N := 5) (n := 327684) (L := 0) (t := 2) dX8_findTypes_153 rfl wi_76 m_684 (Nat.le_of_ble_eq_true rfl) rfl rfl hk28 hv30 ?_
                    have hk31 : gK G15 (262144) = (10, 0) := ((hXG15).k ((hXG12).k hk14 (by decide)) (by decide))
                    refine s_alv (262144) (by simp) (fun al32 => ?_)
                    have hv33 : gS G15 262144 3 = ((262148 : Nat) : Int) := by have h9 : (gS G15 262144 3) = (((262144 % 1048576) + 4 : Nat) : Int) := hCG15.1.v (j := 3) (by decide : cde 262144 = 400) al32 (by rw [hk31]; exact Nat.le_of_ble_eq_true rfl); omega
                    refine s_getf (ci := 2) (k := 3) (C := RX1) (T := TX1) (N := 5) (n := 262144) (L := 0) (t := 2) dX8_findTypes_156 rfl wi_66 m_689 (Nat.le_of_ble_eq_true rfl) rfl rfl hk31 hv33 ?_
                    refine s_iload dX8_findTypes_159 rfl ?_
                    refine s_alv (262148) (by simp) (fun al34 => ?_)
                    have hk35 : gK G15 (262148) = (4, 6) := hCG15.1.k (by decide : cde 262148 = 404) al34
                    have hv37b : (gS G15 262148 (e15 : Int).toNat) = (((262148 % 1048576) + 12 + ((e15 : Int).toNat) : Nat) : Int) := hCG15.1.v (j := (e15 : Int).toNat) (by decide : cde 262148 = 404) al34 (by rw [hk35]; show (e15 : Int).toNat < 6; omega)
                    obtain ⟨q36, hv37⟩ : ∃ q : Nat, gS G15 262148 (e15 : Int).toNat = (q : Int) := ⟨(gS G15 262148 (e15 : Int).toNat).toNat, by omega⟩
                    rw [hv37] at hv37b
                    refine s_aald4 dX8_findTypes_161 hk35 (by omega) (by omega) hv37 ?_
                    refine s_aload_n dX8_findTypes_162 rfl (Int.natCast_nonneg _) ?_
                    have hv38 : gS G15 327684 1 = ((262144 : Nat) : Int) := by have h9 : (gS G15 327684 1) = 262144 := hCG15.1.v (j := 1) (by decide : cde 327684 = 504) al29 (by rw [hk28]; exact Nat.le_of_ble_eq_true rfl); omega
                    refine s_getf (ci := 9) (k := 1) (C := RX8) (T := TX8) (N := 5) (n := 327684) (L := 0) (t := 2) dX8_findTypes_163 rfl wi_76 m_684 (Nat.le_of_ble_eq_true rfl) rfl rfl hk28 hv38 ?_
                    have hv39 : gS G15 262144 4 = ((262149 : Nat) : Int) := by have h9 : (gS G15 262144 4) = (((262144 % 1048576) + 5 : Nat) : Int) := hCG15.1.v (j := 4) (by decide : cde 262144 = 400) al32 (by rw [hk31]; exact Nat.le_of_ble_eq_true rfl); omega
                    refine s_getf (ci := 2) (k := 4) (C := RX1) (T := TX1) (N := 5) (n := 262144) (L := 0) (t := 2) dX8_findTypes_166 rfl wi_66 m_690 (Nat.le_of_ble_eq_true rfl) rfl rfl hk31 hv39 ?_
                    refine s_iload dX8_findTypes_169 rfl ?_
                    refine s_alv (262149) (by simp) (fun al40 => ?_)
                    have hk41 : gK G15 (262149) = (1, 6) := hCG15.1.k (by decide : cde 262149 = 405) al40
                    have hv42 : 0 ≤ (gS G15 262149 (e15 : Int).toNat) ∧ (gS G15 262149 (e15 : Int).toNat) ≤ 201 := hCG15.1.v (j := (e15 : Int).toNat) (by decide : cde 262149 = 405) al40 (by rw [hk41]; show (e15 : Int).toNat < 6; omega)
                    refine s_iald dX8_findTypes_171 hk41 (by omega) (by omega) rfl ?_
                    refine s_alv (q36) (by simp) (fun al43 => ?_)
                    have hk44 := hCG15.1.kf (show (408 ≤ cde q36 ∧ cde q36 < 414) ∨ (416 ≤ cde q36 ∧ cde q36 < 422) from by rw [cde_f (by omega) (by omega)]; omega) al43
                    have hk47 : gK G15 (f) = (9, 0) := ((hXG15).k ((hXG12).k ((hXG7).k ((hXG5).k hfk0 (by decide)) (by decide)) (by decide)) (by decide))
                    refine s_callV (as := [(0, e15), (2, ((q36 : Nat) : Int)), (0, gS G15 262149 ((e15 : Int).toNat))]) (rest := []) (n := f) (ci := 1) gX0_putType dX8_findTypes_172 m_1446 m_748 m_1481 m_711 m_75 ⟨by decide, by decide, show (parseMethodDescriptor yX0_putType.desc).map (fun d => d.parameters.length) = some 3 from by decide +kernel⟩ (Nat.le_of_ble_eq_true rfl) (by rw [hcf]; exact Nat.le_of_ble_eq_true rfl) hk47 rfl rfl (Nat.le_of_ble_eq_true rfl) ⟨f, e15, q36, 200, gS G15 262149 ((e15 : Int).toNat), a, b, rfl, hCG15, hab, (by first | assumption | omega), (by first | assumption | omega), hk44, (by first | assumption | omega), (by first | assumption | omega), (by first | assumption | omega), fun G45 hCG45 hXG45 hfG45 hpG45 => ?_⟩
                    have hFG45 : WX (fun x => (262144 ≤ x ∧ x < 262208) ∨ x = f + 1 ∨ x = f + 3 ∨ x = f + 4 ∨ (f + 7 ≤ x ∧ x ≤ f + 12)) G G45 := WX.trans hFG15 (KX.trans (KX.trans (KX.trans hXG5 hXG7) hXG12) hXG15) (WX.mono hfG45 (fun x hx => by omega))
                    have hFIG45 : ∀ P : Int → Prop, SMP P → ∀ k : Nat, k < 6 → FIP P G45 262144 k := fun P hP k hk => FIP.sm (hFIG15 P hP k hk) hXG45 hfG45 (by show ¬ _; omega) (congrFun (hfG45 262149 (KX.al (KX.trans (KX.trans (KX.trans hXG5 hXG7) hXG12) hXG15) al5) (by show ¬ _; omega)) k)
                    have hIGG45 : ∀ P : Int → Prop, SMP P → FPa P G f → FPa P G45 f := fun P hP hF => FPa.put hpG45 (hIGG15 P hP hF) (fun _ z => RPs.at (hFIG15 P hP (e15 : Int).toNat (by omega) (by omega)) (by omega)) hXG45 hfG45 (fun p hp hn => by show ¬ _; omega)
                    show WP kX8_findTypes X 175 [some (2, ((327684 : Nat) : Int)), some (2, ((o : Nat) : Int)), some (2, ((f : Nat) : Int)), some (0, rr1), some (0, rr13), some (0, e15)] [] G45
                    refine s_iinc dX8_findTypes_175 (v := e15) rfl (by omega) (by decide) (lv' := [some (2, ((327684 : Nat) : Int)), some (2, ((o : Nat) : Int)), some (2, ((f : Nat) : Int)), some (0, rr1), some (0, rr13), some (0, e15 + 1)]) rfl ?_
                    refine s_goto (tgt := 107) dX8_findTypes_178 (by decide) ?_
                    exact ih15 (e15 + 1) G45 hCG45 (KX.trans hXG15 hXG45) hFG45 (⟨(by omega), (by intro z k hk; rw [hfG45 262149 (KX.al (KX.trans (KX.trans (KX.trans hXG5 hXG7) hXG12) hXG15) al5) (by show ¬ _; omega)]; exact is15 z k hk), (by exact hFIG45), (by exact hIGG45)⟩) (by omega)
                · -- 127 to 130
                  refine s_aload_n dX8_findTypes_130 rfl (Int.natCast_nonneg _) ?_
                  refine s_iload dX8_findTypes_131 rfl ?_
                  have hk50 : gK G15 (f) = (9, 0) := ((hXG15).k ((hXG12).k ((hXG7).k ((hXG5).k hfk0 (by decide)) (by decide)) (by decide)) (by decide))
                  refine s_callV (as := [(0, e15)]) (rest := []) (n := f) (ci := 1) gX0_putTypeHole dX8_findTypes_133 m_1445 m_749 m_1482 m_711 m_76 ⟨by decide, by decide, show (parseMethodDescriptor yX0_putTypeHole.desc).map (fun d => d.parameters.length) = some 1 from by decide +kernel⟩ (Nat.le_of_ble_eq_true rfl) (by rw [hcf]; exact Nat.le_of_ble_eq_true rfl) hk50 rfl rfl (Nat.le_of_ble_eq_true rfl) ⟨f, e15, a, b, rfl, hCG15, hab, (by first | assumption | omega), (by first | assumption | omega), fun G48 hCG48 hXG48 hfG48 hpG48 => ?_⟩
                  have hFG48 : WX (fun x => (262144 ≤ x ∧ x < 262208) ∨ x = f + 1 ∨ x = f + 3 ∨ x = f + 4 ∨ (f + 7 ≤ x ∧ x ≤ f + 12)) G G48 := WX.trans hFG15 (KX.trans (KX.trans (KX.trans hXG5 hXG7) hXG12) hXG15) (WX.mono hfG48 (fun x hx => by omega))
                  have hFIG48 : ∀ P : Int → Prop, SMP P → ∀ k : Nat, k < 6 → FIP P G48 262144 k := fun P hP k hk => FIP.sm (hFIG15 P hP k hk) hXG48 hfG48 (by show ¬ _; omega) (congrFun (hfG48 262149 (KX.al (KX.trans (KX.trans (KX.trans hXG5 hXG7) hXG12) hXG15) al5) (by show ¬ _; omega)) k)
                  have hIGG48 : ∀ P : Int → Prop, SMP P → FPa P G f → FPa P G48 f := fun P hP hF => (hIGG15 P hP hF).wx hXG48 hfG48 ⟨KX.al (KX.trans (KX.trans (KX.trans hXG5 hXG7) hXG12) hXG15) (kne hfk3 (by decide)), KX.al (KX.trans (KX.trans (KX.trans hXG5 hXG7) hXG12) hXG15) (kne hfk4 (by decide))⟩ (by show ¬ _; omega) (by show ¬ _; omega) (fun p hp => by show ¬ _; omega)
                  show WP kX8_findTypes X 136 [some (2, ((327684 : Nat) : Int)), some (2, ((o : Nat) : Int)), some (2, ((f : Nat) : Int)), some (0, rr1), some (0, rr13), some (0, e15)] [] G48
                  refine s_goto (tgt := 175) dX8_findTypes_136 (by decide) ?_
                  refine s_iinc dX8_findTypes_175 (v := e15) rfl (by omega) (by decide) (lv' := [some (2, ((327684 : Nat) : Int)), some (2, ((o : Nat) : Int)), some (2, ((f : Nat) : Int)), some (0, rr1), some (0, rr13), some (0, e15 + 1)]) rfl ?_
                  refine s_goto (tgt := 107) dX8_findTypes_178 (by decide) ?_
                  exact ih15 (e15 + 1) G48 hCG48 (KX.trans hXG15 hXG48) hFG48 (⟨(by omega), (by intro z k hk; rw [hfG48 262149 (KX.al (KX.trans (KX.trans (KX.trans hXG5 hXG7) hXG12) hXG15) al5) (by show ¬ _; omega)]; exact is15 z k hk), (by exact hFIG48), (by exact hIGG48)⟩) (by omega)
        exact L15 _ 0 G12 hCG12 KX.rf hFG12 (⟨(by omega), (by exact hpG12.1), (by exact hFIG12), (by exact hIGG12)⟩) (Nat.lt_succ_self _)
      · -- 19 to 22
        refine s_aload_n dX8_findTypes_22 rfl (Int.natCast_nonneg _) ?_
        have hk51 : gK G7 (o) = (19, 0) := ((hXG7).k ((hXG5).k hk3 (by decide)) (by decide))
        refine s_alv (o) (by simp) (fun al52 => ?_)
        have hv53 : gS G7 o 0 = ((o + 1 : Nat) : Int) := by have h9 : (gS G7 o 0) = (((o % 1048576) + 1 : Nat) : Int) := hCG7.1.v (j := 0) (by rw [cde_v (by omega) (by omega)]; omega : cde o = 200) al52 (by rw [hk51]; exact Nat.le_of_ble_eq_true rfl); omega
        refine s_getf (ci := 11) (k := 0) (C := RX10) (T := TX10) (N := 4) (n := o) (L := 0) (t := 2) dX8_findTypes_23 rfl wi_67 m_685 (Nat.le_of_ble_eq_true rfl) rfl rfl hk51 hv53 ?_
        refine s_iload dX8_findTypes_26 rfl ?_
        refine s_alv (o + 1) (by simp) (fun al54 => ?_)
        have hk55 : gK G7 (o + 1) = (1, 6) := hCG7.1.k (by rw [cde_v (by omega) (by omega)]; omega : cde (o + 1) = 201) al54
        have hv56 : -2 ≤ (gS G7 (o + 1) (n7 : Int).toNat) ∧ (gS G7 (o + 1) (n7 : Int).toNat) ≤ 59 := hCG7.1.v (j := (n7 : Int).toNat) (by rw [cde_v (by omega) (by omega)]; omega : cde (o + 1) = 201) al54 (by rw [hk55]; show (n7 : Int).toNat < 6; omega)
        refine s_iald dX8_findTypes_28 hk55 (by omega) (by omega) rfl ?_
        refine s_istore dX8_findTypes_29 (by decide) (lv' := [some (2, ((327684 : Nat) : Int)), some (2, ((o : Nat) : Int)), some (2, ((f : Nat) : Int)), some (0, rr1), some (0, n7), some (0, gS G7 (o + 1) ((n7 : Int).toNat))]) rfl ?_
        refine s_iload dX8_findTypes_31 rfl ?_
        refine s_if_lt (tgt := 89) dX8_findTypes_33 (by decide) (fun c57 => ?_) (fun c57 => ?_)
        · -- 33 to 89
          refine s_iinc dX8_findTypes_89 (v := n7) rfl (by omega) (by decide) (lv' := [some (2, ((327684 : Nat) : Int)), some (2, ((o : Nat) : Int)), some (2, ((f : Nat) : Int)), some (0, rr1), some (0, n7 + 1), some (0, gS G7 (o + 1) ((n7 : Int).toNat))]) rfl ?_
          refine s_goto (tgt := 15) dX8_findTypes_92 (by decide) ?_
          refine s_mask [true, true, true, true, true, false] (lv' := [some (2, ((327684 : Nat) : Int)), some (2, ((o : Nat) : Int)), some (2, ((f : Nat) : Int)), some (0, rr1), some (0, n7 + 1), none]) rfl ?_
          exact ih7 (n7 + 1) G7 hCG7 hXG7 hFG7 (⟨(by omega), (by exact hTLG7), (by exact hFIG7), (by exact hIGG7)⟩) (by omega)
        · -- 33 to 36
          refine s_aload_n dX8_findTypes_36 rfl (Int.natCast_nonneg _) ?_
          have hk58 : gK G7 (327684) = (17, 0) := ((hXG7).k ((hXG5).k hu0 (by decide)) (by decide))
          refine s_alv (327684) (by simp) (fun al59 => ?_)
          have hv60 : gS G7 327684 0 = ((327681 : Nat) : Int) := by have h9 : (gS G7 327684 0) = 327681 := hCG7.1.v (j := 0) (by decide : cde 327684 = 504) al59 (by rw [hk58]; exact Nat.le_of_ble_eq_true rfl); omega
          refine s_getf (ci := 9) (k := 0) (C := RX8) (T := TX8) (N := 5) (n := 327684) (L := 0) (t := 2) dX8_findTypes_37 rfl wi_76 m_681 (Nat.le_of_ble_eq_true rfl) rfl rfl hk58 hv60 ?_
          refine s_alv (327681) (by simp) (fun al61 => ?_)
          have hk62 : gK G7 (327681) = (14, 0) := hCG7.1.k (by decide : cde 327681 = 501) al61
          have hv63 : gS G7 327681 2 = ((327698 : Nat) : Int) := by have h9 : (gS G7 327681 2) = 327698 := hCG7.1.v (j := 2) (by decide : cde 327681 = 501) al61 (by rw [hk62]; exact Nat.le_of_ble_eq_true rfl); omega
          refine s_getf (ci := 6) (k := 2) (C := RX5) (T := TX5) (N := 18) (n := 327681) (L := 0) (t := 2) dX8_findTypes_40 rfl wi_73 m_686 (Nat.le_of_ble_eq_true rfl) rfl rfl hk62 hv63 ?_
          refine s_iload dX8_findTypes_43 rfl ?_
          refine s_alv (327698) (by simp) (fun al64 => ?_)
          have hk65 : gK G7 (327698) = (1, 60) := hCG7.1.k (by decide : cde 327698 = 518) al64
          refine s_iald dX8_findTypes_45 hk65 (by omega) (by omega) rfl ?_
          refine s_iload_n dX8_findTypes_46 rfl ?_
          refine s_iconst dX8_findTypes_47 (by decide) ?_
          refine s_ixor dX8_findTypes_48 ?_
          refine s_iand dX8_findTypes_49 ?_
          refine s_if_eq (tgt := 60) dX8_findTypes_50 (by decide) (fun c66 => ?_) (fun c66 => ?_)
          · -- 50 to 60
            refine s_aload_n dX8_findTypes_60 rfl (Int.natCast_nonneg _) ?_
            have hv67 : gS G7 327684 1 = ((262144 : Nat) : Int) := by have h9 : (gS G7 327684 1) = 262144 := hCG7.1.v (j := 1) (by decide : cde 327684 = 504) al59 (by rw [hk58]; exact Nat.le_of_ble_eq_true rfl); omega
            refine s_getf (ci := 9) (k := 1) (C := RX8) (T := TX8) (N := 5) (n := 327684) (L := 0) (t := 2) dX8_findTypes_61 rfl wi_76 m_684 (Nat.le_of_ble_eq_true rfl) rfl rfl hk58 hv67 ?_
            refine s_iload dX8_findTypes_64 rfl ?_
            refine s_aload_n dX8_findTypes_66 rfl (Int.natCast_nonneg _) ?_
            have hv68 : gS G7 327684 0 = ((327681 : Nat) : Int) := by have h9 : (gS G7 327684 0) = 327681 := hCG7.1.v (j := 0) (by decide : cde 327684 = 504) al59 (by rw [hk58]; exact Nat.le_of_ble_eq_true rfl); omega
            refine s_getf (ci := 9) (k := 0) (C := RX8) (T := TX8) (N := 5) (n := 327684) (L := 0) (t := 2) dX8_findTypes_67 rfl wi_76 m_681 (Nat.le_of_ble_eq_true rfl) rfl rfl hk58 hv68 ?_
            have hv69 : gS G7 327681 0 = ((327696 : Nat) : Int) := by have h9 : (gS G7 327681 0) = 327696 := hCG7.1.v (j := 0) (by decide : cde 327681 = 501) al61 (by rw [hk62]; exact Nat.le_of_ble_eq_true rfl); omega
            refine s_getf (ci := 6) (k := 0) (C := RX5) (T := TX5) (N := 18) (n := 327681) (L := 0) (t := 2) dX8_findTypes_70 rfl wi_73 m_687 (Nat.le_of_ble_eq_true rfl) rfl rfl hk62 hv69 ?_
            refine s_iload dX8_findTypes_73 rfl ?_
            refine s_alv (327696) (by simp) (fun al70 => ?_)
            have hk71 : gK G7 (327696) = (4, 60) := hCG7.1.k (by decide : cde 327696 = 516) al70
            have hv73b : (gS G7 327696 (gS G7 (o + 1) ((n7 : Int).toNat) : Int).toNat) = ((393216 + ((gS G7 (o + 1) ((n7 : Int).toNat) : Int).toNat) : Nat) : Int) := hCG7.1.v (j := (gS G7 (o + 1) ((n7 : Int).toNat) : Int).toNat) (by decide : cde 327696 = 516) al70 (by rw [hk71]; show (gS G7 (o + 1) ((n7 : Int).toNat) : Int).toNat < 60; omega)
            obtain ⟨q72, hv73⟩ : ∃ q : Nat, gS G7 327696 (gS G7 (o + 1) ((n7 : Int).toNat) : Int).toNat = (q : Int) := ⟨(gS G7 327696 (gS G7 (o + 1) ((n7 : Int).toNat) : Int).toNat).toNat, by omega⟩
            rw [hv73] at hv73b
            refine s_aald4 dX8_findTypes_75 hk71 (by omega) (by omega) hv73 ?_
            refine s_aload_n dX8_findTypes_76 rfl (Int.natCast_nonneg _) ?_
            have hv74 : gS G7 327684 0 = ((327681 : Nat) : Int) := by have h9 : (gS G7 327684 0) = 327681 := hCG7.1.v (j := 0) (by decide : cde 327684 = 504) al59 (by rw [hk58]; exact Nat.le_of_ble_eq_true rfl); omega
            refine s_getf (ci := 9) (k := 0) (C := RX8) (T := TX8) (N := 5) (n := 327684) (L := 0) (t := 2) dX8_findTypes_77 rfl wi_76 m_681 (Nat.le_of_ble_eq_true rfl) rfl rfl hk58 hv74 ?_
            have hv75 : gS G7 327681 1 = ((327697 : Nat) : Int) := by have h9 : (gS G7 327681 1) = 327697 := hCG7.1.v (j := 1) (by decide : cde 327681 = 501) al61 (by rw [hk62]; exact Nat.le_of_ble_eq_true rfl); omega
            refine s_getf (ci := 6) (k := 1) (C := RX5) (T := TX5) (N := 18) (n := 327681) (L := 0) (t := 2) dX8_findTypes_80 rfl wi_73 m_688 (Nat.le_of_ble_eq_true rfl) rfl rfl hk62 hv75 ?_
            refine s_iload dX8_findTypes_83 rfl ?_
            refine s_alv (327697) (by simp) (fun al76 => ?_)
            have hk77 : gK G7 (327697) = (1, 60) := hCG7.1.k (by decide : cde 327697 = 517) al76
            have hv78 : 0 ≤ (gS G7 327697 (gS G7 (o + 1) ((n7 : Int).toNat) : Int).toNat) ∧ (gS G7 327697 (gS G7 (o + 1) ((n7 : Int).toNat) : Int).toNat) ≤ 12 := hCG7.1.v (j := (gS G7 (o + 1) ((n7 : Int).toNat) : Int).toNat) (by decide : cde 327697 = 517) al76 (by rw [hk77]; show (gS G7 (o + 1) ((n7 : Int).toNat) : Int).toNat < 60; omega)
            refine s_iald dX8_findTypes_85 hk77 (by omega) (by omega) rfl ?_
            refine s_alv (q72) (by simp) (fun al79 => ?_)
            have hk80 : gK G7 (q72) = (1, 12) := hCG7.1.k (cde_t (by omega) : cde q72 = 600) al79
            have hk83 : gK G7 (262144) = (10, 0) := ((hXG7).k ((hXG5).k hkF (by decide)) (by decide))
            refine s_callV (as := [(0, n7), (2, ((q72 : Nat) : Int)), (0, gS G7 327697 ((gS G7 (o + 1) ((n7 : Int).toNat) : Int).toNat))]) (rest := []) (n := 262144) (ci := 2) gX1_tell dX8_findTypes_86 m_1443 m_919 m_1494 m_712 m_261 ⟨by decide, by decide, show (parseMethodDescriptor yX1_tell.desc).map (fun d => d.parameters.length) = some 3 from by decide +kernel⟩ (Nat.le_of_ble_eq_true rfl) (by rw [hcf]; exact Nat.le_of_ble_eq_true rfl) hk83 rfl rfl (Nat.le_of_ble_eq_true rfl) ⟨262144, n7, q72, 12, gS G7 327697 ((gS G7 (o + 1) ((n7 : Int).toNat) : Int).toNat), a, b, rfl, hCG7, hab, (by first | assumption | omega), (by first | assumption | omega), hk80, (by first | assumption | omega), (by first | assumption | omega), fun G81 hCG81 hXG81 hfG81 hpG81 => ?_⟩
            have hFG81 : WX (fun x => (262144 ≤ x ∧ x < 262208) ∨ x = f + 1 ∨ x = f + 3 ∨ x = f + 4 ∨ (f + 7 ≤ x ∧ x ≤ f + 12)) G G81 := WX.trans hFG7 (KX.trans hXG5 hXG7) (WX.mono hfG81 (fun x hx => by omega))
            have hTLG81 : ∀ P : Int → Prop, SMP P → ∀ k : Nat, k < 6 → TLP P G81 262144 k := fun P hP k hk => by by_cases e : k = (n7 : Int).toNat; (focus (subst e; exact RPs.at (hpG81.1 P (RPs.tr hCG7 (by omega) hk80 hP (by omega))) (by omega))); exact TLP.sm (hTLG7 P hP k hk) hXG81 hfG81 (by show ¬ _; omega) (hpG81.2 k e)
            have hFIG81 : ∀ P : Int → Prop, SMP P → ∀ k : Nat, k < 6 → FIP P G81 262144 k := fun P hP k hk => FIP.sm (hFIG7 P hP k hk) hXG81 hfG81 (by show ¬ _; omega) (congrFun (hfG81 262149 (KX.al (KX.trans hXG5 hXG7) al5) (by show ¬ _; omega)) k)
            have hIGG81 : ∀ P : Int → Prop, SMP P → FPa P G f → FPa P G81 f := fun P hP hF => (hIGG7 P hP hF).wx hXG81 hfG81 ⟨KX.al (KX.trans hXG5 hXG7) (kne hfk3 (by decide)), KX.al (KX.trans hXG5 hXG7) (kne hfk4 (by decide))⟩ (by show ¬ _; omega) (by show ¬ _; omega) (fun p hp => by show ¬ _; omega)
            show WP kX8_findTypes X 89 [some (2, ((327684 : Nat) : Int)), some (2, ((o : Nat) : Int)), some (2, ((f : Nat) : Int)), some (0, rr1), some (0, n7), some (0, gS G7 (o + 1) ((n7 : Int).toNat))] [] G81
            refine s_iinc dX8_findTypes_89 (v := n7) rfl (by omega) (by decide) (lv' := [some (2, ((327684 : Nat) : Int)), some (2, ((o : Nat) : Int)), some (2, ((f : Nat) : Int)), some (0, rr1), some (0, n7 + 1), some (0, gS G7 (o + 1) ((n7 : Int).toNat))]) rfl ?_
            refine s_goto (tgt := 15) dX8_findTypes_92 (by decide) ?_
            refine s_mask [true, true, true, true, true, false] (lv' := [some (2, ((327684 : Nat) : Int)), some (2, ((o : Nat) : Int)), some (2, ((f : Nat) : Int)), some (0, rr1), some (0, n7 + 1), none]) rfl ?_
            exact ih7 (n7 + 1) G81 hCG81 (KX.trans hXG7 hXG81) hFG81 (⟨(by omega), (by exact hTLG81), (by exact hFIG81), (by exact hIGG81)⟩) (by omega)
          · -- 50 to 53
            refine s_iconst dX8_findTypes_53 (by decide) ?_
            refine s_iload dX8_findTypes_54 rfl ?_
            refine s_callSN (own := RX8) rfl (by decide +kernel) (as := [(0, 1), (0, n7)]) (rest := []) gX11_typeMistake dX8_findTypes_56 m_1783 m_714 m_125 ⟨by decide, by decide, show (parseMethodDescriptor yX11_typeMistake.desc).map (fun d => d.parameters.length) = some 2 from by decide +kernel⟩ (Nat.le_of_ble_eq_true rfl) (by rw [hcf]; exact Nat.le_of_ble_eq_true rfl) rfl (Nat.le_of_ble_eq_true rfl) ⟨1, n7, rfl, (by first | assumption | omega), (by first | assumption | omega), fun rr84 hp85 => ?_⟩
            show WP kX8_findTypes X 59 [some (2, ((327684 : Nat) : Int)), some (2, ((o : Nat) : Int)), some (2, ((f : Nat) : Int)), some (0, rr1), some (0, n7), some (0, gS G7 (o + 1) ((n7 : Int).toNat))] [(0, rr84)] G7
            exact s_iret hR dX8_findTypes_59 rfl (hQ rr84 G7 hCG7 (KX.trans hXG5 hXG7) hFG7 ⟨fun h => absurd h (by omega), hIGG7⟩)
  exact L7 _ 0 G5 hCG5 KX.rf hFG5 (⟨(by omega), (by exact hTLG5), (by exact hFIG5), (by exact hIGG5)⟩) (Nat.lt_succ_self _)

abbrev kX8_findValues : KD := (RX8, cX8_findValues, 9, (some .int), [])
def TX8_findValues : TR := fun as G Qr => ∃ (o f : Nat) (a b : Nat), as = [(2, ((327684 : Nat) : Int)), (2, ((o : Nat) : Int)), (2, ((f : Nat) : Int))] ∧ CI a b G ∧ (a ≤ 2840000 ∧ b ≤ 590000) ∧ (isVr o) ∧ (isFc f) ∧ (FSZ G f) ∧ ∀ (r : Int) (G' : LG), CI a b G' → KX G G' → WX (fun x => (262144 ≤ x ∧ x < 262208) ∨ x = 327689 ∨ (f + 1 ≤ x ∧ x ≤ f + 22)) G G' → (FSZ G' f ∧ ∀ P : Int → Prop, SMP P → (∀ k : Nat, k < 6 → FIP P G 262144 k) → FPa P G f → FPa P G' f) → Qr (.inl (some (0, r))) G'
set_option maxHeartbeats 4000000 in
set_option maxRecDepth 100000 in
theorem gX8_findValues : Good kX8_findValues yX8_findValues 3 TX8_findValues := by
  refine good_of (by decide) rfl rfl (fun as G Qr h => ?_) (fun X as G Qr hcf hR hT oa => ?_)
  · obtain ⟨o, f, a, b, rfl, -⟩ := h; exact Nat.le_of_ble_eq_true rfl
  obtain ⟨o, f, a, b, rfl, hC, hab, ho, hf, hsz, hQ⟩ := hT
  show WP kX8_findValues X 0 [some (2, ((327684 : Nat) : Int)), some (2, ((o : Nat) : Int)), some (2, ((f : Nat) : Int)), none, none, none, none, none, none] [] G
  refine s_alvl 327684 (k := 0) rfl (fun al0 => ?_)
  refine s_alvl f (k := 2) rfl (fun alf => ?_)
  refine s_alvl o (k := 1) rfl (fun alo => ?_)
  refine s_lk (fun hlk => ?_)
  have hfc := hlk.fc hC hf alf
  obtain ⟨hfk0, hfk1, hfk2, hfk3, hfk4, hfk5, hfk6⟩ := hfc.1
  have hu0 : gK G 327684 = (17, 0) := hC.1.k (c := 504) (by decide) al0
  have hu1 : gS G 327684 1 = ((262144 : Nat) : Int) := by have h9 : gS G 327684 1 = 262144 := hC.1.v (c := 504) (j := 1) (by decide) al0 (by rw [hu0]; exact Nat.le_of_ble_eq_true rfl); omega
  have alF : (gK G 262144).1 ≠ 0 := hlk.at al0 (by rw [hu0]; exact Nat.le_of_ble_eq_true rfl) (by rw [hu0]; rfl) hu1
  have hkF : gK G 262144 = (10, 0) := hC.1.k (c := 400) (by decide) alF
  have hF1v : gS G 262144 1 = ((262146 : Nat) : Int) := hC.1.v (c := 400) (j := 1) (by decide) alF (by rw [hkF]; exact Nat.le_of_ble_eq_true rfl)
  have al2 : (gK G 262146).1 ≠ 0 := hlk.at alF (by rw [hkF]; exact Nat.le_of_ble_eq_true rfl) (by rw [hkF]; rfl) hF1v
  have hF4v : gS G 262144 4 = ((262149 : Nat) : Int) := hC.1.v (c := 400) (j := 4) (by decide) alF (by rw [hkF]; exact Nat.le_of_ble_eq_true rfl)
  have al5 : (gK G 262149).1 ≠ 0 := hlk.at alF (by rw [hkF]; exact Nat.le_of_ble_eq_true rfl) (by rw [hkF]; rfl) hF4v
  refine s_aload_n dX8_findValues_0 rfl (Int.natCast_nonneg _) ?_
  have hk3 : gK G (o) = (19, 0) := hC.1.k (by rw [cde_v (by omega) (by omega)]; omega : cde o = 200) alo
  refine s_callV (as := []) (rest := []) (n := o) (ci := 11) gX10_typeNames dX8_findValues_1 m_1441 m_760 m_1500 m_713 m_87 ⟨by decide, by decide, show (parseMethodDescriptor yX10_typeNames.desc).map (fun d => d.parameters.length) = some 0 from by decide +kernel⟩ (Nat.le_of_ble_eq_true rfl) (by rw [hcf]; exact Nat.le_of_ble_eq_true rfl) hk3 rfl rfl (Nat.le_of_ble_eq_true rfl) ⟨o, a, b, rfl, hC, hab, (by first | assumption | omega), fun rr1 hp2 => ?_⟩
  show WP kX8_findValues X 4 [some (2, ((327684 : Nat) : Int)), some (2, ((o : Nat) : Int)), some (2, ((f : Nat) : Int)), none, none, none, none, none, none] [(0, rr1)] G
  refine s_istore_n dX8_findValues_4 (by decide) (lv' := [some (2, ((327684 : Nat) : Int)), some (2, ((o : Nat) : Int)), some (2, ((f : Nat) : Int)), some (0, rr1), none, none, none, none, none]) rfl ?_
  refine s_iconst dX8_findValues_5 (by decide) ?_
  refine s_istore dX8_findValues_6 (by decide) (lv' := [some (2, ((327684 : Nat) : Int)), some (2, ((o : Nat) : Int)), some (2, ((f : Nat) : Int)), some (0, rr1), some (0, 0), none, none, none, none]) rfl ?_
  have L4 : ∀ (fu4 : Nat) (n4 : Int) (G4 : LG), CI a b G4 → KX G G4 → WX (fun x => (262144 ≤ x ∧ x < 262208) ∨ x = 327689 ∨ (f + 1 ≤ x ∧ x ≤ f + 22)) G G4 → ((0 ≤ n4 ∧ n4 ≤ 10) ∧ (FSZ G4 f) ∧ (∀ P : Int → Prop, SMP P → (∀ k : Nat, k < 6 → FIP P G 262144 k) → (∀ k : Nat, k < 6 → FIP P G4 262144 k) ∧ (FPa P G f → FPa P G4 f))) → (10 - n4).toNat < fu4 → WP kX8_findValues X 8 [some (2, ((327684 : Nat) : Int)), some (2, ((o : Nat) : Int)), some (2, ((f : Nat) : Int)), some (0, rr1), some (0, n4), none, none, none, none] [] G4 := by
    intro fu4
    induction fu4 with
    | zero => intro n4 G4 hCG4 hXG4 hFG4 hi4 hm4; exact absurd hm4 (Nat.not_lt_zero _)
    | succ fu4 ih4 =>
      intro n4 G4 hCG4 hXG4 hFG4 hi4 hm4
      obtain ⟨in_4, is4, ip4⟩ := hi4
      refine s_iload dX8_findValues_8 rfl ?_
      refine s_bipush dX8_findValues_10 rfl (by decide) ?_
      refine s_icmp_ge (tgt := 203) dX8_findValues_12 (by decide) (fun c5 => ?_) (fun c5 => ?_)
      · -- 12 to 203
        refine s_iconst dX8_findValues_203 (by decide) ?_
        exact s_iret hR dX8_findValues_204 rfl (hQ 0 G4 hCG4 hXG4 hFG4 ⟨is4, fun P hP hI hF => (ip4 P hP hI).2 hF⟩)
      · -- 12 to 15
        refine s_aload_n dX8_findValues_15 rfl (Int.natCast_nonneg _) ?_
        refine s_iload dX8_findValues_16 rfl ?_
        have hk8 : gK G4 (o) = (19, 0) := ((hXG4).k hk3 (by decide))
        refine s_callV (as := [(0, n4)]) (rest := []) (n := o) (ci := 11) gX10_hasValue dX8_findValues_18 m_1447 m_756 m_1497 m_713 m_83 ⟨by decide, by decide, show (parseMethodDescriptor yX10_hasValue.desc).map (fun d => d.parameters.length) = some 1 from by decide +kernel⟩ (Nat.le_of_ble_eq_true rfl) (by rw [hcf]; exact Nat.le_of_ble_eq_true rfl) hk8 rfl rfl (Nat.le_of_ble_eq_true rfl) ⟨o, n4, a, b, rfl, hCG4, hab, (by first | assumption | omega), (by first | assumption | omega), fun rr6 hp7 => ?_⟩
        show WP kX8_findValues X 21 [some (2, ((327684 : Nat) : Int)), some (2, ((o : Nat) : Int)), some (2, ((f : Nat) : Int)), some (0, rr1), some (0, n4), none, none, none, none] [(0, rr6)] G4
        refine s_if_eq (tgt := 197) dX8_findValues_21 (by decide) (fun c9 => ?_) (fun c9 => ?_)
        · -- 21 to 197
          refine s_iinc dX8_findValues_197 (v := n4) rfl (by omega) (by decide) (lv' := [some (2, ((327684 : Nat) : Int)), some (2, ((o : Nat) : Int)), some (2, ((f : Nat) : Int)), some (0, rr1), some (0, n4 + 1), none, none, none, none]) rfl ?_
          refine s_goto (tgt := 8) dX8_findValues_200 (by decide) ?_
          exact ih4 (n4 + 1) G4 hCG4 hXG4 hFG4 (⟨(by omega), (by exact is4), (by exact ip4)⟩) (by omega)
        · -- 21 to 24
          refine s_aload_n dX8_findValues_24 rfl (Int.natCast_nonneg _) ?_
          refine s_alv (o) (by simp) (fun al10 => ?_)
          have hv11 : gS G4 o 1 = ((o + 2 : Nat) : Int) := by have h9 : (gS G4 o 1) = (((o % 1048576) + 2 : Nat) : Int) := hCG4.1.v (j := 1) (by rw [cde_v (by omega) (by omega)]; omega : cde o = 200) al10 (by rw [hk8]; exact Nat.le_of_ble_eq_true rfl); omega
          refine s_getf (ci := 11) (k := 1) (C := RX10) (T := TX10) (N := 4) (n := o) (L := 0) (t := 2) dX8_findValues_25 rfl wi_67 m_692 (Nat.le_of_ble_eq_true rfl) rfl rfl hk8 hv11 ?_
          refine s_iload dX8_findValues_28 rfl ?_
          refine s_alv (o + 2) (by simp) (fun al12 => ?_)
          have hk13 : gK G4 (o + 2) = (1, 10) := hCG4.1.k (by rw [cde_v (by omega) (by omega)]; omega : cde (o + 2) = 202) al12
          have hv14 : ((gS G4 (o + 2) (n4 : Int).toNat) = -2 ∨ 0 ≤ (gS G4 (o + 2) (n4 : Int).toNat)) ∧ (gS G4 (o + 2) (n4 : Int).toNat) ≤ 59 := hCG4.1.v (j := (n4 : Int).toNat) (by rw [cde_v (by omega) (by omega)]; omega : cde (o + 2) = 202) al12 (by rw [hk13]; show (n4 : Int).toNat < 10; omega)
          refine s_iald dX8_findValues_30 hk13 (by omega) (by omega) rfl ?_
          refine s_istore dX8_findValues_31 (by decide) (lv' := [some (2, ((327684 : Nat) : Int)), some (2, ((o : Nat) : Int)), some (2, ((f : Nat) : Int)), some (0, rr1), some (0, n4), some (0, gS G4 (o + 2) ((n4 : Int).toNat)), none, none, none]) rfl ?_
          have h8 := hCG4.2.2.2.2.2.2.2.1.1 ((o - 131072) / 64) (n4 : Int).toNat (by omega) (by omega)
          rw [show 131072 + 64 * ((o - 131072) / 64) = o by omega] at h8
          have h8b := h8 (by omega)
          have h8c := hCG4.2.2.2.2.2.2.2.1.2 (gS G4 (o + 2) ((n4 : Int).toNat)) (by omega) h8b.2
          refine s_aload_n dX8_findValues_33 rfl (Int.natCast_nonneg _) ?_
          have hk15 : gK G4 (327684) = (17, 0) := ((hXG4).k hu0 (by decide))
          refine s_alv (327684) (by simp) (fun al16 => ?_)
          have hv17 : gS G4 327684 0 = ((327681 : Nat) : Int) := by have h9 : (gS G4 327684 0) = 327681 := hCG4.1.v (j := 0) (by decide : cde 327684 = 504) al16 (by rw [hk15]; exact Nat.le_of_ble_eq_true rfl); omega
          refine s_getf (ci := 9) (k := 0) (C := RX8) (T := TX8) (N := 5) (n := 327684) (L := 0) (t := 2) dX8_findValues_34 rfl wi_76 m_681 (Nat.le_of_ble_eq_true rfl) rfl rfl hk15 hv17 ?_
          refine s_alv (327681) (by simp) (fun al18 => ?_)
          have hk19 : gK G4 (327681) = (14, 0) := hCG4.1.k (by decide : cde 327681 = 501) al18
          have hv20 : gS G4 327681 2 = ((327698 : Nat) : Int) := by have h9 : (gS G4 327681 2) = 327698 := hCG4.1.v (j := 2) (by decide : cde 327681 = 501) al18 (by rw [hk19]; exact Nat.le_of_ble_eq_true rfl); omega
          refine s_getf (ci := 6) (k := 2) (C := RX5) (T := TX5) (N := 18) (n := 327681) (L := 0) (t := 2) dX8_findValues_37 rfl wi_73 m_686 (Nat.le_of_ble_eq_true rfl) rfl rfl hk19 hv20 ?_
          refine s_iload dX8_findValues_40 rfl ?_
          refine s_alv (327698) (by simp) (fun al21 => ?_)
          have hk22 : gK G4 (327698) = (1, 60) := hCG4.1.k (by decide : cde 327698 = 518) al21
          refine s_iald dX8_findValues_42 hk22 (by omega) (by omega) rfl ?_
          refine s_iload_n dX8_findValues_43 rfl ?_
          refine s_iconst dX8_findValues_44 (by decide) ?_
          refine s_ixor dX8_findValues_45 ?_
          refine s_iand dX8_findValues_46 ?_
          refine s_if_eq (tgt := 57) dX8_findValues_47 (by decide) (fun c23 => ?_) (fun c23 => ?_)
          · -- 47 to 57
            refine s_aload_n dX8_findValues_57 rfl (Int.natCast_nonneg _) ?_
            have hv24 : gS G4 327684 1 = ((262144 : Nat) : Int) := by have h9 : (gS G4 327684 1) = 262144 := hCG4.1.v (j := 1) (by decide : cde 327684 = 504) al16 (by rw [hk15]; exact Nat.le_of_ble_eq_true rfl); omega
            refine s_getf (ci := 9) (k := 1) (C := RX8) (T := TX8) (N := 5) (n := 327684) (L := 0) (t := 2) dX8_findValues_58 rfl wi_76 m_684 (Nat.le_of_ble_eq_true rfl) rfl rfl hk15 hv24 ?_
            refine s_aload_n dX8_findValues_61 rfl (Int.natCast_nonneg _) ?_
            have hv25 : gS G4 327684 0 = ((327681 : Nat) : Int) := by have h9 : (gS G4 327684 0) = 327681 := hCG4.1.v (j := 0) (by decide : cde 327684 = 504) al16 (by rw [hk15]; exact Nat.le_of_ble_eq_true rfl); omega
            refine s_getf (ci := 9) (k := 0) (C := RX8) (T := TX8) (N := 5) (n := 327684) (L := 0) (t := 2) dX8_findValues_62 rfl wi_76 m_681 (Nat.le_of_ble_eq_true rfl) rfl rfl hk15 hv25 ?_
            have hv26 : gS G4 327681 0 = ((327696 : Nat) : Int) := by have h9 : (gS G4 327681 0) = 327696 := hCG4.1.v (j := 0) (by decide : cde 327681 = 501) al18 (by rw [hk19]; exact Nat.le_of_ble_eq_true rfl); omega
            refine s_getf (ci := 6) (k := 0) (C := RX5) (T := TX5) (N := 18) (n := 327681) (L := 0) (t := 2) dX8_findValues_65 rfl wi_73 m_687 (Nat.le_of_ble_eq_true rfl) rfl rfl hk19 hv26 ?_
            refine s_iload dX8_findValues_68 rfl ?_
            refine s_alv (327696) (by simp) (fun al27 => ?_)
            have hk28 : gK G4 (327696) = (4, 60) := hCG4.1.k (by decide : cde 327696 = 516) al27
            have hv30b : (gS G4 327696 (gS G4 (o + 2) ((n4 : Int).toNat) : Int).toNat) = ((393216 + ((gS G4 (o + 2) ((n4 : Int).toNat) : Int).toNat) : Nat) : Int) := hCG4.1.v (j := (gS G4 (o + 2) ((n4 : Int).toNat) : Int).toNat) (by decide : cde 327696 = 516) al27 (by rw [hk28]; show (gS G4 (o + 2) ((n4 : Int).toNat) : Int).toNat < 60; omega)
            obtain ⟨q29, hv30⟩ : ∃ q : Nat, gS G4 327696 (gS G4 (o + 2) ((n4 : Int).toNat) : Int).toNat = (q : Int) := ⟨(gS G4 327696 (gS G4 (o + 2) ((n4 : Int).toNat) : Int).toNat).toNat, by omega⟩
            rw [hv30] at hv30b
            refine s_aald4 dX8_findValues_70 hk28 (by omega) (by omega) hv30 ?_
            refine s_aload_n dX8_findValues_71 rfl (Int.natCast_nonneg _) ?_
            have hv31 : gS G4 327684 0 = ((327681 : Nat) : Int) := by have h9 : (gS G4 327684 0) = 327681 := hCG4.1.v (j := 0) (by decide : cde 327684 = 504) al16 (by rw [hk15]; exact Nat.le_of_ble_eq_true rfl); omega
            refine s_getf (ci := 9) (k := 0) (C := RX8) (T := TX8) (N := 5) (n := 327684) (L := 0) (t := 2) dX8_findValues_72 rfl wi_76 m_681 (Nat.le_of_ble_eq_true rfl) rfl rfl hk15 hv31 ?_
            have hv32 : gS G4 327681 1 = ((327697 : Nat) : Int) := by have h9 : (gS G4 327681 1) = 327697 := hCG4.1.v (j := 1) (by decide : cde 327681 = 501) al18 (by rw [hk19]; exact Nat.le_of_ble_eq_true rfl); omega
            refine s_getf (ci := 6) (k := 1) (C := RX5) (T := TX5) (N := 18) (n := 327681) (L := 0) (t := 2) dX8_findValues_75 rfl wi_73 m_688 (Nat.le_of_ble_eq_true rfl) rfl rfl hk19 hv32 ?_
            refine s_iload dX8_findValues_78 rfl ?_
            refine s_alv (327697) (by simp) (fun al33 => ?_)
            have hk34 : gK G4 (327697) = (1, 60) := hCG4.1.k (by decide : cde 327697 = 517) al33
            have hv35 : 0 ≤ (gS G4 327697 (gS G4 (o + 2) ((n4 : Int).toNat) : Int).toNat) ∧ (gS G4 327697 (gS G4 (o + 2) ((n4 : Int).toNat) : Int).toNat) ≤ 12 := hCG4.1.v (j := (gS G4 (o + 2) ((n4 : Int).toNat) : Int).toNat) (by decide : cde 327697 = 517) al33 (by rw [hk34]; show (gS G4 (o + 2) ((n4 : Int).toNat) : Int).toNat < 60; omega)
            refine s_iald dX8_findValues_80 hk34 (by omega) (by omega) rfl ?_
            refine s_aload_n dX8_findValues_81 rfl (Int.natCast_nonneg _) ?_
            have hv36 : gS G4 327684 2 = ((327689 : Nat) : Int) := by have h9 : (gS G4 327684 2) = 327689 := hCG4.1.v (j := 2) (by decide : cde 327684 = 504) al16 (by rw [hk15]; exact Nat.le_of_ble_eq_true rfl); omega
            refine s_getf (ci := 9) (k := 2) (C := RX8) (T := TX8) (N := 5) (n := 327684) (L := 0) (t := 2) dX8_findValues_82 rfl wi_76 m_691 (Nat.le_of_ble_eq_true rfl) rfl rfl hk15 hv36 ?_
            refine s_alv (q29) (by simp) (fun al37 => ?_)
            have hk38 : gK G4 (q29) = (1, 12) := hCG4.1.k (cde_t (by omega) : cde q29 = 600) al37
            refine s_alv (327689) (by simp) (fun al39 => ?_)
            have hk40 : gK G4 (327689) = (1, 200) := hCG4.1.k (by decide : cde 327689 = 509) al39
            have hk43 : gK G4 (262144) = (10, 0) := ((hXG4).k hkF (by decide))
            refine s_callV (as := [(2, ((q29 : Nat) : Int)), (0, gS G4 327697 ((gS G4 (o + 2) ((n4 : Int).toNat) : Int).toNat)), (2, ((327689 : Nat) : Int))]) (rest := []) (n := 262144) (ci := 2) gX1_put dX8_findValues_85 m_1416 m_918 m_1493 m_712 m_260 ⟨by decide, by decide, show (parseMethodDescriptor yX1_put.desc).map (fun d => d.parameters.length) = some 3 from by decide +kernel⟩ (Nat.le_of_ble_eq_true rfl) (by rw [hcf]; exact Nat.le_of_ble_eq_true rfl) hk43 rfl rfl (Nat.le_of_ble_eq_true rfl) ⟨262144, q29, 12, gS G4 327697 ((gS G4 (o + 2) ((n4 : Int).toNat) : Int).toNat), 327689, a, b, rfl, hCG4, hab, (by first | assumption | omega), hk38, (by omega), hk40, (by exact FRW.u), (by omega), (by omega), (by omega), fun rr42 G41 hCG41 hXG41 hfG41 hpG41 => ?_⟩
            have hFG41 : WX (fun x => (262144 ≤ x ∧ x < 262208) ∨ x = 327689 ∨ (f + 1 ≤ x ∧ x ≤ f + 22)) G G41 := WX.trans hFG4 hXG4 (WX.mono hfG41 (fun x hx => by omega))
            show WP kX8_findValues X 88 [some (2, ((327684 : Nat) : Int)), some (2, ((o : Nat) : Int)), some (2, ((f : Nat) : Int)), some (0, rr1), some (0, n4), some (0, gS G4 (o + 2) ((n4 : Int).toNat)), none, none, none] [(0, rr42)] G41
            refine s_istore dX8_findValues_88 (by decide) (lv' := [some (2, ((327684 : Nat) : Int)), some (2, ((o : Nat) : Int)), some (2, ((f : Nat) : Int)), some (0, rr1), some (0, n4), some (0, gS G4 (o + 2) ((n4 : Int).toNat)), some (0, rr42), none, none]) rfl ?_
            refine s_iload dX8_findValues_90 rfl ?_
            refine s_sipush dX8_findValues_92 rfl (by decide) ?_
            refine s_icmp_le (tgt := 106) dX8_findValues_95 (by decide) (fun c44 => ?_) (fun c44 => ?_)
            · -- 95 to 106
              refine s_aload_n dX8_findValues_106 rfl (Int.natCast_nonneg _) ?_
              have hk45 : gK G41 (o) = (19, 0) := ((hXG41).k hk8 (by decide))
              refine s_alv (o) (by simp) (fun al46 => ?_)
              have hv47 : gS G41 o 2 = ((o + 3 : Nat) : Int) := by have h9 : (gS G41 o 2) = (((o % 1048576) + 3 : Nat) : Int) := hCG41.1.v (j := 2) (by rw [cde_v (by omega) (by omega)]; omega : cde o = 200) al46 (by rw [hk45]; exact Nat.le_of_ble_eq_true rfl); omega
              refine s_getf (ci := 11) (k := 2) (C := RX10) (T := TX10) (N := 4) (n := o) (L := 0) (t := 2) dX8_findValues_107 rfl wi_67 m_672 (Nat.le_of_ble_eq_true rfl) rfl rfl hk45 hv47 ?_
              refine s_iload dX8_findValues_110 rfl ?_
              refine s_alv (o + 3) (by simp) (fun al48 => ?_)
              have hk49 : gK G41 (o + 3) = (1, 10) := hCG41.1.k (by rw [cde_v (by omega) (by omega)]; omega : cde (o + 3) = 203) al48
              have hv50 : -1 ≤ (gS G41 (o + 3) (n4 : Int).toNat) ∧ (gS G41 (o + 3) (n4 : Int).toNat) ≤ 119 := hCG41.1.v (j := (n4 : Int).toNat) (by rw [cde_v (by omega) (by omega)]; omega : cde (o + 3) = 203) al48 (by rw [hk49]; show (n4 : Int).toNat < 10; omega)
              refine s_iald dX8_findValues_112 hk49 (by omega) (by omega) rfl ?_
              refine s_istore dX8_findValues_113 (by decide) (lv' := [some (2, ((327684 : Nat) : Int)), some (2, ((o : Nat) : Int)), some (2, ((f : Nat) : Int)), some (0, rr1), some (0, n4), some (0, gS G4 (o + 2) ((n4 : Int).toNat)), some (0, rr42), some (0, gS G41 (o + 3) ((n4 : Int).toNat)), none]) rfl ?_
              refine s_iload dX8_findValues_115 rfl ?_
              refine s_iconst dX8_findValues_117 (by decide) ?_
              have J52 : ∀ z51 : Int, ((¬ (gS G41 (o + 3) ((n4 : Int).toNat)) = ((-1))) ∧ z51 = 2) ∨ (((gS G41 (o + 3) ((n4 : Int).toNat)) = ((-1))) ∧ z51 = 1) → WP kX8_findValues X 126 [some (2, ((327684 : Nat) : Int)), some (2, ((o : Nat) : Int)), some (2, ((f : Nat) : Int)), some (0, rr1), some (0, n4), some (0, gS G4 (o + 2) ((n4 : Int).toNat)), some (0, rr42), some (0, gS G41 (o + 3) ((n4 : Int).toNat)), none] [(0, z51)] G41 := by
                intro z51 hz51
                refine s_aload_n dX8_findValues_126 rfl (Int.natCast_nonneg _) ?_
                have hv53 : gS G41 o 3 = ((o + 4 : Nat) : Int) := by have h9 : (gS G41 o 3) = (((o % 1048576) + 4 : Nat) : Int) := hCG41.1.v (j := 3) (by rw [cde_v (by omega) (by omega)]; omega : cde o = 200) al46 (by rw [hk45]; exact Nat.le_of_ble_eq_true rfl); omega
                refine s_getf (ci := 11) (k := 3) (C := RX10) (T := TX10) (N := 4) (n := o) (L := 0) (t := 2) dX8_findValues_127 rfl wi_67 m_673 (Nat.le_of_ble_eq_true rfl) rfl rfl hk45 hv53 ?_
                refine s_iload dX8_findValues_130 rfl ?_
                refine s_alv (o + 4) (by simp) (fun al54 => ?_)
                have hk55 : gK G41 (o + 4) = (1, 10) := hCG41.1.k (by rw [cde_v (by omega) (by omega)]; omega : cde (o + 4) = 204) al54
                have hv56 : 0 ≤ (gS G41 (o + 4) (n4 : Int).toNat) ∧ (gS G41 (o + 4) (n4 : Int).toNat) ≤ 7 := hCG41.1.v (j := (n4 : Int).toNat) (by rw [cde_v (by omega) (by omega)]; omega : cde (o + 4) = 204) al54 (by rw [hk55]; show (n4 : Int).toNat < 10; omega)
                refine s_iald dX8_findValues_132 hk55 (by omega) (by omega) rfl ?_
                refine s_iconst dX8_findValues_133 (by decide) ?_
                refine s_iand dX8_findValues_134 ?_
                refine s_ior dX8_findValues_135 ?_
                refine s_istore dX8_findValues_136 (by decide) (lv' := [some (2, ((327684 : Nat) : Int)), some (2, ((o : Nat) : Int)), some (2, ((f : Nat) : Int)), some (0, rr1), some (0, n4), some (0, gS G4 (o + 2) ((n4 : Int).toNat)), some (0, rr42), some (0, gS G41 (o + 3) ((n4 : Int).toNat)), some (0, i_or z51 (i_and (gS G41 (o + 4) ((n4 : Int).toNat)) 4))]) rfl ?_
                refine s_aload_n dX8_findValues_138 rfl (Int.natCast_nonneg _) ?_
                refine s_iload dX8_findValues_139 rfl ?_
                refine s_iload dX8_findValues_141 rfl ?_
                refine s_aload_n dX8_findValues_143 rfl (Int.natCast_nonneg _) ?_
                have hk57 : gK G41 (327684) = (17, 0) := ((hXG41).k hk15 (by decide))
                refine s_alv (327684) (by simp) (fun al58 => ?_)
                have hv59 : gS G41 327684 2 = ((327689 : Nat) : Int) := by have h9 : (gS G41 327684 2) = 327689 := hCG41.1.v (j := 2) (by decide : cde 327684 = 504) al58 (by rw [hk57]; exact Nat.le_of_ble_eq_true rfl); omega
                refine s_getf (ci := 9) (k := 2) (C := RX8) (T := TX8) (N := 5) (n := 327684) (L := 0) (t := 2) dX8_findValues_144 rfl wi_76 m_691 (Nat.le_of_ble_eq_true rfl) rfl rfl hk57 hv59 ?_
                refine s_iload dX8_findValues_147 rfl ?_
                have hk60 : gK G41 (327689) = (1, 200) := ((hXG41).k hk40 (by decide))
                have hk63 : gK G41 (f) = (9, 0) := ((hXG41).k ((hXG4).k hfk0 (by decide)) (by decide))
                refine s_callV (as := [(0, n4), (0, i_or z51 (i_and (gS G41 (o + 4) ((n4 : Int).toNat)) 4)), (2, ((327689 : Nat) : Int)), (0, rr42)]) (rest := []) (n := f) (ci := 1) gX0_putValue dX8_findValues_149 m_1417 m_750 m_1483 m_711 m_77 ⟨by decide, by decide, show (parseMethodDescriptor yX0_putValue.desc).map (fun d => d.parameters.length) = some 4 from by decide +kernel⟩ (Nat.le_of_ble_eq_true rfl) (by rw [hcf]; exact Nat.le_of_ble_eq_true rfl) hk63 rfl rfl (Nat.le_of_ble_eq_true rfl) ⟨f, n4, i_or z51 (i_and (gS G41 (o + 4) ((n4 : Int).toNat)) 4), 327689, 200, rr42, a, b, rfl, hCG41, hab, (by first | assumption | omega), (by first | assumption | omega), hk60, (by first | assumption | omega), (by first | assumption | omega), (by first | assumption | omega), fun G61 hCG61 hXG61 hfG61 hpG61 => ?_⟩
                have hFG61 : WX (fun x => (262144 ≤ x ∧ x < 262208) ∨ x = 327689 ∨ (f + 1 ≤ x ∧ x ≤ f + 22)) G G61 := WX.trans hFG41 (KX.trans hXG4 hXG41) (WX.mono hfG61 (fun x hx => by omega))
                show WP kX8_findValues X 152 [some (2, ((327684 : Nat) : Int)), some (2, ((o : Nat) : Int)), some (2, ((f : Nat) : Int)), some (0, rr1), some (0, n4), some (0, gS G4 (o + 2) ((n4 : Int).toNat)), some (0, rr42), some (0, gS G41 (o + 3) ((n4 : Int).toNat)), some (0, i_or z51 (i_and (gS G41 (o + 4) ((n4 : Int).toNat)) 4))] [] G61
                refine s_iload dX8_findValues_152 rfl ?_
                refine s_if_lt (tgt := 197) dX8_findValues_154 (by decide) (fun c64 => ?_) (fun c64 => ?_)
                · -- 154 to 197
                  refine s_iinc dX8_findValues_197 (v := n4) rfl (by omega) (by decide) (lv' := [some (2, ((327684 : Nat) : Int)), some (2, ((o : Nat) : Int)), some (2, ((f : Nat) : Int)), some (0, rr1), some (0, n4 + 1), some (0, gS G4 (o + 2) ((n4 : Int).toNat)), some (0, rr42), some (0, gS G41 (o + 3) ((n4 : Int).toNat)), some (0, i_or z51 (i_and (gS G41 (o + 4) ((n4 : Int).toNat)) 4))]) rfl ?_
                  refine s_goto (tgt := 8) dX8_findValues_200 (by decide) ?_
                  refine s_mask [true, true, true, true, true, false, false, false, false] (lv' := [some (2, ((327684 : Nat) : Int)), some (2, ((o : Nat) : Int)), some (2, ((f : Nat) : Int)), some (0, rr1), some (0, n4 + 1), none, none, none, none]) rfl ?_
                  exact ih4 (n4 + 1) G61 hCG61 (KX.trans (KX.trans hXG4 hXG41) hXG61) hFG61 (⟨(by omega), (by exact FSZ.put (is4.wx hXG41 hfG41 (by show ¬ _; omega) (by show ¬ _; omega)) hpG61.1 (by omega) (by omega) hpG61.2 hXG61), (by intro P hP hI; obtain ⟨z1, z2⟩ := ip4 P hP hI; refine ⟨fun k hk => ?_, fun hF => ?_⟩; (focus (exact (FIP.sm (FIP.sm (z1 k hk) hXG41 hfG41 (by show ¬ _; omega) (congrFun (hfG41 262149 (KX.al hXG4 al5) (by show ¬ _; omega)) k)) hXG61 hfG61 (by show ¬ _; omega) (congrFun (hfG61 262149 (KX.al (KX.trans hXG4 hXG41) al5) (by show ¬ _; omega)) k)))); have y1 := (z2 hF).wx hXG41 hfG41 ⟨KX.al hXG4 (kne hfk3 (by decide)), KX.al hXG4 (kne hfk4 (by decide))⟩ (by show ¬ _; omega) (by show ¬ _; omega) (fun p hp => by show ¬ _; omega); have y2 := FPa.put hpG61.1 y1 (fun _ _ => hpG41.2 P (RPs.tr hCG4 (by omega) hk38 hP (by omega)) z1 (by omega)) hXG61 hfG61 (fun p hp hn => by show ¬ _; omega); exact y2)⟩) (by omega)
                · -- 154 to 157
                  refine s_aload_n dX8_findValues_157 rfl (Int.natCast_nonneg _) ?_
                  have hk65 : gK G61 (327684) = (17, 0) := ((hXG61).k hk57 (by decide))
                  refine s_alv (327684) (by simp) (fun al66 => ?_)
                  have hv67 : gS G61 327684 0 = ((327681 : Nat) : Int) := by have h9 : (gS G61 327684 0) = 327681 := hCG61.1.v (j := 0) (by decide : cde 327684 = 504) al66 (by rw [hk65]; exact Nat.le_of_ble_eq_true rfl); omega
                  refine s_getf (ci := 9) (k := 0) (C := RX8) (T := TX8) (N := 5) (n := 327684) (L := 0) (t := 2) dX8_findValues_158 rfl wi_76 m_681 (Nat.le_of_ble_eq_true rfl) rfl rfl hk65 hv67 ?_
                  have hk68 : gK G61 (327681) = (14, 0) := ((hXG61).k ((hXG41).k hk19 (by decide)) (by decide))
                  refine s_alv (327681) (by simp) (fun al69 => ?_)
                  have hv70 : gS G61 327681 5 = ((327701 : Nat) : Int) := by have h9 : (gS G61 327681 5) = 327701 := hCG61.1.v (j := 5) (by decide : cde 327681 = 501) al69 (by rw [hk68]; exact Nat.le_of_ble_eq_true rfl); omega
                  refine s_getf (ci := 6) (k := 5) (C := RX5) (T := TX5) (N := 18) (n := 327681) (L := 0) (t := 2) dX8_findValues_161 rfl wi_73 m_674 (Nat.le_of_ble_eq_true rfl) rfl rfl hk68 hv70 ?_
                  refine s_iload dX8_findValues_164 rfl ?_
                  refine s_alv (327701) (by simp) (fun al71 => ?_)
                  have hk72 : gK G61 (327701) = (1, 120) := hCG61.1.k (by decide : cde 327701 = 521) al71
                  have hv73 : 0 ≤ (gS G61 327701 (gS G41 (o + 3) ((n4 : Int).toNat) : Int).toNat) ∧ (gS G61 327701 (gS G41 (o + 3) ((n4 : Int).toNat) : Int).toNat) ≤ 6 := hCG61.1.v (j := (gS G41 (o + 3) ((n4 : Int).toNat) : Int).toNat) (by decide : cde 327701 = 521) al71 (by rw [hk72]; show (gS G41 (o + 3) ((n4 : Int).toNat) : Int).toNat < 120; omega)
                  refine s_iald dX8_findValues_166 hk72 (by omega) (by omega) rfl ?_
                  refine s_iconst dX8_findValues_167 (by decide) ?_
                  refine s_icmp_ne (tgt := 197) dX8_findValues_168 (by decide) (fun c74 => ?_) (fun c74 => ?_)
                  · -- 168 to 197
                    refine s_iinc dX8_findValues_197 (v := n4) rfl (by omega) (by decide) (lv' := [some (2, ((327684 : Nat) : Int)), some (2, ((o : Nat) : Int)), some (2, ((f : Nat) : Int)), some (0, rr1), some (0, n4 + 1), some (0, gS G4 (o + 2) ((n4 : Int).toNat)), some (0, rr42), some (0, gS G41 (o + 3) ((n4 : Int).toNat)), some (0, i_or z51 (i_and (gS G41 (o + 4) ((n4 : Int).toNat)) 4))]) rfl ?_
                    refine s_goto (tgt := 8) dX8_findValues_200 (by decide) ?_
                    refine s_mask [true, true, true, true, true, false, false, false, false] (lv' := [some (2, ((327684 : Nat) : Int)), some (2, ((o : Nat) : Int)), some (2, ((f : Nat) : Int)), some (0, rr1), some (0, n4 + 1), none, none, none, none]) rfl ?_
                    exact ih4 (n4 + 1) G61 hCG61 (KX.trans (KX.trans hXG4 hXG41) hXG61) hFG61 (⟨(by omega), (by exact FSZ.put (is4.wx hXG41 hfG41 (by show ¬ _; omega) (by show ¬ _; omega)) hpG61.1 (by omega) (by omega) hpG61.2 hXG61), (by intro P hP hI; obtain ⟨z1, z2⟩ := ip4 P hP hI; refine ⟨fun k hk => ?_, fun hF => ?_⟩; (focus (exact (FIP.sm (FIP.sm (z1 k hk) hXG41 hfG41 (by show ¬ _; omega) (congrFun (hfG41 262149 (KX.al hXG4 al5) (by show ¬ _; omega)) k)) hXG61 hfG61 (by show ¬ _; omega) (congrFun (hfG61 262149 (KX.al (KX.trans hXG4 hXG41) al5) (by show ¬ _; omega)) k)))); have y1 := (z2 hF).wx hXG41 hfG41 ⟨KX.al hXG4 (kne hfk3 (by decide)), KX.al hXG4 (kne hfk4 (by decide))⟩ (by show ¬ _; omega) (by show ¬ _; omega) (fun p hp => by show ¬ _; omega); have y2 := FPa.put hpG61.1 y1 (fun _ _ => hpG41.2 P (RPs.tr hCG4 (by omega) hk38 hP (by omega)) z1 (by omega)) hXG61 hfG61 (fun p hp hn => by show ¬ _; omega); exact y2)⟩) (by omega)
                  · -- 168 to 171
                    refine s_aload_n dX8_findValues_171 rfl (Int.natCast_nonneg _) ?_
                    have hk75 : gK G61 (o) = (19, 0) := ((hXG61).k hk45 (by decide))
                    refine s_alv (o) (by simp) (fun al76 => ?_)
                    have hv77 : gS G61 o 3 = ((o + 4 : Nat) : Int) := by have h9 : (gS G61 o 3) = (((o % 1048576) + 4 : Nat) : Int) := hCG61.1.v (j := 3) (by rw [cde_v (by omega) (by omega)]; omega : cde o = 200) al76 (by rw [hk75]; exact Nat.le_of_ble_eq_true rfl); omega
                    refine s_getf (ci := 11) (k := 3) (C := RX10) (T := TX10) (N := 4) (n := o) (L := 0) (t := 2) dX8_findValues_172 rfl wi_67 m_673 (Nat.le_of_ble_eq_true rfl) rfl rfl hk75 hv77 ?_
                    refine s_iload dX8_findValues_175 rfl ?_
                    have hk78 : gK G61 (o + 4) = (1, 10) := ((hXG61).k hk55 (by decide))
                    refine s_alv (o + 4) (by simp) (fun al79 => ?_)
                    have hv80 : 0 ≤ (gS G61 (o + 4) (n4 : Int).toNat) ∧ (gS G61 (o + 4) (n4 : Int).toNat) ≤ 7 := hCG61.1.v (j := (n4 : Int).toNat) (by rw [cde_v (by omega) (by omega)]; omega : cde (o + 4) = 204) al79 (by rw [hk78]; show (n4 : Int).toNat < 10; omega)
                    refine s_iald dX8_findValues_177 hk78 (by omega) (by omega) rfl ?_
                    refine s_if_ne (tgt := 197) dX8_findValues_178 (by decide) (fun c81 => ?_) (fun c81 => ?_)
                    · -- 178 to 197
                      refine s_iinc dX8_findValues_197 (v := n4) rfl (by omega) (by decide) (lv' := [some (2, ((327684 : Nat) : Int)), some (2, ((o : Nat) : Int)), some (2, ((f : Nat) : Int)), some (0, rr1), some (0, n4 + 1), some (0, gS G4 (o + 2) ((n4 : Int).toNat)), some (0, rr42), some (0, gS G41 (o + 3) ((n4 : Int).toNat)), some (0, i_or z51 (i_and (gS G41 (o + 4) ((n4 : Int).toNat)) 4))]) rfl ?_
                      refine s_goto (tgt := 8) dX8_findValues_200 (by decide) ?_
                      refine s_mask [true, true, true, true, true, false, false, false, false] (lv' := [some (2, ((327684 : Nat) : Int)), some (2, ((o : Nat) : Int)), some (2, ((f : Nat) : Int)), some (0, rr1), some (0, n4 + 1), none, none, none, none]) rfl ?_
                      exact ih4 (n4 + 1) G61 hCG61 (KX.trans (KX.trans hXG4 hXG41) hXG61) hFG61 (⟨(by omega), (by exact FSZ.put (is4.wx hXG41 hfG41 (by show ¬ _; omega) (by show ¬ _; omega)) hpG61.1 (by omega) (by omega) hpG61.2 hXG61), (by intro P hP hI; obtain ⟨z1, z2⟩ := ip4 P hP hI; refine ⟨fun k hk => ?_, fun hF => ?_⟩; (focus (exact (FIP.sm (FIP.sm (z1 k hk) hXG41 hfG41 (by show ¬ _; omega) (congrFun (hfG41 262149 (KX.al hXG4 al5) (by show ¬ _; omega)) k)) hXG61 hfG61 (by show ¬ _; omega) (congrFun (hfG61 262149 (KX.al (KX.trans hXG4 hXG41) al5) (by show ¬ _; omega)) k)))); have y1 := (z2 hF).wx hXG41 hfG41 ⟨KX.al hXG4 (kne hfk3 (by decide)), KX.al hXG4 (kne hfk4 (by decide))⟩ (by show ¬ _; omega) (by show ¬ _; omega) (fun p hp => by show ¬ _; omega); have y2 := FPa.put hpG61.1 y1 (fun _ _ => hpG41.2 P (RPs.tr hCG4 (by omega) hk38 hP (by omega)) z1 (by omega)) hXG61 hfG61 (fun p hp hn => by show ¬ _; omega); exact y2)⟩) (by omega)
                    · -- 178 to 181
                      refine s_aload_n dX8_findValues_181 rfl (Int.natCast_nonneg _) ?_
                      refine s_iload dX8_findValues_182 rfl ?_
                      refine s_aload_n dX8_findValues_184 rfl (Int.natCast_nonneg _) ?_
                      have hv82 : gS G61 327684 0 = ((327681 : Nat) : Int) := by have h9 : (gS G61 327684 0) = 327681 := hCG61.1.v (j := 0) (by decide : cde 327684 = 504) al66 (by rw [hk65]; exact Nat.le_of_ble_eq_true rfl); omega
                      refine s_getf (ci := 9) (k := 0) (C := RX8) (T := TX8) (N := 5) (n := 327684) (L := 0) (t := 2) dX8_findValues_185 rfl wi_76 m_681 (Nat.le_of_ble_eq_true rfl) rfl rfl hk65 hv82 ?_
                      have hv83 : gS G61 327681 6 = ((327702 : Nat) : Int) := by have h9 : (gS G61 327681 6) = 327702 := hCG61.1.v (j := 6) (by decide : cde 327681 = 501) al69 (by rw [hk68]; exact Nat.le_of_ble_eq_true rfl); omega
                      refine s_getf (ci := 6) (k := 6) (C := RX5) (T := TX5) (N := 18) (n := 327681) (L := 0) (t := 2) dX8_findValues_188 rfl wi_73 m_675 (Nat.le_of_ble_eq_true rfl) rfl rfl hk68 hv83 ?_
                      refine s_iload dX8_findValues_191 rfl ?_
                      refine s_alv (327702) (by simp) (fun al84 => ?_)
                      have hk85 : gK G61 (327702) = (1, 120) := hCG61.1.k (by decide : cde 327702 = 522) al84
                      refine s_iald dX8_findValues_193 hk85 (by omega) (by omega) rfl ?_
                      have hk88 : gK G61 (f) = (9, 0) := ((hXG61).k hk63 (by decide))
                      refine s_callV (as := [(0, n4), (0, gS G61 327702 ((gS G41 (o + 3) ((n4 : Int).toNat) : Int).toNat))]) (rest := []) (n := f) (ci := 1) gX0_putNumber dX8_findValues_194 m_1418 m_744 m_1477 m_711 m_71 ⟨by decide, by decide, show (parseMethodDescriptor yX0_putNumber.desc).map (fun d => d.parameters.length) = some 2 from by decide +kernel⟩ (Nat.le_of_ble_eq_true rfl) (by rw [hcf]; exact Nat.le_of_ble_eq_true rfl) hk88 rfl rfl (Nat.le_of_ble_eq_true rfl) ⟨f, n4, gS G61 327702 ((gS G41 (o + 3) ((n4 : Int).toNat) : Int).toNat), a, b, rfl, hCG61, hab, (by first | assumption | omega), (by first | assumption | omega), fun G86 hCG86 hXG86 hfG86 hpG86 => ?_⟩
                      have hFG86 : WX (fun x => (262144 ≤ x ∧ x < 262208) ∨ x = 327689 ∨ (f + 1 ≤ x ∧ x ≤ f + 22)) G G86 := WX.trans hFG61 (KX.trans (KX.trans hXG4 hXG41) hXG61) (WX.mono hfG86 (fun x hx => by omega))
                      show WP kX8_findValues X 197 [some (2, ((327684 : Nat) : Int)), some (2, ((o : Nat) : Int)), some (2, ((f : Nat) : Int)), some (0, rr1), some (0, n4), some (0, gS G4 (o + 2) ((n4 : Int).toNat)), some (0, rr42), some (0, gS G41 (o + 3) ((n4 : Int).toNat)), some (0, i_or z51 (i_and (gS G41 (o + 4) ((n4 : Int).toNat)) 4))] [] G86
                      refine s_iinc dX8_findValues_197 (v := n4) rfl (by omega) (by decide) (lv' := [some (2, ((327684 : Nat) : Int)), some (2, ((o : Nat) : Int)), some (2, ((f : Nat) : Int)), some (0, rr1), some (0, n4 + 1), some (0, gS G4 (o + 2) ((n4 : Int).toNat)), some (0, rr42), some (0, gS G41 (o + 3) ((n4 : Int).toNat)), some (0, i_or z51 (i_and (gS G41 (o + 4) ((n4 : Int).toNat)) 4))]) rfl ?_
                      refine s_goto (tgt := 8) dX8_findValues_200 (by decide) ?_
                      refine s_mask [true, true, true, true, true, false, false, false, false] (lv' := [some (2, ((327684 : Nat) : Int)), some (2, ((o : Nat) : Int)), some (2, ((f : Nat) : Int)), some (0, rr1), some (0, n4 + 1), none, none, none, none]) rfl ?_
                      exact ih4 (n4 + 1) G86 hCG86 (KX.trans (KX.trans (KX.trans hXG4 hXG41) hXG61) hXG86) hFG86 (⟨(by omega), (by exact (FSZ.put (is4.wx hXG41 hfG41 (by show ¬ _; omega) (by show ¬ _; omega)) hpG61.1 (by omega) (by omega) hpG61.2 hXG61).wx hXG86 hfG86 (by show ¬ _; omega) (by show ¬ _; omega)), (by intro P hP hI; obtain ⟨z1, z2⟩ := ip4 P hP hI; refine ⟨fun k hk => ?_, fun hF => ?_⟩; (focus (exact (FIP.sm (FIP.sm (FIP.sm (z1 k hk) hXG41 hfG41 (by show ¬ _; omega) (congrFun (hfG41 262149 (KX.al hXG4 al5) (by show ¬ _; omega)) k)) hXG61 hfG61 (by show ¬ _; omega) (congrFun (hfG61 262149 (KX.al (KX.trans hXG4 hXG41) al5) (by show ¬ _; omega)) k)) hXG86 hfG86 (by show ¬ _; omega) (congrFun (hfG86 262149 (KX.al (KX.trans (KX.trans hXG4 hXG41) hXG61) al5) (by show ¬ _; omega)) k)))); have y1 := (z2 hF).wx hXG41 hfG41 ⟨KX.al hXG4 (kne hfk3 (by decide)), KX.al hXG4 (kne hfk4 (by decide))⟩ (by show ¬ _; omega) (by show ¬ _; omega) (fun p hp => by show ¬ _; omega); have y2 := FPa.put hpG61.1 y1 (fun _ _ => hpG41.2 P (RPs.tr hCG4 (by omega) hk38 hP (by omega)) z1 (by omega)) hXG61 hfG61 (fun p hp hn => by show ¬ _; omega); exact y2.wx hXG86 hfG86 ⟨KX.al (KX.trans (KX.trans hXG4 hXG41) hXG61) (kne hfk3 (by decide)), KX.al (KX.trans (KX.trans hXG4 hXG41) hXG61) (kne hfk4 (by decide))⟩ (by show ¬ _; omega) (by show ¬ _; omega) (fun p hp => by show ¬ _; omega))⟩) (by omega)
              refine s_icmp_ne (tgt := 125) dX8_findValues_118 (by decide) (fun c89 => ?_) (fun c89 => ?_)
              · -- 118 to 125
                refine s_iconst dX8_findValues_125 (by decide) ?_
                exact J52 2 (Or.inl ⟨c89, rfl⟩)
              · -- 118 to 121
                refine s_iconst dX8_findValues_121 (by decide) ?_
                refine s_goto (tgt := 126) dX8_findValues_122 (by decide) ?_
                exact J52 1 (Or.inr (⟨c89, rfl⟩))
            · -- 95 to 98
              refine s_bipush dX8_findValues_98 rfl (by decide) ?_
              refine s_iload dX8_findValues_100 rfl ?_
              refine s_callSN (own := RX8) rfl (by decide +kernel) (as := [(0, 7), (0, n4)]) (rest := []) gX11_valueMistake dX8_findValues_102 m_1784 m_714 m_129 ⟨by decide, by decide, show (parseMethodDescriptor yX11_valueMistake.desc).map (fun d => d.parameters.length) = some 2 from by decide +kernel⟩ (Nat.le_of_ble_eq_true rfl) (by rw [hcf]; exact Nat.le_of_ble_eq_true rfl) rfl (Nat.le_of_ble_eq_true rfl) ⟨7, n4, rfl, (by first | assumption | omega), (by first | assumption | omega), fun rr90 hp91 => ?_⟩
              show WP kX8_findValues X 105 [some (2, ((327684 : Nat) : Int)), some (2, ((o : Nat) : Int)), some (2, ((f : Nat) : Int)), some (0, rr1), some (0, n4), some (0, gS G4 (o + 2) ((n4 : Int).toNat)), some (0, rr42), none, none] [(0, rr90)] G41
              exact s_iret hR dX8_findValues_105 rfl (hQ rr90 G41 hCG41 (KX.trans hXG4 hXG41) hFG41 ⟨is4.wx hXG41 hfG41 (by show ¬ _; omega) (by show ¬ _; omega), fun P hP hI hF => ((ip4 P hP hI).2 hF).wx hXG41 hfG41 ⟨KX.al hXG4 (kne hfk3 (by decide)), KX.al hXG4 (kne hfk4 (by decide))⟩ (by show ¬ _; omega) (by show ¬ _; omega) (fun p hp => by show ¬ _; omega)⟩)
          · -- 47 to 50
            refine s_iconst dX8_findValues_50 (by decide) ?_
            refine s_iload dX8_findValues_51 rfl ?_
            refine s_callSN (own := RX8) rfl (by decide +kernel) (as := [(0, 1), (0, n4)]) (rest := []) gX11_valueMistake dX8_findValues_53 m_1784 m_714 m_129 ⟨by decide, by decide, show (parseMethodDescriptor yX11_valueMistake.desc).map (fun d => d.parameters.length) = some 2 from by decide +kernel⟩ (Nat.le_of_ble_eq_true rfl) (by rw [hcf]; exact Nat.le_of_ble_eq_true rfl) rfl (Nat.le_of_ble_eq_true rfl) ⟨1, n4, rfl, (by first | assumption | omega), (by first | assumption | omega), fun rr92 hp93 => ?_⟩
            show WP kX8_findValues X 56 [some (2, ((327684 : Nat) : Int)), some (2, ((o : Nat) : Int)), some (2, ((f : Nat) : Int)), some (0, rr1), some (0, n4), some (0, gS G4 (o + 2) ((n4 : Int).toNat)), none, none, none] [(0, rr92)] G4
            exact s_iret hR dX8_findValues_56 rfl (hQ rr92 G4 hCG4 hXG4 hFG4 ⟨is4, fun P hP hI hF => (ip4 P hP hI).2 hF⟩)
  exact L4 _ 0 G hC KX.rf WX.rf (⟨(by omega), (by exact hsz), (by exact fun P _ hI => ⟨hI, fun h => h⟩)⟩) (Nat.lt_succ_self _)

abbrev kX8_findFace : KD := (RX8, cX8_findFace, 6, (some .int), [])
def TX8_findFace : TR := fun as G Qr => ∃ (o f : Nat) (a b : Nat), as = [(2, ((327684 : Nat) : Int)), (2, ((o : Nat) : Int)), (2, ((f : Nat) : Int))] ∧ CI a b G ∧ (a ≤ 2840000 ∧ b ≤ 590000) ∧ (isVr o) ∧ (isFc f) ∧ (∀ k : Nat, k < 10 → gS G (f + 2) k = 0) ∧ ∀ (r : Int) (G' : LG), CI a b G' → KX G G' → WX (fun x => (262144 ≤ x ∧ x < 262208) ∨ x = 327684 ∨ x = 327689 ∨ x = 327690 ∨ (f + 1 ≤ x ∧ x ≤ f + 22)) G G' → (∀ P : Int → Prop, SMP P → FPa P G f → FPa P G' f) → Qr (.inl (some (0, r))) G'
set_option maxHeartbeats 4000000 in
set_option maxRecDepth 100000 in
theorem gX8_findFace : Good kX8_findFace yX8_findFace 58 TX8_findFace := by
  refine good_of (by decide) rfl rfl (fun as G Qr h => ?_) (fun X as G Qr hcf hR hT oa => ?_)
  · obtain ⟨o, f, a, b, rfl, -⟩ := h; exact Nat.le_of_ble_eq_true rfl
  obtain ⟨o, f, a, b, rfl, hC, hab, ho, hf, hz, hQ⟩ := hT
  show WP kX8_findFace X 0 [some (2, ((327684 : Nat) : Int)), some (2, ((o : Nat) : Int)), some (2, ((f : Nat) : Int)), none, none, none] [] G
  refine s_alvl 327684 (k := 0) rfl (fun al0 => ?_)
  refine s_alvl f (k := 2) rfl (fun alf => ?_)
  refine s_alvl o (k := 1) rfl (fun alo => ?_)
  refine s_lk (fun hlk => ?_)
  have hfc := hlk.fc hC hf alf
  obtain ⟨hfk0, hfk1, hfk2, hfk3, hfk4, hfk5, hfk6⟩ := hfc.1
  have hu0 : gK G 327684 = (17, 0) := hC.1.k (c := 504) (by decide) al0
  have hu1 : gS G 327684 1 = ((262144 : Nat) : Int) := by have h9 : gS G 327684 1 = 262144 := hC.1.v (c := 504) (j := 1) (by decide) al0 (by rw [hu0]; exact Nat.le_of_ble_eq_true rfl); omega
  have alF : (gK G 262144).1 ≠ 0 := hlk.at al0 (by rw [hu0]; exact Nat.le_of_ble_eq_true rfl) (by rw [hu0]; rfl) hu1
  have hkF : gK G 262144 = (10, 0) := hC.1.k (c := 400) (by decide) alF
  have hF1v : gS G 262144 1 = ((262146 : Nat) : Int) := hC.1.v (c := 400) (j := 1) (by decide) alF (by rw [hkF]; exact Nat.le_of_ble_eq_true rfl)
  have al2 : (gK G 262146).1 ≠ 0 := hlk.at alF (by rw [hkF]; exact Nat.le_of_ble_eq_true rfl) (by rw [hkF]; rfl) hF1v
  have hF4v : gS G 262144 4 = ((262149 : Nat) : Int) := hC.1.v (c := 400) (j := 4) (by decide) alF (by rw [hkF]; exact Nat.le_of_ble_eq_true rfl)
  have al5 : (gK G 262149).1 ≠ 0 := hlk.at alF (by rw [hkF]; exact Nat.le_of_ble_eq_true rfl) (by rw [hkF]; rfl) hF4v
  refine s_aload_n dX8_findFace_0 rfl (Int.natCast_nonneg _) ?_
  refine s_aload_n dX8_findFace_1 rfl (Int.natCast_nonneg _) ?_
  refine s_aload_n dX8_findFace_2 rfl (Int.natCast_nonneg _) ?_
  refine s_callV (as := [(2, ((o : Nat) : Int)), (2, ((f : Nat) : Int))]) (rest := []) (n := 327684) (ci := 9) gX8_findTypes dX8_findFace_3 m_1436 m_1006 m_1729 m_722 m_354 ⟨by decide, by decide, show (parseMethodDescriptor yX8_findTypes.desc).map (fun d => d.parameters.length) = some 2 from by decide +kernel⟩ (Nat.le_of_ble_eq_true rfl) (by rw [hcf]; exact Nat.le_of_ble_eq_true rfl) hu0 rfl rfl (Nat.le_of_ble_eq_true rfl) ⟨o, f, a, b, rfl, hC, hab, (by first | assumption | omega), (by first | assumption | omega), fun rr2 G1 hCG1 hXG1 hfG1 hpG1 => ?_⟩
  have hFG1 : WX (fun x => (262144 ≤ x ∧ x < 262208) ∨ x = 327684 ∨ x = 327689 ∨ x = 327690 ∨ (f + 1 ≤ x ∧ x ≤ f + 22)) G G1 := WX.trans WX.rf KX.rf (WX.mono hfG1 (fun x hx => by omega))
  show WP kX8_findFace X 6 [some (2, ((327684 : Nat) : Int)), some (2, ((o : Nat) : Int)), some (2, ((f : Nat) : Int)), none, none, none] [(0, rr2)] G1
  have hzG1 : ∀ k : Nat, k < 10 → gS G1 (f + 2) k = 0 := fun k hk => by rw [hfG1 (f + 2) (kne hfk2 (by decide)) (by show ¬ _; omega)]; exact hz k hk
  have hszG1 : FSZ G1 f := ⟨⟨KX.al hXG1 (kne hfk2 (by decide)), KX.al hXG1 (kne hfk4 (by decide))⟩, fun k hk h => absurd (hzG1 k hk) h⟩
  refine s_istore_n dX8_findFace_6 (by decide) (lv' := [some (2, ((327684 : Nat) : Int)), some (2, ((o : Nat) : Int)), some (2, ((f : Nat) : Int)), some (0, rr2), none, none]) rfl ?_
  refine s_iload_n dX8_findFace_7 rfl ?_
  refine s_if_ne (tgt := 18) dX8_findFace_8 (by decide) (fun c3 => ?_) (fun c3 => ?_)
  · -- 8 to 18
    refine s_iconst dX8_findFace_18 (by decide) ?_
    refine s_istore dX8_findFace_19 (by decide) (lv' := [some (2, ((327684 : Nat) : Int)), some (2, ((o : Nat) : Int)), some (2, ((f : Nat) : Int)), some (0, rr2), some (0, 0), none]) rfl ?_
    have L4 : ∀ (fu4 : Nat) (m4 : Int) (n4 : Int) (G4 : LG), CI a b G4 → KX G1 G4 → WX (fun x => (262144 ≤ x ∧ x < 262208) ∨ x = 327684 ∨ x = 327689 ∨ x = 327690 ∨ (f + 1 ≤ x ∧ x ≤ f + 22)) G G4 → ((0 ≤ n4 ∧ n4 ≤ 10) ∧ (FSZ G4 f) ∧ (∀ P : Int → Prop, SMP P → FPa P G f → FPa P G4 f)) → (10 - n4).toNat < fu4 → WP kX8_findFace X 21 [some (2, ((327684 : Nat) : Int)), some (2, ((o : Nat) : Int)), some (2, ((f : Nat) : Int)), some (0, m4), some (0, n4), none] [] G4 := by
      intro fu4
      induction fu4 with
      | zero => intro m4 n4 G4 hCG4 hXG4 hFG4 hi4 hm4; exact absurd hm4 (Nat.not_lt_zero _)
      | succ fu4 ih4 =>
        intro m4 n4 G4 hCG4 hXG4 hFG4 hi4 hm4
        obtain ⟨in_4, is4, ip4⟩ := hi4
        refine s_iload dX8_findFace_21 rfl ?_
        refine s_bipush dX8_findFace_23 rfl (by decide) ?_
        refine s_icmp_ge (tgt := 74) dX8_findFace_25 (by decide) (fun c5 => ?_) (fun c5 => ?_)
        · -- 25 to 74
          refine s_iload_n dX8_findFace_74 rfl ?_
          exact s_iret hR dX8_findFace_75 rfl (hQ m4 G4 hCG4 (KX.trans hXG1 hXG4) hFG4 ip4)
        · -- 25 to 28
          refine s_iload_n dX8_findFace_28 rfl ?_
          refine s_if_ne (tgt := 74) dX8_findFace_29 (by decide) (fun c6 => ?_) (fun c6 => ?_)
          · -- 29 to 74
            refine s_iload_n dX8_findFace_74 rfl ?_
            exact s_iret hR dX8_findFace_75 rfl (hQ m4 G4 hCG4 (KX.trans hXG1 hXG4) hFG4 ip4)
          · -- 29 to 32
            refine s_aload_n dX8_findFace_32 rfl (Int.natCast_nonneg _) ?_
            refine s_iload dX8_findFace_33 rfl ?_
            refine s_alv (o) (by simp) (fun al9 => ?_)
            have hk10 : gK G4 (o) = (19, 0) := hCG4.1.k (by rw [cde_v (by omega) (by omega)]; omega : cde o = 200) al9
            refine s_callV (as := [(0, n4)]) (rest := []) (n := o) (ci := 11) gX10_isDefinition dX8_findFace_35 m_1439 m_758 m_1498 m_713 m_85 ⟨by decide, by decide, show (parseMethodDescriptor yX10_isDefinition.desc).map (fun d => d.parameters.length) = some 1 from by decide +kernel⟩ (Nat.le_of_ble_eq_true rfl) (by rw [hcf]; exact Nat.le_of_ble_eq_true rfl) hk10 rfl rfl (Nat.le_of_ble_eq_true rfl) ⟨o, n4, a, b, rfl, hCG4, hab, (by first | assumption | omega), (by first | assumption | omega), fun rr7 hp8 => ?_⟩
            show WP kX8_findFace X 38 [some (2, ((327684 : Nat) : Int)), some (2, ((o : Nat) : Int)), some (2, ((f : Nat) : Int)), some (0, m4), some (0, n4), none] [(0, rr7)] G4
            refine s_if_eq (tgt := 68) dX8_findFace_38 (by decide) (fun c11 => ?_) (fun c11 => ?_)
            · -- 38 to 68
              refine s_iinc dX8_findFace_68 (v := n4) rfl (by omega) (by decide) (lv' := [some (2, ((327684 : Nat) : Int)), some (2, ((o : Nat) : Int)), some (2, ((f : Nat) : Int)), some (0, m4), some (0, n4 + 1), none]) rfl ?_
              refine s_goto (tgt := 21) dX8_findFace_71 (by decide) ?_
              exact ih4 m4 (n4 + 1) G4 hCG4 hXG4 hFG4 (⟨(by omega), (by exact is4), (by exact ip4)⟩) (by omega)
            · -- 38 to 41
              refine s_aload_n dX8_findFace_41 rfl (Int.natCast_nonneg _) ?_
              refine s_aload_n dX8_findFace_42 rfl (Int.natCast_nonneg _) ?_
              refine s_iload dX8_findFace_43 rfl ?_
              refine s_aload_n dX8_findFace_45 rfl (Int.natCast_nonneg _) ?_
              have hk14 : gK G4 (327684) = (17, 0) := ((hXG4).k ((hXG1).k hu0 (by decide)) (by decide))
              refine s_callV (as := [(2, ((o : Nat) : Int)), (0, n4), (2, ((f : Nat) : Int))]) (rest := []) (n := 327684) (ci := 9) gX8_checkDefinition dX8_findFace_46 m_1440 m_999 m_1722 m_722 m_347 ⟨by decide, by decide, show (parseMethodDescriptor yX8_checkDefinition.desc).map (fun d => d.parameters.length) = some 3 from by decide +kernel⟩ (Nat.le_of_ble_eq_true rfl) (by rw [hcf]; exact Nat.le_of_ble_eq_true rfl) hk14 rfl rfl (Nat.le_of_ble_eq_true rfl) ⟨o, n4, f, a, b, rfl, hCG4, hab, (by first | assumption | omega), (by first | assumption | omega), (by first | assumption | omega), (by first | assumption | omega), (by first | assumption | omega), fun rr13 G12 hCG12 hXG12 hfG12 hpG12 => ?_⟩
              have hFG12 : WX (fun x => (262144 ≤ x ∧ x < 262208) ∨ x = 327684 ∨ x = 327689 ∨ x = 327690 ∨ (f + 1 ≤ x ∧ x ≤ f + 22)) G G12 := WX.trans hFG4 (KX.trans hXG1 hXG4) (WX.mono hfG12 (fun x hx => by omega))
              show WP kX8_findFace X 49 [some (2, ((327684 : Nat) : Int)), some (2, ((o : Nat) : Int)), some (2, ((f : Nat) : Int)), some (0, m4), some (0, n4), none] [(0, rr13)] G12
              refine s_istore dX8_findFace_49 (by decide) (lv' := [some (2, ((327684 : Nat) : Int)), some (2, ((o : Nat) : Int)), some (2, ((f : Nat) : Int)), some (0, m4), some (0, n4), some (0, rr13)]) rfl ?_
              refine s_iload dX8_findFace_51 rfl ?_
              refine s_if_ne (tgt := 60) dX8_findFace_53 (by decide) (fun c15 => ?_) (fun c15 => ?_)
              · -- 53 to 60
                refine s_iload dX8_findFace_60 rfl ?_
                refine s_iload dX8_findFace_62 rfl ?_
                refine s_callSN (own := RX8) rfl (by decide +kernel) (as := [(0, rr13), (0, n4)]) (rest := []) gX11_valueMistake dX8_findFace_64 m_1784 m_714 m_129 ⟨by decide, by decide, show (parseMethodDescriptor yX11_valueMistake.desc).map (fun d => d.parameters.length) = some 2 from by decide +kernel⟩ (Nat.le_of_ble_eq_true rfl) (by rw [hcf]; exact Nat.le_of_ble_eq_true rfl) rfl (Nat.le_of_ble_eq_true rfl) ⟨rr13, n4, rfl, (by first | assumption | omega), (by first | assumption | omega), fun rr16 hp17 => ?_⟩
                show WP kX8_findFace X 67 [some (2, ((327684 : Nat) : Int)), some (2, ((o : Nat) : Int)), some (2, ((f : Nat) : Int)), some (0, m4), some (0, n4), some (0, rr13)] [(0, rr16)] G12
                refine s_istore_n dX8_findFace_67 (by decide) (lv' := [some (2, ((327684 : Nat) : Int)), some (2, ((o : Nat) : Int)), some (2, ((f : Nat) : Int)), some (0, rr16), some (0, n4), some (0, rr13)]) rfl ?_
                refine s_iinc dX8_findFace_68 (v := n4) rfl (by omega) (by decide) (lv' := [some (2, ((327684 : Nat) : Int)), some (2, ((o : Nat) : Int)), some (2, ((f : Nat) : Int)), some (0, rr16), some (0, n4 + 1), some (0, rr13)]) rfl ?_
                refine s_goto (tgt := 21) dX8_findFace_71 (by decide) ?_
                refine s_mask [true, true, true, true, true, false] (lv' := [some (2, ((327684 : Nat) : Int)), some (2, ((o : Nat) : Int)), some (2, ((f : Nat) : Int)), some (0, rr16), some (0, n4 + 1), none]) rfl ?_
                exact ih4 rr16 (n4 + 1) G12 hCG12 (KX.trans hXG4 hXG12) hFG12 (⟨(by omega), (by exact is4.wx hXG12 hfG12 (by show ¬ _; omega) (by show ¬ _; omega)), (by intro P hP hF; exact (ip4 P hP hF).wx hXG12 hfG12 ⟨KX.al (KX.trans hXG1 hXG4) (kne hfk3 (by decide)), KX.al (KX.trans hXG1 hXG4) (kne hfk4 (by decide))⟩ (by show ¬ _; omega) (by show ¬ _; omega) (fun p hp => by show ¬ _; omega))⟩) (by omega)
              · -- 53 to 56
                refine s_iconst dX8_findFace_56 (by decide) ?_
                refine s_goto (tgt := 67) dX8_findFace_57 (by decide) ?_
                refine s_istore_n dX8_findFace_67 (by decide) (lv' := [some (2, ((327684 : Nat) : Int)), some (2, ((o : Nat) : Int)), some (2, ((f : Nat) : Int)), some (0, 0), some (0, n4), some (0, rr13)]) rfl ?_
                refine s_iinc dX8_findFace_68 (v := n4) rfl (by omega) (by decide) (lv' := [some (2, ((327684 : Nat) : Int)), some (2, ((o : Nat) : Int)), some (2, ((f : Nat) : Int)), some (0, 0), some (0, n4 + 1), some (0, rr13)]) rfl ?_
                refine s_goto (tgt := 21) dX8_findFace_71 (by decide) ?_
                refine s_mask [true, true, true, true, true, false] (lv' := [some (2, ((327684 : Nat) : Int)), some (2, ((o : Nat) : Int)), some (2, ((f : Nat) : Int)), some (0, 0), some (0, n4 + 1), none]) rfl ?_
                exact ih4 0 (n4 + 1) G12 hCG12 (KX.trans hXG4 hXG12) hFG12 (⟨(by omega), (by exact is4.wx hXG12 hfG12 (by show ¬ _; omega) (by show ¬ _; omega)), (by intro P hP hF; exact (ip4 P hP hF).wx hXG12 hfG12 ⟨KX.al (KX.trans hXG1 hXG4) (kne hfk3 (by decide)), KX.al (KX.trans hXG1 hXG4) (kne hfk4 (by decide))⟩ (by show ¬ _; omega) (by show ¬ _; omega) (fun p hp => by show ¬ _; omega))⟩) (by omega)
    exact L4 _ rr2 0 G1 hCG1 KX.rf hFG1 (⟨(by omega), (by exact hszG1), (by intro P hP hF; exact hpG1.2 P hP hF)⟩) (Nat.lt_succ_self _)
  · -- 8 to 11
    refine s_aload_n dX8_findFace_11 rfl (Int.natCast_nonneg _) ?_
    refine s_aload_n dX8_findFace_12 rfl (Int.natCast_nonneg _) ?_
    refine s_aload_n dX8_findFace_13 rfl (Int.natCast_nonneg _) ?_
    have hk20 : gK G1 (327684) = (17, 0) := ((hXG1).k hu0 (by decide))
    refine s_callV (as := [(2, ((o : Nat) : Int)), (2, ((f : Nat) : Int))]) (rest := []) (n := 327684) (ci := 9) gX8_findValues dX8_findFace_14 m_1438 m_1007 m_1730 m_722 m_355 ⟨by decide, by decide, show (parseMethodDescriptor yX8_findValues.desc).map (fun d => d.parameters.length) = some 2 from by decide +kernel⟩ (Nat.le_of_ble_eq_true rfl) (by rw [hcf]; exact Nat.le_of_ble_eq_true rfl) hk20 rfl rfl (Nat.le_of_ble_eq_true rfl) ⟨o, f, a, b, rfl, hCG1, hab, (by first | assumption | omega), (by first | assumption | omega), (by first | assumption | omega), fun rr19 G18 hCG18 hXG18 hfG18 hpG18 => ?_⟩
    have hFG18 : WX (fun x => (262144 ≤ x ∧ x < 262208) ∨ x = 327684 ∨ x = 327689 ∨ x = 327690 ∨ (f + 1 ≤ x ∧ x ≤ f + 22)) G G18 := WX.trans hFG1 hXG1 (WX.mono hfG18 (fun x hx => by omega))
    show WP kX8_findFace X 17 [some (2, ((327684 : Nat) : Int)), some (2, ((o : Nat) : Int)), some (2, ((f : Nat) : Int)), some (0, rr2), none, none] [(0, rr19)] G18
    refine s_istore_n dX8_findFace_17 (by decide) (lv' := [some (2, ((327684 : Nat) : Int)), some (2, ((o : Nat) : Int)), some (2, ((f : Nat) : Int)), some (0, rr19), none, none]) rfl ?_
    refine s_iconst dX8_findFace_18 (by decide) ?_
    refine s_istore dX8_findFace_19 (by decide) (lv' := [some (2, ((327684 : Nat) : Int)), some (2, ((o : Nat) : Int)), some (2, ((f : Nat) : Int)), some (0, rr19), some (0, 0), none]) rfl ?_
    have L21 : ∀ (fu21 : Nat) (m21 : Int) (n21 : Int) (G21 : LG), CI a b G21 → KX G18 G21 → WX (fun x => (262144 ≤ x ∧ x < 262208) ∨ x = 327684 ∨ x = 327689 ∨ x = 327690 ∨ (f + 1 ≤ x ∧ x ≤ f + 22)) G G21 → ((0 ≤ n21 ∧ n21 ≤ 10) ∧ (FSZ G21 f) ∧ (∀ P : Int → Prop, SMP P → FPa P G f → FPa P G21 f)) → (10 - n21).toNat < fu21 → WP kX8_findFace X 21 [some (2, ((327684 : Nat) : Int)), some (2, ((o : Nat) : Int)), some (2, ((f : Nat) : Int)), some (0, m21), some (0, n21), none] [] G21 := by
      intro fu21
      induction fu21 with
      | zero => intro m21 n21 G21 hCG21 hXG21 hFG21 hi21 hm21; exact absurd hm21 (Nat.not_lt_zero _)
      | succ fu21 ih21 =>
        intro m21 n21 G21 hCG21 hXG21 hFG21 hi21 hm21
        obtain ⟨in_21, is21, ip21⟩ := hi21
        refine s_iload dX8_findFace_21 rfl ?_
        refine s_bipush dX8_findFace_23 rfl (by decide) ?_
        refine s_icmp_ge (tgt := 74) dX8_findFace_25 (by decide) (fun c22 => ?_) (fun c22 => ?_)
        · -- 25 to 74
          refine s_iload_n dX8_findFace_74 rfl ?_
          exact s_iret hR dX8_findFace_75 rfl (hQ m21 G21 hCG21 (KX.trans (KX.trans hXG1 hXG18) hXG21) hFG21 ip21)
        · -- 25 to 28
          refine s_iload_n dX8_findFace_28 rfl ?_
          refine s_if_ne (tgt := 74) dX8_findFace_29 (by decide) (fun c23 => ?_) (fun c23 => ?_)
          · -- 29 to 74
            refine s_iload_n dX8_findFace_74 rfl ?_
            exact s_iret hR dX8_findFace_75 rfl (hQ m21 G21 hCG21 (KX.trans (KX.trans hXG1 hXG18) hXG21) hFG21 ip21)
          · -- 29 to 32
            refine s_aload_n dX8_findFace_32 rfl (Int.natCast_nonneg _) ?_
            refine s_iload dX8_findFace_33 rfl ?_
            refine s_alv (o) (by simp) (fun al26 => ?_)
            have hk27 : gK G21 (o) = (19, 0) := hCG21.1.k (by rw [cde_v (by omega) (by omega)]; omega : cde o = 200) al26
            refine s_callV (as := [(0, n21)]) (rest := []) (n := o) (ci := 11) gX10_isDefinition dX8_findFace_35 m_1439 m_758 m_1498 m_713 m_85 ⟨by decide, by decide, show (parseMethodDescriptor yX10_isDefinition.desc).map (fun d => d.parameters.length) = some 1 from by decide +kernel⟩ (Nat.le_of_ble_eq_true rfl) (by rw [hcf]; exact Nat.le_of_ble_eq_true rfl) hk27 rfl rfl (Nat.le_of_ble_eq_true rfl) ⟨o, n21, a, b, rfl, hCG21, hab, (by first | assumption | omega), (by first | assumption | omega), fun rr24 hp25 => ?_⟩
            show WP kX8_findFace X 38 [some (2, ((327684 : Nat) : Int)), some (2, ((o : Nat) : Int)), some (2, ((f : Nat) : Int)), some (0, m21), some (0, n21), none] [(0, rr24)] G21
            refine s_if_eq (tgt := 68) dX8_findFace_38 (by decide) (fun c28 => ?_) (fun c28 => ?_)
            · -- 38 to 68
              refine s_iinc dX8_findFace_68 (v := n21) rfl (by omega) (by decide) (lv' := [some (2, ((327684 : Nat) : Int)), some (2, ((o : Nat) : Int)), some (2, ((f : Nat) : Int)), some (0, m21), some (0, n21 + 1), none]) rfl ?_
              refine s_goto (tgt := 21) dX8_findFace_71 (by decide) ?_
              exact ih21 m21 (n21 + 1) G21 hCG21 hXG21 hFG21 (⟨(by omega), (by exact is21), (by exact ip21)⟩) (by omega)
            · -- 38 to 41
              refine s_aload_n dX8_findFace_41 rfl (Int.natCast_nonneg _) ?_
              refine s_aload_n dX8_findFace_42 rfl (Int.natCast_nonneg _) ?_
              refine s_iload dX8_findFace_43 rfl ?_
              refine s_aload_n dX8_findFace_45 rfl (Int.natCast_nonneg _) ?_
              have hk31 : gK G21 (327684) = (17, 0) := ((hXG21).k ((hXG18).k hk20 (by decide)) (by decide))
              refine s_callV (as := [(2, ((o : Nat) : Int)), (0, n21), (2, ((f : Nat) : Int))]) (rest := []) (n := 327684) (ci := 9) gX8_checkDefinition dX8_findFace_46 m_1440 m_999 m_1722 m_722 m_347 ⟨by decide, by decide, show (parseMethodDescriptor yX8_checkDefinition.desc).map (fun d => d.parameters.length) = some 3 from by decide +kernel⟩ (Nat.le_of_ble_eq_true rfl) (by rw [hcf]; exact Nat.le_of_ble_eq_true rfl) hk31 rfl rfl (Nat.le_of_ble_eq_true rfl) ⟨o, n21, f, a, b, rfl, hCG21, hab, (by first | assumption | omega), (by first | assumption | omega), (by first | assumption | omega), (by first | assumption | omega), (by first | assumption | omega), fun rr30 G29 hCG29 hXG29 hfG29 hpG29 => ?_⟩
              have hFG29 : WX (fun x => (262144 ≤ x ∧ x < 262208) ∨ x = 327684 ∨ x = 327689 ∨ x = 327690 ∨ (f + 1 ≤ x ∧ x ≤ f + 22)) G G29 := WX.trans hFG21 (KX.trans (KX.trans hXG1 hXG18) hXG21) (WX.mono hfG29 (fun x hx => by omega))
              show WP kX8_findFace X 49 [some (2, ((327684 : Nat) : Int)), some (2, ((o : Nat) : Int)), some (2, ((f : Nat) : Int)), some (0, m21), some (0, n21), none] [(0, rr30)] G29
              refine s_istore dX8_findFace_49 (by decide) (lv' := [some (2, ((327684 : Nat) : Int)), some (2, ((o : Nat) : Int)), some (2, ((f : Nat) : Int)), some (0, m21), some (0, n21), some (0, rr30)]) rfl ?_
              refine s_iload dX8_findFace_51 rfl ?_
              refine s_if_ne (tgt := 60) dX8_findFace_53 (by decide) (fun c32 => ?_) (fun c32 => ?_)
              · -- 53 to 60
                refine s_iload dX8_findFace_60 rfl ?_
                refine s_iload dX8_findFace_62 rfl ?_
                refine s_callSN (own := RX8) rfl (by decide +kernel) (as := [(0, rr30), (0, n21)]) (rest := []) gX11_valueMistake dX8_findFace_64 m_1784 m_714 m_129 ⟨by decide, by decide, show (parseMethodDescriptor yX11_valueMistake.desc).map (fun d => d.parameters.length) = some 2 from by decide +kernel⟩ (Nat.le_of_ble_eq_true rfl) (by rw [hcf]; exact Nat.le_of_ble_eq_true rfl) rfl (Nat.le_of_ble_eq_true rfl) ⟨rr30, n21, rfl, (by first | assumption | omega), (by first | assumption | omega), fun rr33 hp34 => ?_⟩
                show WP kX8_findFace X 67 [some (2, ((327684 : Nat) : Int)), some (2, ((o : Nat) : Int)), some (2, ((f : Nat) : Int)), some (0, m21), some (0, n21), some (0, rr30)] [(0, rr33)] G29
                refine s_istore_n dX8_findFace_67 (by decide) (lv' := [some (2, ((327684 : Nat) : Int)), some (2, ((o : Nat) : Int)), some (2, ((f : Nat) : Int)), some (0, rr33), some (0, n21), some (0, rr30)]) rfl ?_
                refine s_iinc dX8_findFace_68 (v := n21) rfl (by omega) (by decide) (lv' := [some (2, ((327684 : Nat) : Int)), some (2, ((o : Nat) : Int)), some (2, ((f : Nat) : Int)), some (0, rr33), some (0, n21 + 1), some (0, rr30)]) rfl ?_
                refine s_goto (tgt := 21) dX8_findFace_71 (by decide) ?_
                refine s_mask [true, true, true, true, true, false] (lv' := [some (2, ((327684 : Nat) : Int)), some (2, ((o : Nat) : Int)), some (2, ((f : Nat) : Int)), some (0, rr33), some (0, n21 + 1), none]) rfl ?_
                exact ih21 rr33 (n21 + 1) G29 hCG29 (KX.trans hXG21 hXG29) hFG29 (⟨(by omega), (by exact is21.wx hXG29 hfG29 (by show ¬ _; omega) (by show ¬ _; omega)), (by intro P hP hF; exact (ip21 P hP hF).wx hXG29 hfG29 ⟨KX.al (KX.trans (KX.trans hXG1 hXG18) hXG21) (kne hfk3 (by decide)), KX.al (KX.trans (KX.trans hXG1 hXG18) hXG21) (kne hfk4 (by decide))⟩ (by show ¬ _; omega) (by show ¬ _; omega) (fun p hp => by show ¬ _; omega))⟩) (by omega)
              · -- 53 to 56
                refine s_iconst dX8_findFace_56 (by decide) ?_
                refine s_goto (tgt := 67) dX8_findFace_57 (by decide) ?_
                refine s_istore_n dX8_findFace_67 (by decide) (lv' := [some (2, ((327684 : Nat) : Int)), some (2, ((o : Nat) : Int)), some (2, ((f : Nat) : Int)), some (0, 0), some (0, n21), some (0, rr30)]) rfl ?_
                refine s_iinc dX8_findFace_68 (v := n21) rfl (by omega) (by decide) (lv' := [some (2, ((327684 : Nat) : Int)), some (2, ((o : Nat) : Int)), some (2, ((f : Nat) : Int)), some (0, 0), some (0, n21 + 1), some (0, rr30)]) rfl ?_
                refine s_goto (tgt := 21) dX8_findFace_71 (by decide) ?_
                refine s_mask [true, true, true, true, true, false] (lv' := [some (2, ((327684 : Nat) : Int)), some (2, ((o : Nat) : Int)), some (2, ((f : Nat) : Int)), some (0, 0), some (0, n21 + 1), none]) rfl ?_
                exact ih21 0 (n21 + 1) G29 hCG29 (KX.trans hXG21 hXG29) hFG29 (⟨(by omega), (by exact is21.wx hXG29 hfG29 (by show ¬ _; omega) (by show ¬ _; omega)), (by intro P hP hF; exact (ip21 P hP hF).wx hXG29 hfG29 ⟨KX.al (KX.trans (KX.trans hXG1 hXG18) hXG21) (kne hfk3 (by decide)), KX.al (KX.trans (KX.trans hXG1 hXG18) hXG21) (kne hfk4 (by decide))⟩ (by show ¬ _; omega) (by show ¬ _; omega) (fun p hp => by show ¬ _; omega))⟩) (by omega)
    exact L21 _ rr19 0 G18 hCG18 KX.rf hFG18 (⟨(by omega), (by exact hpG18.1), (by intro P hP hF; exact hpG18.2 P hP (hpG1.1 (by omega) P hP) (hpG1.2 P hP hF))⟩) (Nat.lt_succ_self _)
