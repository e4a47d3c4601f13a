abbrev kX2_restampFunctor : KD := (RX2, cX2_restampFunctor, 6, none, [])
def TX2_restampFunctor : TR := fun as G Qr => ∃ (A n : Nat) (w : Int) (Hs : List (Int → Int)) (v : Int → Int) (a b : Nat), as = [(2, ((327682 : Nat) : Int)), (2, ((A : Nat) : Int)), (0, w)] ∧ CI a b G ∧ (a ≤ 2840000 ∧ b ≤ 590000) ∧ (isFc A) ∧ (A ≠ 68097) ∧ ((n : Int) < nN G) ∧ (ThC G Hs) ∧ (v ∈ Hs) ∧ (nkC G n = 2) ∧ (byC G v n w) ∧ (FPa (PnC G v (ptC G n 0)) G A) ∧ ∀ (G' : LG), CI a b G' → KX G G' → WX (fun x => x = 327683 ∨ x = 327687 ∨ x = 327688 ∨ (68097 ≤ x ∧ x ≤ 68119)) G G' → (ThC G' Hs ∧ TxC G G' ∧ FPa (RnC G' v n) G' 68097) → Qr (.inl none) G'
set_option maxHeartbeats 4000000 in
set_option maxRecDepth 100000 in
theorem gX2_restampFunctor : Good kX2_restampFunctor yX2_restampFunctor 5 TX2_restampFunctor := by
  refine good_of (by decide) rfl rfl (fun as G Qr h => ?_) (fun X as G Qr hcf hR hT oa => ?_)
  · obtain ⟨A, n, w, Hs, v, a, b, rfl, -⟩ := h; exact Nat.le_of_ble_eq_true rfl
  obtain ⟨A, n, w, Hs, v, a, b, rfl, hC, hab, hA, hA6, hn, hTH, hv, h2, hby, hFA, hQ⟩ := hT
  show WP kX2_restampFunctor X 0 [some (2, ((327682 : Nat) : Int)), some (2, ((A : Nat) : Int)), some (0, w), none, none, none] [] G
  have hr_w : inR w := okv_R (oa _ (by simp))
  refine s_alvl 327682 (k := 0) rfl (fun (alZ : AL G 327682) => ?_)
  refine s_alvl A (k := 1) rfl (fun (alA : AL G A) => ?_)
  refine s_lk (fun hlk => ?_)
  have hfn := hlk.fna hC alZ
  obtain ⟨k327682, k327681, k327683, k262144, k262208, k327684, k68097, k327691, k327692, k262145, k262146, k262148, k262149, k262209, k262210, k262212, k262213, k327710, k327685, k327688⟩ := id hfn
  have hfA := hlk.fc hC hA alA
  obtain ⟨kA0, kA1, kA2, kA3, kA4, kA5, kA6⟩ := hfA.1
  have hf6 : isFc 68097 := by omega
  have hfcF := hlk.fc hC hf6 (kne k68097 (by decide))
  obtain ⟨kF0, kF1, kF2, kF3, kF4, kF5, kF6⟩ := hfcF.1
  have hND := hTH.2.2.2.1
  have hptn := (hND.2 n hn).2.2.1 (by omega)
  have rg0 : RM (fun x => 68097 + 1 ≤ x ∧ x ≤ 68097 + 22) (fun x => x = 327683 ∨ x = 327687 ∨ x = 327688 ∨ (68097 ≤ x ∧ x ≤ 68119)) := fun x hx => by (try dsimp only at hx ⊢); omega
  have rg1 : RNt (fun x => 68097 + 1 ≤ x ∧ x ≤ 68097 + 22) := ⟨by refine ⟨?_, ?_, ?_, ?_, ?_, ?_⟩ <;> (show ¬ _; omega), fun n9 h9 => by show ¬ _; omega⟩
  have rg2 : RM (fun x => x = 327683 ∨ x = 327687 ∨ x = 327688) (fun x => x = 327683 ∨ x = 327687 ∨ x = 327688 ∨ (68097 ≤ x ∧ x ≤ 68119)) := fun x hx => by (try dsimp only at hx ⊢); omega
  have hTX : TxC G G := TxC.rf
  refine s_aload_n dX2_restampFunctor_0 rfl (Int.natCast_nonneg _) ?_
  have hv1 : gS G 327682 5 = ((68097 : Nat) : Int) := by have h9 : (gS G 327682 5) = 68097 := hC.1.v (j := 5) (by decide : cde 327682 = 502) (kne k327682 (by decide)) (by rw [k327682]; exact Nat.le_of_ble_eq_true rfl); omega
  refine s_getf (ci := 3) (k := 5) (C := RX2) (T := TX2) (N := 8) (n := 327682) (L := 0) (t := 2) dX2_restampFunctor_1 rfl wi_70 m_581 (Nat.le_of_ble_eq_true rfl) rfl rfl k327682 hv1 ?_
  refine s_aload_n dX2_restampFunctor_4 rfl (Int.natCast_nonneg _) ?_
  refine s_callV (as := [(2, ((A : Nat) : Int))]) (rest := []) (n := 68097) (ci := 1) gX0_copy dX2_restampFunctor_5 m_1330 m_736 m_1470 m_711 m_63 ⟨by decide, by decide, show (parseMethodDescriptor yX0_copy.desc).map (fun d => d.parameters.length) = some 1 from by decide +kernel⟩ (Nat.le_of_ble_eq_true rfl) (by rw [hcf]; exact Nat.le_of_ble_eq_true rfl) kF0 rfl rfl (Nat.le_of_ble_eq_true rfl) ⟨68097, A, a, b, rfl, hC, hab, (by assumption), (by assumption), (by omega), (by exact kne kF3 (by decide)), (by exact kne kF4 (by decide)), (by exact kne kA3 (by decide)), (by exact kne kA4 (by decide)), fun G2 hCG2 hXG2 hfG2 hpG2 => ?_⟩
  have hFG2 : WX (fun x => x = 327683 ∨ x = 327687 ∨ x = 327688 ∨ (68097 ≤ x ∧ x ≤ 68119)) G G2 := WX.trans WX.rf KX.rf (WX.mono hfG2 rg0)
  have hS_G2 : ThC G2 Hs ∧ TxC G G2 := hTH.wx hC hXG2 hfG2 (hfn.kx KX.rf) rg1.1 rg1.2
  have hTHG2 : ThC G2 Hs := hS_G2.1
  have hnG2 : (n : Int) < nN G2 := by rw [hS_G2.2.1.1]; exact hn
  have hTXG2 : TxC G G2 := hTX.trans hS_G2.2
  show WP kX2_restampFunctor X 8 [some (2, ((327682 : Nat) : Int)), some (2, ((A : Nat) : Int)), some (0, w), none, none, none] [] G2
  refine s_iconst dX2_restampFunctor_8 (by decide) ?_
  refine s_istore_n dX2_restampFunctor_9 (by decide) (lv' := [some (2, ((327682 : Nat) : Int)), some (2, ((A : Nat) : Int)), some (0, w), some (0, 0), none, none]) rfl ?_
  have L4 : ∀ (n4 : Nat) (p4 : Int) (G4 : LG), CI a b G4 → KX G2 G4 → WX (fun x => x = 327683 ∨ x = 327687 ∨ x = 327688 ∨ (68097 ≤ x ∧ x ≤ 68119)) G G4 → ((0 ≤ p4 ∧ p4 ≤ 16) ∧ (RsC G G4 v n p4 0) ∧ (ThC G4 Hs) ∧ ((n : Int) < nN G4) ∧ (TxC G G4)) → (16 - p4).toNat < n4 → WP kX2_restampFunctor X 10 [some (2, ((327682 : Nat) : Int)), some (2, ((A : Nat) : Int)), some (0, w), some (0, p4), none, none] [] G4 := by
    intro n4
    induction n4 with
    | zero => intro p4 G4 hCG4 hXG4 hFG4 hi4 hm4; exact absurd hm4 (Nat.not_lt_zero _)
    | succ n4 ih4 =>
      intro p4 G4 hCG4 hXG4 hFG4 hi4 hm4
      obtain ⟨ip4, ir4, hTHG4, hnG4, hTXG4⟩ := hi4
      refine s_iload_n dX2_restampFunctor_10 rfl ?_
      refine s_bipush dX2_restampFunctor_11 rfl (by decide) ?_
      refine s_icmp_ge (tgt := 101) dX2_restampFunctor_13 (by decide) (fun c5 => ?_) (fun c5 => ?_)
      · -- 13 to 101
        exact s_vret hR dX2_restampFunctor_101 rfl (hQ G4 hCG4 (KX.trans hXG2 hXG4) hFG4 ⟨hTHG4, hTXG4, ir4.done (by omega)⟩)
      · -- 13 to 16
        refine s_aload_n dX2_restampFunctor_16 rfl (Int.natCast_nonneg _) ?_
        have hk6 : gK G4 (327682) = (11, 0) := ((hXG4).k ((hXG2).k k327682 (by decide)) (by decide))
        refine s_alv (327682) (by simp) (fun (al7 : AL G4 327682) => ?_)
        have hv8 : gS G4 327682 5 = ((68097 : Nat) : Int) := by have h9 : (gS G4 327682 5) = 68097 := hCG4.1.v (j := 5) (by decide : cde 327682 = 502) al7 (by rw [hk6]; exact Nat.le_of_ble_eq_true rfl); omega
        refine s_getf (ci := 3) (k := 5) (C := RX2) (T := TX2) (N := 8) (n := 327682) (L := 0) (t := 2) dX2_restampFunctor_17 rfl wi_70 m_581 (Nat.le_of_ble_eq_true rfl) rfl rfl hk6 hv8 ?_
        have hk9 : gK G4 (68097) = (9, 0) := ((hXG4).k ((hXG2).k kF0 (by decide)) (by decide))
        refine s_alv (68097) (by simp) (fun (al10 : AL G4 68097) => ?_)
        have hv11 : gS G4 68097 3 = ((68100 : Nat) : Int) := by have h9 : (gS G4 68097 3) = (((68097 % 1048576) + 3 : Nat) : Int) := hCG4.1.v (j := 3) (by decide : cde 68097 = 101) al10 (by rw [hk9]; exact Nat.le_of_ble_eq_true rfl); omega
        refine s_getf (ci := 1) (k := 3) (C := RX0) (T := TX0) (N := 7) (n := 68097) (L := 0) (t := 2) dX2_restampFunctor_20 rfl wi_65 m_574 (Nat.le_of_ble_eq_true rfl) rfl rfl hk9 hv11 ?_
        refine s_iload_n dX2_restampFunctor_23 rfl ?_
        have hk12 : gK G4 (68100) = (4, 16) := ((hXG4).k ((hXG2).k kF3 (by decide)) (by decide))
        refine s_alv (68100) (by simp) (fun (al13 : AL G4 68100) => ?_)
        have hv15b : 0 ≤ (gS G4 68100 (p4 : Int).toNat) ∧ (gS G4 68100 (p4 : Int).toNat) % 1048576 = (((68100 % 1048576) + 4 + ((p4 : Int).toNat) : Nat) : Int) := hCG4.1.v (j := (p4 : Int).toNat) (by decide : cde 68100 = 104) al13 (by rw [hk12]; show (p4 : Int).toNat < 16; omega)
        obtain ⟨q14, hv15⟩ : ∃ q : Nat, gS G4 68100 (p4 : Int).toNat = (q : Int) := ⟨(gS G4 68100 (p4 : Int).toNat).toNat, by omega⟩
        rw [hv15] at hv15b
        refine s_aald4 dX2_restampFunctor_24 hk12 (by omega) (by omega) hv15 ?_
        refine s_astore (Int.natCast_nonneg _) dX2_restampFunctor_25 (by decide) (lv' := [some (2, ((327682 : Nat) : Int)), some (2, ((A : Nat) : Int)), some (0, w), some (0, p4), some (2, ((q14 : Nat) : Int)), none]) rfl ?_
        refine s_iconst dX2_restampFunctor_27 (by decide) ?_
        refine s_istore dX2_restampFunctor_28 (by decide) (lv' := [some (2, ((327682 : Nat) : Int)), some (2, ((A : Nat) : Int)), some (0, w), some (0, p4), some (2, ((q14 : Nat) : Int)), some (0, 0)]) rfl ?_
        have L16 : ∀ (n16 : Nat) (i16 : Int) (G16 : LG), CI a b G16 → KX G4 G16 → WX (fun x => x = 327683 ∨ x = 327687 ∨ x = 327688 ∨ (68097 ≤ x ∧ x ≤ 68119)) G G16 → ((0 ≤ i16 ∧ i16 ≤ 200) ∧ (gS G16 68100 (p4 : Int).toNat = (((q14 : Nat) : Int))) ∧ (RsC G G16 v n p4 i16) ∧ (ThC G16 Hs) ∧ ((n : Int) < nN G16) ∧ (TxC G G16)) → (200 - i16).toNat < n16 → WP kX2_restampFunctor X 30 [some (2, ((327682 : Nat) : Int)), some (2, ((A : Nat) : Int)), some (0, w), some (0, p4), some (2, ((q14 : Nat) : Int)), some (0, i16)] [] G16 := by
          intro n16
          induction n16 with
          | zero => intro i16 G16 hCG16 hXG16 hFG16 hi16 hm16; exact absurd hm16 (Nat.not_lt_zero _)
          | succ n16 ih16 =>
            intro i16 G16 hCG16 hXG16 hFG16 hi16 hm16
            obtain ⟨ii16, iq16, ir16, hTHG16, hnG16, hTXG16⟩ := hi16
            refine s_iload dX2_restampFunctor_30 rfl ?_
            refine s_aload_n dX2_restampFunctor_32 rfl (Int.natCast_nonneg _) ?_
            have hk17 : gK G16 (327682) = (11, 0) := ((hXG16).k hk6 (by decide))
            refine s_alv (327682) (by simp) (fun (al18 : AL G16 327682) => ?_)
            have hv19 : gS G16 327682 5 = ((68097 : Nat) : Int) := by have h9 : (gS G16 327682 5) = 68097 := hCG16.1.v (j := 5) (by decide : cde 327682 = 502) al18 (by rw [hk17]; exact Nat.le_of_ble_eq_true rfl); omega
            refine s_getf (ci := 3) (k := 5) (C := RX2) (T := TX2) (N := 8) (n := 327682) (L := 0) (t := 2) dX2_restampFunctor_33 rfl wi_70 m_581 (Nat.le_of_ble_eq_true rfl) rfl rfl hk17 hv19 ?_
            have hk20 : gK G16 (68097) = (9, 0) := ((hXG16).k hk9 (by decide))
            refine s_alv (68097) (by simp) (fun (al21 : AL G16 68097) => ?_)
            have hv22 : gS G16 68097 4 = ((68101 : Nat) : Int) := by have h9 : (gS G16 68097 4) = (((68097 % 1048576) + 4 : Nat) : Int) := hCG16.1.v (j := 4) (by decide : cde 68097 = 101) al21 (by rw [hk20]; exact Nat.le_of_ble_eq_true rfl); omega
            refine s_getf (ci := 1) (k := 4) (C := RX0) (T := TX0) (N := 7) (n := 68097) (L := 0) (t := 2) dX2_restampFunctor_36 rfl wi_65 m_575 (Nat.le_of_ble_eq_true rfl) rfl rfl hk20 hv22 ?_
            refine s_iload_n dX2_restampFunctor_39 rfl ?_
            have hk23 : gK G16 (68101) = (1, 16) := ((hXG16).k ((hXG4).k ((hXG2).k kF4 (by decide)) (by decide)) (by decide))
            refine s_alv (68101) (by simp) (fun (al24 : AL G16 68101) => ?_)
            have hv25 : 0 ≤ (gS G16 68101 (p4 : Int).toNat) ∧ (gS G16 68101 (p4 : Int).toNat) ≤ 200 := hCG16.1.v (j := (p4 : Int).toNat) (by decide : cde 68101 = 105) al24 (by rw [hk23]; show (p4 : Int).toNat < 16; omega)
            refine s_iald dX2_restampFunctor_40 hk23 (by omega) (by omega) rfl ?_
            refine s_icmp_ge (tgt := 95) dX2_restampFunctor_41 (by decide) (fun c26 => ?_) (fun c26 => ?_)
            · -- 41 to 95
              refine s_iinc dX2_restampFunctor_95 (v := p4) rfl (by omega) (by decide) (lv' := [some (2, ((327682 : Nat) : Int)), some (2, ((A : Nat) : Int)), some (0, w), some (0, p4 + 1), some (2, ((q14 : Nat) : Int)), some (0, i16)]) rfl ?_
              refine s_goto (tgt := 10) dX2_restampFunctor_98 (by decide) ?_
              refine s_mask [true, true, true, true, false, false] (lv' := [some (2, ((327682 : Nat) : Int)), some (2, ((A : Nat) : Int)), some (0, w), some (0, p4 + 1), none, none]) rfl ?_
              exact ih4 (p4 + 1) G16 hCG16 (KX.trans hXG4 hXG16) hFG16 (⟨(by omega), (by exact ir16.next (by omega) (by omega)), (by exact hTHG16), (by exact hnG16), (by exact hTXG16)⟩) (by omega)
            · -- 41 to 44
              refine s_iload dX2_restampFunctor_44 rfl ?_
              refine s_aload dX2_restampFunctor_46 rfl (Int.natCast_nonneg _) ?_
              refine s_alv (q14) (by simp) (fun (al27 : AL G16 q14) => ?_)
              obtain ⟨L29, hk28, hL29a, hL29b⟩ := hCG16.1.kr (show 108 ≤ cde q14 ∧ cde q14 < 124 from by rw [cde_n (by omega) (by omega)]; omega) al27
              refine s_alen dX2_restampFunctor_48 hk28 (by decide) (by omega) ?_
              have hln := ir16.len (by omega) iq16 hk28
              refine s_icmp_ge (tgt := 95) dX2_restampFunctor_49 (by decide) (fun c30 => ?_) (fun c30 => ?_)
              · -- 49 to 95
                refine s_iinc dX2_restampFunctor_95 (v := p4) rfl (by omega) (by decide) (lv' := [some (2, ((327682 : Nat) : Int)), some (2, ((A : Nat) : Int)), some (0, w), some (0, p4 + 1), some (2, ((q14 : Nat) : Int)), some (0, i16)]) rfl ?_
                refine s_goto (tgt := 10) dX2_restampFunctor_98 (by decide) ?_
                refine s_mask [true, true, true, true, false, false] (lv' := [some (2, ((327682 : Nat) : Int)), some (2, ((A : Nat) : Int)), some (0, w), some (0, p4 + 1), none, none]) rfl ?_
                exact ih4 (p4 + 1) G16 hCG16 (KX.trans hXG4 hXG16) hFG16 (⟨(by omega), (by exact ir16.next (by omega) (by omega)), (by exact hTHG16), (by exact hnG16), (by exact hTXG16)⟩) (by omega)
              · -- 49 to 52
                have hpn := ir16.get (by omega) (by omega) iq16
                refine s_aload dX2_restampFunctor_52 rfl (Int.natCast_nonneg _) ?_
                refine s_iload dX2_restampFunctor_54 rfl ?_
                refine s_iald dX2_restampFunctor_56 hk28 (by omega) (by omega) rfl ?_
                refine s_bipush dX2_restampFunctor_57 rfl (by decide) ?_
                refine s_icmp_lt (tgt := 89) dX2_restampFunctor_59 (by decide) (fun c31 => ?_) (fun c31 => ?_)
                · -- 59 to 89
                  refine s_iinc dX2_restampFunctor_89 (v := i16) rfl (by omega) (by decide) (lv' := [some (2, ((327682 : Nat) : Int)), some (2, ((A : Nat) : Int)), some (0, w), some (0, p4), some (2, ((q14 : Nat) : Int)), some (0, i16 + 1)]) rfl ?_
                  refine s_goto (tgt := 30) dX2_restampFunctor_92 (by decide) ?_
                  exact ih16 (i16 + 1) G16 hCG16 hXG16 hFG16 (⟨(by omega), (by exact iq16), (by exact ir16.skip (by omega) (by omega) iq16 (by omega)), (by exact hTHG16), (by exact hnG16), (by exact hTXG16)⟩) (by omega)
                · -- 59 to 62
                  refine s_aload dX2_restampFunctor_62 rfl (Int.natCast_nonneg _) ?_
                  refine s_iload dX2_restampFunctor_64 rfl ?_
                  refine s_bipush dX2_restampFunctor_66 rfl (by decide) ?_
                  refine s_aload_n dX2_restampFunctor_68 rfl (Int.natCast_nonneg _) ?_
                  have hv32 : gS G16 327682 1 = ((327683 : Nat) : Int) := by have h9 : (gS G16 327682 1) = 327683 := hCG16.1.v (j := 1) (by decide : cde 327682 = 502) al18 (by rw [hk17]; exact Nat.le_of_ble_eq_true rfl); omega
                  refine s_getf (ci := 3) (k := 1) (C := RX2) (T := TX2) (N := 8) (n := 327682) (L := 0) (t := 2) dX2_restampFunctor_69 rfl wi_70 m_568 (Nat.le_of_ble_eq_true rfl) rfl rfl hk17 hv32 ?_
                  refine s_bipush dX2_restampFunctor_72 rfl (by decide) ?_
                  refine s_iload_n dX2_restampFunctor_74 rfl ?_
                  refine s_aload dX2_restampFunctor_75 rfl (Int.natCast_nonneg _) ?_
                  refine s_iload dX2_restampFunctor_77 rfl ?_
                  refine s_iald dX2_restampFunctor_79 hk28 (by omega) (by omega) rfl ?_
                  refine s_rng (fun hrg => ?_)
                  refine s_bipush dX2_restampFunctor_80 rfl (by decide) ?_
                  refine s_isub dX2_restampFunctor_82 (by omega) ?_
                  refine s_iconst dX2_restampFunctor_83 (by decide) ?_
                  have hk35 : gK G16 (327683) = (16, 0) := ((hXG16).k ((hXG4).k ((hXG2).k k327683 (by decide)) (by decide)) (by decide))
                  refine s_callV (as := [(0, 10), (0, w), (0, (gS G16 q14 ((i16 : Int).toNat)) - 8), (0, 0)]) (rest := [(0, 8), (0, i16), (2, ((q14 : Nat) : Int))]) (n := 327683) (ci := 8) gX7_numberOf dX2_restampFunctor_84 m_1298 m_995 m_1718 m_721 m_343 ⟨by decide, by decide, show (parseMethodDescriptor yX7_numberOf.desc).map (fun d => d.parameters.length) = some 4 from by decide +kernel⟩ (Nat.le_of_ble_eq_true rfl) (by rw [hcf]; exact Nat.le_of_ble_eq_true rfl) hk35 rfl rfl (Nat.le_of_ble_eq_true rfl) ⟨10, w, (gS G16 q14 ((i16 : Int).toNat)) - 8, 0, Hs, v, a, b, rfl, hCG16, hab, (by exact hTHG16), (by assumption), (by exact fun G9 tx t ht => mk_ak (hTXG16.trans tx) hND hn h2 ((ir16.get (by omega) (by omega) iq16) (by omega)) (ak_of (hTXG16.trans tx) hND hn (by omega) hby ht)), fun rr34 G33 hCG33 hXG33 hfG33 hpG33 => ?_⟩
                  have hFG33 : WX (fun x => x = 327683 ∨ x = 327687 ∨ x = 327688 ∨ (68097 ≤ x ∧ x ≤ 68119)) G G33 := WX.trans hFG16 (KX.trans (KX.trans hXG2 hXG4) hXG16) (WX.mono hfG33 rg2)
                  have hS_G33 : ThC G33 Hs ∧ TxC G16 G33 := ⟨hpG33.1, hpG33.2.1⟩
                  have hTHG33 : ThC G33 Hs := hS_G33.1
                  have hnG33 : (n : Int) < nN G33 := by rw [hS_G33.2.1.1]; exact hnG16
                  have hTXG33 : TxC G G33 := hTXG16.trans hS_G33.2
                  show WP kX2_restampFunctor X 87 [some (2, ((327682 : Nat) : Int)), some (2, ((A : Nat) : Int)), some (0, w), some (0, p4), some (2, ((q14 : Nat) : Int)), some (0, i16)] [(0, rr34), (0, 8), (0, i16), (2, ((q14 : Nat) : Int))] G33
                  have hbd9 := thC_bound hpG33.1
                  have hb9 := hpG33.2.2.1
                  refine s_iadd dX2_restampFunctor_87 (by omega) ?_
                  have hk36 : gK G33 (q14) = (1, L29) := ((hXG33).k hk28 (by decide))
                  refine s_iast dX2_restampFunctor_88 hk36 (by omega) (by omega) ?_
                  generalize eG37r : gset G33 q14 ((i16 : Int).toNat) (8 + rr34) = G37
                  have eG37 := eG37r.symm
                  have hCG37 : CI a b G37 := by rw [eG37]; exact hCG33.set (spc_row (by rw [cde_n (by omega) (by omega)]; omega)) (tv_row (by rw [cde_n (by omega) (by omega)]; omega))
                  have hXG37 : KX G33 G37 := KX.set KX.rf eG37
                  have hFG37 : WX (fun x => x = 327683 ∨ x = 327687 ∨ x = 327688 ∨ (68097 ≤ x ∧ x ≤ 68119)) G G37 := WX.set hFG33 eG37 (by show _; omega)
                  have hfG37 : WX (fun x => x = q14 % 1048576) G33 G37 := WX.set WX.rf eG37 rfl
                  have hS_G37 : ThC G37 Hs ∧ TxC G33 G37 := hTHG33.wx hCG33 hXG37 hfG37 (hfn.kx (KX.trans (KX.trans (KX.trans hXG2 hXG4) hXG16) hXG33)) (by refine ⟨?_, ?_, ?_, ?_, ?_, ?_⟩ <;> (show ¬ _; omega)) (fun n9 h9 => by show ¬ _; omega)
                  have hTHG37 : ThC G37 Hs := hS_G37.1
                  have hnG37 : (n : Int) < nN G37 := by rw [hS_G37.2.1.1]; exact hnG33
                  have hTXG37 : TxC G G37 := hTXG33.trans hS_G37.2
                  show WP kX2_restampFunctor X 89 [some (2, ((327682 : Nat) : Int)), some (2, ((A : Nat) : Int)), some (0, w), some (0, p4), some (2, ((q14 : Nat) : Int)), some (0, i16)] [] G37
                  refine s_iinc dX2_restampFunctor_89 (v := i16) rfl (by omega) (by decide) (lv' := [some (2, ((327682 : Nat) : Int)), some (2, ((A : Nat) : Int)), some (0, w), some (0, p4), some (2, ((q14 : Nat) : Int)), some (0, i16 + 1)]) rfl ?_
                  refine s_goto (tgt := 30) dX2_restampFunctor_92 (by decide) ?_
                  exact ih16 (i16 + 1) G37 hCG37 (KX.trans (KX.trans hXG16 hXG33) hXG37) hFG37 (⟨(by omega), (by rw [show gS G37 68100 = gS G33 68100 from gset_o eG37 (by omega), show gS G33 68100 = gS G16 68100 from hfG33 68100 (KX.al (KX.trans (KX.trans hXG2 hXG4) hXG16) (kne kF3 (by decide))) (by show ¬ _; omega)]; exact iq16), (by exact (ir16.step hXG33 hfG33 hS_G33.2 hTHG16.2.2.2.1 hnG16 (by rw [(hTXG16.1.2 n hn).1]; exact h2) (KX.al (KX.trans (KX.trans hXG2 hXG4) hXG16) (kne kF3 (by decide))) (KX.al (KX.trans (KX.trans hXG2 hXG4) hXG16) (kne kF4 (by decide))) (fun p2 hp2 => by show ¬ _; omega) (by show ¬ _; omega) (by show ¬ _; omega)).put (by omega) (by omega) (by rw [show gS G33 68100 = gS G16 68100 from hfG33 68100 (KX.al (KX.trans (KX.trans hXG2 hXG4) hXG16) (kne kF3 (by decide))) (by show ¬ _; omega)]; exact iq16) (by omega) eG37 hS_G37.2 hTHG33.2.2.2.1 hnG33 (by rw [(hTXG33.1.2 n hn).1]; exact h2) (rn_of hTXG37 hND hn h2 (hpn (by omega)) (ak_of hTXG37 hND hn (by omega) hby (hS_G37.2.2.1.2 _ _ _ _ _ hpG33.2.2)))), (by exact hTHG37), (by exact hnG37), (by exact hTXG37)⟩) (by omega)
        exact L16 _ 0 G4 hCG4 KX.rf hFG4 (⟨(by omega), (by exact hv15), (by exact ir4), (by exact hTHG4), (by exact hnG4), (by exact hTXG4)⟩) (Nat.lt_succ_self _)
  exact L4 _ 0 G2 hCG2 KX.rf hFG2 (⟨(by omega), (by exact RsC.start (hpG2 _ hFA)), (by exact hTHG2), (by exact hnG2), (by exact hTXG2)⟩) (Nat.lt_succ_self _)
