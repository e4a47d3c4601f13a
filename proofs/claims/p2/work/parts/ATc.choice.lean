abbrev kX2_choice : KD := (RX2, cX2_choice, 8, (some .int), [])
def TX2_choice : TR := fun as G Qr => ∃ (o n A B D : Nat) (Hs : List (Int → Int)) (v : Int → Int) (a b : Nat), as = [(2, ((327682 : Nat) : Int)), (2, ((o : Nat) : Int)), (2, ((A : Nat) : Int)), (2, ((B : Nat) : Int)), (2, ((D : Nat) : Int))] ∧ CI a b G ∧ (a ≤ 2840000 ∧ b ≤ 590000) ∧ (o = 65536 + 64 * n) ∧ ((n : Int) < nN G) ∧ (ThC G Hs) ∧ (v ∈ Hs) ∧ (gS G o 1 = 3) ∧ (WhC G v n) ∧ (isFc A) ∧ (isFc B) ∧ (isFc D) ∧ (A ≠ o + 1 ∧ B ≠ o + 1) ∧ (FPa (PnC G v n) G A) ∧ (FPa (PnC G v n) G (o + 1)) ∧ ∀ (r : Int) (G' : LG), CI a b G' → KX G G' → WX (fun x => x = 327683 ∨ x = 327687 ∨ x = 327688 ∨ x = 327691 ∨ x = 327692 ∨ (o + 2 ≤ x ∧ x ≤ o + 23)) G G' → (ThC G' Hs ∧ TxC G G' ∧ FPa (PnC G' v n) G' (o + 1)) → Qr (.inl (some (0, r))) G'
set_option maxHeartbeats 4000000 in
set_option maxRecDepth 100000 in
theorem gX2_choice : Good kX2_choice yX2_choice 5 TX2_choice := by
  refine good_of (by decide) rfl rfl (fun as G Qr h => ?_) (fun X as G Qr hcf hR hT oa => ?_)
  · obtain ⟨o, n, A, B, D, Hs, v, a, b, rfl, -⟩ := h; exact Nat.le_of_ble_eq_true rfl
  obtain ⟨o, n, A, B, D, Hs, v, a, b, rfl, hC, hab, ho9, hn, hTH, hv, hkd, hwn, hA, hB, hD, hne, hFA, hFf, hQ⟩ := hT
  show WP kX2_choice X 0 [some (2, ((327682 : Nat) : Int)), some (2, ((o : Nat) : Int)), some (2, ((A : Nat) : Int)), some (2, ((B : Nat) : Int)), some (2, ((D : Nat) : Int)), none, none, none] [] G
  refine s_alvl 327682 (k := 0) rfl (fun (alZ : AL G 327682) => ?_)
  refine s_alvl A (k := 2) rfl (fun (alA : AL G A) => ?_)
  refine s_alvl B (k := 3) rfl (fun (alB : AL G B) => ?_)
  refine s_alvl D (k := 4) rfl (fun (alD : AL G D) => ?_)
  refine s_lk (fun hlk => ?_)
  have hfn := hlk.fna hC alZ
  obtain ⟨k327682, k327681, k327683, k262144, k262208, k327684, k68097, k327691, k327692, k262145, k262146, k262148, k262149, k262209, k262210, k262212, k262213, k327710, k327685, k327688⟩ := id hfn
  have hfA := hlk.fc hC hA alA
  obtain ⟨kA0, kA1, kA2, kA3, kA4, kA5, kA6⟩ := hfA.1
  have hfB := hlk.fc hC hB alB
  obtain ⟨kB0, kB1, kB2, kB3, kB4, kB5, kB6⟩ := hfB.1
  have hfD := hlk.fc hC hD alD
  obtain ⟨kD0, kD1, kD2, kD3, kD4, kD5, kD6⟩ := hfD.1
  obtain ⟨hn40, hko, pa, hpa, hpm, hpc, hkp, hpt, hu6, hr4⟩ := hC.nd ho9 hn
  have ho : isNd o := by omega
  have hND := hTH.2.2.2.1
  have hsl : slC G n ↔ (gS G o 1 = 3 ∨ ¬ gS G o 5 = 0) := by unfold slC nkC ngC; rw [ho9]
  have hnk : nkC G n = gS G o 1 := by unfold nkC; rw [ho9]
  have hnn : nnC G n = gS G o 3 := by unfold nnC; rw [ho9]
  have hnt : ntC G n = gS G o 4 := by unfold ntC; rw [ho9]
  have hng : ngC G n = gS G o 5 := by unfold ngC; rw [ho9]
  have hf6 : isFc (o + 1) := by omega
  have hvf : gS G o 7 = ((o + 1 : Nat) : Int) := by have h9 : gS G o 7 = ((o % 1048576 + 1 : Nat) : Int) := hC.1.v (c := 100) (j := 7) (by rw [cde_n (by omega) (by omega)]; omega) (kne hko (by decide)) (by rw [hko]; exact Nat.le_of_ble_eq_true rfl); omega
  have alf : (gK G (o + 1)).1 ≠ 0 := hlk.at (kne hko (by decide)) (by rw [hko]; exact Nat.le_of_ble_eq_true rfl) (by rw [hko]; rfl) hvf
  have hff := hlk.fc hC hf6 alf
  obtain ⟨kf0, kf1, kf2, kf3, kf4, kf5, kf6⟩ := hff.1
  have rg0 : RM (fun x => x = 327683 ∨ x = 327687 ∨ x = 327688 ∨ (o + 2 ≤ x ∧ x ≤ o + 23)) (fun x => x = 327683 ∨ x = 327687 ∨ x = 327688 ∨ x = 327691 ∨ x = 327692 ∨ (o + 2 ≤ x ∧ x ≤ o + 23)) := fun x hx => by (try dsimp only at hx ⊢); omega
  have rg1 : RM (fun x => x = 327691 ∨ x = 327692 ∨ ((o + 1) + 2 ≤ x ∧ x ≤ (o + 1) + 6) ∨ ((o + 1) + 13 ≤ x ∧ x ≤ (o + 1) + 22)) (fun x => x = 327683 ∨ x = 327687 ∨ x = 327688 ∨ x = 327691 ∨ x = 327692 ∨ (o + 2 ≤ x ∧ x ≤ o + 23)) := fun x hx => by (try dsimp only at hx ⊢); omega
  have rg2 : RNt (fun x => x = 327691 ∨ x = 327692 ∨ ((o + 1) + 2 ≤ x ∧ x ≤ (o + 1) + 6) ∨ ((o + 1) + 13 ≤ x ∧ x ≤ (o + 1) + 22)) := ⟨by refine ⟨?_, ?_, ?_, ?_, ?_, ?_⟩ <;> (show ¬ _; omega), fun n9 h9 => by show ¬ _; omega⟩
  have rg3 : RNf (fun x => x = 327691 ∨ x = 327692 ∨ ((o + 1) + 2 ≤ x ∧ x ≤ (o + 1) + 6) ∨ ((o + 1) + 13 ≤ x ∧ x ≤ (o + 1) + 22)) A := ⟨by show ¬ _; omega, by show ¬ _; omega, fun p hp => by show ¬ _; omega⟩
  have hTX : TxC G G := TxC.rf
  refine s_aload dX2_choice_0 rfl (Int.natCast_nonneg _) ?_
  refine s_callS2 (as := [(2, ((D : Nat) : Int))]) (rest := []) gX2_checkThird dX2_choice_2 m_1332 m_1794 m_716 m_265 ⟨by decide, by decide, show (parseMethodDescriptor yX2_checkThird.desc).map (fun d => d.parameters.length) = some 1 from by decide +kernel⟩ (Nat.le_of_ble_eq_true rfl) (by rw [hcf]; exact Nat.le_of_ble_eq_true rfl) rfl (Nat.le_of_ble_eq_true rfl) ⟨D, a, b, rfl, hC, hab, (by first | assumption | omega), fun rr1 hp2 => ?_⟩
  show WP kX2_choice X 5 [some (2, ((327682 : Nat) : Int)), some (2, ((o : Nat) : Int)), some (2, ((A : Nat) : Int)), some (2, ((B : Nat) : Int)), some (2, ((D : Nat) : Int)), none, none, none] [(0, rr1)] G
  refine s_istore dX2_choice_5 (by decide) (lv' := [some (2, ((327682 : Nat) : Int)), some (2, ((o : Nat) : Int)), some (2, ((A : Nat) : Int)), some (2, ((B : Nat) : Int)), some (2, ((D : Nat) : Int)), some (0, rr1), none, none]) rfl ?_
  refine s_iload dX2_choice_7 rfl ?_
  have K3 : ∀ (m3 : Int), (True) → WP kX2_choice X 19 [some (2, ((327682 : Nat) : Int)), some (2, ((o : Nat) : Int)), some (2, ((A : Nat) : Int)), some (2, ((B : Nat) : Int)), some (2, ((D : Nat) : Int)), some (0, m3), none, none] [] G := by
    intro m3 hi3
    refine s_iload dX2_choice_19 rfl ?_
    have K4 : ∀ (m4 : Int), (True) → WP kX2_choice X 31 [some (2, ((327682 : Nat) : Int)), some (2, ((o : Nat) : Int)), some (2, ((A : Nat) : Int)), some (2, ((B : Nat) : Int)), some (2, ((D : Nat) : Int)), some (0, m4), none, none] [] G := by
      intro m4 hi4
      refine s_iload dX2_choice_31 rfl ?_
      refine s_if_eq (tgt := 39) dX2_choice_33 (by decide) (fun c5 => ?_) (fun c5 => ?_)
      · -- 33 to 39
        refine s_aload_n dX2_choice_39 rfl (Int.natCast_nonneg _) ?_
        refine s_aload_n dX2_choice_40 rfl (Int.natCast_nonneg _) ?_
        refine s_aload_n dX2_choice_41 rfl (Int.natCast_nonneg _) ?_
        refine s_aload_n dX2_choice_42 rfl (Int.natCast_nonneg _) ?_
        refine s_callV (as := [(2, ((o : Nat) : Int)), (2, ((A : Nat) : Int)), (2, ((B : Nat) : Int))]) (rest := []) (n := 327682) (ci := 3) gX2_choiceTypes dX2_choice_43 m_1335 m_922 m_1651 m_716 m_267 ⟨by decide, by decide, show (parseMethodDescriptor yX2_choiceTypes.desc).map (fun d => d.parameters.length) = some 3 from by decide +kernel⟩ (Nat.le_of_ble_eq_true rfl) (by rw [hcf]; exact Nat.le_of_ble_eq_true rfl) k327682 rfl rfl (Nat.le_of_ble_eq_true rfl) ⟨o, n, A, B, Hs, v, a, b, rfl, hC, hab, (by assumption), (by assumption), (by assumption), (by assumption), (by assumption), (by assumption), (by assumption), (by assumption), (by assumption), (by assumption), (by assumption), fun rr7 G6 hCG6 hXG6 hfG6 hpG6 => ?_⟩
        have hFG6 : WX (fun x => x = 327683 ∨ x = 327687 ∨ x = 327688 ∨ x = 327691 ∨ x = 327692 ∨ (o + 2 ≤ x ∧ x ≤ o + 23)) G G6 := WX.trans WX.rf KX.rf (WX.mono hfG6 rg0)
        have hS_G6 : ThC G6 Hs ∧ TxC G G6 := ⟨hpG6.1, hpG6.2.1⟩
        have hTHG6 : ThC G6 Hs := hS_G6.1
        have hnG6 : (n : Int) < nN G6 := by rw [hS_G6.2.1.1]; exact hn
        have hTXG6 : TxC G G6 := hTX.trans hS_G6.2
        have hFAG6 : FPa (PnC G6 v n) G6 A := ((hFA).wx hXG6 hfG6 ⟨KX.al KX.rf (kne kA3 (by decide)), KX.al KX.rf (kne kA4 (by decide))⟩ (by show ¬ _; omega) (by show ¬ _; omega) (fun p hp => by show ¬ _; omega)).mono (fun x hx => hS_G6.2.pn hTH.2.2.2.1 hn hx)
        have hFfG6 : FPa (PnC G6 v n) G6 (o + 1) := hpG6.2.2.1
        show WP kX2_choice X 46 [some (2, ((327682 : Nat) : Int)), some (2, ((o : Nat) : Int)), some (2, ((A : Nat) : Int)), some (2, ((B : Nat) : Int)), some (2, ((D : Nat) : Int)), some (0, m4), none, none] [(0, rr7)] G6
        refine s_istore dX2_choice_46 (by decide) (lv' := [some (2, ((327682 : Nat) : Int)), some (2, ((o : Nat) : Int)), some (2, ((A : Nat) : Int)), some (2, ((B : Nat) : Int)), some (2, ((D : Nat) : Int)), some (0, m4), some (0, rr7), none]) rfl ?_
        refine s_iconst dX2_choice_48 (by decide) ?_
        refine s_istore dX2_choice_49 (by decide) (lv' := [some (2, ((327682 : Nat) : Int)), some (2, ((o : Nat) : Int)), some (2, ((A : Nat) : Int)), some (2, ((B : Nat) : Int)), some (2, ((D : Nat) : Int)), some (0, m4), some (0, rr7), some (0, 0)]) rfl ?_
        have L8 : ∀ (n8 : Nat) (m8 : Int) (e8 : Int) (G8 : LG), CI a b G8 → KX G6 G8 → WX (fun x => x = 327683 ∨ x = 327687 ∨ x = 327688 ∨ x = 327691 ∨ x = 327692 ∨ (o + 2 ≤ x ∧ x ≤ o + 23)) G G8 → ((0 ≤ e8 ∧ e8 ≤ 10) ∧ (∀ k : Nat, k < 6 → ¬ i_and (i_shr rr7 k) 1 = 0 → 1 ≤ gS G8 (o + 1 + 4) k) ∧ (ThC G8 Hs) ∧ ((n : Int) < nN G8) ∧ (TxC G G8) ∧ (FPa (PnC G8 v n) G8 A) ∧ (FPa (PnC G8 v n) G8 (o + 1))) → (10 - e8).toNat < n8 → WP kX2_choice X 51 [some (2, ((327682 : Nat) : Int)), some (2, ((o : Nat) : Int)), some (2, ((A : Nat) : Int)), some (2, ((B : Nat) : Int)), some (2, ((D : Nat) : Int)), some (0, m8), some (0, rr7), some (0, e8)] [] G8 := by
          intro n8
          induction n8 with
          | zero => intro m8 e8 G8 hCG8 hXG8 hFG8 hi8 hm8; exact absurd hm8 (Nat.not_lt_zero _)
          | succ n8 ih8 =>
            intro m8 e8 G8 hCG8 hXG8 hFG8 hi8 hm8
            obtain ⟨ie8, iy8, hTHG8, hnG8, hTXG8, hFAG8, hFfG8⟩ := hi8
            refine s_iload dX2_choice_51 rfl ?_
            refine s_bipush dX2_choice_53 rfl (by decide) ?_
            refine s_icmp_ge (tgt := 94) dX2_choice_55 (by decide) (fun c9 => ?_) (fun c9 => ?_)
            · -- 55 to 94
              refine s_iload dX2_choice_94 rfl ?_
              exact s_iret hR dX2_choice_96 rfl (hQ m8 G8 hCG8 (KX.trans hXG6 hXG8) hFG8 ⟨hTHG8, hTXG8, hFfG8⟩)
            · -- 55 to 58
              refine s_iload dX2_choice_58 rfl ?_
              refine s_if_ne (tgt := 94) dX2_choice_60 (by decide) (fun c10 => ?_) (fun c10 => ?_)
              · -- 60 to 94
                refine s_iload dX2_choice_94 rfl ?_
                exact s_iret hR dX2_choice_96 rfl (hQ m8 G8 hCG8 (KX.trans hXG6 hXG8) hFG8 ⟨hTHG8, hTXG8, hFfG8⟩)
              · -- 60 to 63
                refine s_aload_n dX2_choice_63 rfl (Int.natCast_nonneg _) ?_
                refine s_iload dX2_choice_64 rfl ?_
                have hk13 : gK G8 (A) = (9, 0) := ((hXG8).k ((hXG6).k kA0 (by decide)) (by decide))
                refine s_callV (as := [(0, e8)]) (rest := []) (n := A) (ci := 1) gX0_hasValue dX2_choice_66 m_1313 m_739 m_1473 m_711 m_66 ⟨by decide, by decide, show (parseMethodDescriptor yX0_hasValue.desc).map (fun d => d.parameters.length) = some 1 from by decide +kernel⟩ (Nat.le_of_ble_eq_true rfl) (by rw [hcf]; exact Nat.le_of_ble_eq_true rfl) hk13 rfl rfl (Nat.le_of_ble_eq_true rfl) ⟨A, e8, a, b, rfl, hCG8, hab, (by first | assumption | omega), (by first | assumption | omega), fun rr11 hp12 => ?_⟩
                show WP kX2_choice X 69 [some (2, ((327682 : Nat) : Int)), some (2, ((o : Nat) : Int)), some (2, ((A : Nat) : Int)), some (2, ((B : Nat) : Int)), some (2, ((D : Nat) : Int)), some (0, m8), some (0, rr7), some (0, e8)] [(0, rr11)] G8
                refine s_if_eq (tgt := 88) dX2_choice_69 (by decide) (fun c14 => ?_) (fun c14 => ?_)
                · -- 69 to 88
                  refine s_iinc dX2_choice_88 (v := e8) rfl (by omega) (by decide) (lv' := [some (2, ((327682 : Nat) : Int)), some (2, ((o : Nat) : Int)), some (2, ((A : Nat) : Int)), some (2, ((B : Nat) : Int)), some (2, ((D : Nat) : Int)), some (0, m8), some (0, rr7), some (0, e8 + 1)]) rfl ?_
                  refine s_goto (tgt := 51) dX2_choice_91 (by decide) ?_
                  exact ih8 m8 (e8 + 1) G8 hCG8 hXG8 hFG8 (⟨(by omega), (by exact iy8), (by exact hTHG8), (by exact hnG8), (by exact hTXG8), (by exact hFAG8), (by exact hFfG8)⟩) (by omega)
                · -- 69 to 72
                  refine s_aload_n dX2_choice_72 rfl (Int.natCast_nonneg _) ?_
                  refine s_iload dX2_choice_73 rfl ?_
                  refine s_aload_n dX2_choice_75 rfl (Int.natCast_nonneg _) ?_
                  refine s_aload_n dX2_choice_76 rfl (Int.natCast_nonneg _) ?_
                  refine s_iload dX2_choice_77 rfl ?_
                  refine s_aload_n dX2_choice_79 rfl (Int.natCast_nonneg _) ?_
                  have hk15 : gK G8 (o) = (13, 0) := ((hXG8).k ((hXG6).k hko (by decide)) (by decide))
                  refine s_alv (o) (by simp) (fun (al16 : AL G8 o) => ?_)
                  have hv17 : gS G8 o 7 = ((o + 1 : Nat) : Int) := by have h9 : (gS G8 o 7) = (((o % 1048576) + 1 : Nat) : Int) := hCG8.1.v (j := 7) (by rw [cde_n (by omega) (by omega)]; omega : cde o = 100) al16 (by rw [hk15]; exact Nat.le_of_ble_eq_true rfl); omega
                  refine s_getf (ci := 5) (k := 7) (C := RX4) (T := TX4) (N := 14) (n := o) (L := 0) (t := 2) dX2_choice_80 rfl wi_72 m_592 (Nat.le_of_ble_eq_true rfl) rfl rfl hk15 hv17 ?_
                  have hk20 : gK G8 (327682) = (11, 0) := ((hXG8).k ((hXG6).k k327682 (by decide)) (by decide))
                  refine s_callV (as := [(0, e8), (2, ((A : Nat) : Int)), (2, ((B : Nat) : Int)), (0, rr7), (2, ((o + 1 : Nat) : Int))]) (rest := []) (n := 327682) (ci := 3) gX2_choiceValue dX2_choice_83 m_1336 m_923 m_1652 m_716 m_268 ⟨by decide, by decide, show (parseMethodDescriptor yX2_choiceValue.desc).map (fun d => d.parameters.length) = some 5 from by decide +kernel⟩ (Nat.le_of_ble_eq_true rfl) (by rw [hcf]; exact Nat.le_of_ble_eq_true rfl) hk20 rfl rfl (Nat.le_of_ble_eq_true rfl) ⟨(PnC G8 v n), e8, A, B, rr7, o + 1, a, b, rfl, hCG8, hab, (by omega), (by assumption), (by assumption), (by assumption), (by omega), (by exact hFAG8), (by exact hFfG8), (by exact iy8), fun rr19 G18 hCG18 hXG18 hfG18 hpG18 => ?_⟩
                  have hFG18 : WX (fun x => x = 327683 ∨ x = 327687 ∨ x = 327688 ∨ x = 327691 ∨ x = 327692 ∨ (o + 2 ≤ x ∧ x ≤ o + 23)) G G18 := WX.trans hFG8 (KX.trans hXG6 hXG8) (WX.mono hfG18 rg1)
                  have hS_G18 : ThC G18 Hs ∧ TxC G8 G18 := hTHG8.wx hCG8 hXG18 hfG18 (hfn.kx (KX.trans hXG6 hXG8)) rg2.1 rg2.2
                  have hTHG18 : ThC G18 Hs := hS_G18.1
                  have hnG18 : (n : Int) < nN G18 := by rw [hS_G18.2.1.1]; exact hnG8
                  have hTXG18 : TxC G G18 := hTXG8.trans hS_G18.2
                  have hFAG18 : FPa (PnC G18 v n) G18 A := ((hFAG8).ns hXG18 hfG18 ⟨KX.al (KX.trans hXG6 hXG8) (kne kA3 (by decide)), KX.al (KX.trans hXG6 hXG8) (kne kA4 (by decide))⟩ rg3).mono (fun x hx => hS_G18.2.pn hTHG8.2.2.2.1 hnG8 hx)
                  have hFfG18 : FPa (PnC G18 v n) G18 (o + 1) := (hpG18.1).mono (fun x hx => hS_G18.2.pn hTHG8.2.2.2.1 hnG8 hx)
                  show WP kX2_choice X 86 [some (2, ((327682 : Nat) : Int)), some (2, ((o : Nat) : Int)), some (2, ((A : Nat) : Int)), some (2, ((B : Nat) : Int)), some (2, ((D : Nat) : Int)), some (0, m8), some (0, rr7), some (0, e8)] [(0, rr19)] G18
                  refine s_istore dX2_choice_86 (by decide) (lv' := [some (2, ((327682 : Nat) : Int)), some (2, ((o : Nat) : Int)), some (2, ((A : Nat) : Int)), some (2, ((B : Nat) : Int)), some (2, ((D : Nat) : Int)), some (0, rr19), some (0, rr7), some (0, e8)]) rfl ?_
                  refine s_iinc dX2_choice_88 (v := e8) rfl (by omega) (by decide) (lv' := [some (2, ((327682 : Nat) : Int)), some (2, ((o : Nat) : Int)), some (2, ((A : Nat) : Int)), some (2, ((B : Nat) : Int)), some (2, ((D : Nat) : Int)), some (0, rr19), some (0, rr7), some (0, e8 + 1)]) rfl ?_
                  refine s_goto (tgt := 51) dX2_choice_91 (by decide) ?_
                  exact ih8 rr19 (e8 + 1) G18 hCG18 (KX.trans hXG8 hXG18) hFG18 (⟨(by omega), (by intro k hk hb; rw [hpG18.2 k hk]; exact iy8 k hk hb), (by exact hTHG18), (by exact hnG18), (by exact hTXG18), (by exact hFAG18), (by exact hFfG18)⟩) (by omega)
        exact L8 _ m4 0 G6 hCG6 KX.rf hFG6 (⟨(by omega), (by exact hpG6.2.2.2), (by exact hTHG6), (by exact hnG6), (by exact hTXG6), (by exact hFAG6), (by exact hFfG6)⟩) (Nat.lt_succ_self _)
      · -- 33 to 36
        refine s_iload dX2_choice_36 rfl ?_
        exact s_iret hR dX2_choice_38 rfl (hQ m4 G hC KX.rf WX.rf ⟨hTH, hTX, hFf⟩)
    refine s_if_ne (tgt := 31) dX2_choice_21 (by decide) (fun c21 => ?_) (fun c21 => ?_)
    · -- 21 to 31
      exact K4 m3 (trivial)
    · -- 21 to 24
      refine s_aload_n dX2_choice_24 rfl (Int.natCast_nonneg _) ?_
      refine s_aload_n dX2_choice_25 rfl (Int.natCast_nonneg _) ?_
      refine s_callS2 (as := [(2, ((A : Nat) : Int)), (2, ((B : Nat) : Int))]) (rest := []) gX2_checkHoles dX2_choice_26 m_1334 m_1792 m_716 m_263 ⟨by decide, by decide, show (parseMethodDescriptor yX2_checkHoles.desc).map (fun d => d.parameters.length) = some 2 from by decide +kernel⟩ (Nat.le_of_ble_eq_true rfl) (by rw [hcf]; exact Nat.le_of_ble_eq_true rfl) rfl (Nat.le_of_ble_eq_true rfl) ⟨A, B, a, b, rfl, hC, hab, (by first | assumption | omega), (by first | assumption | omega), fun rr22 hp23 => ?_⟩
      show WP kX2_choice X 29 [some (2, ((327682 : Nat) : Int)), some (2, ((o : Nat) : Int)), some (2, ((A : Nat) : Int)), some (2, ((B : Nat) : Int)), some (2, ((D : Nat) : Int)), some (0, m3), none, none] [(0, rr22)] G
      refine s_istore dX2_choice_29 (by decide) (lv' := [some (2, ((327682 : Nat) : Int)), some (2, ((o : Nat) : Int)), some (2, ((A : Nat) : Int)), some (2, ((B : Nat) : Int)), some (2, ((D : Nat) : Int)), some (0, rr22), none, none]) rfl ?_
      exact K4 rr22 (trivial)
  refine s_if_ne (tgt := 19) dX2_choice_9 (by decide) (fun c24 => ?_) (fun c24 => ?_)
  · -- 9 to 19
    exact K3 rr1 (trivial)
  · -- 9 to 12
    refine s_aload_n dX2_choice_12 rfl (Int.natCast_nonneg _) ?_
    refine s_aload_n dX2_choice_13 rfl (Int.natCast_nonneg _) ?_
    refine s_callS2 (as := [(2, ((A : Nat) : Int)), (2, ((B : Nat) : Int))]) (rest := []) gX2_checkNames dX2_choice_14 m_1333 m_1793 m_716 m_264 ⟨by decide, by decide, show (parseMethodDescriptor yX2_checkNames.desc).map (fun d => d.parameters.length) = some 2 from by decide +kernel⟩ (Nat.le_of_ble_eq_true rfl) (by rw [hcf]; exact Nat.le_of_ble_eq_true rfl) rfl (Nat.le_of_ble_eq_true rfl) ⟨A, B, a, b, rfl, hC, hab, (by first | assumption | omega), (by first | assumption | omega), fun rr25 hp26 => ?_⟩
    show WP kX2_choice X 17 [some (2, ((327682 : Nat) : Int)), some (2, ((o : Nat) : Int)), some (2, ((A : Nat) : Int)), some (2, ((B : Nat) : Int)), some (2, ((D : Nat) : Int)), some (0, rr1), none, none] [(0, rr25)] G
    refine s_istore dX2_choice_17 (by decide) (lv' := [some (2, ((327682 : Nat) : Int)), some (2, ((o : Nat) : Int)), some (2, ((A : Nat) : Int)), some (2, ((B : Nat) : Int)), some (2, ((D : Nat) : Int)), some (0, rr25), none, none]) rfl ?_
    exact K3 rr25 (trivial)
