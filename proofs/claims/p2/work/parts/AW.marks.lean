abbrev kX2_markNeeded : KD := (RX2, cX2_markNeeded, 5, none, [])
def TX2_markNeeded : TR := fun as G Qr => ∃ (o n : Nat) (Hs : List (Int → Int)) (a b : Nat), as = [(2, ((327682 : Nat) : Int)), (2, ((o : Nat) : Int))] ∧ CI a b G ∧ (a ≤ 2840000 ∧ b ≤ 590000) ∧ (o = 65536 + 64 * n) ∧ ((n : Int) < nN G) ∧ (ThC G Hs) ∧ ∀ (G' : LG), CI a b G' → KX G G' → WX (fun x => 65536 ≤ x ∧ x < 68096 ∧ x % 64 = 0) G G' → (ThC G' Hs ∧ TxC G G' ∧ NX13 G G' ∧ ClN G G' (-1) ∧ ¬ nd13 G' n = 0) → Qr (.inl none) G'
set_option maxHeartbeats 4000000 in
set_option maxRecDepth 100000 in
theorem gX2_markNeeded : Good kX2_markNeeded yX2_markNeeded 9 TX2_markNeeded := by
  refine good_of (by decide) rfl rfl (fun as G Qr h => ?_) (fun X as G Qr hcf hR hT oa => ?_)
  · obtain ⟨o, n, Hs, a, b, rfl, -⟩ := h; exact Nat.le_of_ble_eq_true rfl
  obtain ⟨o, n, Hs, a, b, rfl, hC, hab, ho9, hn, hTH, hQ⟩ := hT
  show WP kX2_markNeeded X 0 [some (2, ((327682 : Nat) : Int)), some (2, ((o : Nat) : Int)), none, none, none] [] G
  refine s_alvl 327682 (k := 0) rfl (fun (alZ : AL G 327682) => ?_)
  refine s_lk (fun hlk => ?_)
  have hfn := hlk.fna hC alZ
  obtain ⟨k327682, k327681, k327683, k262144, k262208, k327684, k68097, k327691, k327692, k262145, k262146, k262148, k262149, k262209, k262210, k262212, k262213, k327710, k327685, k327688⟩ := id hfn
  obtain ⟨hn40, hko, pa, hpa, hpm, hpc, hkp, hpt, hu6, hr4⟩ := hC.nd ho9 hn
  have ho : isNd o := by omega
  have hND := hTH.2.2.2.1
  have hsl : slC G n ↔ (gS G o 1 = 3 ∨ ¬ gS G o 5 = 0) := by unfold slC nkC ngC; rw [ho9]
  have hnk : nkC G n = gS G o 1 := by unfold nkC; rw [ho9]
  have hnn : nnC G n = gS G o 3 := by unfold nnC; rw [ho9]
  have hnt : ntC G n = gS G o 4 := by unfold ntC; rw [ho9]
  have hng : ngC G n = gS G o 5 := by unfold ngC; rw [ho9]
  replace hsl : HID _ := hsl
  replace hu6 : HID _ := hu6
  replace hr4 : HID _ := hr4
  have h40 := hTH.2.2.2.1.1
  have hnum : gS G o 0 = (n : Int) := by have h9 : gS G o 0 = (((o % 1048576 - 65536) / 64 : Nat) : Int) := hC.1.v (c := 100) (j := 0) (by rw [cde_n (by omega) (by omega)]; omega) (kne hko (by decide)) (by rw [hko]; exact Nat.le_of_ble_eq_true rfl); omega
  have hTX : TxC G G := TxC.rf
  have hNX : NX13 G G := NX13.rf
  refine s_iconst dX2_markNeeded_0 (by decide) ?_
  refine s_istore_n dX2_markNeeded_1 (by decide) (lv' := [some (2, ((327682 : Nat) : Int)), some (2, ((o : Nat) : Int)), some (0, 0), none, none]) rfl ?_
  have L1 : ∀ (n1 : Nat) (i1 : Int) (G1 : LG), CI a b G1 → KX G G1 → WX (fun x => 65536 ≤ x ∧ x < 68096 ∧ x % 64 = 0) G G1 → ((0 ≤ i1 ∧ i1 ≤ nN G) ∧ (∀ m : Nat, (m : Int) < i1 → nd13 G1 m = 0) ∧ (ThC G1 Hs) ∧ ((n : Int) < nN G1) ∧ (TxC G G1) ∧ (NX13 G G1)) → (nN G - i1).toNat < n1 → WP kX2_markNeeded X 2 [some (2, ((327682 : Nat) : Int)), some (2, ((o : Nat) : Int)), some (0, i1), none, none] [] G1 := by
    intro n1
    induction n1 with
    | zero => intro i1 G1 hCG1 hXG1 hFG1 hi1 hm1; exact absurd hm1 (Nat.not_lt_zero _)
    | succ n1 ih1 =>
      intro i1 G1 hCG1 hXG1 hFG1 hi1 hm1
      obtain ⟨ii1, iz1, hTHG1, hnG1, hTXG1, hNXG1⟩ := hi1
      refine s_iload_n dX2_markNeeded_2 rfl ?_
      have hnn9G1 : nN G1 = nN G := by unfold nN; rw [hFG1 327685 (kne k327685 (by decide)) (by show ¬ _; omega)]
      refine s_aload_n dX2_markNeeded_3 rfl (Int.natCast_nonneg _) ?_
      have hk2 : gK G1 (327682) = (11, 0) := ((hXG1).k k327682 (by decide))
      refine s_alv (327682) (by simp) (fun (al3 : AL G1 327682) => ?_)
      have hv4 : gS G1 327682 0 = ((327681 : Nat) : Int) := by have h9 : (gS G1 327682 0) = 327681 := hCG1.1.v (j := 0) (by decide : cde 327682 = 502) al3 (by rw [hk2]; exact Nat.le_of_ble_eq_true rfl); omega
      refine s_getf (ci := 3) (k := 0) (C := RX2) (T := TX2) (N := 8) (n := 327682) (L := 0) (t := 2) dX2_markNeeded_4 rfl wi_70 m_584 (Nat.le_of_ble_eq_true rfl) rfl rfl hk2 hv4 ?_
      have hk5 : gK G1 (327681) = (14, 0) := ((hXG1).k k327681 (by decide))
      refine s_alv (327681) (by simp) (fun (al6 : AL G1 327681) => ?_)
      have hv7 : gS G1 327681 16 = ((327685 : Nat) : Int) := by have h9 : (gS G1 327681 16) = 327685 := hCG1.1.v (j := 16) (by decide : cde 327681 = 501) al6 (by rw [hk5]; exact Nat.le_of_ble_eq_true rfl); omega
      refine s_getf (ci := 6) (k := 16) (C := RX5) (T := TX5) (N := 18) (n := 327681) (L := 0) (t := 2) dX2_markNeeded_7 rfl wi_73 m_587 (Nat.le_of_ble_eq_true rfl) rfl rfl hk5 hv7 ?_
      have hk10 : gK G1 (327685) = (8, 0) := ((hXG1).k k327685 (by decide))
      refine s_callV (as := []) (rest := [(0, i1)]) (n := 327685) (ci := 0) gJx4a65c_size_8abf5 dX2_markNeeded_10 m_1345 m_732 m_1468 m_707 m_59 ⟨by decide, by decide, show (parseMethodDescriptor yJx4a65c_size_8abf5.desc).map (fun d => d.parameters.length) = some 0 from by decide +kernel⟩ (Nat.le_of_ble_eq_true rfl) (by rw [hcf]; exact Nat.le_of_ble_eq_true rfl) hk10 rfl rfl (Nat.le_of_ble_eq_true rfl) ⟨a, b, rfl, hCG1, hab, fun rr8 hp9 => ?_⟩
      show WP kX2_markNeeded X 13 [some (2, ((327682 : Nat) : Int)), some (2, ((o : Nat) : Int)), some (0, i1), none, none] [(0, rr8), (0, i1)] G1
      refine s_icmp_ge (tgt := 40) dX2_markNeeded_13 (by decide) (fun c11 => ?_) (fun c11 => ?_)
      · -- 13 to 40
        refine s_aload_n dX2_markNeeded_40 rfl (Int.natCast_nonneg _) ?_
        refine s_iconst dX2_markNeeded_41 (by decide) ?_
        have hk12 : gK G1 (o) = (13, 0) := ((hXG1).k hko (by decide))
        refine s_putf (ci := 5) (k := 13) (C := RX4) (T := TX4) (N := 14) (n := o) (L := 0) dX2_markNeeded_42 rfl wi_72 m_588 (Nat.le_of_ble_eq_true rfl) rfl rfl tyX4_ok nmX4 rfl (Or.inr (Or.inl ⟨rfl, (by omega)⟩)) hk12 ?_
        generalize eG13r : gset G1 o 13 1 = G13
        have eG13 := eG13r.symm
        have hCG13 : CI a b G13 := by rw [eG13]; exact hCG1.node (by rw [cde_n (by omega) (by omega)]; omega) (by decide) (show (0 : Int) ≤ 1 ∧ (1 : Int) ≤ 1 by decide)
        have hXG13 : KX G1 G13 := KX.set KX.rf eG13
        have hFG13 : WX (fun x => 65536 ≤ x ∧ x < 68096 ∧ x % 64 = 0) G G13 := WX.set hFG1 eG13 (by show _; omega)
        have hfG13 : WX (fun x => x = o % 1048576) G1 G13 := WX.set WX.rf eG13 rfl
        have hS_G13 : ThC G13 Hs ∧ TxC G1 G13 := hTHG1.nx hCG1 hXG13 hfG13 (hfn.kx hXG1) (by refine ⟨?_, ?_, ?_, ?_, ?_, ?_⟩ <;> (show ¬ _; omega)) (NoC.set eG13 (by decide))
        have hTHG13 : ThC G13 Hs := hS_G13.1
        have hnG13 : (n : Int) < nN G13 := by rw [hS_G13.2.1.1]; exact hnG1
        have hTXG13 : TxC G G13 := hTXG1.trans hS_G13.2
        have hNXG13 : NX13 G G13 := hNXG1.set eG13
        show WP kX2_markNeeded X 45 [some (2, ((327682 : Nat) : Int)), some (2, ((o : Nat) : Int)), some (0, i1), none, none] [] G13
        have hnn9G13 : nN G13 = nN G := by unfold nN; rw [hFG13 327685 (kne k327685 (by decide)) (by show ¬ _; omega)]
        have hnu9 : gS G13 o 0 = (n : Int) := by rw [← hnum, ho9]; exact hNXG13 n 0 hn (by decide)
        have hcl9 : ClN G G13 n := fun m h1 h2 h3 => by exfalso; apply h3; show gS G13 _ _ = 0; rw [gset_o eG13 (by omega)]; exact iz1 m (by omega)
        have hne9 : ¬ nd13 G13 n = 0 := by show ¬ gS G13 _ _ = 0; rw [← ho9, show gS G13 o 13 = 1 from gsaE eG13]; decide
        refine s_aload_n dX2_markNeeded_45 rfl (Int.natCast_nonneg _) ?_
        have hk14 : gK G13 (o) = (13, 0) := ((hXG13).k hk12 (by decide))
        refine s_alv (o) (by simp) (fun (al16 : AL G13 o) => ?_)
        have hv15 : (gS G13 o 0) = ((((o % 1048576) - 65536) / 64 : Nat) : Int) := hCG13.1.v (j := 0) (by rw [cde_n (by omega) (by omega)]; omega : cde o = 100) al16 (by rw [hk14]; exact Nat.le_of_ble_eq_true rfl)
        refine s_getf (ci := 5) (k := 0) (C := RX4) (T := TX4) (N := 14) (n := o) (L := 0) (t := 0) dX2_markNeeded_46 rfl wi_72 m_586 (Nat.le_of_ble_eq_true rfl) rfl rfl hk14 rfl ?_
        refine s_aload_n dX2_markNeeded_49 rfl (Int.natCast_nonneg _) ?_
        have hk17 : gK G13 (327682) = (11, 0) := ((hXG13).k hk2 (by decide))
        refine s_alv (327682) (by simp) (fun (al18 : AL G13 327682) => ?_)
        have hv19 : gS G13 327682 0 = ((327681 : Nat) : Int) := by have h9 : (gS G13 327682 0) = 327681 := hCG13.1.v (j := 0) (by decide : cde 327682 = 502) al18 (by rw [hk17]; exact Nat.le_of_ble_eq_true rfl); omega
        refine s_getf (ci := 3) (k := 0) (C := RX2) (T := TX2) (N := 8) (n := 327682) (L := 0) (t := 2) dX2_markNeeded_50 rfl wi_70 m_584 (Nat.le_of_ble_eq_true rfl) rfl rfl hk17 hv19 ?_
        have hk20 : gK G13 (327681) = (14, 0) := ((hXG13).k hk5 (by decide))
        refine s_alv (327681) (by simp) (fun (al21 : AL G13 327681) => ?_)
        have hv22 : gS G13 327681 16 = ((327685 : Nat) : Int) := by have h9 : (gS G13 327681 16) = 327685 := hCG13.1.v (j := 16) (by decide : cde 327681 = 501) al21 (by rw [hk20]; exact Nat.le_of_ble_eq_true rfl); omega
        refine s_getf (ci := 6) (k := 16) (C := RX5) (T := TX5) (N := 18) (n := 327681) (L := 0) (t := 2) dX2_markNeeded_53 rfl wi_73 m_587 (Nat.le_of_ble_eq_true rfl) rfl rfl hk20 hv22 ?_
        have hk25 : gK G13 (327685) = (8, 0) := ((hXG13).k hk10 (by decide))
        refine s_callV (as := []) (rest := [(0, gS G13 o 0)]) (n := 327685) (ci := 0) gJx4a65c_size_8abf5 dX2_markNeeded_56 m_1345 m_732 m_1468 m_707 m_59 ⟨by decide, by decide, show (parseMethodDescriptor yJx4a65c_size_8abf5.desc).map (fun d => d.parameters.length) = some 0 from by decide +kernel⟩ (Nat.le_of_ble_eq_true rfl) (by rw [hcf]; exact Nat.le_of_ble_eq_true rfl) hk25 rfl rfl (Nat.le_of_ble_eq_true rfl) ⟨a, b, rfl, hCG13, hab, fun rr23 hp24 => ?_⟩
        show WP kX2_markNeeded X 59 [some (2, ((327682 : Nat) : Int)), some (2, ((o : Nat) : Int)), some (0, i1), none, none] [(0, rr23), (0, gS G13 o 0)] G13
        refine s_iconst dX2_markNeeded_59 (by decide) ?_
        refine s_isub dX2_markNeeded_60 (by omega) ?_
        refine s_mmin dX2_markNeeded_61 m_1296 (by rw [hcf]; exact Nat.le_of_ble_eq_true rfl) (Nat.le_of_ble_eq_true rfl) ?_
        obtain ⟨z26, hz26⟩ : ∃ z : Int, z = (if (rr23 - 1) < (gS G13 o 0) then rr23 - 1 else gS G13 o 0) := ⟨_, rfl⟩
        rw [← hz26]
        have hz26a : ((rr23 - 1) < (gS G13 o 0) ∧ z26 = rr23 - 1) ∨ (¬ (rr23 - 1) < (gS G13 o 0) ∧ z26 = gS G13 o 0) := by rw [hz26]; by_cases q : (rr23 - 1) < (gS G13 o 0); exact Or.inl ⟨q, if_pos q⟩; exact Or.inr ⟨q, if_neg q⟩
        refine s_istore_n dX2_markNeeded_64 (by decide) (lv' := [some (2, ((327682 : Nat) : Int)), some (2, ((o : Nat) : Int)), some (0, z26), none, none]) rfl ?_
        have L27 : ∀ (n27 : Nat) (i27 : Int) (G27 : LG), CI a b G27 → KX G13 G27 → WX (fun x => 65536 ≤ x ∧ x < 68096 ∧ x % 64 = 0) G G27 → ((-1 ≤ i27 ∧ i27 < nN G) ∧ (ClN G G27 i27) ∧ (¬ nd13 G27 n = 0) ∧ (ThC G27 Hs) ∧ ((n : Int) < nN G27) ∧ (TxC G G27) ∧ (NX13 G G27)) → (i27 + 1).toNat < n27 → WP kX2_markNeeded X 65 [some (2, ((327682 : Nat) : Int)), some (2, ((o : Nat) : Int)), some (0, i27), none, none] [] G27 := by
          intro n27
          induction n27 with
          | zero => intro i27 G27 hCG27 hXG27 hFG27 hi27 hm27; exact absurd hm27 (Nat.not_lt_zero _)
          | succ n27 ih27 =>
            intro i27 G27 hCG27 hXG27 hFG27 hi27 hm27
            obtain ⟨ii27, ic27, io27, hTHG27, hnG27, hTXG27, hNXG27⟩ := hi27
            refine s_iload_n dX2_markNeeded_65 rfl ?_
            have hnn9G27 : nN G27 = nN G := by unfold nN; rw [hFG27 327685 (kne k327685 (by decide)) (by show ¬ _; omega)]
            refine s_if_lt (tgt := 127) dX2_markNeeded_66 (by decide) (fun c28 => ?_) (fun c28 => ?_)
            · -- 66 to 127
              exact s_vret hR dX2_markNeeded_127 rfl (hQ G27 hCG27 (KX.trans (KX.trans hXG1 hXG13) hXG27) hFG27 ⟨hTHG27, hTXG27, hNXG27, (by have h9 := ic27; rw [show i27 = -1 by omega] at h9; exact h9), io27⟩)
            · -- 66 to 69
              refine s_aload_n dX2_markNeeded_69 rfl (Int.natCast_nonneg _) ?_
              have hk29 : gK G27 (327682) = (11, 0) := ((hXG27).k hk17 (by decide))
              refine s_alv (327682) (by simp) (fun (al30 : AL G27 327682) => ?_)
              have hv31 : gS G27 327682 0 = ((327681 : Nat) : Int) := by have h9 : (gS G27 327682 0) = 327681 := hCG27.1.v (j := 0) (by decide : cde 327682 = 502) al30 (by rw [hk29]; exact Nat.le_of_ble_eq_true rfl); omega
              refine s_getf (ci := 3) (k := 0) (C := RX2) (T := TX2) (N := 8) (n := 327682) (L := 0) (t := 2) dX2_markNeeded_70 rfl wi_70 m_584 (Nat.le_of_ble_eq_true rfl) rfl rfl hk29 hv31 ?_
              have hk32 : gK G27 (327681) = (14, 0) := ((hXG27).k hk20 (by decide))
              refine s_alv (327681) (by simp) (fun (al33 : AL G27 327681) => ?_)
              have hv34 : gS G27 327681 16 = ((327685 : Nat) : Int) := by have h9 : (gS G27 327681 16) = 327685 := hCG27.1.v (j := 16) (by decide : cde 327681 = 501) al33 (by rw [hk32]; exact Nat.le_of_ble_eq_true rfl); omega
              refine s_getf (ci := 6) (k := 16) (C := RX5) (T := TX5) (N := 18) (n := 327681) (L := 0) (t := 2) dX2_markNeeded_73 rfl wi_73 m_587 (Nat.le_of_ble_eq_true rfl) rfl rfl hk32 hv34 ?_
              refine s_iload_n dX2_markNeeded_76 rfl ?_
              have hk37 : gK G27 (327685) = (8, 0) := ((hXG27).k hk25 (by decide))
              refine s_callV (as := [(0, i27)]) (rest := []) (n := 327685) (ci := 0) gJx4a65c_get_915e3 dX2_markNeeded_77 m_1346 m_728 m_1465 m_707 m_55 ⟨by decide, by decide, show (parseMethodDescriptor yJx4a65c_get_915e3.desc).map (fun d => d.parameters.length) = some 1 from by decide +kernel⟩ (Nat.le_of_ble_eq_true rfl) (by rw [hcf]; exact Nat.le_of_ble_eq_true rfl) hk37 rfl rfl (Nat.le_of_ble_eq_true rfl) ⟨i27, a, b, rfl, hCG27, hab, (by first | assumption | omega), fun rr35 hp36 => ?_⟩
              show WP kX2_markNeeded X 80 [some (2, ((327682 : Nat) : Int)), some (2, ((o : Nat) : Int)), some (0, i27), none, none] [(2, ((rr35 : Nat) : Int))] G27
              refine s_alv (rr35) (by simp) (fun (al38 : AL G27 rr35) => ?_)
              have hk39 : gK G27 (rr35) = (13, 0) := hCG27.1.k (by rw [cde_n (by omega) (by omega)]; omega : cde rr35 = 100) al38
              refine s_castN (nm := "") dX2_markNeeded_80 m_27 hk39 ?_
              refine s_astore_n (Int.natCast_nonneg _) dX2_markNeeded_83 (by decide) (lv' := [some (2, ((327682 : Nat) : Int)), some (2, ((o : Nat) : Int)), some (0, i27), some (2, ((rr35 : Nat) : Int)), none]) rfl ?_
              refine s_iconst dX2_markNeeded_84 (by decide) ?_
              refine s_istore dX2_markNeeded_85 (by decide) (lv' := [some (2, ((327682 : Nat) : Int)), some (2, ((o : Nat) : Int)), some (0, i27), some (2, ((rr35 : Nat) : Int)), some (0, 0)]) rfl ?_
              have L40 : ∀ (n40 : Nat) (k40 : Int) (G40 : LG), CI a b G40 → KX G27 G40 → WX (fun x => 65536 ≤ x ∧ x < 68096 ∧ x % 64 = 0) G G40 → ((0 ≤ k40 ∧ k40 ≤ 3) ∧ (ClN G G40 i27) ∧ (¬ nd13 G40 n = 0) ∧ (∀ k : Nat, (k : Int) < k40 → k < npt (nkC G (i27 : Int).toNat) → ¬ nd13 G40 (ptC G (i27 : Int).toNat k) = 0) ∧ (ThC G40 Hs) ∧ ((n : Int) < nN G40) ∧ (TxC G G40) ∧ (NX13 G G40)) → (3 - k40).toNat < n40 → WP kX2_markNeeded X 87 [some (2, ((327682 : Nat) : Int)), some (2, ((o : Nat) : Int)), some (0, i27), some (2, ((rr35 : Nat) : Int)), some (0, k40)] [] G40 := by
                intro n40
                induction n40 with
                | zero => intro k40 G40 hCG40 hXG40 hFG40 hi40 hm40; exact absurd hm40 (Nat.not_lt_zero _)
                | succ n40 ih40 =>
                  intro k40 G40 hCG40 hXG40 hFG40 hi40 hm40
                  obtain ⟨ik040, ic40, io40, ik40, hTHG40, hnG40, hTXG40, hNXG40⟩ := hi40
                  refine s_iload dX2_markNeeded_87 rfl ?_
                  have hnn8 : nN G40 = nN G := by unfold nN; rw [hFG40 327685 (kne k327685 (by decide)) (by show ¬ _; omega)]
                  have hro : rr35 = 65536 + 64 * (i27 : Int).toNat := by omega
                  obtain ⟨hq40, hko9, pa, hpa, hpm, hpc, hkp, hpt, hu6, hr4⟩ := hCG40.nd hro (by omega)
                  clear hu6 hr4
                  have hnle := npt_le (gS G40 rr35 1)
                  have hnkr : npt (gS G40 rr35 1) = npt (nkC G (i27 : Int).toNat) := by have h9 := (hTXG40.1.2 (i27 : Int).toNat (by omega)).1; unfold nkC at h9 ⊢; rw [hro, h9]
                  have hptr : ∀ k, k < npt (nkC G (i27 : Int).toNat) → ptC G40 (i27 : Int).toNat k = ptC G (i27 : Int).toNat k := (hTXG40.1.2 (i27 : Int).toNat (by omega)).2.2.2.2.2
                  refine s_aload_n dX2_markNeeded_89 rfl (Int.natCast_nonneg _) ?_
                  have hk41 : gK G40 (rr35) = (13, 0) := ((hXG40).k hk39 (by decide))
                  refine s_alv (rr35) (by simp) (fun (al42 : AL G40 rr35) => ?_)
                  refine s_getf (ci := 5) (k := 2) (C := RX4) (T := TX4) (N := 14) (n := rr35) (L := 0) (t := 2) dX2_markNeeded_90 rfl wi_72 m_567 (Nat.le_of_ble_eq_true rfl) rfl rfl hk41 hpa ?_
                  refine s_alen dX2_markNeeded_93 hkp (by decide) (by omega) ?_
                  refine s_icmp_ge (tgt := 121) dX2_markNeeded_94 (by decide) (fun c44 => ?_) (fun c44 => ?_)
                  · -- 94 to 121
                    refine s_iinc dX2_markNeeded_121 (v := i27) rfl (by omega) (by decide) (lv' := [some (2, ((327682 : Nat) : Int)), some (2, ((o : Nat) : Int)), some (0, i27 + (-1)), some (2, ((rr35 : Nat) : Int)), some (0, k40)]) rfl ?_
                    refine s_goto (tgt := 65) dX2_markNeeded_124 (by decide) ?_
                    refine s_mask [true, true, true, false, false] (lv' := [some (2, ((327682 : Nat) : Int)), some (2, ((o : Nat) : Int)), some (0, i27 + (-1)), none, none]) rfl ?_
                    exact ih27 (i27 + (-1)) G40 hCG40 (KX.trans hXG27 hXG40) hFG40 (⟨(by omega), (by refine ic40.next (fun m hm h1 k hk => ?_); have em : m = (i27 : Int).toNat := (by omega); subst em; first | (exact ik40 k (by omega) hk) | (exfalso; apply h1; show gS G40 _ _ = 0; rw [← hro]; assumption) | (exfalso; omega)), (by exact io40), (by exact hTHG40), (by exact hnG40), (by exact hTXG40), (by exact hNXG40)⟩) (by omega)
                  · -- 94 to 97
                    refine s_aload_n dX2_markNeeded_97 rfl (Int.natCast_nonneg _) ?_
                    have hv45 : 0 ≤ (gS G40 rr35 13) ∧ (gS G40 rr35 13) ≤ 1 := hCG40.1.v (j := 13) (by rw [cde_n (by omega) (by omega)]; omega : cde rr35 = 100) al42 (by rw [hk41]; exact Nat.le_of_ble_eq_true rfl)
                    refine s_getf (ci := 5) (k := 13) (C := RX4) (T := TX4) (N := 14) (n := rr35) (L := 0) (t := 0) dX2_markNeeded_98 rfl wi_72 m_588 (Nat.le_of_ble_eq_true rfl) rfl rfl hk41 rfl ?_
                    refine s_if_eq (tgt := 121) dX2_markNeeded_101 (by decide) (fun c46 => ?_) (fun c46 => ?_)
                    · -- 101 to 121
                      refine s_iinc dX2_markNeeded_121 (v := i27) rfl (by omega) (by decide) (lv' := [some (2, ((327682 : Nat) : Int)), some (2, ((o : Nat) : Int)), some (0, i27 + (-1)), some (2, ((rr35 : Nat) : Int)), some (0, k40)]) rfl ?_
                      refine s_goto (tgt := 65) dX2_markNeeded_124 (by decide) ?_
                      refine s_mask [true, true, true, false, false] (lv' := [some (2, ((327682 : Nat) : Int)), some (2, ((o : Nat) : Int)), some (0, i27 + (-1)), none, none]) rfl ?_
                      exact ih27 (i27 + (-1)) G40 hCG40 (KX.trans hXG27 hXG40) hFG40 (⟨(by omega), (by refine ic40.next (fun m hm h1 k hk => ?_); have em : m = (i27 : Int).toNat := (by omega); subst em; first | (exact ik40 k (by omega) hk) | (exfalso; apply h1; show gS G40 _ _ = 0; rw [← hro]; assumption) | (exfalso; omega)), (by exact io40), (by exact hTHG40), (by exact hnG40), (by exact hTXG40), (by exact hNXG40)⟩) (by omega)
                    · -- 101 to 104
                      refine s_aload_n dX2_markNeeded_104 rfl (Int.natCast_nonneg _) ?_
                      refine s_getf (ci := 5) (k := 2) (C := RX4) (T := TX4) (N := 14) (n := rr35) (L := 0) (t := 2) dX2_markNeeded_105 rfl wi_72 m_567 (Nat.le_of_ble_eq_true rfl) rfl rfl hk41 hpa ?_
                      refine s_iload dX2_markNeeded_108 rfl ?_
                      have hv49b : (gS G40 pa (k40 : Int).toNat) = -1 ∨ (65536 ≤ (gS G40 pa (k40 : Int).toNat) ∧ (gS G40 pa (k40 : Int).toNat) ≤ 68032 ∧ (gS G40 pa (k40 : Int).toNat) % 64 = 0) := hCG40.1.v (j := (k40 : Int).toNat) (by unfold cde; rw [if_pos (by omega), if_pos (by omega)] : cde pa = 63) (kne hkp (by decide)) (by rw [hkp]; show (k40 : Int).toNat < npt (gS G40 rr35 1); omega)
                      have hpz := hpt (k40 : Int).toNat (by omega)
                      obtain ⟨q48, hv49⟩ : ∃ q : Nat, gS G40 pa (k40 : Int).toNat = (q : Int) := ⟨(gS G40 pa (k40 : Int).toNat).toNat, by omega⟩
                      rw [hv49] at hv49b
                      refine s_aald6 dX2_markNeeded_110 hkp (by omega) (by omega) hv49 ?_
                      refine s_iconst dX2_markNeeded_111 (by decide) ?_
                      refine s_alv (q48) (by simp) (fun (al50 : AL G40 q48) => ?_)
                      have hk51 : gK G40 (q48) = (13, 0) := hCG40.1.k (by rw [cde_n (by omega) (by omega)]; omega : cde q48 = 100) al50
                      refine s_putf (ci := 5) (k := 13) (C := RX4) (T := TX4) (N := 14) (n := q48) (L := 0) dX2_markNeeded_112 rfl wi_72 m_588 (Nat.le_of_ble_eq_true rfl) rfl rfl tyX4_ok nmX4 rfl (Or.inr (Or.inl ⟨rfl, (by omega)⟩)) hk51 ?_
                      generalize eG52r : gset G40 q48 13 1 = G52
                      have eG52 := eG52r.symm
                      have hCG52 : CI a b G52 := by rw [eG52]; exact hCG40.node (by rw [cde_n (by omega) (by omega)]; omega) (by decide) (show (0 : Int) ≤ 1 ∧ (1 : Int) ≤ 1 by decide)
                      have hXG52 : KX G40 G52 := KX.set KX.rf eG52
                      have hFG52 : WX (fun x => 65536 ≤ x ∧ x < 68096 ∧ x % 64 = 0) G G52 := WX.set hFG40 eG52 (by show _; omega)
                      have hfG52 : WX (fun x => x = q48 % 1048576) G40 G52 := WX.set WX.rf eG52 rfl
                      have hS_G52 : ThC G52 Hs ∧ TxC G40 G52 := hTHG40.nx hCG40 hXG52 hfG52 (hfn.kx (KX.trans (KX.trans (KX.trans hXG1 hXG13) hXG27) hXG40)) (by refine ⟨?_, ?_, ?_, ?_, ?_, ?_⟩ <;> (show ¬ _; omega)) (NoC.set eG52 (by decide))
                      have hTHG52 : ThC G52 Hs := hS_G52.1
                      have hnG52 : (n : Int) < nN G52 := by rw [hS_G52.2.1.1]; exact hnG40
                      have hTXG52 : TxC G G52 := hTXG40.trans hS_G52.2
                      have hNXG52 : NX13 G G52 := hNXG40.set eG52
                      show WP kX2_markNeeded X 115 [some (2, ((327682 : Nat) : Int)), some (2, ((o : Nat) : Int)), some (0, i27), some (2, ((rr35 : Nat) : Int)), some (0, k40)] [] G52
                      refine s_iinc dX2_markNeeded_115 (v := k40) rfl (by omega) (by decide) (lv' := [some (2, ((327682 : Nat) : Int)), some (2, ((o : Nat) : Int)), some (0, i27), some (2, ((rr35 : Nat) : Int)), some (0, k40 + 1)]) rfl ?_
                      refine s_goto (tgt := 87) dX2_markNeeded_118 (by decide) ?_
                      exact ih40 (k40 + 1) G52 hCG52 (KX.trans hXG40 hXG52) hFG52 (⟨(by omega), (by exact ic40.set (p := ptC G (i27 : Int).toNat (k40 : Int).toNat) (by rw [eG52, show q48 = 65536 + 64 * ptC G (i27 : Int).toNat (k40 : Int).toNat by have h9 := hpt (k40 : Int).toNat (by omega); have h8 := hptr (k40 : Int).toNat (by omega); omega]) (by have h9 := hpt (k40 : Int).toNat (by omega); have h8 := hptr (k40 : Int).toNat (by omega); omega)), (by show ¬ gS G52 _ _ = 0; by_cases w : 65536 + 64 * n = q48; (focus (rw [w, show gS G52 q48 13 = 1 from gsaE eG52]; decide)); (focus (rw [gset_o eG52 w]; exact io40))), (by intro k hk hk2; by_cases e : (k : Int) = k40; (focus (show ¬ gS G52 _ _ = 0; rw [show 65536 + 64 * ptC G (i27 : Int).toNat k = q48 by have h9 := hpt k (by omega); have h8 := hptr k (by omega); rw [show (k : Nat) = (k40 : Int).toNat by omega] at h9 h8 ⊢; omega]; rw [show gS G52 q48 13 = 1 from gsaE eG52]; decide)); (focus (have h7 := ik40 k (by omega) hk2; show ¬ gS G52 _ _ = 0; by_cases w : 65536 + 64 * ptC G (i27 : Int).toNat k = q48; (focus (rw [w, show gS G52 q48 13 = 1 from gsaE eG52]; decide)); (focus (rw [gset_o eG52 w]; exact h7))))), (by exact hTHG52), (by exact hnG52), (by exact hTXG52), (by exact hNXG52)⟩) (by omega)
              exact L40 _ 0 G27 hCG27 KX.rf hFG27 (⟨(by omega), (by exact ic27), (by exact io27), (by intro k hk; omega), (by exact hTHG27), (by exact hnG27), (by exact hTXG27), (by exact hNXG27)⟩) (Nat.lt_succ_self _)
        exact L27 _ z26 G13 hCG13 KX.rf hFG13 (⟨(by omega), (by intro m h1 h2; exact hcl9 m (by omega) h2), (by exact hne9), (by exact hTHG13), (by exact hnG13), (by exact hTXG13), (by exact hNXG13)⟩) (Nat.lt_succ_self _)
      · -- 13 to 16
        refine s_aload_n dX2_markNeeded_16 rfl (Int.natCast_nonneg _) ?_
        have hv53 : gS G1 327682 0 = ((327681 : Nat) : Int) := by have h9 : (gS G1 327682 0) = 327681 := hCG1.1.v (j := 0) (by decide : cde 327682 = 502) al3 (by rw [hk2]; exact Nat.le_of_ble_eq_true rfl); omega
        refine s_getf (ci := 3) (k := 0) (C := RX2) (T := TX2) (N := 8) (n := 327682) (L := 0) (t := 2) dX2_markNeeded_17 rfl wi_70 m_584 (Nat.le_of_ble_eq_true rfl) rfl rfl hk2 hv53 ?_
        have hv54 : gS G1 327681 16 = ((327685 : Nat) : Int) := by have h9 : (gS G1 327681 16) = 327685 := hCG1.1.v (j := 16) (by decide : cde 327681 = 501) al6 (by rw [hk5]; exact Nat.le_of_ble_eq_true rfl); omega
        refine s_getf (ci := 6) (k := 16) (C := RX5) (T := TX5) (N := 18) (n := 327681) (L := 0) (t := 2) dX2_markNeeded_20 rfl wi_73 m_587 (Nat.le_of_ble_eq_true rfl) rfl rfl hk5 hv54 ?_
        refine s_iload_n dX2_markNeeded_23 rfl ?_
        refine s_callV (as := [(0, i1)]) (rest := []) (n := 327685) (ci := 0) gJx4a65c_get_915e3 dX2_markNeeded_24 m_1346 m_728 m_1465 m_707 m_55 ⟨by decide, by decide, show (parseMethodDescriptor yJx4a65c_get_915e3.desc).map (fun d => d.parameters.length) = some 1 from by decide +kernel⟩ (Nat.le_of_ble_eq_true rfl) (by rw [hcf]; exact Nat.le_of_ble_eq_true rfl) hk10 rfl rfl (Nat.le_of_ble_eq_true rfl) ⟨i1, a, b, rfl, hCG1, hab, (by first | assumption | omega), fun rr55 hp56 => ?_⟩
        show WP kX2_markNeeded X 27 [some (2, ((327682 : Nat) : Int)), some (2, ((o : Nat) : Int)), some (0, i1), none, none] [(2, ((rr55 : Nat) : Int))] G1
        refine s_alv (rr55) (by simp) (fun (al57 : AL G1 rr55) => ?_)
        have hk58 : gK G1 (rr55) = (13, 0) := hCG1.1.k (by rw [cde_n (by omega) (by omega)]; omega : cde rr55 = 100) al57
        refine s_castN (nm := "") dX2_markNeeded_27 m_27 hk58 ?_
        refine s_iconst dX2_markNeeded_30 (by decide) ?_
        refine s_putf (ci := 5) (k := 13) (C := RX4) (T := TX4) (N := 14) (n := rr55) (L := 0) dX2_markNeeded_31 rfl wi_72 m_588 (Nat.le_of_ble_eq_true rfl) rfl rfl tyX4_ok nmX4 rfl (Or.inr (Or.inl ⟨rfl, (by omega)⟩)) hk58 ?_
        generalize eG59r : gset G1 rr55 13 0 = G59
        have eG59 := eG59r.symm
        have hCG59 : CI a b G59 := by rw [eG59]; exact hCG1.node (by rw [cde_n (by omega) (by omega)]; omega) (by decide) (show (0 : Int) ≤ 0 ∧ (0 : Int) ≤ 1 by decide)
        have hXG59 : KX G1 G59 := KX.set KX.rf eG59
        have hFG59 : WX (fun x => 65536 ≤ x ∧ x < 68096 ∧ x % 64 = 0) G G59 := WX.set hFG1 eG59 (by show _; omega)
        have hfG59 : WX (fun x => x = rr55 % 1048576) G1 G59 := WX.set WX.rf eG59 rfl
        have hS_G59 : ThC G59 Hs ∧ TxC G1 G59 := hTHG1.nx hCG1 hXG59 hfG59 (hfn.kx hXG1) (by refine ⟨?_, ?_, ?_, ?_, ?_, ?_⟩ <;> (show ¬ _; omega)) (NoC.set eG59 (by decide))
        have hTHG59 : ThC G59 Hs := hS_G59.1
        have hnG59 : (n : Int) < nN G59 := by rw [hS_G59.2.1.1]; exact hnG1
        have hTXG59 : TxC G G59 := hTXG1.trans hS_G59.2
        have hNXG59 : NX13 G G59 := hNXG1.set eG59
        show WP kX2_markNeeded X 34 [some (2, ((327682 : Nat) : Int)), some (2, ((o : Nat) : Int)), some (0, i1), none, none] [] G59
        refine s_iinc dX2_markNeeded_34 (v := i1) rfl (by omega) (by decide) (lv' := [some (2, ((327682 : Nat) : Int)), some (2, ((o : Nat) : Int)), some (0, i1 + 1), none, none]) rfl ?_
        refine s_goto (tgt := 2) dX2_markNeeded_37 (by decide) ?_
        exact ih1 (i1 + 1) G59 hCG59 (KX.trans hXG1 hXG59) hFG59 (⟨(by omega), (by intro m hm; by_cases e : (m : Int) = i1; (focus (show gS G59 _ _ = 0; rw [show 65536 + 64 * m = rr55 by omega]; exact gsaE eG59)); (focus (show gS G59 _ _ = 0; rw [gset_o eG59 (by omega)]; exact iz1 m (by omega)))), (by exact hTHG59), (by exact hnG59), (by exact hTXG59), (by exact hNXG59)⟩) (by omega)
  exact L1 _ 0 G hC KX.rf WX.rf (⟨(by omega), (by intro m hm; omega), (by exact hTH), (by exact hn), (by exact hTX), (by exact hNX)⟩) (Nat.lt_succ_self _)
