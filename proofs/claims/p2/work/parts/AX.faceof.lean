abbrev kX2_faceOf : KD := (RX2, cX2_faceOf, 4, (some (.object "MixinUnits$Face")), [])
def TX2_faceOf : TR := fun as G Qr => ∃ (o n : Nat) (Hs : List (Int → Int)) (v : Int → Int) (a b : Nat), as = [(2, ((327682 : Nat) : Int)), (2, ((o : Nat) : Int))] ∧ CI a b G ∧ (a ≤ 2840000 ∧ b ≤ 590000) ∧ (o = 65536 + 64 * n) ∧ ((n : Int) < nN G) ∧ (ThC G Hs) ∧ (v ∈ Hs) ∧ (v = curC G) ∧ (FdC G) ∧ ∀ (r : Nat) (G' : LG), CI a b G' → KX G G' → WX (fun x => x = 327683 ∨ x = 327687 ∨ x = 327688 ∨ x = 327684 ∨ (327689 ≤ x ∧ x ≤ 327692) ∨ (262144 ≤ x ∧ x < 262272) ∨ (65536 ≤ x ∧ x < 68160)) G G' → (ThC G' Hs ∧ TxC G G' ∧ FdC G' ∧ NoC G G' ∧ r = o + 1) → Qr (.inl (some (2, (r : Int)))) G'
set_option maxHeartbeats 4000000 in
set_option maxRecDepth 100000 in
theorem gX2_faceOf : Good kX2_faceOf yX2_faceOf 60 TX2_faceOf := by
  refine good_of (by decide) rfl rfl (fun as G Qr h => ?_) (fun X as G Qr hcf hR hT oa => ?_)
  · obtain ⟨o, n, Hs, v, a, b, rfl, -⟩ := h; exact Nat.le_of_ble_eq_true rfl
  obtain ⟨o, n, Hs, v, a, b, rfl, hC, hab, ho9, hn, hTH, hv, hvc, hFd0, hQ⟩ := hT
  show WP kX2_faceOf X 0 [some (2, ((327682 : Nat) : Int)), some (2, ((o : Nat) : Int)), none, none] [] G
  refine s_alvl 327682 (k := 0) rfl (fun (alZ : AL G 327682) => ?_)
  refine s_lk (fun hlk => ?_)
  have hfn := hlk.fna hC alZ
  obtain ⟨k327682, k327681, k327683, k262144, k262208, k327684, k68097, k327691, k327692, k262145, k262146, k262148, k262149, k262209, k262210, k262212, k262213, k327710, k327685, k327688⟩ := id hfn
  obtain ⟨hn40, hko, -⟩ := hC.nd ho9 hn
  have ho : isNd o := by omega
  have hND := hTH.2.2.2.1
  have h40 := hTH.2.2.2.1.1
  have hnum : gS G o 0 = (n : Int) := by have h9 : gS G o 0 = (((o % 1048576 - 65536) / 64 : Nat) : Int) := hC.1.v (c := 100) (j := 0) (by rw [cde_n (by omega) (by omega)]; omega) (kne hko (by decide)) (by rw [hko]; exact Nat.le_of_ble_eq_true rfl); omega
  have rg0 : RM (fun x => 65536 ≤ x ∧ x < 68096 ∧ x % 64 = 0) (fun x => x = 327683 ∨ x = 327687 ∨ x = 327688 ∨ x = 327684 ∨ (327689 ≤ x ∧ x ≤ 327692) ∨ (262144 ≤ x ∧ x < 262272) ∨ (65536 ≤ x ∧ x < 68160)) := fun x hx => by (try dsimp only at hx ⊢); omega
  have rg1 : RM (fun x => x = 327683 ∨ x = 327687 ∨ x = 327688) (fun x => x = 327683 ∨ x = 327687 ∨ x = 327688 ∨ x = 327684 ∨ (327689 ≤ x ∧ x ≤ 327692) ∨ (262144 ≤ x ∧ x < 262272) ∨ (65536 ≤ x ∧ x < 68160)) := fun x hx => by (try dsimp only at hx ⊢); omega
  have hTX : TxC G G := TxC.rf
  have hNo : NoC G G := NoC.rf
  have hE : gS G 327681 17 = gS G 327681 17 := rfl
  have hFd : FdE G v (gS G 327681 17) (-1) := by have h9 := hFd0; unfold FdC at h9; rw [← hvc] at h9; exact h9
  refine s_aload_n dX2_faceOf_0 rfl (Int.natCast_nonneg _) ?_
  refine s_aload_n dX2_faceOf_1 rfl (Int.natCast_nonneg _) ?_
  refine s_callV (as := [(2, ((o : Nat) : Int))]) (rest := []) (n := 327682) (ci := 3) gX2_markNeeded dX2_faceOf_2 m_1344 m_932 m_1660 m_716 m_279 ⟨by decide, by decide, show (parseMethodDescriptor yX2_markNeeded.desc).map (fun d => d.parameters.length) = some 1 from by decide +kernel⟩ (Nat.le_of_ble_eq_true rfl) (by rw [hcf]; exact Nat.le_of_ble_eq_true rfl) k327682 rfl rfl (Nat.le_of_ble_eq_true rfl) ⟨o, n, Hs, a, b, rfl, hC, hab, (by assumption), (by assumption), (by assumption), fun G1 hCG1 hXG1 hfG1 hpG1 => ?_⟩
  have hFG1 : WX (fun x => x = 327683 ∨ x = 327687 ∨ x = 327688 ∨ x = 327684 ∨ (327689 ≤ x ∧ x ≤ 327692) ∨ (262144 ≤ x ∧ x < 262272) ∨ (65536 ≤ x ∧ x < 68160)) G G1 := WX.trans WX.rf KX.rf (WX.mono hfG1 rg0)
  have hS_G1 : ThC G1 Hs ∧ TxC G G1 := ⟨hpG1.1, hpG1.2.1⟩
  have hTHG1 : ThC G1 Hs := hS_G1.1
  have hnG1 : (n : Int) < nN G1 := by rw [hS_G1.2.1.1]; exact hn
  have hTXG1 : TxC G G1 := hTX.trans hS_G1.2
  have hNoG1 : NoC G G1 := hpG1.2.2.1.no
  have hEG1 : gS G1 327681 17 = gS G 327681 17 := (congrFun (hfG1 327681 (KX.al KX.rf (kne k327681 (by decide))) (by show ¬ _; omega)) 17).trans hE
  have hFdG1 : FdE G1 v (gS G 327681 17) (-1) := FdE.wx hFd hXG1 hfG1 hS_G1.2 hTH.2.2.2.1 (fun m hm hne => ⟨hpG1.2.2.1 m 10 hm (by decide), hpG1.2.2.1 m 11 hm (by decide)⟩) (fun m hm hne j h3 h22 => by show ¬ _; omega)
  have h13G1 : ∀ m : Nat, (m : Int) < nN G → nd13 G1 m = nd13 G1 m := fun m hm => rfl
  show WP kX2_faceOf X 5 [some (2, ((327682 : Nat) : Int)), some (2, ((o : Nat) : Int)), none, none] [] G1
  have hcl := hpG1.2.2.2.1
  refine s_iconst dX2_faceOf_5 (by decide) ?_
  refine s_istore_n dX2_faceOf_6 (by decide) (lv' := [some (2, ((327682 : Nat) : Int)), some (2, ((o : Nat) : Int)), some (0, 0), none]) rfl ?_
  have L3 : ∀ (n3 : Nat) (i3 : Int) (G3 : LG), CI a b G3 → KX G1 G3 → WX (fun x => x = 327683 ∨ x = 327687 ∨ x = 327688 ∨ x = 327684 ∨ (327689 ≤ x ∧ x ≤ 327692) ∨ (262144 ≤ x ∧ x < 262272) ∨ (65536 ≤ x ∧ x < 68160)) G G3 → ((0 ≤ i3 ∧ i3 ≤ nN G) ∧ (∀ m : Nat, (m : Int) < i3 → ¬ nd13 G1 m = 0 → nd11 G3 m = gS G 327681 17) ∧ (ThC G3 Hs) ∧ ((n : Int) < nN G3) ∧ (TxC G G3) ∧ (NoC G G3) ∧ (gS G3 327681 17 = gS G 327681 17) ∧ (FdE G3 v (gS G 327681 17) (-1)) ∧ (∀ m : Nat, (m : Int) < nN G → nd13 G3 m = nd13 G1 m)) → (nN G - i3).toNat < n3 → WP kX2_faceOf X 7 [some (2, ((327682 : Nat) : Int)), some (2, ((o : Nat) : Int)), some (0, i3), none] [] G3 := by
    intro n3
    induction n3 with
    | zero => intro i3 G3 hCG3 hXG3 hFG3 hi3 hm3; exact absurd hm3 (Nat.not_lt_zero _)
    | succ n3 ih3 =>
      intro i3 G3 hCG3 hXG3 hFG3 hi3 hm3
      obtain ⟨ii3, ifd3, hTHG3, hnG3, hTXG3, hNoG3, hEG3, hFdG3, h13G3⟩ := hi3
      refine s_iload_n dX2_faceOf_7 rfl ?_
      have hnn7G3 : nN G3 = nN G := hTXG3.1.1
      have hnu9 : gS G3 o 0 = (n : Int) := by rw [← hnum, ho9]; exact hNoG3 n hn 0 (by decide)
      refine s_aload_n dX2_faceOf_8 rfl (Int.natCast_nonneg _) ?_
      have hk4 : gK G3 (o) = (13, 0) := ((hXG3).k ((hXG1).k hko (by decide)) (by decide))
      refine s_alv (o) (by simp) (fun (al6 : AL G3 o) => ?_)
      have hv5 : (gS G3 o 0) = ((((o % 1048576) - 65536) / 64 : Nat) : Int) := hCG3.1.v (j := 0) (by rw [cde_n (by omega) (by omega)]; omega : cde o = 100) al6 (by rw [hk4]; exact Nat.le_of_ble_eq_true rfl)
      refine s_getf (ci := 5) (k := 0) (C := RX4) (T := TX4) (N := 14) (n := o) (L := 0) (t := 0) dX2_faceOf_9 rfl wi_72 m_586 (Nat.le_of_ble_eq_true rfl) rfl rfl hk4 rfl ?_
      refine s_icmp_gt (tgt := 110) dX2_faceOf_12 (by decide) (fun c7 => ?_) (fun c7 => ?_)
      · -- 12 to 110
        refine s_aload_n dX2_faceOf_110 rfl (Int.natCast_nonneg _) ?_
        have hv8 : gS G3 o 7 = ((o + 1 : Nat) : Int) := by have h9 : (gS G3 o 7) = (((o % 1048576) + 1 : Nat) : Int) := hCG3.1.v (j := 7) (by rw [cde_n (by omega) (by omega)]; omega : cde o = 100) al6 (by rw [hk4]; exact Nat.le_of_ble_eq_true rfl); omega
        refine s_getf (ci := 5) (k := 7) (C := RX4) (T := TX4) (N := 14) (n := o) (L := 0) (t := 2) dX2_faceOf_111 rfl wi_72 m_592 (Nat.le_of_ble_eq_true rfl) rfl rfl hk4 hv8 ?_
        exact s_aret hR dX2_faceOf_114 rfl (by first | exact Or.inl ⟨_, rfl⟩ | exact Or.inr ⟨_, rfl⟩) (hQ (o + 1) G3 hCG3 (KX.trans hXG1 hXG3) hFG3 ⟨hTHG3, hTXG3, (by unfold FdC; rw [hTXG3.2.2, ← hvc, hEG3]; exact hFdG3), hNoG3, rfl⟩)
      · -- 12 to 15
        refine s_iload_n dX2_faceOf_15 rfl ?_
        refine s_aload_n dX2_faceOf_16 rfl (Int.natCast_nonneg _) ?_
        have hk9 : gK G3 (327682) = (11, 0) := ((hXG3).k ((hXG1).k k327682 (by decide)) (by decide))
        refine s_alv (327682) (by simp) (fun (al10 : AL G3 327682) => ?_)
        have hv11 : gS G3 327682 0 = ((327681 : Nat) : Int) := by have h9 : (gS G3 327682 0) = 327681 := hCG3.1.v (j := 0) (by decide : cde 327682 = 502) al10 (by rw [hk9]; exact Nat.le_of_ble_eq_true rfl); omega
        refine s_getf (ci := 3) (k := 0) (C := RX2) (T := TX2) (N := 8) (n := 327682) (L := 0) (t := 2) dX2_faceOf_17 rfl wi_70 m_584 (Nat.le_of_ble_eq_true rfl) rfl rfl hk9 hv11 ?_
        have hk12 : gK G3 (327681) = (14, 0) := ((hXG3).k ((hXG1).k k327681 (by decide)) (by decide))
        refine s_alv (327681) (by simp) (fun (al13 : AL G3 327681) => ?_)
        have hv14 : gS G3 327681 16 = ((327685 : Nat) : Int) := by have h9 : (gS G3 327681 16) = 327685 := hCG3.1.v (j := 16) (by decide : cde 327681 = 501) al13 (by rw [hk12]; exact Nat.le_of_ble_eq_true rfl); omega
        refine s_getf (ci := 6) (k := 16) (C := RX5) (T := TX5) (N := 18) (n := 327681) (L := 0) (t := 2) dX2_faceOf_20 rfl wi_73 m_587 (Nat.le_of_ble_eq_true rfl) rfl rfl hk12 hv14 ?_
        have hk17 : gK G3 (327685) = (8, 0) := ((hXG3).k ((hXG1).k k327685 (by decide)) (by decide))
        refine s_callV (as := []) (rest := [(0, i3)]) (n := 327685) (ci := 0) gJx4a65c_size_8abf5 dX2_faceOf_23 m_1345 m_732 m_1468 m_707 m_59 ⟨by decide, by decide, show (parseMethodDescriptor yJx4a65c_size_8abf5.desc).map (fun d => d.parameters.length) = some 0 from by decide +kernel⟩ (Nat.le_of_ble_eq_true rfl) (by rw [hcf]; exact Nat.le_of_ble_eq_true rfl) hk17 rfl rfl (Nat.le_of_ble_eq_true rfl) ⟨a, b, rfl, hCG3, hab, fun rr15 hp16 => ?_⟩
        show WP kX2_faceOf X 26 [some (2, ((327682 : Nat) : Int)), some (2, ((o : Nat) : Int)), some (0, i3), none] [(0, rr15), (0, i3)] G3
        refine s_icmp_ge (tgt := 110) dX2_faceOf_26 (by decide) (fun c18 => ?_) (fun c18 => ?_)
        · -- 26 to 110
          refine s_aload_n dX2_faceOf_110 rfl (Int.natCast_nonneg _) ?_
          have hv19 : gS G3 o 7 = ((o + 1 : Nat) : Int) := by have h9 : (gS G3 o 7) = (((o % 1048576) + 1 : Nat) : Int) := hCG3.1.v (j := 7) (by rw [cde_n (by omega) (by omega)]; omega : cde o = 100) al6 (by rw [hk4]; exact Nat.le_of_ble_eq_true rfl); omega
          refine s_getf (ci := 5) (k := 7) (C := RX4) (T := TX4) (N := 14) (n := o) (L := 0) (t := 2) dX2_faceOf_111 rfl wi_72 m_592 (Nat.le_of_ble_eq_true rfl) rfl rfl hk4 hv19 ?_
          exact s_aret hR dX2_faceOf_114 rfl (by first | exact Or.inl ⟨_, rfl⟩ | exact Or.inr ⟨_, rfl⟩) (hQ (o + 1) G3 hCG3 (KX.trans hXG1 hXG3) hFG3 ⟨hTHG3, hTXG3, (by unfold FdC; rw [hTXG3.2.2, ← hvc, hEG3]; exact hFdG3), hNoG3, rfl⟩)
        · -- 26 to 29
          refine s_aload_n dX2_faceOf_29 rfl (Int.natCast_nonneg _) ?_
          have hv20 : gS G3 327682 0 = ((327681 : Nat) : Int) := by have h9 : (gS G3 327682 0) = 327681 := hCG3.1.v (j := 0) (by decide : cde 327682 = 502) al10 (by rw [hk9]; exact Nat.le_of_ble_eq_true rfl); omega
          refine s_getf (ci := 3) (k := 0) (C := RX2) (T := TX2) (N := 8) (n := 327682) (L := 0) (t := 2) dX2_faceOf_30 rfl wi_70 m_584 (Nat.le_of_ble_eq_true rfl) rfl rfl hk9 hv20 ?_
          have hv21 : gS G3 327681 16 = ((327685 : Nat) : Int) := by have h9 : (gS G3 327681 16) = 327685 := hCG3.1.v (j := 16) (by decide : cde 327681 = 501) al13 (by rw [hk12]; exact Nat.le_of_ble_eq_true rfl); omega
          refine s_getf (ci := 6) (k := 16) (C := RX5) (T := TX5) (N := 18) (n := 327681) (L := 0) (t := 2) dX2_faceOf_33 rfl wi_73 m_587 (Nat.le_of_ble_eq_true rfl) rfl rfl hk12 hv21 ?_
          refine s_iload_n dX2_faceOf_36 rfl ?_
          refine s_callV (as := [(0, i3)]) (rest := []) (n := 327685) (ci := 0) gJx4a65c_get_915e3 dX2_faceOf_37 m_1346 m_728 m_1465 m_707 m_55 ⟨by decide, by decide, show (parseMethodDescriptor yJx4a65c_get_915e3.desc).map (fun d => d.parameters.length) = some 1 from by decide +kernel⟩ (Nat.le_of_ble_eq_true rfl) (by rw [hcf]; exact Nat.le_of_ble_eq_true rfl) hk17 rfl rfl (Nat.le_of_ble_eq_true rfl) ⟨i3, a, b, rfl, hCG3, hab, (by first | assumption | omega), fun rr22 hp23 => ?_⟩
          show WP kX2_faceOf X 40 [some (2, ((327682 : Nat) : Int)), some (2, ((o : Nat) : Int)), some (0, i3), none] [(2, ((rr22 : Nat) : Int))] G3
          refine s_alv (rr22) (by simp) (fun (al24 : AL G3 rr22) => ?_)
          have hk25 : gK G3 (rr22) = (13, 0) := hCG3.1.k (by rw [cde_n (by omega) (by omega)]; omega : cde rr22 = 100) al24
          refine s_castN (nm := "") dX2_faceOf_40 m_27 hk25 ?_
          refine s_astore_n (Int.natCast_nonneg _) dX2_faceOf_43 (by decide) (lv' := [some (2, ((327682 : Nat) : Int)), some (2, ((o : Nat) : Int)), some (0, i3), some (2, ((rr22 : Nat) : Int))]) rfl ?_
          have hnn7G3 : nN G3 = nN G := hTXG3.1.1
          refine s_aload_n dX2_faceOf_44 rfl (Int.natCast_nonneg _) ?_
          have hv26 : 0 ≤ (gS G3 rr22 13) ∧ (gS G3 rr22 13) ≤ 1 := hCG3.1.v (j := 13) (by rw [cde_n (by omega) (by omega)]; omega : cde rr22 = 100) al24 (by rw [hk25]; exact Nat.le_of_ble_eq_true rfl)
          refine s_getf (ci := 5) (k := 13) (C := RX4) (T := TX4) (N := 14) (n := rr22) (L := 0) (t := 0) dX2_faceOf_45 rfl wi_72 m_588 (Nat.le_of_ble_eq_true rfl) rfl rfl hk25 rfl ?_
          refine s_if_eq (tgt := 104) dX2_faceOf_48 (by decide) (fun c27 => ?_) (fun c27 => ?_)
          · -- 48 to 104
            refine s_iinc dX2_faceOf_104 (v := i3) rfl (by omega) (by decide) (lv' := [some (2, ((327682 : Nat) : Int)), some (2, ((o : Nat) : Int)), some (0, i3 + 1), some (2, ((rr22 : Nat) : Int))]) rfl ?_
            refine s_goto (tgt := 7) dX2_faceOf_107 (by decide) ?_
            refine s_mask [true, true, true, false] (lv' := [some (2, ((327682 : Nat) : Int)), some (2, ((o : Nat) : Int)), some (0, i3 + 1), none]) rfl ?_
            exact ih3 (i3 + 1) G3 hCG3 hXG3 hFG3 (⟨(by omega), (by intro m hm h1; by_cases em : (m : Int) = i3; (focus (show gS G3 _ _ = _; first | (exfalso; apply h1; rw [← h13G3 m (by omega)]; show gS G3 _ _ = 0; rw [show 65536 + 64 * m = rr22 by omega]; omega) | (rw [show 65536 + 64 * m = rr22 by omega]; omega))); exact ifd3 m (by omega) h1), (by exact hTHG3), (by exact hnG3), (by exact hTXG3), (by exact hNoG3), (by exact hEG3), (by exact hFdG3), (by exact h13G3)⟩) (by omega)
          · -- 48 to 51
            refine s_aload_n dX2_faceOf_51 rfl (Int.natCast_nonneg _) ?_
            refine s_getf (ci := 5) (k := 11) (C := RX4) (T := TX4) (N := 14) (n := rr22) (L := 0) (t := 0) dX2_faceOf_52 rfl wi_72 m_589 (Nat.le_of_ble_eq_true rfl) rfl rfl hk25 rfl ?_
            refine s_aload_n dX2_faceOf_55 rfl (Int.natCast_nonneg _) ?_
            have hv29 : gS G3 327682 0 = ((327681 : Nat) : Int) := by have h9 : (gS G3 327682 0) = 327681 := hCG3.1.v (j := 0) (by decide : cde 327682 = 502) al10 (by rw [hk9]; exact Nat.le_of_ble_eq_true rfl); omega
            refine s_getf (ci := 3) (k := 0) (C := RX2) (T := TX2) (N := 8) (n := 327682) (L := 0) (t := 2) dX2_faceOf_56 rfl wi_70 m_584 (Nat.le_of_ble_eq_true rfl) rfl rfl hk9 hv29 ?_
            refine s_getf (ci := 6) (k := 17) (C := RX5) (T := TX5) (N := 18) (n := 327681) (L := 0) (t := 0) dX2_faceOf_59 rfl wi_73 m_590 (Nat.le_of_ble_eq_true rfl) rfl rfl hk12 rfl ?_
            refine s_icmp_eq (tgt := 104) dX2_faceOf_62 (by decide) (fun c31 => ?_) (fun c31 => ?_)
            · -- 62 to 104
              refine s_iinc dX2_faceOf_104 (v := i3) rfl (by omega) (by decide) (lv' := [some (2, ((327682 : Nat) : Int)), some (2, ((o : Nat) : Int)), some (0, i3 + 1), some (2, ((rr22 : Nat) : Int))]) rfl ?_
              refine s_goto (tgt := 7) dX2_faceOf_107 (by decide) ?_
              refine s_mask [true, true, true, false] (lv' := [some (2, ((327682 : Nat) : Int)), some (2, ((o : Nat) : Int)), some (0, i3 + 1), none]) rfl ?_
              exact ih3 (i3 + 1) G3 hCG3 hXG3 hFG3 (⟨(by omega), (by intro m hm h1; by_cases em : (m : Int) = i3; (focus (show gS G3 _ _ = _; first | (exfalso; apply h1; rw [← h13G3 m (by omega)]; show gS G3 _ _ = 0; rw [show 65536 + 64 * m = rr22 by omega]; omega) | (rw [show 65536 + 64 * m = rr22 by omega]; omega))); exact ifd3 m (by omega) h1), (by exact hTHG3), (by exact hnG3), (by exact hTXG3), (by exact hNoG3), (by exact hEG3), (by exact hFdG3), (by exact h13G3)⟩) (by omega)
            · -- 62 to 65
              have hro : rr22 = 65536 + 64 * (i3 : Int).toNat := by omega
              have hnn8 : nN G3 = nN G := hTXG3.1.1
              have hnI : (((i3 : Int).toNat : Nat) : Int) < nN G3 := by omega
              obtain ⟨hq40, hko9, pa, hpa, hpm, hpc, hkp, hpt, hu6, hr4⟩ := hCG3.nd hro hnI
              clear hu6 hr4
              have hcu : curC G3 = v := by rw [hTXG3.2.2]; exact hvc.symm
              have hFiG3 : FdE G3 v (gS G 327681 17) i3 := hFdG3.out (by decide)
              have hpn : ∀ k, k < npt (nkC G3 (i3 : Int).toNat) → ptC G3 (i3 : Int).toNat k < (i3 : Int).toNat ∧ nd11 G3 (ptC G3 (i3 : Int).toNat k) = gS G 327681 17 := fun k hk => by
                  have hk0 : k < npt (nkC G (i3 : Int).toNat) := by rw [← (hTXG3.1.2 (i3 : Int).toNat (by omega)).1]; exact hk
                  have e9 : ptC G3 (i3 : Int).toNat k = ptC G (i3 : Int).toNat k := (hTXG3.1.2 (i3 : Int).toNat (by omega)).2.2.2.2.2 k hk0
                  have h8 : ptC G3 (i3 : Int).toNat k < (i3 : Int).toNat := (hpt k (by unfold nkC at hk; rw [← hro] at hk; exact hk)).2
                  refine ⟨h8, ?_⟩
                  refine ifd3 _ (by omega) ?_
                  rw [e9]
                  exact hcl (i3 : Int).toNat (by omega) (by omega) (by rw [← h13G3 (i3 : Int).toNat (by omega)]; show ¬ gS G3 _ _ = 0; rw [← hro]; omega) k hk0
              have hpw : ∀ k, k < npt (nkC G3 (i3 : Int).toNat) → WhC G3 v (ptC G3 (i3 : Int).toNat k) ∧ FPa (PnC G3 v (ptC G3 (i3 : Int).toNat k)) G3 (65536 + 64 * ptC G3 (i3 : Int).toNat k + 1) := fun k hk => by obtain ⟨h8, h7⟩ := hpn k hk; exact (hFdG3 _ (by omega)).2 (by omega) h7
              refine s_aload_n dX2_faceOf_65 rfl (Int.natCast_nonneg _) ?_
              refine s_aload_n dX2_faceOf_66 rfl (Int.natCast_nonneg _) ?_
              refine s_aload_n dX2_faceOf_67 rfl (Int.natCast_nonneg _) ?_
              refine s_callV (as := [(2, ((rr22 : Nat) : Int))]) (rest := [(2, ((rr22 : Nat) : Int))]) (n := 327682) (ci := 3) gX2_findWhat dX2_faceOf_68 m_1347 m_926 m_1655 m_716 m_271 ⟨by decide, by decide, show (parseMethodDescriptor yX2_findWhat.desc).map (fun d => d.parameters.length) = some 1 from by decide +kernel⟩ (Nat.le_of_ble_eq_true rfl) (by rw [hcf]; exact Nat.le_of_ble_eq_true rfl) hk9 rfl rfl (Nat.le_of_ble_eq_true rfl) ⟨rr22, (i3 : Int).toNat, Hs, a, b, rfl, hCG3, hab, (by exact hro), (by exact hnI), (by exact hTHG3), (by rw [hcu]; exact hv), (by intro z1 z2; rw [hcu]; exact (hpw 0 (npt_0 z2)).1), (by intro z1 z2; rw [hcu]; exact (hpw 1 (npt_1 (by omega))).1), fun rr33 G32 hCG32 hXG32 hfG32 hpG32 => ?_⟩
              have hFG32 : WX (fun x => x = 327683 ∨ x = 327687 ∨ x = 327688 ∨ x = 327684 ∨ (327689 ≤ x ∧ x ≤ 327692) ∨ (262144 ≤ x ∧ x < 262272) ∨ (65536 ≤ x ∧ x < 68160)) G G32 := WX.trans hFG3 (KX.trans hXG1 hXG3) (WX.mono hfG32 rg1)
              have hS_G32 : ThC G32 Hs ∧ TxC G3 G32 := ⟨hpG32.1, hpG32.2.1⟩
              have hTHG32 : ThC G32 Hs := hS_G32.1
              have hnG32 : (n : Int) < nN G32 := by rw [hS_G32.2.1.1]; exact hnG3
              have hTXG32 : TxC G G32 := hTXG3.trans hS_G32.2
              have hNoG32 : NoC G G32 := hNoG3.trans (NoC.wx hCG3 hfG32 (fun n9 h9 => by show ¬ _; omega)) hTXG3.1.1
              have hEG32 : gS G32 327681 17 = gS G 327681 17 := (congrFun (hfG32 327681 (KX.al (KX.trans hXG1 hXG3) (kne k327681 (by decide))) (by show ¬ _; omega)) 17).trans hEG3
              have hFiG32 : FdE G32 v (gS G 327681 17) i3 := FdE.wx hFiG3 hXG32 hfG32 hS_G32.2 hTHG3.2.2.2.1 (fun m hm hne => by have h9 := hfG32 (65536 + 64 * m) (kne (hCG3.nd (n := m) rfl hm).2.1 (by decide)) (by have h8 := hTHG3.2.2.2.1.1; show ¬ _; omega); exact ⟨congrFun h9 10, congrFun h9 11⟩) (fun m hm hne j h3 h22 => by show ¬ _; omega)
              have h13G32 : ∀ m : Nat, (m : Int) < nN G → nd13 G32 m = nd13 G1 m := fun m hm => (congrFun (hfG32 (65536 + 64 * m) (kne (hCG3.nd (n := m) rfl (by rw [hTXG3.1.1]; exact hm)).2.1 (by decide)) (by have h8 := hND.1; show ¬ _; omega)) 13).trans (h13G3 m hm)
              show WP kX2_faceOf X 71 [some (2, ((327682 : Nat) : Int)), some (2, ((o : Nat) : Int)), some (0, i3), some (2, ((rr22 : Nat) : Int))] [(0, rr33), (2, ((rr22 : Nat) : Int))] G32
              have hk34 : gK G32 (rr22) = (13, 0) := ((hXG32).k hk25 (by decide))
              refine s_putf (ci := 5) (k := 10) (C := RX4) (T := TX4) (N := 14) (n := rr22) (L := 0) dX2_faceOf_71 rfl wi_72 m_591 (Nat.le_of_ble_eq_true rfl) rfl rfl tyX4_ok nmX4 rfl (Or.inl rfl) hk34 ?_
              generalize eG35r : gset G32 rr22 10 rr33 = G35
              have eG35 := eG35r.symm
              have hCG35 : CI a b G35 := by rw [eG35]; exact hCG32.node (by rw [cde_n (by omega) (by omega)]; omega) (by decide) True.intro
              have hXG35 : KX G32 G35 := KX.set KX.rf eG35
              have hFG35 : WX (fun x => x = 327683 ∨ x = 327687 ∨ x = 327688 ∨ x = 327684 ∨ (327689 ≤ x ∧ x ≤ 327692) ∨ (262144 ≤ x ∧ x < 262272) ∨ (65536 ≤ x ∧ x < 68160)) G G35 := WX.set hFG32 eG35 (by show _; omega)
              have hfG35 : WX (fun x => x = rr22 % 1048576) G32 G35 := WX.set WX.rf eG35 rfl
              have hS_G35 : ThC G35 Hs ∧ TxC G32 G35 := hTHG32.nx hCG32 hXG35 hfG35 (hfn.kx (KX.trans (KX.trans hXG1 hXG3) hXG32)) (by refine ⟨?_, ?_, ?_, ?_, ?_, ?_⟩ <;> (show ¬ _; omega)) (NoC.set eG35 (by decide))
              have hTHG35 : ThC G35 Hs := hS_G35.1
              have hnG35 : (n : Int) < nN G35 := by rw [hS_G35.2.1.1]; exact hnG32
              have hTXG35 : TxC G G35 := hTXG32.trans hS_G35.2
              have hNoG35 : NoC G G35 := hNoG32.trans (NoC.set eG35 (by decide)) hTXG32.1.1
              have hEG35 : gS G35 327681 17 = gS G 327681 17 := (congrFun (hfG35 327681 (KX.al (KX.trans (KX.trans hXG1 hXG3) hXG32) (kne k327681 (by decide))) (by show ¬ _; omega)) 17).trans hEG32
              have hFiG35 : FdE G35 v (gS G 327681 17) i3 := FdE.wx hFiG32 hXG35 hfG35 hS_G35.2 hTHG32.2.2.2.1 (fun m hm hne => by have h9 := hfG35 (65536 + 64 * m) (kne (hCG32.nd (n := m) rfl hm).2.1 (by decide)) (by have h8 := hTHG32.2.2.2.1.1; show ¬ _; omega); exact ⟨congrFun h9 10, congrFun h9 11⟩) (fun m hm hne j h3 h22 => by show ¬ _; omega)
              have h13G35 : ∀ m : Nat, (m : Int) < nN G → nd13 G35 m = nd13 G1 m := fun m hm => (show gS G35 (65536 + 64 * m) 13 = gS G32 (65536 + 64 * m) 13 by rw [eG35]; exact gset_ne _ _ (fun q9 => by first | (exact absurd q9.2 (by decide)) | omega)).trans (h13G32 m hm)
              show WP kX2_faceOf X 74 [some (2, ((327682 : Nat) : Int)), some (2, ((o : Nat) : Int)), some (0, i3), some (2, ((rr22 : Nat) : Int))] [] G35
              have hidw : idC G32 v (i3 : Int).toNat rr33 := by have h9 := hpG32.2.2; rw [hcu] at h9; exact h9
              have hwhG35 : WhC G35 v (i3 : Int).toNat := by unfold WhC; rw [← hro, show gS G35 rr22 10 = rr33 from gsaE eG35]; exact (hS_G35.2.ag hTHG32.2.2.2.1).id (by rw [hTXG32.1.1]; omega) hidw
              refine s_aload_n dX2_faceOf_74 rfl (Int.natCast_nonneg _) ?_
              have hk36 : gK G35 (rr22) = (13, 0) := ((hXG35).k hk34 (by decide))
              refine s_alv (rr22) (by simp) (fun (al37 : AL G35 rr22) => ?_)
              have hv38 : gS G35 rr22 7 = ((rr22 + 1 : Nat) : Int) := by have h9 : (gS G35 rr22 7) = (((rr22 % 1048576) + 1 : Nat) : Int) := hCG35.1.v (j := 7) (by rw [cde_n (by omega) (by omega)]; omega : cde rr22 = 100) al37 (by rw [hk36]; exact Nat.le_of_ble_eq_true rfl); omega
              refine s_getf (ci := 5) (k := 7) (C := RX4) (T := TX4) (N := 14) (n := rr22) (L := 0) (t := 2) dX2_faceOf_75 rfl wi_72 m_592 (Nat.le_of_ble_eq_true rfl) rfl rfl hk36 hv38 ?_
              refine s_alv (rr22 + 1) (by simp) (fun (al41 : AL G35 (rr22 + 1)) => ?_)
              have hk42 : gK G35 (rr22 + 1) = (9, 0) := hCG35.1.k (by rw [cde_n (by omega) (by omega)]; omega : cde (rr22 + 1) = 101) al41
              refine s_callV (as := []) (rest := []) (n := rr22 + 1) (ci := 1) gX0_clear dX2_faceOf_78 m_1293 m_735 m_1469 m_711 m_62 ⟨by decide, by decide, show (parseMethodDescriptor yX0_clear.desc).map (fun d => d.parameters.length) = some 0 from by decide +kernel⟩ (Nat.le_of_ble_eq_true rfl) (by rw [hcf]; exact Nat.le_of_ble_eq_true rfl) hk42 rfl rfl (Nat.le_of_ble_eq_true rfl) ⟨rr22 + 1, a, b, rfl, hCG35, hab, (by first | assumption | omega), fun G39 hCG39 hXG39 hfG39 hpG39 => ?_⟩
              have hFG39 : WX (fun x => x = 327683 ∨ x = 327687 ∨ x = 327688 ∨ x = 327684 ∨ (327689 ≤ x ∧ x ≤ 327692) ∨ (262144 ≤ x ∧ x < 262272) ∨ (65536 ≤ x ∧ x < 68160)) G G39 := WX.trans hFG35 (KX.trans (KX.trans (KX.trans hXG1 hXG3) hXG32) hXG35) (WX.mono hfG39 (fun x hx => by omega))
              have hS_G39 : ThC G39 Hs ∧ TxC G35 G39 := hTHG35.wx hCG35 hXG39 hfG39 (hfn.kx (KX.trans (KX.trans (KX.trans hXG1 hXG3) hXG32) hXG35)) (by refine ⟨?_, ?_, ?_, ?_, ?_, ?_⟩ <;> (show ¬ _; omega)) (fun n9 h9 => by show ¬ _; omega)
              have hTHG39 : ThC G39 Hs := hS_G39.1
              have hnG39 : (n : Int) < nN G39 := by rw [hS_G39.2.1.1]; exact hnG35
              have hTXG39 : TxC G G39 := hTXG35.trans hS_G39.2
              have hNoG39 : NoC G G39 := hNoG35.trans (NoC.wx hCG35 hfG39 (fun n9 h9 => by show ¬ _; omega)) hTXG35.1.1
              have hEG39 : gS G39 327681 17 = gS G 327681 17 := (congrFun (hfG39 327681 (KX.al (KX.trans (KX.trans (KX.trans hXG1 hXG3) hXG32) hXG35) (kne k327681 (by decide))) (by show ¬ _; omega)) 17).trans hEG35
              have hFiG39 : FdE G39 v (gS G 327681 17) i3 := FdE.wx hFiG35 hXG39 hfG39 hS_G39.2 hTHG35.2.2.2.1 (fun m hm hne => by have h9 := hfG39 (65536 + 64 * m) (kne (hCG35.nd (n := m) rfl hm).2.1 (by decide)) (by have h8 := hTHG35.2.2.2.1.1; show ¬ _; omega); exact ⟨congrFun h9 10, congrFun h9 11⟩) (fun m hm hne j h3 h22 => by show ¬ _; omega)
              have h13G39 : ∀ m : Nat, (m : Int) < nN G → nd13 G39 m = nd13 G1 m := fun m hm => (congrFun (hfG39 (65536 + 64 * m) (kne (hCG35.nd (n := m) rfl (by rw [hTXG35.1.1]; exact hm)).2.1 (by decide)) (by have h8 := hND.1; show ¬ _; omega)) 13).trans (h13G35 m hm)
              show WP kX2_faceOf X 81 [some (2, ((327682 : Nat) : Int)), some (2, ((o : Nat) : Int)), some (0, i3), some (2, ((rr22 : Nat) : Int))] [] G39
              have hwhG39 : WhC G39 v (i3 : Int).toNat := hS_G39.2.wh hTHG35.2.2.2.1 (by rw [hTXG35.1.1]; omega) hwhG35 (by rw [← hro, hfG39 rr22 (KX.al (KX.trans hXG32 hXG35) (kne hko9 (by decide))) (by show ¬ _; omega)])
              refine s_aload_n dX2_faceOf_81 rfl (Int.natCast_nonneg _) ?_
              have hk43 : gK G39 (rr22) = (13, 0) := ((hXG39).k hk36 (by decide))
              refine s_alv (rr22) (by simp) (fun (al44 : AL G39 rr22) => ?_)
              have hv45 : gS G39 rr22 7 = ((rr22 + 1 : Nat) : Int) := by have h9 : (gS G39 rr22 7) = (((rr22 % 1048576) + 1 : Nat) : Int) := hCG39.1.v (j := 7) (by rw [cde_n (by omega) (by omega)]; omega : cde rr22 = 100) al44 (by rw [hk43]; exact Nat.le_of_ble_eq_true rfl); omega
              refine s_getf (ci := 5) (k := 7) (C := RX4) (T := TX4) (N := 14) (n := rr22) (L := 0) (t := 2) dX2_faceOf_82 rfl wi_72 m_592 (Nat.le_of_ble_eq_true rfl) rfl rfl hk43 hv45 ?_
              refine s_aload_n dX2_faceOf_85 rfl (Int.natCast_nonneg _) ?_
              refine s_aload_n dX2_faceOf_86 rfl (Int.natCast_nonneg _) ?_
              have hk48 : gK G39 (327682) = (11, 0) := ((hXG39).k ((hXG35).k ((hXG32).k hk9 (by decide)) (by decide)) (by decide))
              refine s_callV (as := [(2, ((rr22 : Nat) : Int))]) (rest := [(2, ((rr22 + 1 : Nat) : Int))]) (n := 327682) (ci := 3) gX2_findMistake dX2_faceOf_87 m_1294 m_925 m_1654 m_716 m_270 ⟨by decide, by decide, show (parseMethodDescriptor yX2_findMistake.desc).map (fun d => d.parameters.length) = some 1 from by decide +kernel⟩ (Nat.le_of_ble_eq_true rfl) (by rw [hcf]; exact Nat.le_of_ble_eq_true rfl) hk48 rfl rfl (Nat.le_of_ble_eq_true rfl) ⟨rr22, (i3 : Int).toNat, Hs, v, a, b, rfl, hCG39, hab, (by exact hro), (by rw [hTXG39.1.1]; omega), (by exact hTHG39), (by assumption), (by rw [hTXG39.2.2]; exact hvc), (by exact hwhG39), (by intro k hk; have e1 := hTXG39.1.2 (i3 : Int).toNat (by omega); have e2 := hTXG3.1.2 (i3 : Int).toNat (by omega); have hkl : k < npt (nkC G3 (i3 : Int).toNat) := (by rw [e2.1, ← e1.1]; exact hk); have e3 : ptC G39 (i3 : Int).toNat k = ptC G3 (i3 : Int).toNat k := (e1.2.2.2.2.2 k (by rw [← e1.1]; exact hk)).trans (e2.2.2.2.2.2 k (by rw [← e1.1]; exact hk)).symm; rw [e3]; obtain ⟨h8, h7⟩ := hpn k hkl; exact (hFiG39 _ (by rw [hTXG39.1.1]; omega)).2 (by omega) (by rw [← h7]; exact (((show nd11 G39 (ptC G3 (i3 : Int).toNat k) = nd11 G35 (ptC G3 (i3 : Int).toNat k) from congrFun (hfG39 _ (kne (hCG35.nd (n := ptC G3 (i3 : Int).toNat k) rfl (by rw [hTXG35.1.1]; omega)).2.1 (by decide)) (by show ¬ _; omega)) 11)).trans (show nd11 G35 (ptC G3 (i3 : Int).toNat k) = nd11 G32 (ptC G3 (i3 : Int).toNat k) by show gS G35 _ _ = gS G32 _ _; rw [eG35]; exact gset_ne _ _ (fun q9 => absurd q9.2 (by decide)))).trans (show nd11 G32 (ptC G3 (i3 : Int).toNat k) = nd11 G3 (ptC G3 (i3 : Int).toNat k) from congrFun (hfG32 _ (kne (hCG3.nd (n := ptC G3 (i3 : Int).toNat k) rfl (by rw [hTXG3.1.1]; omega)).2.1 (by decide)) (by show ¬ _; omega)) 11))), (by exact hpG39.2), (by exact hpG39.1), fun rr47 G46 hCG46 hXG46 hfG46 hpG46 => ?_⟩
              have hFG46 : WX (fun x => x = 327683 ∨ x = 327687 ∨ x = 327688 ∨ x = 327684 ∨ (327689 ≤ x ∧ x ≤ 327692) ∨ (262144 ≤ x ∧ x < 262272) ∨ (65536 ≤ x ∧ x < 68160)) G G46 := WX.trans hFG39 (KX.trans (KX.trans (KX.trans (KX.trans hXG1 hXG3) hXG32) hXG35) hXG39) (WX.mono hfG46 (fun x hx => by omega))
              have hS_G46 : ThC G46 Hs ∧ TxC G39 G46 := ⟨hpG46.1, hpG46.2.1⟩
              have hTHG46 : ThC G46 Hs := hS_G46.1
              have hnG46 : (n : Int) < nN G46 := by rw [hS_G46.2.1.1]; exact hnG39
              have hTXG46 : TxC G G46 := hTXG39.trans hS_G46.2
              have hNoG46 : NoC G G46 := hNoG39.trans (NoC.wx hCG39 hfG46 (fun n9 h9 => by show ¬ _; omega)) hTXG39.1.1
              have hEG46 : gS G46 327681 17 = gS G 327681 17 := (congrFun (hfG46 327681 (KX.al (KX.trans (KX.trans (KX.trans (KX.trans hXG1 hXG3) hXG32) hXG35) hXG39) (kne k327681 (by decide))) (by show ¬ _; omega)) 17).trans hEG39
              have hFiG46 : FdE G46 v (gS G 327681 17) i3 := FdE.wx hFiG39 hXG46 hfG46 hS_G46.2 hTHG39.2.2.2.1 (fun m hm hne => by have h9 := hfG46 (65536 + 64 * m) (kne (hCG39.nd (n := m) rfl hm).2.1 (by decide)) (by have h8 := hTHG39.2.2.2.1.1; show ¬ _; omega); exact ⟨congrFun h9 10, congrFun h9 11⟩) (fun m hm hne j h3 h22 => by show ¬ _; omega)
              have h13G46 : ∀ m : Nat, (m : Int) < nN G → nd13 G46 m = nd13 G1 m := fun m hm => (congrFun (hfG46 (65536 + 64 * m) (kne (hCG39.nd (n := m) rfl (by rw [hTXG39.1.1]; exact hm)).2.1 (by decide)) (by have h8 := hND.1; show ¬ _; omega)) 13).trans (h13G39 m hm)
              show WP kX2_faceOf X 90 [some (2, ((327682 : Nat) : Int)), some (2, ((o : Nat) : Int)), some (0, i3), some (2, ((rr22 : Nat) : Int))] [(0, rr47), (2, ((rr22 + 1 : Nat) : Int))] G46
              have hk49 : gK G46 (rr22 + 1) = (9, 0) := ((hXG46).k ((hXG39).k hk42 (by decide)) (by decide))
              refine s_putf (ci := 1) (k := 0) (C := RX0) (T := TX0) (N := 7) (n := rr22 + 1) (L := 0) dX2_faceOf_90 rfl wi_65 m_566 (Nat.le_of_ble_eq_true rfl) rfl rfl tyX0_ok nmX0 rfl (Or.inl rfl) hk49 ?_
              generalize eG50r : gset G46 (rr22 + 1) 0 rr47 = G50
              have eG50 := eG50r.symm
              have hCG50 : CI a b G50 := by rw [eG50]; exact hCG46.set (by rw [(by rw [cde_n (by omega) (by omega)]; omega : cde (rr22 + 1) = 101)]; rfl) (by rw [(by rw [cde_n (by omega) (by omega)]; omega : cde (rr22 + 1) = 101)]; exact trivial)
              have hXG50 : KX G46 G50 := KX.set KX.rf eG50
              have hFG50 : WX (fun x => x = 327683 ∨ x = 327687 ∨ x = 327688 ∨ x = 327684 ∨ (327689 ≤ x ∧ x ≤ 327692) ∨ (262144 ≤ x ∧ x < 262272) ∨ (65536 ≤ x ∧ x < 68160)) G G50 := WX.set hFG46 eG50 (by show _; omega)
              have hfG50 : WX (fun x => x = (rr22 + 1) % 1048576) G46 G50 := WX.set WX.rf eG50 rfl
              have hS_G50 : ThC G50 Hs ∧ TxC G46 G50 := hTHG46.wx hCG46 hXG50 hfG50 (hfn.kx (KX.trans (KX.trans (KX.trans (KX.trans (KX.trans hXG1 hXG3) hXG32) hXG35) hXG39) hXG46)) (by refine ⟨?_, ?_, ?_, ?_, ?_, ?_⟩ <;> (show ¬ _; omega)) (fun n9 h9 => by show ¬ _; omega)
              have hTHG50 : ThC G50 Hs := hS_G50.1
              have hnG50 : (n : Int) < nN G50 := by rw [hS_G50.2.1.1]; exact hnG46
              have hTXG50 : TxC G G50 := hTXG46.trans hS_G50.2
              have hNoG50 : NoC G G50 := hNoG46.trans (NoC.wx hCG46 hfG50 (fun n9 h9 => by show ¬ _; omega)) hTXG46.1.1
              have hEG50 : gS G50 327681 17 = gS G 327681 17 := (congrFun (hfG50 327681 (KX.al (KX.trans (KX.trans (KX.trans (KX.trans (KX.trans hXG1 hXG3) hXG32) hXG35) hXG39) hXG46) (kne k327681 (by decide))) (by show ¬ _; omega)) 17).trans hEG46
              have hFiG50 : FdE G50 v (gS G 327681 17) i3 := FdE.wx hFiG46 hXG50 hfG50 hS_G50.2 hTHG46.2.2.2.1 (fun m hm hne => by have h9 := hfG50 (65536 + 64 * m) (kne (hCG46.nd (n := m) rfl hm).2.1 (by decide)) (by have h8 := hTHG46.2.2.2.1.1; show ¬ _; omega); exact ⟨congrFun h9 10, congrFun h9 11⟩) (fun m hm hne j h3 h22 => by show ¬ _; omega)
              have h13G50 : ∀ m : Nat, (m : Int) < nN G → nd13 G50 m = nd13 G1 m := fun m hm => (show gS G50 (65536 + 64 * m) 13 = gS G46 (65536 + 64 * m) 13 by rw [eG50]; exact gset_ne _ _ (fun q9 => by first | (exact absurd q9.2 (by decide)) | omega)).trans (h13G46 m hm)
              show WP kX2_faceOf X 93 [some (2, ((327682 : Nat) : Int)), some (2, ((o : Nat) : Int)), some (0, i3), some (2, ((rr22 : Nat) : Int))] [] G50
              refine s_aload_n dX2_faceOf_93 rfl (Int.natCast_nonneg _) ?_
              refine s_aload_n dX2_faceOf_94 rfl (Int.natCast_nonneg _) ?_
              have hk51 : gK G50 (327682) = (11, 0) := ((hXG50).k ((hXG46).k hk48 (by decide)) (by decide))
              refine s_alv (327682) (by simp) (fun (al52 : AL G50 327682) => ?_)
              have hv53 : gS G50 327682 0 = ((327681 : Nat) : Int) := by have h9 : (gS G50 327682 0) = 327681 := hCG50.1.v (j := 0) (by decide : cde 327682 = 502) al52 (by rw [hk51]; exact Nat.le_of_ble_eq_true rfl); omega
              refine s_getf (ci := 3) (k := 0) (C := RX2) (T := TX2) (N := 8) (n := 327682) (L := 0) (t := 2) dX2_faceOf_95 rfl wi_70 m_584 (Nat.le_of_ble_eq_true rfl) rfl rfl hk51 hv53 ?_
              have hk54 : gK G50 (327681) = (14, 0) := ((hXG50).k ((hXG46).k ((hXG39).k ((hXG35).k ((hXG32).k hk12 (by decide)) (by decide)) (by decide)) (by decide)) (by decide))
              refine s_getf (ci := 6) (k := 17) (C := RX5) (T := TX5) (N := 18) (n := 327681) (L := 0) (t := 0) dX2_faceOf_98 rfl wi_73 m_590 (Nat.le_of_ble_eq_true rfl) rfl rfl hk54 rfl ?_
              have hk56 : gK G50 (rr22) = (13, 0) := ((hXG50).k ((hXG46).k hk43 (by decide)) (by decide))
              refine s_putf (ci := 5) (k := 11) (C := RX4) (T := TX4) (N := 14) (n := rr22) (L := 0) dX2_faceOf_101 rfl wi_72 m_589 (Nat.le_of_ble_eq_true rfl) rfl rfl tyX4_ok nmX4 rfl (Or.inl rfl) hk56 ?_
              generalize eG57r : gset G50 rr22 11 (gS G50 327681 17) = G57
              have eG57 := eG57r.symm
              have hCG57 : CI a b G57 := by rw [eG57]; exact hCG50.node (by rw [cde_n (by omega) (by omega)]; omega) (by decide) True.intro
              have hXG57 : KX G50 G57 := KX.set KX.rf eG57
              have hFG57 : WX (fun x => x = 327683 ∨ x = 327687 ∨ x = 327688 ∨ x = 327684 ∨ (327689 ≤ x ∧ x ≤ 327692) ∨ (262144 ≤ x ∧ x < 262272) ∨ (65536 ≤ x ∧ x < 68160)) G G57 := WX.set hFG50 eG57 (by show _; omega)
              have hfG57 : WX (fun x => x = rr22 % 1048576) G50 G57 := WX.set WX.rf eG57 rfl
              have hS_G57 : ThC G57 Hs ∧ TxC G50 G57 := hTHG50.nx hCG50 hXG57 hfG57 (hfn.kx (KX.trans (KX.trans (KX.trans (KX.trans (KX.trans (KX.trans hXG1 hXG3) hXG32) hXG35) hXG39) hXG46) hXG50)) (by refine ⟨?_, ?_, ?_, ?_, ?_, ?_⟩ <;> (show ¬ _; omega)) (NoC.set eG57 (by decide))
              have hTHG57 : ThC G57 Hs := hS_G57.1
              have hnG57 : (n : Int) < nN G57 := by rw [hS_G57.2.1.1]; exact hnG50
              have hTXG57 : TxC G G57 := hTXG50.trans hS_G57.2
              have hNoG57 : NoC G G57 := hNoG50.trans (NoC.set eG57 (by decide)) hTXG50.1.1
              have hEG57 : gS G57 327681 17 = gS G 327681 17 := (congrFun (hfG57 327681 (KX.al (KX.trans (KX.trans (KX.trans (KX.trans (KX.trans (KX.trans hXG1 hXG3) hXG32) hXG35) hXG39) hXG46) hXG50) (kne k327681 (by decide))) (by show ¬ _; omega)) 17).trans hEG50
              have hFiG57 : FdE G57 v (gS G 327681 17) i3 := FdE.wx hFiG50 hXG57 hfG57 hS_G57.2 hTHG50.2.2.2.1 (fun m hm hne => by have h9 := hfG57 (65536 + 64 * m) (kne (hCG50.nd (n := m) rfl hm).2.1 (by decide)) (by have h8 := hTHG50.2.2.2.1.1; show ¬ _; omega); exact ⟨congrFun h9 10, congrFun h9 11⟩) (fun m hm hne j h3 h22 => by show ¬ _; omega)
              have h13G57 : ∀ m : Nat, (m : Int) < nN G → nd13 G57 m = nd13 G1 m := fun m hm => (show gS G57 (65536 + 64 * m) 13 = gS G50 (65536 + 64 * m) 13 by rw [eG57]; exact gset_ne _ _ (fun q9 => by first | (exact absurd q9.2 (by decide)) | omega)).trans (h13G50 m hm)
              show WP kX2_faceOf X 104 [some (2, ((327682 : Nat) : Int)), some (2, ((o : Nat) : Int)), some (0, i3), some (2, ((rr22 : Nat) : Int))] [] G57
              have hwhG46 : WhC G46 v (i3 : Int).toNat := hS_G46.2.wh hTHG39.2.2.2.1 (by rw [hTXG39.1.1]; omega) hwhG39 (by rw [← hro, hfG46 rr22 (KX.al (KX.trans (KX.trans hXG32 hXG35) hXG39) (kne hko9 (by decide))) (by show ¬ _; omega)])
              have hwhG50 : WhC G50 v (i3 : Int).toNat := hS_G50.2.wh hTHG46.2.2.2.1 (by rw [hTXG46.1.1]; omega) hwhG46 (by rw [eG50]; exact gset_ne _ _ (fun q9 => by first | (exact absurd q9.2 (by decide)) | omega))
              have hffG50 : FPa (PnC G50 v (i3 : Int).toNat) G50 (rr22 + 1) := (FPa.wx (hpG46.2.2) hXG50 hfG50 ⟨by have h9 := (hFiG46 (i3 : Int).toNat (by rw [hTXG46.1.1]; omega)).1.1; rw [← hro] at h9; exact h9, by have h9 := (hFiG46 (i3 : Int).toNat (by rw [hTXG46.1.1]; omega)).1.2; rw [← hro] at h9; exact h9⟩ (by show ¬ _; omega) (by show ¬ _; omega) (fun p hp => by show ¬ _; omega)).mono (fun x hx => hS_G50.2.pn hTHG46.2.2.2.1 (by rw [hTXG46.1.1]; omega) hx)
              have hwhG57 : WhC G57 v (i3 : Int).toNat := hS_G57.2.wh hTHG50.2.2.2.1 (by rw [hTXG50.1.1]; omega) hwhG50 (by rw [eG57]; exact gset_ne _ _ (fun q9 => by first | (exact absurd q9.2 (by decide)) | omega))
              have hffG57 : FPa (PnC G57 v (i3 : Int).toNat) G57 (rr22 + 1) := (FPa.wx (hffG50) hXG57 hfG57 ⟨by have h9 := (hFiG50 (i3 : Int).toNat (by rw [hTXG50.1.1]; omega)).1.1; rw [← hro] at h9; exact h9, by have h9 := (hFiG50 (i3 : Int).toNat (by rw [hTXG50.1.1]; omega)).1.2; rw [← hro] at h9; exact h9⟩ (by show ¬ _; omega) (by show ¬ _; omega) (fun p hp => by show ¬ _; omega)).mono (fun x hx => hS_G57.2.pn hTHG50.2.2.2.1 (by rw [hTXG50.1.1]; omega) hx)
              have hFdG57 : FdE G57 v (gS G 327681 17) (-1) := hFiG57.in (fun m hm he => by have em : m = (i3 : Int).toNat := (by omega); subst em; exact ⟨hwhG57, by rw [← hro]; exact hffG57⟩)
              refine s_iinc dX2_faceOf_104 (v := i3) rfl (by omega) (by decide) (lv' := [some (2, ((327682 : Nat) : Int)), some (2, ((o : Nat) : Int)), some (0, i3 + 1), some (2, ((rr22 : Nat) : Int))]) rfl ?_
              refine s_goto (tgt := 7) dX2_faceOf_107 (by decide) ?_
              refine s_mask [true, true, true, false] (lv' := [some (2, ((327682 : Nat) : Int)), some (2, ((o : Nat) : Int)), some (0, i3 + 1), none]) rfl ?_
              exact ih3 (i3 + 1) G57 hCG57 (KX.trans (KX.trans (KX.trans (KX.trans (KX.trans (KX.trans hXG3 hXG32) hXG35) hXG39) hXG46) hXG50) hXG57) hFG57 (⟨(by omega), (by intro m hm h1; by_cases em : (m : Int) = i3; (focus (show gS G57 _ _ = _; rw [show 65536 + 64 * m = rr22 by omega, show gS G57 rr22 11 = _ from gsaE eG57]; exact hEG50)); exact (((((((show nd11 G57 m = nd11 G50 m by show gS G57 _ _ = gS G50 _ _; rw [eG57]; exact gset_ne _ _ (fun q9 => by first | (exact absurd q9.2 (by decide)) | omega))).trans (show nd11 G50 m = nd11 G46 m by show gS G50 _ _ = gS G46 _ _; rw [eG50]; exact gset_ne _ _ (fun q9 => by first | (exact absurd q9.2 (by decide)) | omega))).trans (show nd11 G46 m = nd11 G39 m from congrFun (hfG46 _ (kne (hCG39.nd (n := m) rfl (by rw [hTXG39.1.1]; omega)).2.1 (by decide)) (by show ¬ _; omega)) 11)).trans (show nd11 G39 m = nd11 G35 m from congrFun (hfG39 _ (kne (hCG35.nd (n := m) rfl (by rw [hTXG35.1.1]; omega)).2.1 (by decide)) (by show ¬ _; omega)) 11)).trans (show nd11 G35 m = nd11 G32 m by show gS G35 _ _ = gS G32 _ _; rw [eG35]; exact gset_ne _ _ (fun q9 => by first | (exact absurd q9.2 (by decide)) | omega))).trans (show nd11 G32 m = nd11 G3 m from congrFun (hfG32 _ (kne (hCG3.nd (n := m) rfl (by rw [hTXG3.1.1]; omega)).2.1 (by decide)) (by show ¬ _; omega)) 11)).trans (ifd3 m (by omega) h1)), (by exact hTHG57), (by exact hnG57), (by exact hTXG57), (by exact hNoG57), (by exact hEG57), (by exact hFdG57), (by exact h13G57)⟩) (by omega)
  exact L3 _ 0 G1 hCG1 KX.rf hFG1 (⟨(by omega), (by intro m hm; omega), (by exact hTHG1), (by exact hnG1), (by exact hTXG1), (by exact hNoG1), (by exact hEG1), (by exact hFdG1), (by exact h13G1)⟩) (Nat.lt_succ_self _)
