abbrev kX8_checkRef : KD := (RX8, cX8_checkRef, 5, (some .int), [])
def TX8_checkRef : TR := fun as G Qr => ∃ (x : Int) (o : Nat) (a b : Nat), as = [(2, ((327684 : Nat) : Int)), (0, x), (2, ((o : Nat) : Int))] ∧ CI a b G ∧ (a ≤ 2840000 ∧ b ≤ 590000) ∧ (0 ≤ x ∧ x ≤ 9) ∧ (gS G 327684 4 + 200 ≤ 2412) ∧ (isFc o) ∧ (FSZ G o) ∧ ∀ (r : Int) (G' : LG), CI a b G' → KX G G' → WX (fun x => x = 327684 ∨ x = 327690) G G' → ((0 ≤ r ∧ r ≤ 8) ∧ (r = 0 → LST G' (gS G 327684 4 + 1)) ∧ (∀ m, LST G m → LST G' m) ∧ gS G' 327684 4 ≤ gS G 327684 4 + 200) → Qr (.inl (some (0, r))) G'
set_option maxHeartbeats 4000000 in
set_option maxRecDepth 100000 in
theorem gX8_checkRef : Good kX8_checkRef yX8_checkRef 3 TX8_checkRef := by
  refine good_of (by decide) rfl rfl (fun as G Qr h => ?_) (fun X as G Qr hcf hR hT oa => ?_)
  · obtain ⟨x, o, a, b, rfl, -⟩ := h; exact Nat.le_of_ble_eq_true rfl
  obtain ⟨x, o, a, b, rfl, hC, hab, hx, hw, ho, hsz, hQ⟩ := hT
  show WP kX8_checkRef X 0 [some (2, ((327684 : Nat) : Int)), some (0, x), some (2, ((o : Nat) : Int)), none, none] [] G
  have hr_x : inR x := okv_R (oa _ (by simp))
  refine s_alvl 327684 (k := 0) rfl (fun al0 => ?_)
  obtain ⟨qs, Ls, hs1, hs2, hs3, hs4, hs5, hs6⟩ := hC.stk al0
  refine s_aload_n dX8_checkRef_0 rfl (Int.natCast_nonneg _) ?_
  refine s_iload_n dX8_checkRef_1 rfl ?_
  refine s_alv (o) (by simp) (fun al3 => ?_)
  have hk4 : gK G (o) = (9, 0) := hC.1.k (by rw [cde_n (by omega) (by omega)]; omega : cde o = 101) al3
  refine s_callV (as := [(0, x)]) (rest := []) (n := o) (ci := 1) gX0_hasValue dX8_checkRef_2 m_1430 m_739 m_1473 m_711 m_66 ⟨by decide, by decide, show (parseMethodDescriptor yX0_hasValue.desc).map (fun d => d.parameters.length) = some 1 from by decide +kernel⟩ (Nat.le_of_ble_eq_true rfl) (by rw [hcf]; exact Nat.le_of_ble_eq_true rfl) hk4 rfl rfl (Nat.le_of_ble_eq_true rfl) ⟨o, x, a, b, rfl, hC, hab, (by first | assumption | omega), (by first | assumption | omega), fun rr1 hp2 => ?_⟩
  show WP kX8_checkRef X 5 [some (2, ((327684 : Nat) : Int)), some (0, x), some (2, ((o : Nat) : Int)), none, none] [(0, rr1)] G
  refine s_if_ne (tgt := 10) dX8_checkRef_5 (by decide) (fun c5 => ?_) (fun c5 => ?_)
  · -- 5 to 10
    have hz9 := hsz.2 x.toNat (by omega) (by omega)
    rw [show 6 + x.toNat = (6 + x).toNat by omega] at hz9
    refine s_aload_n dX8_checkRef_10 rfl (Int.natCast_nonneg _) ?_
    have hv6 : gS G o 3 = ((o + 3 : Nat) : Int) := by have h9 : (gS G o 3) = (((o % 1048576) + 3 : Nat) : Int) := hC.1.v (j := 3) (by rw [cde_n (by omega) (by omega)]; omega : cde o = 101) al3 (by rw [hk4]; exact Nat.le_of_ble_eq_true rfl); omega
    refine s_getf (ci := 1) (k := 3) (C := RX0) (T := TX0) (N := 7) (n := o) (L := 0) (t := 2) dX8_checkRef_11 rfl wi_65 m_677 (Nat.le_of_ble_eq_true rfl) rfl rfl hk4 hv6 ?_
    refine s_bipush dX8_checkRef_14 rfl (by decide) ?_
    refine s_iload_n dX8_checkRef_16 rfl ?_
    refine s_iadd dX8_checkRef_17 (by omega) ?_
    refine s_alv (o + 3) (by simp) (fun al7 => ?_)
    have hk8 : gK G (o + 3) = (4, 16) := hC.1.k (by rw [cde_n (by omega) (by omega)]; omega : cde (o + 3) = 104) al7
    have hv10b : 0 ≤ (gS G (o + 3) (6 + x : Int).toNat) ∧ (gS G (o + 3) (6 + x : Int).toNat) % 1048576 = ((((o + 3) % 1048576) + 4 + ((6 + x : Int).toNat) : Nat) : Int) := hC.1.v (j := (6 + x : Int).toNat) (by rw [cde_n (by omega) (by omega)]; omega : cde (o + 3) = 104) al7 (by rw [hk8]; show (6 + x : Int).toNat < 16; omega)
    obtain ⟨q9, hv10⟩ : ∃ q : Nat, gS G (o + 3) (6 + x : Int).toNat = (q : Int) := ⟨(gS G (o + 3) (6 + x : Int).toNat).toNat, by omega⟩
    rw [hv10] at hv10b
    refine s_aald4 dX8_checkRef_18 hk8 (by omega) (by omega) hv10 ?_
    refine s_astore_n (Int.natCast_nonneg _) dX8_checkRef_19 (by decide) (lv' := [some (2, ((327684 : Nat) : Int)), some (0, x), some (2, ((o : Nat) : Int)), some (2, ((q9 : Nat) : Int)), none]) rfl ?_
    refine s_iconst dX8_checkRef_20 (by decide) ?_
    refine s_istore dX8_checkRef_21 (by decide) (lv' := [some (2, ((327684 : Nat) : Int)), some (0, x), some (2, ((o : Nat) : Int)), some (2, ((q9 : Nat) : Int)), some (0, 0)]) rfl ?_
    have L11 : ∀ (n11 : Nat) (i11 : Int) (G11 : LG), CI a b G11 → KX G G11 → WX (fun x => x = 327684 ∨ x = 327690) G G11 → (((0 ≤ i11 ∧ i11 ≤ 200) ∧ gS G11 327684 4 = gS G 327684 4 + i11) ∧ ((1 ≤ i11 → LST G11 (gS G 327684 4 + 1)) ∧ (∀ m, LST G m → LST G11 m))) → (200 - i11).toNat < n11 → WP kX8_checkRef X 23 [some (2, ((327684 : Nat) : Int)), some (0, x), some (2, ((o : Nat) : Int)), some (2, ((q9 : Nat) : Int)), some (0, i11)] [] G11 := by
      intro n11
      induction n11 with
      | zero => intro i11 G11 hCG11 hXG11 hFG11 hi11 hm11; exact absurd hm11 (Nat.not_lt_zero _)
      | succ n11 ih11 =>
        intro i11 G11 hCG11 hXG11 hFG11 hi11 hm11
        obtain ⟨ii11, il11⟩ := hi11
        have he411 : gS G11 (o + 4) = gS G (o + 4) := hFG11 (o + 4) hsz.1.2 (by show ¬ _; omega)
        have he511 : gS G11 (o + 4) (6 + x).toNat = gS G (o + 4) (6 + x).toNat := by rw [he411]
        refine s_iload dX8_checkRef_23 rfl ?_
        refine s_aload_n dX8_checkRef_25 rfl (Int.natCast_nonneg _) ?_
        have hk12 : gK G11 (o) = (9, 0) := ((hXG11).k hk4 (by decide))
        refine s_alv (o) (by simp) (fun al13 => ?_)
        have hv14 : gS G11 o 4 = ((o + 4 : Nat) : Int) := by have h9 : (gS G11 o 4) = (((o % 1048576) + 4 : Nat) : Int) := hCG11.1.v (j := 4) (by rw [cde_n (by omega) (by omega)]; omega : cde o = 101) al13 (by rw [hk12]; exact Nat.le_of_ble_eq_true rfl); omega
        refine s_getf (ci := 1) (k := 4) (C := RX0) (T := TX0) (N := 7) (n := o) (L := 0) (t := 2) dX8_checkRef_26 rfl wi_65 m_678 (Nat.le_of_ble_eq_true rfl) rfl rfl hk12 hv14 ?_
        refine s_bipush dX8_checkRef_29 rfl (by decide) ?_
        refine s_iload_n dX8_checkRef_31 rfl ?_
        refine s_iadd dX8_checkRef_32 (by omega) ?_
        refine s_alv (o + 4) (by simp) (fun al15 => ?_)
        have hk16 : gK G11 (o + 4) = (1, 16) := hCG11.1.k (by rw [cde_n (by omega) (by omega)]; omega : cde (o + 4) = 105) al15
        have hv17 : 0 ≤ (gS G11 (o + 4) (6 + x : Int).toNat) ∧ (gS G11 (o + 4) (6 + x : Int).toNat) ≤ 200 := hCG11.1.v (j := (6 + x : Int).toNat) (by rw [cde_n (by omega) (by omega)]; omega : cde (o + 4) = 105) al15 (by rw [hk16]; show (6 + x : Int).toNat < 16; omega)
        refine s_iald dX8_checkRef_33 hk16 (by omega) (by omega) rfl ?_
        refine s_icmp_ge (tgt := 59) dX8_checkRef_34 (by decide) (fun c18 => ?_) (fun c18 => ?_)
        · -- 34 to 59
          refine s_iconst dX8_checkRef_59 (by decide) ?_
          exact s_iret hR dX8_checkRef_60 rfl (hQ 0 G11 hCG11 hXG11 hFG11 ⟨by omega, fun _ => il11.1 (by omega), il11.2, by omega⟩)
        · -- 34 to 37
          refine s_iload dX8_checkRef_37 rfl ?_
          refine s_aload_n dX8_checkRef_39 rfl (Int.natCast_nonneg _) ?_
          refine s_alv (q9) (by simp) (fun al19 => ?_)
          obtain ⟨L21, hk20, hL21a, hL21b⟩ := hCG11.1.kr (show 108 ≤ cde q9 ∧ cde q9 < 124 from by rw [cde_n (by omega) (by omega)]; omega) al19
          refine s_alen dX8_checkRef_40 hk20 (by decide) (by omega) ?_
          refine s_icmp_ge (tgt := 59) dX8_checkRef_41 (by decide) (fun c22 => ?_) (fun c22 => ?_)
          · -- 41 to 59
            refine s_iconst dX8_checkRef_59 (by decide) ?_
            exact s_iret hR dX8_checkRef_60 rfl (hQ 0 G11 hCG11 hXG11 hFG11 ⟨by omega, fun _ => il11.1 (by omega), il11.2, by omega⟩)
          · -- 41 to 44
            refine s_aload_n dX8_checkRef_44 rfl (Int.natCast_nonneg _) ?_
            refine s_aload_n dX8_checkRef_45 rfl (Int.natCast_nonneg _) ?_
            refine s_iload dX8_checkRef_46 rfl ?_
            refine s_iald dX8_checkRef_48 hk20 (by omega) (by omega) rfl ?_
            refine s_alv (327684) (by simp) (fun al25 => ?_)
            have hk26 : gK G11 (327684) = (17, 0) := hCG11.1.k (by decide : cde 327684 = 504) al25
            refine s_callV (as := [(0, gS G11 q9 ((i11 : Int).toNat))]) (rest := []) (n := 327684) (ci := 9) gX8_push dX8_checkRef_49 m_1422 m_1011 m_1733 m_722 m_359 ⟨by decide, by decide, show (parseMethodDescriptor yX8_push.desc).map (fun d => d.parameters.length) = some 1 from by decide +kernel⟩ (Nat.le_of_ble_eq_true rfl) (by rw [hcf]; exact Nat.le_of_ble_eq_true rfl) hk26 rfl rfl (Nat.le_of_ble_eq_true rfl) ⟨gS G11 q9 ((i11 : Int).toNat), a, b, rfl, hCG11, hab, (by first | assumption | omega), fun rr24 G23 hCG23 hXG23 hfG23 hpG23 => ?_⟩
            have hFG23 : WX (fun x => x = 327684 ∨ x = 327690) G G23 := WX.trans hFG11 hXG11 (WX.mono hfG23 (fun x hx => by omega))
            show WP kX8_checkRef X 52 [some (2, ((327684 : Nat) : Int)), some (0, x), some (2, ((o : Nat) : Int)), some (2, ((q9 : Nat) : Int)), some (0, i11)] [(0, rr24)] G23
            refine s_pop dX8_checkRef_52 (show (0 : Nat) ≠ 1 by decide) ?_
            refine s_iinc dX8_checkRef_53 (v := i11) rfl (by omega) (by decide) (lv' := [some (2, ((327684 : Nat) : Int)), some (0, x), some (2, ((o : Nat) : Int)), some (2, ((q9 : Nat) : Int)), some (0, i11 + 1)]) rfl ?_
            refine s_goto (tgt := 23) dX8_checkRef_56 (by decide) ?_
            exact ih11 (i11 + 1) G23 hCG23 (KX.trans hXG11 hXG23) hFG23 (⟨(by omega), (by exact ⟨fun _ => hpG23.2.2.1.le (by omega), fun m hm => hpG23.2.2.2 m (il11.2 m hm)⟩)⟩) (by omega)
    exact L11 _ 0 G hC KX.rf WX.rf (⟨(by omega), (by exact ⟨fun h => absurd h (by omega), fun _ h => h⟩)⟩) (Nat.lt_succ_self _)
  · -- 5 to 8
    refine s_iconst dX8_checkRef_8 (by decide) ?_
    exact s_iret hR dX8_checkRef_9 rfl (hQ 1 G hC KX.rf WX.rf ⟨by omega, fun h => absurd h (by omega), fun _ h => h, by omega⟩)

abbrev kX8_check : KD := (RX8, cX8_check, 4, (some .int), [])
def TX8_check (m : Nat) : TR := fun as G Qr => ∃ (e d : Int) (o : Nat) (a b : Nat), as = [(2, ((327684 : Nat) : Int)), (0, e), (2, ((o : Nat) : Int)), (0, d)] ∧ CI a b G ∧ (a ≤ 2840000 ∧ b ≤ 590000) ∧ (0 ≤ e ∧ e < gS G 327681 12) ∧ (0 ≤ d ∧ d ≤ 13 ∧ 14 ≤ d + m) ∧ (gS G 327684 4 + 200 * (gS G 327705 e.toNat) ≤ 2412) ∧ (isFc o) ∧ (FSZ G o) ∧ ∀ (r : Int) (G' : LG), CI a b G' → KX G G' → WX (fun x => x = 327684 ∨ x = 327690) G G' → ((0 ≤ r ∧ r ≤ 8) ∧ (r = 0 → LST G' (gS G 327684 4 + 1)) ∧ (∀ m, LST G m → LST G' m) ∧ gS G' 327684 4 ≤ gS G 327684 4 + 200 * (gS G 327705 e.toNat)) → Qr (.inl (some (0, r))) G'

abbrev kX8_checkBoth : KD := (RX8, cX8_checkBoth, 5, (some .int), [])
def TX8_checkBoth (m : Nat) : TR := fun as G Qr => ∃ (e d : Int) (o : Nat) (a b : Nat), as = [(2, ((327684 : Nat) : Int)), (0, e), (2, ((o : Nat) : Int)), (0, d)] ∧ CI a b G ∧ (a ≤ 2840000 ∧ b ≤ 590000) ∧ (0 ≤ e ∧ e < gS G 327681 12) ∧ (gS G 327701 e.toNat = 0 ∨ gS G 327701 e.toNat = 1) ∧ (d ≤ 12 ∧ 0 ≤ d ∧ 13 ≤ d + m) ∧ (gS G 327684 4 + 200 * (gS G 327705 e.toNat - 1) ≤ 2412) ∧ (isFc o) ∧ (FSZ G o) ∧ ∀ (r : Int) (G' : LG), CI a b G' → KX G G' → WX (fun x => x = 327684 ∨ x = 327690) G G' → ((0 ≤ r ∧ r ≤ 8) ∧ (r = 0 → LST G' (gS G 327684 4 + 1)) ∧ (∀ m, LST G m → LST G' m) ∧ gS G' 327684 4 ≤ gS G 327684 4 + 200 * (gS G 327705 e.toNat - 1)) → Qr (.inl (some (0, r))) G'
set_option maxHeartbeats 4000000 in
set_option maxRecDepth 100000 in
theorem gX8_checkBoth (m : Nat) (ih : Good kX8_check yX8_check (4 * m) (TX8_check m)) : Good kX8_checkBoth yX8_checkBoth (4 * m + 1) (TX8_checkBoth m) := by
  refine good_of (by decide) rfl rfl (fun as G Qr h => ?_) (fun X as G Qr hcf hR hT oa => ?_)
  · obtain ⟨e, d, o, a, b, rfl, -⟩ := h; exact Nat.le_of_ble_eq_true rfl
  obtain ⟨e, d, o, a, b, rfl, hC, hab, he, hk, hd, hw, ho, hsz, hQ⟩ := hT
  show WP kX8_checkBoth X 0 [some (2, ((327684 : Nat) : Int)), some (0, e), some (2, ((o : Nat) : Int)), some (0, d), none] [] G
  have hr_e : inR e := okv_R (oa _ (by simp))
  have hr_d : inR d := okv_R (oa _ (by simp))
  refine s_alvl 327684 (k := 0) rfl (fun al0 => ?_)
  obtain ⟨qs, Ls, hs1, hs2, hs3, hs4, hs5, hs6⟩ := hC.stk al0
  have h6 := hC.2.2.2.2.2.2.1.w (e := e) (by omega) (by omega)
  have hk1 : gK G (327684) = (17, 0) := hC.1.k (by decide : cde 327684 = 504) al0
  refine s_alh (327684) 0 al0 (by rw [hk1]; exact Nat.le_of_ble_eq_true rfl) (by rw [hk1]; rfl) (fun az0x => ?_)
  have az0v : gS G 327684 0 = ((327681 : Nat) : Int) := by have h9 : (gS G 327684 0) = 327681 := hC.1.v (j := 0) (by decide : cde 327684 = 504) al0 (by rw [hk1]; exact Nat.le_of_ble_eq_true rfl); omega
  have az0 : (gK G (327681)).1 ≠ 0 := by have h9 := az0x (by omega); rw [az0v, Int.toNat_natCast] at h9; exact h9
  have az0k : gK G (327681) = (14, 0) := hC.1.k (by decide : cde 327681 = 501) az0
  have hpe : 0 ≤ gS G 327681 12 ∧ gS G 327681 12 ≤ 120 := hC.1.v (j := 12) (by decide : cde 327681 = 501) az0 (by rw [az0k]; exact Nat.le_of_ble_eq_true rfl)
  refine s_alh (327681) 5 az0 (by rw [az0k]; exact Nat.le_of_ble_eq_true rfl) (by rw [az0k]; rfl) (fun az1x => ?_)
  have az1v : gS G 327681 5 = ((327701 : Nat) : Int) := by have h9 : (gS G 327681 5) = 327701 := hC.1.v (j := 5) (by decide : cde 327681 = 501) az0 (by rw [az0k]; exact Nat.le_of_ble_eq_true rfl); omega
  have az1 : (gK G (327701)).1 ≠ 0 := by have h9 := az1x (by omega); rw [az1v, Int.toNat_natCast] at h9; exact h9
  have az1k : gK G (327701) = (1, 120) := hC.1.k (by decide : cde 327701 = 521) az1
  refine s_alh (327681) 6 az0 (by rw [az0k]; exact Nat.le_of_ble_eq_true rfl) (by rw [az0k]; rfl) (fun az2x => ?_)
  have az2v : gS G 327681 6 = ((327702 : Nat) : Int) := by have h9 : (gS G 327681 6) = 327702 := hC.1.v (j := 6) (by decide : cde 327681 = 501) az0 (by rw [az0k]; exact Nat.le_of_ble_eq_true rfl); omega
  have az2 : (gK G (327702)).1 ≠ 0 := by have h9 := az2x (by omega); rw [az2v, Int.toNat_natCast] at h9; exact h9
  have az2k : gK G (327702) = (1, 120) := hC.1.k (by decide : cde 327702 = 522) az2
  refine s_alh (327681) 7 az0 (by rw [az0k]; exact Nat.le_of_ble_eq_true rfl) (by rw [az0k]; rfl) (fun az3x => ?_)
  have az3v : gS G 327681 7 = ((327703 : Nat) : Int) := by have h9 : (gS G 327681 7) = 327703 := hC.1.v (j := 7) (by decide : cde 327681 = 501) az0 (by rw [az0k]; exact Nat.le_of_ble_eq_true rfl); omega
  have az3 : (gK G (327703)).1 ≠ 0 := by have h9 := az3x (by omega); rw [az3v, Int.toNat_natCast] at h9; exact h9
  have az3k : gK G (327703) = (1, 120) := hC.1.k (by decide : cde 327703 = 523) az3
  refine s_alh (327681) 8 az0 (by rw [az0k]; exact Nat.le_of_ble_eq_true rfl) (by rw [az0k]; rfl) (fun az4x => ?_)
  have az4v : gS G 327681 8 = ((327704 : Nat) : Int) := by have h9 : (gS G 327681 8) = 327704 := hC.1.v (j := 8) (by decide : cde 327681 = 501) az0 (by rw [az0k]; exact Nat.le_of_ble_eq_true rfl); omega
  have az4 : (gK G (327704)).1 ≠ 0 := by have h9 := az4x (by omega); rw [az4v, Int.toNat_natCast] at h9; exact h9
  have az4k : gK G (327704) = (1, 120) := hC.1.k (by decide : cde 327704 = 524) az4
  refine s_alh (327681) 9 az0 (by rw [az0k]; exact Nat.le_of_ble_eq_true rfl) (by rw [az0k]; rfl) (fun az5x => ?_)
  have az5v : gS G 327681 9 = ((327705 : Nat) : Int) := by have h9 : (gS G 327681 9) = 327705 := hC.1.v (j := 9) (by decide : cde 327681 = 501) az0 (by rw [az0k]; exact Nat.le_of_ble_eq_true rfl); omega
  have az5 : (gK G (327705)).1 ≠ 0 := by have h9 := az5x (by omega); rw [az5v, Int.toNat_natCast] at h9; exact h9
  have az5k : gK G (327705) = (1, 120) := hC.1.k (by decide : cde 327705 = 525) az5
  refine s_aload_n dX8_checkBoth_0 rfl (Int.natCast_nonneg _) ?_
  refine s_aload_n dX8_checkBoth_1 rfl (Int.natCast_nonneg _) ?_
  have hv2 : gS G 327684 0 = ((327681 : Nat) : Int) := by have h9 : (gS G 327684 0) = 327681 := hC.1.v (j := 0) (by decide : cde 327684 = 504) al0 (by rw [hk1]; exact Nat.le_of_ble_eq_true rfl); omega
  refine s_getf (ci := 9) (k := 0) (C := RX8) (T := TX8) (N := 5) (n := 327684) (L := 0) (t := 2) dX8_checkBoth_2 rfl wi_76 m_681 (Nat.le_of_ble_eq_true rfl) rfl rfl hk1 hv2 ?_
  have hv3 : gS G 327681 6 = ((327702 : Nat) : Int) := by have h9 : (gS G 327681 6) = 327702 := hC.1.v (j := 6) (by decide : cde 327681 = 501) az0 (by rw [az0k]; exact Nat.le_of_ble_eq_true rfl); omega
  refine s_getf (ci := 6) (k := 6) (C := RX5) (T := TX5) (N := 18) (n := 327681) (L := 0) (t := 2) dX8_checkBoth_5 rfl wi_73 m_675 (Nat.le_of_ble_eq_true rfl) rfl rfl az0k hv3 ?_
  refine s_iload_n dX8_checkBoth_8 rfl ?_
  refine s_iald dX8_checkBoth_9 az2k (by omega) (by omega) rfl ?_
  refine s_aload_n dX8_checkBoth_10 rfl (Int.natCast_nonneg _) ?_
  refine s_iload_n dX8_checkBoth_11 rfl ?_
  refine s_iconst dX8_checkBoth_12 (by decide) ?_
  refine s_iadd dX8_checkBoth_13 (by omega) ?_
  refine s_callV (as := [(0, gS G 327702 ((e : Int).toNat)), (2, ((o : Nat) : Int)), (0, d + 1)]) (rest := []) (n := 327684) (ci := 9) ih dX8_checkBoth_14 m_1419 m_996 m_1719 m_722 m_344 ⟨by decide, by decide, show (parseMethodDescriptor yX8_check.desc).map (fun d => d.parameters.length) = some 3 from by decide +kernel⟩ (Nat.le_of_ble_eq_true rfl) (by rw [hcf]; omega) hk1 rfl rfl (Nat.le_of_ble_eq_true rfl) ⟨gS G 327702 ((e : Int).toNat), d + 1, o, a, b, rfl, hC, hab, (by omega), (by omega), (by omega), (by assumption), (by assumption), fun rr5 G4 hCG4 hXG4 hfG4 hpG4 => ?_⟩
  have hFG4 : WX (fun x => x = 327684 ∨ x = 327690) G G4 := WX.trans WX.rf KX.rf (WX.mono hfG4 (fun x hx => by omega))
  show WP kX8_checkBoth X 17 [some (2, ((327684 : Nat) : Int)), some (0, e), some (2, ((o : Nat) : Int)), some (0, d), none] [(0, rr5)] G4
  have hpcG4 : gS G4 327681 = gS G 327681 := hFG4 327681 az0 (by show ¬ _; omega)
  have hp1G4 : gS G4 327701 = gS G 327701 := hFG4 327701 az1 (by show ¬ _; omega)
  have hp2G4 : gS G4 327702 = gS G 327702 := hFG4 327702 az2 (by show ¬ _; omega)
  have hp3G4 : gS G4 327703 = gS G 327703 := hFG4 327703 az3 (by show ¬ _; omega)
  have hp4G4 : gS G4 327704 = gS G 327704 := hFG4 327704 az4 (by show ¬ _; omega)
  have hp5G4 : gS G4 327705 = gS G 327705 := hFG4 327705 az5 (by show ¬ _; omega)
  have hpnG4 : gS G4 327681 12 = gS G 327681 12 := by rw [hpcG4]
  have hq1G4 : gS G4 327701 e.toNat = gS G 327701 e.toNat := by rw [hp1G4]
  have hq2G4 : gS G4 327702 e.toNat = gS G 327702 e.toNat := by rw [hp2G4]
  have hq3G4 : gS G4 327703 e.toNat = gS G 327703 e.toNat := by rw [hp3G4]
  have hq4G4 : gS G4 327704 e.toNat = gS G 327704 e.toNat := by rw [hp4G4]
  have hq5G4 : gS G4 327705 e.toNat = gS G 327705 e.toNat := by rw [hp5G4]
  have hw2G4 : gS G4 327705 (gS G4 327702 e.toNat).toNat = gS G 327705 (gS G 327702 e.toNat).toNat := by rw [hp5G4, hp2G4]
  have hw3G4 : gS G4 327705 (gS G4 327703 e.toNat).toNat = gS G 327705 (gS G 327703 e.toNat).toNat := by rw [hp5G4, hp3G4]
  have hw4G4 : gS G4 327705 (gS G4 327704 e.toNat).toNat = gS G 327705 (gS G 327704 e.toNat).toNat := by rw [hp5G4, hp4G4]
  have hfzG4 := hsz.wx hXG4 hFG4 (by show ¬ _; omega) (by show ¬ _; omega)
  refine s_istore dX8_checkBoth_17 (by decide) (lv' := [some (2, ((327684 : Nat) : Int)), some (0, e), some (2, ((o : Nat) : Int)), some (0, d), some (0, rr5)]) rfl ?_
  refine s_iload dX8_checkBoth_19 rfl ?_
  refine s_if_eq (tgt := 29) dX8_checkBoth_21 (by decide) (fun c6 => ?_) (fun c6 => ?_)
  · -- 21 to 29
    refine s_aload_n dX8_checkBoth_29 rfl (Int.natCast_nonneg _) ?_
    refine s_aload_n dX8_checkBoth_30 rfl (Int.natCast_nonneg _) ?_
    have hk7 : gK G4 (327684) = (17, 0) := ((hXG4).k hk1 (by decide))
    refine s_alv (327684) (by simp) (fun al8 => ?_)
    have hv9 : gS G4 327684 0 = ((327681 : Nat) : Int) := by have h9 : (gS G4 327684 0) = 327681 := hCG4.1.v (j := 0) (by decide : cde 327684 = 504) al8 (by rw [hk7]; exact Nat.le_of_ble_eq_true rfl); omega
    refine s_getf (ci := 9) (k := 0) (C := RX8) (T := TX8) (N := 5) (n := 327684) (L := 0) (t := 2) dX8_checkBoth_31 rfl wi_76 m_681 (Nat.le_of_ble_eq_true rfl) rfl rfl hk7 hv9 ?_
    have hk10 : gK G4 (327681) = (14, 0) := ((hXG4).k az0k (by decide))
    refine s_alv (327681) (by simp) (fun al11 => ?_)
    have hv12 : gS G4 327681 7 = ((327703 : Nat) : Int) := by have h9 : (gS G4 327681 7) = 327703 := hCG4.1.v (j := 7) (by decide : cde 327681 = 501) al11 (by rw [hk10]; exact Nat.le_of_ble_eq_true rfl); omega
    refine s_getf (ci := 6) (k := 7) (C := RX5) (T := TX5) (N := 18) (n := 327681) (L := 0) (t := 2) dX8_checkBoth_34 rfl wi_73 m_682 (Nat.le_of_ble_eq_true rfl) rfl rfl hk10 hv12 ?_
    refine s_iload_n dX8_checkBoth_37 rfl ?_
    have hk13 : gK G4 (327703) = (1, 120) := ((hXG4).k az3k (by decide))
    refine s_alv (327703) (by simp) (fun al14 => ?_)
    have hv15 : -1 ≤ (gS G4 327703 (e : Int).toNat) ∧ (gS G4 327703 (e : Int).toNat) ≤ 119 := hCG4.1.v (j := (e : Int).toNat) (by decide : cde 327703 = 523) al14 (by rw [hk13]; show (e : Int).toNat < 120; omega)
    refine s_iald dX8_checkBoth_38 hk13 (by omega) (by omega) rfl ?_
    refine s_aload_n dX8_checkBoth_39 rfl (Int.natCast_nonneg _) ?_
    refine s_iload_n dX8_checkBoth_40 rfl ?_
    refine s_iconst dX8_checkBoth_41 (by decide) ?_
    refine s_iadd dX8_checkBoth_42 (by omega) ?_
    refine s_callV (as := [(0, gS G4 327703 ((e : Int).toNat)), (2, ((o : Nat) : Int)), (0, d + 1)]) (rest := []) (n := 327684) (ci := 9) ih dX8_checkBoth_43 m_1419 m_996 m_1719 m_722 m_344 ⟨by decide, by decide, show (parseMethodDescriptor yX8_check.desc).map (fun d => d.parameters.length) = some 3 from by decide +kernel⟩ (Nat.le_of_ble_eq_true rfl) (by rw [hcf]; omega) hk7 rfl rfl (Nat.le_of_ble_eq_true rfl) ⟨gS G4 327703 ((e : Int).toNat), d + 1, o, a, b, rfl, hCG4, hab, (by omega), (by omega), (by omega), (by assumption), (by exact hfzG4), fun rr17 G16 hCG16 hXG16 hfG16 hpG16 => ?_⟩
    have hFG16 : WX (fun x => x = 327684 ∨ x = 327690) G G16 := WX.trans hFG4 hXG4 (WX.mono hfG16 (fun x hx => by omega))
    show WP kX8_checkBoth X 46 [some (2, ((327684 : Nat) : Int)), some (0, e), some (2, ((o : Nat) : Int)), some (0, d), some (0, rr5)] [(0, rr17)] G16
    exact s_iret hR dX8_checkBoth_46 rfl (hQ rr17 G16 hCG16 (KX.trans hXG4 hXG16) hFG16 ⟨by omega, fun h => (hpG16.2.2.1 _ (hpG4.2.1 (by omega))), fun m hm => (hpG16.2.2.1 m (hpG4.2.2.1 m hm)), by omega⟩)
  · -- 21 to 24
    refine s_iload dX8_checkBoth_24 rfl ?_
    refine s_goto (tgt := 46) dX8_checkBoth_26 (by decide) ?_
    exact s_iret hR dX8_checkBoth_46 rfl (hQ rr5 G4 hCG4 hXG4 hFG4 ⟨by omega, fun h => (hpG4.2.1 (by omega)), fun m hm => (hpG4.2.2.1 m hm), by omega⟩)

abbrev kX8_checkAdd : KD := (RX8, cX8_checkAdd, 7, (some .int), [])
def TX8_checkAdd (m : Nat) : TR := fun as G Qr => ∃ (e d : Int) (o : Nat) (a b : Nat), as = [(2, ((327684 : Nat) : Int)), (0, e), (2, ((o : Nat) : Int)), (0, d)] ∧ CI a b G ∧ (a ≤ 2840000 ∧ b ≤ 590000) ∧ (0 ≤ e ∧ e < gS G 327681 12) ∧ (gS G 327701 e.toNat = 0) ∧ (d ≤ 12 ∧ 0 ≤ d ∧ 13 ≤ d + m) ∧ (gS G 327684 4 + 200 * (gS G 327705 e.toNat) ≤ 2412) ∧ (isFc o) ∧ (FSZ G o) ∧ ∀ (r : Int) (G' : LG), CI a b G' → KX G G' → WX (fun x => x = 327684 ∨ x = 327690) G G' → ((0 ≤ r ∧ r ≤ 8) ∧ (r = 0 → LST G' (gS G 327684 4 + 1)) ∧ (∀ m, LST G m → LST G' m) ∧ gS G' 327684 4 ≤ gS G 327684 4 + 200 * (gS G 327705 e.toNat)) → Qr (.inl (some (0, r))) G'
set_option maxHeartbeats 4000000 in
set_option maxRecDepth 100000 in
theorem gX8_checkAdd (m : Nat) (ih : Good kX8_check yX8_check (4 * m) (TX8_check m)) : Good kX8_checkAdd yX8_checkAdd (4 * m + 2) (TX8_checkAdd m) := by
  refine good_of (by decide) rfl rfl (fun as G Qr h => ?_) (fun X as G Qr hcf hR hT oa => ?_)
  · obtain ⟨e, d, o, a, b, rfl, -⟩ := h; exact Nat.le_of_ble_eq_true rfl
  obtain ⟨e, d, o, a, b, rfl, hC, hab, he, hk, hd, hw, ho, hsz, hQ⟩ := hT
  show WP kX8_checkAdd X 0 [some (2, ((327684 : Nat) : Int)), some (0, e), some (2, ((o : Nat) : Int)), some (0, d), none, none, none] [] G
  have hr_e : inR e := okv_R (oa _ (by simp))
  have hr_d : inR d := okv_R (oa _ (by simp))
  refine s_alvl 327684 (k := 0) rfl (fun al0 => ?_)
  obtain ⟨qs, Ls, hs1, hs2, hs3, hs4, hs5, hs6⟩ := hC.stk al0
  have h6 := hC.2.2.2.2.2.2.1.w (e := e) (by omega) (by omega)
  have hk1 : gK G (327684) = (17, 0) := hC.1.k (by decide : cde 327684 = 504) al0
  refine s_alh (327684) 0 al0 (by rw [hk1]; exact Nat.le_of_ble_eq_true rfl) (by rw [hk1]; rfl) (fun az0x => ?_)
  have az0v : gS G 327684 0 = ((327681 : Nat) : Int) := by have h9 : (gS G 327684 0) = 327681 := hC.1.v (j := 0) (by decide : cde 327684 = 504) al0 (by rw [hk1]; exact Nat.le_of_ble_eq_true rfl); omega
  have az0 : (gK G (327681)).1 ≠ 0 := by have h9 := az0x (by omega); rw [az0v, Int.toNat_natCast] at h9; exact h9
  have az0k : gK G (327681) = (14, 0) := hC.1.k (by decide : cde 327681 = 501) az0
  have hpe : 0 ≤ gS G 327681 12 ∧ gS G 327681 12 ≤ 120 := hC.1.v (j := 12) (by decide : cde 327681 = 501) az0 (by rw [az0k]; exact Nat.le_of_ble_eq_true rfl)
  refine s_alh (327681) 5 az0 (by rw [az0k]; exact Nat.le_of_ble_eq_true rfl) (by rw [az0k]; rfl) (fun az1x => ?_)
  have az1v : gS G 327681 5 = ((327701 : Nat) : Int) := by have h9 : (gS G 327681 5) = 327701 := hC.1.v (j := 5) (by decide : cde 327681 = 501) az0 (by rw [az0k]; exact Nat.le_of_ble_eq_true rfl); omega
  have az1 : (gK G (327701)).1 ≠ 0 := by have h9 := az1x (by omega); rw [az1v, Int.toNat_natCast] at h9; exact h9
  have az1k : gK G (327701) = (1, 120) := hC.1.k (by decide : cde 327701 = 521) az1
  refine s_alh (327681) 6 az0 (by rw [az0k]; exact Nat.le_of_ble_eq_true rfl) (by rw [az0k]; rfl) (fun az2x => ?_)
  have az2v : gS G 327681 6 = ((327702 : Nat) : Int) := by have h9 : (gS G 327681 6) = 327702 := hC.1.v (j := 6) (by decide : cde 327681 = 501) az0 (by rw [az0k]; exact Nat.le_of_ble_eq_true rfl); omega
  have az2 : (gK G (327702)).1 ≠ 0 := by have h9 := az2x (by omega); rw [az2v, Int.toNat_natCast] at h9; exact h9
  have az2k : gK G (327702) = (1, 120) := hC.1.k (by decide : cde 327702 = 522) az2
  refine s_alh (327681) 7 az0 (by rw [az0k]; exact Nat.le_of_ble_eq_true rfl) (by rw [az0k]; rfl) (fun az3x => ?_)
  have az3v : gS G 327681 7 = ((327703 : Nat) : Int) := by have h9 : (gS G 327681 7) = 327703 := hC.1.v (j := 7) (by decide : cde 327681 = 501) az0 (by rw [az0k]; exact Nat.le_of_ble_eq_true rfl); omega
  have az3 : (gK G (327703)).1 ≠ 0 := by have h9 := az3x (by omega); rw [az3v, Int.toNat_natCast] at h9; exact h9
  have az3k : gK G (327703) = (1, 120) := hC.1.k (by decide : cde 327703 = 523) az3
  refine s_alh (327681) 8 az0 (by rw [az0k]; exact Nat.le_of_ble_eq_true rfl) (by rw [az0k]; rfl) (fun az4x => ?_)
  have az4v : gS G 327681 8 = ((327704 : Nat) : Int) := by have h9 : (gS G 327681 8) = 327704 := hC.1.v (j := 8) (by decide : cde 327681 = 501) az0 (by rw [az0k]; exact Nat.le_of_ble_eq_true rfl); omega
  have az4 : (gK G (327704)).1 ≠ 0 := by have h9 := az4x (by omega); rw [az4v, Int.toNat_natCast] at h9; exact h9
  have az4k : gK G (327704) = (1, 120) := hC.1.k (by decide : cde 327704 = 524) az4
  refine s_alh (327681) 9 az0 (by rw [az0k]; exact Nat.le_of_ble_eq_true rfl) (by rw [az0k]; rfl) (fun az5x => ?_)
  have az5v : gS G 327681 9 = ((327705 : Nat) : Int) := by have h9 : (gS G 327681 9) = 327705 := hC.1.v (j := 9) (by decide : cde 327681 = 501) az0 (by rw [az0k]; exact Nat.le_of_ble_eq_true rfl); omega
  have az5 : (gK G (327705)).1 ≠ 0 := by have h9 := az5x (by omega); rw [az5v, Int.toNat_natCast] at h9; exact h9
  have az5k : gK G (327705) = (1, 120) := hC.1.k (by decide : cde 327705 = 525) az5
  refine s_aload_n dX8_checkAdd_0 rfl (Int.natCast_nonneg _) ?_
  have hv2 : 0 ≤ (gS G 327684 4) ∧ (gS G 327684 4) ≤ 2412 := hC.1.v (j := 4) (by decide : cde 327684 = 504) al0 (by rw [hk1]; exact Nat.le_of_ble_eq_true rfl)
  refine s_getf (ci := 9) (k := 4) (C := RX8) (T := TX8) (N := 5) (n := 327684) (L := 0) (t := 0) dX8_checkAdd_1 rfl wi_76 m_676 (Nat.le_of_ble_eq_true rfl) rfl rfl hk1 rfl ?_
  refine s_istore dX8_checkAdd_4 (by decide) (lv' := [some (2, ((327684 : Nat) : Int)), some (0, e), some (2, ((o : Nat) : Int)), some (0, d), some (0, gS G 327684 4), none, none]) rfl ?_
  refine s_aload_n dX8_checkAdd_6 rfl (Int.natCast_nonneg _) ?_
  refine s_iload_n dX8_checkAdd_7 rfl ?_
  refine s_aload_n dX8_checkAdd_8 rfl (Int.natCast_nonneg _) ?_
  refine s_iload_n dX8_checkAdd_9 rfl ?_
  refine s_callV (as := [(0, e), (2, ((o : Nat) : Int)), (0, d)]) (rest := []) (n := 327684) (ci := 9) (gX8_checkBoth m ih) dX8_checkAdd_10 m_1425 m_998 m_1721 m_722 m_346 ⟨by decide, by decide, show (parseMethodDescriptor yX8_checkBoth.desc).map (fun d => d.parameters.length) = some 3 from by decide +kernel⟩ (Nat.le_of_ble_eq_true rfl) (by rw [hcf]; omega) hk1 rfl rfl (Nat.le_of_ble_eq_true rfl) ⟨e, d, o, a, b, rfl, hC, hab, (by omega), (by omega), (by omega), (by omega), (by assumption), (by assumption), fun rr4 G3 hCG3 hXG3 hfG3 hpG3 => ?_⟩
  have hFG3 : WX (fun x => x = 327684 ∨ x = 327690) G G3 := WX.trans WX.rf KX.rf (WX.mono hfG3 (fun x hx => by omega))
  show WP kX8_checkAdd X 13 [some (2, ((327684 : Nat) : Int)), some (0, e), some (2, ((o : Nat) : Int)), some (0, d), some (0, gS G 327684 4), none, none] [(0, rr4)] G3
  have hpcG3 : gS G3 327681 = gS G 327681 := hFG3 327681 az0 (by show ¬ _; omega)
  have hp1G3 : gS G3 327701 = gS G 327701 := hFG3 327701 az1 (by show ¬ _; omega)
  have hp2G3 : gS G3 327702 = gS G 327702 := hFG3 327702 az2 (by show ¬ _; omega)
  have hp3G3 : gS G3 327703 = gS G 327703 := hFG3 327703 az3 (by show ¬ _; omega)
  have hp4G3 : gS G3 327704 = gS G 327704 := hFG3 327704 az4 (by show ¬ _; omega)
  have hp5G3 : gS G3 327705 = gS G 327705 := hFG3 327705 az5 (by show ¬ _; omega)
  have hpnG3 : gS G3 327681 12 = gS G 327681 12 := by rw [hpcG3]
  have hq1G3 : gS G3 327701 e.toNat = gS G 327701 e.toNat := by rw [hp1G3]
  have hq2G3 : gS G3 327702 e.toNat = gS G 327702 e.toNat := by rw [hp2G3]
  have hq3G3 : gS G3 327703 e.toNat = gS G 327703 e.toNat := by rw [hp3G3]
  have hq4G3 : gS G3 327704 e.toNat = gS G 327704 e.toNat := by rw [hp4G3]
  have hq5G3 : gS G3 327705 e.toNat = gS G 327705 e.toNat := by rw [hp5G3]
  have hw2G3 : gS G3 327705 (gS G3 327702 e.toNat).toNat = gS G 327705 (gS G 327702 e.toNat).toNat := by rw [hp5G3, hp2G3]
  have hw3G3 : gS G3 327705 (gS G3 327703 e.toNat).toNat = gS G 327705 (gS G 327703 e.toNat).toNat := by rw [hp5G3, hp3G3]
  have hw4G3 : gS G3 327705 (gS G3 327704 e.toNat).toNat = gS G 327705 (gS G 327704 e.toNat).toNat := by rw [hp5G3, hp4G3]
  have hfzG3 := hsz.wx hXG3 hFG3 (by show ¬ _; omega) (by show ¬ _; omega)
  refine s_istore dX8_checkAdd_13 (by decide) (lv' := [some (2, ((327684 : Nat) : Int)), some (0, e), some (2, ((o : Nat) : Int)), some (0, d), some (0, gS G 327684 4), some (0, rr4), none]) rfl ?_
  refine s_iload dX8_checkAdd_15 rfl ?_
  refine s_if_eq (tgt := 23) dX8_checkAdd_17 (by decide) (fun c5 => ?_) (fun c5 => ?_)
  · -- 17 to 23
    refine s_aload_n dX8_checkAdd_23 rfl (Int.natCast_nonneg _) ?_
    have hk6 : gK G3 (327684) = (17, 0) := ((hXG3).k hk1 (by decide))
    refine s_alv (327684) (by simp) (fun al8 => ?_)
    have hv7 : 0 ≤ (gS G3 327684 4) ∧ (gS G3 327684 4) ≤ 2412 := hCG3.1.v (j := 4) (by decide : cde 327684 = 504) al8 (by rw [hk6]; exact Nat.le_of_ble_eq_true rfl)
    refine s_getf (ci := 9) (k := 4) (C := RX8) (T := TX8) (N := 5) (n := 327684) (L := 0) (t := 0) dX8_checkAdd_24 rfl wi_76 m_676 (Nat.le_of_ble_eq_true rfl) rfl rfl hk6 rfl ?_
    refine s_iload dX8_checkAdd_27 rfl ?_
    refine s_iconst dX8_checkAdd_29 (by decide) ?_
    refine s_iadd dX8_checkAdd_30 (by omega) ?_
    refine s_icmp_ne (tgt := 58) dX8_checkAdd_31 (by decide) (fun c9 => ?_) (fun c9 => ?_)
    · -- 31 to 58
      refine s_iconst dX8_checkAdd_58 (by decide) ?_
      refine s_istore dX8_checkAdd_59 (by decide) (lv' := [some (2, ((327684 : Nat) : Int)), some (0, e), some (2, ((o : Nat) : Int)), some (0, d), some (0, gS G 327684 4), some (0, rr4), some (0, 0)]) rfl ?_
      obtain ⟨q9, L9, hczG3, hkzG3, hl9⟩ := hpG3.2.1 (by omega)
      refine s_aload_n dX8_checkAdd_61 rfl (Int.natCast_nonneg _) ?_
      refine s_iload dX8_checkAdd_62 rfl ?_
      refine s_iconst dX8_checkAdd_64 (by decide) ?_
      refine s_iadd dX8_checkAdd_65 (by omega) ?_
      refine s_putf (ci := 9) (k := 4) (C := RX8) (T := TX8) (N := 5) (n := 327684) (L := 0) dX8_checkAdd_66 rfl wi_76 m_676 (Nat.le_of_ble_eq_true rfl) rfl rfl tyX8_ok nmX8 rfl (Or.inl rfl) hk6 ?_
      generalize eG10r : gset G3 327684 4 ((gS G 327684 4) + 1) = G10
      have eG10 := eG10r.symm
      have hCG10 : CI a b G10 := by rw [eG10]; exact hCG3.top hczG3 hkzG3 (by omega) (by omega)
      have hXG10 : KX G3 G10 := KX.set KX.rf eG10
      have hFG10 : WX (fun x => x = 327684 ∨ x = 327690) G G10 := WX.set hFG3 eG10 (by show _; first | decide | omega)
      show WP kX8_checkAdd X 69 [some (2, ((327684 : Nat) : Int)), some (0, e), some (2, ((o : Nat) : Int)), some (0, d), some (0, gS G 327684 4), some (0, rr4), some (0, 0)] [] G10
      refine s_iload dX8_checkAdd_69 rfl ?_
      have J12 : ∀ z11 : Int, ((((0 : Int)) = 0) ∧ z11 = 2) ∨ ((¬ ((0 : Int)) = 0) ∧ z11 = 0) → WP kX8_checkAdd X 79 [some (2, ((327684 : Nat) : Int)), some (0, e), some (2, ((o : Nat) : Int)), some (0, d), some (0, gS G 327684 4), some (0, rr4), some (0, 0)] [(0, z11)] G10 := by
        intro z11 hz11
        exact s_iret hR dX8_checkAdd_79 rfl (hQ z11 G10 hCG10 (KX.trans hXG3 hXG10) hFG10 ⟨by omega, fun h => ((LST.tp eG10) _ (hpG3.2.1 (by omega))), fun m hm => ((LST.tp eG10) m (hpG3.2.2.1 m hm)), by have h9 := gsaE eG10; omega⟩)
      refine s_if_eq (tgt := 78) dX8_checkAdd_71 (by decide) (fun c13 => ?_) (fun c13 => ?_)
      · -- 71 to 78
        refine s_iconst dX8_checkAdd_78 (by decide) ?_
        exact J12 2 (Or.inl ⟨c13, rfl⟩)
      · -- 71 to 74
        refine s_iconst dX8_checkAdd_74 (by decide) ?_
        refine s_goto (tgt := 79) dX8_checkAdd_75 (by decide) ?_
        exact J12 0 (Or.inr (⟨c13, rfl⟩))
    · -- 31 to 34
      refine s_aload_n dX8_checkAdd_34 rfl (Int.natCast_nonneg _) ?_
      refine s_iload dX8_checkAdd_35 rfl ?_
      refine s_callV (as := [(0, gS G 327684 4)]) (rest := []) (n := 327684) (ci := 9) gX8_isIntAt dX8_checkAdd_37 m_1431 m_1009 m_1731 m_722 m_357 ⟨by decide, by decide, show (parseMethodDescriptor yX8_isIntAt.desc).map (fun d => d.parameters.length) = some 1 from by decide +kernel⟩ (Nat.le_of_ble_eq_true rfl) (by rw [hcf]; omega) hk6 rfl rfl (Nat.le_of_ble_eq_true rfl) ⟨gS G 327684 4, a, b, rfl, hCG3, hab, (by first | assumption | omega), fun rr14 hp15 => ?_⟩
      show WP kX8_checkAdd X 40 [some (2, ((327684 : Nat) : Int)), some (0, e), some (2, ((o : Nat) : Int)), some (0, d), some (0, gS G 327684 4), some (0, rr4), none] [(0, rr14)] G3
      refine s_if_eq (tgt := 58) dX8_checkAdd_40 (by decide) (fun c16 => ?_) (fun c16 => ?_)
      · -- 40 to 58
        refine s_iconst dX8_checkAdd_58 (by decide) ?_
        refine s_istore dX8_checkAdd_59 (by decide) (lv' := [some (2, ((327684 : Nat) : Int)), some (0, e), some (2, ((o : Nat) : Int)), some (0, d), some (0, gS G 327684 4), some (0, rr4), some (0, 0)]) rfl ?_
        obtain ⟨q9, L9, hczG3, hkzG3, hl9⟩ := hpG3.2.1 (by omega)
        refine s_aload_n dX8_checkAdd_61 rfl (Int.natCast_nonneg _) ?_
        refine s_iload dX8_checkAdd_62 rfl ?_
        refine s_iconst dX8_checkAdd_64 (by decide) ?_
        refine s_iadd dX8_checkAdd_65 (by omega) ?_
        refine s_putf (ci := 9) (k := 4) (C := RX8) (T := TX8) (N := 5) (n := 327684) (L := 0) dX8_checkAdd_66 rfl wi_76 m_676 (Nat.le_of_ble_eq_true rfl) rfl rfl tyX8_ok nmX8 rfl (Or.inl rfl) hk6 ?_
        generalize eG17r : gset G3 327684 4 ((gS G 327684 4) + 1) = G17
        have eG17 := eG17r.symm
        have hCG17 : CI a b G17 := by rw [eG17]; exact hCG3.top hczG3 hkzG3 (by omega) (by omega)
        have hXG17 : KX G3 G17 := KX.set KX.rf eG17
        have hFG17 : WX (fun x => x = 327684 ∨ x = 327690) G G17 := WX.set hFG3 eG17 (by show _; first | decide | omega)
        show WP kX8_checkAdd X 69 [some (2, ((327684 : Nat) : Int)), some (0, e), some (2, ((o : Nat) : Int)), some (0, d), some (0, gS G 327684 4), some (0, rr4), some (0, 0)] [] G17
        refine s_iload dX8_checkAdd_69 rfl ?_
        have J19 : ∀ z18 : Int, ((((0 : Int)) = 0) ∧ z18 = 2) ∨ ((¬ ((0 : Int)) = 0) ∧ z18 = 0) → WP kX8_checkAdd X 79 [some (2, ((327684 : Nat) : Int)), some (0, e), some (2, ((o : Nat) : Int)), some (0, d), some (0, gS G 327684 4), some (0, rr4), some (0, 0)] [(0, z18)] G17 := by
          intro z18 hz18
          exact s_iret hR dX8_checkAdd_79 rfl (hQ z18 G17 hCG17 (KX.trans hXG3 hXG17) hFG17 ⟨by omega, fun h => ((LST.tp eG17) _ (hpG3.2.1 (by omega))), fun m hm => ((LST.tp eG17) m (hpG3.2.2.1 m hm)), by have h9 := gsaE eG17; omega⟩)
        refine s_if_eq (tgt := 78) dX8_checkAdd_71 (by decide) (fun c20 => ?_) (fun c20 => ?_)
        · -- 71 to 78
          refine s_iconst dX8_checkAdd_78 (by decide) ?_
          exact J19 2 (Or.inl ⟨c20, rfl⟩)
        · -- 71 to 74
          refine s_iconst dX8_checkAdd_74 (by decide) ?_
          refine s_goto (tgt := 79) dX8_checkAdd_75 (by decide) ?_
          exact J19 0 (Or.inr (⟨c20, rfl⟩))
      · -- 40 to 43
        refine s_aload_n dX8_checkAdd_43 rfl (Int.natCast_nonneg _) ?_
        refine s_iload dX8_checkAdd_44 rfl ?_
        refine s_iconst dX8_checkAdd_46 (by decide) ?_
        refine s_iadd dX8_checkAdd_47 (by omega) ?_
        refine s_callV (as := [(0, (gS G 327684 4) + 1)]) (rest := []) (n := 327684) (ci := 9) gX8_isIntAt dX8_checkAdd_48 m_1431 m_1009 m_1731 m_722 m_357 ⟨by decide, by decide, show (parseMethodDescriptor yX8_isIntAt.desc).map (fun d => d.parameters.length) = some 1 from by decide +kernel⟩ (Nat.le_of_ble_eq_true rfl) (by rw [hcf]; omega) hk6 rfl rfl (Nat.le_of_ble_eq_true rfl) ⟨(gS G 327684 4) + 1, a, b, rfl, hCG3, hab, (by first | assumption | omega), fun rr21 hp22 => ?_⟩
        show WP kX8_checkAdd X 51 [some (2, ((327684 : Nat) : Int)), some (0, e), some (2, ((o : Nat) : Int)), some (0, d), some (0, gS G 327684 4), some (0, rr4), none] [(0, rr21)] G3
        have J24 : ∀ z23 : Int, ((rr21 = 0) ∧ z23 = 0) ∨ ((¬ rr21 = 0) ∧ z23 = 1) → WP kX8_checkAdd X 59 [some (2, ((327684 : Nat) : Int)), some (0, e), some (2, ((o : Nat) : Int)), some (0, d), some (0, gS G 327684 4), some (0, rr4), none] [(0, z23)] G3 := by
          intro z23 hz23
          refine s_istore dX8_checkAdd_59 (by decide) (lv' := [some (2, ((327684 : Nat) : Int)), some (0, e), some (2, ((o : Nat) : Int)), some (0, d), some (0, gS G 327684 4), some (0, rr4), some (0, z23)]) rfl ?_
          obtain ⟨q9, L9, hczG3, hkzG3, hl9⟩ := hpG3.2.1 (by omega)
          refine s_aload_n dX8_checkAdd_61 rfl (Int.natCast_nonneg _) ?_
          refine s_iload dX8_checkAdd_62 rfl ?_
          refine s_iconst dX8_checkAdd_64 (by decide) ?_
          refine s_iadd dX8_checkAdd_65 (by omega) ?_
          refine s_putf (ci := 9) (k := 4) (C := RX8) (T := TX8) (N := 5) (n := 327684) (L := 0) dX8_checkAdd_66 rfl wi_76 m_676 (Nat.le_of_ble_eq_true rfl) rfl rfl tyX8_ok nmX8 rfl (Or.inl rfl) hk6 ?_
          generalize eG25r : gset G3 327684 4 ((gS G 327684 4) + 1) = G25
          have eG25 := eG25r.symm
          have hCG25 : CI a b G25 := by rw [eG25]; exact hCG3.top hczG3 hkzG3 (by omega) (by omega)
          have hXG25 : KX G3 G25 := KX.set KX.rf eG25
          have hFG25 : WX (fun x => x = 327684 ∨ x = 327690) G G25 := WX.set hFG3 eG25 (by show _; first | decide | omega)
          show WP kX8_checkAdd X 69 [some (2, ((327684 : Nat) : Int)), some (0, e), some (2, ((o : Nat) : Int)), some (0, d), some (0, gS G 327684 4), some (0, rr4), some (0, z23)] [] G25
          refine s_iload dX8_checkAdd_69 rfl ?_
          have J27 : ∀ z26 : Int, ((z23 = 0) ∧ z26 = 2) ∨ ((¬ z23 = 0) ∧ z26 = 0) → WP kX8_checkAdd X 79 [some (2, ((327684 : Nat) : Int)), some (0, e), some (2, ((o : Nat) : Int)), some (0, d), some (0, gS G 327684 4), some (0, rr4), some (0, z23)] [(0, z26)] G25 := by
            intro z26 hz26
            exact s_iret hR dX8_checkAdd_79 rfl (hQ z26 G25 hCG25 (KX.trans hXG3 hXG25) hFG25 ⟨by omega, fun h => ((LST.tp eG25) _ (hpG3.2.1 (by omega))), fun m hm => ((LST.tp eG25) m (hpG3.2.2.1 m hm)), by have h9 := gsaE eG25; omega⟩)
          refine s_if_eq (tgt := 78) dX8_checkAdd_71 (by decide) (fun c28 => ?_) (fun c28 => ?_)
          · -- 71 to 78
            refine s_iconst dX8_checkAdd_78 (by decide) ?_
            exact J27 2 (Or.inl ⟨c28, rfl⟩)
          · -- 71 to 74
            refine s_iconst dX8_checkAdd_74 (by decide) ?_
            refine s_goto (tgt := 79) dX8_checkAdd_75 (by decide) ?_
            exact J27 0 (Or.inr (⟨c28, rfl⟩))
        refine s_if_eq (tgt := 58) dX8_checkAdd_51 (by decide) (fun c29 => ?_) (fun c29 => ?_)
        · -- 51 to 58
          refine s_iconst dX8_checkAdd_58 (by decide) ?_
          exact J24 0 (Or.inl ⟨c29, rfl⟩)
        · -- 51 to 54
          refine s_iconst dX8_checkAdd_54 (by decide) ?_
          refine s_goto (tgt := 59) dX8_checkAdd_55 (by decide) ?_
          exact J24 1 (Or.inr (⟨c29, rfl⟩))
  · -- 17 to 20
    refine s_iload dX8_checkAdd_20 rfl ?_
    exact s_iret hR dX8_checkAdd_22 rfl (hQ rr4 G3 hCG3 hXG3 hFG3 ⟨by omega, fun h => (hpG3.2.1 (by omega)), fun m hm => (hpG3.2.2.1 m hm), by omega⟩)

abbrev kX8_checkWhen : KD := (RX8, cX8_checkWhen, 10, (some .int), [])
def TX8_checkWhen (m : Nat) : TR := fun as G Qr => ∃ (e d : Int) (o : Nat) (a b : Nat), as = [(2, ((327684 : Nat) : Int)), (0, e), (2, ((o : Nat) : Int)), (0, d)] ∧ CI a b G ∧ (a ≤ 2840000 ∧ b ≤ 590000) ∧ (0 ≤ e ∧ e < gS G 327681 12) ∧ (gS G 327701 e.toNat = 4) ∧ (d ≤ 12 ∧ 0 ≤ d ∧ 13 ≤ d + m) ∧ (gS G 327684 4 + 200 * (gS G 327705 e.toNat) ≤ 2412) ∧ (isFc o) ∧ (FSZ G o) ∧ ∀ (r : Int) (G' : LG), CI a b G' → KX G G' → WX (fun x => x = 327684 ∨ x = 327690) G G' → ((0 ≤ r ∧ r ≤ 8) ∧ (r = 0 → LST G' (gS G 327684 4 + 1)) ∧ (∀ m, LST G m → LST G' m) ∧ gS G' 327684 4 ≤ gS G 327684 4 + 200 * (gS G 327705 e.toNat)) → Qr (.inl (some (0, r))) G'
set_option maxHeartbeats 4000000 in
set_option maxRecDepth 100000 in
theorem gX8_checkWhen (m : Nat) (ih : Good kX8_check yX8_check (4 * m) (TX8_check m)) : Good kX8_checkWhen yX8_checkWhen (4 * m + 2) (TX8_checkWhen m) := by
  refine good_of (by decide) rfl rfl (fun as G Qr h => ?_) (fun X as G Qr hcf hR hT oa => ?_)
  · obtain ⟨e, d, o, a, b, rfl, -⟩ := h; exact Nat.le_of_ble_eq_true rfl
  obtain ⟨e, d, o, a, b, rfl, hC, hab, he, hk, hd, hw, ho, hsz, hQ⟩ := hT
  show WP kX8_checkWhen X 0 [some (2, ((327684 : Nat) : Int)), some (0, e), some (2, ((o : Nat) : Int)), some (0, d), none, none, none, none, none, none] [] G
  have hr_e : inR e := okv_R (oa _ (by simp))
  have hr_d : inR d := okv_R (oa _ (by simp))
  refine s_alvl 327684 (k := 0) rfl (fun al0 => ?_)
  obtain ⟨qs, Ls, hs1, hs2, hs3, hs4, hs5, hs6⟩ := hC.stk al0
  have h6 := hC.2.2.2.2.2.2.1.w (e := e) (by omega) (by omega)
  have hk1 : gK G (327684) = (17, 0) := hC.1.k (by decide : cde 327684 = 504) al0
  refine s_alh (327684) 0 al0 (by rw [hk1]; exact Nat.le_of_ble_eq_true rfl) (by rw [hk1]; rfl) (fun az0x => ?_)
  have az0v : gS G 327684 0 = ((327681 : Nat) : Int) := by have h9 : (gS G 327684 0) = 327681 := hC.1.v (j := 0) (by decide : cde 327684 = 504) al0 (by rw [hk1]; exact Nat.le_of_ble_eq_true rfl); omega
  have az0 : (gK G (327681)).1 ≠ 0 := by have h9 := az0x (by omega); rw [az0v, Int.toNat_natCast] at h9; exact h9
  have az0k : gK G (327681) = (14, 0) := hC.1.k (by decide : cde 327681 = 501) az0
  have hpe : 0 ≤ gS G 327681 12 ∧ gS G 327681 12 ≤ 120 := hC.1.v (j := 12) (by decide : cde 327681 = 501) az0 (by rw [az0k]; exact Nat.le_of_ble_eq_true rfl)
  refine s_alh (327681) 5 az0 (by rw [az0k]; exact Nat.le_of_ble_eq_true rfl) (by rw [az0k]; rfl) (fun az1x => ?_)
  have az1v : gS G 327681 5 = ((327701 : Nat) : Int) := by have h9 : (gS G 327681 5) = 327701 := hC.1.v (j := 5) (by decide : cde 327681 = 501) az0 (by rw [az0k]; exact Nat.le_of_ble_eq_true rfl); omega
  have az1 : (gK G (327701)).1 ≠ 0 := by have h9 := az1x (by omega); rw [az1v, Int.toNat_natCast] at h9; exact h9
  have az1k : gK G (327701) = (1, 120) := hC.1.k (by decide : cde 327701 = 521) az1
  refine s_alh (327681) 6 az0 (by rw [az0k]; exact Nat.le_of_ble_eq_true rfl) (by rw [az0k]; rfl) (fun az2x => ?_)
  have az2v : gS G 327681 6 = ((327702 : Nat) : Int) := by have h9 : (gS G 327681 6) = 327702 := hC.1.v (j := 6) (by decide : cde 327681 = 501) az0 (by rw [az0k]; exact Nat.le_of_ble_eq_true rfl); omega
  have az2 : (gK G (327702)).1 ≠ 0 := by have h9 := az2x (by omega); rw [az2v, Int.toNat_natCast] at h9; exact h9
  have az2k : gK G (327702) = (1, 120) := hC.1.k (by decide : cde 327702 = 522) az2
  refine s_alh (327681) 7 az0 (by rw [az0k]; exact Nat.le_of_ble_eq_true rfl) (by rw [az0k]; rfl) (fun az3x => ?_)
  have az3v : gS G 327681 7 = ((327703 : Nat) : Int) := by have h9 : (gS G 327681 7) = 327703 := hC.1.v (j := 7) (by decide : cde 327681 = 501) az0 (by rw [az0k]; exact Nat.le_of_ble_eq_true rfl); omega
  have az3 : (gK G (327703)).1 ≠ 0 := by have h9 := az3x (by omega); rw [az3v, Int.toNat_natCast] at h9; exact h9
  have az3k : gK G (327703) = (1, 120) := hC.1.k (by decide : cde 327703 = 523) az3
  refine s_alh (327681) 8 az0 (by rw [az0k]; exact Nat.le_of_ble_eq_true rfl) (by rw [az0k]; rfl) (fun az4x => ?_)
  have az4v : gS G 327681 8 = ((327704 : Nat) : Int) := by have h9 : (gS G 327681 8) = 327704 := hC.1.v (j := 8) (by decide : cde 327681 = 501) az0 (by rw [az0k]; exact Nat.le_of_ble_eq_true rfl); omega
  have az4 : (gK G (327704)).1 ≠ 0 := by have h9 := az4x (by omega); rw [az4v, Int.toNat_natCast] at h9; exact h9
  have az4k : gK G (327704) = (1, 120) := hC.1.k (by decide : cde 327704 = 524) az4
  refine s_alh (327681) 9 az0 (by rw [az0k]; exact Nat.le_of_ble_eq_true rfl) (by rw [az0k]; rfl) (fun az5x => ?_)
  have az5v : gS G 327681 9 = ((327705 : Nat) : Int) := by have h9 : (gS G 327681 9) = 327705 := hC.1.v (j := 9) (by decide : cde 327681 = 501) az0 (by rw [az0k]; exact Nat.le_of_ble_eq_true rfl); omega
  have az5 : (gK G (327705)).1 ≠ 0 := by have h9 := az5x (by omega); rw [az5v, Int.toNat_natCast] at h9; exact h9
  have az5k : gK G (327705) = (1, 120) := hC.1.k (by decide : cde 327705 = 525) az5
  refine s_aload_n dX8_checkWhen_0 rfl (Int.natCast_nonneg _) ?_
  have hv2 : 0 ≤ (gS G 327684 4) ∧ (gS G 327684 4) ≤ 2412 := hC.1.v (j := 4) (by decide : cde 327684 = 504) al0 (by rw [hk1]; exact Nat.le_of_ble_eq_true rfl)
  refine s_getf (ci := 9) (k := 4) (C := RX8) (T := TX8) (N := 5) (n := 327684) (L := 0) (t := 0) dX8_checkWhen_1 rfl wi_76 m_676 (Nat.le_of_ble_eq_true rfl) rfl rfl hk1 rfl ?_
  refine s_istore dX8_checkWhen_4 (by decide) (lv' := [some (2, ((327684 : Nat) : Int)), some (0, e), some (2, ((o : Nat) : Int)), some (0, d), some (0, gS G 327684 4), none, none, none, none, none]) rfl ?_
  refine s_aload_n dX8_checkWhen_6 rfl (Int.natCast_nonneg _) ?_
  refine s_aload_n dX8_checkWhen_7 rfl (Int.natCast_nonneg _) ?_
  have hv3 : gS G 327684 0 = ((327681 : Nat) : Int) := by have h9 : (gS G 327684 0) = 327681 := hC.1.v (j := 0) (by decide : cde 327684 = 504) al0 (by rw [hk1]; exact Nat.le_of_ble_eq_true rfl); omega
  refine s_getf (ci := 9) (k := 0) (C := RX8) (T := TX8) (N := 5) (n := 327684) (L := 0) (t := 2) dX8_checkWhen_8 rfl wi_76 m_681 (Nat.le_of_ble_eq_true rfl) rfl rfl hk1 hv3 ?_
  have hv4 : gS G 327681 6 = ((327702 : Nat) : Int) := by have h9 : (gS G 327681 6) = 327702 := hC.1.v (j := 6) (by decide : cde 327681 = 501) az0 (by rw [az0k]; exact Nat.le_of_ble_eq_true rfl); omega
  refine s_getf (ci := 6) (k := 6) (C := RX5) (T := TX5) (N := 18) (n := 327681) (L := 0) (t := 2) dX8_checkWhen_11 rfl wi_73 m_675 (Nat.le_of_ble_eq_true rfl) rfl rfl az0k hv4 ?_
  refine s_iload_n dX8_checkWhen_14 rfl ?_
  refine s_iald dX8_checkWhen_15 az2k (by omega) (by omega) rfl ?_
  refine s_aload_n dX8_checkWhen_16 rfl (Int.natCast_nonneg _) ?_
  refine s_iload_n dX8_checkWhen_17 rfl ?_
  refine s_iconst dX8_checkWhen_18 (by decide) ?_
  refine s_iadd dX8_checkWhen_19 (by omega) ?_
  refine s_callV (as := [(0, gS G 327702 ((e : Int).toNat)), (2, ((o : Nat) : Int)), (0, d + 1)]) (rest := []) (n := 327684) (ci := 9) ih dX8_checkWhen_20 m_1419 m_996 m_1719 m_722 m_344 ⟨by decide, by decide, show (parseMethodDescriptor yX8_check.desc).map (fun d => d.parameters.length) = some 3 from by decide +kernel⟩ (Nat.le_of_ble_eq_true rfl) (by rw [hcf]; omega) hk1 rfl rfl (Nat.le_of_ble_eq_true rfl) ⟨gS G 327702 ((e : Int).toNat), d + 1, o, a, b, rfl, hC, hab, (by omega), (by omega), (by omega), (by assumption), (by assumption), fun rr6 G5 hCG5 hXG5 hfG5 hpG5 => ?_⟩
  have hFG5 : WX (fun x => x = 327684 ∨ x = 327690) G G5 := WX.trans WX.rf KX.rf (WX.mono hfG5 (fun x hx => by omega))
  show WP kX8_checkWhen X 23 [some (2, ((327684 : Nat) : Int)), some (0, e), some (2, ((o : Nat) : Int)), some (0, d), some (0, gS G 327684 4), none, none, none, none, none] [(0, rr6)] G5
  have hpcG5 : gS G5 327681 = gS G 327681 := hFG5 327681 az0 (by show ¬ _; omega)
  have hp1G5 : gS G5 327701 = gS G 327701 := hFG5 327701 az1 (by show ¬ _; omega)
  have hp2G5 : gS G5 327702 = gS G 327702 := hFG5 327702 az2 (by show ¬ _; omega)
  have hp3G5 : gS G5 327703 = gS G 327703 := hFG5 327703 az3 (by show ¬ _; omega)
  have hp4G5 : gS G5 327704 = gS G 327704 := hFG5 327704 az4 (by show ¬ _; omega)
  have hp5G5 : gS G5 327705 = gS G 327705 := hFG5 327705 az5 (by show ¬ _; omega)
  have hpnG5 : gS G5 327681 12 = gS G 327681 12 := by rw [hpcG5]
  have hq1G5 : gS G5 327701 e.toNat = gS G 327701 e.toNat := by rw [hp1G5]
  have hq2G5 : gS G5 327702 e.toNat = gS G 327702 e.toNat := by rw [hp2G5]
  have hq3G5 : gS G5 327703 e.toNat = gS G 327703 e.toNat := by rw [hp3G5]
  have hq4G5 : gS G5 327704 e.toNat = gS G 327704 e.toNat := by rw [hp4G5]
  have hq5G5 : gS G5 327705 e.toNat = gS G 327705 e.toNat := by rw [hp5G5]
  have hw2G5 : gS G5 327705 (gS G5 327702 e.toNat).toNat = gS G 327705 (gS G 327702 e.toNat).toNat := by rw [hp5G5, hp2G5]
  have hw3G5 : gS G5 327705 (gS G5 327703 e.toNat).toNat = gS G 327705 (gS G 327703 e.toNat).toNat := by rw [hp5G5, hp3G5]
  have hw4G5 : gS G5 327705 (gS G5 327704 e.toNat).toNat = gS G 327705 (gS G 327704 e.toNat).toNat := by rw [hp5G5, hp4G5]
  have hfzG5 := hsz.wx hXG5 hFG5 (by show ¬ _; omega) (by show ¬ _; omega)
  refine s_istore dX8_checkWhen_23 (by decide) (lv' := [some (2, ((327684 : Nat) : Int)), some (0, e), some (2, ((o : Nat) : Int)), some (0, d), some (0, gS G 327684 4), some (0, rr6), none, none, none, none]) rfl ?_
  refine s_iload dX8_checkWhen_25 rfl ?_
  refine s_if_eq (tgt := 33) dX8_checkWhen_27 (by decide) (fun c7 => ?_) (fun c7 => ?_)
  · -- 27 to 33
    refine s_aload_n dX8_checkWhen_33 rfl (Int.natCast_nonneg _) ?_
    have hk8 : gK G5 (327684) = (17, 0) := ((hXG5).k hk1 (by decide))
    refine s_alv (327684) (by simp) (fun al10 => ?_)
    have hv9 : 0 ≤ (gS G5 327684 4) ∧ (gS G5 327684 4) ≤ 2412 := hCG5.1.v (j := 4) (by decide : cde 327684 = 504) al10 (by rw [hk8]; exact Nat.le_of_ble_eq_true rfl)
    refine s_getf (ci := 9) (k := 4) (C := RX8) (T := TX8) (N := 5) (n := 327684) (L := 0) (t := 0) dX8_checkWhen_34 rfl wi_76 m_676 (Nat.le_of_ble_eq_true rfl) rfl rfl hk8 rfl ?_
    refine s_iload dX8_checkWhen_37 rfl ?_
    refine s_iconst dX8_checkWhen_39 (by decide) ?_
    refine s_iadd dX8_checkWhen_40 (by omega) ?_
    refine s_icmp_ne (tgt := 57) dX8_checkWhen_41 (by decide) (fun c11 => ?_) (fun c11 => ?_)
    · -- 41 to 57
      refine s_iconst dX8_checkWhen_57 (by decide) ?_
      refine s_istore dX8_checkWhen_58 (by decide) (lv' := [some (2, ((327684 : Nat) : Int)), some (0, e), some (2, ((o : Nat) : Int)), some (0, d), some (0, gS G 327684 4), some (0, rr6), some (0, 0), none, none, none]) rfl ?_
      refine s_aload_n dX8_checkWhen_60 rfl (Int.natCast_nonneg _) ?_
      refine s_getf (ci := 9) (k := 4) (C := RX8) (T := TX8) (N := 5) (n := 327684) (L := 0) (t := 0) dX8_checkWhen_61 rfl wi_76 m_676 (Nat.le_of_ble_eq_true rfl) rfl rfl hk8 rfl ?_
      refine s_istore dX8_checkWhen_64 (by decide) (lv' := [some (2, ((327684 : Nat) : Int)), some (0, e), some (2, ((o : Nat) : Int)), some (0, d), some (0, gS G 327684 4), some (0, rr6), some (0, 0), some (0, gS G5 327684 4), none, none]) rfl ?_
      refine s_aload_n dX8_checkWhen_66 rfl (Int.natCast_nonneg _) ?_
      refine s_aload_n dX8_checkWhen_67 rfl (Int.natCast_nonneg _) ?_
      have hv13 : gS G5 327684 0 = ((327681 : Nat) : Int) := by have h9 : (gS G5 327684 0) = 327681 := hCG5.1.v (j := 0) (by decide : cde 327684 = 504) al10 (by rw [hk8]; exact Nat.le_of_ble_eq_true rfl); omega
      refine s_getf (ci := 9) (k := 0) (C := RX8) (T := TX8) (N := 5) (n := 327684) (L := 0) (t := 2) dX8_checkWhen_68 rfl wi_76 m_681 (Nat.le_of_ble_eq_true rfl) rfl rfl hk8 hv13 ?_
      have hk14 : gK G5 (327681) = (14, 0) := ((hXG5).k az0k (by decide))
      refine s_alv (327681) (by simp) (fun al15 => ?_)
      have hv16 : gS G5 327681 7 = ((327703 : Nat) : Int) := by have h9 : (gS G5 327681 7) = 327703 := hCG5.1.v (j := 7) (by decide : cde 327681 = 501) al15 (by rw [hk14]; exact Nat.le_of_ble_eq_true rfl); omega
      refine s_getf (ci := 6) (k := 7) (C := RX5) (T := TX5) (N := 18) (n := 327681) (L := 0) (t := 2) dX8_checkWhen_71 rfl wi_73 m_682 (Nat.le_of_ble_eq_true rfl) rfl rfl hk14 hv16 ?_
      refine s_iload_n dX8_checkWhen_74 rfl ?_
      have hk17 : gK G5 (327703) = (1, 120) := ((hXG5).k az3k (by decide))
      refine s_alv (327703) (by simp) (fun al18 => ?_)
      have hv19 : -1 ≤ (gS G5 327703 (e : Int).toNat) ∧ (gS G5 327703 (e : Int).toNat) ≤ 119 := hCG5.1.v (j := (e : Int).toNat) (by decide : cde 327703 = 523) al18 (by rw [hk17]; show (e : Int).toNat < 120; omega)
      refine s_iald dX8_checkWhen_75 hk17 (by omega) (by omega) rfl ?_
      refine s_aload_n dX8_checkWhen_76 rfl (Int.natCast_nonneg _) ?_
      refine s_iload_n dX8_checkWhen_77 rfl ?_
      refine s_iconst dX8_checkWhen_78 (by decide) ?_
      refine s_iadd dX8_checkWhen_79 (by omega) ?_
      refine s_callV (as := [(0, gS G5 327703 ((e : Int).toNat)), (2, ((o : Nat) : Int)), (0, d + 1)]) (rest := []) (n := 327684) (ci := 9) ih dX8_checkWhen_80 m_1419 m_996 m_1719 m_722 m_344 ⟨by decide, by decide, show (parseMethodDescriptor yX8_check.desc).map (fun d => d.parameters.length) = some 3 from by decide +kernel⟩ (Nat.le_of_ble_eq_true rfl) (by rw [hcf]; omega) hk8 rfl rfl (Nat.le_of_ble_eq_true rfl) ⟨gS G5 327703 ((e : Int).toNat), d + 1, o, a, b, rfl, hCG5, hab, (by omega), (by omega), (by omega), (by assumption), (by exact hfzG5), fun rr21 G20 hCG20 hXG20 hfG20 hpG20 => ?_⟩
      have hFG20 : WX (fun x => x = 327684 ∨ x = 327690) G G20 := WX.trans hFG5 hXG5 (WX.mono hfG20 (fun x hx => by omega))
      show WP kX8_checkWhen X 83 [some (2, ((327684 : Nat) : Int)), some (0, e), some (2, ((o : Nat) : Int)), some (0, d), some (0, gS G 327684 4), some (0, rr6), some (0, 0), some (0, gS G5 327684 4), none, none] [(0, rr21)] G20
      have hpcG20 : gS G20 327681 = gS G 327681 := hFG20 327681 az0 (by show ¬ _; omega)
      have hp1G20 : gS G20 327701 = gS G 327701 := hFG20 327701 az1 (by show ¬ _; omega)
      have hp2G20 : gS G20 327702 = gS G 327702 := hFG20 327702 az2 (by show ¬ _; omega)
      have hp3G20 : gS G20 327703 = gS G 327703 := hFG20 327703 az3 (by show ¬ _; omega)
      have hp4G20 : gS G20 327704 = gS G 327704 := hFG20 327704 az4 (by show ¬ _; omega)
      have hp5G20 : gS G20 327705 = gS G 327705 := hFG20 327705 az5 (by show ¬ _; omega)
      have hpnG20 : gS G20 327681 12 = gS G 327681 12 := by rw [hpcG20]
      have hq1G20 : gS G20 327701 e.toNat = gS G 327701 e.toNat := by rw [hp1G20]
      have hq2G20 : gS G20 327702 e.toNat = gS G 327702 e.toNat := by rw [hp2G20]
      have hq3G20 : gS G20 327703 e.toNat = gS G 327703 e.toNat := by rw [hp3G20]
      have hq4G20 : gS G20 327704 e.toNat = gS G 327704 e.toNat := by rw [hp4G20]
      have hq5G20 : gS G20 327705 e.toNat = gS G 327705 e.toNat := by rw [hp5G20]
      have hw2G20 : gS G20 327705 (gS G20 327702 e.toNat).toNat = gS G 327705 (gS G 327702 e.toNat).toNat := by rw [hp5G20, hp2G20]
      have hw3G20 : gS G20 327705 (gS G20 327703 e.toNat).toNat = gS G 327705 (gS G 327703 e.toNat).toNat := by rw [hp5G20, hp3G20]
      have hw4G20 : gS G20 327705 (gS G20 327704 e.toNat).toNat = gS G 327705 (gS G 327704 e.toNat).toNat := by rw [hp5G20, hp4G20]
      have hfzG20 := hsz.wx (KX.trans hXG5 hXG20) hFG20 (by show ¬ _; omega) (by show ¬ _; omega)
      refine s_istore dX8_checkWhen_83 (by decide) (lv' := [some (2, ((327684 : Nat) : Int)), some (0, e), some (2, ((o : Nat) : Int)), some (0, d), some (0, gS G 327684 4), some (0, rr21), some (0, 0), some (0, gS G5 327684 4), none, none]) rfl ?_
      refine s_iload dX8_checkWhen_85 rfl ?_
      refine s_if_eq (tgt := 93) dX8_checkWhen_87 (by decide) (fun c22 => ?_) (fun c22 => ?_)
      · -- 87 to 93
        refine s_aload_n dX8_checkWhen_93 rfl (Int.natCast_nonneg _) ?_
        have hk23 : gK G20 (327684) = (17, 0) := ((hXG20).k hk8 (by decide))
        refine s_alv (327684) (by simp) (fun al25 => ?_)
        have hv24 : 0 ≤ (gS G20 327684 4) ∧ (gS G20 327684 4) ≤ 2412 := hCG20.1.v (j := 4) (by decide : cde 327684 = 504) al25 (by rw [hk23]; exact Nat.le_of_ble_eq_true rfl)
        refine s_getf (ci := 9) (k := 4) (C := RX8) (T := TX8) (N := 5) (n := 327684) (L := 0) (t := 0) dX8_checkWhen_94 rfl wi_76 m_676 (Nat.le_of_ble_eq_true rfl) rfl rfl hk23 rfl ?_
        refine s_istore dX8_checkWhen_97 (by decide) (lv' := [some (2, ((327684 : Nat) : Int)), some (0, e), some (2, ((o : Nat) : Int)), some (0, d), some (0, gS G 327684 4), some (0, rr21), some (0, 0), some (0, gS G5 327684 4), some (0, gS G20 327684 4), none]) rfl ?_
        refine s_aload_n dX8_checkWhen_99 rfl (Int.natCast_nonneg _) ?_
        refine s_aload_n dX8_checkWhen_100 rfl (Int.natCast_nonneg _) ?_
        have hv26 : gS G20 327684 0 = ((327681 : Nat) : Int) := by have h9 : (gS G20 327684 0) = 327681 := hCG20.1.v (j := 0) (by decide : cde 327684 = 504) al25 (by rw [hk23]; exact Nat.le_of_ble_eq_true rfl); omega
        refine s_getf (ci := 9) (k := 0) (C := RX8) (T := TX8) (N := 5) (n := 327684) (L := 0) (t := 2) dX8_checkWhen_101 rfl wi_76 m_681 (Nat.le_of_ble_eq_true rfl) rfl rfl hk23 hv26 ?_
        have hk27 : gK G20 (327681) = (14, 0) := ((hXG20).k hk14 (by decide))
        refine s_alv (327681) (by simp) (fun al28 => ?_)
        have hv29 : gS G20 327681 8 = ((327704 : Nat) : Int) := by have h9 : (gS G20 327681 8) = 327704 := hCG20.1.v (j := 8) (by decide : cde 327681 = 501) al28 (by rw [hk27]; exact Nat.le_of_ble_eq_true rfl); omega
        refine s_getf (ci := 6) (k := 8) (C := RX5) (T := TX5) (N := 18) (n := 327681) (L := 0) (t := 2) dX8_checkWhen_104 rfl wi_73 m_683 (Nat.le_of_ble_eq_true rfl) rfl rfl hk27 hv29 ?_
        refine s_iload_n dX8_checkWhen_107 rfl ?_
        have hk30 : gK G20 (327704) = (1, 120) := ((hXG20).k ((hXG5).k az4k (by decide)) (by decide))
        refine s_alv (327704) (by simp) (fun al31 => ?_)
        have hv32 : -1 ≤ (gS G20 327704 (e : Int).toNat) ∧ (gS G20 327704 (e : Int).toNat) ≤ 119 := hCG20.1.v (j := (e : Int).toNat) (by decide : cde 327704 = 524) al31 (by rw [hk30]; show (e : Int).toNat < 120; omega)
        refine s_iald dX8_checkWhen_108 hk30 (by omega) (by omega) rfl ?_
        refine s_aload_n dX8_checkWhen_109 rfl (Int.natCast_nonneg _) ?_
        refine s_iload_n dX8_checkWhen_110 rfl ?_
        refine s_iconst dX8_checkWhen_111 (by decide) ?_
        refine s_iadd dX8_checkWhen_112 (by omega) ?_
        refine s_callV (as := [(0, gS G20 327704 ((e : Int).toNat)), (2, ((o : Nat) : Int)), (0, d + 1)]) (rest := []) (n := 327684) (ci := 9) ih dX8_checkWhen_113 m_1419 m_996 m_1719 m_722 m_344 ⟨by decide, by decide, show (parseMethodDescriptor yX8_check.desc).map (fun d => d.parameters.length) = some 3 from by decide +kernel⟩ (Nat.le_of_ble_eq_true rfl) (by rw [hcf]; omega) hk23 rfl rfl (Nat.le_of_ble_eq_true rfl) ⟨gS G20 327704 ((e : Int).toNat), d + 1, o, a, b, rfl, hCG20, hab, (by omega), (by omega), (by omega), (by assumption), (by exact hfzG20), fun rr34 G33 hCG33 hXG33 hfG33 hpG33 => ?_⟩
        have hFG33 : WX (fun x => x = 327684 ∨ x = 327690) G G33 := WX.trans hFG20 (KX.trans hXG5 hXG20) (WX.mono hfG33 (fun x hx => by omega))
        show WP kX8_checkWhen X 116 [some (2, ((327684 : Nat) : Int)), some (0, e), some (2, ((o : Nat) : Int)), some (0, d), some (0, gS G 327684 4), some (0, rr21), some (0, 0), some (0, gS G5 327684 4), some (0, gS G20 327684 4), none] [(0, rr34)] G33
        have hpcG33 : gS G33 327681 = gS G 327681 := hFG33 327681 az0 (by show ¬ _; omega)
        have hp1G33 : gS G33 327701 = gS G 327701 := hFG33 327701 az1 (by show ¬ _; omega)
        have hp2G33 : gS G33 327702 = gS G 327702 := hFG33 327702 az2 (by show ¬ _; omega)
        have hp3G33 : gS G33 327703 = gS G 327703 := hFG33 327703 az3 (by show ¬ _; omega)
        have hp4G33 : gS G33 327704 = gS G 327704 := hFG33 327704 az4 (by show ¬ _; omega)
        have hp5G33 : gS G33 327705 = gS G 327705 := hFG33 327705 az5 (by show ¬ _; omega)
        have hpnG33 : gS G33 327681 12 = gS G 327681 12 := by rw [hpcG33]
        have hq1G33 : gS G33 327701 e.toNat = gS G 327701 e.toNat := by rw [hp1G33]
        have hq2G33 : gS G33 327702 e.toNat = gS G 327702 e.toNat := by rw [hp2G33]
        have hq3G33 : gS G33 327703 e.toNat = gS G 327703 e.toNat := by rw [hp3G33]
        have hq4G33 : gS G33 327704 e.toNat = gS G 327704 e.toNat := by rw [hp4G33]
        have hq5G33 : gS G33 327705 e.toNat = gS G 327705 e.toNat := by rw [hp5G33]
        have hw2G33 : gS G33 327705 (gS G33 327702 e.toNat).toNat = gS G 327705 (gS G 327702 e.toNat).toNat := by rw [hp5G33, hp2G33]
        have hw3G33 : gS G33 327705 (gS G33 327703 e.toNat).toNat = gS G 327705 (gS G 327703 e.toNat).toNat := by rw [hp5G33, hp3G33]
        have hw4G33 : gS G33 327705 (gS G33 327704 e.toNat).toNat = gS G 327705 (gS G 327704 e.toNat).toNat := by rw [hp5G33, hp4G33]
        have hfzG33 := hsz.wx (KX.trans (KX.trans hXG5 hXG20) hXG33) hFG33 (by show ¬ _; omega) (by show ¬ _; omega)
        refine s_istore dX8_checkWhen_116 (by decide) (lv' := [some (2, ((327684 : Nat) : Int)), some (0, e), some (2, ((o : Nat) : Int)), some (0, d), some (0, gS G 327684 4), some (0, rr34), some (0, 0), some (0, gS G5 327684 4), some (0, gS G20 327684 4), none]) rfl ?_
        refine s_iload dX8_checkWhen_118 rfl ?_
        refine s_if_eq (tgt := 126) dX8_checkWhen_120 (by decide) (fun c35 => ?_) (fun c35 => ?_)
        · -- 120 to 126
          refine s_aload_n dX8_checkWhen_126 rfl (Int.natCast_nonneg _) ?_
          refine s_iload dX8_checkWhen_127 rfl ?_
          refine s_iload dX8_checkWhen_129 rfl ?_
          refine s_aload_n dX8_checkWhen_131 rfl (Int.natCast_nonneg _) ?_
          have hk36 : gK G33 (327684) = (17, 0) := ((hXG33).k hk23 (by decide))
          refine s_alv (327684) (by simp) (fun al38 => ?_)
          have hv37 : 0 ≤ (gS G33 327684 4) ∧ (gS G33 327684 4) ≤ 2412 := hCG33.1.v (j := 4) (by decide : cde 327684 = 504) al38 (by rw [hk36]; exact Nat.le_of_ble_eq_true rfl)
          refine s_getf (ci := 9) (k := 4) (C := RX8) (T := TX8) (N := 5) (n := 327684) (L := 0) (t := 0) dX8_checkWhen_132 rfl wi_76 m_676 (Nat.le_of_ble_eq_true rfl) rfl rfl hk36 rfl ?_
          refine s_callV (as := [(0, gS G5 327684 4), (0, gS G20 327684 4), (0, gS G33 327684 4)]) (rest := []) (n := 327684) (ci := 9) gX8_isSameOnStack dX8_checkWhen_135 m_1432 m_1010 m_1732 m_722 m_358 ⟨by decide, by decide, show (parseMethodDescriptor yX8_isSameOnStack.desc).map (fun d => d.parameters.length) = some 3 from by decide +kernel⟩ (Nat.le_of_ble_eq_true rfl) (by rw [hcf]; omega) hk36 rfl rfl (Nat.le_of_ble_eq_true rfl) ⟨gS G5 327684 4, gS G20 327684 4, gS G33 327684 4, a, b, rfl, hCG33, hab, (by first | assumption | omega), fun rr39 hp40 => ?_⟩
          show WP kX8_checkWhen X 138 [some (2, ((327684 : Nat) : Int)), some (0, e), some (2, ((o : Nat) : Int)), some (0, d), some (0, gS G 327684 4), some (0, rr34), some (0, 0), some (0, gS G5 327684 4), some (0, gS G20 327684 4), none] [(0, rr39)] G33
          refine s_istore dX8_checkWhen_138 (by decide) (lv' := [some (2, ((327684 : Nat) : Int)), some (0, e), some (2, ((o : Nat) : Int)), some (0, d), some (0, gS G 327684 4), some (0, rr34), some (0, 0), some (0, gS G5 327684 4), some (0, gS G20 327684 4), some (0, rr39)]) rfl ?_
          refine s_aload_n dX8_checkWhen_140 rfl (Int.natCast_nonneg _) ?_
          refine s_iload dX8_checkWhen_141 rfl ?_
          refine s_iload dX8_checkWhen_143 rfl ?_
          refine s_iload dX8_checkWhen_145 rfl ?_
          refine s_callV (as := [(0, gS G 327684 4), (0, gS G5 327684 4), (0, gS G20 327684 4)]) (rest := []) (n := 327684) (ci := 9) gX8_cutTo dX8_checkWhen_147 m_1433 m_1003 m_1726 m_722 m_351 ⟨by decide, by decide, show (parseMethodDescriptor yX8_cutTo.desc).map (fun d => d.parameters.length) = some 3 from by decide +kernel⟩ (Nat.le_of_ble_eq_true rfl) (by rw [hcf]; omega) hk36 rfl rfl (Nat.le_of_ble_eq_true rfl) ⟨gS G 327684 4, gS G5 327684 4, gS G20 327684 4, a, b, rfl, hCG33, hab, (by first | assumption | omega), fun G41 hCG41 hXG41 hfG41 hpG41 => ?_⟩
          have hFG41 : WX (fun x => x = 327684 ∨ x = 327690) G G41 := WX.trans hFG33 (KX.trans (KX.trans hXG5 hXG20) hXG33) (WX.mono hfG41 (fun x hx => by omega))
          show WP kX8_checkWhen X 150 [some (2, ((327684 : Nat) : Int)), some (0, e), some (2, ((o : Nat) : Int)), some (0, d), some (0, gS G 327684 4), some (0, rr34), some (0, 0), some (0, gS G5 327684 4), some (0, gS G20 327684 4), some (0, rr39)] [] G41
          refine s_iload dX8_checkWhen_150 rfl ?_
          have J44 : ∀ z43 : Int, ((((0 : Int)) = 0) ∧ z43 = 2) ∨ ((¬ ((0 : Int)) = 0) ∧ (rr39 = 0) ∧ z43 = 2) ∨ ((¬ ((0 : Int)) = 0) ∧ (¬ rr39 = 0) ∧ z43 = 0) → WP kX8_checkWhen X 165 [some (2, ((327684 : Nat) : Int)), some (0, e), some (2, ((o : Nat) : Int)), some (0, d), some (0, gS G 327684 4), some (0, rr34), some (0, 0), some (0, gS G5 327684 4), some (0, gS G20 327684 4), some (0, rr39)] [(0, z43)] G41 := by
            intro z43 hz43
            exact s_iret hR dX8_checkWhen_165 rfl (hQ z43 G41 hCG41 (KX.trans (KX.trans (KX.trans hXG5 hXG20) hXG33) hXG41) hFG41 ⟨by omega, fun h => (hpG41.2 _ (hpG33.2.2.1 _ (hpG20.2.2.1 _ (hpG5.2.1 (by omega))))), fun m hm => (hpG41.2 m (hpG33.2.2.1 m (hpG20.2.2.1 m (hpG5.2.2.1 m hm)))), by omega⟩)
          refine s_if_eq (tgt := 164) dX8_checkWhen_152 (by decide) (fun c45 => ?_) (fun c45 => ?_)
          · -- 152 to 164
            refine s_iconst dX8_checkWhen_164 (by decide) ?_
            exact J44 2 (Or.inl ⟨c45, rfl⟩)
          · -- 152 to 155
            refine s_iload dX8_checkWhen_155 rfl ?_
            refine s_if_eq (tgt := 164) dX8_checkWhen_157 (by decide) (fun c46 => ?_) (fun c46 => ?_)
            · -- 157 to 164
              refine s_iconst dX8_checkWhen_164 (by decide) ?_
              exact J44 2 (Or.inr (Or.inl ⟨c45, c46, rfl⟩))
            · -- 157 to 160
              refine s_iconst dX8_checkWhen_160 (by decide) ?_
              refine s_goto (tgt := 165) dX8_checkWhen_161 (by decide) ?_
              exact J44 0 (Or.inr (Or.inr (⟨c45, c46, rfl⟩)))
        · -- 120 to 123
          refine s_iload dX8_checkWhen_123 rfl ?_
          exact s_iret hR dX8_checkWhen_125 rfl (hQ rr34 G33 hCG33 (KX.trans (KX.trans hXG5 hXG20) hXG33) hFG33 ⟨by omega, fun h => (hpG33.2.2.1 _ (hpG20.2.2.1 _ (hpG5.2.1 (by omega)))), fun m hm => (hpG33.2.2.1 m (hpG20.2.2.1 m (hpG5.2.2.1 m hm))), by omega⟩)
      · -- 87 to 90
        refine s_iload dX8_checkWhen_90 rfl ?_
        exact s_iret hR dX8_checkWhen_92 rfl (hQ rr21 G20 hCG20 (KX.trans hXG5 hXG20) hFG20 ⟨by omega, fun h => (hpG20.2.2.1 _ (hpG5.2.1 (by omega))), fun m hm => (hpG20.2.2.1 m (hpG5.2.2.1 m hm)), by omega⟩)
    · -- 41 to 44
      refine s_aload_n dX8_checkWhen_44 rfl (Int.natCast_nonneg _) ?_
      refine s_iload dX8_checkWhen_45 rfl ?_
      refine s_callV (as := [(0, gS G 327684 4)]) (rest := []) (n := 327684) (ci := 9) gX8_isIntAt dX8_checkWhen_47 m_1431 m_1009 m_1731 m_722 m_357 ⟨by decide, by decide, show (parseMethodDescriptor yX8_isIntAt.desc).map (fun d => d.parameters.length) = some 1 from by decide +kernel⟩ (Nat.le_of_ble_eq_true rfl) (by rw [hcf]; omega) hk8 rfl rfl (Nat.le_of_ble_eq_true rfl) ⟨gS G 327684 4, a, b, rfl, hCG5, hab, (by first | assumption | omega), fun rr47 hp48 => ?_⟩
      show WP kX8_checkWhen X 50 [some (2, ((327684 : Nat) : Int)), some (0, e), some (2, ((o : Nat) : Int)), some (0, d), some (0, gS G 327684 4), some (0, rr6), none, none, none, none] [(0, rr47)] G5
      have J50 : ∀ z49 : Int, ((rr47 = 0) ∧ z49 = 0) ∨ ((¬ rr47 = 0) ∧ z49 = 1) → WP kX8_checkWhen X 58 [some (2, ((327684 : Nat) : Int)), some (0, e), some (2, ((o : Nat) : Int)), some (0, d), some (0, gS G 327684 4), some (0, rr6), none, none, none, none] [(0, z49)] G5 := by
        intro z49 hz49
        refine s_istore dX8_checkWhen_58 (by decide) (lv' := [some (2, ((327684 : Nat) : Int)), some (0, e), some (2, ((o : Nat) : Int)), some (0, d), some (0, gS G 327684 4), some (0, rr6), some (0, z49), none, none, none]) rfl ?_
        refine s_aload_n dX8_checkWhen_60 rfl (Int.natCast_nonneg _) ?_
        refine s_getf (ci := 9) (k := 4) (C := RX8) (T := TX8) (N := 5) (n := 327684) (L := 0) (t := 0) dX8_checkWhen_61 rfl wi_76 m_676 (Nat.le_of_ble_eq_true rfl) rfl rfl hk8 rfl ?_
        refine s_istore dX8_checkWhen_64 (by decide) (lv' := [some (2, ((327684 : Nat) : Int)), some (0, e), some (2, ((o : Nat) : Int)), some (0, d), some (0, gS G 327684 4), some (0, rr6), some (0, z49), some (0, gS G5 327684 4), none, none]) rfl ?_
        refine s_aload_n dX8_checkWhen_66 rfl (Int.natCast_nonneg _) ?_
        refine s_aload_n dX8_checkWhen_67 rfl (Int.natCast_nonneg _) ?_
        have hv52 : gS G5 327684 0 = ((327681 : Nat) : Int) := by have h9 : (gS G5 327684 0) = 327681 := hCG5.1.v (j := 0) (by decide : cde 327684 = 504) al10 (by rw [hk8]; exact Nat.le_of_ble_eq_true rfl); omega
        refine s_getf (ci := 9) (k := 0) (C := RX8) (T := TX8) (N := 5) (n := 327684) (L := 0) (t := 2) dX8_checkWhen_68 rfl wi_76 m_681 (Nat.le_of_ble_eq_true rfl) rfl rfl hk8 hv52 ?_
        have hk53 : gK G5 (327681) = (14, 0) := ((hXG5).k az0k (by decide))
        refine s_alv (327681) (by simp) (fun al54 => ?_)
        have hv55 : gS G5 327681 7 = ((327703 : Nat) : Int) := by have h9 : (gS G5 327681 7) = 327703 := hCG5.1.v (j := 7) (by decide : cde 327681 = 501) al54 (by rw [hk53]; exact Nat.le_of_ble_eq_true rfl); omega
        refine s_getf (ci := 6) (k := 7) (C := RX5) (T := TX5) (N := 18) (n := 327681) (L := 0) (t := 2) dX8_checkWhen_71 rfl wi_73 m_682 (Nat.le_of_ble_eq_true rfl) rfl rfl hk53 hv55 ?_
        refine s_iload_n dX8_checkWhen_74 rfl ?_
        have hk56 : gK G5 (327703) = (1, 120) := ((hXG5).k az3k (by decide))
        refine s_alv (327703) (by simp) (fun al57 => ?_)
        have hv58 : -1 ≤ (gS G5 327703 (e : Int).toNat) ∧ (gS G5 327703 (e : Int).toNat) ≤ 119 := hCG5.1.v (j := (e : Int).toNat) (by decide : cde 327703 = 523) al57 (by rw [hk56]; show (e : Int).toNat < 120; omega)
        refine s_iald dX8_checkWhen_75 hk56 (by omega) (by omega) rfl ?_
        refine s_aload_n dX8_checkWhen_76 rfl (Int.natCast_nonneg _) ?_
        refine s_iload_n dX8_checkWhen_77 rfl ?_
        refine s_iconst dX8_checkWhen_78 (by decide) ?_
        refine s_iadd dX8_checkWhen_79 (by omega) ?_
        refine s_callV (as := [(0, gS G5 327703 ((e : Int).toNat)), (2, ((o : Nat) : Int)), (0, d + 1)]) (rest := []) (n := 327684) (ci := 9) ih dX8_checkWhen_80 m_1419 m_996 m_1719 m_722 m_344 ⟨by decide, by decide, show (parseMethodDescriptor yX8_check.desc).map (fun d => d.parameters.length) = some 3 from by decide +kernel⟩ (Nat.le_of_ble_eq_true rfl) (by rw [hcf]; omega) hk8 rfl rfl (Nat.le_of_ble_eq_true rfl) ⟨gS G5 327703 ((e : Int).toNat), d + 1, o, a, b, rfl, hCG5, hab, (by omega), (by omega), (by omega), (by assumption), (by exact hfzG5), fun rr60 G59 hCG59 hXG59 hfG59 hpG59 => ?_⟩
        have hFG59 : WX (fun x => x = 327684 ∨ x = 327690) G G59 := WX.trans hFG5 hXG5 (WX.mono hfG59 (fun x hx => by omega))
        show WP kX8_checkWhen X 83 [some (2, ((327684 : Nat) : Int)), some (0, e), some (2, ((o : Nat) : Int)), some (0, d), some (0, gS G 327684 4), some (0, rr6), some (0, z49), some (0, gS G5 327684 4), none, none] [(0, rr60)] G59
        have hpcG59 : gS G59 327681 = gS G 327681 := hFG59 327681 az0 (by show ¬ _; omega)
        have hp1G59 : gS G59 327701 = gS G 327701 := hFG59 327701 az1 (by show ¬ _; omega)
        have hp2G59 : gS G59 327702 = gS G 327702 := hFG59 327702 az2 (by show ¬ _; omega)
        have hp3G59 : gS G59 327703 = gS G 327703 := hFG59 327703 az3 (by show ¬ _; omega)
        have hp4G59 : gS G59 327704 = gS G 327704 := hFG59 327704 az4 (by show ¬ _; omega)
        have hp5G59 : gS G59 327705 = gS G 327705 := hFG59 327705 az5 (by show ¬ _; omega)
        have hpnG59 : gS G59 327681 12 = gS G 327681 12 := by rw [hpcG59]
        have hq1G59 : gS G59 327701 e.toNat = gS G 327701 e.toNat := by rw [hp1G59]
        have hq2G59 : gS G59 327702 e.toNat = gS G 327702 e.toNat := by rw [hp2G59]
        have hq3G59 : gS G59 327703 e.toNat = gS G 327703 e.toNat := by rw [hp3G59]
        have hq4G59 : gS G59 327704 e.toNat = gS G 327704 e.toNat := by rw [hp4G59]
        have hq5G59 : gS G59 327705 e.toNat = gS G 327705 e.toNat := by rw [hp5G59]
        have hw2G59 : gS G59 327705 (gS G59 327702 e.toNat).toNat = gS G 327705 (gS G 327702 e.toNat).toNat := by rw [hp5G59, hp2G59]
        have hw3G59 : gS G59 327705 (gS G59 327703 e.toNat).toNat = gS G 327705 (gS G 327703 e.toNat).toNat := by rw [hp5G59, hp3G59]
        have hw4G59 : gS G59 327705 (gS G59 327704 e.toNat).toNat = gS G 327705 (gS G 327704 e.toNat).toNat := by rw [hp5G59, hp4G59]
        have hfzG59 := hsz.wx (KX.trans hXG5 hXG59) hFG59 (by show ¬ _; omega) (by show ¬ _; omega)
        refine s_istore dX8_checkWhen_83 (by decide) (lv' := [some (2, ((327684 : Nat) : Int)), some (0, e), some (2, ((o : Nat) : Int)), some (0, d), some (0, gS G 327684 4), some (0, rr60), some (0, z49), some (0, gS G5 327684 4), none, none]) rfl ?_
        refine s_iload dX8_checkWhen_85 rfl ?_
        refine s_if_eq (tgt := 93) dX8_checkWhen_87 (by decide) (fun c61 => ?_) (fun c61 => ?_)
        · -- 87 to 93
          refine s_aload_n dX8_checkWhen_93 rfl (Int.natCast_nonneg _) ?_
          have hk62 : gK G59 (327684) = (17, 0) := ((hXG59).k hk8 (by decide))
          refine s_alv (327684) (by simp) (fun al64 => ?_)
          have hv63 : 0 ≤ (gS G59 327684 4) ∧ (gS G59 327684 4) ≤ 2412 := hCG59.1.v (j := 4) (by decide : cde 327684 = 504) al64 (by rw [hk62]; exact Nat.le_of_ble_eq_true rfl)
          refine s_getf (ci := 9) (k := 4) (C := RX8) (T := TX8) (N := 5) (n := 327684) (L := 0) (t := 0) dX8_checkWhen_94 rfl wi_76 m_676 (Nat.le_of_ble_eq_true rfl) rfl rfl hk62 rfl ?_
          refine s_istore dX8_checkWhen_97 (by decide) (lv' := [some (2, ((327684 : Nat) : Int)), some (0, e), some (2, ((o : Nat) : Int)), some (0, d), some (0, gS G 327684 4), some (0, rr60), some (0, z49), some (0, gS G5 327684 4), some (0, gS G59 327684 4), none]) rfl ?_
          refine s_aload_n dX8_checkWhen_99 rfl (Int.natCast_nonneg _) ?_
          refine s_aload_n dX8_checkWhen_100 rfl (Int.natCast_nonneg _) ?_
          have hv65 : gS G59 327684 0 = ((327681 : Nat) : Int) := by have h9 : (gS G59 327684 0) = 327681 := hCG59.1.v (j := 0) (by decide : cde 327684 = 504) al64 (by rw [hk62]; exact Nat.le_of_ble_eq_true rfl); omega
          refine s_getf (ci := 9) (k := 0) (C := RX8) (T := TX8) (N := 5) (n := 327684) (L := 0) (t := 2) dX8_checkWhen_101 rfl wi_76 m_681 (Nat.le_of_ble_eq_true rfl) rfl rfl hk62 hv65 ?_
          have hk66 : gK G59 (327681) = (14, 0) := ((hXG59).k hk53 (by decide))
          refine s_alv (327681) (by simp) (fun al67 => ?_)
          have hv68 : gS G59 327681 8 = ((327704 : Nat) : Int) := by have h9 : (gS G59 327681 8) = 327704 := hCG59.1.v (j := 8) (by decide : cde 327681 = 501) al67 (by rw [hk66]; exact Nat.le_of_ble_eq_true rfl); omega
          refine s_getf (ci := 6) (k := 8) (C := RX5) (T := TX5) (N := 18) (n := 327681) (L := 0) (t := 2) dX8_checkWhen_104 rfl wi_73 m_683 (Nat.le_of_ble_eq_true rfl) rfl rfl hk66 hv68 ?_
          refine s_iload_n dX8_checkWhen_107 rfl ?_
          have hk69 : gK G59 (327704) = (1, 120) := ((hXG59).k ((hXG5).k az4k (by decide)) (by decide))
          refine s_alv (327704) (by simp) (fun al70 => ?_)
          have hv71 : -1 ≤ (gS G59 327704 (e : Int).toNat) ∧ (gS G59 327704 (e : Int).toNat) ≤ 119 := hCG59.1.v (j := (e : Int).toNat) (by decide : cde 327704 = 524) al70 (by rw [hk69]; show (e : Int).toNat < 120; omega)
          refine s_iald dX8_checkWhen_108 hk69 (by omega) (by omega) rfl ?_
          refine s_aload_n dX8_checkWhen_109 rfl (Int.natCast_nonneg _) ?_
          refine s_iload_n dX8_checkWhen_110 rfl ?_
          refine s_iconst dX8_checkWhen_111 (by decide) ?_
          refine s_iadd dX8_checkWhen_112 (by omega) ?_
          refine s_callV (as := [(0, gS G59 327704 ((e : Int).toNat)), (2, ((o : Nat) : Int)), (0, d + 1)]) (rest := []) (n := 327684) (ci := 9) ih dX8_checkWhen_113 m_1419 m_996 m_1719 m_722 m_344 ⟨by decide, by decide, show (parseMethodDescriptor yX8_check.desc).map (fun d => d.parameters.length) = some 3 from by decide +kernel⟩ (Nat.le_of_ble_eq_true rfl) (by rw [hcf]; omega) hk62 rfl rfl (Nat.le_of_ble_eq_true rfl) ⟨gS G59 327704 ((e : Int).toNat), d + 1, o, a, b, rfl, hCG59, hab, (by omega), (by omega), (by omega), (by assumption), (by exact hfzG59), fun rr73 G72 hCG72 hXG72 hfG72 hpG72 => ?_⟩
          have hFG72 : WX (fun x => x = 327684 ∨ x = 327690) G G72 := WX.trans hFG59 (KX.trans hXG5 hXG59) (WX.mono hfG72 (fun x hx => by omega))
          show WP kX8_checkWhen X 116 [some (2, ((327684 : Nat) : Int)), some (0, e), some (2, ((o : Nat) : Int)), some (0, d), some (0, gS G 327684 4), some (0, rr60), some (0, z49), some (0, gS G5 327684 4), some (0, gS G59 327684 4), none] [(0, rr73)] G72
          have hpcG72 : gS G72 327681 = gS G 327681 := hFG72 327681 az0 (by show ¬ _; omega)
          have hp1G72 : gS G72 327701 = gS G 327701 := hFG72 327701 az1 (by show ¬ _; omega)
          have hp2G72 : gS G72 327702 = gS G 327702 := hFG72 327702 az2 (by show ¬ _; omega)
          have hp3G72 : gS G72 327703 = gS G 327703 := hFG72 327703 az3 (by show ¬ _; omega)
          have hp4G72 : gS G72 327704 = gS G 327704 := hFG72 327704 az4 (by show ¬ _; omega)
          have hp5G72 : gS G72 327705 = gS G 327705 := hFG72 327705 az5 (by show ¬ _; omega)
          have hpnG72 : gS G72 327681 12 = gS G 327681 12 := by rw [hpcG72]
          have hq1G72 : gS G72 327701 e.toNat = gS G 327701 e.toNat := by rw [hp1G72]
          have hq2G72 : gS G72 327702 e.toNat = gS G 327702 e.toNat := by rw [hp2G72]
          have hq3G72 : gS G72 327703 e.toNat = gS G 327703 e.toNat := by rw [hp3G72]
          have hq4G72 : gS G72 327704 e.toNat = gS G 327704 e.toNat := by rw [hp4G72]
          have hq5G72 : gS G72 327705 e.toNat = gS G 327705 e.toNat := by rw [hp5G72]
          have hw2G72 : gS G72 327705 (gS G72 327702 e.toNat).toNat = gS G 327705 (gS G 327702 e.toNat).toNat := by rw [hp5G72, hp2G72]
          have hw3G72 : gS G72 327705 (gS G72 327703 e.toNat).toNat = gS G 327705 (gS G 327703 e.toNat).toNat := by rw [hp5G72, hp3G72]
          have hw4G72 : gS G72 327705 (gS G72 327704 e.toNat).toNat = gS G 327705 (gS G 327704 e.toNat).toNat := by rw [hp5G72, hp4G72]
          have hfzG72 := hsz.wx (KX.trans (KX.trans hXG5 hXG59) hXG72) hFG72 (by show ¬ _; omega) (by show ¬ _; omega)
          refine s_istore dX8_checkWhen_116 (by decide) (lv' := [some (2, ((327684 : Nat) : Int)), some (0, e), some (2, ((o : Nat) : Int)), some (0, d), some (0, gS G 327684 4), some (0, rr73), some (0, z49), some (0, gS G5 327684 4), some (0, gS G59 327684 4), none]) rfl ?_
          refine s_iload dX8_checkWhen_118 rfl ?_
          refine s_if_eq (tgt := 126) dX8_checkWhen_120 (by decide) (fun c74 => ?_) (fun c74 => ?_)
          · -- 120 to 126
            refine s_aload_n dX8_checkWhen_126 rfl (Int.natCast_nonneg _) ?_
            refine s_iload dX8_checkWhen_127 rfl ?_
            refine s_iload dX8_checkWhen_129 rfl ?_
            refine s_aload_n dX8_checkWhen_131 rfl (Int.natCast_nonneg _) ?_
            have hk75 : gK G72 (327684) = (17, 0) := ((hXG72).k hk62 (by decide))
            refine s_alv (327684) (by simp) (fun al77 => ?_)
            have hv76 : 0 ≤ (gS G72 327684 4) ∧ (gS G72 327684 4) ≤ 2412 := hCG72.1.v (j := 4) (by decide : cde 327684 = 504) al77 (by rw [hk75]; exact Nat.le_of_ble_eq_true rfl)
            refine s_getf (ci := 9) (k := 4) (C := RX8) (T := TX8) (N := 5) (n := 327684) (L := 0) (t := 0) dX8_checkWhen_132 rfl wi_76 m_676 (Nat.le_of_ble_eq_true rfl) rfl rfl hk75 rfl ?_
            refine s_callV (as := [(0, gS G5 327684 4), (0, gS G59 327684 4), (0, gS G72 327684 4)]) (rest := []) (n := 327684) (ci := 9) gX8_isSameOnStack dX8_checkWhen_135 m_1432 m_1010 m_1732 m_722 m_358 ⟨by decide, by decide, show (parseMethodDescriptor yX8_isSameOnStack.desc).map (fun d => d.parameters.length) = some 3 from by decide +kernel⟩ (Nat.le_of_ble_eq_true rfl) (by rw [hcf]; omega) hk75 rfl rfl (Nat.le_of_ble_eq_true rfl) ⟨gS G5 327684 4, gS G59 327684 4, gS G72 327684 4, a, b, rfl, hCG72, hab, (by first | assumption | omega), fun rr78 hp79 => ?_⟩
            show WP kX8_checkWhen X 138 [some (2, ((327684 : Nat) : Int)), some (0, e), some (2, ((o : Nat) : Int)), some (0, d), some (0, gS G 327684 4), some (0, rr73), some (0, z49), some (0, gS G5 327684 4), some (0, gS G59 327684 4), none] [(0, rr78)] G72
            refine s_istore dX8_checkWhen_138 (by decide) (lv' := [some (2, ((327684 : Nat) : Int)), some (0, e), some (2, ((o : Nat) : Int)), some (0, d), some (0, gS G 327684 4), some (0, rr73), some (0, z49), some (0, gS G5 327684 4), some (0, gS G59 327684 4), some (0, rr78)]) rfl ?_
            refine s_aload_n dX8_checkWhen_140 rfl (Int.natCast_nonneg _) ?_
            refine s_iload dX8_checkWhen_141 rfl ?_
            refine s_iload dX8_checkWhen_143 rfl ?_
            refine s_iload dX8_checkWhen_145 rfl ?_
            refine s_callV (as := [(0, gS G 327684 4), (0, gS G5 327684 4), (0, gS G59 327684 4)]) (rest := []) (n := 327684) (ci := 9) gX8_cutTo dX8_checkWhen_147 m_1433 m_1003 m_1726 m_722 m_351 ⟨by decide, by decide, show (parseMethodDescriptor yX8_cutTo.desc).map (fun d => d.parameters.length) = some 3 from by decide +kernel⟩ (Nat.le_of_ble_eq_true rfl) (by rw [hcf]; omega) hk75 rfl rfl (Nat.le_of_ble_eq_true rfl) ⟨gS G 327684 4, gS G5 327684 4, gS G59 327684 4, a, b, rfl, hCG72, hab, (by first | assumption | omega), fun G80 hCG80 hXG80 hfG80 hpG80 => ?_⟩
            have hFG80 : WX (fun x => x = 327684 ∨ x = 327690) G G80 := WX.trans hFG72 (KX.trans (KX.trans hXG5 hXG59) hXG72) (WX.mono hfG80 (fun x hx => by omega))
            show WP kX8_checkWhen X 150 [some (2, ((327684 : Nat) : Int)), some (0, e), some (2, ((o : Nat) : Int)), some (0, d), some (0, gS G 327684 4), some (0, rr73), some (0, z49), some (0, gS G5 327684 4), some (0, gS G59 327684 4), some (0, rr78)] [] G80
            refine s_iload dX8_checkWhen_150 rfl ?_
            have J83 : ∀ z82 : Int, ((z49 = 0) ∧ z82 = 2) ∨ ((¬ z49 = 0) ∧ (rr78 = 0) ∧ z82 = 2) ∨ ((¬ z49 = 0) ∧ (¬ rr78 = 0) ∧ z82 = 0) → WP kX8_checkWhen X 165 [some (2, ((327684 : Nat) : Int)), some (0, e), some (2, ((o : Nat) : Int)), some (0, d), some (0, gS G 327684 4), some (0, rr73), some (0, z49), some (0, gS G5 327684 4), some (0, gS G59 327684 4), some (0, rr78)] [(0, z82)] G80 := by
              intro z82 hz82
              exact s_iret hR dX8_checkWhen_165 rfl (hQ z82 G80 hCG80 (KX.trans (KX.trans (KX.trans hXG5 hXG59) hXG72) hXG80) hFG80 ⟨by omega, fun h => (hpG80.2 _ (hpG72.2.2.1 _ (hpG59.2.2.1 _ (hpG5.2.1 (by omega))))), fun m hm => (hpG80.2 m (hpG72.2.2.1 m (hpG59.2.2.1 m (hpG5.2.2.1 m hm)))), by omega⟩)
            refine s_if_eq (tgt := 164) dX8_checkWhen_152 (by decide) (fun c84 => ?_) (fun c84 => ?_)
            · -- 152 to 164
              refine s_iconst dX8_checkWhen_164 (by decide) ?_
              exact J83 2 (Or.inl ⟨c84, rfl⟩)
            · -- 152 to 155
              refine s_iload dX8_checkWhen_155 rfl ?_
              refine s_if_eq (tgt := 164) dX8_checkWhen_157 (by decide) (fun c85 => ?_) (fun c85 => ?_)
              · -- 157 to 164
                refine s_iconst dX8_checkWhen_164 (by decide) ?_
                exact J83 2 (Or.inr (Or.inl ⟨c84, c85, rfl⟩))
              · -- 157 to 160
                refine s_iconst dX8_checkWhen_160 (by decide) ?_
                refine s_goto (tgt := 165) dX8_checkWhen_161 (by decide) ?_
                exact J83 0 (Or.inr (Or.inr (⟨c84, c85, rfl⟩)))
          · -- 120 to 123
            refine s_iload dX8_checkWhen_123 rfl ?_
            exact s_iret hR dX8_checkWhen_125 rfl (hQ rr73 G72 hCG72 (KX.trans (KX.trans hXG5 hXG59) hXG72) hFG72 ⟨by omega, fun h => (hpG72.2.2.1 _ (hpG59.2.2.1 _ (hpG5.2.1 (by omega)))), fun m hm => (hpG72.2.2.1 m (hpG59.2.2.1 m (hpG5.2.2.1 m hm))), by omega⟩)
        · -- 87 to 90
          refine s_iload dX8_checkWhen_90 rfl ?_
          exact s_iret hR dX8_checkWhen_92 rfl (hQ rr60 G59 hCG59 (KX.trans hXG5 hXG59) hFG59 ⟨by omega, fun h => (hpG59.2.2.1 _ (hpG5.2.1 (by omega))), fun m hm => (hpG59.2.2.1 m (hpG5.2.2.1 m hm)), by omega⟩)
      refine s_if_eq (tgt := 57) dX8_checkWhen_50 (by decide) (fun c86 => ?_) (fun c86 => ?_)
      · -- 50 to 57
        refine s_iconst dX8_checkWhen_57 (by decide) ?_
        exact J50 0 (Or.inl ⟨c86, rfl⟩)
      · -- 50 to 53
        refine s_iconst dX8_checkWhen_53 (by decide) ?_
        refine s_goto (tgt := 58) dX8_checkWhen_54 (by decide) ?_
        exact J50 1 (Or.inr (⟨c86, rfl⟩))
  · -- 27 to 30
    refine s_iload dX8_checkWhen_30 rfl ?_
    exact s_iret hR dX8_checkWhen_32 rfl (hQ rr6 G5 hCG5 hXG5 hFG5 ⟨by omega, fun h => (hpG5.2.1 (by omega)), fun m hm => (hpG5.2.2.1 m hm), by omega⟩)

abbrev kX8_checkHalf : KD := (RX8, cX8_checkHalf, 7, (some .int), [])
def TX8_checkHalf (m : Nat) : TR := fun as G Qr => ∃ (e d : Int) (o : Nat) (a b : Nat), as = [(2, ((327684 : Nat) : Int)), (0, e), (2, ((o : Nat) : Int)), (0, d)] ∧ CI a b G ∧ (a ≤ 2840000 ∧ b ≤ 590000) ∧ (0 ≤ e ∧ e < gS G 327681 12) ∧ (gS G 327701 e.toNat = 2 ∨ gS G 327701 e.toNat = 3) ∧ (d ≤ 12 ∧ 0 ≤ d ∧ 13 ≤ d + m) ∧ (gS G 327684 4 + 200 * (gS G 327705 e.toNat) ≤ 2412) ∧ (isFc o) ∧ (FSZ G o) ∧ ∀ (r : Int) (G' : LG), CI a b G' → KX G G' → WX (fun x => x = 327684 ∨ x = 327690) G G' → ((0 ≤ r ∧ r ≤ 8) ∧ (r = 0 → LST G' (gS G 327684 4 + 1)) ∧ (∀ m, LST G m → LST G' m) ∧ gS G' 327684 4 ≤ gS G 327684 4 + 200 * (gS G 327705 e.toNat)) → Qr (.inl (some (0, r))) G'
set_option maxHeartbeats 4000000 in
set_option maxRecDepth 100000 in
theorem gX8_checkHalf (m : Nat) (ih : Good kX8_check yX8_check (4 * m) (TX8_check m)) : Good kX8_checkHalf yX8_checkHalf (4 * m + 2) (TX8_checkHalf m) := by
  refine good_of (by decide) rfl rfl (fun as G Qr h => ?_) (fun X as G Qr hcf hR hT oa => ?_)
  · obtain ⟨e, d, o, a, b, rfl, -⟩ := h; exact Nat.le_of_ble_eq_true rfl
  obtain ⟨e, d, o, a, b, rfl, hC, hab, he, hk, hd, hw, ho, hsz, hQ⟩ := hT
  show WP kX8_checkHalf X 0 [some (2, ((327684 : Nat) : Int)), some (0, e), some (2, ((o : Nat) : Int)), some (0, d), none, none, none] [] G
  have hr_e : inR e := okv_R (oa _ (by simp))
  have hr_d : inR d := okv_R (oa _ (by simp))
  refine s_alvl 327684 (k := 0) rfl (fun al0 => ?_)
  obtain ⟨qs, Ls, hs1, hs2, hs3, hs4, hs5, hs6⟩ := hC.stk al0
  have h6 := hC.2.2.2.2.2.2.1.w (e := e) (by omega) (by omega)
  have hk1 : gK G (327684) = (17, 0) := hC.1.k (by decide : cde 327684 = 504) al0
  refine s_alh (327684) 0 al0 (by rw [hk1]; exact Nat.le_of_ble_eq_true rfl) (by rw [hk1]; rfl) (fun az0x => ?_)
  have az0v : gS G 327684 0 = ((327681 : Nat) : Int) := by have h9 : (gS G 327684 0) = 327681 := hC.1.v (j := 0) (by decide : cde 327684 = 504) al0 (by rw [hk1]; exact Nat.le_of_ble_eq_true rfl); omega
  have az0 : (gK G (327681)).1 ≠ 0 := by have h9 := az0x (by omega); rw [az0v, Int.toNat_natCast] at h9; exact h9
  have az0k : gK G (327681) = (14, 0) := hC.1.k (by decide : cde 327681 = 501) az0
  have hpe : 0 ≤ gS G 327681 12 ∧ gS G 327681 12 ≤ 120 := hC.1.v (j := 12) (by decide : cde 327681 = 501) az0 (by rw [az0k]; exact Nat.le_of_ble_eq_true rfl)
  refine s_alh (327681) 5 az0 (by rw [az0k]; exact Nat.le_of_ble_eq_true rfl) (by rw [az0k]; rfl) (fun az1x => ?_)
  have az1v : gS G 327681 5 = ((327701 : Nat) : Int) := by have h9 : (gS G 327681 5) = 327701 := hC.1.v (j := 5) (by decide : cde 327681 = 501) az0 (by rw [az0k]; exact Nat.le_of_ble_eq_true rfl); omega
  have az1 : (gK G (327701)).1 ≠ 0 := by have h9 := az1x (by omega); rw [az1v, Int.toNat_natCast] at h9; exact h9
  have az1k : gK G (327701) = (1, 120) := hC.1.k (by decide : cde 327701 = 521) az1
  refine s_alh (327681) 6 az0 (by rw [az0k]; exact Nat.le_of_ble_eq_true rfl) (by rw [az0k]; rfl) (fun az2x => ?_)
  have az2v : gS G 327681 6 = ((327702 : Nat) : Int) := by have h9 : (gS G 327681 6) = 327702 := hC.1.v (j := 6) (by decide : cde 327681 = 501) az0 (by rw [az0k]; exact Nat.le_of_ble_eq_true rfl); omega
  have az2 : (gK G (327702)).1 ≠ 0 := by have h9 := az2x (by omega); rw [az2v, Int.toNat_natCast] at h9; exact h9
  have az2k : gK G (327702) = (1, 120) := hC.1.k (by decide : cde 327702 = 522) az2
  refine s_alh (327681) 7 az0 (by rw [az0k]; exact Nat.le_of_ble_eq_true rfl) (by rw [az0k]; rfl) (fun az3x => ?_)
  have az3v : gS G 327681 7 = ((327703 : Nat) : Int) := by have h9 : (gS G 327681 7) = 327703 := hC.1.v (j := 7) (by decide : cde 327681 = 501) az0 (by rw [az0k]; exact Nat.le_of_ble_eq_true rfl); omega
  have az3 : (gK G (327703)).1 ≠ 0 := by have h9 := az3x (by omega); rw [az3v, Int.toNat_natCast] at h9; exact h9
  have az3k : gK G (327703) = (1, 120) := hC.1.k (by decide : cde 327703 = 523) az3
  refine s_alh (327681) 8 az0 (by rw [az0k]; exact Nat.le_of_ble_eq_true rfl) (by rw [az0k]; rfl) (fun az4x => ?_)
  have az4v : gS G 327681 8 = ((327704 : Nat) : Int) := by have h9 : (gS G 327681 8) = 327704 := hC.1.v (j := 8) (by decide : cde 327681 = 501) az0 (by rw [az0k]; exact Nat.le_of_ble_eq_true rfl); omega
  have az4 : (gK G (327704)).1 ≠ 0 := by have h9 := az4x (by omega); rw [az4v, Int.toNat_natCast] at h9; exact h9
  have az4k : gK G (327704) = (1, 120) := hC.1.k (by decide : cde 327704 = 524) az4
  refine s_alh (327681) 9 az0 (by rw [az0k]; exact Nat.le_of_ble_eq_true rfl) (by rw [az0k]; rfl) (fun az5x => ?_)
  have az5v : gS G 327681 9 = ((327705 : Nat) : Int) := by have h9 : (gS G 327681 9) = 327705 := hC.1.v (j := 9) (by decide : cde 327681 = 501) az0 (by rw [az0k]; exact Nat.le_of_ble_eq_true rfl); omega
  have az5 : (gK G (327705)).1 ≠ 0 := by have h9 := az5x (by omega); rw [az5v, Int.toNat_natCast] at h9; exact h9
  have az5k : gK G (327705) = (1, 120) := hC.1.k (by decide : cde 327705 = 525) az5
  refine s_aload_n dX8_checkHalf_0 rfl (Int.natCast_nonneg _) ?_
  have hv2 : 0 ≤ (gS G 327684 4) ∧ (gS G 327684 4) ≤ 2412 := hC.1.v (j := 4) (by decide : cde 327684 = 504) al0 (by rw [hk1]; exact Nat.le_of_ble_eq_true rfl)
  refine s_getf (ci := 9) (k := 4) (C := RX8) (T := TX8) (N := 5) (n := 327684) (L := 0) (t := 0) dX8_checkHalf_1 rfl wi_76 m_676 (Nat.le_of_ble_eq_true rfl) rfl rfl hk1 rfl ?_
  refine s_istore dX8_checkHalf_4 (by decide) (lv' := [some (2, ((327684 : Nat) : Int)), some (0, e), some (2, ((o : Nat) : Int)), some (0, d), some (0, gS G 327684 4), none, none]) rfl ?_
  refine s_aload_n dX8_checkHalf_6 rfl (Int.natCast_nonneg _) ?_
  refine s_aload_n dX8_checkHalf_7 rfl (Int.natCast_nonneg _) ?_
  have hv3 : gS G 327684 0 = ((327681 : Nat) : Int) := by have h9 : (gS G 327684 0) = 327681 := hC.1.v (j := 0) (by decide : cde 327684 = 504) al0 (by rw [hk1]; exact Nat.le_of_ble_eq_true rfl); omega
  refine s_getf (ci := 9) (k := 0) (C := RX8) (T := TX8) (N := 5) (n := 327684) (L := 0) (t := 2) dX8_checkHalf_8 rfl wi_76 m_681 (Nat.le_of_ble_eq_true rfl) rfl rfl hk1 hv3 ?_
  have hv4 : gS G 327681 6 = ((327702 : Nat) : Int) := by have h9 : (gS G 327681 6) = 327702 := hC.1.v (j := 6) (by decide : cde 327681 = 501) az0 (by rw [az0k]; exact Nat.le_of_ble_eq_true rfl); omega
  refine s_getf (ci := 6) (k := 6) (C := RX5) (T := TX5) (N := 18) (n := 327681) (L := 0) (t := 2) dX8_checkHalf_11 rfl wi_73 m_675 (Nat.le_of_ble_eq_true rfl) rfl rfl az0k hv4 ?_
  refine s_iload_n dX8_checkHalf_14 rfl ?_
  refine s_iald dX8_checkHalf_15 az2k (by omega) (by omega) rfl ?_
  refine s_aload_n dX8_checkHalf_16 rfl (Int.natCast_nonneg _) ?_
  refine s_iload_n dX8_checkHalf_17 rfl ?_
  refine s_iconst dX8_checkHalf_18 (by decide) ?_
  refine s_iadd dX8_checkHalf_19 (by omega) ?_
  refine s_callV (as := [(0, gS G 327702 ((e : Int).toNat)), (2, ((o : Nat) : Int)), (0, d + 1)]) (rest := []) (n := 327684) (ci := 9) ih dX8_checkHalf_20 m_1419 m_996 m_1719 m_722 m_344 ⟨by decide, by decide, show (parseMethodDescriptor yX8_check.desc).map (fun d => d.parameters.length) = some 3 from by decide +kernel⟩ (Nat.le_of_ble_eq_true rfl) (by rw [hcf]; omega) hk1 rfl rfl (Nat.le_of_ble_eq_true rfl) ⟨gS G 327702 ((e : Int).toNat), d + 1, o, a, b, rfl, hC, hab, (by omega), (by omega), (by omega), (by assumption), (by assumption), fun rr6 G5 hCG5 hXG5 hfG5 hpG5 => ?_⟩
  have hFG5 : WX (fun x => x = 327684 ∨ x = 327690) G G5 := WX.trans WX.rf KX.rf (WX.mono hfG5 (fun x hx => by omega))
  show WP kX8_checkHalf X 23 [some (2, ((327684 : Nat) : Int)), some (0, e), some (2, ((o : Nat) : Int)), some (0, d), some (0, gS G 327684 4), none, none] [(0, rr6)] G5
  have hpcG5 : gS G5 327681 = gS G 327681 := hFG5 327681 az0 (by show ¬ _; omega)
  have hp1G5 : gS G5 327701 = gS G 327701 := hFG5 327701 az1 (by show ¬ _; omega)
  have hp2G5 : gS G5 327702 = gS G 327702 := hFG5 327702 az2 (by show ¬ _; omega)
  have hp3G5 : gS G5 327703 = gS G 327703 := hFG5 327703 az3 (by show ¬ _; omega)
  have hp4G5 : gS G5 327704 = gS G 327704 := hFG5 327704 az4 (by show ¬ _; omega)
  have hp5G5 : gS G5 327705 = gS G 327705 := hFG5 327705 az5 (by show ¬ _; omega)
  have hpnG5 : gS G5 327681 12 = gS G 327681 12 := by rw [hpcG5]
  have hq1G5 : gS G5 327701 e.toNat = gS G 327701 e.toNat := by rw [hp1G5]
  have hq2G5 : gS G5 327702 e.toNat = gS G 327702 e.toNat := by rw [hp2G5]
  have hq3G5 : gS G5 327703 e.toNat = gS G 327703 e.toNat := by rw [hp3G5]
  have hq4G5 : gS G5 327704 e.toNat = gS G 327704 e.toNat := by rw [hp4G5]
  have hq5G5 : gS G5 327705 e.toNat = gS G 327705 e.toNat := by rw [hp5G5]
  have hw2G5 : gS G5 327705 (gS G5 327702 e.toNat).toNat = gS G 327705 (gS G 327702 e.toNat).toNat := by rw [hp5G5, hp2G5]
  have hw3G5 : gS G5 327705 (gS G5 327703 e.toNat).toNat = gS G 327705 (gS G 327703 e.toNat).toNat := by rw [hp5G5, hp3G5]
  have hw4G5 : gS G5 327705 (gS G5 327704 e.toNat).toNat = gS G 327705 (gS G 327704 e.toNat).toNat := by rw [hp5G5, hp4G5]
  have hfzG5 := hsz.wx hXG5 hFG5 (by show ¬ _; omega) (by show ¬ _; omega)
  obtain ⟨qsG5, LsG5, hs1G5, hs2G5, hs3G5, hs4G5, hs5G5, hs6G5⟩ := hCG5.stk (KX.al hXG5 al0)
  refine s_istore dX8_checkHalf_23 (by decide) (lv' := [some (2, ((327684 : Nat) : Int)), some (0, e), some (2, ((o : Nat) : Int)), some (0, d), some (0, gS G 327684 4), some (0, rr6), none]) rfl ?_
  refine s_iload dX8_checkHalf_25 rfl ?_
  refine s_if_eq (tgt := 33) dX8_checkHalf_27 (by decide) (fun c7 => ?_) (fun c7 => ?_)
  · -- 27 to 33
    refine s_iload dX8_checkHalf_33 rfl ?_
    refine s_aload_n dX8_checkHalf_35 rfl (Int.natCast_nonneg _) ?_
    have hk8 : gK G5 (327684) = (17, 0) := ((hXG5).k hk1 (by decide))
    refine s_alv (327684) (by simp) (fun al10 => ?_)
    have hv9 : 0 ≤ (gS G5 327684 4) ∧ (gS G5 327684 4) ≤ 2412 := hCG5.1.v (j := 4) (by decide : cde 327684 = 504) al10 (by rw [hk8]; exact Nat.le_of_ble_eq_true rfl)
    refine s_getf (ci := 9) (k := 4) (C := RX8) (T := TX8) (N := 5) (n := 327684) (L := 0) (t := 0) dX8_checkHalf_36 rfl wi_76 m_676 (Nat.le_of_ble_eq_true rfl) rfl rfl hk8 rfl ?_
    refine s_icmp_ge (tgt := 53) dX8_checkHalf_39 (by decide) (fun c11 => ?_) (fun c11 => ?_)
    · -- 39 to 53
      refine s_iconst dX8_checkHalf_53 (by decide) ?_
      exact s_iret hR dX8_checkHalf_54 rfl (hQ 2 G5 hCG5 hXG5 hFG5 ⟨by omega, fun h => (hpG5.2.1 (by omega)), fun m hm => (hpG5.2.2.1 m hm), by omega⟩)
    · -- 39 to 42
      refine s_aload_n dX8_checkHalf_42 rfl (Int.natCast_nonneg _) ?_
      refine s_getf (ci := 9) (k := 3) (C := RX8) (T := TX8) (N := 5) (n := 327684) (L := 0) (t := 2) dX8_checkHalf_43 rfl wi_76 m_680 (Nat.le_of_ble_eq_true rfl) rfl rfl hk8 hs1G5 ?_
      refine s_iload dX8_checkHalf_46 rfl ?_
      refine s_iald dX8_checkHalf_48 hs3G5 (by omega) (by omega) rfl ?_
      refine s_iconst dX8_checkHalf_49 (by decide) ?_
      refine s_icmp_eq (tgt := 55) dX8_checkHalf_50 (by decide) (fun c13 => ?_) (fun c13 => ?_)
      · -- 50 to 55
        refine s_aload_n dX8_checkHalf_55 rfl (Int.natCast_nonneg _) ?_
        refine s_iload dX8_checkHalf_56 rfl ?_
        refine s_iconst dX8_checkHalf_58 (by decide) ?_
        refine s_iadd dX8_checkHalf_59 (by omega) ?_
        refine s_callV (as := [(0, (gS G 327684 4) + 1)]) (rest := []) (n := 327684) (ci := 9) gX8_endOfType dX8_checkHalf_60 m_1434 m_1004 m_1727 m_722 m_352 ⟨by decide, by decide, show (parseMethodDescriptor yX8_endOfType.desc).map (fun d => d.parameters.length) = some 1 from by decide +kernel⟩ (Nat.le_of_ble_eq_true rfl) (by rw [hcf]; omega) hk8 rfl rfl (Nat.le_of_ble_eq_true rfl) ⟨(gS G 327684 4) + 1, a, b, rfl, hCG5, hab, (by first | assumption | omega), fun rr14 hp15 => ?_⟩
        show WP kX8_checkHalf X 63 [some (2, ((327684 : Nat) : Int)), some (0, e), some (2, ((o : Nat) : Int)), some (0, d), some (0, gS G 327684 4), some (0, rr6), none] [(0, rr14)] G5
        refine s_istore dX8_checkHalf_63 (by decide) (lv' := [some (2, ((327684 : Nat) : Int)), some (0, e), some (2, ((o : Nat) : Int)), some (0, d), some (0, gS G 327684 4), some (0, rr6), some (0, rr14)]) rfl ?_
        refine s_aload_n dX8_checkHalf_65 rfl (Int.natCast_nonneg _) ?_
        have hv16 : gS G5 327684 0 = ((327681 : Nat) : Int) := by have h9 : (gS G5 327684 0) = 327681 := hCG5.1.v (j := 0) (by decide : cde 327684 = 504) al10 (by rw [hk8]; exact Nat.le_of_ble_eq_true rfl); omega
        refine s_getf (ci := 9) (k := 0) (C := RX8) (T := TX8) (N := 5) (n := 327684) (L := 0) (t := 2) dX8_checkHalf_66 rfl wi_76 m_681 (Nat.le_of_ble_eq_true rfl) rfl rfl hk8 hv16 ?_
        have hk17 : gK G5 (327681) = (14, 0) := ((hXG5).k az0k (by decide))
        refine s_alv (327681) (by simp) (fun al18 => ?_)
        have hv19 : gS G5 327681 5 = ((327701 : Nat) : Int) := by have h9 : (gS G5 327681 5) = 327701 := hCG5.1.v (j := 5) (by decide : cde 327681 = 501) al18 (by rw [hk17]; exact Nat.le_of_ble_eq_true rfl); omega
        refine s_getf (ci := 6) (k := 5) (C := RX5) (T := TX5) (N := 18) (n := 327681) (L := 0) (t := 2) dX8_checkHalf_69 rfl wi_73 m_674 (Nat.le_of_ble_eq_true rfl) rfl rfl hk17 hv19 ?_
        refine s_iload_n dX8_checkHalf_72 rfl ?_
        have hk20 : gK G5 (327701) = (1, 120) := ((hXG5).k az1k (by decide))
        refine s_alv (327701) (by simp) (fun al21 => ?_)
        have hv22 : 0 ≤ (gS G5 327701 (e : Int).toNat) ∧ (gS G5 327701 (e : Int).toNat) ≤ 6 := hCG5.1.v (j := (e : Int).toNat) (by decide : cde 327701 = 521) al21 (by rw [hk20]; show (e : Int).toNat < 120; omega)
        refine s_iald dX8_checkHalf_73 hk20 (by omega) (by omega) rfl ?_
        refine s_iconst dX8_checkHalf_74 (by decide) ?_
        refine s_icmp_ne (tgt := 93) dX8_checkHalf_75 (by decide) (fun c23 => ?_) (fun c23 => ?_)
        · -- 75 to 93
          refine s_aload_n dX8_checkHalf_93 rfl (Int.natCast_nonneg _) ?_
          refine s_iload dX8_checkHalf_94 rfl ?_
          refine s_iload dX8_checkHalf_96 rfl ?_
          refine s_aload_n dX8_checkHalf_98 rfl (Int.natCast_nonneg _) ?_
          refine s_getf (ci := 9) (k := 4) (C := RX8) (T := TX8) (N := 5) (n := 327684) (L := 0) (t := 0) dX8_checkHalf_99 rfl wi_76 m_676 (Nat.le_of_ble_eq_true rfl) rfl rfl hk8 rfl ?_
          refine s_callV (as := [(0, gS G 327684 4), (0, rr14), (0, gS G5 327684 4)]) (rest := []) (n := 327684) (ci := 9) gX8_cutTo dX8_checkHalf_102 m_1433 m_1003 m_1726 m_722 m_351 ⟨by decide, by decide, show (parseMethodDescriptor yX8_cutTo.desc).map (fun d => d.parameters.length) = some 3 from by decide +kernel⟩ (Nat.le_of_ble_eq_true rfl) (by rw [hcf]; omega) hk8 rfl rfl (Nat.le_of_ble_eq_true rfl) ⟨gS G 327684 4, rr14, gS G5 327684 4, a, b, rfl, hCG5, hab, (by first | assumption | omega), fun G25 hCG25 hXG25 hfG25 hpG25 => ?_⟩
          have hFG25 : WX (fun x => x = 327684 ∨ x = 327690) G G25 := WX.trans hFG5 hXG5 (WX.mono hfG25 (fun x hx => by omega))
          show WP kX8_checkHalf X 105 [some (2, ((327684 : Nat) : Int)), some (0, e), some (2, ((o : Nat) : Int)), some (0, d), some (0, gS G 327684 4), some (0, rr6), some (0, rr14)] [] G25
          refine s_iconst dX8_checkHalf_105 (by decide) ?_
          exact s_iret hR dX8_checkHalf_106 rfl (hQ 0 G25 hCG25 (KX.trans hXG5 hXG25) hFG25 ⟨by omega, fun h => (hpG25.2 _ (hpG5.2.1 (by omega))), fun m hm => (hpG25.2 m (hpG5.2.2.1 m hm)), by omega⟩)
        · -- 75 to 78
          refine s_aload_n dX8_checkHalf_78 rfl (Int.natCast_nonneg _) ?_
          refine s_iload dX8_checkHalf_79 rfl ?_
          refine s_iload dX8_checkHalf_81 rfl ?_
          refine s_iconst dX8_checkHalf_83 (by decide) ?_
          refine s_iadd dX8_checkHalf_84 (by omega) ?_
          refine s_iload dX8_checkHalf_85 rfl ?_
          refine s_callV (as := [(0, gS G 327684 4), (0, (gS G 327684 4) + 1), (0, rr14)]) (rest := []) (n := 327684) (ci := 9) gX8_cutTo dX8_checkHalf_87 m_1433 m_1003 m_1726 m_722 m_351 ⟨by decide, by decide, show (parseMethodDescriptor yX8_cutTo.desc).map (fun d => d.parameters.length) = some 3 from by decide +kernel⟩ (Nat.le_of_ble_eq_true rfl) (by rw [hcf]; omega) hk8 rfl rfl (Nat.le_of_ble_eq_true rfl) ⟨gS G 327684 4, (gS G 327684 4) + 1, rr14, a, b, rfl, hCG5, hab, (by first | assumption | omega), fun G27 hCG27 hXG27 hfG27 hpG27 => ?_⟩
          have hFG27 : WX (fun x => x = 327684 ∨ x = 327690) G G27 := WX.trans hFG5 hXG5 (WX.mono hfG27 (fun x hx => by omega))
          show WP kX8_checkHalf X 90 [some (2, ((327684 : Nat) : Int)), some (0, e), some (2, ((o : Nat) : Int)), some (0, d), some (0, gS G 327684 4), some (0, rr6), some (0, rr14)] [] G27
          refine s_goto (tgt := 105) dX8_checkHalf_90 (by decide) ?_
          refine s_iconst dX8_checkHalf_105 (by decide) ?_
          exact s_iret hR dX8_checkHalf_106 rfl (hQ 0 G27 hCG27 (KX.trans hXG5 hXG27) hFG27 ⟨by omega, fun h => (hpG27.2 _ (hpG5.2.1 (by omega))), fun m hm => (hpG27.2 m (hpG5.2.2.1 m hm)), by omega⟩)
      · -- 50 to 53
        refine s_iconst dX8_checkHalf_53 (by decide) ?_
        exact s_iret hR dX8_checkHalf_54 rfl (hQ 2 G5 hCG5 hXG5 hFG5 ⟨by omega, fun h => (hpG5.2.1 (by omega)), fun m hm => (hpG5.2.2.1 m hm), by omega⟩)
  · -- 27 to 30
    refine s_iload dX8_checkHalf_30 rfl ?_
    exact s_iret hR dX8_checkHalf_32 rfl (hQ rr6 G5 hCG5 hXG5 hFG5 ⟨by omega, fun h => (hpG5.2.1 (by omega)), fun m hm => (hpG5.2.2.1 m hm), by omega⟩)

set_option maxHeartbeats 4000000 in
set_option maxRecDepth 100000 in
theorem gX8_check_s (m : Nat) (ih : Good kX8_check yX8_check (4 * m) (TX8_check m)) : Good kX8_check yX8_check (4 * (m + 1)) (TX8_check (m + 1)) := by
  refine good_of (by decide) rfl rfl (fun as G Qr h => ?_) (fun X as G Qr hcf hR hT oa => ?_)
  · obtain ⟨e, d, o, a, b, rfl, -⟩ := h; exact Nat.le_of_ble_eq_true rfl
  obtain ⟨e, d, o, a, b, rfl, hC, hab, he, hd, hw, ho, hsz, hQ⟩ := hT
  show WP kX8_check X 0 [some (2, ((327684 : Nat) : Int)), some (0, e), some (2, ((o : Nat) : Int)), some (0, d)] [] G
  have hr_e : inR e := okv_R (oa _ (by simp))
  have hr_d : inR d := okv_R (oa _ (by simp))
  refine s_alvl 327684 (k := 0) rfl (fun al0 => ?_)
  obtain ⟨qs, Ls, hs1, hs2, hs3, hs4, hs5, hs6⟩ := hC.stk al0
  have h6 := hC.2.2.2.2.2.2.1.w (e := e) (by omega) (by omega)
  have hk1 : gK G (327684) = (17, 0) := hC.1.k (by decide : cde 327684 = 504) al0
  refine s_alh (327684) 0 al0 (by rw [hk1]; exact Nat.le_of_ble_eq_true rfl) (by rw [hk1]; rfl) (fun az0x => ?_)
  have az0v : gS G 327684 0 = ((327681 : Nat) : Int) := by have h9 : (gS G 327684 0) = 327681 := hC.1.v (j := 0) (by decide : cde 327684 = 504) al0 (by rw [hk1]; exact Nat.le_of_ble_eq_true rfl); omega
  have az0 : (gK G (327681)).1 ≠ 0 := by have h9 := az0x (by omega); rw [az0v, Int.toNat_natCast] at h9; exact h9
  have az0k : gK G (327681) = (14, 0) := hC.1.k (by decide : cde 327681 = 501) az0
  have hpe : 0 ≤ gS G 327681 12 ∧ gS G 327681 12 ≤ 120 := hC.1.v (j := 12) (by decide : cde 327681 = 501) az0 (by rw [az0k]; exact Nat.le_of_ble_eq_true rfl)
  refine s_alh (327681) 5 az0 (by rw [az0k]; exact Nat.le_of_ble_eq_true rfl) (by rw [az0k]; rfl) (fun az1x => ?_)
  have az1v : gS G 327681 5 = ((327701 : Nat) : Int) := by have h9 : (gS G 327681 5) = 327701 := hC.1.v (j := 5) (by decide : cde 327681 = 501) az0 (by rw [az0k]; exact Nat.le_of_ble_eq_true rfl); omega
  have az1 : (gK G (327701)).1 ≠ 0 := by have h9 := az1x (by omega); rw [az1v, Int.toNat_natCast] at h9; exact h9
  have az1k : gK G (327701) = (1, 120) := hC.1.k (by decide : cde 327701 = 521) az1
  refine s_alh (327681) 6 az0 (by rw [az0k]; exact Nat.le_of_ble_eq_true rfl) (by rw [az0k]; rfl) (fun az2x => ?_)
  have az2v : gS G 327681 6 = ((327702 : Nat) : Int) := by have h9 : (gS G 327681 6) = 327702 := hC.1.v (j := 6) (by decide : cde 327681 = 501) az0 (by rw [az0k]; exact Nat.le_of_ble_eq_true rfl); omega
  have az2 : (gK G (327702)).1 ≠ 0 := by have h9 := az2x (by omega); rw [az2v, Int.toNat_natCast] at h9; exact h9
  have az2k : gK G (327702) = (1, 120) := hC.1.k (by decide : cde 327702 = 522) az2
  refine s_alh (327681) 7 az0 (by rw [az0k]; exact Nat.le_of_ble_eq_true rfl) (by rw [az0k]; rfl) (fun az3x => ?_)
  have az3v : gS G 327681 7 = ((327703 : Nat) : Int) := by have h9 : (gS G 327681 7) = 327703 := hC.1.v (j := 7) (by decide : cde 327681 = 501) az0 (by rw [az0k]; exact Nat.le_of_ble_eq_true rfl); omega
  have az3 : (gK G (327703)).1 ≠ 0 := by have h9 := az3x (by omega); rw [az3v, Int.toNat_natCast] at h9; exact h9
  have az3k : gK G (327703) = (1, 120) := hC.1.k (by decide : cde 327703 = 523) az3
  refine s_alh (327681) 8 az0 (by rw [az0k]; exact Nat.le_of_ble_eq_true rfl) (by rw [az0k]; rfl) (fun az4x => ?_)
  have az4v : gS G 327681 8 = ((327704 : Nat) : Int) := by have h9 : (gS G 327681 8) = 327704 := hC.1.v (j := 8) (by decide : cde 327681 = 501) az0 (by rw [az0k]; exact Nat.le_of_ble_eq_true rfl); omega
  have az4 : (gK G (327704)).1 ≠ 0 := by have h9 := az4x (by omega); rw [az4v, Int.toNat_natCast] at h9; exact h9
  have az4k : gK G (327704) = (1, 120) := hC.1.k (by decide : cde 327704 = 524) az4
  refine s_alh (327681) 9 az0 (by rw [az0k]; exact Nat.le_of_ble_eq_true rfl) (by rw [az0k]; rfl) (fun az5x => ?_)
  have az5v : gS G 327681 9 = ((327705 : Nat) : Int) := by have h9 : (gS G 327681 9) = 327705 := hC.1.v (j := 9) (by decide : cde 327681 = 501) az0 (by rw [az0k]; exact Nat.le_of_ble_eq_true rfl); omega
  have az5 : (gK G (327705)).1 ≠ 0 := by have h9 := az5x (by omega); rw [az5v, Int.toNat_natCast] at h9; exact h9
  have az5k : gK G (327705) = (1, 120) := hC.1.k (by decide : cde 327705 = 525) az5
  refine s_iload_n dX8_check_0 rfl ?_
  refine s_if_lt (tgt := 10) dX8_check_1 (by decide) (fun c2 => ?_) (fun c2 => ?_)
  · -- 1 to 10
    exfalso; omega
  · -- 1 to 4
    refine s_iload_n dX8_check_4 rfl ?_
    refine s_bipush dX8_check_5 rfl (by decide) ?_
    refine s_icmp_le (tgt := 12) dX8_check_7 (by decide) (fun c3 => ?_) (fun c3 => ?_)
    · -- 7 to 12
      refine s_aload_n dX8_check_12 rfl (Int.natCast_nonneg _) ?_
      have hv4 : gS G 327684 0 = ((327681 : Nat) : Int) := by have h9 : (gS G 327684 0) = 327681 := hC.1.v (j := 0) (by decide : cde 327684 = 504) al0 (by rw [hk1]; exact Nat.le_of_ble_eq_true rfl); omega
      refine s_getf (ci := 9) (k := 0) (C := RX8) (T := TX8) (N := 5) (n := 327684) (L := 0) (t := 2) dX8_check_13 rfl wi_76 m_681 (Nat.le_of_ble_eq_true rfl) rfl rfl hk1 hv4 ?_
      have hv5 : gS G 327681 5 = ((327701 : Nat) : Int) := by have h9 : (gS G 327681 5) = 327701 := hC.1.v (j := 5) (by decide : cde 327681 = 501) az0 (by rw [az0k]; exact Nat.le_of_ble_eq_true rfl); omega
      refine s_getf (ci := 6) (k := 5) (C := RX5) (T := TX5) (N := 18) (n := 327681) (L := 0) (t := 2) dX8_check_16 rfl wi_73 m_674 (Nat.le_of_ble_eq_true rfl) rfl rfl az0k hv5 ?_
      refine s_iload_n dX8_check_19 rfl ?_
      have hv6 : 0 ≤ (gS G 327701 (e : Int).toNat) ∧ (gS G 327701 (e : Int).toNat) ≤ 6 := hC.1.v (j := (e : Int).toNat) (by decide : cde 327701 = 521) az1 (by rw [az1k]; show (e : Int).toNat < 120; omega)
      refine s_iald dX8_check_20 az1k (by omega) (by omega) rfl ?_
      by_cases c7_0 : (gS G 327701 ((e : Int).toNat)) = 0
      · -- case 0
        refine s_tableIn (tgt := 85) (off := 64) dX8_check_21 (by omega) (by omega) (by rw [c7_0]; rfl) (by decide) ?_
        refine s_aload_n dX8_check_85 rfl (Int.natCast_nonneg _) ?_
        refine s_iload_n dX8_check_86 rfl ?_
        refine s_aload_n dX8_check_87 rfl (Int.natCast_nonneg _) ?_
        refine s_iload_n dX8_check_88 rfl ?_
        refine s_callV (as := [(0, e), (2, ((o : Nat) : Int)), (0, d)]) (rest := []) (n := 327684) (ci := 9) (gX8_checkAdd m ih) dX8_check_89 m_1424 m_997 m_1720 m_722 m_345 ⟨by decide, by decide, show (parseMethodDescriptor yX8_checkAdd.desc).map (fun d => d.parameters.length) = some 3 from by decide +kernel⟩ (Nat.le_of_ble_eq_true rfl) (by rw [hcf]; omega) hk1 rfl rfl (Nat.le_of_ble_eq_true rfl) ⟨e, d, o, a, b, rfl, hC, hab, (by omega), (by omega), (by omega), (by omega), (by assumption), (by assumption), fun rr9 G8 hCG8 hXG8 hfG8 hpG8 => ?_⟩
        have hFG8 : WX (fun x => x = 327684 ∨ x = 327690) G G8 := WX.trans WX.rf KX.rf (WX.mono hfG8 (fun x hx => by omega))
        show WP kX8_check X 92 [some (2, ((327684 : Nat) : Int)), some (0, e), some (2, ((o : Nat) : Int)), some (0, d)] [(0, rr9)] G8
        exact s_iret hR dX8_check_92 rfl (hQ rr9 G8 hCG8 hXG8 hFG8 ⟨by omega, fun h => (hpG8.2.1 (by omega)), fun m hm => (hpG8.2.2.1 m hm), by omega⟩)
      by_cases c7_1 : (gS G 327701 ((e : Int).toNat)) = 1
      · -- case 1
        refine s_tableIn (tgt := 93) (off := 72) dX8_check_21 (by omega) (by omega) (by rw [c7_1]; rfl) (by decide) ?_
        refine s_aload_n dX8_check_93 rfl (Int.natCast_nonneg _) ?_
        refine s_iconst dX8_check_94 (by decide) ?_
        refine s_callV (as := [(0, 1)]) (rest := []) (n := 327684) (ci := 9) gX8_push dX8_check_95 m_1422 m_1011 m_1733 m_722 m_359 ⟨by decide, by decide, show (parseMethodDescriptor yX8_push.desc).map (fun d => d.parameters.length) = some 1 from by decide +kernel⟩ (Nat.le_of_ble_eq_true rfl) (by rw [hcf]; omega) hk1 rfl rfl (Nat.le_of_ble_eq_true rfl) ⟨1, a, b, rfl, hC, hab, (by first | assumption | omega), fun rr11 G10 hCG10 hXG10 hfG10 hpG10 => ?_⟩
        have hFG10 : WX (fun x => x = 327684 ∨ x = 327690) G G10 := WX.trans WX.rf KX.rf (WX.mono hfG10 (fun x hx => by omega))
        show WP kX8_check X 98 [some (2, ((327684 : Nat) : Int)), some (0, e), some (2, ((o : Nat) : Int)), some (0, d)] [(0, rr11)] G10
        have hpcG10 : gS G10 327681 = gS G 327681 := hFG10 327681 az0 (by show ¬ _; omega)
        have hp1G10 : gS G10 327701 = gS G 327701 := hFG10 327701 az1 (by show ¬ _; omega)
        have hp2G10 : gS G10 327702 = gS G 327702 := hFG10 327702 az2 (by show ¬ _; omega)
        have hp3G10 : gS G10 327703 = gS G 327703 := hFG10 327703 az3 (by show ¬ _; omega)
        have hp4G10 : gS G10 327704 = gS G 327704 := hFG10 327704 az4 (by show ¬ _; omega)
        have hp5G10 : gS G10 327705 = gS G 327705 := hFG10 327705 az5 (by show ¬ _; omega)
        have hpnG10 : gS G10 327681 12 = gS G 327681 12 := by rw [hpcG10]
        have hq1G10 : gS G10 327701 e.toNat = gS G 327701 e.toNat := by rw [hp1G10]
        have hq2G10 : gS G10 327702 e.toNat = gS G 327702 e.toNat := by rw [hp2G10]
        have hq3G10 : gS G10 327703 e.toNat = gS G 327703 e.toNat := by rw [hp3G10]
        have hq4G10 : gS G10 327704 e.toNat = gS G 327704 e.toNat := by rw [hp4G10]
        have hq5G10 : gS G10 327705 e.toNat = gS G 327705 e.toNat := by rw [hp5G10]
        have hw2G10 : gS G10 327705 (gS G10 327702 e.toNat).toNat = gS G 327705 (gS G 327702 e.toNat).toNat := by rw [hp5G10, hp2G10]
        have hw3G10 : gS G10 327705 (gS G10 327703 e.toNat).toNat = gS G 327705 (gS G 327703 e.toNat).toNat := by rw [hp5G10, hp3G10]
        have hw4G10 : gS G10 327705 (gS G10 327704 e.toNat).toNat = gS G 327705 (gS G 327704 e.toNat).toNat := by rw [hp5G10, hp4G10]
        have hfzG10 := hsz.wx hXG10 hFG10 (by show ¬ _; omega) (by show ¬ _; omega)
        refine s_pop dX8_check_98 (show (0 : Nat) ≠ 1 by decide) ?_
        refine s_aload_n dX8_check_99 rfl (Int.natCast_nonneg _) ?_
        refine s_iload_n dX8_check_100 rfl ?_
        refine s_aload_n dX8_check_101 rfl (Int.natCast_nonneg _) ?_
        refine s_iload_n dX8_check_102 rfl ?_
        have hk14 : gK G10 (327684) = (17, 0) := ((hXG10).k hk1 (by decide))
        refine s_callV (as := [(0, e), (2, ((o : Nat) : Int)), (0, d)]) (rest := []) (n := 327684) (ci := 9) (gX8_checkBoth m ih) dX8_check_103 m_1425 m_998 m_1721 m_722 m_346 ⟨by decide, by decide, show (parseMethodDescriptor yX8_checkBoth.desc).map (fun d => d.parameters.length) = some 3 from by decide +kernel⟩ (Nat.le_of_ble_eq_true rfl) (by rw [hcf]; omega) hk14 rfl rfl (Nat.le_of_ble_eq_true rfl) ⟨e, d, o, a, b, rfl, hCG10, hab, (by omega), (by omega), (by omega), (by omega), (by assumption), (by exact hfzG10), fun rr13 G12 hCG12 hXG12 hfG12 hpG12 => ?_⟩
        have hFG12 : WX (fun x => x = 327684 ∨ x = 327690) G G12 := WX.trans hFG10 hXG10 (WX.mono hfG12 (fun x hx => by omega))
        show WP kX8_check X 106 [some (2, ((327684 : Nat) : Int)), some (0, e), some (2, ((o : Nat) : Int)), some (0, d)] [(0, rr13)] G12
        exact s_iret hR dX8_check_106 rfl (hQ rr13 G12 hCG12 (KX.trans hXG10 hXG12) hFG12 ⟨by omega, fun h => (hpG12.2.2.1 _ hpG10.2.2.1), fun m hm => (hpG12.2.2.1 m (hpG10.2.2.2 m hm)), by omega⟩)
      by_cases c7_2 : (gS G 327701 ((e : Int).toNat)) = 2
      · -- case 2
        refine s_tableIn (tgt := 115) (off := 94) dX8_check_21 (by omega) (by omega) (by rw [c7_2]; rfl) (by decide) ?_
        refine s_aload_n dX8_check_115 rfl (Int.natCast_nonneg _) ?_
        refine s_iload_n dX8_check_116 rfl ?_
        refine s_aload_n dX8_check_117 rfl (Int.natCast_nonneg _) ?_
        refine s_iload_n dX8_check_118 rfl ?_
        refine s_callV (as := [(0, e), (2, ((o : Nat) : Int)), (0, d)]) (rest := []) (n := 327684) (ci := 9) (gX8_checkHalf m ih) dX8_check_119 m_1427 m_1000 m_1723 m_722 m_348 ⟨by decide, by decide, show (parseMethodDescriptor yX8_checkHalf.desc).map (fun d => d.parameters.length) = some 3 from by decide +kernel⟩ (Nat.le_of_ble_eq_true rfl) (by rw [hcf]; omega) hk1 rfl rfl (Nat.le_of_ble_eq_true rfl) ⟨e, d, o, a, b, rfl, hC, hab, (by omega), (by omega), (by omega), (by omega), (by assumption), (by assumption), fun rr16 G15 hCG15 hXG15 hfG15 hpG15 => ?_⟩
        have hFG15 : WX (fun x => x = 327684 ∨ x = 327690) G G15 := WX.trans WX.rf KX.rf (WX.mono hfG15 (fun x hx => by omega))
        show WP kX8_check X 122 [some (2, ((327684 : Nat) : Int)), some (0, e), some (2, ((o : Nat) : Int)), some (0, d)] [(0, rr16)] G15
        exact s_iret hR dX8_check_122 rfl (hQ rr16 G15 hCG15 hXG15 hFG15 ⟨by omega, fun h => (hpG15.2.1 (by omega)), fun m hm => (hpG15.2.2.1 m hm), by omega⟩)
      by_cases c7_3 : (gS G 327701 ((e : Int).toNat)) = 3
      · -- case 3
        refine s_tableIn (tgt := 115) (off := 94) dX8_check_21 (by omega) (by omega) (by rw [c7_3]; rfl) (by decide) ?_
        refine s_aload_n dX8_check_115 rfl (Int.natCast_nonneg _) ?_
        refine s_iload_n dX8_check_116 rfl ?_
        refine s_aload_n dX8_check_117 rfl (Int.natCast_nonneg _) ?_
        refine s_iload_n dX8_check_118 rfl ?_
        refine s_callV (as := [(0, e), (2, ((o : Nat) : Int)), (0, d)]) (rest := []) (n := 327684) (ci := 9) (gX8_checkHalf m ih) dX8_check_119 m_1427 m_1000 m_1723 m_722 m_348 ⟨by decide, by decide, show (parseMethodDescriptor yX8_checkHalf.desc).map (fun d => d.parameters.length) = some 3 from by decide +kernel⟩ (Nat.le_of_ble_eq_true rfl) (by rw [hcf]; omega) hk1 rfl rfl (Nat.le_of_ble_eq_true rfl) ⟨e, d, o, a, b, rfl, hC, hab, (by omega), (by omega), (by omega), (by omega), (by assumption), (by assumption), fun rr18 G17 hCG17 hXG17 hfG17 hpG17 => ?_⟩
        have hFG17 : WX (fun x => x = 327684 ∨ x = 327690) G G17 := WX.trans WX.rf KX.rf (WX.mono hfG17 (fun x hx => by omega))
        show WP kX8_check X 122 [some (2, ((327684 : Nat) : Int)), some (0, e), some (2, ((o : Nat) : Int)), some (0, d)] [(0, rr18)] G17
        exact s_iret hR dX8_check_122 rfl (hQ rr18 G17 hCG17 hXG17 hFG17 ⟨by omega, fun h => (hpG17.2.1 (by omega)), fun m hm => (hpG17.2.2.1 m hm), by omega⟩)
      by_cases c7_4 : (gS G 327701 ((e : Int).toNat)) = 4
      · -- case 4
        refine s_tableIn (tgt := 107) (off := 86) dX8_check_21 (by omega) (by omega) (by rw [c7_4]; rfl) (by decide) ?_
        refine s_aload_n dX8_check_107 rfl (Int.natCast_nonneg _) ?_
        refine s_iload_n dX8_check_108 rfl ?_
        refine s_aload_n dX8_check_109 rfl (Int.natCast_nonneg _) ?_
        refine s_iload_n dX8_check_110 rfl ?_
        refine s_callV (as := [(0, e), (2, ((o : Nat) : Int)), (0, d)]) (rest := []) (n := 327684) (ci := 9) (gX8_checkWhen m ih) dX8_check_111 m_1426 m_1002 m_1725 m_722 m_350 ⟨by decide, by decide, show (parseMethodDescriptor yX8_checkWhen.desc).map (fun d => d.parameters.length) = some 3 from by decide +kernel⟩ (Nat.le_of_ble_eq_true rfl) (by rw [hcf]; omega) hk1 rfl rfl (Nat.le_of_ble_eq_true rfl) ⟨e, d, o, a, b, rfl, hC, hab, (by omega), (by omega), (by omega), (by omega), (by assumption), (by assumption), fun rr20 G19 hCG19 hXG19 hfG19 hpG19 => ?_⟩
        have hFG19 : WX (fun x => x = 327684 ∨ x = 327690) G G19 := WX.trans WX.rf KX.rf (WX.mono hfG19 (fun x hx => by omega))
        show WP kX8_check X 114 [some (2, ((327684 : Nat) : Int)), some (0, e), some (2, ((o : Nat) : Int)), some (0, d)] [(0, rr20)] G19
        exact s_iret hR dX8_check_114 rfl (hQ rr20 G19 hCG19 hXG19 hFG19 ⟨by omega, fun h => (hpG19.2.1 (by omega)), fun m hm => (hpG19.2.2.1 m hm), by omega⟩)
      by_cases c7_5 : (gS G 327701 ((e : Int).toNat)) = 5
      · -- case 5
        refine s_tableIn (tgt := 64) (off := 43) dX8_check_21 (by omega) (by omega) (by rw [c7_5]; rfl) (by decide) ?_
        refine s_aload_n dX8_check_64 rfl (Int.natCast_nonneg _) ?_
        refine s_iconst dX8_check_65 (by decide) ?_
        refine s_callV (as := [(0, 0)]) (rest := []) (n := 327684) (ci := 9) gX8_push dX8_check_66 m_1422 m_1011 m_1733 m_722 m_359 ⟨by decide, by decide, show (parseMethodDescriptor yX8_push.desc).map (fun d => d.parameters.length) = some 1 from by decide +kernel⟩ (Nat.le_of_ble_eq_true rfl) (by rw [hcf]; omega) hk1 rfl rfl (Nat.le_of_ble_eq_true rfl) ⟨0, a, b, rfl, hC, hab, (by first | assumption | omega), fun rr22 G21 hCG21 hXG21 hfG21 hpG21 => ?_⟩
        have hFG21 : WX (fun x => x = 327684 ∨ x = 327690) G G21 := WX.trans WX.rf KX.rf (WX.mono hfG21 (fun x hx => by omega))
        show WP kX8_check X 69 [some (2, ((327684 : Nat) : Int)), some (0, e), some (2, ((o : Nat) : Int)), some (0, d)] [(0, rr22)] G21
        exact s_iret hR dX8_check_69 rfl (hQ rr22 G21 hCG21 hXG21 hFG21 ⟨by omega, fun h => hpG21.2.2.1, fun m hm => (hpG21.2.2.2 m hm), by omega⟩)
      by_cases c7_6 : (gS G 327701 ((e : Int).toNat)) = 6
      · -- case 6
        refine s_tableIn (tgt := 70) (off := 49) dX8_check_21 (by omega) (by omega) (by rw [c7_6]; rfl) (by decide) ?_
        refine s_aload_n dX8_check_70 rfl (Int.natCast_nonneg _) ?_
        refine s_aload_n dX8_check_71 rfl (Int.natCast_nonneg _) ?_
        have hv23 : gS G 327684 0 = ((327681 : Nat) : Int) := by have h9 : (gS G 327684 0) = 327681 := hC.1.v (j := 0) (by decide : cde 327684 = 504) al0 (by rw [hk1]; exact Nat.le_of_ble_eq_true rfl); omega
        refine s_getf (ci := 9) (k := 0) (C := RX8) (T := TX8) (N := 5) (n := 327684) (L := 0) (t := 2) dX8_check_72 rfl wi_76 m_681 (Nat.le_of_ble_eq_true rfl) rfl rfl hk1 hv23 ?_
        have hv24 : gS G 327681 6 = ((327702 : Nat) : Int) := by have h9 : (gS G 327681 6) = 327702 := hC.1.v (j := 6) (by decide : cde 327681 = 501) az0 (by rw [az0k]; exact Nat.le_of_ble_eq_true rfl); omega
        refine s_getf (ci := 6) (k := 6) (C := RX5) (T := TX5) (N := 18) (n := 327681) (L := 0) (t := 2) dX8_check_75 rfl wi_73 m_675 (Nat.le_of_ble_eq_true rfl) rfl rfl az0k hv24 ?_
        refine s_iload_n dX8_check_78 rfl ?_
        refine s_iald dX8_check_79 az2k (by omega) (by omega) rfl ?_
        refine s_aload_n dX8_check_80 rfl (Int.natCast_nonneg _) ?_
        refine s_callV (as := [(0, gS G 327702 ((e : Int).toNat)), (2, ((o : Nat) : Int))]) (rest := []) (n := 327684) (ci := 9) gX8_checkRef dX8_check_81 m_1423 m_1001 m_1724 m_722 m_349 ⟨by decide, by decide, show (parseMethodDescriptor yX8_checkRef.desc).map (fun d => d.parameters.length) = some 2 from by decide +kernel⟩ (Nat.le_of_ble_eq_true rfl) (by rw [hcf]; omega) hk1 rfl rfl (Nat.le_of_ble_eq_true rfl) ⟨gS G 327702 ((e : Int).toNat), o, a, b, rfl, hC, hab, (by omega), (by omega), (by assumption), (by assumption), fun rr26 G25 hCG25 hXG25 hfG25 hpG25 => ?_⟩
        have hFG25 : WX (fun x => x = 327684 ∨ x = 327690) G G25 := WX.trans WX.rf KX.rf (WX.mono hfG25 (fun x hx => by omega))
        show WP kX8_check X 84 [some (2, ((327684 : Nat) : Int)), some (0, e), some (2, ((o : Nat) : Int)), some (0, d)] [(0, rr26)] G25
        exact s_iret hR dX8_check_84 rfl (hQ rr26 G25 hCG25 hXG25 hFG25 ⟨by omega, fun h => (hpG25.2.1 (by omega)), fun m hm => (hpG25.2.2.1 m hm), by omega⟩)
      refine s_tableOut (tgt := 115) dX8_check_21 (by omega) (by decide) ?_
      refine s_aload_n dX8_check_115 rfl (Int.natCast_nonneg _) ?_
      refine s_iload_n dX8_check_116 rfl ?_
      refine s_aload_n dX8_check_117 rfl (Int.natCast_nonneg _) ?_
      refine s_iload_n dX8_check_118 rfl ?_
      refine s_callV (as := [(0, e), (2, ((o : Nat) : Int)), (0, d)]) (rest := []) (n := 327684) (ci := 9) (gX8_checkHalf m ih) dX8_check_119 m_1427 m_1000 m_1723 m_722 m_348 ⟨by decide, by decide, show (parseMethodDescriptor yX8_checkHalf.desc).map (fun d => d.parameters.length) = some 3 from by decide +kernel⟩ (Nat.le_of_ble_eq_true rfl) (by rw [hcf]; omega) hk1 rfl rfl (Nat.le_of_ble_eq_true rfl) ⟨e, d, o, a, b, rfl, hC, hab, (by omega), (by omega), (by omega), (by omega), (by assumption), (by assumption), fun rr28 G27 hCG27 hXG27 hfG27 hpG27 => ?_⟩
      have hFG27 : WX (fun x => x = 327684 ∨ x = 327690) G G27 := WX.trans WX.rf KX.rf (WX.mono hfG27 (fun x hx => by omega))
      show WP kX8_check X 122 [some (2, ((327684 : Nat) : Int)), some (0, e), some (2, ((o : Nat) : Int)), some (0, d)] [(0, rr28)] G27
      exact s_iret hR dX8_check_122 rfl (hQ rr28 G27 hCG27 hXG27 hFG27 ⟨by omega, fun h => (hpG27.2.1 (by omega)), fun m hm => (hpG27.2.2.1 m hm), by omega⟩)
    · -- 7 to 10
      refine s_iconst dX8_check_10 (by decide) ?_
      exact s_iret hR dX8_check_11 rfl (hQ 2 G hC KX.rf WX.rf ⟨by omega, fun h => absurd h (by omega), fun _ h => h, by omega⟩)

theorem gX8_check0 : Good kX8_check yX8_check 0 (TX8_check 0) := by
  refine good_of (by decide) rfl rfl (fun as G Qr h => ?_) (fun X as G Qr hcf hR hT oa => ?_)
  · obtain ⟨e, d, o, a, b, rfl, -⟩ := h; exact Nat.le_of_ble_eq_true rfl
  obtain ⟨e, d, o, a, b, rfl, hC, hab, he, hd, hw, ho, hsz, hQ⟩ := hT
  exfalso; omega
theorem gX8_checkm : ∀ m, Good kX8_check yX8_check (4 * m) (TX8_check m) := by
  intro m
  induction m with
  | zero => exact gX8_check0
  | succ m ih => exact gX8_check_s m ih
theorem gX8_check : Good kX8_check yX8_check 56 (TX8_check 14) := gX8_checkm 14
