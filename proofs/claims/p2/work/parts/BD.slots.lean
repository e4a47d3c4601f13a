/-! THE CLASS: a machine's cells are there -/
def MNA (G : LG) (o : Nat) : Prop := gK G o = (12, 0) ∧ gK G (o + 1) = (1, 240) ∧ gK G (o + 2) = (1, 240) ∧ gK G (o + 3) = (1, 240) ∧ gK G (o + 4) = (1, 240) ∧ gK G (o + 5) = (1, 240) ∧ gK G (o + 6) = (2, 240) ∧ gK G (o + 7) = (1, 240) ∧ gK G (o + 8) = (1, 240) ∧ gK G (o + 13) = (1, 240) ∧ gK G (o + 15) = (1, 10) ∧ gK G (o + 20) = (18, 0) ∧ gK G 327681 = (14, 0) ∧ gK G 327701 = (1, 120) ∧ gK G 327702 = (1, 120) ∧ gK G 327703 = (1, 120) ∧ gK G 327704 = (1, 120) ∧ gK G 327705 = (1, 120) ∧ gK G 327706 = (1, 120) ∧ gK G 327709 = (5, 40) ∧ gK G 327710 = (1, 8) ∧ gK G 327685 = (8, 0)
set_option maxRecDepth 100000 in
theorem LK.mna {a b : Nat} {G : LG} {o : Nat} (h : LK G) (hC : CI a b G) (ho : isMc o) (al : (gK G o).1 ≠ 0) : MNA G o := by
  have hco : cde o = 300 := by rcases ho with rfl | rfl <;> decide
  have k0 : gK G o = (12, 0) := hC.1.k (c := 300) hco al
  have ho9 : o % 1048576 = o := Nat.mod_eq_of_lt (by omega)
  have v1 : gS G o 1 = ((o + 1 : Nat) : Int) := by have h9 : gS G o 1 = ((o % 1048576 + 1 : Nat) : Int) := hC.1.v (c := 300) (j := 1) hco al (by rw [k0]; exact Nat.le_of_ble_eq_true rfl); omega
  have a1 : (gK G (o + 1)).1 ≠ 0 := h.at al (j := 1) (by rw [k0]; exact Nat.le_of_ble_eq_true rfl) (by rw [k0]; rfl) v1
  have c1 : gK G (o + 1) = (1, 240) := hC.1.k (c := 301) (by rw [cde_m (by omega) (by omega)]; omega) a1
  have v2 : gS G o 2 = ((o + 2 : Nat) : Int) := by have h9 : gS G o 2 = ((o % 1048576 + 2 : Nat) : Int) := hC.1.v (c := 300) (j := 2) hco al (by rw [k0]; exact Nat.le_of_ble_eq_true rfl); omega
  have a2 : (gK G (o + 2)).1 ≠ 0 := h.at al (j := 2) (by rw [k0]; exact Nat.le_of_ble_eq_true rfl) (by rw [k0]; rfl) v2
  have c2 : gK G (o + 2) = (1, 240) := hC.1.k (c := 302) (by rw [cde_m (by omega) (by omega)]; omega) a2
  have v3 : gS G o 3 = ((o + 3 : Nat) : Int) := by have h9 : gS G o 3 = ((o % 1048576 + 3 : Nat) : Int) := hC.1.v (c := 300) (j := 3) hco al (by rw [k0]; exact Nat.le_of_ble_eq_true rfl); omega
  have a3 : (gK G (o + 3)).1 ≠ 0 := h.at al (j := 3) (by rw [k0]; exact Nat.le_of_ble_eq_true rfl) (by rw [k0]; rfl) v3
  have c3 : gK G (o + 3) = (1, 240) := hC.1.k (c := 303) (by rw [cde_m (by omega) (by omega)]; omega) a3
  have v4 : gS G o 4 = ((o + 4 : Nat) : Int) := by have h9 : gS G o 4 = ((o % 1048576 + 4 : Nat) : Int) := hC.1.v (c := 300) (j := 4) hco al (by rw [k0]; exact Nat.le_of_ble_eq_true rfl); omega
  have a4 : (gK G (o + 4)).1 ≠ 0 := h.at al (j := 4) (by rw [k0]; exact Nat.le_of_ble_eq_true rfl) (by rw [k0]; rfl) v4
  have c4 : gK G (o + 4) = (1, 240) := hC.1.k (c := 304) (by rw [cde_m (by omega) (by omega)]; omega) a4
  have v5 : gS G o 5 = ((o + 5 : Nat) : Int) := by have h9 : gS G o 5 = ((o % 1048576 + 5 : Nat) : Int) := hC.1.v (c := 300) (j := 5) hco al (by rw [k0]; exact Nat.le_of_ble_eq_true rfl); omega
  have a5 : (gK G (o + 5)).1 ≠ 0 := h.at al (j := 5) (by rw [k0]; exact Nat.le_of_ble_eq_true rfl) (by rw [k0]; rfl) v5
  have c5 : gK G (o + 5) = (1, 240) := hC.1.k (c := 305) (by rw [cde_m (by omega) (by omega)]; omega) a5
  have v6 : gS G o 6 = ((o + 6 : Nat) : Int) := by have h9 : gS G o 6 = ((o % 1048576 + 6 : Nat) : Int) := hC.1.v (c := 300) (j := 6) hco al (by rw [k0]; exact Nat.le_of_ble_eq_true rfl); omega
  have a6 : (gK G (o + 6)).1 ≠ 0 := h.at al (j := 6) (by rw [k0]; exact Nat.le_of_ble_eq_true rfl) (by rw [k0]; rfl) v6
  have c6 : gK G (o + 6) = (2, 240) := hC.1.k (c := 306) (by rw [cde_m (by omega) (by omega)]; omega) a6
  have v7 : gS G o 7 = ((o + 7 : Nat) : Int) := by have h9 : gS G o 7 = ((o % 1048576 + 7 : Nat) : Int) := hC.1.v (c := 300) (j := 7) hco al (by rw [k0]; exact Nat.le_of_ble_eq_true rfl); omega
  have a7 : (gK G (o + 7)).1 ≠ 0 := h.at al (j := 7) (by rw [k0]; exact Nat.le_of_ble_eq_true rfl) (by rw [k0]; rfl) v7
  have c7 : gK G (o + 7) = (1, 240) := hC.1.k (c := 307) (by rw [cde_m (by omega) (by omega)]; omega) a7
  have v8 : gS G o 8 = ((o + 8 : Nat) : Int) := by have h9 : gS G o 8 = ((o % 1048576 + 8 : Nat) : Int) := hC.1.v (c := 300) (j := 8) hco al (by rw [k0]; exact Nat.le_of_ble_eq_true rfl); omega
  have a8 : (gK G (o + 8)).1 ≠ 0 := h.at al (j := 8) (by rw [k0]; exact Nat.le_of_ble_eq_true rfl) (by rw [k0]; rfl) v8
  have c8 : gK G (o + 8) = (1, 240) := hC.1.k (c := 308) (by rw [cde_m (by omega) (by omega)]; omega) a8
  have v13 : gS G o 13 = ((o + 13 : Nat) : Int) := by have h9 : gS G o 13 = ((o % 1048576 + 13 : Nat) : Int) := hC.1.v (c := 300) (j := 13) hco al (by rw [k0]; exact Nat.le_of_ble_eq_true rfl); omega
  have a13 : (gK G (o + 13)).1 ≠ 0 := h.at al (j := 13) (by rw [k0]; exact Nat.le_of_ble_eq_true rfl) (by rw [k0]; rfl) v13
  have c13 : gK G (o + 13) = (1, 240) := hC.1.k (c := 313) (by rw [cde_m (by omega) (by omega)]; omega) a13
  have v15 : gS G o 15 = ((o + 15 : Nat) : Int) := by have h9 : gS G o 15 = ((o % 1048576 + 15 : Nat) : Int) := hC.1.v (c := 300) (j := 15) hco al (by rw [k0]; exact Nat.le_of_ble_eq_true rfl); omega
  have a15 : (gK G (o + 15)).1 ≠ 0 := h.at al (j := 15) (by rw [k0]; exact Nat.le_of_ble_eq_true rfl) (by rw [k0]; rfl) v15
  have c15 : gK G (o + 15) = (1, 10) := hC.1.k (c := 315) (by rw [cde_m (by omega) (by omega)]; omega) a15
  have v12 : gS G o 12 = ((o + 20 : Nat) : Int) := by have h9 : gS G o 12 = ((o % 1048576 + 20 : Nat) : Int) := hC.1.v (c := 300) (j := 12) hco al (by rw [k0]; exact Nat.le_of_ble_eq_true rfl); omega
  have a12 : (gK G (o + 20)).1 ≠ 0 := h.at al (j := 12) (by rw [k0]; exact Nat.le_of_ble_eq_true rfl) (by rw [k0]; rfl) v12
  have c12 : gK G (o + 20) = (18, 0) := hC.1.k (c := 320) (by rw [cde_m (by omega) (by omega)]; omega) a12
  have vp : gS G o 0 = ((327681 : Nat) : Int) := by have h9 : gS G o 0 = 327681 := hC.1.v (c := 300) (j := 0) hco al (by rw [k0]; exact Nat.le_of_ble_eq_true rfl); omega
  have ap : (gK G 327681).1 ≠ 0 := h.at al (j := 0) (by rw [k0]; exact Nat.le_of_ble_eq_true rfl) (by rw [k0]; rfl) vp
  have kp : gK G 327681 = (14, 0) := hC.1.k (c := 501) (by decide) ap
  have vp5 : gS G 327681 5 = ((327701 : Nat) : Int) := by have h9 : gS G 327681 5 = 327701 := hC.1.v (c := 501) (j := 5) (by decide) ap (by rw [kp]; exact Nat.le_of_ble_eq_true rfl); omega
  have ap5 : (gK G 327701).1 ≠ 0 := h.at ap (j := 5) (by rw [kp]; exact Nat.le_of_ble_eq_true rfl) (by rw [kp]; rfl) vp5
  have kp5 : gK G 327701 = (1, 120) := hC.1.k (c := 521) (by decide) ap5
  have vp6 : gS G 327681 6 = ((327702 : Nat) : Int) := by have h9 : gS G 327681 6 = 327702 := hC.1.v (c := 501) (j := 6) (by decide) ap (by rw [kp]; exact Nat.le_of_ble_eq_true rfl); omega
  have ap6 : (gK G 327702).1 ≠ 0 := h.at ap (j := 6) (by rw [kp]; exact Nat.le_of_ble_eq_true rfl) (by rw [kp]; rfl) vp6
  have kp6 : gK G 327702 = (1, 120) := hC.1.k (c := 522) (by decide) ap6
  have vp7 : gS G 327681 7 = ((327703 : Nat) : Int) := by have h9 : gS G 327681 7 = 327703 := hC.1.v (c := 501) (j := 7) (by decide) ap (by rw [kp]; exact Nat.le_of_ble_eq_true rfl); omega
  have ap7 : (gK G 327703).1 ≠ 0 := h.at ap (j := 7) (by rw [kp]; exact Nat.le_of_ble_eq_true rfl) (by rw [kp]; rfl) vp7
  have kp7 : gK G 327703 = (1, 120) := hC.1.k (c := 523) (by decide) ap7
  have vp8 : gS G 327681 8 = ((327704 : Nat) : Int) := by have h9 : gS G 327681 8 = 327704 := hC.1.v (c := 501) (j := 8) (by decide) ap (by rw [kp]; exact Nat.le_of_ble_eq_true rfl); omega
  have ap8 : (gK G 327704).1 ≠ 0 := h.at ap (j := 8) (by rw [kp]; exact Nat.le_of_ble_eq_true rfl) (by rw [kp]; rfl) vp8
  have kp8 : gK G 327704 = (1, 120) := hC.1.k (c := 524) (by decide) ap8
  have vp9 : gS G 327681 9 = ((327705 : Nat) : Int) := by have h9 : gS G 327681 9 = 327705 := hC.1.v (c := 501) (j := 9) (by decide) ap (by rw [kp]; exact Nat.le_of_ble_eq_true rfl); omega
  have ap9 : (gK G 327705).1 ≠ 0 := h.at ap (j := 9) (by rw [kp]; exact Nat.le_of_ble_eq_true rfl) (by rw [kp]; rfl) vp9
  have kp9 : gK G 327705 = (1, 120) := hC.1.k (c := 525) (by decide) ap9
  have vp10 : gS G 327681 10 = ((327706 : Nat) : Int) := by have h9 : gS G 327681 10 = 327706 := hC.1.v (c := 501) (j := 10) (by decide) ap (by rw [kp]; exact Nat.le_of_ble_eq_true rfl); omega
  have ap10 : (gK G 327706).1 ≠ 0 := h.at ap (j := 10) (by rw [kp]; exact Nat.le_of_ble_eq_true rfl) (by rw [kp]; rfl) vp10
  have kp10 : gK G 327706 = (1, 120) := hC.1.k (c := 526) (by decide) ap10
  have vp13 : gS G 327681 13 = ((327709 : Nat) : Int) := by have h9 : gS G 327681 13 = 327709 := hC.1.v (c := 501) (j := 13) (by decide) ap (by rw [kp]; exact Nat.le_of_ble_eq_true rfl); omega
  have ap13 : (gK G 327709).1 ≠ 0 := h.at ap (j := 13) (by rw [kp]; exact Nat.le_of_ble_eq_true rfl) (by rw [kp]; rfl) vp13
  have kp13 : gK G 327709 = (5, 40) := hC.1.k (c := 529) (by decide) ap13
  have vp14 : gS G 327681 14 = ((327710 : Nat) : Int) := by have h9 : gS G 327681 14 = 327710 := hC.1.v (c := 501) (j := 14) (by decide) ap (by rw [kp]; exact Nat.le_of_ble_eq_true rfl); omega
  have ap14 : (gK G 327710).1 ≠ 0 := h.at ap (j := 14) (by rw [kp]; exact Nat.le_of_ble_eq_true rfl) (by rw [kp]; rfl) vp14
  have kp14 : gK G 327710 = (1, 8) := hC.1.k (c := 530) (by decide) ap14
  have vp16 : gS G 327681 16 = ((327685 : Nat) : Int) := by have h9 : gS G 327681 16 = 327685 := hC.1.v (c := 501) (j := 16) (by decide) ap (by rw [kp]; exact Nat.le_of_ble_eq_true rfl); omega
  have ap16 : (gK G 327685).1 ≠ 0 := h.at ap (j := 16) (by rw [kp]; exact Nat.le_of_ble_eq_true rfl) (by rw [kp]; rfl) vp16
  have kp16 : gK G 327685 = (8, 0) := hC.1.k (c := 505) (by decide) ap16
  exact ⟨k0, c1, c2, c3, c4, c5, c6, c7, c8, c13, c15, c12, kp, kp5, kp6, kp7, kp8, kp9, kp10, kp13, kp14, kp16⟩

abbrev kX3_fail : KD := (RX3, cX3_fail, 2, (some .int), [])
def TX3_fail : TR := fun as G Qr => ∃ (o : Nat) (x : Int) (a b : Nat), as = [(2, ((o : Nat) : Int)), (0, x)] ∧ CI a b G ∧ (a ≤ 2840000 ∧ b ≤ 590000) ∧ (isMc o) ∧ ∀ (r : Int) (G' : LG), CI a b G' → KX G G' → WX (fun x => x = o) G G' → (r = -1 ∧ ∀ j, j ≠ 11 → gS G' o j = gS G o j) → Qr (.inl (some (0, r))) G'
set_option maxHeartbeats 4000000 in
set_option maxRecDepth 100000 in
theorem gX3_fail : Good kX3_fail yX3_fail 0 TX3_fail := by
  refine good_of (by decide) rfl rfl (fun as G Qr h => ?_) (fun X as G Qr hcf hR hT oa => ?_)
  · obtain ⟨o, x, a, b, rfl, -⟩ := h; exact Nat.le_of_ble_eq_true rfl
  obtain ⟨o, x, a, b, rfl, hC, hab, ho, hQ⟩ := hT
  show WP kX3_fail X 0 [some (2, ((o : Nat) : Int)), some (0, x)] [] G
  have hr_x : inR x := okv_R (oa _ (by simp))
  refine s_alvl o (k := 0) rfl (fun alo => ?_)
  refine s_lk (fun hlk => ?_)
  have hmn := hlk.mna hC ho alo
  obtain ⟨kM, kM1, kM2, kM3, kM4, kM5, kM6, kM7, kM8, kM13, kM15, kM20, kMp, kMp5, kMp6, kMp7, kMp8, kMp9, kMp10, kMp13, kMp14, kMp16⟩ := id hmn
  have hin : 0 ≤ gS G o 9 ∧ gS G o 9 ≤ 24 := hC.1.v (c := 300) (j := 9) (by rcases ho with rfl | rfl <;> decide) alo (by rw [kM]; exact Nat.le_of_ble_eq_true rfl)
  refine s_aload_n dX3_fail_0 rfl (Int.natCast_nonneg _) ?_
  refine s_iload_n dX3_fail_1 rfl ?_
  refine s_putf (ci := 4) (k := 11) (C := RX3) (T := TX3) (N := 18) (n := o) (L := 0) dX3_fail_2 rfl wi_71 m_623 (Nat.le_of_ble_eq_true rfl) rfl rfl tyX3_ok nmX3 rfl (Or.inl rfl) kM ?_
  generalize eG1r : gset G o 11 x = G1
  have eG1 := eG1r.symm
  have hCG1 : CI a b G1 := by rw [eG1]; exact hC.set (by rw [(by rw [cde_m (by omega) (by omega)]; omega : cde o = 300)]; rfl) (by rw [(by rw [cde_m (by omega) (by omega)]; omega : cde o = 300)]; exact trivial)
  have hXG1 : KX G G1 := KX.set KX.rf eG1
  have hFG1 : WX (fun x => x = o) G G1 := WX.set WX.rf eG1 (by show _; omega)
  show WP kX3_fail X 5 [some (2, ((o : Nat) : Int)), some (0, x)] [] G1
  refine s_iconst dX3_fail_5 (by decide) ?_
  exact s_iret hR dX3_fail_6 rfl (hQ ((-1)) G1 hCG1 hXG1 hFG1 ⟨rfl, fun j hj => by rw [eG1, gset_ne _ _ (fun z => hj z.2)]⟩)

abbrev kX3_isCell : KD := (RX3, cX3_isCell, 2, (some .boolean), [])
def TX3_isCell : TR := fun as G Qr => ∃ (o : Nat) (s : Int) (a b : Nat), as = [(2, ((o : Nat) : Int)), (0, s)] ∧ CI a b G ∧ (a ≤ 2840000 ∧ b ≤ 590000) ∧ (isMc o) ∧ (0 ≤ s ∧ s < 240) ∧ ∀ (r : Int), ((r = 1 ∧ 0 ≤ gS G (o + 1) s.toNat) ∨ (r = 0 ∧ gS G (o + 1) s.toNat < 0)) → Qr (.inl (some (0, r))) G
set_option maxHeartbeats 4000000 in
set_option maxRecDepth 100000 in
theorem gX3_isCell : Good kX3_isCell yX3_isCell 0 TX3_isCell := by
  refine good_of (by decide) rfl rfl (fun as G Qr h => ?_) (fun X as G Qr hcf hR hT oa => ?_)
  · obtain ⟨o, s, a, b, rfl, -⟩ := h; exact Nat.le_of_ble_eq_true rfl
  obtain ⟨o, s, a, b, rfl, hC, hab, ho, hs, hQ⟩ := hT
  show WP kX3_isCell X 0 [some (2, ((o : Nat) : Int)), some (0, s)] [] G
  have hr_s : inR s := okv_R (oa _ (by simp))
  refine s_alvl o (k := 0) rfl (fun alo => ?_)
  refine s_lk (fun hlk => ?_)
  have hmn := hlk.mna hC ho alo
  obtain ⟨kM, kM1, kM2, kM3, kM4, kM5, kM6, kM7, kM8, kM13, kM15, kM20, kMp, kMp5, kMp6, kMp7, kMp8, kMp9, kMp10, kMp13, kMp14, kMp16⟩ := id hmn
  have hin : 0 ≤ gS G o 9 ∧ gS G o 9 ≤ 24 := hC.1.v (c := 300) (j := 9) (by rcases ho with rfl | rfl <;> decide) alo (by rw [kM]; exact Nat.le_of_ble_eq_true rfl)
  refine s_aload_n dX3_isCell_0 rfl (Int.natCast_nonneg _) ?_
  have hv1 : gS G o 1 = ((o + 1 : Nat) : Int) := by have h9 : (gS G o 1) = (((o % 1048576) + 1 : Nat) : Int) := hC.1.v (j := 1) (by rw [cde_m (by omega) (by omega)]; omega : cde o = 300) (kne kM (by decide)) (by rw [kM]; exact Nat.le_of_ble_eq_true rfl); omega
  refine s_getf (ci := 4) (k := 1) (C := RX3) (T := TX3) (N := 18) (n := o) (L := 0) (t := 2) dX3_isCell_1 rfl wi_71 m_593 (Nat.le_of_ble_eq_true rfl) rfl rfl kM hv1 ?_
  refine s_iload_n dX3_isCell_4 rfl ?_
  have hv2 : -2 ≤ (gS G (o + 1) (s : Int).toNat) ∧ (gS G (o + 1) (s : Int).toNat) ≤ 119 := hC.1.v (j := (s : Int).toNat) (by rw [cde_m (by omega) (by omega)]; omega : cde (o + 1) = 301) (kne kM1 (by decide)) (by rw [kM1]; show (s : Int).toNat < 240; omega)
  refine s_iald dX3_isCell_5 kM1 (by omega) (by omega) rfl ?_
  have J4 : ∀ z3 : Int, (((gS G (o + 1) ((s : Int).toNat)) < 0) ∧ z3 = 0) ∨ ((¬ (gS G (o + 1) ((s : Int).toNat)) < 0) ∧ z3 = 1) → WP kX3_isCell X 14 [some (2, ((o : Nat) : Int)), some (0, s)] [(0, z3)] G := by
    intro z3 hz3
    exact s_zret hR dX3_isCell_14 rfl (by first | exact Or.inl rfl | exact Or.inr rfl | omega) (hQ z3 (by omega))
  refine s_if_lt (tgt := 13) dX3_isCell_6 (by decide) (fun c5 => ?_) (fun c5 => ?_)
  · -- 6 to 13
    refine s_iconst dX3_isCell_13 (by decide) ?_
    exact J4 0 (Or.inl ⟨c5, rfl⟩)
  · -- 6 to 9
    refine s_iconst dX3_isCell_9 (by decide) ?_
    refine s_goto (tgt := 14) dX3_isCell_10 (by decide) ?_
    exact J4 1 (Or.inr (⟨c5, rfl⟩))

abbrev kX3_slotCount : KD := (RX3, cX3_slotCount, 1, (some .int), [])
def TX3_slotCount : TR := fun as G Qr => ∃ (o : Nat) (a b : Nat), as = [(2, ((o : Nat) : Int))] ∧ CI a b G ∧ (a ≤ 2840000 ∧ b ≤ 590000) ∧ (isMc o) ∧ ∀ (r : Int), (r = 10 * gS G o 9) → Qr (.inl (some (0, r))) G
set_option maxHeartbeats 4000000 in
set_option maxRecDepth 100000 in
theorem gX3_slotCount : Good kX3_slotCount yX3_slotCount 1 TX3_slotCount := by
  refine good_of (by decide) rfl rfl (fun as G Qr h => ?_) (fun X as G Qr hcf hR hT oa => ?_)
  · obtain ⟨o, a, b, rfl, -⟩ := h; exact Nat.le_of_ble_eq_true rfl
  obtain ⟨o, a, b, rfl, hC, hab, ho, hQ⟩ := hT
  show WP kX3_slotCount X 0 [some (2, ((o : Nat) : Int))] [] G
  refine s_alvl o (k := 0) rfl (fun alo => ?_)
  refine s_lk (fun hlk => ?_)
  have hmn := hlk.mna hC ho alo
  obtain ⟨kM, kM1, kM2, kM3, kM4, kM5, kM6, kM7, kM8, kM13, kM15, kM20, kMp, kMp5, kMp6, kMp7, kMp8, kMp9, kMp10, kMp13, kMp14, kMp16⟩ := id hmn
  have hin : 0 ≤ gS G o 9 ∧ gS G o 9 ≤ 24 := hC.1.v (c := 300) (j := 9) (by rcases ho with rfl | rfl <;> decide) alo (by rw [kM]; exact Nat.le_of_ble_eq_true rfl)
  refine s_sipush dX3_slotCount_0 rfl (by decide) ?_
  refine s_aload_n dX3_slotCount_3 rfl (Int.natCast_nonneg _) ?_
  have hv1 : 0 ≤ (gS G o 9) ∧ (gS G o 9) ≤ 24 := hC.1.v (j := 9) (by rw [cde_m (by omega) (by omega)]; omega : cde o = 300) (kne kM (by decide)) (by rw [kM]; exact Nat.le_of_ble_eq_true rfl)
  refine s_getf (ci := 4) (k := 9) (C := RX3) (T := TX3) (N := 18) (n := o) (L := 0) (t := 0) dX3_slotCount_4 rfl wi_71 m_622 (Nat.le_of_ble_eq_true rfl) rfl rfl kM rfl ?_
  refine s_bipush dX3_slotCount_7 rfl (by decide) ?_
  refine s_imul dX3_slotCount_9 (by omega) ?_
  refine s_mmin dX3_slotCount_10 m_1360 (by rw [hcf]; exact Nat.le_of_ble_eq_true rfl) (Nat.le_of_ble_eq_true rfl) ?_
  obtain ⟨z2, hz2⟩ : ∃ z : Int, z = (if ((gS G o 9) * 10) < 240 then (gS G o 9) * 10 else 240) := ⟨_, rfl⟩
  rw [← hz2]
  have hz2a : (((gS G o 9) * 10) < 240 ∧ z2 = (gS G o 9) * 10) ∨ (¬ ((gS G o 9) * 10) < 240 ∧ z2 = 240) := by rw [hz2]; by_cases q : ((gS G o 9) * 10) < 240; exact Or.inl ⟨q, if_pos q⟩; exact Or.inr ⟨q, if_neg q⟩
  exact s_iret hR dX3_slotCount_13 rfl (hQ z2 (by omega))

abbrev kX3_endOf : KD := (RX3, cX3_endOf, 4, (some .int), [])
def TX3_endOf : TR := fun as G Qr => ∃ (o : Nat) (s f : Int) (a b : Nat), as = [(2, ((o : Nat) : Int)), (0, s)] ∧ CI a b G ∧ (a ≤ 2840000 ∧ b ≤ 590000) ∧ (isMc o) ∧ (0 ≤ f) ∧ (10 * f ≤ s ∧ s < 10 * gS G o 9) ∧ (MI G o f) ∧ ∀ (r : Int), (10 * f ≤ r ∧ r < 10 * gS G o 9) → Qr (.inl (some (0, r))) G
set_option maxHeartbeats 4000000 in
set_option maxRecDepth 100000 in
theorem gX3_endOf : Good kX3_endOf yX3_endOf 0 TX3_endOf := by
  refine good_of (by decide) rfl rfl (fun as G Qr h => ?_) (fun X as G Qr hcf hR hT oa => ?_)
  · obtain ⟨o, s, f, a, b, rfl, -⟩ := h; exact Nat.le_of_ble_eq_true rfl
  obtain ⟨o, s, f, a, b, rfl, hC, hab, ho, hf0, hs, hMI, hQ⟩ := hT
  show WP kX3_endOf X 0 [some (2, ((o : Nat) : Int)), some (0, s), none, none] [] G
  have hr_s : inR s := okv_R (oa _ (by simp))
  refine s_alvl o (k := 0) rfl (fun alo => ?_)
  refine s_lk (fun hlk => ?_)
  have hmn := hlk.mna hC ho alo
  obtain ⟨kM, kM1, kM2, kM3, kM4, kM5, kM6, kM7, kM8, kM13, kM15, kM20, kMp, kMp5, kMp6, kMp7, kMp8, kMp9, kMp10, kMp13, kMp14, kMp16⟩ := id hmn
  have hin : 0 ≤ gS G o 9 ∧ gS G o 9 ≤ 24 := hC.1.v (c := 300) (j := 9) (by rcases ho with rfl | rfl <;> decide) alo (by rw [kM]; exact Nat.le_of_ble_eq_true rfl)
  refine s_iload_n dX3_endOf_0 rfl ?_
  refine s_istore_n dX3_endOf_1 (by decide) (lv' := [some (2, ((o : Nat) : Int)), some (0, s), some (0, s), none]) rfl ?_
  refine s_iconst dX3_endOf_2 (by decide) ?_
  refine s_istore_n dX3_endOf_3 (by decide) (lv' := [some (2, ((o : Nat) : Int)), some (0, s), some (0, s), some (0, 0)]) rfl ?_
  have L1 : ∀ (n1 : Nat) (e1 : Int) (i1 : Int), (((10 * f ≤ e1 ∧ e1 < 10 * gS G o 9) ∧ 0 ≤ i1)) → (240 - i1).toNat < n1 → WP kX3_endOf X 4 [some (2, ((o : Nat) : Int)), some (0, s), some (0, e1), some (0, i1)] [] G := by
    intro n1
    induction n1 with
    | zero => intro e1 i1 hi1 hm1; exact absurd hm1 (Nat.not_lt_zero _)
    | succ n1 ih1 =>
      intro e1 i1 hi1 hm1
      have ie1 := hi1
      refine s_iload_n dX3_endOf_4 rfl ?_
      refine s_sipush dX3_endOf_5 rfl (by decide) ?_
      refine s_icmp_ge (tgt := 33) dX3_endOf_8 (by decide) (fun c2 => ?_) (fun c2 => ?_)
      · -- 8 to 33
        refine s_iload_n dX3_endOf_33 rfl ?_
        exact s_iret hR dX3_endOf_34 rfl (hQ e1 (by omega))
      · -- 8 to 11
        have hme := hMI e1 (by omega) (by omega)
        refine s_aload_n dX3_endOf_11 rfl (Int.natCast_nonneg _) ?_
        have hv3 : gS G o 3 = ((o + 3 : Nat) : Int) := by have h9 : (gS G o 3) = (((o % 1048576) + 3 : Nat) : Int) := hC.1.v (j := 3) (by rw [cde_m (by omega) (by omega)]; omega : cde o = 300) (kne kM (by decide)) (by rw [kM]; exact Nat.le_of_ble_eq_true rfl); omega
        refine s_getf (ci := 4) (k := 3) (C := RX3) (T := TX3) (N := 18) (n := o) (L := 0) (t := 2) dX3_endOf_12 rfl wi_71 m_602 (Nat.le_of_ble_eq_true rfl) rfl rfl kM hv3 ?_
        refine s_iload_n dX3_endOf_15 rfl ?_
        have hv4 : -1 ≤ (gS G (o + 3) (e1 : Int).toNat) ∧ (gS G (o + 3) (e1 : Int).toNat) ≤ 239 := hC.1.v (j := (e1 : Int).toNat) (by rw [cde_m (by omega) (by omega)]; omega : cde (o + 3) = 303) (kne kM3 (by decide)) (by rw [kM3]; show (e1 : Int).toNat < 240; omega)
        refine s_iald dX3_endOf_16 kM3 (by omega) (by omega) rfl ?_
        refine s_if_lt (tgt := 33) dX3_endOf_17 (by decide) (fun c5 => ?_) (fun c5 => ?_)
        · -- 17 to 33
          refine s_iload_n dX3_endOf_33 rfl ?_
          exact s_iret hR dX3_endOf_34 rfl (hQ e1 (by omega))
        · -- 17 to 20
          refine s_aload_n dX3_endOf_20 rfl (Int.natCast_nonneg _) ?_
          have hv6 : gS G o 3 = ((o + 3 : Nat) : Int) := by have h9 : (gS G o 3) = (((o % 1048576) + 3 : Nat) : Int) := hC.1.v (j := 3) (by rw [cde_m (by omega) (by omega)]; omega : cde o = 300) (kne kM (by decide)) (by rw [kM]; exact Nat.le_of_ble_eq_true rfl); omega
          refine s_getf (ci := 4) (k := 3) (C := RX3) (T := TX3) (N := 18) (n := o) (L := 0) (t := 2) dX3_endOf_21 rfl wi_71 m_602 (Nat.le_of_ble_eq_true rfl) rfl rfl kM hv6 ?_
          refine s_iload_n dX3_endOf_24 rfl ?_
          have hv7 : -1 ≤ (gS G (o + 3) (e1 : Int).toNat) ∧ (gS G (o + 3) (e1 : Int).toNat) ≤ 239 := hC.1.v (j := (e1 : Int).toNat) (by rw [cde_m (by omega) (by omega)]; omega : cde (o + 3) = 303) (kne kM3 (by decide)) (by rw [kM3]; show (e1 : Int).toNat < 240; omega)
          refine s_iald dX3_endOf_25 kM3 (by omega) (by omega) rfl ?_
          refine s_istore_n dX3_endOf_26 (by decide) (lv' := [some (2, ((o : Nat) : Int)), some (0, s), some (0, gS G (o + 3) ((e1 : Int).toNat)), some (0, i1)]) rfl ?_
          refine s_iinc dX3_endOf_27 (v := i1) rfl (by omega) (by decide) (lv' := [some (2, ((o : Nat) : Int)), some (0, s), some (0, gS G (o + 3) ((e1 : Int).toNat)), some (0, i1 + 1)]) rfl ?_
          refine s_goto (tgt := 4) dX3_endOf_30 (by decide) ?_
          exact ih1 (gS G (o + 3) ((e1 : Int).toNat)) (i1 + 1) ((by omega)) (by omega)
  exact L1 _ s 0 ((by omega)) (Nat.lt_succ_self _)

abbrev kX3_join : KD := (RX3, cX3_join, 3, none, [])
def TX3_join : TR := fun as G Qr => ∃ (o : Nat) (x y f : Int) (a b : Nat), as = [(2, ((o : Nat) : Int)), (0, x), (0, y)] ∧ CI a b G ∧ (a ≤ 2840000 ∧ b ≤ 590000) ∧ (isMc o) ∧ (0 ≤ f) ∧ (10 * f ≤ x ∧ x < 10 * gS G o 9) ∧ (10 * f ≤ y ∧ y < 10 * gS G o 9) ∧ (MI G o f) ∧ ∀ (G' : LG), CI a b G' → KX G G' → WX (fun x => x = o + 3) G G' → (MI G' o f ∧ ∀ s : Int, 0 ≤ s → s < 10 * f → gS G' (o + 3) s.toNat = gS G (o + 3) s.toNat) → Qr (.inl none) G'
set_option maxHeartbeats 4000000 in
set_option maxRecDepth 100000 in
theorem gX3_join : Good kX3_join yX3_join 0 TX3_join := by
  refine good_of (by decide) rfl rfl (fun as G Qr h => ?_) (fun X as G Qr hcf hR hT oa => ?_)
  · obtain ⟨o, x, y, f, a, b, rfl, -⟩ := h; exact Nat.le_of_ble_eq_true rfl
  obtain ⟨o, x, y, f, a, b, rfl, hC, hab, ho, hf0, hx, hy, hMI, hQ⟩ := hT
  show WP kX3_join X 0 [some (2, ((o : Nat) : Int)), some (0, x), some (0, y)] [] G
  have hr_x : inR x := okv_R (oa _ (by simp))
  have hr_y : inR y := okv_R (oa _ (by simp))
  refine s_alvl o (k := 0) rfl (fun alo => ?_)
  refine s_lk (fun hlk => ?_)
  have hmn := hlk.mna hC ho alo
  obtain ⟨kM, kM1, kM2, kM3, kM4, kM5, kM6, kM7, kM8, kM13, kM15, kM20, kMp, kMp5, kMp6, kMp7, kMp8, kMp9, kMp10, kMp13, kMp14, kMp16⟩ := id hmn
  have hin : 0 ≤ gS G o 9 ∧ gS G o 9 ≤ 24 := hC.1.v (c := 300) (j := 9) (by rcases ho with rfl | rfl <;> decide) alo (by rw [kM]; exact Nat.le_of_ble_eq_true rfl)
  refine s_iload_n dX3_join_0 rfl ?_
  refine s_iload_n dX3_join_1 rfl ?_
  refine s_icmp_ne (tgt := 6) dX3_join_2 (by decide) (fun c1 => ?_) (fun c1 => ?_)
  · -- 2 to 6
    refine s_aload_n dX3_join_6 rfl (Int.natCast_nonneg _) ?_
    have hv2 : gS G o 1 = ((o + 1 : Nat) : Int) := by have h9 : (gS G o 1) = (((o % 1048576) + 1 : Nat) : Int) := hC.1.v (j := 1) (by rw [cde_m (by omega) (by omega)]; omega : cde o = 300) (kne kM (by decide)) (by rw [kM]; exact Nat.le_of_ble_eq_true rfl); omega
    refine s_getf (ci := 4) (k := 1) (C := RX3) (T := TX3) (N := 18) (n := o) (L := 0) (t := 2) dX3_join_7 rfl wi_71 m_593 (Nat.le_of_ble_eq_true rfl) rfl rfl kM hv2 ?_
    refine s_iload_n dX3_join_10 rfl ?_
    have hv3 : -2 ≤ (gS G (o + 1) (x : Int).toNat) ∧ (gS G (o + 1) (x : Int).toNat) ≤ 119 := hC.1.v (j := (x : Int).toNat) (by rw [cde_m (by omega) (by omega)]; omega : cde (o + 1) = 301) (kne kM1 (by decide)) (by rw [kM1]; show (x : Int).toNat < 240; omega)
    refine s_iald dX3_join_11 kM1 (by omega) (by omega) rfl ?_
    refine s_iconst dX3_join_12 (by decide) ?_
    refine s_icmp_ne (tgt := 26) dX3_join_13 (by decide) (fun c4 => ?_) (fun c4 => ?_)
    · -- 13 to 26
      refine s_aload_n dX3_join_26 rfl (Int.natCast_nonneg _) ?_
      have hv5 : gS G o 1 = ((o + 1 : Nat) : Int) := by have h9 : (gS G o 1) = (((o % 1048576) + 1 : Nat) : Int) := hC.1.v (j := 1) (by rw [cde_m (by omega) (by omega)]; omega : cde o = 300) (kne kM (by decide)) (by rw [kM]; exact Nat.le_of_ble_eq_true rfl); omega
      refine s_getf (ci := 4) (k := 1) (C := RX3) (T := TX3) (N := 18) (n := o) (L := 0) (t := 2) dX3_join_27 rfl wi_71 m_593 (Nat.le_of_ble_eq_true rfl) rfl rfl kM hv5 ?_
      refine s_iload_n dX3_join_30 rfl ?_
      have hv6 : -2 ≤ (gS G (o + 1) (y : Int).toNat) ∧ (gS G (o + 1) (y : Int).toNat) ≤ 119 := hC.1.v (j := (y : Int).toNat) (by rw [cde_m (by omega) (by omega)]; omega : cde (o + 1) = 301) (kne kM1 (by decide)) (by rw [kM1]; show (y : Int).toNat < 240; omega)
      refine s_iald dX3_join_31 kM1 (by omega) (by omega) rfl ?_
      refine s_iconst dX3_join_32 (by decide) ?_
      refine s_icmp_ne (tgt := 43) dX3_join_33 (by decide) (fun c7 => ?_) (fun c7 => ?_)
      · -- 33 to 43
        exact s_vret hR dX3_join_43 rfl (hQ G hC KX.rf WX.rf ⟨hMI, fun s _ _ => rfl⟩)
      · -- 33 to 36
        refine s_aload_n dX3_join_36 rfl (Int.natCast_nonneg _) ?_
        have hv8 : gS G o 3 = ((o + 3 : Nat) : Int) := by have h9 : (gS G o 3) = (((o % 1048576) + 3 : Nat) : Int) := hC.1.v (j := 3) (by rw [cde_m (by omega) (by omega)]; omega : cde o = 300) (kne kM (by decide)) (by rw [kM]; exact Nat.le_of_ble_eq_true rfl); omega
        refine s_getf (ci := 4) (k := 3) (C := RX3) (T := TX3) (N := 18) (n := o) (L := 0) (t := 2) dX3_join_37 rfl wi_71 m_602 (Nat.le_of_ble_eq_true rfl) rfl rfl kM hv8 ?_
        refine s_iload_n dX3_join_40 rfl ?_
        refine s_iload_n dX3_join_41 rfl ?_
        refine s_iast dX3_join_42 kM3 (by omega) (by omega) ?_
        generalize eG9r : gset G (o + 3) ((y : Int).toNat) x = G9
        have eG9 := eG9r.symm
        have hCG9 : CI a b G9 := by rw [eG9]; exact hC.set (by rw [(by rw [cde_m (by omega) (by omega)]; omega : cde (o + 3) = 303)]; rfl) (by rw [(by rw [cde_m (by omega) (by omega)]; omega : cde (o + 3) = 303)]; exact (show -1 ≤ x ∧ x ≤ 239 from by omega))
        have hXG9 : KX G G9 := KX.set KX.rf eG9
        have hFG9 : WX (fun x => x = o + 3) G G9 := WX.set WX.rf eG9 (by show _; omega)
        show WP kX3_join X 43 [some (2, ((o : Nat) : Int)), some (0, x), some (0, y)] [] G9
        exact s_vret hR dX3_join_43 rfl (hQ G9 hCG9 hXG9 hFG9 ⟨fun s h0 h1 => by rw [show gS G9 o 9 = gS G o 9 from congrFun (gset_o eG9 (x := o) (by omega)) 9] at h1 ⊢; rw [(gset_o eG9 (x := o + 1) (by omega)), (gset_o eG9 (x := o + 4) (by omega)), show gS G9 327681 12 = gS G 327681 12 from congrFun (gset_o eG9 (x := 327681) (by omega)) 12]; obtain ⟨z1, z2, z3⟩ := hMI s h0 h1; refine ⟨z1, ?_, z3⟩; by_cases w : s.toNat = (y : Int).toNat; (focus (rw [w, gsaE eG9]; omega)); (focus (rw [eG9, gset_ne _ _ (fun q => w q.2)]; exact z2)), fun s h0 h1 => by rw [eG9]; exact gset_ne _ _ (fun q => by omega)⟩)
    · -- 13 to 16
      refine s_aload_n dX3_join_16 rfl (Int.natCast_nonneg _) ?_
      have hv10 : gS G o 3 = ((o + 3 : Nat) : Int) := by have h9 : (gS G o 3) = (((o % 1048576) + 3 : Nat) : Int) := hC.1.v (j := 3) (by rw [cde_m (by omega) (by omega)]; omega : cde o = 300) (kne kM (by decide)) (by rw [kM]; exact Nat.le_of_ble_eq_true rfl); omega
      refine s_getf (ci := 4) (k := 3) (C := RX3) (T := TX3) (N := 18) (n := o) (L := 0) (t := 2) dX3_join_17 rfl wi_71 m_602 (Nat.le_of_ble_eq_true rfl) rfl rfl kM hv10 ?_
      refine s_iload_n dX3_join_20 rfl ?_
      refine s_iload_n dX3_join_21 rfl ?_
      refine s_iast dX3_join_22 kM3 (by omega) (by omega) ?_
      generalize eG11r : gset G (o + 3) ((x : Int).toNat) y = G11
      have eG11 := eG11r.symm
      have hCG11 : CI a b G11 := by rw [eG11]; exact hC.set (by rw [(by rw [cde_m (by omega) (by omega)]; omega : cde (o + 3) = 303)]; rfl) (by rw [(by rw [cde_m (by omega) (by omega)]; omega : cde (o + 3) = 303)]; exact (show -1 ≤ y ∧ y ≤ 239 from by omega))
      have hXG11 : KX G G11 := KX.set KX.rf eG11
      have hFG11 : WX (fun x => x = o + 3) G G11 := WX.set WX.rf eG11 (by show _; omega)
      show WP kX3_join X 23 [some (2, ((o : Nat) : Int)), some (0, x), some (0, y)] [] G11
      refine s_goto (tgt := 43) dX3_join_23 (by decide) ?_
      exact s_vret hR dX3_join_43 rfl (hQ G11 hCG11 hXG11 hFG11 ⟨fun s h0 h1 => by rw [show gS G11 o 9 = gS G o 9 from congrFun (gset_o eG11 (x := o) (by omega)) 9] at h1 ⊢; rw [(gset_o eG11 (x := o + 1) (by omega)), (gset_o eG11 (x := o + 4) (by omega)), show gS G11 327681 12 = gS G 327681 12 from congrFun (gset_o eG11 (x := 327681) (by omega)) 12]; obtain ⟨z1, z2, z3⟩ := hMI s h0 h1; refine ⟨z1, ?_, z3⟩; by_cases w : s.toNat = (x : Int).toNat; (focus (rw [w, gsaE eG11]; omega)); (focus (rw [eG11, gset_ne _ _ (fun q => w q.2)]; exact z2)), fun s h0 h1 => by rw [eG11]; exact gset_ne _ _ (fun q => by omega)⟩)
  · -- 2 to 5
    exact s_vret hR dX3_join_5 rfl (hQ G hC KX.rf WX.rf ⟨hMI, fun s _ _ => rfl⟩)

abbrev kX3_findCells : KD := (RX3, cX3_findCells, 4, none, [])
def TX3_findCells : TR := fun as G Qr => ∃ (o : Nat) (f : Int) (a b : Nat), as = [(2, ((o : Nat) : Int)), (0, f)] ∧ CI a b G ∧ (a ≤ 2840000 ∧ b ≤ 590000) ∧ (isMc o) ∧ (0 ≤ f ∧ f ≤ 24) ∧ (MI G o f) ∧ ∀ (G' : LG), CI a b G' → KX G G' → WX (fun x => x = o + 5) G G' → (MC G' o f) → Qr (.inl none) G'
set_option maxHeartbeats 4000000 in
set_option maxRecDepth 100000 in
theorem gX3_findCells : Good kX3_findCells yX3_findCells 2 TX3_findCells := by
  refine good_of (by decide) rfl rfl (fun as G Qr h => ?_) (fun X as G Qr hcf hR hT oa => ?_)
  · obtain ⟨o, f, a, b, rfl, -⟩ := h; exact Nat.le_of_ble_eq_true rfl
  obtain ⟨o, f, a, b, rfl, hC, hab, ho, hf0, hMI, hQ⟩ := hT
  show WP kX3_findCells X 0 [some (2, ((o : Nat) : Int)), some (0, f), none, none] [] G
  have hr_f : inR f := okv_R (oa _ (by simp))
  have rg0 : RNx (fun x => x = (o + 5) % 1048576) (o % 1048576) := by show ¬ _; omega
  have rg1 : RNx (fun x => x = (o + 5) % 1048576) ((o + 1) % 1048576) := by show ¬ _; omega
  have rg2 : RNx (fun x => x = (o + 5) % 1048576) ((o + 3) % 1048576) := by show ¬ _; omega
  have rg3 : RNx (fun x => x = (o + 5) % 1048576) ((o + 4) % 1048576) := by show ¬ _; omega
  have rg4 : RNx (fun x => x = (o + 5) % 1048576) (327681 % 1048576) := by show ¬ _; omega
  refine s_alvl o (k := 0) rfl (fun alo => ?_)
  refine s_lk (fun hlk => ?_)
  have hmn := hlk.mna hC ho alo
  obtain ⟨kM, kM1, kM2, kM3, kM4, kM5, kM6, kM7, kM8, kM13, kM15, kM20, kMp, kMp5, kMp6, kMp7, kMp8, kMp9, kMp10, kMp13, kMp14, kMp16⟩ := id hmn
  have hin : 0 ≤ gS G o 9 ∧ gS G o 9 ≤ 24 := hC.1.v (c := 300) (j := 9) (by rcases ho with rfl | rfl <;> decide) alo (by rw [kM]; exact Nat.le_of_ble_eq_true rfl)
  have hI : gS G o 9 = gS G o 9 := rfl
  refine s_iload_n dX3_findCells_0 rfl ?_
  refine s_bipush dX3_findCells_1 rfl (by decide) ?_
  refine s_imul dX3_findCells_3 (by omega) ?_
  refine s_istore_n dX3_findCells_4 (by decide) (lv' := [some (2, ((o : Nat) : Int)), some (0, f), some (0, f * 10), none]) rfl ?_
  have L1 : ∀ (n1 : Nat) (s1 : Int) (G1 : LG), CI a b G1 → KX G G1 → WX (fun x => x = o + 5) G G1 → ((10 * f ≤ s1 ∧ s1 ≤ 240) ∧ (∀ s : Int, 10 * f ≤ s → s < s1 → gS G1 (o + 5) s.toNat = -1 ∨ ((10 * f ≤ gS G1 (o + 5) s.toNat ∧ gS G1 (o + 5) s.toNat < 10 * gS G o 9) ∧ 0 ≤ gS G1 (o + 1) (gS G1 (o + 5) s.toNat).toNat)) ∧ (gS G1 o 9 = gS G o 9) ∧ (MI G1 o f)) → (240 - s1).toNat < n1 → WP kX3_findCells X 5 [some (2, ((o : Nat) : Int)), some (0, f), some (0, s1), none] [] G1 := by
    intro n1
    induction n1 with
    | zero => intro s1 G1 hCG1 hXG1 hFG1 hi1 hm1; exact absurd hm1 (Nat.not_lt_zero _)
    | succ n1 ih1 =>
      intro s1 G1 hCG1 hXG1 hFG1 hi1 hm1
      obtain ⟨is1, ic1, hIG1, hMIG1⟩ := hi1
      refine s_iload_n dX3_findCells_5 rfl ?_
      refine s_aload_n dX3_findCells_6 rfl (Int.natCast_nonneg _) ?_
      have hk4 : gK G1 (o) = (12, 0) := ((hXG1).k kM (by decide))
      refine s_callV (as := []) (rest := [(0, s1)]) (n := o) (ci := 4) gX3_slotCount dX3_findCells_7 m_1361 m_966 m_1693 m_717 m_314 ⟨by decide, by decide, show (parseMethodDescriptor yX3_slotCount.desc).map (fun d => d.parameters.length) = some 0 from by decide +kernel⟩ (Nat.le_of_ble_eq_true rfl) (by rw [hcf]; exact Nat.le_of_ble_eq_true rfl) hk4 rfl rfl (Nat.le_of_ble_eq_true rfl) ⟨o, a, b, rfl, hCG1, hab, (by first | assumption | omega), fun rr2 hp3 => ?_⟩
      show WP kX3_findCells X 10 [some (2, ((o : Nat) : Int)), some (0, f), some (0, s1), none] [(0, rr2), (0, s1)] G1
      refine s_icmp_ge (tgt := 44) dX3_findCells_10 (by decide) (fun c5 => ?_) (fun c5 => ?_)
      · -- 10 to 44
        exact s_vret hR dX3_findCells_44 rfl (hQ G1 hCG1 hXG1 hFG1 (fun s h0 h1 => by rw [hIG1] at h1 ⊢; exact ic1 s h0 (by omega)))
      · -- 10 to 13
        refine s_aload_n dX3_findCells_13 rfl (Int.natCast_nonneg _) ?_
        refine s_iload_n dX3_findCells_14 rfl ?_
        refine s_callV (as := [(0, s1)]) (rest := []) (n := o) (ci := 4) gX3_endOf dX3_findCells_15 m_1357 m_940 m_1668 m_717 m_288 ⟨by decide, by decide, show (parseMethodDescriptor yX3_endOf.desc).map (fun d => d.parameters.length) = some 1 from by decide +kernel⟩ (Nat.le_of_ble_eq_true rfl) (by rw [hcf]; exact Nat.le_of_ble_eq_true rfl) hk4 rfl rfl (Nat.le_of_ble_eq_true rfl) ⟨o, s1, f, a, b, rfl, hCG1, hab, (by assumption), (by omega), (by omega), (by exact hMIG1), fun rr6 hp7 => ?_⟩
        show WP kX3_findCells X 18 [some (2, ((o : Nat) : Int)), some (0, f), some (0, s1), none] [(0, rr6)] G1
        refine s_istore_n dX3_findCells_18 (by decide) (lv' := [some (2, ((o : Nat) : Int)), some (0, f), some (0, s1), some (0, rr6)]) rfl ?_
        refine s_aload_n dX3_findCells_19 rfl (Int.natCast_nonneg _) ?_
        refine s_alv (o) (by simp) (fun (al8 : AL G1 o) => ?_)
        have hv9 : gS G1 o 5 = ((o + 5 : Nat) : Int) := by have h9 : (gS G1 o 5) = (((o % 1048576) + 5 : Nat) : Int) := hCG1.1.v (j := 5) (by rw [cde_m (by omega) (by omega)]; omega : cde o = 300) al8 (by rw [hk4]; exact Nat.le_of_ble_eq_true rfl); omega
        refine s_getf (ci := 4) (k := 5) (C := RX3) (T := TX3) (N := 18) (n := o) (L := 0) (t := 2) dX3_findCells_20 rfl wi_71 m_612 (Nat.le_of_ble_eq_true rfl) rfl rfl hk4 hv9 ?_
        refine s_iload_n dX3_findCells_23 rfl ?_
        refine s_aload_n dX3_findCells_24 rfl (Int.natCast_nonneg _) ?_
        refine s_iload_n dX3_findCells_25 rfl ?_
        refine s_callV (as := [(0, rr6)]) (rest := [(0, s1), (2, ((o + 5 : Nat) : Int))]) (n := o) (ci := 4) gX3_isCell dX3_findCells_26 m_1362 m_955 m_1682 m_717 m_303 ⟨by decide, by decide, show (parseMethodDescriptor yX3_isCell.desc).map (fun d => d.parameters.length) = some 1 from by decide +kernel⟩ (Nat.le_of_ble_eq_true rfl) (by rw [hcf]; exact Nat.le_of_ble_eq_true rfl) hk4 rfl rfl (Nat.le_of_ble_eq_true rfl) ⟨o, rr6, a, b, rfl, hCG1, hab, (by first | assumption | omega), (by first | assumption | omega), fun rr10 hp11 => ?_⟩
        show WP kX3_findCells X 29 [some (2, ((o : Nat) : Int)), some (0, f), some (0, s1), some (0, rr6)] [(0, rr10), (0, s1), (2, ((o + 5 : Nat) : Int))] G1
        have J13 : ∀ z12 : Int, ((rr10 = 0) ∧ z12 = (-1)) ∨ ((¬ rr10 = 0) ∧ z12 = rr6) → WP kX3_findCells X 37 [some (2, ((o : Nat) : Int)), some (0, f), some (0, s1), some (0, rr6)] [(0, z12), (0, s1), (2, ((o + 5 : Nat) : Int))] G1 := by
          intro z12 hz12
          have hk14 : gK G1 (o + 5) = (1, 240) := ((hXG1).k kM5 (by decide))
          refine s_iast dX3_findCells_37 hk14 (by omega) (by omega) ?_
          generalize eG15r : gset G1 (o + 5) ((s1 : Int).toNat) z12 = G15
          have eG15 := eG15r.symm
          have hCG15 : CI a b G15 := by rw [eG15]; exact hCG1.set (by rw [(by rw [cde_m (by omega) (by omega)]; omega : cde (o + 5) = 305)]; rfl) (by rw [(by rw [cde_m (by omega) (by omega)]; omega : cde (o + 5) = 305)]; exact (show -1 ≤ z12 ∧ z12 ≤ 239 from by omega))
          have hXG15 : KX G1 G15 := KX.set KX.rf eG15
          have hFG15 : WX (fun x => x = o + 5) G G15 := WX.set hFG1 eG15 (by show _; omega)
          have hfG15 : WX (fun x => x = (o + 5) % 1048576) G1 G15 := WX.set WX.rf eG15 rfl
          have hIG15 : gS G15 o 9 = gS G o 9 := (congrFun (hfG15 o (KX.al hXG1 (kne kM (by decide))) rg0) 9).trans hIG1
          have hMIG15 : MI G15 o f := hMIG1.cg (congrFun (hfG15 (o) (KX.al hXG1 (kne kM (by decide))) rg0) 9) (hfG15 (o + 1) (KX.al hXG1 (kne kM1 (by decide))) rg1) (hfG15 (o + 3) (KX.al hXG1 (kne kM3 (by decide))) rg2) (hfG15 (o + 4) (KX.al hXG1 (kne kM4 (by decide))) rg3) (congrFun (hfG15 (327681) (KX.al hXG1 (kne kMp (by decide))) rg4) 12)
          show WP kX3_findCells X 38 [some (2, ((o : Nat) : Int)), some (0, f), some (0, s1), some (0, rr6)] [] G15
          have hb1G15 : gS G15 (o + 1) = gS G1 (o + 1) := gset_o eG15 (by omega)
          refine s_iinc dX3_findCells_38 (v := s1) rfl (by omega) (by decide) (lv' := [some (2, ((o : Nat) : Int)), some (0, f), some (0, s1 + 1), some (0, rr6)]) rfl ?_
          refine s_goto (tgt := 5) dX3_findCells_41 (by decide) ?_
          refine s_mask [true, true, true, false] (lv' := [some (2, ((o : Nat) : Int)), some (0, f), some (0, s1 + 1), none]) rfl ?_
          exact ih1 (s1 + 1) G15 hCG15 (KX.trans hXG1 hXG15) hFG15 (⟨(by omega), (by intro s h0 h1; by_cases w : s = s1; (focus (subst w; rw [gsaE eG15, hb1G15]; omega)); (focus (rw [eG15, gset_ne _ _ (fun q => by omega)]; rw [← eG15]; have h9 := ic1 s h0 (by omega); rw [show gS G15 (o + 1) = gS G1 (o + 1) from gset_o eG15 (by omega)]; exact h9))), (by exact hIG15), (by exact hMIG15)⟩) (by omega)
        refine s_if_eq (tgt := 36) dX3_findCells_29 (by decide) (fun c16 => ?_) (fun c16 => ?_)
        · -- 29 to 36
          refine s_iconst dX3_findCells_36 (by decide) ?_
          exact J13 ((-1)) (Or.inl ⟨c16, rfl⟩)
        · -- 29 to 32
          refine s_iload_n dX3_findCells_32 rfl ?_
          refine s_goto (tgt := 37) dX3_findCells_33 (by decide) ?_
          exact J13 rr6 (Or.inr (⟨c16, rfl⟩))
  exact L1 _ (f * 10) G hC KX.rf WX.rf (⟨(by omega), (by intro s h0 h1; omega), (by exact hI), (by exact hMI)⟩) (Nat.lt_succ_self _)

abbrev kX3_target : KD := (RX3, cX3_target, 3, (some .int), [])
def TX3_target : TR := fun as G Qr => ∃ (o : Nat) (c k : Int) (a b : Nat), as = [(2, ((o : Nat) : Int)), (0, c), (0, k)] ∧ CI a b G ∧ (a ≤ 2840000 ∧ b ≤ 590000) ∧ (isMc o) ∧ (0 ≤ c ∧ c < 240) ∧ (0 ≤ k ∧ k < 10) ∧ ∀ (r : Int), (r = gS G (o + 5) (c - c % 10 + k).toNat) → Qr (.inl (some (0, r))) G
set_option maxHeartbeats 4000000 in
set_option maxRecDepth 100000 in
theorem gX3_target : Good kX3_target yX3_target 0 TX3_target := by
  refine good_of (by decide) rfl rfl (fun as G Qr h => ?_) (fun X as G Qr hcf hR hT oa => ?_)
  · obtain ⟨o, c, k, a, b, rfl, -⟩ := h; exact Nat.le_of_ble_eq_true rfl
  obtain ⟨o, c, k, a, b, rfl, hC, hab, ho, hc, hk, hQ⟩ := hT
  show WP kX3_target X 0 [some (2, ((o : Nat) : Int)), some (0, c), some (0, k)] [] G
  have hr_c : inR c := okv_R (oa _ (by simp))
  have hr_k : inR k := okv_R (oa _ (by simp))
  refine s_alvl o (k := 0) rfl (fun alo => ?_)
  refine s_lk (fun hlk => ?_)
  have hmn := hlk.mna hC ho alo
  obtain ⟨kM, kM1, kM2, kM3, kM4, kM5, kM6, kM7, kM8, kM13, kM15, kM20, kMp, kMp5, kMp6, kMp7, kMp8, kMp9, kMp10, kMp13, kMp14, kMp16⟩ := id hmn
  have hin : 0 ≤ gS G o 9 ∧ gS G o 9 ≤ 24 := hC.1.v (c := 300) (j := 9) (by rcases ho with rfl | rfl <;> decide) alo (by rw [kM]; exact Nat.le_of_ble_eq_true rfl)
  refine s_aload_n dX3_target_0 rfl (Int.natCast_nonneg _) ?_
  have hv1 : gS G o 5 = ((o + 5 : Nat) : Int) := by have h9 : (gS G o 5) = (((o % 1048576) + 5 : Nat) : Int) := hC.1.v (j := 5) (by rw [cde_m (by omega) (by omega)]; omega : cde o = 300) (kne kM (by decide)) (by rw [kM]; exact Nat.le_of_ble_eq_true rfl); omega
  refine s_getf (ci := 4) (k := 5) (C := RX3) (T := TX3) (N := 18) (n := o) (L := 0) (t := 2) dX3_target_1 rfl wi_71 m_612 (Nat.le_of_ble_eq_true rfl) rfl rfl kM hv1 ?_
  refine s_iload_n dX3_target_4 rfl ?_
  refine s_iload_n dX3_target_5 rfl ?_
  refine s_bipush dX3_target_6 rfl (by decide) ?_
  refine s_irem dX3_target_8 (by omega) (by omega) ?_
  refine s_isub dX3_target_9 (by omega) ?_
  refine s_iload_n dX3_target_10 rfl ?_
  refine s_iadd dX3_target_11 (by omega) ?_
  have hv2 : -1 ≤ (gS G (o + 5) ((c - (c % 10)) + k : Int).toNat) ∧ (gS G (o + 5) ((c - (c % 10)) + k : Int).toNat) ≤ 239 := hC.1.v (j := ((c - (c % 10)) + k : Int).toNat) (by rw [cde_m (by omega) (by omega)]; omega : cde (o + 5) = 305) (kne kM5 (by decide)) (by rw [kM5]; show ((c - (c % 10)) + k : Int).toNat < 240; omega)
  refine s_iald dX3_target_12 kM5 (by omega) (by omega) rfl ?_
  exact s_iret hR dX3_target_13 rfl (hQ (gS G (o + 5) (((c - (c % 10)) + k : Int).toNat)) rfl)

abbrev kX3_refNames : KD := (RX3, cX3_refNames, 2, (some .int), [])
def TX3_refNames : TR := fun as G Qr => ∃ (o : Nat) (c : Int) (a b : Nat), as = [(2, ((o : Nat) : Int)), (0, c)] ∧ CI a b G ∧ (a ≤ 2840000 ∧ b ≤ 590000) ∧ (isMc o) ∧ (0 ≤ c ∧ c < 240) ∧ (0 ≤ gS G (o + 1) c.toNat) ∧ ∀ (r : Int), (r = gS G 327706 (gS G (o + 1) c.toNat).toNat) → Qr (.inl (some (0, r))) G
set_option maxHeartbeats 4000000 in
set_option maxRecDepth 100000 in
theorem gX3_refNames : Good kX3_refNames yX3_refNames 0 TX3_refNames := by
  refine good_of (by decide) rfl rfl (fun as G Qr h => ?_) (fun X as G Qr hcf hR hT oa => ?_)
  · obtain ⟨o, c, a, b, rfl, -⟩ := h; exact Nat.le_of_ble_eq_true rfl
  obtain ⟨o, c, a, b, rfl, hC, hab, ho, hc, hce, hQ⟩ := hT
  show WP kX3_refNames X 0 [some (2, ((o : Nat) : Int)), some (0, c)] [] G
  have hr_c : inR c := okv_R (oa _ (by simp))
  refine s_alvl o (k := 0) rfl (fun alo => ?_)
  refine s_lk (fun hlk => ?_)
  have hmn := hlk.mna hC ho alo
  obtain ⟨kM, kM1, kM2, kM3, kM4, kM5, kM6, kM7, kM8, kM13, kM15, kM20, kMp, kMp5, kMp6, kMp7, kMp8, kMp9, kMp10, kMp13, kMp14, kMp16⟩ := id hmn
  have hin : 0 ≤ gS G o 9 ∧ gS G o 9 ≤ 24 := hC.1.v (c := 300) (j := 9) (by rcases ho with rfl | rfl <;> decide) alo (by rw [kM]; exact Nat.le_of_ble_eq_true rfl)
  refine s_aload_n dX3_refNames_0 rfl (Int.natCast_nonneg _) ?_
  have hv1 : gS G o 0 = ((327681 : Nat) : Int) := by have h9 : (gS G o 0) = 327681 := hC.1.v (j := 0) (by rw [cde_m (by omega) (by omega)]; omega : cde o = 300) (kne kM (by decide)) (by rw [kM]; exact Nat.le_of_ble_eq_true rfl); omega
  refine s_getf (ci := 4) (k := 0) (C := RX3) (T := TX3) (N := 18) (n := o) (L := 0) (t := 2) dX3_refNames_1 rfl wi_71 m_621 (Nat.le_of_ble_eq_true rfl) rfl rfl kM hv1 ?_
  have hv2 : gS G 327681 10 = ((327706 : Nat) : Int) := by have h9 : (gS G 327681 10) = 327706 := hC.1.v (j := 10) (by decide : cde 327681 = 501) (kne kMp (by decide)) (by rw [kMp]; exact Nat.le_of_ble_eq_true rfl); omega
  refine s_getf (ci := 6) (k := 10) (C := RX5) (T := TX5) (N := 18) (n := 327681) (L := 0) (t := 2) dX3_refNames_4 rfl wi_73 m_603 (Nat.le_of_ble_eq_true rfl) rfl rfl kMp hv2 ?_
  refine s_aload_n dX3_refNames_7 rfl (Int.natCast_nonneg _) ?_
  have hv3 : gS G o 1 = ((o + 1 : Nat) : Int) := by have h9 : (gS G o 1) = (((o % 1048576) + 1 : Nat) : Int) := hC.1.v (j := 1) (by rw [cde_m (by omega) (by omega)]; omega : cde o = 300) (kne kM (by decide)) (by rw [kM]; exact Nat.le_of_ble_eq_true rfl); omega
  refine s_getf (ci := 4) (k := 1) (C := RX3) (T := TX3) (N := 18) (n := o) (L := 0) (t := 2) dX3_refNames_8 rfl wi_71 m_593 (Nat.le_of_ble_eq_true rfl) rfl rfl kM hv3 ?_
  refine s_iload_n dX3_refNames_11 rfl ?_
  have hv4 : -2 ≤ (gS G (o + 1) (c : Int).toNat) ∧ (gS G (o + 1) (c : Int).toNat) ≤ 119 := hC.1.v (j := (c : Int).toNat) (by rw [cde_m (by omega) (by omega)]; omega : cde (o + 1) = 301) (kne kM1 (by decide)) (by rw [kM1]; show (c : Int).toNat < 240; omega)
  refine s_iald dX3_refNames_12 kM1 (by omega) (by omega) rfl ?_
  refine s_iald dX3_refNames_13 kMp10 (by omega) (by omega) rfl ?_
  exact s_iret hR dX3_refNames_14 rfl (hQ (gS G 327706 ((gS G (o + 1) ((c : Int).toNat) : Int).toNat)) rfl)

abbrev kX3_hasOpenRef : KD := (RX3, cX3_hasOpenRef, 4, (some .boolean), [])
def TX3_hasOpenRef : TR := fun as G Qr => ∃ (o : Nat) (f : Int) (a b : Nat), as = [(2, ((o : Nat) : Int)), (0, f)] ∧ CI a b G ∧ (a ≤ 2840000 ∧ b ≤ 590000) ∧ (isMc o) ∧ (0 ≤ f ∧ f ≤ 24) ∧ (MI G o f) ∧ (MC G o f) ∧ ∀ (r : Int), ((r = 0 ∨ r = 1) ∧ (r = 0 → NO G o f)) → Qr (.inl (some (0, r))) G
set_option maxHeartbeats 4000000 in
set_option maxRecDepth 100000 in
theorem gX3_hasOpenRef : Good kX3_hasOpenRef yX3_hasOpenRef 2 TX3_hasOpenRef := by
  refine good_of (by decide) rfl rfl (fun as G Qr h => ?_) (fun X as G Qr hcf hR hT oa => ?_)
  · obtain ⟨o, f, a, b, rfl, -⟩ := h; exact Nat.le_of_ble_eq_true rfl
  obtain ⟨o, f, a, b, rfl, hC, hab, ho, hf0, hMI, hMC, hQ⟩ := hT
  show WP kX3_hasOpenRef X 0 [some (2, ((o : Nat) : Int)), some (0, f), none, none] [] G
  have hr_f : inR f := okv_R (oa _ (by simp))
  refine s_alvl o (k := 0) rfl (fun alo => ?_)
  refine s_lk (fun hlk => ?_)
  have hmn := hlk.mna hC ho alo
  obtain ⟨kM, kM1, kM2, kM3, kM4, kM5, kM6, kM7, kM8, kM13, kM15, kM20, kMp, kMp5, kMp6, kMp7, kMp8, kMp9, kMp10, kMp13, kMp14, kMp16⟩ := id hmn
  have hin : 0 ≤ gS G o 9 ∧ gS G o 9 ≤ 24 := hC.1.v (c := 300) (j := 9) (by rcases ho with rfl | rfl <;> decide) alo (by rw [kM]; exact Nat.le_of_ble_eq_true rfl)
  refine s_iload_n dX3_hasOpenRef_0 rfl ?_
  refine s_bipush dX3_hasOpenRef_1 rfl (by decide) ?_
  refine s_imul dX3_hasOpenRef_3 (by omega) ?_
  refine s_istore_n dX3_hasOpenRef_4 (by decide) (lv' := [some (2, ((o : Nat) : Int)), some (0, f), some (0, f * 10), none]) rfl ?_
  have L1 : ∀ (n1 : Nat) (s1 : Int), ((10 * f ≤ s1 ∧ s1 ≤ 240) ∧ (∀ s : Int, 10 * f ≤ s → s < s1 → 0 ≤ gS G (o + 1) s.toNat → ∀ k : Int, 0 ≤ k → k < 10 → ¬ i_and (i_shr (gS G 327706 (gS G (o + 1) (s : Int).toNat).toNat) k) 1 = 0 → 0 ≤ gS G (o + 5) (s - s % 10 + k).toNat)) → (240 - s1).toNat < n1 → WP kX3_hasOpenRef X 5 [some (2, ((o : Nat) : Int)), some (0, f), some (0, s1), none] [] G := by
    intro n1
    induction n1 with
    | zero => intro s1 hi1 hm1; exact absurd hm1 (Nat.not_lt_zero _)
    | succ n1 ih1 =>
      intro s1 hi1 hm1
      obtain ⟨is1, io1⟩ := hi1
      refine s_iload_n dX3_hasOpenRef_5 rfl ?_
      refine s_aload_n dX3_hasOpenRef_6 rfl (Int.natCast_nonneg _) ?_
      refine s_callV (as := []) (rest := [(0, s1)]) (n := o) (ci := 4) gX3_slotCount dX3_hasOpenRef_7 m_1361 m_966 m_1693 m_717 m_314 ⟨by decide, by decide, show (parseMethodDescriptor yX3_slotCount.desc).map (fun d => d.parameters.length) = some 0 from by decide +kernel⟩ (Nat.le_of_ble_eq_true rfl) (by rw [hcf]; exact Nat.le_of_ble_eq_true rfl) kM rfl rfl (Nat.le_of_ble_eq_true rfl) ⟨o, a, b, rfl, hC, hab, (by first | assumption | omega), fun rr2 hp3 => ?_⟩
      show WP kX3_hasOpenRef X 10 [some (2, ((o : Nat) : Int)), some (0, f), some (0, s1), none] [(0, rr2), (0, s1)] G
      refine s_icmp_ge (tgt := 64) dX3_hasOpenRef_10 (by decide) (fun c4 => ?_) (fun c4 => ?_)
      · -- 10 to 64
        refine s_iconst dX3_hasOpenRef_64 (by decide) ?_
        exact s_zret hR dX3_hasOpenRef_65 rfl (by first | exact Or.inl rfl | exact Or.inr rfl | omega) (hQ 0 ⟨by omega, fun _ s h0 h1 => io1 s h0 (by omega)⟩)
      · -- 10 to 13
        refine s_iconst dX3_hasOpenRef_13 (by decide) ?_
        refine s_istore_n dX3_hasOpenRef_14 (by decide) (lv' := [some (2, ((o : Nat) : Int)), some (0, f), some (0, s1), some (0, 0)]) rfl ?_
        have L5 : ∀ (n5 : Nat) (k5 : Int), ((0 ≤ k5 ∧ k5 ≤ 10) ∧ (∀ k : Int, 0 ≤ k → k < k5 → 0 ≤ gS G (o + 1) (s1 : Int).toNat → ¬ i_and (i_shr (gS G 327706 (gS G (o + 1) (s1 : Int).toNat).toNat) k) 1 = 0 → 0 ≤ gS G (o + 5) (s1 - s1 % 10 + k).toNat)) → (10 - k5).toNat < n5 → WP kX3_hasOpenRef X 15 [some (2, ((o : Nat) : Int)), some (0, f), some (0, s1), some (0, k5)] [] G := by
          intro n5
          induction n5 with
          | zero => intro k5 hi5 hm5; exact absurd hm5 (Nat.not_lt_zero _)
          | succ n5 ih5 =>
            intro k5 hi5 hm5
            obtain ⟨ik5, in5⟩ := hi5
            refine s_iload_n dX3_hasOpenRef_15 rfl ?_
            refine s_bipush dX3_hasOpenRef_16 rfl (by decide) ?_
            refine s_icmp_ge (tgt := 58) dX3_hasOpenRef_18 (by decide) (fun c6 => ?_) (fun c6 => ?_)
            · -- 18 to 58
              refine s_iinc dX3_hasOpenRef_58 (v := s1) rfl (by omega) (by decide) (lv' := [some (2, ((o : Nat) : Int)), some (0, f), some (0, s1 + 1), some (0, k5)]) rfl ?_
              refine s_goto (tgt := 5) dX3_hasOpenRef_61 (by decide) ?_
              refine s_mask [true, true, true, false] (lv' := [some (2, ((o : Nat) : Int)), some (0, f), some (0, s1 + 1), none]) rfl ?_
              exact ih1 (s1 + 1) (⟨(by omega), (by intro s h0 h1 h2 k k0 k1 hb; by_cases w : s = s1; (focus (subst w; first | (exact in5 k k0 (by omega) h2 hb) | (exfalso; omega))); exact io1 s h0 (by omega) h2 k k0 k1 hb)⟩) (by omega)
            · -- 18 to 21
              refine s_aload_n dX3_hasOpenRef_21 rfl (Int.natCast_nonneg _) ?_
              refine s_iload_n dX3_hasOpenRef_22 rfl ?_
              refine s_callV (as := [(0, s1)]) (rest := []) (n := o) (ci := 4) gX3_isCell dX3_hasOpenRef_23 m_1362 m_955 m_1682 m_717 m_303 ⟨by decide, by decide, show (parseMethodDescriptor yX3_isCell.desc).map (fun d => d.parameters.length) = some 1 from by decide +kernel⟩ (Nat.le_of_ble_eq_true rfl) (by rw [hcf]; exact Nat.le_of_ble_eq_true rfl) kM rfl rfl (Nat.le_of_ble_eq_true rfl) ⟨o, s1, a, b, rfl, hC, hab, (by first | assumption | omega), (by first | assumption | omega), fun rr7 hp8 => ?_⟩
              show WP kX3_hasOpenRef X 26 [some (2, ((o : Nat) : Int)), some (0, f), some (0, s1), some (0, k5)] [(0, rr7)] G
              refine s_if_eq (tgt := 58) dX3_hasOpenRef_26 (by decide) (fun c9 => ?_) (fun c9 => ?_)
              · -- 26 to 58
                refine s_iinc dX3_hasOpenRef_58 (v := s1) rfl (by omega) (by decide) (lv' := [some (2, ((o : Nat) : Int)), some (0, f), some (0, s1 + 1), some (0, k5)]) rfl ?_
                refine s_goto (tgt := 5) dX3_hasOpenRef_61 (by decide) ?_
                refine s_mask [true, true, true, false] (lv' := [some (2, ((o : Nat) : Int)), some (0, f), some (0, s1 + 1), none]) rfl ?_
                exact ih1 (s1 + 1) (⟨(by omega), (by intro s h0 h1 h2 k k0 k1 hb; by_cases w : s = s1; (focus (subst w; first | (exact in5 k k0 (by omega) h2 hb) | (exfalso; omega))); exact io1 s h0 (by omega) h2 k k0 k1 hb)⟩) (by omega)
              · -- 26 to 29
                refine s_aload_n dX3_hasOpenRef_29 rfl (Int.natCast_nonneg _) ?_
                refine s_iload_n dX3_hasOpenRef_30 rfl ?_
                refine s_callV (as := [(0, s1)]) (rest := []) (n := o) (ci := 4) gX3_refNames dX3_hasOpenRef_31 m_1363 m_963 m_1690 m_717 m_311 ⟨by decide, by decide, show (parseMethodDescriptor yX3_refNames.desc).map (fun d => d.parameters.length) = some 1 from by decide +kernel⟩ (Nat.le_of_ble_eq_true rfl) (by rw [hcf]; exact Nat.le_of_ble_eq_true rfl) kM rfl rfl (Nat.le_of_ble_eq_true rfl) ⟨o, s1, a, b, rfl, hC, hab, (by first | assumption | omega), (by first | assumption | omega), (by first | assumption | omega), fun rr10 hp11 => ?_⟩
                show WP kX3_hasOpenRef X 34 [some (2, ((o : Nat) : Int)), some (0, f), some (0, s1), some (0, k5)] [(0, rr10)] G
                refine s_iload_n dX3_hasOpenRef_34 rfl ?_
                refine s_callSN (own := RX3) rfl (by decide +kernel) (as := [(0, rr10), (0, k5)]) (rest := []) gX11_isIn dX3_hasOpenRef_35 m_1777 m_714 m_97 ⟨by decide, by decide, show (parseMethodDescriptor yX11_isIn.desc).map (fun d => d.parameters.length) = some 2 from by decide +kernel⟩ (Nat.le_of_ble_eq_true rfl) (by rw [hcf]; exact Nat.le_of_ble_eq_true rfl) rfl (Nat.le_of_ble_eq_true rfl) ⟨rr10, k5, rfl, fun rr12 hp13 => ?_⟩
                show WP kX3_hasOpenRef X 38 [some (2, ((o : Nat) : Int)), some (0, f), some (0, s1), some (0, k5)] [(0, rr12)] G
                refine s_if_eq (tgt := 52) dX3_hasOpenRef_38 (by decide) (fun c14 => ?_) (fun c14 => ?_)
                · -- 38 to 52
                  refine s_iinc dX3_hasOpenRef_52 (v := k5) rfl (by omega) (by decide) (lv' := [some (2, ((o : Nat) : Int)), some (0, f), some (0, s1), some (0, k5 + 1)]) rfl ?_
                  refine s_goto (tgt := 15) dX3_hasOpenRef_55 (by decide) ?_
                  exact ih5 (k5 + 1) (⟨(by omega), (by intro k k0 k1 h2 hb; by_cases w : k = k5; (focus (subst w; first | omega | (exfalso; exact hb (by omega)))); exact in5 k k0 (by omega) h2 hb)⟩) (by omega)
                · -- 38 to 41
                  refine s_aload_n dX3_hasOpenRef_41 rfl (Int.natCast_nonneg _) ?_
                  refine s_iload_n dX3_hasOpenRef_42 rfl ?_
                  refine s_iload_n dX3_hasOpenRef_43 rfl ?_
                  refine s_callV (as := [(0, s1), (0, k5)]) (rest := []) (n := o) (ci := 4) gX3_target dX3_hasOpenRef_44 m_1364 m_967 m_1694 m_717 m_315 ⟨by decide, by decide, show (parseMethodDescriptor yX3_target.desc).map (fun d => d.parameters.length) = some 2 from by decide +kernel⟩ (Nat.le_of_ble_eq_true rfl) (by rw [hcf]; exact Nat.le_of_ble_eq_true rfl) kM rfl rfl (Nat.le_of_ble_eq_true rfl) ⟨o, s1, k5, a, b, rfl, hC, hab, (by first | assumption | omega), (by first | assumption | omega), (by first | assumption | omega), fun rr15 hp16 => ?_⟩
                  show WP kX3_hasOpenRef X 47 [some (2, ((o : Nat) : Int)), some (0, f), some (0, s1), some (0, k5)] [(0, rr15)] G
                  refine s_if_ge (tgt := 52) dX3_hasOpenRef_47 (by decide) (fun c17 => ?_) (fun c17 => ?_)
                  · -- 47 to 52
                    refine s_iinc dX3_hasOpenRef_52 (v := k5) rfl (by omega) (by decide) (lv' := [some (2, ((o : Nat) : Int)), some (0, f), some (0, s1), some (0, k5 + 1)]) rfl ?_
                    refine s_goto (tgt := 15) dX3_hasOpenRef_55 (by decide) ?_
                    exact ih5 (k5 + 1) (⟨(by omega), (by intro k k0 k1 h2 hb; by_cases w : k = k5; (focus (subst w; first | omega | (exfalso; exact hb (by omega)))); exact in5 k k0 (by omega) h2 hb)⟩) (by omega)
                  · -- 47 to 50
                    refine s_iconst dX3_hasOpenRef_50 (by decide) ?_
                    exact s_zret hR dX3_hasOpenRef_51 rfl (by first | exact Or.inl rfl | exact Or.inr rfl | omega) (hQ 1 ⟨by omega, fun h => absurd h (by omega)⟩)
        exact L5 _ 0 (⟨(by omega), (by intro k h0 h1; omega)⟩) (Nat.lt_succ_self _)
  exact L1 _ (f * 10) (⟨(by omega), (by intro s h0 h1; omega)⟩) (Nat.lt_succ_self _)

abbrev kX3_leadsToMarked : KD := (RX3, cX3_leadsToMarked, 3, (some .boolean), [])
def TX3_leadsToMarked : TR := fun as G Qr => ∃ (o : Nat) (c f : Int) (a b : Nat), as = [(2, ((o : Nat) : Int)), (0, c)] ∧ CI a b G ∧ (a ≤ 2840000 ∧ b ≤ 590000) ∧ (isMc o) ∧ (0 ≤ f ∧ f ≤ 24) ∧ (MI G o f) ∧ (NO G o f) ∧ (10 * f ≤ c ∧ c < 10 * gS G o 9) ∧ (0 ≤ gS G (o + 1) c.toNat) ∧ ∀ (r : Int), (r = 0 ∨ r = 1) → Qr (.inl (some (0, r))) G
set_option maxHeartbeats 4000000 in
set_option maxRecDepth 100000 in
theorem gX3_leadsToMarked : Good kX3_leadsToMarked yX3_leadsToMarked 1 TX3_leadsToMarked := by
  refine good_of (by decide) rfl rfl (fun as G Qr h => ?_) (fun X as G Qr hcf hR hT oa => ?_)
  · obtain ⟨o, c, f, a, b, rfl, -⟩ := h; exact Nat.le_of_ble_eq_true rfl
  obtain ⟨o, c, f, a, b, rfl, hC, hab, ho, hf0, hMI, hNO, hc, hce, hQ⟩ := hT
  show WP kX3_leadsToMarked X 0 [some (2, ((o : Nat) : Int)), some (0, c), none] [] G
  have hr_c : inR c := okv_R (oa _ (by simp))
  refine s_alvl o (k := 0) rfl (fun alo => ?_)
  refine s_lk (fun hlk => ?_)
  have hmn := hlk.mna hC ho alo
  obtain ⟨kM, kM1, kM2, kM3, kM4, kM5, kM6, kM7, kM8, kM13, kM15, kM20, kMp, kMp5, kMp6, kMp7, kMp8, kMp9, kMp10, kMp13, kMp14, kMp16⟩ := id hmn
  have hin : 0 ≤ gS G o 9 ∧ gS G o 9 ≤ 24 := hC.1.v (c := 300) (j := 9) (by rcases ho with rfl | rfl <;> decide) alo (by rw [kM]; exact Nat.le_of_ble_eq_true rfl)
  refine s_iconst dX3_leadsToMarked_0 (by decide) ?_
  refine s_istore_n dX3_leadsToMarked_1 (by decide) (lv' := [some (2, ((o : Nat) : Int)), some (0, c), some (0, 0)]) rfl ?_
  have L1 : ∀ (n1 : Nat) (k1 : Int), ((0 ≤ k1 ∧ k1 ≤ 10)) → (10 - k1).toNat < n1 → WP kX3_leadsToMarked X 2 [some (2, ((o : Nat) : Int)), some (0, c), some (0, k1)] [] G := by
    intro n1
    induction n1 with
    | zero => intro k1 hi1 hm1; exact absurd hm1 (Nat.not_lt_zero _)
    | succ n1 ih1 =>
      intro k1 hi1 hm1
      have ik1 := hi1
      refine s_iload_n dX3_leadsToMarked_2 rfl ?_
      refine s_bipush dX3_leadsToMarked_3 rfl (by decide) ?_
      refine s_icmp_ge (tgt := 42) dX3_leadsToMarked_5 (by decide) (fun c2 => ?_) (fun c2 => ?_)
      · -- 5 to 42
        refine s_iconst dX3_leadsToMarked_42 (by decide) ?_
        exact s_zret hR dX3_leadsToMarked_43 rfl (by first | exact Or.inl rfl | exact Or.inr rfl | omega) (hQ 1 (by omega))
      · -- 5 to 8
        refine s_aload_n dX3_leadsToMarked_8 rfl (Int.natCast_nonneg _) ?_
        refine s_iload_n dX3_leadsToMarked_9 rfl ?_
        refine s_callV (as := [(0, c)]) (rest := []) (n := o) (ci := 4) gX3_refNames dX3_leadsToMarked_10 m_1363 m_963 m_1690 m_717 m_311 ⟨by decide, by decide, show (parseMethodDescriptor yX3_refNames.desc).map (fun d => d.parameters.length) = some 1 from by decide +kernel⟩ (Nat.le_of_ble_eq_true rfl) (by rw [hcf]; exact Nat.le_of_ble_eq_true rfl) kM rfl rfl (Nat.le_of_ble_eq_true rfl) ⟨o, c, a, b, rfl, hC, hab, (by first | assumption | omega), (by first | assumption | omega), (by first | assumption | omega), fun rr3 hp4 => ?_⟩
        show WP kX3_leadsToMarked X 13 [some (2, ((o : Nat) : Int)), some (0, c), some (0, k1)] [(0, rr3)] G
        refine s_iload_n dX3_leadsToMarked_13 rfl ?_
        refine s_callSN (own := RX3) rfl (by decide +kernel) (as := [(0, rr3), (0, k1)]) (rest := []) gX11_isIn dX3_leadsToMarked_14 m_1777 m_714 m_97 ⟨by decide, by decide, show (parseMethodDescriptor yX11_isIn.desc).map (fun d => d.parameters.length) = some 2 from by decide +kernel⟩ (Nat.le_of_ble_eq_true rfl) (by rw [hcf]; exact Nat.le_of_ble_eq_true rfl) rfl (Nat.le_of_ble_eq_true rfl) ⟨rr3, k1, rfl, fun rr5 hp6 => ?_⟩
        show WP kX3_leadsToMarked X 17 [some (2, ((o : Nat) : Int)), some (0, c), some (0, k1)] [(0, rr5)] G
        refine s_if_eq (tgt := 36) dX3_leadsToMarked_17 (by decide) (fun c7 => ?_) (fun c7 => ?_)
        · -- 17 to 36
          refine s_iinc dX3_leadsToMarked_36 (v := k1) rfl (by omega) (by decide) (lv' := [some (2, ((o : Nat) : Int)), some (0, c), some (0, k1 + 1)]) rfl ?_
          refine s_goto (tgt := 2) dX3_leadsToMarked_39 (by decide) ?_
          exact ih1 (k1 + 1) ((by omega)) (by omega)
        · -- 17 to 20
          refine s_aload_n dX3_leadsToMarked_20 rfl (Int.natCast_nonneg _) ?_
          have hv8 : gS G o 6 = ((o + 6 : Nat) : Int) := by have h9 : (gS G o 6) = (((o % 1048576) + 6 : Nat) : Int) := hC.1.v (j := 6) (by rw [cde_m (by omega) (by omega)]; omega : cde o = 300) (kne kM (by decide)) (by rw [kM]; exact Nat.le_of_ble_eq_true rfl); omega
          refine s_getf (ci := 4) (k := 6) (C := RX3) (T := TX3) (N := 18) (n := o) (L := 0) (t := 2) dX3_leadsToMarked_21 rfl wi_71 m_615 (Nat.le_of_ble_eq_true rfl) rfl rfl kM hv8 ?_
          have hno := hNO c (by omega) (by omega) hce k1 (by omega) (by omega) (by omega)
          refine s_aload_n dX3_leadsToMarked_24 rfl (Int.natCast_nonneg _) ?_
          refine s_iload_n dX3_leadsToMarked_25 rfl ?_
          refine s_iload_n dX3_leadsToMarked_26 rfl ?_
          refine s_callV (as := [(0, c), (0, k1)]) (rest := [(2, ((o + 6 : Nat) : Int))]) (n := o) (ci := 4) gX3_target dX3_leadsToMarked_27 m_1364 m_967 m_1694 m_717 m_315 ⟨by decide, by decide, show (parseMethodDescriptor yX3_target.desc).map (fun d => d.parameters.length) = some 2 from by decide +kernel⟩ (Nat.le_of_ble_eq_true rfl) (by rw [hcf]; exact Nat.le_of_ble_eq_true rfl) kM rfl rfl (Nat.le_of_ble_eq_true rfl) ⟨o, c, k1, a, b, rfl, hC, hab, (by first | assumption | omega), (by first | assumption | omega), (by first | assumption | omega), fun rr9 hp10 => ?_⟩
          show WP kX3_leadsToMarked X 30 [some (2, ((o : Nat) : Int)), some (0, c), some (0, k1)] [(0, rr9), (2, ((o + 6 : Nat) : Int))] G
          refine s_bald dX3_leadsToMarked_30 kM6 (by omega) (by omega) rfl ?_
          refine s_if_ne (tgt := 36) dX3_leadsToMarked_31 (by decide) (fun c11 => ?_) (fun c11 => ?_)
          · -- 31 to 36
            refine s_iinc dX3_leadsToMarked_36 (v := k1) rfl (by omega) (by decide) (lv' := [some (2, ((o : Nat) : Int)), some (0, c), some (0, k1 + 1)]) rfl ?_
            refine s_goto (tgt := 2) dX3_leadsToMarked_39 (by decide) ?_
            exact ih1 (k1 + 1) ((by omega)) (by omega)
          · -- 31 to 34
            refine s_iconst dX3_leadsToMarked_34 (by decide) ?_
            exact s_zret hR dX3_leadsToMarked_35 rfl (by first | exact Or.inl rfl | exact Or.inr rfl | omega) (hQ 0 (by omega))
  exact L1 _ 0 ((by omega)) (Nat.lt_succ_self _)
