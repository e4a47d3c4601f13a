abbrev kX7_numberOf : KD := (RX7, cX7_numberOf, 10, (some .int), [])
def TX7_numberOf : TR := fun as G Qr => ∃ (k x y z : Int) (Hs : List (Int → Int)) (v : Int → Int) (a b : Nat), as = [(2, ((327683 : Nat) : Int)), (0, k), (0, x), (0, y), (0, z)] ∧ CI a b G ∧ (a ≤ 2840000 ∧ b ≤ 590000) ∧ (ThC G Hs) ∧ (v ∈ Hs) ∧ (∀ G' : LG, TxC G G' → ∀ t, keyC G' t k x y z → ∃ n : Nat, (n : Int) < nN G' ∧ mkC G' v n t) ∧ ∀ (r : Int) (G' : LG), CI a b G' → KX G G' → WX (fun x => x = 327683 ∨ x = 327687 ∨ x = 327688) G G' → (ThC G' Hs ∧ TxC G G' ∧ keyC G' r k x y z) → Qr (.inl (some (0, r))) G'
set_option maxHeartbeats 4000000 in
set_option maxRecDepth 100000 in
theorem gX7_numberOf : Good kX7_numberOf yX7_numberOf 2 TX7_numberOf := by
  refine good_of (by decide) rfl rfl (fun as G Qr h => ?_) (fun X as G Qr hcf hR hT oa => ?_)
  · obtain ⟨k, x, y, z, Hs, v, a, b, rfl, -⟩ := h; exact Nat.le_of_ble_eq_true rfl
  obtain ⟨k, x, y, z, Hs, v, a, b, rfl, hC, hab, hTH, hv, hA, hQ⟩ := hT
  show WP kX7_numberOf X 0 [some (2, ((327683 : Nat) : Int)), some (0, k), some (0, x), some (0, y), some (0, z), none, none, none, none, none] [] G
  have hr_k : inR k := okv_R (oa _ (by simp))
  have hr_x : inR x := okv_R (oa _ (by simp))
  have hr_y : inR y := okv_R (oa _ (by simp))
  have hr_z : inR z := okv_R (oa _ (by simp))
  refine s_alvl 327683 (k := 0) rfl (fun al0 => ?_)
  obtain ⟨qt, Lt, ht1, ht2, ht3, ht4, ht5, ht6, ht7, ht8, ht9⟩ := hC.thg al0
  have hbd := thC_bound hTH
  have hTH0 := hTH
  obtain ⟨⟨hc0, hc1, hc2, hc3⟩, hdis, hHI, hND, hcov⟩ := hTH
  have hTH := hTH0
  have hcq : cnC G = gS G 327683 1 := rfl
  have ht90 : ∀ t, tbC G t 0 = gS G qt (5 * t).toNat := fun t => (ht9 t 0).trans (congrArg (fun z : Int => gS G qt z.toNat) (by omega))
  have ht91 : ∀ t, tbC G t 1 = gS G qt (5 * t + 1).toNat := fun t => (ht9 t 1).trans (congrArg (fun z : Int => gS G qt z.toNat) (by omega))
  have ht92 : ∀ t, tbC G t 2 = gS G qt (5 * t + 2).toNat := fun t => (ht9 t 2).trans (congrArg (fun z : Int => gS G qt z.toNat) (by omega))
  have ht93 : ∀ t, tbC G t 3 = gS G qt (5 * t + 3).toNat := fun t => (ht9 t 3).trans (congrArg (fun z : Int => gS G qt z.toNat) (by omega))
  have ht94 : ∀ t, tbC G t 4 = gS G qt (5 * t + 4).toNat := fun t => (ht9 t 4).trans (congrArg (fun z : Int => gS G qt z.toNat) (by omega))
  refine s_iload_n dX7_numberOf_0 rfl ?_
  refine s_bipush dX7_numberOf_1 rfl (by decide) ?_
  refine s_imulW dX7_numberOf_3 (fun w1 hrw1 hew1 => ?_)
  refine s_iload_n dX7_numberOf_4 rfl ?_
  refine s_iaddW dX7_numberOf_5 (fun w2 hrw2 hew2 => ?_)
  refine s_sipush dX7_numberOf_6 rfl (by decide) ?_
  refine s_imulW dX7_numberOf_9 (fun w3 hrw3 hew3 => ?_)
  refine s_iload_n dX7_numberOf_10 rfl ?_
  refine s_iaddW dX7_numberOf_11 (fun w4 hrw4 hew4 => ?_)
  refine s_sipush dX7_numberOf_12 rfl (by decide) ?_
  refine s_imulW dX7_numberOf_15 (fun w5 hrw5 hew5 => ?_)
  refine s_iload dX7_numberOf_16 rfl ?_
  refine s_iaddW dX7_numberOf_18 (fun w6 hrw6 hew6 => ?_)
  refine s_istore dX7_numberOf_19 (by decide) (lv' := [some (2, ((327683 : Nat) : Int)), some (0, k), some (0, x), some (0, y), some (0, z), some (0, w6), none, none, none, none]) rfl ?_
  refine s_iload dX7_numberOf_21 rfl ?_
  refine s_iload dX7_numberOf_23 rfl ?_
  refine s_bipush dX7_numberOf_25 rfl (by decide) ?_
  refine s_iushr dX7_numberOf_27 ?_
  refine s_ixor dX7_numberOf_28 ?_
  refine s_aload_n dX7_numberOf_29 rfl (Int.natCast_nonneg _) ?_
  have hk7 : gK G (327683) = (16, 0) := hC.1.k (by decide : cde 327683 = 503) al0
  have hv8 : gS G 327683 2 = ((327688 : Nat) : Int) := by have h9 : (gS G 327683 2) = 327688 := hC.1.v (j := 2) (by decide : cde 327683 = 503) al0 (by rw [hk7]; exact Nat.le_of_ble_eq_true rfl); omega
  refine s_getf (ci := 8) (k := 2) (C := RX7) (T := TX7) (N := 3) (n := 327683) (L := 0) (t := 2) dX7_numberOf_30 rfl wi_75 m_669 (Nat.le_of_ble_eq_true rfl) rfl rfl hk7 hv8 ?_
  refine s_alv (327688) (by simp) (fun al9 => ?_)
  have hk10 : gK G (327688) = (1, 64) := hC.1.k (by decide : cde 327688 = 508) al9
  refine s_alen dX7_numberOf_33 hk10 (by decide) (by omega) ?_
  refine s_iconst dX7_numberOf_34 (by decide) ?_
  refine s_isub dX7_numberOf_35 (by omega) ?_
  refine s_iand dX7_numberOf_36 ?_
  show WP kX7_numberOf X 37 [some (2, ((327683 : Nat) : Int)), some (0, k), some (0, x), some (0, y), some (0, z), some (0, w6), none, none, none, none] [(0, i_and (i_xor w6 (i_ushr w6 15)) (((64 : Int)) - 1))] G
  have hpl : i_and (i_xor w6 (i_ushr w6 15)) (((64 : Int)) - 1) = hsC k x y z := hsC_of hew1 hew2 hew3 hew4 hew5 hew6
  have hpb := hsC_b k x y z
  obtain ⟨hh, hhe⟩ : ∃ hh : Int, hh = hsC k x y z := ⟨_, rfl⟩
  rw [hpl, ← hhe]
  rw [← hhe] at hpb
  have h88 := hc1 hh.toNat (by omega)
  refine s_istore dX7_numberOf_37 (by decide) (lv' := [some (2, ((327683 : Nat) : Int)), some (0, k), some (0, x), some (0, y), some (0, z), some (0, w6), some (0, hh), none, none, none]) rfl ?_
  refine s_aload_n dX7_numberOf_39 rfl (Int.natCast_nonneg _) ?_
  have hv11 : gS G 327683 2 = ((327688 : Nat) : Int) := by have h9 : (gS G 327683 2) = 327688 := hC.1.v (j := 2) (by decide : cde 327683 = 503) al0 (by rw [hk7]; exact Nat.le_of_ble_eq_true rfl); omega
  refine s_getf (ci := 8) (k := 2) (C := RX7) (T := TX7) (N := 3) (n := 327683) (L := 0) (t := 2) dX7_numberOf_40 rfl wi_75 m_669 (Nat.le_of_ble_eq_true rfl) rfl rfl hk7 hv11 ?_
  refine s_iload dX7_numberOf_43 rfl ?_
  have hv12 : -1 ≤ (gS G 327688 (hh : Int).toNat) ∧ (gS G 327688 (hh : Int).toNat) ≤ 200000 := hC.1.v (j := (hh : Int).toNat) (by decide : cde 327688 = 508) al9 (by rw [hk10]; show (hh : Int).toNat < 64; omega)
  refine s_iald dX7_numberOf_45 hk10 (by omega) (by omega) rfl ?_
  refine s_istore dX7_numberOf_46 (by decide) (lv' := [some (2, ((327683 : Nat) : Int)), some (0, k), some (0, x), some (0, y), some (0, z), some (0, w6), some (0, hh), some (0, gS G 327688 ((hh : Int).toNat)), none, none]) rfl ?_
  refine s_iconst dX7_numberOf_48 (by decide) ?_
  refine s_istore dX7_numberOf_49 (by decide) (lv' := [some (2, ((327683 : Nat) : Int)), some (0, k), some (0, x), some (0, y), some (0, z), some (0, w6), some (0, hh), some (0, gS G 327688 ((hh : Int).toNat)), some (0, 0), none]) rfl ?_
  have L13 : ∀ (fu13 : Nat) (n13 : Int) (i13 : Int), (((-1 ≤ n13 ∧ n13 < gS G 327683 1) ∧ 0 ≤ i13 ∧ n13 + i13 < gS G 327683 1) ∧ (∀ t, keyC G t k x y z → ∃ m, RcC G m n13 t)) → (gS G 327683 1 - i13).toNat < fu13 → WP kX7_numberOf X 51 [some (2, ((327683 : Nat) : Int)), some (0, k), some (0, x), some (0, y), some (0, z), some (0, w6), some (0, hh), some (0, n13), some (0, i13), none] [] G := by
    intro fu13
    induction fu13 with
    | zero => intro n13 i13 hi13 hm13; exact absurd hm13 (Nat.not_lt_zero _)
    | succ fu13 ih13 =>
      intro n13 i13 hi13 hm13
      obtain ⟨in_13, ir13⟩ := hi13
      refine s_iload dX7_numberOf_51 rfl ?_
      refine s_aload_n dX7_numberOf_53 rfl (Int.natCast_nonneg _) ?_
      have hv14 : 0 ≤ (gS G 327683 1) ∧ (gS G 327683 1) ≤ 200000 := hC.1.v (j := 1) (by decide : cde 327683 = 503) al0 (by rw [hk7]; exact Nat.le_of_ble_eq_true rfl)
      refine s_getf (ci := 8) (k := 1) (C := RX7) (T := TX7) (N := 3) (n := 327683) (L := 0) (t := 0) dX7_numberOf_54 rfl wi_75 m_670 (Nat.le_of_ble_eq_true rfl) rfl rfl hk7 rfl ?_
      refine s_icmp_ge (tgt := 142) dX7_numberOf_57 (by decide) (fun c15 => ?_) (fun c15 => ?_)
      · -- 57 to 142
        refine s_iconst dX7_numberOf_142 (by decide) ?_
        refine s_aload_n dX7_numberOf_143 rfl (Int.natCast_nonneg _) ?_
        refine s_getf (ci := 8) (k := 1) (C := RX7) (T := TX7) (N := 3) (n := 327683) (L := 0) (t := 0) dX7_numberOf_144 rfl wi_75 m_670 (Nat.le_of_ble_eq_true rfl) rfl rfl hk7 rfl ?_
        refine s_imul dX7_numberOf_147 (by omega) ?_
        refine s_istore dX7_numberOf_148 (by decide) (lv' := [some (2, ((327683 : Nat) : Int)), some (0, k), some (0, x), some (0, y), some (0, z), some (0, w6), some (0, hh), some (0, n13), some (0, 5 * (gS G 327683 1)), none]) rfl ?_
        refine s_iload dX7_numberOf_150 rfl ?_
        refine s_aload_n dX7_numberOf_152 rfl (Int.natCast_nonneg _) ?_
        refine s_getf (ci := 8) (k := 0) (C := RX7) (T := TX7) (N := 3) (n := 327683) (L := 0) (t := 2) dX7_numberOf_153 rfl wi_75 m_671 (Nat.le_of_ble_eq_true rfl) rfl rfl hk7 ht1 ?_
        refine s_alen dX7_numberOf_156 ht4 (by decide) (by omega) ?_
        refine s_icmp_lt (tgt := 178) dX7_numberOf_157 (by decide) (fun c18 => ?_) (fun c18 => ?_)
        · -- 157 to 178
          have hno : ∀ t, ¬ keyC G t k x y z := fun t ht => by obtain ⟨m, hm⟩ := ir13 t ht; match m, hm with | 0, hm => exact hm | m + 1, hm => have h0 := hm.1; omega
          have hBG : (∀ z, z ≠ 327683 → cde z ≠ 507 → gS G z = gS G z) ∧ (∀ j, j < 5 * cnC G → gS G qt j.toNat = gS G qt j.toNat) ∧ gS G 327683 1 = gS G 327683 1 := ⟨fun _ _ _ => rfl, fun _ _ => rfl, rfl⟩
          have hmq : qt % 1048576 = 327687 ∧ cde qt = 507 ∧ 5 * cnC G + 5 ≤ (Lt : Int) := by omega
          refine s_aload_n dX7_numberOf_178 rfl (Int.natCast_nonneg _) ?_
          refine s_getf (ci := 8) (k := 0) (C := RX7) (T := TX7) (N := 3) (n := 327683) (L := 0) (t := 2) dX7_numberOf_179 rfl wi_75 m_671 (Nat.le_of_ble_eq_true rfl) rfl rfl hk7 ht1 ?_
          refine s_iload dX7_numberOf_182 rfl ?_
          refine s_iload_n dX7_numberOf_184 rfl ?_
          refine s_iast dX7_numberOf_185 ht4 (by omega) (by omega) ?_
          generalize eG20r : gset G qt ((5 * (gS G 327683 1) : Int).toNat) k = G20
          have eG20 := eG20r.symm
          have hCG20 : CI a b G20 := by rw [eG20]; exact hC.madeAt ht1 hmq.2.1 (by rw [show cnC G = gS G 327683 1 from hBG.2.2]; omega)
          have hXG20 : KX G G20 := KX.set KX.rf eG20
          have hFG20 : WX (fun x => x = 327683 ∨ x = 327687 ∨ x = 327688) G G20 := WX.set WX.rf eG20 (by show _; omega)
          show WP kX7_numberOf X 186 [some (2, ((327683 : Nat) : Int)), some (0, k), some (0, x), some (0, y), some (0, z), some (0, w6), some (0, hh), some (0, n13), some (0, 5 * (gS G 327683 1)), none] [] G20
          have hcwG20 : gS G20 327683 = gS G 327683 := gset_o eG20 (x := 327683) (by omega)
          have hczG20 : gS G20 327683 0 = (qt : Int) := by rw [hcwG20]; exact ht1
          have hkzG20 : gK G20 qt = (1, Lt) := by rw [eG20, gset_K]; exact ht4
          have hcnG20 : gS G20 327683 1 = gS G 327683 1 := (congrFun hcwG20 1).trans (hBG.2.2)
          refine s_aload_n dX7_numberOf_186 rfl (Int.natCast_nonneg _) ?_
          have hk21 : gK G20 (327683) = (16, 0) := ((hXG20).k hk7 (by decide))
          refine s_alv (327683) (by simp) (fun al22 => ?_)
          refine s_getf (ci := 8) (k := 0) (C := RX7) (T := TX7) (N := 3) (n := 327683) (L := 0) (t := 2) dX7_numberOf_187 rfl wi_75 m_671 (Nat.le_of_ble_eq_true rfl) rfl rfl hk21 hczG20 ?_
          refine s_iload dX7_numberOf_190 rfl ?_
          refine s_iconst dX7_numberOf_192 (by decide) ?_
          refine s_iadd dX7_numberOf_193 (by omega) ?_
          refine s_iload_n dX7_numberOf_194 rfl ?_
          refine s_iast dX7_numberOf_195 hkzG20 (by omega) (by omega) ?_
          generalize eG24r : gset G20 qt (((5 * (gS G 327683 1)) + 1 : Int).toNat) x = G24
          have eG24 := eG24r.symm
          have hCG24 : CI a b G24 := by rw [eG24]; exact hCG20.madeAt hczG20 hmq.2.1 (by rw [show cnC G20 = gS G 327683 1 from hcnG20]; omega)
          have hXG24 : KX G20 G24 := KX.set KX.rf eG24
          have hFG24 : WX (fun x => x = 327683 ∨ x = 327687 ∨ x = 327688) G G24 := WX.set hFG20 eG24 (by show _; omega)
          show WP kX7_numberOf X 196 [some (2, ((327683 : Nat) : Int)), some (0, k), some (0, x), some (0, y), some (0, z), some (0, w6), some (0, hh), some (0, n13), some (0, 5 * (gS G 327683 1)), none] [] G24
          have hcwG24 : gS G24 327683 = gS G20 327683 := gset_o eG24 (x := 327683) (by omega)
          have hczG24 : gS G24 327683 0 = (qt : Int) := by rw [hcwG24]; exact hczG20
          have hkzG24 : gK G24 qt = (1, Lt) := by rw [eG24, gset_K]; exact hkzG20
          have hcnG24 : gS G24 327683 1 = gS G 327683 1 := (congrFun hcwG24 1).trans (hcnG20)
          refine s_aload_n dX7_numberOf_196 rfl (Int.natCast_nonneg _) ?_
          have hk25 : gK G24 (327683) = (16, 0) := ((hXG24).k hk21 (by decide))
          refine s_alv (327683) (by simp) (fun al26 => ?_)
          refine s_getf (ci := 8) (k := 0) (C := RX7) (T := TX7) (N := 3) (n := 327683) (L := 0) (t := 2) dX7_numberOf_197 rfl wi_75 m_671 (Nat.le_of_ble_eq_true rfl) rfl rfl hk25 hczG24 ?_
          refine s_iload dX7_numberOf_200 rfl ?_
          refine s_iconst dX7_numberOf_202 (by decide) ?_
          refine s_iadd dX7_numberOf_203 (by omega) ?_
          refine s_iload_n dX7_numberOf_204 rfl ?_
          refine s_iast dX7_numberOf_205 hkzG24 (by omega) (by omega) ?_
          generalize eG28r : gset G24 qt (((5 * (gS G 327683 1)) + 2 : Int).toNat) y = G28
          have eG28 := eG28r.symm
          have hCG28 : CI a b G28 := by rw [eG28]; exact hCG24.madeAt hczG24 hmq.2.1 (by rw [show cnC G24 = gS G 327683 1 from hcnG24]; omega)
          have hXG28 : KX G24 G28 := KX.set KX.rf eG28
          have hFG28 : WX (fun x => x = 327683 ∨ x = 327687 ∨ x = 327688) G G28 := WX.set hFG24 eG28 (by show _; omega)
          show WP kX7_numberOf X 206 [some (2, ((327683 : Nat) : Int)), some (0, k), some (0, x), some (0, y), some (0, z), some (0, w6), some (0, hh), some (0, n13), some (0, 5 * (gS G 327683 1)), none] [] G28
          have hcwG28 : gS G28 327683 = gS G24 327683 := gset_o eG28 (x := 327683) (by omega)
          have hczG28 : gS G28 327683 0 = (qt : Int) := by rw [hcwG28]; exact hczG24
          have hkzG28 : gK G28 qt = (1, Lt) := by rw [eG28, gset_K]; exact hkzG24
          have hcnG28 : gS G28 327683 1 = gS G 327683 1 := (congrFun hcwG28 1).trans (hcnG24)
          refine s_aload_n dX7_numberOf_206 rfl (Int.natCast_nonneg _) ?_
          have hk29 : gK G28 (327683) = (16, 0) := ((hXG28).k hk25 (by decide))
          refine s_alv (327683) (by simp) (fun al30 => ?_)
          refine s_getf (ci := 8) (k := 0) (C := RX7) (T := TX7) (N := 3) (n := 327683) (L := 0) (t := 2) dX7_numberOf_207 rfl wi_75 m_671 (Nat.le_of_ble_eq_true rfl) rfl rfl hk29 hczG28 ?_
          refine s_iload dX7_numberOf_210 rfl ?_
          refine s_iconst dX7_numberOf_212 (by decide) ?_
          refine s_iadd dX7_numberOf_213 (by omega) ?_
          refine s_iload dX7_numberOf_214 rfl ?_
          refine s_iast dX7_numberOf_216 hkzG28 (by omega) (by omega) ?_
          generalize eG32r : gset G28 qt (((5 * (gS G 327683 1)) + 3 : Int).toNat) z = G32
          have eG32 := eG32r.symm
          have hCG32 : CI a b G32 := by rw [eG32]; exact hCG28.madeAt hczG28 hmq.2.1 (by rw [show cnC G28 = gS G 327683 1 from hcnG28]; omega)
          have hXG32 : KX G28 G32 := KX.set KX.rf eG32
          have hFG32 : WX (fun x => x = 327683 ∨ x = 327687 ∨ x = 327688) G G32 := WX.set hFG28 eG32 (by show _; omega)
          show WP kX7_numberOf X 217 [some (2, ((327683 : Nat) : Int)), some (0, k), some (0, x), some (0, y), some (0, z), some (0, w6), some (0, hh), some (0, n13), some (0, 5 * (gS G 327683 1)), none] [] G32
          have hcwG32 : gS G32 327683 = gS G28 327683 := gset_o eG32 (x := 327683) (by omega)
          have hczG32 : gS G32 327683 0 = (qt : Int) := by rw [hcwG32]; exact hczG28
          have hkzG32 : gK G32 qt = (1, Lt) := by rw [eG32, gset_K]; exact hkzG28
          have hcnG32 : gS G32 327683 1 = gS G 327683 1 := (congrFun hcwG32 1).trans (hcnG28)
          refine s_aload_n dX7_numberOf_217 rfl (Int.natCast_nonneg _) ?_
          have hk33 : gK G32 (327683) = (16, 0) := ((hXG32).k hk29 (by decide))
          refine s_alv (327683) (by simp) (fun al34 => ?_)
          refine s_getf (ci := 8) (k := 0) (C := RX7) (T := TX7) (N := 3) (n := 327683) (L := 0) (t := 2) dX7_numberOf_218 rfl wi_75 m_671 (Nat.le_of_ble_eq_true rfl) rfl rfl hk33 hczG32 ?_
          refine s_iload dX7_numberOf_221 rfl ?_
          refine s_iconst dX7_numberOf_223 (by decide) ?_
          refine s_iadd dX7_numberOf_224 (by omega) ?_
          refine s_aload_n dX7_numberOf_225 rfl (Int.natCast_nonneg _) ?_
          have hv36 : gS G32 327683 2 = ((327688 : Nat) : Int) := by have h9 : (gS G32 327683 2) = 327688 := hCG32.1.v (j := 2) (by decide : cde 327683 = 503) al34 (by rw [hk33]; exact Nat.le_of_ble_eq_true rfl); omega
          refine s_getf (ci := 8) (k := 2) (C := RX7) (T := TX7) (N := 3) (n := 327683) (L := 0) (t := 2) dX7_numberOf_226 rfl wi_75 m_669 (Nat.le_of_ble_eq_true rfl) rfl rfl hk33 hv36 ?_
          refine s_iload dX7_numberOf_229 rfl ?_
          have hk37 : gK G32 (327688) = (1, 64) := ((hXG32).k ((hXG28).k ((hXG24).k ((hXG20).k hk10 (by decide)) (by decide)) (by decide)) (by decide))
          refine s_alv (327688) (by simp) (fun al38 => ?_)
          have hv39 : -1 ≤ (gS G32 327688 (hh : Int).toNat) ∧ (gS G32 327688 (hh : Int).toNat) ≤ 200000 := hCG32.1.v (j := (hh : Int).toNat) (by decide : cde 327688 = 508) al38 (by rw [hk37]; show (hh : Int).toNat < 64; omega)
          refine s_iald dX7_numberOf_231 hk37 (by omega) (by omega) rfl ?_
          refine s_iast dX7_numberOf_232 hkzG32 (by omega) (by omega) ?_
          generalize eG40r : gset G32 qt (((5 * (gS G 327683 1)) + 4 : Int).toNat) (gS G32 327688 ((hh : Int).toNat)) = G40
          have eG40 := eG40r.symm
          have hCG40 : CI a b G40 := by rw [eG40]; exact hCG32.madeAt hczG32 hmq.2.1 (by rw [show cnC G32 = gS G 327683 1 from hcnG32]; omega)
          have hXG40 : KX G32 G40 := KX.set KX.rf eG40
          have hFG40 : WX (fun x => x = 327683 ∨ x = 327687 ∨ x = 327688) G G40 := WX.set hFG32 eG40 (by show _; omega)
          show WP kX7_numberOf X 233 [some (2, ((327683 : Nat) : Int)), some (0, k), some (0, x), some (0, y), some (0, z), some (0, w6), some (0, hh), some (0, n13), some (0, 5 * (gS G 327683 1)), none] [] G40
          have hcwG40 : gS G40 327683 = gS G32 327683 := gset_o eG40 (x := 327683) (by omega)
          have hczG40 : gS G40 327683 0 = (qt : Int) := by rw [hcwG40]; exact hczG32
          have hkzG40 : gK G40 qt = (1, Lt) := by rw [eG40, gset_K]; exact hkzG32
          have hcnG40 : gS G40 327683 1 = gS G 327683 1 := (congrFun hcwG40 1).trans (hcnG32)
          refine s_aload_n dX7_numberOf_233 rfl (Int.natCast_nonneg _) ?_
          have hk41 : gK G40 (327683) = (16, 0) := ((hXG40).k hk33 (by decide))
          refine s_alv (327683) (by simp) (fun al42 => ?_)
          have hv43 : gS G40 327683 2 = ((327688 : Nat) : Int) := by have h9 : (gS G40 327683 2) = 327688 := hCG40.1.v (j := 2) (by decide : cde 327683 = 503) al42 (by rw [hk41]; exact Nat.le_of_ble_eq_true rfl); omega
          refine s_getf (ci := 8) (k := 2) (C := RX7) (T := TX7) (N := 3) (n := 327683) (L := 0) (t := 2) dX7_numberOf_234 rfl wi_75 m_669 (Nat.le_of_ble_eq_true rfl) rfl rfl hk41 hv43 ?_
          refine s_iload dX7_numberOf_237 rfl ?_
          refine s_aload_n dX7_numberOf_239 rfl (Int.natCast_nonneg _) ?_
          have hv44 : 0 ≤ (gS G40 327683 1) ∧ (gS G40 327683 1) ≤ 200000 := hCG40.1.v (j := 1) (by decide : cde 327683 = 503) al42 (by rw [hk41]; exact Nat.le_of_ble_eq_true rfl)
          refine s_getf (ci := 8) (k := 1) (C := RX7) (T := TX7) (N := 3) (n := 327683) (L := 0) (t := 0) dX7_numberOf_240 rfl wi_75 m_670 (Nat.le_of_ble_eq_true rfl) rfl rfl hk41 rfl ?_
          have hk45 : gK G40 (327688) = (1, 64) := ((hXG40).k hk37 (by decide))
          refine s_iast dX7_numberOf_243 hk45 (by omega) (by omega) ?_
          refine s_aload_n dX7_numberOf_244 rfl (Int.natCast_nonneg _) ?_
          refine s_dup dX7_numberOf_245 (by decide) ?_
          refine s_getf (ci := 8) (k := 1) (C := RX7) (T := TX7) (N := 3) (n := 327683) (L := 0) (t := 0) dX7_numberOf_246 rfl wi_75 m_670 (Nat.le_of_ble_eq_true rfl) rfl rfl (by rw [gset_K]; exact hk41) (show gS (gset G40 327688 hh.toNat (gS G40 327683 1)) 327683 1 = gS G 327683 1 from by rw [gset_ne _ _ (fun w => absurd w.1 (by decide))]; exact hcnG40) ?_
          refine s_iconst dX7_numberOf_249 (by decide) ?_
          refine s_iadd dX7_numberOf_250 (by omega) ?_
          refine s_putf (ci := 8) (k := 1) (C := RX7) (T := TX7) (N := 3) (n := 327683) (L := 0) dX7_numberOf_251 rfl wi_75 m_670 (Nat.le_of_ble_eq_true rfl) rfl rfl tyX7_ok nmX7 rfl (Or.inl rfl) (by rw [gset_K]; exact hk41) ?_
          generalize eG46r : gset (gset G40 327688 hh.toNat (gS G40 327683 1)) 327683 1 (gS G 327683 1 + 1) = G46
          have eG46 := eG46r.symm
          have hcnG40x : cnC G40 = gS G 327683 1 := hcnG40
          have hv9 : ∀ i : Nat, i < 5 → tbC G40 (cnC G) i = gS G40 qt (5 * gS G 327683 1 + i).toNat := fun i _ => by unfold tbC; rw [hczG40, Int.toNat_natCast]; rfl
          have hw0 : gS G40 qt (5 * gS G 327683 1).toNat = k := by rw [show gS G40 qt (5 * gS G 327683 1).toNat = gS G32 qt (5 * gS G 327683 1).toNat from by rw [eG40]; exact gset_ne _ _ (fun w => by omega)]; rw [show gS G32 qt (5 * gS G 327683 1).toNat = gS G28 qt (5 * gS G 327683 1).toNat from by rw [eG32]; exact gset_ne _ _ (fun w => by omega)]; rw [show gS G28 qt (5 * gS G 327683 1).toNat = gS G24 qt (5 * gS G 327683 1).toNat from by rw [eG28]; exact gset_ne _ _ (fun w => by omega)]; rw [show gS G24 qt (5 * gS G 327683 1).toNat = gS G20 qt (5 * gS G 327683 1).toNat from by rw [eG24]; exact gset_ne _ _ (fun w => by omega)]; exact gsaE eG20
          have hw1 : gS G40 qt (5 * gS G 327683 1 + 1).toNat = x := by rw [show gS G40 qt (5 * gS G 327683 1 + 1).toNat = gS G32 qt (5 * gS G 327683 1 + 1).toNat from by rw [eG40]; exact gset_ne _ _ (fun w => by omega)]; rw [show gS G32 qt (5 * gS G 327683 1 + 1).toNat = gS G28 qt (5 * gS G 327683 1 + 1).toNat from by rw [eG32]; exact gset_ne _ _ (fun w => by omega)]; rw [show gS G28 qt (5 * gS G 327683 1 + 1).toNat = gS G24 qt (5 * gS G 327683 1 + 1).toNat from by rw [eG28]; exact gset_ne _ _ (fun w => by omega)]; exact gsaE eG24
          have hw2 : gS G40 qt (5 * gS G 327683 1 + 2).toNat = y := by rw [show gS G40 qt (5 * gS G 327683 1 + 2).toNat = gS G32 qt (5 * gS G 327683 1 + 2).toNat from by rw [eG40]; exact gset_ne _ _ (fun w => by omega)]; rw [show gS G32 qt (5 * gS G 327683 1 + 2).toNat = gS G28 qt (5 * gS G 327683 1 + 2).toNat from by rw [eG32]; exact gset_ne _ _ (fun w => by omega)]; exact gsaE eG28
          have hw3 : gS G40 qt (5 * gS G 327683 1 + 3).toNat = z := by rw [show gS G40 qt (5 * gS G 327683 1 + 3).toNat = gS G32 qt (5 * gS G 327683 1 + 3).toNat from by rw [eG40]; exact gset_ne _ _ (fun w => by omega)]; exact gsaE eG32
          have hw4 : gS G40 qt (5 * gS G 327683 1 + 4).toNat = gS G 327688 hh.toNat := by exact (gsaE eG40).trans (by first | rfl | (exact congrFun ((gset_o eG32 (x := 327688) (by omega)).trans ((gset_o eG28 (x := 327688) (by omega)).trans ((gset_o eG24 (x := 327688) (by omega)).trans ((gset_o eG20 (x := 327688) (by omega)).trans (hBG.1 327688 (by decide) (by decide)))))) _))
          have hlow : ∀ j : Int, 0 ≤ j → j < 5 * gS G 327683 1 → gS G40 qt j.toNat = gS G qt j.toNat := fun j j0 j1 => by rw [show gS G40 qt j.toNat = gS G32 qt j.toNat from by rw [eG40]; exact gset_ne _ _ (fun w => by omega)]; rw [show gS G32 qt j.toNat = gS G28 qt j.toNat from by rw [eG32]; exact gset_ne _ _ (fun w => by omega)]; rw [show gS G28 qt j.toNat = gS G24 qt j.toNat from by rw [eG28]; exact gset_ne _ _ (fun w => by omega)]; rw [show gS G24 qt j.toNat = gS G20 qt j.toNat from by rw [eG24]; exact gset_ne _ _ (fun w => by omega)]; rw [show gS G20 qt j.toNat = gS G qt j.toNat from by rw [eG20]; exact gset_ne _ _ (fun w => by omega)]; all_goals (exact hBG.2.1 j (by omega))
          have hoth : ∀ w, w ≠ 327683 → cde w ≠ 507 → gS G40 w = gS G w := fun w w1 w2 => by rw [gset_o eG40 (x := w) (fun q9 => w2 (by rw [q9]; exact hmq.2.1))]; rw [gset_o eG32 (x := w) (fun q9 => w2 (by rw [q9]; exact hmq.2.1))]; rw [gset_o eG28 (x := w) (fun q9 => w2 (by rw [q9]; exact hmq.2.1))]; rw [gset_o eG24 (x := w) (fun q9 => w2 (by rw [q9]; exact hmq.2.1))]; rw [gset_o eG20 (x := w) (fun q9 => w2 (by rw [q9]; exact hmq.2.1))]; all_goals (exact hBG.1 w w1 w2)
          have h84 : tbC G40 (cnC G40) 4 = gS G 327688 hh.toNat := by rw [hcnG40x, ← hcq]; exact (hv9 4 (by decide)).trans ((congrArg (fun z : Int => gS G40 qt z.toNat) (by omega)).trans hw4)
          have hCG46 : CI a b G46 := by rw [eG46, ← hcnG40x]; exact hCG40.thing2 hczG40 hkzG40 (by omega) (by omega) (by omega) (by omega) (by rw [h84, hcnG40x]; exact h88)
          have hXG46 : KX G40 G46 := KX.of (by rw [eG46]; rfl)
          have hFG46 : WX (fun x => x = 327683 ∨ x = 327687 ∨ x = 327688) G G46 := WX.set (WX.set hFG40 rfl (by show _; decide)) eG46 (by show _; decide)
          have hfin : ∀ w y9, w ≠ 327683 → w ≠ 327688 → gS G46 w y9 = gS G40 w y9 := fun w y9 w1 w2 => by rw [eG46, gset_ne _ _ (fun q9 => w1 q9.1), gset_ne _ _ (fun q9 => w2 q9.1)]
          have hf0 : gS G46 327683 0 = (qt : Int) := by rw [eG46, gset_ne _ _ (fun q9 => absurd q9.2 (by decide)), gset_ne _ _ (fun q9 => absurd q9.1 (by decide))]; exact hczG40
          have hqn : qt ≠ 327683 ∧ qt ≠ 327688 := by omega
          have htb : ∀ (t : Int) (i : Nat), tbC G46 t i = gS G40 qt (5 * t + i).toNat := fun t i => by unfold tbC; rw [hf0, Int.toNat_natCast]; exact hfin _ _ hqn.1 hqn.2
          have hec : cnC G46 = cnC G + 1 := gsaE eG46
          have he8 : ∀ q9, gS G46 327688 q9 = if q9 = hh.toNat then cnC G else gS G 327688 q9 := fun q9 => by rw [eG46, gset_ne _ _ (fun q9 => absurd q9.1 (by decide)), gset_eq, hoth 327688 (by decide) (by decide)]; by_cases w : q9 = hh.toNat; (rw [if_pos ⟨rfl, w⟩, if_pos w]; first | rfl | exact hcnG40x); (rw [if_neg (fun w2 => w w2.2), if_neg w])
          have hNe := NeC.of (G' := G46) hC hND (fun w w1 w2 w3 => by funext y9; rw [hfin w y9 w1 w2, hoth w w1 w3])
          obtain ⟨r1, r2, r3⟩ := thC_new (p := hh.toNat) hTH hv hA hno hec (fun t i t0 t1 hi => by rw [htb, ht9]; exact hlow (5 * t + i) (by omega) (by omega)) ⟨(htb _ 0).trans ((congrArg (fun z : Int => gS G40 qt z.toNat) (by omega)).trans hw0), (htb _ 1).trans ((congrArg (fun z : Int => gS G40 qt z.toNat) (by omega)).trans hw1), (htb _ 2).trans ((congrArg (fun z : Int => gS G40 qt z.toNat) (by omega)).trans hw2), (htb _ 3).trans ((congrArg (fun z : Int => gS G40 qt z.toNat) (by omega)).trans hw3), (htb _ 4).trans ((congrArg (fun z : Int => gS G40 qt z.toNat) (by omega)).trans hw4)⟩ he8 (by rw [hhe]) hNe.1 hNe.2
          show WP kX7_numberOf X 254 [some (2, ((327683 : Nat) : Int)), some (0, k), some (0, x), some (0, y), some (0, z), some (0, w6), some (0, hh), some (0, n13), some (0, 5 * (gS G 327683 1)), none] [] G46
          refine s_aload_n dX7_numberOf_254 rfl (Int.natCast_nonneg _) ?_
          refine s_alv (327683) (by simp) (fun al48 => ?_)
          have hv47 : 0 ≤ (gS G46 327683 1) ∧ (gS G46 327683 1) ≤ 200000 := hCG46.1.v (j := 1) (by decide : cde 327683 = 503) al48 (by rw [(hXG46.k hk41 (by decide))]; exact Nat.le_of_ble_eq_true rfl)
          refine s_getf (ci := 8) (k := 1) (C := RX7) (T := TX7) (N := 3) (n := 327683) (L := 0) (t := 0) dX7_numberOf_255 rfl wi_75 m_670 (Nat.le_of_ble_eq_true rfl) rfl rfl (hXG46.k hk41 (by decide)) (gsaE eG46) ?_
          refine s_iconst dX7_numberOf_258 (by decide) ?_
          refine s_isub dX7_numberOf_259 (by omega) ?_
          exact s_iret hR dX7_numberOf_260 rfl (hQ ((gS G 327683 1 + 1) - 1) G46 hCG46 (KX.trans (KX.trans (KX.trans (KX.trans (KX.trans hXG20 hXG24) hXG28) hXG32) hXG40) hXG46) hFG46 ⟨r1, r2, by rw [show (gS G 327683 1 + 1) - 1 = cnC G by omega]; exact r3⟩)
        · -- 157 to 160
          refine s_aload_n dX7_numberOf_160 rfl (Int.natCast_nonneg _) ?_
          refine s_aload_n dX7_numberOf_161 rfl (Int.natCast_nonneg _) ?_
          refine s_getf (ci := 8) (k := 0) (C := RX7) (T := TX7) (N := 3) (n := 327683) (L := 0) (t := 2) dX7_numberOf_162 rfl wi_75 m_671 (Nat.le_of_ble_eq_true rfl) rfl rfl hk7 ht1 ?_
          refine s_iconst dX7_numberOf_165 (by decide) ?_
          refine s_aload_n dX7_numberOf_166 rfl (Int.natCast_nonneg _) ?_
          refine s_getf (ci := 8) (k := 0) (C := RX7) (T := TX7) (N := 3) (n := 327683) (L := 0) (t := 2) dX7_numberOf_167 rfl wi_75 m_671 (Nat.le_of_ble_eq_true rfl) rfl rfl hk7 ht1 ?_
          refine s_alen dX7_numberOf_170 ht4 (by decide) (by omega) ?_
          refine s_imul dX7_numberOf_171 (by omega) ?_
          obtain ⟨nm, hnm⟩ : ∃ nm : Nat, nm = 327687 + 1048576 * (1 + gc G) := ⟨_, rfl⟩
          have hnd : (gK G nm).1 = 0 := hC.2.2.2.2.2.2.2.2.2.1.1 nm (by omega)
          obtain ⟨G51, eG51⟩ : ∃ g9 : LG, g9 = gset (gcpy (gnew G nm 1 (2 * (((Lt : Nat) : Int)) : Int).toNat (2 * (((Lt : Nat) : Int)) : Int).toNat (fun _ => 0)) qt 0 nm 0 (if (2 * (((Lt : Nat) : Int))) < (Lt : Int) then 2 * (((Lt : Nat) : Int)) else (Lt : Int)).toNat) 327683 0 (nm : Int) := ⟨_, rfl⟩
          have hqn9 : qt ≠ nm := fun z => by rw [z] at ht4; rw [ht4] at hnd; exact Nat.succ_ne_zero _ hnd
          have hif : (if (2 * (((Lt : Nat) : Int))) < (Lt : Int) then 2 * (((Lt : Nat) : Int)) else (Lt : Int)).toNat = Lt := by rw [if_neg (by omega)]; omega
          have hXG51 : KX G G51 := KX.set (KX.cpy (KX.new KX.rf rfl hnd) rfl) eG51
          have hjG51 : ∀ j, j ≠ 0 → gS G51 327683 j = gS G 327683 j := fun j hj => by rw [eG51, gset_ne _ _ (fun z => hj z.2), gcpy_ne _ (by omega), gnew_ne _ _ _ _ _ (by omega)]
          have hsG51 : gS G51 327683 1 = gS G 327683 1 := hjG51 1 (by decide)
          have hzG51 : ∀ z, z ≠ nm → z ≠ 327683 → gS G51 z = gS G z := fun z z1 z2 => by rw [eG51]; funext y; rw [gset_ne _ _ (fun w => z2 w.1), gcpy_ne _ z1, gnew_ne _ _ _ _ _ z1]
          have hyG51 : ∀ j, j < Lt → gS G51 nm j = gS G qt j := fun j hj => by rw [eG51, gset_ne _ _ (fun w => by omega), hif, gcpy_at, if_pos ⟨by omega, by omega⟩, gnew_ne _ _ _ _ _ hqn9]; congr 1; omega
          have hCG51 : CI a b G51 := hC.growThings (M := (2 * (((Lt : Nat) : Int)) : Int).toNat) (kne hk7 (by decide)) ht1 ht4 (by omega) (by omega) hnm hzG51 (gsaE eG51) hjG51 (by rw [eG51]; rfl) (by rw [eG51]; rfl) (by rw [eG51]; rfl) hyG51
          have hroom := hCG51.room
          have hgsG51 : gs G51 = gs G + (2 * (((Lt : Nat) : Int)) : Int).toNat := by rw [eG51]; rfl
          have hgcG51 : gc G51 = gc G + 1 := by rw [eG51]; rfl
          refine s_callS2 (as := [(2, ((qt : Nat) : Int)), (0, 2 * (((Lt : Nat) : Int)))]) (rest := [(2, ((327683 : Nat) : Int))]) gJ7_copyOf_59c91 dX7_numberOf_172 m_1415 m_1748 m_705 m_43 ⟨by decide, by decide, show (parseMethodDescriptor yJ7_copyOf_59c91.desc).map (fun d => d.parameters.length) = some 2 from by decide +kernel⟩ (Nat.le_of_ble_eq_true rfl) (by rw [hcf]; exact Nat.le_of_ble_eq_true rfl) rfl (Nat.le_of_ble_eq_true rfl) ⟨qt, Lt, nm, 2 * (((Lt : Nat) : Int)), rfl, ht4, by omega, ⟨by omega, by omega, by omega⟩, hnd, by omega, by omega, ?_⟩
          refine s_putf (ci := 8) (k := 0) (C := RX7) (T := TX7) (N := 3) (n := 327683) (L := 0) dX7_numberOf_175 rfl wi_75 m_671 (Nat.le_of_ble_eq_true rfl) rfl rfl tyX7_ok nmX7 rfl (Or.inr (Or.inr (Or.inr (Or.inr ⟨_, rfl⟩)))) (by rw [gcpy_K, gnew_Kne _ _ _ _ _ (by omega)]; exact hk7) ?_
          rw [← eG51]
          have hFG51 : WX (fun x => x = 327683 ∨ x = 327687 ∨ x = 327688) G G51 := WX.set (WX.cpy (WX.new WX.rf KX.rf rfl hnd) rfl (by show _; omega)) eG51 (by show _; decide)
          have hqG51 : gS G51 327683 0 = (nm : Int) := gsaE eG51
          have hkG51 : gK G51 nm = (1, (2 * (((Lt : Nat) : Int)) : Int).toNat) := by rw [eG51, gset_K, gcpy_K]; exact gnew_K _ _ _ _ _ _
          have hmz : nm % 1048576 = 327687 := by omega
          have hmc : cde nm = 507 := (cde_mod (y := 327687) (by omega) (by decide)).trans (by decide)
          have hko52 : gK G51 327683 = (16, 0) := hXG51.k hk7 (by decide)
          show WP kX7_numberOf X 178 [some (2, ((327683 : Nat) : Int)), some (0, k), some (0, x), some (0, y), some (0, z), some (0, w6), some (0, hh), some (0, n13), some (0, 5 * (gS G 327683 1)), none] [] G51
          have hno : ∀ t, ¬ keyC G t k x y z := fun t ht => by obtain ⟨m, hm⟩ := ir13 t ht; match m, hm with | 0, hm => exact hm | m + 1, hm => have h0 := hm.1; omega
          have hBG51 : (∀ z, z ≠ 327683 → cde z ≠ 507 → gS G51 z = gS G z) ∧ (∀ j, j < 5 * cnC G → gS G51 nm j.toNat = gS G qt j.toNat) ∧ gS G51 327683 1 = gS G 327683 1 := ⟨fun z z1 z2 => hzG51 z (fun w => z2 (by rw [w]; exact hmc)) z1, fun j hj => hyG51 j.toNat (by omega), hsG51⟩
          have hmq : nm % 1048576 = 327687 ∧ cde nm = 507 ∧ 5 * cnC G + 5 ≤ ((2 * (((Lt : Nat) : Int)) : Int).toNat : Int) := by omega
          refine s_aload_n dX7_numberOf_178 rfl (Int.natCast_nonneg _) ?_
          refine s_alv (327683) (by simp) (fun al53 => ?_)
          refine s_getf (ci := 8) (k := 0) (C := RX7) (T := TX7) (N := 3) (n := 327683) (L := 0) (t := 2) dX7_numberOf_179 rfl wi_75 m_671 (Nat.le_of_ble_eq_true rfl) rfl rfl hko52 hqG51 ?_
          refine s_iload dX7_numberOf_182 rfl ?_
          refine s_iload_n dX7_numberOf_184 rfl ?_
          refine s_iast dX7_numberOf_185 hkG51 (by omega) (by omega) ?_
          generalize eG55r : gset G51 nm ((5 * (gS G 327683 1) : Int).toNat) k = G55
          have eG55 := eG55r.symm
          have hCG55 : CI a b G55 := by rw [eG55]; exact hCG51.madeAt hqG51 hmq.2.1 (by rw [show cnC G51 = gS G 327683 1 from hBG51.2.2]; omega)
          have hXG55 : KX G51 G55 := KX.set KX.rf eG55
          have hFG55 : WX (fun x => x = 327683 ∨ x = 327687 ∨ x = 327688) G G55 := WX.set hFG51 eG55 (by show _; omega)
          show WP kX7_numberOf X 186 [some (2, ((327683 : Nat) : Int)), some (0, k), some (0, x), some (0, y), some (0, z), some (0, w6), some (0, hh), some (0, n13), some (0, 5 * (gS G 327683 1)), none] [] G55
          have hcwG55 : gS G55 327683 = gS G51 327683 := gset_o eG55 (x := 327683) (by omega)
          have hczG55 : gS G55 327683 0 = (nm : Int) := by rw [hcwG55]; exact hqG51
          have hkzG55 : gK G55 nm = (1, (2 * (((Lt : Nat) : Int)) : Int).toNat) := by rw [eG55, gset_K]; exact hkG51
          have hcnG55 : gS G55 327683 1 = gS G 327683 1 := (congrFun hcwG55 1).trans (hBG51.2.2)
          refine s_aload_n dX7_numberOf_186 rfl (Int.natCast_nonneg _) ?_
          have hk56 : gK G55 (327683) = (16, 0) := ((hXG55).k hko52 (by decide))
          refine s_alv (327683) (by simp) (fun al57 => ?_)
          refine s_getf (ci := 8) (k := 0) (C := RX7) (T := TX7) (N := 3) (n := 327683) (L := 0) (t := 2) dX7_numberOf_187 rfl wi_75 m_671 (Nat.le_of_ble_eq_true rfl) rfl rfl hk56 hczG55 ?_
          refine s_iload dX7_numberOf_190 rfl ?_
          refine s_iconst dX7_numberOf_192 (by decide) ?_
          refine s_iadd dX7_numberOf_193 (by omega) ?_
          refine s_iload_n dX7_numberOf_194 rfl ?_
          refine s_iast dX7_numberOf_195 hkzG55 (by omega) (by omega) ?_
          generalize eG59r : gset G55 nm (((5 * (gS G 327683 1)) + 1 : Int).toNat) x = G59
          have eG59 := eG59r.symm
          have hCG59 : CI a b G59 := by rw [eG59]; exact hCG55.madeAt hczG55 hmq.2.1 (by rw [show cnC G55 = gS G 327683 1 from hcnG55]; omega)
          have hXG59 : KX G55 G59 := KX.set KX.rf eG59
          have hFG59 : WX (fun x => x = 327683 ∨ x = 327687 ∨ x = 327688) G G59 := WX.set hFG55 eG59 (by show _; omega)
          show WP kX7_numberOf X 196 [some (2, ((327683 : Nat) : Int)), some (0, k), some (0, x), some (0, y), some (0, z), some (0, w6), some (0, hh), some (0, n13), some (0, 5 * (gS G 327683 1)), none] [] G59
          have hcwG59 : gS G59 327683 = gS G55 327683 := gset_o eG59 (x := 327683) (by omega)
          have hczG59 : gS G59 327683 0 = (nm : Int) := by rw [hcwG59]; exact hczG55
          have hkzG59 : gK G59 nm = (1, (2 * (((Lt : Nat) : Int)) : Int).toNat) := by rw [eG59, gset_K]; exact hkzG55
          have hcnG59 : gS G59 327683 1 = gS G 327683 1 := (congrFun hcwG59 1).trans (hcnG55)
          refine s_aload_n dX7_numberOf_196 rfl (Int.natCast_nonneg _) ?_
          have hk60 : gK G59 (327683) = (16, 0) := ((hXG59).k hk56 (by decide))
          refine s_alv (327683) (by simp) (fun al61 => ?_)
          refine s_getf (ci := 8) (k := 0) (C := RX7) (T := TX7) (N := 3) (n := 327683) (L := 0) (t := 2) dX7_numberOf_197 rfl wi_75 m_671 (Nat.le_of_ble_eq_true rfl) rfl rfl hk60 hczG59 ?_
          refine s_iload dX7_numberOf_200 rfl ?_
          refine s_iconst dX7_numberOf_202 (by decide) ?_
          refine s_iadd dX7_numberOf_203 (by omega) ?_
          refine s_iload_n dX7_numberOf_204 rfl ?_
          refine s_iast dX7_numberOf_205 hkzG59 (by omega) (by omega) ?_
          generalize eG63r : gset G59 nm (((5 * (gS G 327683 1)) + 2 : Int).toNat) y = G63
          have eG63 := eG63r.symm
          have hCG63 : CI a b G63 := by rw [eG63]; exact hCG59.madeAt hczG59 hmq.2.1 (by rw [show cnC G59 = gS G 327683 1 from hcnG59]; omega)
          have hXG63 : KX G59 G63 := KX.set KX.rf eG63
          have hFG63 : WX (fun x => x = 327683 ∨ x = 327687 ∨ x = 327688) G G63 := WX.set hFG59 eG63 (by show _; omega)
          show WP kX7_numberOf X 206 [some (2, ((327683 : Nat) : Int)), some (0, k), some (0, x), some (0, y), some (0, z), some (0, w6), some (0, hh), some (0, n13), some (0, 5 * (gS G 327683 1)), none] [] G63
          have hcwG63 : gS G63 327683 = gS G59 327683 := gset_o eG63 (x := 327683) (by omega)
          have hczG63 : gS G63 327683 0 = (nm : Int) := by rw [hcwG63]; exact hczG59
          have hkzG63 : gK G63 nm = (1, (2 * (((Lt : Nat) : Int)) : Int).toNat) := by rw [eG63, gset_K]; exact hkzG59
          have hcnG63 : gS G63 327683 1 = gS G 327683 1 := (congrFun hcwG63 1).trans (hcnG59)
          refine s_aload_n dX7_numberOf_206 rfl (Int.natCast_nonneg _) ?_
          have hk64 : gK G63 (327683) = (16, 0) := ((hXG63).k hk60 (by decide))
          refine s_alv (327683) (by simp) (fun al65 => ?_)
          refine s_getf (ci := 8) (k := 0) (C := RX7) (T := TX7) (N := 3) (n := 327683) (L := 0) (t := 2) dX7_numberOf_207 rfl wi_75 m_671 (Nat.le_of_ble_eq_true rfl) rfl rfl hk64 hczG63 ?_
          refine s_iload dX7_numberOf_210 rfl ?_
          refine s_iconst dX7_numberOf_212 (by decide) ?_
          refine s_iadd dX7_numberOf_213 (by omega) ?_
          refine s_iload dX7_numberOf_214 rfl ?_
          refine s_iast dX7_numberOf_216 hkzG63 (by omega) (by omega) ?_
          generalize eG67r : gset G63 nm (((5 * (gS G 327683 1)) + 3 : Int).toNat) z = G67
          have eG67 := eG67r.symm
          have hCG67 : CI a b G67 := by rw [eG67]; exact hCG63.madeAt hczG63 hmq.2.1 (by rw [show cnC G63 = gS G 327683 1 from hcnG63]; omega)
          have hXG67 : KX G63 G67 := KX.set KX.rf eG67
          have hFG67 : WX (fun x => x = 327683 ∨ x = 327687 ∨ x = 327688) G G67 := WX.set hFG63 eG67 (by show _; omega)
          show WP kX7_numberOf X 217 [some (2, ((327683 : Nat) : Int)), some (0, k), some (0, x), some (0, y), some (0, z), some (0, w6), some (0, hh), some (0, n13), some (0, 5 * (gS G 327683 1)), none] [] G67
          have hcwG67 : gS G67 327683 = gS G63 327683 := gset_o eG67 (x := 327683) (by omega)
          have hczG67 : gS G67 327683 0 = (nm : Int) := by rw [hcwG67]; exact hczG63
          have hkzG67 : gK G67 nm = (1, (2 * (((Lt : Nat) : Int)) : Int).toNat) := by rw [eG67, gset_K]; exact hkzG63
          have hcnG67 : gS G67 327683 1 = gS G 327683 1 := (congrFun hcwG67 1).trans (hcnG63)
          refine s_aload_n dX7_numberOf_217 rfl (Int.natCast_nonneg _) ?_
          have hk68 : gK G67 (327683) = (16, 0) := ((hXG67).k hk64 (by decide))
          refine s_alv (327683) (by simp) (fun al69 => ?_)
          refine s_getf (ci := 8) (k := 0) (C := RX7) (T := TX7) (N := 3) (n := 327683) (L := 0) (t := 2) dX7_numberOf_218 rfl wi_75 m_671 (Nat.le_of_ble_eq_true rfl) rfl rfl hk68 hczG67 ?_
          refine s_iload dX7_numberOf_221 rfl ?_
          refine s_iconst dX7_numberOf_223 (by decide) ?_
          refine s_iadd dX7_numberOf_224 (by omega) ?_
          refine s_aload_n dX7_numberOf_225 rfl (Int.natCast_nonneg _) ?_
          have hv71 : gS G67 327683 2 = ((327688 : Nat) : Int) := by have h9 : (gS G67 327683 2) = 327688 := hCG67.1.v (j := 2) (by decide : cde 327683 = 503) al69 (by rw [hk68]; exact Nat.le_of_ble_eq_true rfl); omega
          refine s_getf (ci := 8) (k := 2) (C := RX7) (T := TX7) (N := 3) (n := 327683) (L := 0) (t := 2) dX7_numberOf_226 rfl wi_75 m_669 (Nat.le_of_ble_eq_true rfl) rfl rfl hk68 hv71 ?_
          refine s_iload dX7_numberOf_229 rfl ?_
          have hk72 : gK G67 (327688) = (1, 64) := ((hXG67).k ((hXG63).k ((hXG59).k ((hXG55).k ((hXG51).k hk10 (by decide)) (by decide)) (by decide)) (by decide)) (by decide))
          refine s_alv (327688) (by simp) (fun al73 => ?_)
          have hv74 : -1 ≤ (gS G67 327688 (hh : Int).toNat) ∧ (gS G67 327688 (hh : Int).toNat) ≤ 200000 := hCG67.1.v (j := (hh : Int).toNat) (by decide : cde 327688 = 508) al73 (by rw [hk72]; show (hh : Int).toNat < 64; omega)
          refine s_iald dX7_numberOf_231 hk72 (by omega) (by omega) rfl ?_
          refine s_iast dX7_numberOf_232 hkzG67 (by omega) (by omega) ?_
          generalize eG75r : gset G67 nm (((5 * (gS G 327683 1)) + 4 : Int).toNat) (gS G67 327688 ((hh : Int).toNat)) = G75
          have eG75 := eG75r.symm
          have hCG75 : CI a b G75 := by rw [eG75]; exact hCG67.madeAt hczG67 hmq.2.1 (by rw [show cnC G67 = gS G 327683 1 from hcnG67]; omega)
          have hXG75 : KX G67 G75 := KX.set KX.rf eG75
          have hFG75 : WX (fun x => x = 327683 ∨ x = 327687 ∨ x = 327688) G G75 := WX.set hFG67 eG75 (by show _; omega)
          show WP kX7_numberOf X 233 [some (2, ((327683 : Nat) : Int)), some (0, k), some (0, x), some (0, y), some (0, z), some (0, w6), some (0, hh), some (0, n13), some (0, 5 * (gS G 327683 1)), none] [] G75
          have hcwG75 : gS G75 327683 = gS G67 327683 := gset_o eG75 (x := 327683) (by omega)
          have hczG75 : gS G75 327683 0 = (nm : Int) := by rw [hcwG75]; exact hczG67
          have hkzG75 : gK G75 nm = (1, (2 * (((Lt : Nat) : Int)) : Int).toNat) := by rw [eG75, gset_K]; exact hkzG67
          have hcnG75 : gS G75 327683 1 = gS G 327683 1 := (congrFun hcwG75 1).trans (hcnG67)
          refine s_aload_n dX7_numberOf_233 rfl (Int.natCast_nonneg _) ?_
          have hk76 : gK G75 (327683) = (16, 0) := ((hXG75).k hk68 (by decide))
          refine s_alv (327683) (by simp) (fun al77 => ?_)
          have hv78 : gS G75 327683 2 = ((327688 : Nat) : Int) := by have h9 : (gS G75 327683 2) = 327688 := hCG75.1.v (j := 2) (by decide : cde 327683 = 503) al77 (by rw [hk76]; exact Nat.le_of_ble_eq_true rfl); omega
          refine s_getf (ci := 8) (k := 2) (C := RX7) (T := TX7) (N := 3) (n := 327683) (L := 0) (t := 2) dX7_numberOf_234 rfl wi_75 m_669 (Nat.le_of_ble_eq_true rfl) rfl rfl hk76 hv78 ?_
          refine s_iload dX7_numberOf_237 rfl ?_
          refine s_aload_n dX7_numberOf_239 rfl (Int.natCast_nonneg _) ?_
          have hv79 : 0 ≤ (gS G75 327683 1) ∧ (gS G75 327683 1) ≤ 200000 := hCG75.1.v (j := 1) (by decide : cde 327683 = 503) al77 (by rw [hk76]; exact Nat.le_of_ble_eq_true rfl)
          refine s_getf (ci := 8) (k := 1) (C := RX7) (T := TX7) (N := 3) (n := 327683) (L := 0) (t := 0) dX7_numberOf_240 rfl wi_75 m_670 (Nat.le_of_ble_eq_true rfl) rfl rfl hk76 rfl ?_
          have hk80 : gK G75 (327688) = (1, 64) := ((hXG75).k hk72 (by decide))
          refine s_iast dX7_numberOf_243 hk80 (by omega) (by omega) ?_
          refine s_aload_n dX7_numberOf_244 rfl (Int.natCast_nonneg _) ?_
          refine s_dup dX7_numberOf_245 (by decide) ?_
          refine s_getf (ci := 8) (k := 1) (C := RX7) (T := TX7) (N := 3) (n := 327683) (L := 0) (t := 0) dX7_numberOf_246 rfl wi_75 m_670 (Nat.le_of_ble_eq_true rfl) rfl rfl (by rw [gset_K]; exact hk76) (show gS (gset G75 327688 hh.toNat (gS G75 327683 1)) 327683 1 = gS G 327683 1 from by rw [gset_ne _ _ (fun w => absurd w.1 (by decide))]; exact hcnG75) ?_
          refine s_iconst dX7_numberOf_249 (by decide) ?_
          refine s_iadd dX7_numberOf_250 (by omega) ?_
          refine s_putf (ci := 8) (k := 1) (C := RX7) (T := TX7) (N := 3) (n := 327683) (L := 0) dX7_numberOf_251 rfl wi_75 m_670 (Nat.le_of_ble_eq_true rfl) rfl rfl tyX7_ok nmX7 rfl (Or.inl rfl) (by rw [gset_K]; exact hk76) ?_
          generalize eG81r : gset (gset G75 327688 hh.toNat (gS G75 327683 1)) 327683 1 (gS G 327683 1 + 1) = G81
          have eG81 := eG81r.symm
          have hcnG75x : cnC G75 = gS G 327683 1 := hcnG75
          have hv9 : ∀ i : Nat, i < 5 → tbC G75 (cnC G) i = gS G75 nm (5 * gS G 327683 1 + i).toNat := fun i _ => by unfold tbC; rw [hczG75, Int.toNat_natCast]; rfl
          have hw0 : gS G75 nm (5 * gS G 327683 1).toNat = k := by rw [show gS G75 nm (5 * gS G 327683 1).toNat = gS G67 nm (5 * gS G 327683 1).toNat from by rw [eG75]; exact gset_ne _ _ (fun w => by omega)]; rw [show gS G67 nm (5 * gS G 327683 1).toNat = gS G63 nm (5 * gS G 327683 1).toNat from by rw [eG67]; exact gset_ne _ _ (fun w => by omega)]; rw [show gS G63 nm (5 * gS G 327683 1).toNat = gS G59 nm (5 * gS G 327683 1).toNat from by rw [eG63]; exact gset_ne _ _ (fun w => by omega)]; rw [show gS G59 nm (5 * gS G 327683 1).toNat = gS G55 nm (5 * gS G 327683 1).toNat from by rw [eG59]; exact gset_ne _ _ (fun w => by omega)]; exact gsaE eG55
          have hw1 : gS G75 nm (5 * gS G 327683 1 + 1).toNat = x := by rw [show gS G75 nm (5 * gS G 327683 1 + 1).toNat = gS G67 nm (5 * gS G 327683 1 + 1).toNat from by rw [eG75]; exact gset_ne _ _ (fun w => by omega)]; rw [show gS G67 nm (5 * gS G 327683 1 + 1).toNat = gS G63 nm (5 * gS G 327683 1 + 1).toNat from by rw [eG67]; exact gset_ne _ _ (fun w => by omega)]; rw [show gS G63 nm (5 * gS G 327683 1 + 1).toNat = gS G59 nm (5 * gS G 327683 1 + 1).toNat from by rw [eG63]; exact gset_ne _ _ (fun w => by omega)]; exact gsaE eG59
          have hw2 : gS G75 nm (5 * gS G 327683 1 + 2).toNat = y := by rw [show gS G75 nm (5 * gS G 327683 1 + 2).toNat = gS G67 nm (5 * gS G 327683 1 + 2).toNat from by rw [eG75]; exact gset_ne _ _ (fun w => by omega)]; rw [show gS G67 nm (5 * gS G 327683 1 + 2).toNat = gS G63 nm (5 * gS G 327683 1 + 2).toNat from by rw [eG67]; exact gset_ne _ _ (fun w => by omega)]; exact gsaE eG63
          have hw3 : gS G75 nm (5 * gS G 327683 1 + 3).toNat = z := by rw [show gS G75 nm (5 * gS G 327683 1 + 3).toNat = gS G67 nm (5 * gS G 327683 1 + 3).toNat from by rw [eG75]; exact gset_ne _ _ (fun w => by omega)]; exact gsaE eG67
          have hw4 : gS G75 nm (5 * gS G 327683 1 + 4).toNat = gS G 327688 hh.toNat := by exact (gsaE eG75).trans (by first | rfl | (exact congrFun ((gset_o eG67 (x := 327688) (by omega)).trans ((gset_o eG63 (x := 327688) (by omega)).trans ((gset_o eG59 (x := 327688) (by omega)).trans ((gset_o eG55 (x := 327688) (by omega)).trans (hBG51.1 327688 (by decide) (by decide)))))) _))
          have hlow : ∀ j : Int, 0 ≤ j → j < 5 * gS G 327683 1 → gS G75 nm j.toNat = gS G qt j.toNat := fun j j0 j1 => by rw [show gS G75 nm j.toNat = gS G67 nm j.toNat from by rw [eG75]; exact gset_ne _ _ (fun w => by omega)]; rw [show gS G67 nm j.toNat = gS G63 nm j.toNat from by rw [eG67]; exact gset_ne _ _ (fun w => by omega)]; rw [show gS G63 nm j.toNat = gS G59 nm j.toNat from by rw [eG63]; exact gset_ne _ _ (fun w => by omega)]; rw [show gS G59 nm j.toNat = gS G55 nm j.toNat from by rw [eG59]; exact gset_ne _ _ (fun w => by omega)]; rw [show gS G55 nm j.toNat = gS G51 nm j.toNat from by rw [eG55]; exact gset_ne _ _ (fun w => by omega)]; all_goals (exact hBG51.2.1 j (by omega))
          have hoth : ∀ w, w ≠ 327683 → cde w ≠ 507 → gS G75 w = gS G w := fun w w1 w2 => by rw [gset_o eG75 (x := w) (fun q9 => w2 (by rw [q9]; exact hmq.2.1))]; rw [gset_o eG67 (x := w) (fun q9 => w2 (by rw [q9]; exact hmq.2.1))]; rw [gset_o eG63 (x := w) (fun q9 => w2 (by rw [q9]; exact hmq.2.1))]; rw [gset_o eG59 (x := w) (fun q9 => w2 (by rw [q9]; exact hmq.2.1))]; rw [gset_o eG55 (x := w) (fun q9 => w2 (by rw [q9]; exact hmq.2.1))]; all_goals (exact hBG51.1 w w1 w2)
          have h84 : tbC G75 (cnC G75) 4 = gS G 327688 hh.toNat := by rw [hcnG75x, ← hcq]; exact (hv9 4 (by decide)).trans ((congrArg (fun z : Int => gS G75 nm z.toNat) (by omega)).trans hw4)
          have hCG81 : CI a b G81 := by rw [eG81, ← hcnG75x]; exact hCG75.thing2 hczG75 hkzG75 (by omega) (by omega) (by omega) (by omega) (by rw [h84, hcnG75x]; exact h88)
          have hXG81 : KX G75 G81 := KX.of (by rw [eG81]; rfl)
          have hFG81 : WX (fun x => x = 327683 ∨ x = 327687 ∨ x = 327688) G G81 := WX.set (WX.set hFG75 rfl (by show _; decide)) eG81 (by show _; decide)
          have hfin : ∀ w y9, w ≠ 327683 → w ≠ 327688 → gS G81 w y9 = gS G75 w y9 := fun w y9 w1 w2 => by rw [eG81, gset_ne _ _ (fun q9 => w1 q9.1), gset_ne _ _ (fun q9 => w2 q9.1)]
          have hf0 : gS G81 327683 0 = (nm : Int) := by rw [eG81, gset_ne _ _ (fun q9 => absurd q9.2 (by decide)), gset_ne _ _ (fun q9 => absurd q9.1 (by decide))]; exact hczG75
          have hqn : nm ≠ 327683 ∧ nm ≠ 327688 := by omega
          have htb : ∀ (t : Int) (i : Nat), tbC G81 t i = gS G75 nm (5 * t + i).toNat := fun t i => by unfold tbC; rw [hf0, Int.toNat_natCast]; exact hfin _ _ hqn.1 hqn.2
          have hec : cnC G81 = cnC G + 1 := gsaE eG81
          have he8 : ∀ q9, gS G81 327688 q9 = if q9 = hh.toNat then cnC G else gS G 327688 q9 := fun q9 => by rw [eG81, gset_ne _ _ (fun q9 => absurd q9.1 (by decide)), gset_eq, hoth 327688 (by decide) (by decide)]; by_cases w : q9 = hh.toNat; (rw [if_pos ⟨rfl, w⟩, if_pos w]; first | rfl | exact hcnG75x); (rw [if_neg (fun w2 => w w2.2), if_neg w])
          have hNe := NeC.of (G' := G81) hC hND (fun w w1 w2 w3 => by funext y9; rw [hfin w y9 w1 w2, hoth w w1 w3])
          obtain ⟨r1, r2, r3⟩ := thC_new (p := hh.toNat) hTH hv hA hno hec (fun t i t0 t1 hi => by rw [htb, ht9]; exact hlow (5 * t + i) (by omega) (by omega)) ⟨(htb _ 0).trans ((congrArg (fun z : Int => gS G75 nm z.toNat) (by omega)).trans hw0), (htb _ 1).trans ((congrArg (fun z : Int => gS G75 nm z.toNat) (by omega)).trans hw1), (htb _ 2).trans ((congrArg (fun z : Int => gS G75 nm z.toNat) (by omega)).trans hw2), (htb _ 3).trans ((congrArg (fun z : Int => gS G75 nm z.toNat) (by omega)).trans hw3), (htb _ 4).trans ((congrArg (fun z : Int => gS G75 nm z.toNat) (by omega)).trans hw4)⟩ he8 (by rw [hhe]) hNe.1 hNe.2
          show WP kX7_numberOf X 254 [some (2, ((327683 : Nat) : Int)), some (0, k), some (0, x), some (0, y), some (0, z), some (0, w6), some (0, hh), some (0, n13), some (0, 5 * (gS G 327683 1)), none] [] G81
          refine s_aload_n dX7_numberOf_254 rfl (Int.natCast_nonneg _) ?_
          refine s_alv (327683) (by simp) (fun al83 => ?_)
          have hv82 : 0 ≤ (gS G81 327683 1) ∧ (gS G81 327683 1) ≤ 200000 := hCG81.1.v (j := 1) (by decide : cde 327683 = 503) al83 (by rw [(hXG81.k hk76 (by decide))]; exact Nat.le_of_ble_eq_true rfl)
          refine s_getf (ci := 8) (k := 1) (C := RX7) (T := TX7) (N := 3) (n := 327683) (L := 0) (t := 0) dX7_numberOf_255 rfl wi_75 m_670 (Nat.le_of_ble_eq_true rfl) rfl rfl (hXG81.k hk76 (by decide)) (gsaE eG81) ?_
          refine s_iconst dX7_numberOf_258 (by decide) ?_
          refine s_isub dX7_numberOf_259 (by omega) ?_
          exact s_iret hR dX7_numberOf_260 rfl (hQ ((gS G 327683 1 + 1) - 1) G81 hCG81 (KX.trans (KX.trans (KX.trans (KX.trans (KX.trans (KX.trans hXG51 hXG55) hXG59) hXG63) hXG67) hXG75) hXG81) hFG81 ⟨r1, r2, by rw [show (gS G 327683 1 + 1) - 1 = cnC G by omega]; exact r3⟩)
      · -- 57 to 60
        refine s_iload dX7_numberOf_60 rfl ?_
        refine s_if_lt (tgt := 142) dX7_numberOf_62 (by decide) (fun c84 => ?_) (fun c84 => ?_)
        · -- 62 to 142
          refine s_iconst dX7_numberOf_142 (by decide) ?_
          refine s_aload_n dX7_numberOf_143 rfl (Int.natCast_nonneg _) ?_
          refine s_getf (ci := 8) (k := 1) (C := RX7) (T := TX7) (N := 3) (n := 327683) (L := 0) (t := 0) dX7_numberOf_144 rfl wi_75 m_670 (Nat.le_of_ble_eq_true rfl) rfl rfl hk7 rfl ?_
          refine s_imul dX7_numberOf_147 (by omega) ?_
          refine s_istore dX7_numberOf_148 (by decide) (lv' := [some (2, ((327683 : Nat) : Int)), some (0, k), some (0, x), some (0, y), some (0, z), some (0, w6), some (0, hh), some (0, n13), some (0, 5 * (gS G 327683 1)), none]) rfl ?_
          refine s_iload dX7_numberOf_150 rfl ?_
          refine s_aload_n dX7_numberOf_152 rfl (Int.natCast_nonneg _) ?_
          refine s_getf (ci := 8) (k := 0) (C := RX7) (T := TX7) (N := 3) (n := 327683) (L := 0) (t := 2) dX7_numberOf_153 rfl wi_75 m_671 (Nat.le_of_ble_eq_true rfl) rfl rfl hk7 ht1 ?_
          refine s_alen dX7_numberOf_156 ht4 (by decide) (by omega) ?_
          refine s_icmp_lt (tgt := 178) dX7_numberOf_157 (by decide) (fun c87 => ?_) (fun c87 => ?_)
          · -- 157 to 178
            have hno : ∀ t, ¬ keyC G t k x y z := fun t ht => by obtain ⟨m, hm⟩ := ir13 t ht; match m, hm with | 0, hm => exact hm | m + 1, hm => have h0 := hm.1; omega
            have hBG : (∀ z, z ≠ 327683 → cde z ≠ 507 → gS G z = gS G z) ∧ (∀ j, j < 5 * cnC G → gS G qt j.toNat = gS G qt j.toNat) ∧ gS G 327683 1 = gS G 327683 1 := ⟨fun _ _ _ => rfl, fun _ _ => rfl, rfl⟩
            have hmq : qt % 1048576 = 327687 ∧ cde qt = 507 ∧ 5 * cnC G + 5 ≤ (Lt : Int) := by omega
            refine s_aload_n dX7_numberOf_178 rfl (Int.natCast_nonneg _) ?_
            refine s_getf (ci := 8) (k := 0) (C := RX7) (T := TX7) (N := 3) (n := 327683) (L := 0) (t := 2) dX7_numberOf_179 rfl wi_75 m_671 (Nat.le_of_ble_eq_true rfl) rfl rfl hk7 ht1 ?_
            refine s_iload dX7_numberOf_182 rfl ?_
            refine s_iload_n dX7_numberOf_184 rfl ?_
            refine s_iast dX7_numberOf_185 ht4 (by omega) (by omega) ?_
            generalize eG89r : gset G qt ((5 * (gS G 327683 1) : Int).toNat) k = G89
            have eG89 := eG89r.symm
            have hCG89 : CI a b G89 := by rw [eG89]; exact hC.madeAt ht1 hmq.2.1 (by rw [show cnC G = gS G 327683 1 from hBG.2.2]; omega)
            have hXG89 : KX G G89 := KX.set KX.rf eG89
            have hFG89 : WX (fun x => x = 327683 ∨ x = 327687 ∨ x = 327688) G G89 := WX.set WX.rf eG89 (by show _; omega)
            show WP kX7_numberOf X 186 [some (2, ((327683 : Nat) : Int)), some (0, k), some (0, x), some (0, y), some (0, z), some (0, w6), some (0, hh), some (0, n13), some (0, 5 * (gS G 327683 1)), none] [] G89
            have hcwG89 : gS G89 327683 = gS G 327683 := gset_o eG89 (x := 327683) (by omega)
            have hczG89 : gS G89 327683 0 = (qt : Int) := by rw [hcwG89]; exact ht1
            have hkzG89 : gK G89 qt = (1, Lt) := by rw [eG89, gset_K]; exact ht4
            have hcnG89 : gS G89 327683 1 = gS G 327683 1 := (congrFun hcwG89 1).trans (hBG.2.2)
            refine s_aload_n dX7_numberOf_186 rfl (Int.natCast_nonneg _) ?_
            have hk90 : gK G89 (327683) = (16, 0) := ((hXG89).k hk7 (by decide))
            refine s_alv (327683) (by simp) (fun al91 => ?_)
            refine s_getf (ci := 8) (k := 0) (C := RX7) (T := TX7) (N := 3) (n := 327683) (L := 0) (t := 2) dX7_numberOf_187 rfl wi_75 m_671 (Nat.le_of_ble_eq_true rfl) rfl rfl hk90 hczG89 ?_
            refine s_iload dX7_numberOf_190 rfl ?_
            refine s_iconst dX7_numberOf_192 (by decide) ?_
            refine s_iadd dX7_numberOf_193 (by omega) ?_
            refine s_iload_n dX7_numberOf_194 rfl ?_
            refine s_iast dX7_numberOf_195 hkzG89 (by omega) (by omega) ?_
            generalize eG93r : gset G89 qt (((5 * (gS G 327683 1)) + 1 : Int).toNat) x = G93
            have eG93 := eG93r.symm
            have hCG93 : CI a b G93 := by rw [eG93]; exact hCG89.madeAt hczG89 hmq.2.1 (by rw [show cnC G89 = gS G 327683 1 from hcnG89]; omega)
            have hXG93 : KX G89 G93 := KX.set KX.rf eG93
            have hFG93 : WX (fun x => x = 327683 ∨ x = 327687 ∨ x = 327688) G G93 := WX.set hFG89 eG93 (by show _; omega)
            show WP kX7_numberOf X 196 [some (2, ((327683 : Nat) : Int)), some (0, k), some (0, x), some (0, y), some (0, z), some (0, w6), some (0, hh), some (0, n13), some (0, 5 * (gS G 327683 1)), none] [] G93
            have hcwG93 : gS G93 327683 = gS G89 327683 := gset_o eG93 (x := 327683) (by omega)
            have hczG93 : gS G93 327683 0 = (qt : Int) := by rw [hcwG93]; exact hczG89
            have hkzG93 : gK G93 qt = (1, Lt) := by rw [eG93, gset_K]; exact hkzG89
            have hcnG93 : gS G93 327683 1 = gS G 327683 1 := (congrFun hcwG93 1).trans (hcnG89)
            refine s_aload_n dX7_numberOf_196 rfl (Int.natCast_nonneg _) ?_
            have hk94 : gK G93 (327683) = (16, 0) := ((hXG93).k hk90 (by decide))
            refine s_alv (327683) (by simp) (fun al95 => ?_)
            refine s_getf (ci := 8) (k := 0) (C := RX7) (T := TX7) (N := 3) (n := 327683) (L := 0) (t := 2) dX7_numberOf_197 rfl wi_75 m_671 (Nat.le_of_ble_eq_true rfl) rfl rfl hk94 hczG93 ?_
            refine s_iload dX7_numberOf_200 rfl ?_
            refine s_iconst dX7_numberOf_202 (by decide) ?_
            refine s_iadd dX7_numberOf_203 (by omega) ?_
            refine s_iload_n dX7_numberOf_204 rfl ?_
            refine s_iast dX7_numberOf_205 hkzG93 (by omega) (by omega) ?_
            generalize eG97r : gset G93 qt (((5 * (gS G 327683 1)) + 2 : Int).toNat) y = G97
            have eG97 := eG97r.symm
            have hCG97 : CI a b G97 := by rw [eG97]; exact hCG93.madeAt hczG93 hmq.2.1 (by rw [show cnC G93 = gS G 327683 1 from hcnG93]; omega)
            have hXG97 : KX G93 G97 := KX.set KX.rf eG97
            have hFG97 : WX (fun x => x = 327683 ∨ x = 327687 ∨ x = 327688) G G97 := WX.set hFG93 eG97 (by show _; omega)
            show WP kX7_numberOf X 206 [some (2, ((327683 : Nat) : Int)), some (0, k), some (0, x), some (0, y), some (0, z), some (0, w6), some (0, hh), some (0, n13), some (0, 5 * (gS G 327683 1)), none] [] G97
            have hcwG97 : gS G97 327683 = gS G93 327683 := gset_o eG97 (x := 327683) (by omega)
            have hczG97 : gS G97 327683 0 = (qt : Int) := by rw [hcwG97]; exact hczG93
            have hkzG97 : gK G97 qt = (1, Lt) := by rw [eG97, gset_K]; exact hkzG93
            have hcnG97 : gS G97 327683 1 = gS G 327683 1 := (congrFun hcwG97 1).trans (hcnG93)
            refine s_aload_n dX7_numberOf_206 rfl (Int.natCast_nonneg _) ?_
            have hk98 : gK G97 (327683) = (16, 0) := ((hXG97).k hk94 (by decide))
            refine s_alv (327683) (by simp) (fun al99 => ?_)
            refine s_getf (ci := 8) (k := 0) (C := RX7) (T := TX7) (N := 3) (n := 327683) (L := 0) (t := 2) dX7_numberOf_207 rfl wi_75 m_671 (Nat.le_of_ble_eq_true rfl) rfl rfl hk98 hczG97 ?_
            refine s_iload dX7_numberOf_210 rfl ?_
            refine s_iconst dX7_numberOf_212 (by decide) ?_
            refine s_iadd dX7_numberOf_213 (by omega) ?_
            refine s_iload dX7_numberOf_214 rfl ?_
            refine s_iast dX7_numberOf_216 hkzG97 (by omega) (by omega) ?_
            generalize eG101r : gset G97 qt (((5 * (gS G 327683 1)) + 3 : Int).toNat) z = G101
            have eG101 := eG101r.symm
            have hCG101 : CI a b G101 := by rw [eG101]; exact hCG97.madeAt hczG97 hmq.2.1 (by rw [show cnC G97 = gS G 327683 1 from hcnG97]; omega)
            have hXG101 : KX G97 G101 := KX.set KX.rf eG101
            have hFG101 : WX (fun x => x = 327683 ∨ x = 327687 ∨ x = 327688) G G101 := WX.set hFG97 eG101 (by show _; omega)
            show WP kX7_numberOf X 217 [some (2, ((327683 : Nat) : Int)), some (0, k), some (0, x), some (0, y), some (0, z), some (0, w6), some (0, hh), some (0, n13), some (0, 5 * (gS G 327683 1)), none] [] G101
            have hcwG101 : gS G101 327683 = gS G97 327683 := gset_o eG101 (x := 327683) (by omega)
            have hczG101 : gS G101 327683 0 = (qt : Int) := by rw [hcwG101]; exact hczG97
            have hkzG101 : gK G101 qt = (1, Lt) := by rw [eG101, gset_K]; exact hkzG97
            have hcnG101 : gS G101 327683 1 = gS G 327683 1 := (congrFun hcwG101 1).trans (hcnG97)
            refine s_aload_n dX7_numberOf_217 rfl (Int.natCast_nonneg _) ?_
            have hk102 : gK G101 (327683) = (16, 0) := ((hXG101).k hk98 (by decide))
            refine s_alv (327683) (by simp) (fun al103 => ?_)
            refine s_getf (ci := 8) (k := 0) (C := RX7) (T := TX7) (N := 3) (n := 327683) (L := 0) (t := 2) dX7_numberOf_218 rfl wi_75 m_671 (Nat.le_of_ble_eq_true rfl) rfl rfl hk102 hczG101 ?_
            refine s_iload dX7_numberOf_221 rfl ?_
            refine s_iconst dX7_numberOf_223 (by decide) ?_
            refine s_iadd dX7_numberOf_224 (by omega) ?_
            refine s_aload_n dX7_numberOf_225 rfl (Int.natCast_nonneg _) ?_
            have hv105 : gS G101 327683 2 = ((327688 : Nat) : Int) := by have h9 : (gS G101 327683 2) = 327688 := hCG101.1.v (j := 2) (by decide : cde 327683 = 503) al103 (by rw [hk102]; exact Nat.le_of_ble_eq_true rfl); omega
            refine s_getf (ci := 8) (k := 2) (C := RX7) (T := TX7) (N := 3) (n := 327683) (L := 0) (t := 2) dX7_numberOf_226 rfl wi_75 m_669 (Nat.le_of_ble_eq_true rfl) rfl rfl hk102 hv105 ?_
            refine s_iload dX7_numberOf_229 rfl ?_
            have hk106 : gK G101 (327688) = (1, 64) := ((hXG101).k ((hXG97).k ((hXG93).k ((hXG89).k hk10 (by decide)) (by decide)) (by decide)) (by decide))
            refine s_alv (327688) (by simp) (fun al107 => ?_)
            have hv108 : -1 ≤ (gS G101 327688 (hh : Int).toNat) ∧ (gS G101 327688 (hh : Int).toNat) ≤ 200000 := hCG101.1.v (j := (hh : Int).toNat) (by decide : cde 327688 = 508) al107 (by rw [hk106]; show (hh : Int).toNat < 64; omega)
            refine s_iald dX7_numberOf_231 hk106 (by omega) (by omega) rfl ?_
            refine s_iast dX7_numberOf_232 hkzG101 (by omega) (by omega) ?_
            generalize eG109r : gset G101 qt (((5 * (gS G 327683 1)) + 4 : Int).toNat) (gS G101 327688 ((hh : Int).toNat)) = G109
            have eG109 := eG109r.symm
            have hCG109 : CI a b G109 := by rw [eG109]; exact hCG101.madeAt hczG101 hmq.2.1 (by rw [show cnC G101 = gS G 327683 1 from hcnG101]; omega)
            have hXG109 : KX G101 G109 := KX.set KX.rf eG109
            have hFG109 : WX (fun x => x = 327683 ∨ x = 327687 ∨ x = 327688) G G109 := WX.set hFG101 eG109 (by show _; omega)
            show WP kX7_numberOf X 233 [some (2, ((327683 : Nat) : Int)), some (0, k), some (0, x), some (0, y), some (0, z), some (0, w6), some (0, hh), some (0, n13), some (0, 5 * (gS G 327683 1)), none] [] G109
            have hcwG109 : gS G109 327683 = gS G101 327683 := gset_o eG109 (x := 327683) (by omega)
            have hczG109 : gS G109 327683 0 = (qt : Int) := by rw [hcwG109]; exact hczG101
            have hkzG109 : gK G109 qt = (1, Lt) := by rw [eG109, gset_K]; exact hkzG101
            have hcnG109 : gS G109 327683 1 = gS G 327683 1 := (congrFun hcwG109 1).trans (hcnG101)
            refine s_aload_n dX7_numberOf_233 rfl (Int.natCast_nonneg _) ?_
            have hk110 : gK G109 (327683) = (16, 0) := ((hXG109).k hk102 (by decide))
            refine s_alv (327683) (by simp) (fun al111 => ?_)
            have hv112 : gS G109 327683 2 = ((327688 : Nat) : Int) := by have h9 : (gS G109 327683 2) = 327688 := hCG109.1.v (j := 2) (by decide : cde 327683 = 503) al111 (by rw [hk110]; exact Nat.le_of_ble_eq_true rfl); omega
            refine s_getf (ci := 8) (k := 2) (C := RX7) (T := TX7) (N := 3) (n := 327683) (L := 0) (t := 2) dX7_numberOf_234 rfl wi_75 m_669 (Nat.le_of_ble_eq_true rfl) rfl rfl hk110 hv112 ?_
            refine s_iload dX7_numberOf_237 rfl ?_
            refine s_aload_n dX7_numberOf_239 rfl (Int.natCast_nonneg _) ?_
            have hv113 : 0 ≤ (gS G109 327683 1) ∧ (gS G109 327683 1) ≤ 200000 := hCG109.1.v (j := 1) (by decide : cde 327683 = 503) al111 (by rw [hk110]; exact Nat.le_of_ble_eq_true rfl)
            refine s_getf (ci := 8) (k := 1) (C := RX7) (T := TX7) (N := 3) (n := 327683) (L := 0) (t := 0) dX7_numberOf_240 rfl wi_75 m_670 (Nat.le_of_ble_eq_true rfl) rfl rfl hk110 rfl ?_
            have hk114 : gK G109 (327688) = (1, 64) := ((hXG109).k hk106 (by decide))
            refine s_iast dX7_numberOf_243 hk114 (by omega) (by omega) ?_
            refine s_aload_n dX7_numberOf_244 rfl (Int.natCast_nonneg _) ?_
            refine s_dup dX7_numberOf_245 (by decide) ?_
            refine s_getf (ci := 8) (k := 1) (C := RX7) (T := TX7) (N := 3) (n := 327683) (L := 0) (t := 0) dX7_numberOf_246 rfl wi_75 m_670 (Nat.le_of_ble_eq_true rfl) rfl rfl (by rw [gset_K]; exact hk110) (show gS (gset G109 327688 hh.toNat (gS G109 327683 1)) 327683 1 = gS G 327683 1 from by rw [gset_ne _ _ (fun w => absurd w.1 (by decide))]; exact hcnG109) ?_
            refine s_iconst dX7_numberOf_249 (by decide) ?_
            refine s_iadd dX7_numberOf_250 (by omega) ?_
            refine s_putf (ci := 8) (k := 1) (C := RX7) (T := TX7) (N := 3) (n := 327683) (L := 0) dX7_numberOf_251 rfl wi_75 m_670 (Nat.le_of_ble_eq_true rfl) rfl rfl tyX7_ok nmX7 rfl (Or.inl rfl) (by rw [gset_K]; exact hk110) ?_
            generalize eG115r : gset (gset G109 327688 hh.toNat (gS G109 327683 1)) 327683 1 (gS G 327683 1 + 1) = G115
            have eG115 := eG115r.symm
            have hcnG109x : cnC G109 = gS G 327683 1 := hcnG109
            have hv9 : ∀ i : Nat, i < 5 → tbC G109 (cnC G) i = gS G109 qt (5 * gS G 327683 1 + i).toNat := fun i _ => by unfold tbC; rw [hczG109, Int.toNat_natCast]; rfl
            have hw0 : gS G109 qt (5 * gS G 327683 1).toNat = k := by rw [show gS G109 qt (5 * gS G 327683 1).toNat = gS G101 qt (5 * gS G 327683 1).toNat from by rw [eG109]; exact gset_ne _ _ (fun w => by omega)]; rw [show gS G101 qt (5 * gS G 327683 1).toNat = gS G97 qt (5 * gS G 327683 1).toNat from by rw [eG101]; exact gset_ne _ _ (fun w => by omega)]; rw [show gS G97 qt (5 * gS G 327683 1).toNat = gS G93 qt (5 * gS G 327683 1).toNat from by rw [eG97]; exact gset_ne _ _ (fun w => by omega)]; rw [show gS G93 qt (5 * gS G 327683 1).toNat = gS G89 qt (5 * gS G 327683 1).toNat from by rw [eG93]; exact gset_ne _ _ (fun w => by omega)]; exact gsaE eG89
            have hw1 : gS G109 qt (5 * gS G 327683 1 + 1).toNat = x := by rw [show gS G109 qt (5 * gS G 327683 1 + 1).toNat = gS G101 qt (5 * gS G 327683 1 + 1).toNat from by rw [eG109]; exact gset_ne _ _ (fun w => by omega)]; rw [show gS G101 qt (5 * gS G 327683 1 + 1).toNat = gS G97 qt (5 * gS G 327683 1 + 1).toNat from by rw [eG101]; exact gset_ne _ _ (fun w => by omega)]; rw [show gS G97 qt (5 * gS G 327683 1 + 1).toNat = gS G93 qt (5 * gS G 327683 1 + 1).toNat from by rw [eG97]; exact gset_ne _ _ (fun w => by omega)]; exact gsaE eG93
            have hw2 : gS G109 qt (5 * gS G 327683 1 + 2).toNat = y := by rw [show gS G109 qt (5 * gS G 327683 1 + 2).toNat = gS G101 qt (5 * gS G 327683 1 + 2).toNat from by rw [eG109]; exact gset_ne _ _ (fun w => by omega)]; rw [show gS G101 qt (5 * gS G 327683 1 + 2).toNat = gS G97 qt (5 * gS G 327683 1 + 2).toNat from by rw [eG101]; exact gset_ne _ _ (fun w => by omega)]; exact gsaE eG97
            have hw3 : gS G109 qt (5 * gS G 327683 1 + 3).toNat = z := by rw [show gS G109 qt (5 * gS G 327683 1 + 3).toNat = gS G101 qt (5 * gS G 327683 1 + 3).toNat from by rw [eG109]; exact gset_ne _ _ (fun w => by omega)]; exact gsaE eG101
            have hw4 : gS G109 qt (5 * gS G 327683 1 + 4).toNat = gS G 327688 hh.toNat := by exact (gsaE eG109).trans (by first | rfl | (exact congrFun ((gset_o eG101 (x := 327688) (by omega)).trans ((gset_o eG97 (x := 327688) (by omega)).trans ((gset_o eG93 (x := 327688) (by omega)).trans ((gset_o eG89 (x := 327688) (by omega)).trans (hBG.1 327688 (by decide) (by decide)))))) _))
            have hlow : ∀ j : Int, 0 ≤ j → j < 5 * gS G 327683 1 → gS G109 qt j.toNat = gS G qt j.toNat := fun j j0 j1 => by rw [show gS G109 qt j.toNat = gS G101 qt j.toNat from by rw [eG109]; exact gset_ne _ _ (fun w => by omega)]; rw [show gS G101 qt j.toNat = gS G97 qt j.toNat from by rw [eG101]; exact gset_ne _ _ (fun w => by omega)]; rw [show gS G97 qt j.toNat = gS G93 qt j.toNat from by rw [eG97]; exact gset_ne _ _ (fun w => by omega)]; rw [show gS G93 qt j.toNat = gS G89 qt j.toNat from by rw [eG93]; exact gset_ne _ _ (fun w => by omega)]; rw [show gS G89 qt j.toNat = gS G qt j.toNat from by rw [eG89]; exact gset_ne _ _ (fun w => by omega)]; all_goals (exact hBG.2.1 j (by omega))
            have hoth : ∀ w, w ≠ 327683 → cde w ≠ 507 → gS G109 w = gS G w := fun w w1 w2 => by rw [gset_o eG109 (x := w) (fun q9 => w2 (by rw [q9]; exact hmq.2.1))]; rw [gset_o eG101 (x := w) (fun q9 => w2 (by rw [q9]; exact hmq.2.1))]; rw [gset_o eG97 (x := w) (fun q9 => w2 (by rw [q9]; exact hmq.2.1))]; rw [gset_o eG93 (x := w) (fun q9 => w2 (by rw [q9]; exact hmq.2.1))]; rw [gset_o eG89 (x := w) (fun q9 => w2 (by rw [q9]; exact hmq.2.1))]; all_goals (exact hBG.1 w w1 w2)
            have h84 : tbC G109 (cnC G109) 4 = gS G 327688 hh.toNat := by rw [hcnG109x, ← hcq]; exact (hv9 4 (by decide)).trans ((congrArg (fun z : Int => gS G109 qt z.toNat) (by omega)).trans hw4)
            have hCG115 : CI a b G115 := by rw [eG115, ← hcnG109x]; exact hCG109.thing2 hczG109 hkzG109 (by omega) (by omega) (by omega) (by omega) (by rw [h84, hcnG109x]; exact h88)
            have hXG115 : KX G109 G115 := KX.of (by rw [eG115]; rfl)
            have hFG115 : WX (fun x => x = 327683 ∨ x = 327687 ∨ x = 327688) G G115 := WX.set (WX.set hFG109 rfl (by show _; decide)) eG115 (by show _; decide)
            have hfin : ∀ w y9, w ≠ 327683 → w ≠ 327688 → gS G115 w y9 = gS G109 w y9 := fun w y9 w1 w2 => by rw [eG115, gset_ne _ _ (fun q9 => w1 q9.1), gset_ne _ _ (fun q9 => w2 q9.1)]
            have hf0 : gS G115 327683 0 = (qt : Int) := by rw [eG115, gset_ne _ _ (fun q9 => absurd q9.2 (by decide)), gset_ne _ _ (fun q9 => absurd q9.1 (by decide))]; exact hczG109
            have hqn : qt ≠ 327683 ∧ qt ≠ 327688 := by omega
            have htb : ∀ (t : Int) (i : Nat), tbC G115 t i = gS G109 qt (5 * t + i).toNat := fun t i => by unfold tbC; rw [hf0, Int.toNat_natCast]; exact hfin _ _ hqn.1 hqn.2
            have hec : cnC G115 = cnC G + 1 := gsaE eG115
            have he8 : ∀ q9, gS G115 327688 q9 = if q9 = hh.toNat then cnC G else gS G 327688 q9 := fun q9 => by rw [eG115, gset_ne _ _ (fun q9 => absurd q9.1 (by decide)), gset_eq, hoth 327688 (by decide) (by decide)]; by_cases w : q9 = hh.toNat; (rw [if_pos ⟨rfl, w⟩, if_pos w]; first | rfl | exact hcnG109x); (rw [if_neg (fun w2 => w w2.2), if_neg w])
            have hNe := NeC.of (G' := G115) hC hND (fun w w1 w2 w3 => by funext y9; rw [hfin w y9 w1 w2, hoth w w1 w3])
            obtain ⟨r1, r2, r3⟩ := thC_new (p := hh.toNat) hTH hv hA hno hec (fun t i t0 t1 hi => by rw [htb, ht9]; exact hlow (5 * t + i) (by omega) (by omega)) ⟨(htb _ 0).trans ((congrArg (fun z : Int => gS G109 qt z.toNat) (by omega)).trans hw0), (htb _ 1).trans ((congrArg (fun z : Int => gS G109 qt z.toNat) (by omega)).trans hw1), (htb _ 2).trans ((congrArg (fun z : Int => gS G109 qt z.toNat) (by omega)).trans hw2), (htb _ 3).trans ((congrArg (fun z : Int => gS G109 qt z.toNat) (by omega)).trans hw3), (htb _ 4).trans ((congrArg (fun z : Int => gS G109 qt z.toNat) (by omega)).trans hw4)⟩ he8 (by rw [hhe]) hNe.1 hNe.2
            show WP kX7_numberOf X 254 [some (2, ((327683 : Nat) : Int)), some (0, k), some (0, x), some (0, y), some (0, z), some (0, w6), some (0, hh), some (0, n13), some (0, 5 * (gS G 327683 1)), none] [] G115
            refine s_aload_n dX7_numberOf_254 rfl (Int.natCast_nonneg _) ?_
            refine s_alv (327683) (by simp) (fun al117 => ?_)
            have hv116 : 0 ≤ (gS G115 327683 1) ∧ (gS G115 327683 1) ≤ 200000 := hCG115.1.v (j := 1) (by decide : cde 327683 = 503) al117 (by rw [(hXG115.k hk110 (by decide))]; exact Nat.le_of_ble_eq_true rfl)
            refine s_getf (ci := 8) (k := 1) (C := RX7) (T := TX7) (N := 3) (n := 327683) (L := 0) (t := 0) dX7_numberOf_255 rfl wi_75 m_670 (Nat.le_of_ble_eq_true rfl) rfl rfl (hXG115.k hk110 (by decide)) (gsaE eG115) ?_
            refine s_iconst dX7_numberOf_258 (by decide) ?_
            refine s_isub dX7_numberOf_259 (by omega) ?_
            exact s_iret hR dX7_numberOf_260 rfl (hQ ((gS G 327683 1 + 1) - 1) G115 hCG115 (KX.trans (KX.trans (KX.trans (KX.trans (KX.trans hXG89 hXG93) hXG97) hXG101) hXG109) hXG115) hFG115 ⟨r1, r2, by rw [show (gS G 327683 1 + 1) - 1 = cnC G by omega]; exact r3⟩)
          · -- 157 to 160
            refine s_aload_n dX7_numberOf_160 rfl (Int.natCast_nonneg _) ?_
            refine s_aload_n dX7_numberOf_161 rfl (Int.natCast_nonneg _) ?_
            refine s_getf (ci := 8) (k := 0) (C := RX7) (T := TX7) (N := 3) (n := 327683) (L := 0) (t := 2) dX7_numberOf_162 rfl wi_75 m_671 (Nat.le_of_ble_eq_true rfl) rfl rfl hk7 ht1 ?_
            refine s_iconst dX7_numberOf_165 (by decide) ?_
            refine s_aload_n dX7_numberOf_166 rfl (Int.natCast_nonneg _) ?_
            refine s_getf (ci := 8) (k := 0) (C := RX7) (T := TX7) (N := 3) (n := 327683) (L := 0) (t := 2) dX7_numberOf_167 rfl wi_75 m_671 (Nat.le_of_ble_eq_true rfl) rfl rfl hk7 ht1 ?_
            refine s_alen dX7_numberOf_170 ht4 (by decide) (by omega) ?_
            refine s_imul dX7_numberOf_171 (by omega) ?_
            obtain ⟨nm, hnm⟩ : ∃ nm : Nat, nm = 327687 + 1048576 * (1 + gc G) := ⟨_, rfl⟩
            have hnd : (gK G nm).1 = 0 := hC.2.2.2.2.2.2.2.2.2.1.1 nm (by omega)
            obtain ⟨G120, eG120⟩ : ∃ g9 : LG, g9 = gset (gcpy (gnew G nm 1 (2 * (((Lt : Nat) : Int)) : Int).toNat (2 * (((Lt : Nat) : Int)) : Int).toNat (fun _ => 0)) qt 0 nm 0 (if (2 * (((Lt : Nat) : Int))) < (Lt : Int) then 2 * (((Lt : Nat) : Int)) else (Lt : Int)).toNat) 327683 0 (nm : Int) := ⟨_, rfl⟩
            have hqn9 : qt ≠ nm := fun z => by rw [z] at ht4; rw [ht4] at hnd; exact Nat.succ_ne_zero _ hnd
            have hif : (if (2 * (((Lt : Nat) : Int))) < (Lt : Int) then 2 * (((Lt : Nat) : Int)) else (Lt : Int)).toNat = Lt := by rw [if_neg (by omega)]; omega
            have hXG120 : KX G G120 := KX.set (KX.cpy (KX.new KX.rf rfl hnd) rfl) eG120
            have hjG120 : ∀ j, j ≠ 0 → gS G120 327683 j = gS G 327683 j := fun j hj => by rw [eG120, gset_ne _ _ (fun z => hj z.2), gcpy_ne _ (by omega), gnew_ne _ _ _ _ _ (by omega)]
            have hsG120 : gS G120 327683 1 = gS G 327683 1 := hjG120 1 (by decide)
            have hzG120 : ∀ z, z ≠ nm → z ≠ 327683 → gS G120 z = gS G z := fun z z1 z2 => by rw [eG120]; funext y; rw [gset_ne _ _ (fun w => z2 w.1), gcpy_ne _ z1, gnew_ne _ _ _ _ _ z1]
            have hyG120 : ∀ j, j < Lt → gS G120 nm j = gS G qt j := fun j hj => by rw [eG120, gset_ne _ _ (fun w => by omega), hif, gcpy_at, if_pos ⟨by omega, by omega⟩, gnew_ne _ _ _ _ _ hqn9]; congr 1; omega
            have hCG120 : CI a b G120 := hC.growThings (M := (2 * (((Lt : Nat) : Int)) : Int).toNat) (kne hk7 (by decide)) ht1 ht4 (by omega) (by omega) hnm hzG120 (gsaE eG120) hjG120 (by rw [eG120]; rfl) (by rw [eG120]; rfl) (by rw [eG120]; rfl) hyG120
            have hroom := hCG120.room
            have hgsG120 : gs G120 = gs G + (2 * (((Lt : Nat) : Int)) : Int).toNat := by rw [eG120]; rfl
            have hgcG120 : gc G120 = gc G + 1 := by rw [eG120]; rfl
            refine s_callS2 (as := [(2, ((qt : Nat) : Int)), (0, 2 * (((Lt : Nat) : Int)))]) (rest := [(2, ((327683 : Nat) : Int))]) gJ7_copyOf_59c91 dX7_numberOf_172 m_1415 m_1748 m_705 m_43 ⟨by decide, by decide, show (parseMethodDescriptor yJ7_copyOf_59c91.desc).map (fun d => d.parameters.length) = some 2 from by decide +kernel⟩ (Nat.le_of_ble_eq_true rfl) (by rw [hcf]; exact Nat.le_of_ble_eq_true rfl) rfl (Nat.le_of_ble_eq_true rfl) ⟨qt, Lt, nm, 2 * (((Lt : Nat) : Int)), rfl, ht4, by omega, ⟨by omega, by omega, by omega⟩, hnd, by omega, by omega, ?_⟩
            refine s_putf (ci := 8) (k := 0) (C := RX7) (T := TX7) (N := 3) (n := 327683) (L := 0) dX7_numberOf_175 rfl wi_75 m_671 (Nat.le_of_ble_eq_true rfl) rfl rfl tyX7_ok nmX7 rfl (Or.inr (Or.inr (Or.inr (Or.inr ⟨_, rfl⟩)))) (by rw [gcpy_K, gnew_Kne _ _ _ _ _ (by omega)]; exact hk7) ?_
            rw [← eG120]
            have hFG120 : WX (fun x => x = 327683 ∨ x = 327687 ∨ x = 327688) G G120 := WX.set (WX.cpy (WX.new WX.rf KX.rf rfl hnd) rfl (by show _; omega)) eG120 (by show _; decide)
            have hqG120 : gS G120 327683 0 = (nm : Int) := gsaE eG120
            have hkG120 : gK G120 nm = (1, (2 * (((Lt : Nat) : Int)) : Int).toNat) := by rw [eG120, gset_K, gcpy_K]; exact gnew_K _ _ _ _ _ _
            have hmz : nm % 1048576 = 327687 := by omega
            have hmc : cde nm = 507 := (cde_mod (y := 327687) (by omega) (by decide)).trans (by decide)
            have hko121 : gK G120 327683 = (16, 0) := hXG120.k hk7 (by decide)
            show WP kX7_numberOf X 178 [some (2, ((327683 : Nat) : Int)), some (0, k), some (0, x), some (0, y), some (0, z), some (0, w6), some (0, hh), some (0, n13), some (0, 5 * (gS G 327683 1)), none] [] G120
            have hno : ∀ t, ¬ keyC G t k x y z := fun t ht => by obtain ⟨m, hm⟩ := ir13 t ht; match m, hm with | 0, hm => exact hm | m + 1, hm => have h0 := hm.1; omega
            have hBG120 : (∀ z, z ≠ 327683 → cde z ≠ 507 → gS G120 z = gS G z) ∧ (∀ j, j < 5 * cnC G → gS G120 nm j.toNat = gS G qt j.toNat) ∧ gS G120 327683 1 = gS G 327683 1 := ⟨fun z z1 z2 => hzG120 z (fun w => z2 (by rw [w]; exact hmc)) z1, fun j hj => hyG120 j.toNat (by omega), hsG120⟩
            have hmq : nm % 1048576 = 327687 ∧ cde nm = 507 ∧ 5 * cnC G + 5 ≤ ((2 * (((Lt : Nat) : Int)) : Int).toNat : Int) := by omega
            refine s_aload_n dX7_numberOf_178 rfl (Int.natCast_nonneg _) ?_
            refine s_alv (327683) (by simp) (fun al122 => ?_)
            refine s_getf (ci := 8) (k := 0) (C := RX7) (T := TX7) (N := 3) (n := 327683) (L := 0) (t := 2) dX7_numberOf_179 rfl wi_75 m_671 (Nat.le_of_ble_eq_true rfl) rfl rfl hko121 hqG120 ?_
            refine s_iload dX7_numberOf_182 rfl ?_
            refine s_iload_n dX7_numberOf_184 rfl ?_
            refine s_iast dX7_numberOf_185 hkG120 (by omega) (by omega) ?_
            generalize eG124r : gset G120 nm ((5 * (gS G 327683 1) : Int).toNat) k = G124
            have eG124 := eG124r.symm
            have hCG124 : CI a b G124 := by rw [eG124]; exact hCG120.madeAt hqG120 hmq.2.1 (by rw [show cnC G120 = gS G 327683 1 from hBG120.2.2]; omega)
            have hXG124 : KX G120 G124 := KX.set KX.rf eG124
            have hFG124 : WX (fun x => x = 327683 ∨ x = 327687 ∨ x = 327688) G G124 := WX.set hFG120 eG124 (by show _; omega)
            show WP kX7_numberOf X 186 [some (2, ((327683 : Nat) : Int)), some (0, k), some (0, x), some (0, y), some (0, z), some (0, w6), some (0, hh), some (0, n13), some (0, 5 * (gS G 327683 1)), none] [] G124
            have hcwG124 : gS G124 327683 = gS G120 327683 := gset_o eG124 (x := 327683) (by omega)
            have hczG124 : gS G124 327683 0 = (nm : Int) := by rw [hcwG124]; exact hqG120
            have hkzG124 : gK G124 nm = (1, (2 * (((Lt : Nat) : Int)) : Int).toNat) := by rw [eG124, gset_K]; exact hkG120
            have hcnG124 : gS G124 327683 1 = gS G 327683 1 := (congrFun hcwG124 1).trans (hBG120.2.2)
            refine s_aload_n dX7_numberOf_186 rfl (Int.natCast_nonneg _) ?_
            have hk125 : gK G124 (327683) = (16, 0) := ((hXG124).k hko121 (by decide))
            refine s_alv (327683) (by simp) (fun al126 => ?_)
            refine s_getf (ci := 8) (k := 0) (C := RX7) (T := TX7) (N := 3) (n := 327683) (L := 0) (t := 2) dX7_numberOf_187 rfl wi_75 m_671 (Nat.le_of_ble_eq_true rfl) rfl rfl hk125 hczG124 ?_
            refine s_iload dX7_numberOf_190 rfl ?_
            refine s_iconst dX7_numberOf_192 (by decide) ?_
            refine s_iadd dX7_numberOf_193 (by omega) ?_
            refine s_iload_n dX7_numberOf_194 rfl ?_
            refine s_iast dX7_numberOf_195 hkzG124 (by omega) (by omega) ?_
            generalize eG128r : gset G124 nm (((5 * (gS G 327683 1)) + 1 : Int).toNat) x = G128
            have eG128 := eG128r.symm
            have hCG128 : CI a b G128 := by rw [eG128]; exact hCG124.madeAt hczG124 hmq.2.1 (by rw [show cnC G124 = gS G 327683 1 from hcnG124]; omega)
            have hXG128 : KX G124 G128 := KX.set KX.rf eG128
            have hFG128 : WX (fun x => x = 327683 ∨ x = 327687 ∨ x = 327688) G G128 := WX.set hFG124 eG128 (by show _; omega)
            show WP kX7_numberOf X 196 [some (2, ((327683 : Nat) : Int)), some (0, k), some (0, x), some (0, y), some (0, z), some (0, w6), some (0, hh), some (0, n13), some (0, 5 * (gS G 327683 1)), none] [] G128
            have hcwG128 : gS G128 327683 = gS G124 327683 := gset_o eG128 (x := 327683) (by omega)
            have hczG128 : gS G128 327683 0 = (nm : Int) := by rw [hcwG128]; exact hczG124
            have hkzG128 : gK G128 nm = (1, (2 * (((Lt : Nat) : Int)) : Int).toNat) := by rw [eG128, gset_K]; exact hkzG124
            have hcnG128 : gS G128 327683 1 = gS G 327683 1 := (congrFun hcwG128 1).trans (hcnG124)
            refine s_aload_n dX7_numberOf_196 rfl (Int.natCast_nonneg _) ?_
            have hk129 : gK G128 (327683) = (16, 0) := ((hXG128).k hk125 (by decide))
            refine s_alv (327683) (by simp) (fun al130 => ?_)
            refine s_getf (ci := 8) (k := 0) (C := RX7) (T := TX7) (N := 3) (n := 327683) (L := 0) (t := 2) dX7_numberOf_197 rfl wi_75 m_671 (Nat.le_of_ble_eq_true rfl) rfl rfl hk129 hczG128 ?_
            refine s_iload dX7_numberOf_200 rfl ?_
            refine s_iconst dX7_numberOf_202 (by decide) ?_
            refine s_iadd dX7_numberOf_203 (by omega) ?_
            refine s_iload_n dX7_numberOf_204 rfl ?_
            refine s_iast dX7_numberOf_205 hkzG128 (by omega) (by omega) ?_
            generalize eG132r : gset G128 nm (((5 * (gS G 327683 1)) + 2 : Int).toNat) y = G132
            have eG132 := eG132r.symm
            have hCG132 : CI a b G132 := by rw [eG132]; exact hCG128.madeAt hczG128 hmq.2.1 (by rw [show cnC G128 = gS G 327683 1 from hcnG128]; omega)
            have hXG132 : KX G128 G132 := KX.set KX.rf eG132
            have hFG132 : WX (fun x => x = 327683 ∨ x = 327687 ∨ x = 327688) G G132 := WX.set hFG128 eG132 (by show _; omega)
            show WP kX7_numberOf X 206 [some (2, ((327683 : Nat) : Int)), some (0, k), some (0, x), some (0, y), some (0, z), some (0, w6), some (0, hh), some (0, n13), some (0, 5 * (gS G 327683 1)), none] [] G132
            have hcwG132 : gS G132 327683 = gS G128 327683 := gset_o eG132 (x := 327683) (by omega)
            have hczG132 : gS G132 327683 0 = (nm : Int) := by rw [hcwG132]; exact hczG128
            have hkzG132 : gK G132 nm = (1, (2 * (((Lt : Nat) : Int)) : Int).toNat) := by rw [eG132, gset_K]; exact hkzG128
            have hcnG132 : gS G132 327683 1 = gS G 327683 1 := (congrFun hcwG132 1).trans (hcnG128)
            refine s_aload_n dX7_numberOf_206 rfl (Int.natCast_nonneg _) ?_
            have hk133 : gK G132 (327683) = (16, 0) := ((hXG132).k hk129 (by decide))
            refine s_alv (327683) (by simp) (fun al134 => ?_)
            refine s_getf (ci := 8) (k := 0) (C := RX7) (T := TX7) (N := 3) (n := 327683) (L := 0) (t := 2) dX7_numberOf_207 rfl wi_75 m_671 (Nat.le_of_ble_eq_true rfl) rfl rfl hk133 hczG132 ?_
            refine s_iload dX7_numberOf_210 rfl ?_
            refine s_iconst dX7_numberOf_212 (by decide) ?_
            refine s_iadd dX7_numberOf_213 (by omega) ?_
            refine s_iload dX7_numberOf_214 rfl ?_
            refine s_iast dX7_numberOf_216 hkzG132 (by omega) (by omega) ?_
            generalize eG136r : gset G132 nm (((5 * (gS G 327683 1)) + 3 : Int).toNat) z = G136
            have eG136 := eG136r.symm
            have hCG136 : CI a b G136 := by rw [eG136]; exact hCG132.madeAt hczG132 hmq.2.1 (by rw [show cnC G132 = gS G 327683 1 from hcnG132]; omega)
            have hXG136 : KX G132 G136 := KX.set KX.rf eG136
            have hFG136 : WX (fun x => x = 327683 ∨ x = 327687 ∨ x = 327688) G G136 := WX.set hFG132 eG136 (by show _; omega)
            show WP kX7_numberOf X 217 [some (2, ((327683 : Nat) : Int)), some (0, k), some (0, x), some (0, y), some (0, z), some (0, w6), some (0, hh), some (0, n13), some (0, 5 * (gS G 327683 1)), none] [] G136
            have hcwG136 : gS G136 327683 = gS G132 327683 := gset_o eG136 (x := 327683) (by omega)
            have hczG136 : gS G136 327683 0 = (nm : Int) := by rw [hcwG136]; exact hczG132
            have hkzG136 : gK G136 nm = (1, (2 * (((Lt : Nat) : Int)) : Int).toNat) := by rw [eG136, gset_K]; exact hkzG132
            have hcnG136 : gS G136 327683 1 = gS G 327683 1 := (congrFun hcwG136 1).trans (hcnG132)
            refine s_aload_n dX7_numberOf_217 rfl (Int.natCast_nonneg _) ?_
            have hk137 : gK G136 (327683) = (16, 0) := ((hXG136).k hk133 (by decide))
            refine s_alv (327683) (by simp) (fun al138 => ?_)
            refine s_getf (ci := 8) (k := 0) (C := RX7) (T := TX7) (N := 3) (n := 327683) (L := 0) (t := 2) dX7_numberOf_218 rfl wi_75 m_671 (Nat.le_of_ble_eq_true rfl) rfl rfl hk137 hczG136 ?_
            refine s_iload dX7_numberOf_221 rfl ?_
            refine s_iconst dX7_numberOf_223 (by decide) ?_
            refine s_iadd dX7_numberOf_224 (by omega) ?_
            refine s_aload_n dX7_numberOf_225 rfl (Int.natCast_nonneg _) ?_
            have hv140 : gS G136 327683 2 = ((327688 : Nat) : Int) := by have h9 : (gS G136 327683 2) = 327688 := hCG136.1.v (j := 2) (by decide : cde 327683 = 503) al138 (by rw [hk137]; exact Nat.le_of_ble_eq_true rfl); omega
            refine s_getf (ci := 8) (k := 2) (C := RX7) (T := TX7) (N := 3) (n := 327683) (L := 0) (t := 2) dX7_numberOf_226 rfl wi_75 m_669 (Nat.le_of_ble_eq_true rfl) rfl rfl hk137 hv140 ?_
            refine s_iload dX7_numberOf_229 rfl ?_
            have hk141 : gK G136 (327688) = (1, 64) := ((hXG136).k ((hXG132).k ((hXG128).k ((hXG124).k ((hXG120).k hk10 (by decide)) (by decide)) (by decide)) (by decide)) (by decide))
            refine s_alv (327688) (by simp) (fun al142 => ?_)
            have hv143 : -1 ≤ (gS G136 327688 (hh : Int).toNat) ∧ (gS G136 327688 (hh : Int).toNat) ≤ 200000 := hCG136.1.v (j := (hh : Int).toNat) (by decide : cde 327688 = 508) al142 (by rw [hk141]; show (hh : Int).toNat < 64; omega)
            refine s_iald dX7_numberOf_231 hk141 (by omega) (by omega) rfl ?_
            refine s_iast dX7_numberOf_232 hkzG136 (by omega) (by omega) ?_
            generalize eG144r : gset G136 nm (((5 * (gS G 327683 1)) + 4 : Int).toNat) (gS G136 327688 ((hh : Int).toNat)) = G144
            have eG144 := eG144r.symm
            have hCG144 : CI a b G144 := by rw [eG144]; exact hCG136.madeAt hczG136 hmq.2.1 (by rw [show cnC G136 = gS G 327683 1 from hcnG136]; omega)
            have hXG144 : KX G136 G144 := KX.set KX.rf eG144
            have hFG144 : WX (fun x => x = 327683 ∨ x = 327687 ∨ x = 327688) G G144 := WX.set hFG136 eG144 (by show _; omega)
            show WP kX7_numberOf X 233 [some (2, ((327683 : Nat) : Int)), some (0, k), some (0, x), some (0, y), some (0, z), some (0, w6), some (0, hh), some (0, n13), some (0, 5 * (gS G 327683 1)), none] [] G144
            have hcwG144 : gS G144 327683 = gS G136 327683 := gset_o eG144 (x := 327683) (by omega)
            have hczG144 : gS G144 327683 0 = (nm : Int) := by rw [hcwG144]; exact hczG136
            have hkzG144 : gK G144 nm = (1, (2 * (((Lt : Nat) : Int)) : Int).toNat) := by rw [eG144, gset_K]; exact hkzG136
            have hcnG144 : gS G144 327683 1 = gS G 327683 1 := (congrFun hcwG144 1).trans (hcnG136)
            refine s_aload_n dX7_numberOf_233 rfl (Int.natCast_nonneg _) ?_
            have hk145 : gK G144 (327683) = (16, 0) := ((hXG144).k hk137 (by decide))
            refine s_alv (327683) (by simp) (fun al146 => ?_)
            have hv147 : gS G144 327683 2 = ((327688 : Nat) : Int) := by have h9 : (gS G144 327683 2) = 327688 := hCG144.1.v (j := 2) (by decide : cde 327683 = 503) al146 (by rw [hk145]; exact Nat.le_of_ble_eq_true rfl); omega
            refine s_getf (ci := 8) (k := 2) (C := RX7) (T := TX7) (N := 3) (n := 327683) (L := 0) (t := 2) dX7_numberOf_234 rfl wi_75 m_669 (Nat.le_of_ble_eq_true rfl) rfl rfl hk145 hv147 ?_
            refine s_iload dX7_numberOf_237 rfl ?_
            refine s_aload_n dX7_numberOf_239 rfl (Int.natCast_nonneg _) ?_
            have hv148 : 0 ≤ (gS G144 327683 1) ∧ (gS G144 327683 1) ≤ 200000 := hCG144.1.v (j := 1) (by decide : cde 327683 = 503) al146 (by rw [hk145]; exact Nat.le_of_ble_eq_true rfl)
            refine s_getf (ci := 8) (k := 1) (C := RX7) (T := TX7) (N := 3) (n := 327683) (L := 0) (t := 0) dX7_numberOf_240 rfl wi_75 m_670 (Nat.le_of_ble_eq_true rfl) rfl rfl hk145 rfl ?_
            have hk149 : gK G144 (327688) = (1, 64) := ((hXG144).k hk141 (by decide))
            refine s_iast dX7_numberOf_243 hk149 (by omega) (by omega) ?_
            refine s_aload_n dX7_numberOf_244 rfl (Int.natCast_nonneg _) ?_
            refine s_dup dX7_numberOf_245 (by decide) ?_
            refine s_getf (ci := 8) (k := 1) (C := RX7) (T := TX7) (N := 3) (n := 327683) (L := 0) (t := 0) dX7_numberOf_246 rfl wi_75 m_670 (Nat.le_of_ble_eq_true rfl) rfl rfl (by rw [gset_K]; exact hk145) (show gS (gset G144 327688 hh.toNat (gS G144 327683 1)) 327683 1 = gS G 327683 1 from by rw [gset_ne _ _ (fun w => absurd w.1 (by decide))]; exact hcnG144) ?_
            refine s_iconst dX7_numberOf_249 (by decide) ?_
            refine s_iadd dX7_numberOf_250 (by omega) ?_
            refine s_putf (ci := 8) (k := 1) (C := RX7) (T := TX7) (N := 3) (n := 327683) (L := 0) dX7_numberOf_251 rfl wi_75 m_670 (Nat.le_of_ble_eq_true rfl) rfl rfl tyX7_ok nmX7 rfl (Or.inl rfl) (by rw [gset_K]; exact hk145) ?_
            generalize eG150r : gset (gset G144 327688 hh.toNat (gS G144 327683 1)) 327683 1 (gS G 327683 1 + 1) = G150
            have eG150 := eG150r.symm
            have hcnG144x : cnC G144 = gS G 327683 1 := hcnG144
            have hv9 : ∀ i : Nat, i < 5 → tbC G144 (cnC G) i = gS G144 nm (5 * gS G 327683 1 + i).toNat := fun i _ => by unfold tbC; rw [hczG144, Int.toNat_natCast]; rfl
            have hw0 : gS G144 nm (5 * gS G 327683 1).toNat = k := by rw [show gS G144 nm (5 * gS G 327683 1).toNat = gS G136 nm (5 * gS G 327683 1).toNat from by rw [eG144]; exact gset_ne _ _ (fun w => by omega)]; rw [show gS G136 nm (5 * gS G 327683 1).toNat = gS G132 nm (5 * gS G 327683 1).toNat from by rw [eG136]; exact gset_ne _ _ (fun w => by omega)]; rw [show gS G132 nm (5 * gS G 327683 1).toNat = gS G128 nm (5 * gS G 327683 1).toNat from by rw [eG132]; exact gset_ne _ _ (fun w => by omega)]; rw [show gS G128 nm (5 * gS G 327683 1).toNat = gS G124 nm (5 * gS G 327683 1).toNat from by rw [eG128]; exact gset_ne _ _ (fun w => by omega)]; exact gsaE eG124
            have hw1 : gS G144 nm (5 * gS G 327683 1 + 1).toNat = x := by rw [show gS G144 nm (5 * gS G 327683 1 + 1).toNat = gS G136 nm (5 * gS G 327683 1 + 1).toNat from by rw [eG144]; exact gset_ne _ _ (fun w => by omega)]; rw [show gS G136 nm (5 * gS G 327683 1 + 1).toNat = gS G132 nm (5 * gS G 327683 1 + 1).toNat from by rw [eG136]; exact gset_ne _ _ (fun w => by omega)]; rw [show gS G132 nm (5 * gS G 327683 1 + 1).toNat = gS G128 nm (5 * gS G 327683 1 + 1).toNat from by rw [eG132]; exact gset_ne _ _ (fun w => by omega)]; exact gsaE eG128
            have hw2 : gS G144 nm (5 * gS G 327683 1 + 2).toNat = y := by rw [show gS G144 nm (5 * gS G 327683 1 + 2).toNat = gS G136 nm (5 * gS G 327683 1 + 2).toNat from by rw [eG144]; exact gset_ne _ _ (fun w => by omega)]; rw [show gS G136 nm (5 * gS G 327683 1 + 2).toNat = gS G132 nm (5 * gS G 327683 1 + 2).toNat from by rw [eG136]; exact gset_ne _ _ (fun w => by omega)]; exact gsaE eG132
            have hw3 : gS G144 nm (5 * gS G 327683 1 + 3).toNat = z := by rw [show gS G144 nm (5 * gS G 327683 1 + 3).toNat = gS G136 nm (5 * gS G 327683 1 + 3).toNat from by rw [eG144]; exact gset_ne _ _ (fun w => by omega)]; exact gsaE eG136
            have hw4 : gS G144 nm (5 * gS G 327683 1 + 4).toNat = gS G 327688 hh.toNat := by exact (gsaE eG144).trans (by first | rfl | (exact congrFun ((gset_o eG136 (x := 327688) (by omega)).trans ((gset_o eG132 (x := 327688) (by omega)).trans ((gset_o eG128 (x := 327688) (by omega)).trans ((gset_o eG124 (x := 327688) (by omega)).trans (hBG120.1 327688 (by decide) (by decide)))))) _))
            have hlow : ∀ j : Int, 0 ≤ j → j < 5 * gS G 327683 1 → gS G144 nm j.toNat = gS G qt j.toNat := fun j j0 j1 => by rw [show gS G144 nm j.toNat = gS G136 nm j.toNat from by rw [eG144]; exact gset_ne _ _ (fun w => by omega)]; rw [show gS G136 nm j.toNat = gS G132 nm j.toNat from by rw [eG136]; exact gset_ne _ _ (fun w => by omega)]; rw [show gS G132 nm j.toNat = gS G128 nm j.toNat from by rw [eG132]; exact gset_ne _ _ (fun w => by omega)]; rw [show gS G128 nm j.toNat = gS G124 nm j.toNat from by rw [eG128]; exact gset_ne _ _ (fun w => by omega)]; rw [show gS G124 nm j.toNat = gS G120 nm j.toNat from by rw [eG124]; exact gset_ne _ _ (fun w => by omega)]; all_goals (exact hBG120.2.1 j (by omega))
            have hoth : ∀ w, w ≠ 327683 → cde w ≠ 507 → gS G144 w = gS G w := fun w w1 w2 => by rw [gset_o eG144 (x := w) (fun q9 => w2 (by rw [q9]; exact hmq.2.1))]; rw [gset_o eG136 (x := w) (fun q9 => w2 (by rw [q9]; exact hmq.2.1))]; rw [gset_o eG132 (x := w) (fun q9 => w2 (by rw [q9]; exact hmq.2.1))]; rw [gset_o eG128 (x := w) (fun q9 => w2 (by rw [q9]; exact hmq.2.1))]; rw [gset_o eG124 (x := w) (fun q9 => w2 (by rw [q9]; exact hmq.2.1))]; all_goals (exact hBG120.1 w w1 w2)
            have h84 : tbC G144 (cnC G144) 4 = gS G 327688 hh.toNat := by rw [hcnG144x, ← hcq]; exact (hv9 4 (by decide)).trans ((congrArg (fun z : Int => gS G144 nm z.toNat) (by omega)).trans hw4)
            have hCG150 : CI a b G150 := by rw [eG150, ← hcnG144x]; exact hCG144.thing2 hczG144 hkzG144 (by omega) (by omega) (by omega) (by omega) (by rw [h84, hcnG144x]; exact h88)
            have hXG150 : KX G144 G150 := KX.of (by rw [eG150]; rfl)
            have hFG150 : WX (fun x => x = 327683 ∨ x = 327687 ∨ x = 327688) G G150 := WX.set (WX.set hFG144 rfl (by show _; decide)) eG150 (by show _; decide)
            have hfin : ∀ w y9, w ≠ 327683 → w ≠ 327688 → gS G150 w y9 = gS G144 w y9 := fun w y9 w1 w2 => by rw [eG150, gset_ne _ _ (fun q9 => w1 q9.1), gset_ne _ _ (fun q9 => w2 q9.1)]
            have hf0 : gS G150 327683 0 = (nm : Int) := by rw [eG150, gset_ne _ _ (fun q9 => absurd q9.2 (by decide)), gset_ne _ _ (fun q9 => absurd q9.1 (by decide))]; exact hczG144
            have hqn : nm ≠ 327683 ∧ nm ≠ 327688 := by omega
            have htb : ∀ (t : Int) (i : Nat), tbC G150 t i = gS G144 nm (5 * t + i).toNat := fun t i => by unfold tbC; rw [hf0, Int.toNat_natCast]; exact hfin _ _ hqn.1 hqn.2
            have hec : cnC G150 = cnC G + 1 := gsaE eG150
            have he8 : ∀ q9, gS G150 327688 q9 = if q9 = hh.toNat then cnC G else gS G 327688 q9 := fun q9 => by rw [eG150, gset_ne _ _ (fun q9 => absurd q9.1 (by decide)), gset_eq, hoth 327688 (by decide) (by decide)]; by_cases w : q9 = hh.toNat; (rw [if_pos ⟨rfl, w⟩, if_pos w]; first | rfl | exact hcnG144x); (rw [if_neg (fun w2 => w w2.2), if_neg w])
            have hNe := NeC.of (G' := G150) hC hND (fun w w1 w2 w3 => by funext y9; rw [hfin w y9 w1 w2, hoth w w1 w3])
            obtain ⟨r1, r2, r3⟩ := thC_new (p := hh.toNat) hTH hv hA hno hec (fun t i t0 t1 hi => by rw [htb, ht9]; exact hlow (5 * t + i) (by omega) (by omega)) ⟨(htb _ 0).trans ((congrArg (fun z : Int => gS G144 nm z.toNat) (by omega)).trans hw0), (htb _ 1).trans ((congrArg (fun z : Int => gS G144 nm z.toNat) (by omega)).trans hw1), (htb _ 2).trans ((congrArg (fun z : Int => gS G144 nm z.toNat) (by omega)).trans hw2), (htb _ 3).trans ((congrArg (fun z : Int => gS G144 nm z.toNat) (by omega)).trans hw3), (htb _ 4).trans ((congrArg (fun z : Int => gS G144 nm z.toNat) (by omega)).trans hw4)⟩ he8 (by rw [hhe]) hNe.1 hNe.2
            show WP kX7_numberOf X 254 [some (2, ((327683 : Nat) : Int)), some (0, k), some (0, x), some (0, y), some (0, z), some (0, w6), some (0, hh), some (0, n13), some (0, 5 * (gS G 327683 1)), none] [] G150
            refine s_aload_n dX7_numberOf_254 rfl (Int.natCast_nonneg _) ?_
            refine s_alv (327683) (by simp) (fun al152 => ?_)
            have hv151 : 0 ≤ (gS G150 327683 1) ∧ (gS G150 327683 1) ≤ 200000 := hCG150.1.v (j := 1) (by decide : cde 327683 = 503) al152 (by rw [(hXG150.k hk145 (by decide))]; exact Nat.le_of_ble_eq_true rfl)
            refine s_getf (ci := 8) (k := 1) (C := RX7) (T := TX7) (N := 3) (n := 327683) (L := 0) (t := 0) dX7_numberOf_255 rfl wi_75 m_670 (Nat.le_of_ble_eq_true rfl) rfl rfl (hXG150.k hk145 (by decide)) (gsaE eG150) ?_
            refine s_iconst dX7_numberOf_258 (by decide) ?_
            refine s_isub dX7_numberOf_259 (by omega) ?_
            exact s_iret hR dX7_numberOf_260 rfl (hQ ((gS G 327683 1 + 1) - 1) G150 hCG150 (KX.trans (KX.trans (KX.trans (KX.trans (KX.trans (KX.trans hXG120 hXG124) hXG128) hXG132) hXG136) hXG144) hXG150) hFG150 ⟨r1, r2, by rw [show (gS G 327683 1 + 1) - 1 = cnC G by omega]; exact r3⟩)
        · -- 62 to 65
          have h69 := hc2 n13 (by omega) (by omega)
          rw [ht94] at h69
          refine s_iconst dX7_numberOf_65 (by decide) ?_
          refine s_iload dX7_numberOf_66 rfl ?_
          refine s_imul dX7_numberOf_68 (by omega) ?_
          refine s_istore dX7_numberOf_69 (by decide) (lv' := [some (2, ((327683 : Nat) : Int)), some (0, k), some (0, x), some (0, y), some (0, z), some (0, w6), some (0, hh), some (0, n13), some (0, i13), some (0, 5 * n13)]) rfl ?_
          refine s_aload_n dX7_numberOf_71 rfl (Int.natCast_nonneg _) ?_
          refine s_getf (ci := 8) (k := 0) (C := RX7) (T := TX7) (N := 3) (n := 327683) (L := 0) (t := 2) dX7_numberOf_72 rfl wi_75 m_671 (Nat.le_of_ble_eq_true rfl) rfl rfl hk7 ht1 ?_
          refine s_iload dX7_numberOf_75 rfl ?_
          refine s_iald dX7_numberOf_77 ht4 (by omega) (by omega) rfl ?_
          refine s_iload_n dX7_numberOf_78 rfl ?_
          refine s_icmp_ne (tgt := 125) dX7_numberOf_79 (by decide) (fun c154 => ?_) (fun c154 => ?_)
          · -- 79 to 125
            refine s_aload_n dX7_numberOf_125 rfl (Int.natCast_nonneg _) ?_
            refine s_getf (ci := 8) (k := 0) (C := RX7) (T := TX7) (N := 3) (n := 327683) (L := 0) (t := 2) dX7_numberOf_126 rfl wi_75 m_671 (Nat.le_of_ble_eq_true rfl) rfl rfl hk7 ht1 ?_
            refine s_iload dX7_numberOf_129 rfl ?_
            refine s_iconst dX7_numberOf_131 (by decide) ?_
            refine s_iadd dX7_numberOf_132 (by omega) ?_
            refine s_iald dX7_numberOf_133 ht4 (by omega) (by omega) rfl ?_
            refine s_istore dX7_numberOf_134 (by decide) (lv' := [some (2, ((327683 : Nat) : Int)), some (0, k), some (0, x), some (0, y), some (0, z), some (0, w6), some (0, hh), some (0, gS G qt (((5 * n13) + 4 : Int).toNat)), some (0, i13), some (0, 5 * n13)]) rfl ?_
            refine s_iinc dX7_numberOf_136 (v := i13) rfl (by omega) (by decide) (lv' := [some (2, ((327683 : Nat) : Int)), some (0, k), some (0, x), some (0, y), some (0, z), some (0, w6), some (0, hh), some (0, gS G qt (((5 * n13) + 4 : Int).toNat)), some (0, i13 + 1), some (0, 5 * n13)]) rfl ?_
            refine s_goto (tgt := 51) dX7_numberOf_139 (by decide) ?_
            refine s_mask [true, true, true, true, true, true, true, true, true, false] (lv' := [some (2, ((327683 : Nat) : Int)), some (0, k), some (0, x), some (0, y), some (0, z), some (0, w6), some (0, hh), some (0, gS G qt (((5 * n13) + 4 : Int).toNat)), some (0, i13 + 1), none]) rfl ?_
            exact ih13 (gS G qt (((5 * n13) + 4 : Int).toNat)) (i13 + 1) (⟨(by omega), (by intro t ht; obtain ⟨m, hm⟩ := ir13 t ht; match m, hm with | 0, hm => exact hm.elim | m + 1, hm => rcases hm.2 with q | q; (exfalso; subst q; obtain ⟨-, z2, z3, z4, z5⟩ := ht; rw [ht90] at z2; rw [ht91] at z3; rw [ht92] at z4; rw [ht93] at z5; omega); (rw [ht94] at q; exact ⟨m, q⟩))⟩) (by omega)
          · -- 79 to 82
            refine s_aload_n dX7_numberOf_82 rfl (Int.natCast_nonneg _) ?_
            refine s_getf (ci := 8) (k := 0) (C := RX7) (T := TX7) (N := 3) (n := 327683) (L := 0) (t := 2) dX7_numberOf_83 rfl wi_75 m_671 (Nat.le_of_ble_eq_true rfl) rfl rfl hk7 ht1 ?_
            refine s_iload dX7_numberOf_86 rfl ?_
            refine s_iconst dX7_numberOf_88 (by decide) ?_
            refine s_iadd dX7_numberOf_89 (by omega) ?_
            refine s_iald dX7_numberOf_90 ht4 (by omega) (by omega) rfl ?_
            refine s_iload_n dX7_numberOf_91 rfl ?_
            refine s_icmp_ne (tgt := 125) dX7_numberOf_92 (by decide) (fun c157 => ?_) (fun c157 => ?_)
            · -- 92 to 125
              refine s_aload_n dX7_numberOf_125 rfl (Int.natCast_nonneg _) ?_
              refine s_getf (ci := 8) (k := 0) (C := RX7) (T := TX7) (N := 3) (n := 327683) (L := 0) (t := 2) dX7_numberOf_126 rfl wi_75 m_671 (Nat.le_of_ble_eq_true rfl) rfl rfl hk7 ht1 ?_
              refine s_iload dX7_numberOf_129 rfl ?_
              refine s_iconst dX7_numberOf_131 (by decide) ?_
              refine s_iadd dX7_numberOf_132 (by omega) ?_
              refine s_iald dX7_numberOf_133 ht4 (by omega) (by omega) rfl ?_
              refine s_istore dX7_numberOf_134 (by decide) (lv' := [some (2, ((327683 : Nat) : Int)), some (0, k), some (0, x), some (0, y), some (0, z), some (0, w6), some (0, hh), some (0, gS G qt (((5 * n13) + 4 : Int).toNat)), some (0, i13), some (0, 5 * n13)]) rfl ?_
              refine s_iinc dX7_numberOf_136 (v := i13) rfl (by omega) (by decide) (lv' := [some (2, ((327683 : Nat) : Int)), some (0, k), some (0, x), some (0, y), some (0, z), some (0, w6), some (0, hh), some (0, gS G qt (((5 * n13) + 4 : Int).toNat)), some (0, i13 + 1), some (0, 5 * n13)]) rfl ?_
              refine s_goto (tgt := 51) dX7_numberOf_139 (by decide) ?_
              refine s_mask [true, true, true, true, true, true, true, true, true, false] (lv' := [some (2, ((327683 : Nat) : Int)), some (0, k), some (0, x), some (0, y), some (0, z), some (0, w6), some (0, hh), some (0, gS G qt (((5 * n13) + 4 : Int).toNat)), some (0, i13 + 1), none]) rfl ?_
              exact ih13 (gS G qt (((5 * n13) + 4 : Int).toNat)) (i13 + 1) (⟨(by omega), (by intro t ht; obtain ⟨m, hm⟩ := ir13 t ht; match m, hm with | 0, hm => exact hm.elim | m + 1, hm => rcases hm.2 with q | q; (exfalso; subst q; obtain ⟨-, z2, z3, z4, z5⟩ := ht; rw [ht90] at z2; rw [ht91] at z3; rw [ht92] at z4; rw [ht93] at z5; omega); (rw [ht94] at q; exact ⟨m, q⟩))⟩) (by omega)
            · -- 92 to 95
              refine s_aload_n dX7_numberOf_95 rfl (Int.natCast_nonneg _) ?_
              refine s_getf (ci := 8) (k := 0) (C := RX7) (T := TX7) (N := 3) (n := 327683) (L := 0) (t := 2) dX7_numberOf_96 rfl wi_75 m_671 (Nat.le_of_ble_eq_true rfl) rfl rfl hk7 ht1 ?_
              refine s_iload dX7_numberOf_99 rfl ?_
              refine s_iconst dX7_numberOf_101 (by decide) ?_
              refine s_iadd dX7_numberOf_102 (by omega) ?_
              refine s_iald dX7_numberOf_103 ht4 (by omega) (by omega) rfl ?_
              refine s_iload_n dX7_numberOf_104 rfl ?_
              refine s_icmp_ne (tgt := 125) dX7_numberOf_105 (by decide) (fun c160 => ?_) (fun c160 => ?_)
              · -- 105 to 125
                refine s_aload_n dX7_numberOf_125 rfl (Int.natCast_nonneg _) ?_
                refine s_getf (ci := 8) (k := 0) (C := RX7) (T := TX7) (N := 3) (n := 327683) (L := 0) (t := 2) dX7_numberOf_126 rfl wi_75 m_671 (Nat.le_of_ble_eq_true rfl) rfl rfl hk7 ht1 ?_
                refine s_iload dX7_numberOf_129 rfl ?_
                refine s_iconst dX7_numberOf_131 (by decide) ?_
                refine s_iadd dX7_numberOf_132 (by omega) ?_
                refine s_iald dX7_numberOf_133 ht4 (by omega) (by omega) rfl ?_
                refine s_istore dX7_numberOf_134 (by decide) (lv' := [some (2, ((327683 : Nat) : Int)), some (0, k), some (0, x), some (0, y), some (0, z), some (0, w6), some (0, hh), some (0, gS G qt (((5 * n13) + 4 : Int).toNat)), some (0, i13), some (0, 5 * n13)]) rfl ?_
                refine s_iinc dX7_numberOf_136 (v := i13) rfl (by omega) (by decide) (lv' := [some (2, ((327683 : Nat) : Int)), some (0, k), some (0, x), some (0, y), some (0, z), some (0, w6), some (0, hh), some (0, gS G qt (((5 * n13) + 4 : Int).toNat)), some (0, i13 + 1), some (0, 5 * n13)]) rfl ?_
                refine s_goto (tgt := 51) dX7_numberOf_139 (by decide) ?_
                refine s_mask [true, true, true, true, true, true, true, true, true, false] (lv' := [some (2, ((327683 : Nat) : Int)), some (0, k), some (0, x), some (0, y), some (0, z), some (0, w6), some (0, hh), some (0, gS G qt (((5 * n13) + 4 : Int).toNat)), some (0, i13 + 1), none]) rfl ?_
                exact ih13 (gS G qt (((5 * n13) + 4 : Int).toNat)) (i13 + 1) (⟨(by omega), (by intro t ht; obtain ⟨m, hm⟩ := ir13 t ht; match m, hm with | 0, hm => exact hm.elim | m + 1, hm => rcases hm.2 with q | q; (exfalso; subst q; obtain ⟨-, z2, z3, z4, z5⟩ := ht; rw [ht90] at z2; rw [ht91] at z3; rw [ht92] at z4; rw [ht93] at z5; omega); (rw [ht94] at q; exact ⟨m, q⟩))⟩) (by omega)
              · -- 105 to 108
                refine s_aload_n dX7_numberOf_108 rfl (Int.natCast_nonneg _) ?_
                refine s_getf (ci := 8) (k := 0) (C := RX7) (T := TX7) (N := 3) (n := 327683) (L := 0) (t := 2) dX7_numberOf_109 rfl wi_75 m_671 (Nat.le_of_ble_eq_true rfl) rfl rfl hk7 ht1 ?_
                refine s_iload dX7_numberOf_112 rfl ?_
                refine s_iconst dX7_numberOf_114 (by decide) ?_
                refine s_iadd dX7_numberOf_115 (by omega) ?_
                refine s_iald dX7_numberOf_116 ht4 (by omega) (by omega) rfl ?_
                refine s_iload dX7_numberOf_117 rfl ?_
                refine s_icmp_ne (tgt := 125) dX7_numberOf_119 (by decide) (fun c163 => ?_) (fun c163 => ?_)
                · -- 119 to 125
                  refine s_aload_n dX7_numberOf_125 rfl (Int.natCast_nonneg _) ?_
                  refine s_getf (ci := 8) (k := 0) (C := RX7) (T := TX7) (N := 3) (n := 327683) (L := 0) (t := 2) dX7_numberOf_126 rfl wi_75 m_671 (Nat.le_of_ble_eq_true rfl) rfl rfl hk7 ht1 ?_
                  refine s_iload dX7_numberOf_129 rfl ?_
                  refine s_iconst dX7_numberOf_131 (by decide) ?_
                  refine s_iadd dX7_numberOf_132 (by omega) ?_
                  refine s_iald dX7_numberOf_133 ht4 (by omega) (by omega) rfl ?_
                  refine s_istore dX7_numberOf_134 (by decide) (lv' := [some (2, ((327683 : Nat) : Int)), some (0, k), some (0, x), some (0, y), some (0, z), some (0, w6), some (0, hh), some (0, gS G qt (((5 * n13) + 4 : Int).toNat)), some (0, i13), some (0, 5 * n13)]) rfl ?_
                  refine s_iinc dX7_numberOf_136 (v := i13) rfl (by omega) (by decide) (lv' := [some (2, ((327683 : Nat) : Int)), some (0, k), some (0, x), some (0, y), some (0, z), some (0, w6), some (0, hh), some (0, gS G qt (((5 * n13) + 4 : Int).toNat)), some (0, i13 + 1), some (0, 5 * n13)]) rfl ?_
                  refine s_goto (tgt := 51) dX7_numberOf_139 (by decide) ?_
                  refine s_mask [true, true, true, true, true, true, true, true, true, false] (lv' := [some (2, ((327683 : Nat) : Int)), some (0, k), some (0, x), some (0, y), some (0, z), some (0, w6), some (0, hh), some (0, gS G qt (((5 * n13) + 4 : Int).toNat)), some (0, i13 + 1), none]) rfl ?_
                  exact ih13 (gS G qt (((5 * n13) + 4 : Int).toNat)) (i13 + 1) (⟨(by omega), (by intro t ht; obtain ⟨m, hm⟩ := ir13 t ht; match m, hm with | 0, hm => exact hm.elim | m + 1, hm => rcases hm.2 with q | q; (exfalso; subst q; obtain ⟨-, z2, z3, z4, z5⟩ := ht; rw [ht90] at z2; rw [ht91] at z3; rw [ht92] at z4; rw [ht93] at z5; omega); (rw [ht94] at q; exact ⟨m, q⟩))⟩) (by omega)
                · -- 119 to 122
                  refine s_iload dX7_numberOf_122 rfl ?_
                  exact s_iret hR dX7_numberOf_124 rfl (hQ n13 G hC KX.rf WX.rf ⟨hTH0, TxC.rf, ⟨⟨by omega, by omega⟩, by rw [ht90]; omega, by rw [ht91]; omega, by rw [ht92]; omega, by rw [ht93]; omega⟩⟩)
  exact L13 _ (gS G 327688 ((hh : Int).toNat)) 0 (⟨(by omega), (by intro t ht; obtain ⟨⟨z0, z1⟩, z2, z3, z4, z5⟩ := id ht; obtain ⟨m, hm⟩ := hc3 t z0 z1; rw [z2, z3, z4, z5, ← hhe] at hm; exact ⟨m, hm⟩)⟩) (Nat.lt_succ_self _)
