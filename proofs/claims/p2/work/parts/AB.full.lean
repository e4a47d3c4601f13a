abbrev kX1_findUses : KD := (RX1, cX1_findUses, 4, none, [])
def TX1_findUses : TR := fun as G Qr => ∃ (o : Nat) (a b : Nat), as = [(2, ((o : Nat) : Int))] ∧ CI a b G ∧ (a ≤ 2840000 ∧ b ≤ 590000) ∧ (isFl o) ∧ ∀ (G' : LG), CI a b G' → KX G G' → WX (fun x => x = o + 3) G G' → (True) → Qr (.inl none) G'
set_option maxHeartbeats 4000000 in
set_option maxRecDepth 100000 in
theorem gX1_findUses : Good kX1_findUses yX1_findUses 1 TX1_findUses := by
  refine good_of (by decide) rfl rfl (fun as G Qr h => ?_) (fun X as G Qr hcf hR hT oa => ?_)
  · obtain ⟨o, a, b, rfl, -⟩ := h; exact Nat.le_of_ble_eq_true rfl
  obtain ⟨o, a, b, rfl, hC, hab, ho, hQ⟩ := hT
  show WP kX1_findUses X 0 [some (2, ((o : Nat) : Int)), none, none, none] [] G
  refine s_iconst dX1_findUses_0 (by decide) ?_
  refine s_istore_n dX1_findUses_1 (by decide) (lv' := [some (2, ((o : Nat) : Int)), some (0, 0), none, none]) rfl ?_
  have L1 : ∀ (n1 : Nat) (k1 : Int) (G1 : LG), CI a b G1 → KX G G1 → WX (fun x => x = o + 3) G G1 → ((0 ≤ k1 ∧ k1 ≤ 6)) → (6 - k1).toNat < n1 → WP kX1_findUses X 2 [some (2, ((o : Nat) : Int)), some (0, k1), none, none] [] G1 := by
    intro n1
    induction n1 with
    | zero => intro k1 G1 hCG1 hXG1 hFG1 hi1 hm1; exact absurd hm1 (Nat.not_lt_zero _)
    | succ n1 ih1 =>
      intro k1 G1 hCG1 hXG1 hFG1 hi1 hm1
      have ik1 := hi1
      refine s_iload_n dX1_findUses_2 rfl ?_
      refine s_bipush dX1_findUses_3 rfl (by decide) ?_
      refine s_icmp_ge (tgt := 78) dX1_findUses_5 (by decide) (fun c2 => ?_) (fun c2 => ?_)
      · -- 5 to 78
        refine s_iconst dX1_findUses_78 (by decide) ?_
        refine s_istore_n dX1_findUses_79 (by decide) (lv' := [some (2, ((o : Nat) : Int)), some (0, 0), none, none]) rfl ?_
        have L3 : ∀ (n3 : Nat) (m3 : Int) (G3 : LG), CI a b G3 → KX G1 G3 → WX (fun x => x = o + 3) G G3 → ((0 ≤ m3 ∧ m3 ≤ 6)) → (6 - m3).toNat < n3 → WP kX1_findUses X 80 [some (2, ((o : Nat) : Int)), some (0, m3), none, none] [] G3 := by
          intro n3
          induction n3 with
          | zero => intro m3 G3 hCG3 hXG3 hFG3 hi3 hm3; exact absurd hm3 (Nat.not_lt_zero _)
          | succ n3 ih3 =>
            intro m3 G3 hCG3 hXG3 hFG3 hi3 hm3
            have im3 := hi3
            refine s_iload_n dX1_findUses_80 rfl ?_
            refine s_bipush dX1_findUses_81 rfl (by decide) ?_
            refine s_icmp_ge (tgt := 134) dX1_findUses_83 (by decide) (fun c4 => ?_) (fun c4 => ?_)
            · -- 83 to 134
              exact s_vret hR dX1_findUses_134 rfl (hQ G3 hCG3 (KX.trans hXG1 hXG3) hFG3 trivial)
            · -- 83 to 86
              refine s_iconst dX1_findUses_86 (by decide) ?_
              refine s_istore_n dX1_findUses_87 (by decide) (lv' := [some (2, ((o : Nat) : Int)), some (0, m3), some (0, 0), none]) rfl ?_
              have L5 : ∀ (n5 : Nat) (l5 : Int) (G5 : LG), CI a b G5 → KX G3 G5 → WX (fun x => x = o + 3) G G5 → ((0 ≤ l5 ∧ l5 ≤ 6)) → (6 - l5).toNat < n5 → WP kX1_findUses X 88 [some (2, ((o : Nat) : Int)), some (0, m3), some (0, l5), none] [] G5 := by
                intro n5
                induction n5 with
                | zero => intro l5 G5 hCG5 hXG5 hFG5 hi5 hm5; exact absurd hm5 (Nat.not_lt_zero _)
                | succ n5 ih5 =>
                  intro l5 G5 hCG5 hXG5 hFG5 hi5 hm5
                  have il5 := hi5
                  refine s_iload_n dX1_findUses_88 rfl ?_
                  refine s_bipush dX1_findUses_89 rfl (by decide) ?_
                  refine s_icmp_ge (tgt := 128) dX1_findUses_91 (by decide) (fun c6 => ?_) (fun c6 => ?_)
                  · -- 91 to 128
                    refine s_iinc dX1_findUses_128 (v := m3) rfl (by omega) (by decide) (lv' := [some (2, ((o : Nat) : Int)), some (0, m3 + 1), some (0, l5), none]) rfl ?_
                    refine s_goto (tgt := 80) dX1_findUses_131 (by decide) ?_
                    refine s_mask [true, true, false, false] (lv' := [some (2, ((o : Nat) : Int)), some (0, m3 + 1), none, none]) rfl ?_
                    exact ih3 (m3 + 1) G5 hCG5 (KX.trans hXG3 hXG5) hFG5 ((by omega)) (by omega)
                  · -- 91 to 94
                    refine s_aload_n dX1_findUses_94 rfl (Int.natCast_nonneg _) ?_
                    refine s_alv (o) (by simp) (fun al7 => ?_)
                    have hk8 : gK G5 (o) = (10, 0) := hCG5.1.k (by rw [cde_f (by omega) (by omega)]; omega : cde o = 400) al7
                    have hv9 : gS G5 o 2 = ((o + 3 : Nat) : Int) := by have h9 : (gS G5 o 2) = (((o % 1048576) + 3 : Nat) : Int) := hCG5.1.v (j := 2) (by rw [cde_f (by omega) (by omega)]; omega : cde o = 400) al7 (by rw [hk8]; exact Nat.le_of_ble_eq_true rfl); omega
                    refine s_getf (ci := 2) (k := 2) (C := RX1) (T := TX1) (N := 5) (n := o) (L := 0) (t := 2) dX1_findUses_95 rfl wi_66 m_412 (Nat.le_of_ble_eq_true rfl) rfl rfl hk8 hv9 ?_
                    refine s_iload_n dX1_findUses_98 rfl ?_
                    refine s_alv (o + 3) (by simp) (fun al10 => ?_)
                    have hk11 : gK G5 (o + 3) = (1, 6) := hCG5.1.k (by rw [cde_f (by omega) (by omega)]; omega : cde (o + 3) = 403) al10
                    refine s_iald dX1_findUses_99 hk11 (by omega) (by omega) rfl ?_
                    refine s_iload_n dX1_findUses_100 rfl ?_
                    refine s_callSN (own := RX1) rfl (by decide +kernel) (as := [(0, gS G5 (o + 3) ((l5 : Int).toNat)), (0, m3)]) (rest := []) gX11_isIn dX1_findUses_101 m_1777 m_714 m_97 ⟨by decide, by decide, show (parseMethodDescriptor yX11_isIn.desc).map (fun d => d.parameters.length) = some 2 from by decide +kernel⟩ (Nat.le_of_ble_eq_true rfl) (by rw [hcf]; exact Nat.le_of_ble_eq_true rfl) rfl (Nat.le_of_ble_eq_true rfl) ⟨gS G5 (o + 3) ((l5 : Int).toNat), m3, rfl, fun rr12 hp13 => ?_⟩
                    show WP kX1_findUses X 104 [some (2, ((o : Nat) : Int)), some (0, m3), some (0, l5), none] [(0, rr12)] G5
                    refine s_if_eq (tgt := 122) dX1_findUses_104 (by decide) (fun c14 => ?_) (fun c14 => ?_)
                    · -- 104 to 122
                      refine s_iinc dX1_findUses_122 (v := l5) rfl (by omega) (by decide) (lv' := [some (2, ((o : Nat) : Int)), some (0, m3), some (0, l5 + 1), none]) rfl ?_
                      refine s_goto (tgt := 88) dX1_findUses_125 (by decide) ?_
                      exact ih5 (l5 + 1) G5 hCG5 hXG5 hFG5 ((by omega)) (by omega)
                    · -- 104 to 107
                      refine s_aload_n dX1_findUses_107 rfl (Int.natCast_nonneg _) ?_
                      have hv15 : gS G5 o 2 = ((o + 3 : Nat) : Int) := by have h9 : (gS G5 o 2) = (((o % 1048576) + 3 : Nat) : Int) := hCG5.1.v (j := 2) (by rw [cde_f (by omega) (by omega)]; omega : cde o = 400) al7 (by rw [hk8]; exact Nat.le_of_ble_eq_true rfl); omega
                      refine s_getf (ci := 2) (k := 2) (C := RX1) (T := TX1) (N := 5) (n := o) (L := 0) (t := 2) dX1_findUses_108 rfl wi_66 m_412 (Nat.le_of_ble_eq_true rfl) rfl rfl hk8 hv15 ?_
                      refine s_iload_n dX1_findUses_111 rfl ?_
                      refine s_dup2 dX1_findUses_112 (by simp) (by simp) ?_
                      refine s_iald dX1_findUses_113 hk11 (by omega) (by omega) rfl ?_
                      refine s_aload_n dX1_findUses_114 rfl (Int.natCast_nonneg _) ?_
                      have hv16 : gS G5 o 2 = ((o + 3 : Nat) : Int) := by have h9 : (gS G5 o 2) = (((o % 1048576) + 3 : Nat) : Int) := hCG5.1.v (j := 2) (by rw [cde_f (by omega) (by omega)]; omega : cde o = 400) al7 (by rw [hk8]; exact Nat.le_of_ble_eq_true rfl); omega
                      refine s_getf (ci := 2) (k := 2) (C := RX1) (T := TX1) (N := 5) (n := o) (L := 0) (t := 2) dX1_findUses_115 rfl wi_66 m_412 (Nat.le_of_ble_eq_true rfl) rfl rfl hk8 hv16 ?_
                      refine s_iload_n dX1_findUses_118 rfl ?_
                      refine s_iald dX1_findUses_119 hk11 (by omega) (by omega) rfl ?_
                      refine s_ior dX1_findUses_120 ?_
                      refine s_iast dX1_findUses_121 hk11 (by omega) (by omega) ?_
                      generalize eG17r : gset G5 (o + 3) ((l5 : Int).toNat) (i_or (gS G5 (o + 3) ((l5 : Int).toNat)) (gS G5 (o + 3) ((m3 : Int).toNat))) = G17
                      have eG17 := eG17r.symm
                      have hCG17 : CI a b G17 := by rw [eG17]; exact hCG5.set (by rw [(by rw [cde_f (by omega) (by omega)]; omega : cde (o + 3) = 403)]; rfl) (by rw [(by rw [cde_f (by omega) (by omega)]; omega : cde (o + 3) = 403)]; exact trivial)
                      have hXG17 : KX G5 G17 := KX.set KX.rf eG17
                      have hFG17 : WX (fun x => x = o + 3) G G17 := WX.set hFG5 eG17 (by show _; omega)
                      show WP kX1_findUses X 122 [some (2, ((o : Nat) : Int)), some (0, m3), some (0, l5), none] [] G17
                      refine s_iinc dX1_findUses_122 (v := l5) rfl (by omega) (by decide) (lv' := [some (2, ((o : Nat) : Int)), some (0, m3), some (0, l5 + 1), none]) rfl ?_
                      refine s_goto (tgt := 88) dX1_findUses_125 (by decide) ?_
                      exact ih5 (l5 + 1) G17 hCG17 (KX.trans hXG5 hXG17) hFG17 ((by omega)) (by omega)
              exact L5 _ 0 G3 hCG3 KX.rf hFG3 ((by omega)) (Nat.lt_succ_self _)
        exact L3 _ 0 G1 hCG1 KX.rf hFG1 ((by omega)) (Nat.lt_succ_self _)
      · -- 5 to 8
        refine s_aload_n dX1_findUses_8 rfl (Int.natCast_nonneg _) ?_
        refine s_alv (o) (by simp) (fun al18 => ?_)
        have hk19 : gK G1 (o) = (10, 0) := hCG1.1.k (by rw [cde_f (by omega) (by omega)]; omega : cde o = 400) al18
        have hv20 : gS G1 o 2 = ((o + 3 : Nat) : Int) := by have h9 : (gS G1 o 2) = (((o % 1048576) + 3 : Nat) : Int) := hCG1.1.v (j := 2) (by rw [cde_f (by omega) (by omega)]; omega : cde o = 400) al18 (by rw [hk19]; exact Nat.le_of_ble_eq_true rfl); omega
        refine s_getf (ci := 2) (k := 2) (C := RX1) (T := TX1) (N := 5) (n := o) (L := 0) (t := 2) dX1_findUses_9 rfl wi_66 m_412 (Nat.le_of_ble_eq_true rfl) rfl rfl hk19 hv20 ?_
        refine s_iload_n dX1_findUses_12 rfl ?_
        refine s_iconst dX1_findUses_13 (by decide) ?_
        refine s_alv (o + 3) (by simp) (fun al21 => ?_)
        have hk22 : gK G1 (o + 3) = (1, 6) := hCG1.1.k (by rw [cde_f (by omega) (by omega)]; omega : cde (o + 3) = 403) al21
        refine s_iast dX1_findUses_14 hk22 (by omega) (by omega) ?_
        generalize eG23r : gset G1 (o + 3) ((k1 : Int).toNat) 0 = G23
        have eG23 := eG23r.symm
        have hCG23 : CI a b G23 := by rw [eG23]; exact hCG1.set (by rw [(by rw [cde_f (by omega) (by omega)]; omega : cde (o + 3) = 403)]; rfl) (by rw [(by rw [cde_f (by omega) (by omega)]; omega : cde (o + 3) = 403)]; exact trivial)
        have hXG23 : KX G1 G23 := KX.set KX.rf eG23
        have hFG23 : WX (fun x => x = o + 3) G G23 := WX.set hFG1 eG23 (by show _; omega)
        show WP kX1_findUses X 15 [some (2, ((o : Nat) : Int)), some (0, k1), none, none] [] G23
        refine s_iconst dX1_findUses_15 (by decide) ?_
        refine s_istore_n dX1_findUses_16 (by decide) (lv' := [some (2, ((o : Nat) : Int)), some (0, k1), some (0, 0), none]) rfl ?_
        have L24 : ∀ (n24 : Nat) (i24 : Int) (G24 : LG), CI a b G24 → KX G23 G24 → WX (fun x => x = o + 3) G G24 → ((0 ≤ i24 ∧ i24 ≤ 200)) → (200 - i24).toNat < n24 → WP kX1_findUses X 17 [some (2, ((o : Nat) : Int)), some (0, k1), some (0, i24), none] [] G24 := by
          intro n24
          induction n24 with
          | zero => intro i24 G24 hCG24 hXG24 hFG24 hi24 hm24; exact absurd hm24 (Nat.not_lt_zero _)
          | succ n24 ih24 =>
            intro i24 G24 hCG24 hXG24 hFG24 hi24 hm24
            have ii24 := hi24
            refine s_iload_n dX1_findUses_17 rfl ?_
            refine s_aload_n dX1_findUses_18 rfl (Int.natCast_nonneg _) ?_
            have hk25 : gK G24 (o) = (10, 0) := ((hXG24).k ((hXG23).k hk19 (by decide)) (by decide))
            refine s_alv (o) (by simp) (fun al26 => ?_)
            have hv27 : gS G24 o 1 = ((o + 2 : Nat) : Int) := by have h9 : (gS G24 o 1) = (((o % 1048576) + 2 : Nat) : Int) := hCG24.1.v (j := 1) (by rw [cde_f (by omega) (by omega)]; omega : cde o = 400) al26 (by rw [hk25]; exact Nat.le_of_ble_eq_true rfl); omega
            refine s_getf (ci := 2) (k := 1) (C := RX1) (T := TX1) (N := 5) (n := o) (L := 0) (t := 2) dX1_findUses_19 rfl wi_66 m_411 (Nat.le_of_ble_eq_true rfl) rfl rfl hk25 hv27 ?_
            refine s_iload_n dX1_findUses_22 rfl ?_
            refine s_alv (o + 2) (by simp) (fun al28 => ?_)
            have hk29 : gK G24 (o + 2) = (1, 6) := hCG24.1.k (by rw [cde_f (by omega) (by omega)]; omega : cde (o + 2) = 402) al28
            have hv30 : 0 ≤ (gS G24 (o + 2) (k1 : Int).toNat) ∧ (gS G24 (o + 2) (k1 : Int).toNat) ≤ 200 := hCG24.1.v (j := (k1 : Int).toNat) (by rw [cde_f (by omega) (by omega)]; omega : cde (o + 2) = 402) al28 (by rw [hk29]; show (k1 : Int).toNat < 6; omega)
            refine s_iald dX1_findUses_23 hk29 (by omega) (by omega) rfl ?_
            refine s_icmp_ge (tgt := 72) dX1_findUses_24 (by decide) (fun c31 => ?_) (fun c31 => ?_)
            · -- 24 to 72
              refine s_iinc dX1_findUses_72 (v := k1) rfl (by omega) (by decide) (lv' := [some (2, ((o : Nat) : Int)), some (0, k1 + 1), some (0, i24), none]) rfl ?_
              refine s_goto (tgt := 2) dX1_findUses_75 (by decide) ?_
              refine s_mask [true, true, false, false] (lv' := [some (2, ((o : Nat) : Int)), some (0, k1 + 1), none, none]) rfl ?_
              exact ih1 (k1 + 1) G24 hCG24 (KX.trans (KX.trans hXG1 hXG23) hXG24) hFG24 ((by omega)) (by omega)
            · -- 24 to 27
              refine s_aload_n dX1_findUses_27 rfl (Int.natCast_nonneg _) ?_
              have hv32 : gS G24 o 0 = ((o + 1 : Nat) : Int) := by have h9 : (gS G24 o 0) = (((o % 1048576) + 1 : Nat) : Int) := hCG24.1.v (j := 0) (by rw [cde_f (by omega) (by omega)]; omega : cde o = 400) al26 (by rw [hk25]; exact Nat.le_of_ble_eq_true rfl); omega
              refine s_getf (ci := 2) (k := 0) (C := RX1) (T := TX1) (N := 5) (n := o) (L := 0) (t := 2) dX1_findUses_28 rfl wi_66 m_410 (Nat.le_of_ble_eq_true rfl) rfl rfl hk25 hv32 ?_
              refine s_iload_n dX1_findUses_31 rfl ?_
              refine s_alv (o + 1) (by simp) (fun al33 => ?_)
              have hk34 : gK G24 (o + 1) = (4, 6) := hCG24.1.k (by rw [cde_f (by omega) (by omega)]; omega : cde (o + 1) = 401) al33
              have hv36b : (gS G24 (o + 1) (k1 : Int).toNat) = ((((o + 1) % 1048576) + 7 + ((k1 : Int).toNat) : Nat) : Int) := hCG24.1.v (j := (k1 : Int).toNat) (by rw [cde_f (by omega) (by omega)]; omega : cde (o + 1) = 401) al33 (by rw [hk34]; show (k1 : Int).toNat < 6; omega)
              obtain ⟨q35, hv36⟩ : ∃ q : Nat, gS G24 (o + 1) (k1 : Int).toNat = (q : Int) := ⟨(gS G24 (o + 1) (k1 : Int).toNat).toNat, by omega⟩
              rw [hv36] at hv36b
              refine s_aald4 dX1_findUses_32 hk34 (by omega) (by omega) hv36 ?_
              refine s_iload_n dX1_findUses_33 rfl ?_
              refine s_alv (q35) (by simp) (fun al37 => ?_)
              have hk38 := hCG24.1.kf (show (408 ≤ cde q35 ∧ cde q35 < 414) ∨ (416 ≤ cde q35 ∧ cde q35 < 422) from by rw [cde_f (by omega) (by omega)]; omega) al37
              refine s_iald dX1_findUses_34 hk38 (by omega) (by omega) rfl ?_
              refine s_iconst dX1_findUses_35 (by decide) ?_
              refine s_isubW dX1_findUses_36 (fun w39 hrw39 hew39 => ?_)
              refine s_istore_n dX1_findUses_37 (by decide) (lv' := [some (2, ((o : Nat) : Int)), some (0, k1), some (0, i24), some (0, w39)]) rfl ?_
              refine s_iload_n dX1_findUses_38 rfl ?_
              refine s_callSN (own := RX1) rfl (by decide +kernel) (as := [(0, w39)]) (rest := []) gX11_isTypeName dX1_findUses_39 m_1779 m_714 m_100 ⟨by decide, by decide, show (parseMethodDescriptor yX11_isTypeName.desc).map (fun d => d.parameters.length) = some 1 from by decide +kernel⟩ (Nat.le_of_ble_eq_true rfl) (by rw [hcf]; exact Nat.le_of_ble_eq_true rfl) rfl (Nat.le_of_ble_eq_true rfl) ⟨w39, rfl, fun rr40 hp41 => ?_⟩
              show WP kX1_findUses X 42 [some (2, ((o : Nat) : Int)), some (0, k1), some (0, i24), some (0, w39)] [(0, rr40)] G24
              refine s_if_eq (tgt := 66) dX1_findUses_42 (by decide) (fun c42 => ?_) (fun c42 => ?_)
              · -- 42 to 66
                refine s_iinc dX1_findUses_66 (v := i24) rfl (by omega) (by decide) (lv' := [some (2, ((o : Nat) : Int)), some (0, k1), some (0, i24 + 1), some (0, w39)]) rfl ?_
                refine s_goto (tgt := 17) dX1_findUses_69 (by decide) ?_
                refine s_mask [true, true, true, false] (lv' := [some (2, ((o : Nat) : Int)), some (0, k1), some (0, i24 + 1), none]) rfl ?_
                exact ih24 (i24 + 1) G24 hCG24 hXG24 hFG24 ((by omega)) (by omega)
              · -- 42 to 45
                refine s_aload_n dX1_findUses_45 rfl (Int.natCast_nonneg _) ?_
                have hv43 : gS G24 o 1 = ((o + 2 : Nat) : Int) := by have h9 : (gS G24 o 1) = (((o % 1048576) + 2 : Nat) : Int) := hCG24.1.v (j := 1) (by rw [cde_f (by omega) (by omega)]; omega : cde o = 400) al26 (by rw [hk25]; exact Nat.le_of_ble_eq_true rfl); omega
                refine s_getf (ci := 2) (k := 1) (C := RX1) (T := TX1) (N := 5) (n := o) (L := 0) (t := 2) dX1_findUses_46 rfl wi_66 m_411 (Nat.le_of_ble_eq_true rfl) rfl rfl hk25 hv43 ?_
                refine s_iload_n dX1_findUses_49 rfl ?_
                have hv44 : 0 ≤ (gS G24 (o + 2) (w39 : Int).toNat) ∧ (gS G24 (o + 2) (w39 : Int).toNat) ≤ 200 := hCG24.1.v (j := (w39 : Int).toNat) (by rw [cde_f (by omega) (by omega)]; omega : cde (o + 2) = 402) al28 (by rw [hk29]; show (w39 : Int).toNat < 6; omega)
                refine s_iald dX1_findUses_50 hk29 (by omega) (by omega) rfl ?_
                refine s_if_le (tgt := 66) dX1_findUses_51 (by decide) (fun c45 => ?_) (fun c45 => ?_)
                · -- 51 to 66
                  refine s_iinc dX1_findUses_66 (v := i24) rfl (by omega) (by decide) (lv' := [some (2, ((o : Nat) : Int)), some (0, k1), some (0, i24 + 1), some (0, w39)]) rfl ?_
                  refine s_goto (tgt := 17) dX1_findUses_69 (by decide) ?_
                  refine s_mask [true, true, true, false] (lv' := [some (2, ((o : Nat) : Int)), some (0, k1), some (0, i24 + 1), none]) rfl ?_
                  exact ih24 (i24 + 1) G24 hCG24 hXG24 hFG24 ((by omega)) (by omega)
                · -- 51 to 54
                  refine s_aload_n dX1_findUses_54 rfl (Int.natCast_nonneg _) ?_
                  have hv46 : gS G24 o 2 = ((o + 3 : Nat) : Int) := by have h9 : (gS G24 o 2) = (((o % 1048576) + 3 : Nat) : Int) := hCG24.1.v (j := 2) (by rw [cde_f (by omega) (by omega)]; omega : cde o = 400) al26 (by rw [hk25]; exact Nat.le_of_ble_eq_true rfl); omega
                  refine s_getf (ci := 2) (k := 2) (C := RX1) (T := TX1) (N := 5) (n := o) (L := 0) (t := 2) dX1_findUses_55 rfl wi_66 m_412 (Nat.le_of_ble_eq_true rfl) rfl rfl hk25 hv46 ?_
                  refine s_iload_n dX1_findUses_58 rfl ?_
                  refine s_dup2 dX1_findUses_59 (by simp) (by simp) ?_
                  have hk47 : gK G24 (o + 3) = (1, 6) := ((hXG24).k ((hXG23).k hk22 (by decide)) (by decide))
                  refine s_iald dX1_findUses_60 hk47 (by omega) (by omega) rfl ?_
                  refine s_iconst dX1_findUses_61 (by decide) ?_
                  refine s_iload_n dX1_findUses_62 rfl ?_
                  refine s_ishl dX1_findUses_63 ?_
                  refine s_ior dX1_findUses_64 ?_
                  refine s_iast dX1_findUses_65 hk47 (by omega) (by omega) ?_
                  generalize eG48r : gset G24 (o + 3) ((k1 : Int).toNat) (i_or (gS G24 (o + 3) ((k1 : Int).toNat)) (i_shl 1 w39)) = G48
                  have eG48 := eG48r.symm
                  have hCG48 : CI a b G48 := by rw [eG48]; exact hCG24.set (by rw [(by rw [cde_f (by omega) (by omega)]; omega : cde (o + 3) = 403)]; rfl) (by rw [(by rw [cde_f (by omega) (by omega)]; omega : cde (o + 3) = 403)]; exact trivial)
                  have hXG48 : KX G24 G48 := KX.set KX.rf eG48
                  have hFG48 : WX (fun x => x = o + 3) G G48 := WX.set hFG24 eG48 (by show _; omega)
                  show WP kX1_findUses X 66 [some (2, ((o : Nat) : Int)), some (0, k1), some (0, i24), some (0, w39)] [] G48
                  refine s_iinc dX1_findUses_66 (v := i24) rfl (by omega) (by decide) (lv' := [some (2, ((o : Nat) : Int)), some (0, k1), some (0, i24 + 1), some (0, w39)]) rfl ?_
                  refine s_goto (tgt := 17) dX1_findUses_69 (by decide) ?_
                  refine s_mask [true, true, true, false] (lv' := [some (2, ((o : Nat) : Int)), some (0, k1), some (0, i24 + 1), none]) rfl ?_
                  exact ih24 (i24 + 1) G48 hCG48 (KX.trans hXG24 hXG48) hFG48 ((by omega)) (by omega)
        exact L24 _ 0 G23 hCG23 KX.rf hFG23 ((by omega)) (Nat.lt_succ_self _)
  exact L1 _ 0 G hC KX.rf WX.rf ((by omega)) (Nat.lt_succ_self _)

abbrev kX1_makeFull : KD := (RX1, cX1_makeFull, 3, (some .int), [])
def TX1_makeFull : TR := fun as G Qr => ∃ (o : Nat) (a b : Nat), as = [(2, ((o : Nat) : Int))] ∧ CI a b G ∧ (a ≤ 2840000 ∧ b ≤ 590000) ∧ (isFl o) ∧ ∀ (r : Int) (G' : LG), CI a b G' → KX G G' → WX (fun x => x = o + 3 ∨ x = o + 5 ∨ (o + 16 ≤ x ∧ x < o + 22)) G G' → ((r = 0 → ∀ k : Nat, k < 6 → gS G' (o + 5) k ≤ 200) ∧ ∀ P : Int → Prop, (∀ k : Nat, k < 6 → TLP P G o k) → (∀ k : Nat, k < 6 → FIP P G o k) → ∀ k : Nat, k < 6 → FIP P G' o k) → Qr (.inl (some (0, r))) G'
set_option maxHeartbeats 4000000 in
set_option maxRecDepth 100000 in
theorem gX1_makeFull : Good kX1_makeFull yX1_makeFull 2 TX1_makeFull := by
  refine good_of (by decide) rfl rfl (fun as G Qr h => ?_) (fun X as G Qr hcf hR hT oa => ?_)
  · obtain ⟨o, a, b, rfl, -⟩ := h; exact Nat.le_of_ble_eq_true rfl
  obtain ⟨o, a, b, rfl, hC, hab, ho, hQ⟩ := hT
  show WP kX1_makeFull X 0 [some (2, ((o : Nat) : Int)), none, none] [] G
  refine s_alvl (o) (k := 0) rfl (fun al1 => ?_)
  have hk2 : gK G (o) = (10, 0) := hC.1.k (by rw [cde_f (by omega) (by omega)]; omega : cde o = 400) al1
  refine s_alh (o) 4 al1 (by rw [hk2]; exact Nat.le_of_ble_eq_true rfl) (by rw [hk2]; rfl) (fun az5x => ?_)
  have az5v : gS G o 4 = ((o + 5 : Nat) : Int) := by have h9 : (gS G o 4) = (((o % 1048576) + 5 : Nat) : Int) := hC.1.v (j := 4) (by rw [cde_f (by omega) (by omega)]; omega : cde o = 400) al1 (by rw [hk2]; exact Nat.le_of_ble_eq_true rfl); omega
  have az5 : (gK G (o + 5)).1 ≠ 0 := by have h9 := az5x (by omega); rw [az5v, Int.toNat_natCast] at h9; exact h9
  have az5k : gK G (o + 5) = (1, 6) := hC.1.k (by rw [cde_f (by omega) (by omega)]; omega : cde (o + 5) = 405) az5
  refine s_alh (o) 1 al1 (by rw [hk2]; exact Nat.le_of_ble_eq_true rfl) (by rw [hk2]; rfl) (fun az2x => ?_)
  have az2v : gS G o 1 = ((o + 2 : Nat) : Int) := by have h9 : (gS G o 1) = (((o % 1048576) + 2 : Nat) : Int) := hC.1.v (j := 1) (by rw [cde_f (by omega) (by omega)]; omega : cde o = 400) al1 (by rw [hk2]; exact Nat.le_of_ble_eq_true rfl); omega
  have az2 : (gK G (o + 2)).1 ≠ 0 := by have h9 := az2x (by omega); rw [az2v, Int.toNat_natCast] at h9; exact h9
  have az2k : gK G (o + 2) = (1, 6) := hC.1.k (by rw [cde_f (by omega) (by omega)]; omega : cde (o + 2) = 402) az2
  refine s_aload_n dX1_makeFull_0 rfl (Int.natCast_nonneg _) ?_
  refine s_callV (as := []) (rest := []) (n := o) (ci := 2) gX1_findUses dX1_makeFull_1 m_1148 m_914 m_1490 m_712 m_256 ⟨by decide, by decide, show (parseMethodDescriptor yX1_findUses.desc).map (fun d => d.parameters.length) = some 0 from by decide +kernel⟩ (Nat.le_of_ble_eq_true rfl) (by rw [hcf]; exact Nat.le_of_ble_eq_true rfl) hk2 rfl rfl (Nat.le_of_ble_eq_true rfl) ⟨o, a, b, rfl, hC, hab, (by first | assumption | omega), fun G3 hCG3 hXG3 hfG3 hpG3 => ?_⟩
  have hFG3 : WX (fun x => x = o + 3 ∨ x = o + 5 ∨ (o + 16 ≤ x ∧ x < o + 22)) G G3 := WX.trans WX.rf KX.rf (WX.mono hfG3 (fun x hx => by omega))
  show WP kX1_makeFull X 4 [some (2, ((o : Nat) : Int)), none, none] [] G3
  refine s_iconst dX1_makeFull_4 (by decide) ?_
  refine s_istore_n dX1_makeFull_5 (by decide) (lv' := [some (2, ((o : Nat) : Int)), some (0, 0), none]) rfl ?_
  have L5 : ∀ (n5 : Nat) (j5 : Int), ((0 ≤ j5 ∧ j5 ≤ 6)) → (6 - j5).toNat < n5 → WP kX1_makeFull X 6 [some (2, ((o : Nat) : Int)), some (0, j5), none] [] G3 := by
    intro n5
    induction n5 with
    | zero => intro j5 hi5 hm5; exact absurd hm5 (Nat.not_lt_zero _)
    | succ n5 ih5 =>
      intro j5 hi5 hm5
      have ij5 := hi5
      refine s_iload_n dX1_makeFull_6 rfl ?_
      refine s_bipush dX1_makeFull_7 rfl (by decide) ?_
      refine s_icmp_ge (tgt := 37) dX1_makeFull_9 (by decide) (fun c6 => ?_) (fun c6 => ?_)
      · -- 9 to 37
        refine s_iconst dX1_makeFull_37 (by decide) ?_
        refine s_istore_n dX1_makeFull_38 (by decide) (lv' := [some (2, ((o : Nat) : Int)), some (0, 0), none]) rfl ?_
        have L7 : ∀ (n7 : Nat) (m7 : Int) (G7 : LG), CI a b G7 → KX G3 G7 → WX (fun x => x = o + 3 ∨ x = o + 5 ∨ (o + 16 ≤ x ∧ x < o + 22)) G G7 → ((0 ≤ m7 ∧ m7 ≤ 6) ∧ (∀ P : Int → Prop, (∀ k : Nat, k < 6 → TLP P G o k) → (∀ k : Nat, k < 6 → FIP P G o k) → ∀ k : Nat, k < 6 → FIP P G7 o k)) → (6 - m7).toNat < n7 → WP kX1_makeFull X 39 [some (2, ((o : Nat) : Int)), some (0, m7), none] [] G7 := by
          intro n7
          induction n7 with
          | zero => intro m7 G7 hCG7 hXG7 hFG7 hi7 hm7; exact absurd hm7 (Nat.not_lt_zero _)
          | succ n7 ih7 =>
            intro m7 G7 hCG7 hXG7 hFG7 hi7 hm7
            obtain ⟨im7, ip7⟩ := hi7
            refine s_iload_n dX1_makeFull_39 rfl ?_
            refine s_bipush dX1_makeFull_40 rfl (by decide) ?_
            refine s_icmp_ge (tgt := 119) dX1_makeFull_42 (by decide) (fun c8 => ?_) (fun c8 => ?_)
            · -- 42 to 119
              refine s_iconst dX1_makeFull_119 (by decide) ?_
              refine s_istore_n dX1_makeFull_120 (by decide) (lv' := [some (2, ((o : Nat) : Int)), some (0, 0), none]) rfl ?_
              have L9 : ∀ (n9 : Nat) (e9 : Int), ((0 ≤ e9 ∧ e9 ≤ 6) ∧ (∀ k : Nat, (k : Int) < e9 → gS G7 (o + 5) k ≤ 200)) → (6 - e9).toNat < n9 → WP kX1_makeFull X 121 [some (2, ((o : Nat) : Int)), some (0, e9), none] [] G7 := by
                intro n9
                induction n9 with
                | zero => intro e9 hi9 hm9; exact absurd hm9 (Nat.not_lt_zero _)
                | succ n9 ih9 =>
                  intro e9 hi9 hm9
                  obtain ⟨ie9, iz9⟩ := hi9
                  refine s_iload_n dX1_makeFull_121 rfl ?_
                  refine s_bipush dX1_makeFull_122 rfl (by decide) ?_
                  refine s_icmp_ge (tgt := 152) dX1_makeFull_124 (by decide) (fun c10 => ?_) (fun c10 => ?_)
                  · -- 124 to 152
                    refine s_iconst dX1_makeFull_152 (by decide) ?_
                    exact s_iret hR dX1_makeFull_153 rfl (hQ 0 G7 hCG7 (KX.trans hXG3 hXG7) hFG7 ⟨fun _ k hk => iz9 k (by omega), ip7⟩)
                  · -- 124 to 127
                    refine s_aload_n dX1_makeFull_127 rfl (Int.natCast_nonneg _) ?_
                    have hk11 : gK G7 (o) = (10, 0) := ((hXG7).k ((hXG3).k hk2 (by decide)) (by decide))
                    refine s_alv (o) (by simp) (fun al12 => ?_)
                    have hv13 : gS G7 o 4 = ((o + 5 : Nat) : Int) := by have h9 : (gS G7 o 4) = (((o % 1048576) + 5 : Nat) : Int) := hCG7.1.v (j := 4) (by rw [cde_f (by omega) (by omega)]; omega : cde o = 400) al12 (by rw [hk11]; exact Nat.le_of_ble_eq_true rfl); omega
                    refine s_getf (ci := 2) (k := 4) (C := RX1) (T := TX1) (N := 5) (n := o) (L := 0) (t := 2) dX1_makeFull_128 rfl wi_66 m_414 (Nat.le_of_ble_eq_true rfl) rfl rfl hk11 hv13 ?_
                    refine s_iload_n dX1_makeFull_131 rfl ?_
                    have hk14 : gK G7 (o + 5) = (1, 6) := ((hXG7).k ((hXG3).k az5k (by decide)) (by decide))
                    refine s_alv (o + 5) (by simp) (fun al15 => ?_)
                    have hv16 : 0 ≤ (gS G7 (o + 5) (e9 : Int).toNat) ∧ (gS G7 (o + 5) (e9 : Int).toNat) ≤ 201 := hCG7.1.v (j := (e9 : Int).toNat) (by rw [cde_f (by omega) (by omega)]; omega : cde (o + 5) = 405) al15 (by rw [hk14]; show (e9 : Int).toNat < 6; omega)
                    refine s_iald dX1_makeFull_132 hk14 (by omega) (by omega) rfl ?_
                    refine s_sipush dX1_makeFull_133 rfl (by decide) ?_
                    refine s_icmp_le (tgt := 146) dX1_makeFull_136 (by decide) (fun c17 => ?_) (fun c17 => ?_)
                    · -- 136 to 146
                      refine s_iinc dX1_makeFull_146 (v := e9) rfl (by omega) (by decide) (lv' := [some (2, ((o : Nat) : Int)), some (0, e9 + 1), none]) rfl ?_
                      refine s_goto (tgt := 121) dX1_makeFull_149 (by decide) ?_
                      exact ih9 (e9 + 1) (⟨(by omega), (by intro k hk; by_cases e : k = (e9).toNat; (focus (rw [e]; omega)); exact iz9 k (by omega))⟩) (by omega)
                    · -- 136 to 139
                      refine s_bipush dX1_makeFull_139 rfl (by decide) ?_
                      refine s_iload_n dX1_makeFull_141 rfl ?_
                      refine s_callSN (own := RX1) rfl (by decide +kernel) (as := [(0, 7), (0, e9)]) (rest := []) gX11_typeMistake dX1_makeFull_142 m_1783 m_714 m_125 ⟨by decide, by decide, show (parseMethodDescriptor yX11_typeMistake.desc).map (fun d => d.parameters.length) = some 2 from by decide +kernel⟩ (Nat.le_of_ble_eq_true rfl) (by rw [hcf]; exact Nat.le_of_ble_eq_true rfl) rfl (Nat.le_of_ble_eq_true rfl) ⟨7, e9, rfl, (by first | assumption | omega), (by first | assumption | omega), fun rr18 hp19 => ?_⟩
                      show WP kX1_makeFull X 145 [some (2, ((o : Nat) : Int)), some (0, e9), none] [(0, rr18)] G7
                      exact s_iret hR dX1_makeFull_145 rfl (hQ rr18 G7 hCG7 (KX.trans hXG3 hXG7) hFG7 ⟨fun h => absurd h (by omega), ip7⟩)
              exact L9 _ 0 (⟨(by omega), (by intro k hk; omega)⟩) (Nat.lt_succ_self _)
            · -- 42 to 45
              refine s_iconst dX1_makeFull_45 (by decide) ?_
              refine s_istore_n dX1_makeFull_46 (by decide) (lv' := [some (2, ((o : Nat) : Int)), some (0, m7), some (0, 0)]) rfl ?_
              have L20 : ∀ (n20 : Nat) (l20 : Int) (G20 : LG), CI a b G20 → KX G7 G20 → WX (fun x => x = o + 3 ∨ x = o + 5 ∨ (o + 16 ≤ x ∧ x < o + 22)) G G20 → ((0 ≤ l20 ∧ l20 ≤ 6) ∧ (∀ P : Int → Prop, (∀ k : Nat, k < 6 → TLP P G o k) → (∀ k : Nat, k < 6 → FIP P G o k) → ∀ k : Nat, k < 6 → FIP P G20 o k)) → (6 - l20).toNat < n20 → WP kX1_makeFull X 47 [some (2, ((o : Nat) : Int)), some (0, m7), some (0, l20)] [] G20 := by
                intro n20
                induction n20 with
                | zero => intro l20 G20 hCG20 hXG20 hFG20 hi20 hm20; exact absurd hm20 (Nat.not_lt_zero _)
                | succ n20 ih20 =>
                  intro l20 G20 hCG20 hXG20 hFG20 hi20 hm20
                  obtain ⟨il20, ip20⟩ := hi20
                  refine s_iload_n dX1_makeFull_47 rfl ?_
                  refine s_bipush dX1_makeFull_48 rfl (by decide) ?_
                  refine s_icmp_ge (tgt := 113) dX1_makeFull_50 (by decide) (fun c21 => ?_) (fun c21 => ?_)
                  · -- 50 to 113
                    refine s_iinc dX1_makeFull_113 (v := m7) rfl (by omega) (by decide) (lv' := [some (2, ((o : Nat) : Int)), some (0, m7 + 1), some (0, l20)]) rfl ?_
                    refine s_goto (tgt := 39) dX1_makeFull_116 (by decide) ?_
                    refine s_mask [true, true, false] (lv' := [some (2, ((o : Nat) : Int)), some (0, m7 + 1), none]) rfl ?_
                    exact ih7 (m7 + 1) G20 hCG20 (KX.trans hXG7 hXG20) hFG20 (⟨(by omega), (by exact ip20)⟩) (by omega)
                  · -- 50 to 53
                    refine s_aload_n dX1_makeFull_53 rfl (Int.natCast_nonneg _) ?_
                    have hk22 : gK G20 (o) = (10, 0) := ((hXG20).k ((hXG7).k ((hXG3).k hk2 (by decide)) (by decide)) (by decide))
                    refine s_alv (o) (by simp) (fun al23 => ?_)
                    have hv24 : gS G20 o 1 = ((o + 2 : Nat) : Int) := by have h9 : (gS G20 o 1) = (((o % 1048576) + 2 : Nat) : Int) := hCG20.1.v (j := 1) (by rw [cde_f (by omega) (by omega)]; omega : cde o = 400) al23 (by rw [hk22]; exact Nat.le_of_ble_eq_true rfl); omega
                    refine s_getf (ci := 2) (k := 1) (C := RX1) (T := TX1) (N := 5) (n := o) (L := 0) (t := 2) dX1_makeFull_54 rfl wi_66 m_411 (Nat.le_of_ble_eq_true rfl) rfl rfl hk22 hv24 ?_
                    refine s_iload_n dX1_makeFull_57 rfl ?_
                    have hk25 : gK G20 (o + 2) = (1, 6) := ((hXG20).k ((hXG7).k ((hXG3).k az2k (by decide)) (by decide)) (by decide))
                    refine s_alv (o + 2) (by simp) (fun al26 => ?_)
                    have hv27 : 0 ≤ (gS G20 (o + 2) (l20 : Int).toNat) ∧ (gS G20 (o + 2) (l20 : Int).toNat) ≤ 200 := hCG20.1.v (j := (l20 : Int).toNat) (by rw [cde_f (by omega) (by omega)]; omega : cde (o + 2) = 402) al26 (by rw [hk25]; show (l20 : Int).toNat < 6; omega)
                    refine s_iald dX1_makeFull_58 hk25 (by omega) (by omega) rfl ?_
                    refine s_if_le (tgt := 107) dX1_makeFull_59 (by decide) (fun c28 => ?_) (fun c28 => ?_)
                    · -- 59 to 107
                      refine s_iinc dX1_makeFull_107 (v := l20) rfl (by omega) (by decide) (lv' := [some (2, ((o : Nat) : Int)), some (0, m7), some (0, l20 + 1)]) rfl ?_
                      refine s_goto (tgt := 47) dX1_makeFull_110 (by decide) ?_
                      exact ih20 (l20 + 1) G20 hCG20 hXG20 hFG20 (⟨(by omega), (by exact ip20)⟩) (by omega)
                    · -- 59 to 62
                      refine s_aload_n dX1_makeFull_62 rfl (Int.natCast_nonneg _) ?_
                      have hv29 : gS G20 o 4 = ((o + 5 : Nat) : Int) := by have h9 : (gS G20 o 4) = (((o % 1048576) + 5 : Nat) : Int) := hCG20.1.v (j := 4) (by rw [cde_f (by omega) (by omega)]; omega : cde o = 400) al23 (by rw [hk22]; exact Nat.le_of_ble_eq_true rfl); omega
                      refine s_getf (ci := 2) (k := 4) (C := RX1) (T := TX1) (N := 5) (n := o) (L := 0) (t := 2) dX1_makeFull_63 rfl wi_66 m_414 (Nat.le_of_ble_eq_true rfl) rfl rfl hk22 hv29 ?_
                      refine s_iload_n dX1_makeFull_66 rfl ?_
                      have hk30 : gK G20 (o + 5) = (1, 6) := ((hXG20).k ((hXG7).k ((hXG3).k az5k (by decide)) (by decide)) (by decide))
                      refine s_alv (o + 5) (by simp) (fun al31 => ?_)
                      have hv32 : 0 ≤ (gS G20 (o + 5) (l20 : Int).toNat) ∧ (gS G20 (o + 5) (l20 : Int).toNat) ≤ 201 := hCG20.1.v (j := (l20 : Int).toNat) (by rw [cde_f (by omega) (by omega)]; omega : cde (o + 5) = 405) al31 (by rw [hk30]; show (l20 : Int).toNat < 6; omega)
                      refine s_iald dX1_makeFull_67 hk30 (by omega) (by omega) rfl ?_
                      refine s_if_ne (tgt := 107) dX1_makeFull_68 (by decide) (fun c33 => ?_) (fun c33 => ?_)
                      · -- 68 to 107
                        refine s_iinc dX1_makeFull_107 (v := l20) rfl (by omega) (by decide) (lv' := [some (2, ((o : Nat) : Int)), some (0, m7), some (0, l20 + 1)]) rfl ?_
                        refine s_goto (tgt := 47) dX1_makeFull_110 (by decide) ?_
                        exact ih20 (l20 + 1) G20 hCG20 hXG20 hFG20 (⟨(by omega), (by exact ip20)⟩) (by omega)
                      · -- 68 to 71
                        refine s_aload_n dX1_makeFull_71 rfl (Int.natCast_nonneg _) ?_
                        refine s_iload_n dX1_makeFull_72 rfl ?_
                        refine s_callV (as := [(0, l20)]) (rest := []) (n := o) (ci := 2) gX1_isReady dX1_makeFull_73 m_1149 m_916 m_1491 m_712 m_258 ⟨by decide, by decide, show (parseMethodDescriptor yX1_isReady.desc).map (fun d => d.parameters.length) = some 1 from by decide +kernel⟩ (Nat.le_of_ble_eq_true rfl) (by rw [hcf]; exact Nat.le_of_ble_eq_true rfl) hk22 rfl rfl (Nat.le_of_ble_eq_true rfl) ⟨o, l20, a, b, rfl, hCG20, hab, (by first | assumption | omega), (by first | assumption | omega), fun rr34 hp35 => ?_⟩
                        show WP kX1_makeFull X 76 [some (2, ((o : Nat) : Int)), some (0, m7), some (0, l20)] [(0, rr34)] G20
                        refine s_if_eq (tgt := 107) dX1_makeFull_76 (by decide) (fun c36 => ?_) (fun c36 => ?_)
                        · -- 76 to 107
                          refine s_iinc dX1_makeFull_107 (v := l20) rfl (by omega) (by decide) (lv' := [some (2, ((o : Nat) : Int)), some (0, m7), some (0, l20 + 1)]) rfl ?_
                          refine s_goto (tgt := 47) dX1_makeFull_110 (by decide) ?_
                          exact ih20 (l20 + 1) G20 hCG20 hXG20 hFG20 (⟨(by omega), (by exact ip20)⟩) (by omega)
                        · -- 76 to 79
                          refine s_aload_n dX1_makeFull_79 rfl (Int.natCast_nonneg _) ?_
                          have hv37 : gS G20 o 4 = ((o + 5 : Nat) : Int) := by have h9 : (gS G20 o 4) = (((o % 1048576) + 5 : Nat) : Int) := hCG20.1.v (j := 4) (by rw [cde_f (by omega) (by omega)]; omega : cde o = 400) al23 (by rw [hk22]; exact Nat.le_of_ble_eq_true rfl); omega
                          refine s_getf (ci := 2) (k := 4) (C := RX1) (T := TX1) (N := 5) (n := o) (L := 0) (t := 2) dX1_makeFull_80 rfl wi_66 m_414 (Nat.le_of_ble_eq_true rfl) rfl rfl hk22 hv37 ?_
                          refine s_iload_n dX1_makeFull_83 rfl ?_
                          refine s_aload_n dX1_makeFull_84 rfl (Int.natCast_nonneg _) ?_
                          refine s_aload_n dX1_makeFull_85 rfl (Int.natCast_nonneg _) ?_
                          have hv38 : gS G20 o 0 = ((o + 1 : Nat) : Int) := by have h9 : (gS G20 o 0) = (((o % 1048576) + 1 : Nat) : Int) := hCG20.1.v (j := 0) (by rw [cde_f (by omega) (by omega)]; omega : cde o = 400) al23 (by rw [hk22]; exact Nat.le_of_ble_eq_true rfl); omega
                          refine s_getf (ci := 2) (k := 0) (C := RX1) (T := TX1) (N := 5) (n := o) (L := 0) (t := 2) dX1_makeFull_86 rfl wi_66 m_410 (Nat.le_of_ble_eq_true rfl) rfl rfl hk22 hv38 ?_
                          refine s_iload_n dX1_makeFull_89 rfl ?_
                          refine s_alv (o + 1) (by simp) (fun al39 => ?_)
                          have hk40 : gK G20 (o + 1) = (4, 6) := hCG20.1.k (by rw [cde_f (by omega) (by omega)]; omega : cde (o + 1) = 401) al39
                          have hv42b : (gS G20 (o + 1) (l20 : Int).toNat) = ((((o + 1) % 1048576) + 7 + ((l20 : Int).toNat) : Nat) : Int) := hCG20.1.v (j := (l20 : Int).toNat) (by rw [cde_f (by omega) (by omega)]; omega : cde (o + 1) = 401) al39 (by rw [hk40]; show (l20 : Int).toNat < 6; omega)
                          obtain ⟨q41, hv42⟩ : ∃ q : Nat, gS G20 (o + 1) (l20 : Int).toNat = (q : Int) := ⟨(gS G20 (o + 1) (l20 : Int).toNat).toNat, by omega⟩
                          rw [hv42] at hv42b
                          refine s_aald4 dX1_makeFull_90 hk40 (by omega) (by omega) hv42 ?_
                          refine s_aload_n dX1_makeFull_91 rfl (Int.natCast_nonneg _) ?_
                          have hv43 : gS G20 o 1 = ((o + 2 : Nat) : Int) := by have h9 : (gS G20 o 1) = (((o % 1048576) + 2 : Nat) : Int) := hCG20.1.v (j := 1) (by rw [cde_f (by omega) (by omega)]; omega : cde o = 400) al23 (by rw [hk22]; exact Nat.le_of_ble_eq_true rfl); omega
                          refine s_getf (ci := 2) (k := 1) (C := RX1) (T := TX1) (N := 5) (n := o) (L := 0) (t := 2) dX1_makeFull_92 rfl wi_66 m_411 (Nat.le_of_ble_eq_true rfl) rfl rfl hk22 hv43 ?_
                          refine s_iload_n dX1_makeFull_95 rfl ?_
                          have hv44 : 0 ≤ (gS G20 (o + 2) (l20 : Int).toNat) ∧ (gS G20 (o + 2) (l20 : Int).toNat) ≤ 200 := hCG20.1.v (j := (l20 : Int).toNat) (by rw [cde_f (by omega) (by omega)]; omega : cde (o + 2) = 402) al26 (by rw [hk25]; show (l20 : Int).toNat < 6; omega)
                          refine s_iald dX1_makeFull_96 hk25 (by omega) (by omega) rfl ?_
                          refine s_aload_n dX1_makeFull_97 rfl (Int.natCast_nonneg _) ?_
                          have hv45 : gS G20 o 3 = ((o + 4 : Nat) : Int) := by have h9 : (gS G20 o 3) = (((o % 1048576) + 4 : Nat) : Int) := hCG20.1.v (j := 3) (by rw [cde_f (by omega) (by omega)]; omega : cde o = 400) al23 (by rw [hk22]; exact Nat.le_of_ble_eq_true rfl); omega
                          refine s_getf (ci := 2) (k := 3) (C := RX1) (T := TX1) (N := 5) (n := o) (L := 0) (t := 2) dX1_makeFull_98 rfl wi_66 m_413 (Nat.le_of_ble_eq_true rfl) rfl rfl hk22 hv45 ?_
                          refine s_iload_n dX1_makeFull_101 rfl ?_
                          refine s_alv (o + 4) (by simp) (fun al46 => ?_)
                          have hk47 : gK G20 (o + 4) = (4, 6) := hCG20.1.k (by rw [cde_f (by omega) (by omega)]; omega : cde (o + 4) = 404) al46
                          have hv49b : (gS G20 (o + 4) (l20 : Int).toNat) = ((((o + 4) % 1048576) + 12 + ((l20 : Int).toNat) : Nat) : Int) := hCG20.1.v (j := (l20 : Int).toNat) (by rw [cde_f (by omega) (by omega)]; omega : cde (o + 4) = 404) al46 (by rw [hk47]; show (l20 : Int).toNat < 6; omega)
                          obtain ⟨q48, hv49⟩ : ∃ q : Nat, gS G20 (o + 4) (l20 : Int).toNat = (q : Int) := ⟨(gS G20 (o + 4) (l20 : Int).toNat).toNat, by omega⟩
                          rw [hv49] at hv49b
                          refine s_aald4 dX1_makeFull_102 hk47 (by omega) (by omega) hv49 ?_
                          refine s_alv (q41) (by simp) (fun al50 => ?_)
                          have hk51 := hCG20.1.kf (show (408 ≤ cde q41 ∧ cde q41 < 414) ∨ (416 ≤ cde q41 ∧ cde q41 < 422) from by rw [cde_f (by omega) (by omega)]; omega) al50
                          refine s_alv (q48) (by simp) (fun al52 => ?_)
                          have hk53 := hCG20.1.kf (show (408 ≤ cde q48 ∧ cde q48 < 414) ∨ (416 ≤ cde q48 ∧ cde q48 < 422) from by rw [cde_f (by omega) (by omega)]; omega) al52
                          refine s_callV (as := [(2, ((q41 : Nat) : Int)), (0, gS G20 (o + 2) ((l20 : Int).toNat)), (2, ((q48 : Nat) : Int))]) (rest := [(0, l20), (2, ((o + 5 : Nat) : Int))]) (n := o) (ci := 2) gX1_put dX1_makeFull_103 m_1150 m_918 m_1493 m_712 m_260 ⟨by decide, by decide, show (parseMethodDescriptor yX1_put.desc).map (fun d => d.parameters.length) = some 3 from by decide +kernel⟩ (Nat.le_of_ble_eq_true rfl) (by rw [hcf]; exact Nat.le_of_ble_eq_true rfl) hk22 rfl rfl (Nat.le_of_ble_eq_true rfl) ⟨o, q41, 200, gS G20 (o + 2) ((l20 : Int).toNat), q48, a, b, rfl, hCG20, hab, (by first | assumption | omega), hk51, (by omega), hk53, (by exact FRW.f (by omega)), (by omega), (by intro k9 hk9 hq9; rw [show k9 = (l20 : Int).toNat by omega]; omega), (by omega), fun rr55 G54 hCG54 hXG54 hfG54 hpG54 => ?_⟩
                          have hFG54 : WX (fun x => x = o + 3 ∨ x = o + 5 ∨ (o + 16 ≤ x ∧ x < o + 22)) G G54 := WX.trans hFG20 (KX.trans (KX.trans hXG3 hXG7) hXG20) (WX.mono hfG54 (fun x hx => by omega))
                          show WP kX1_makeFull X 106 [some (2, ((o : Nat) : Int)), some (0, m7), some (0, l20)] [(0, rr55), (0, l20), (2, ((o + 5 : Nat) : Int))] G54
                          have hk56 : gK G54 (o + 5) = (1, 6) := ((hXG54).k hk30 (by decide))
                          refine s_iast dX1_makeFull_106 hk56 (by omega) (by omega) ?_
                          generalize eG57r : gset G54 (o + 5) ((l20 : Int).toNat) rr55 = G57
                          have eG57 := eG57r.symm
                          have hCG57 : CI a b G57 := by rw [eG57]; exact hCG54.set (by rw [(by rw [cde_f (by omega) (by omega)]; omega : cde (o + 5) = 405)]; rfl) (by rw [(by rw [cde_f (by omega) (by omega)]; omega : cde (o + 5) = 405)]; exact (show 0 ≤ rr55 ∧ rr55 ≤ 201 from by omega))
                          have hXG57 : KX G54 G57 := KX.set KX.rf eG57
                          have hFG57 : WX (fun x => x = o + 3 ∨ x = o + 5 ∨ (o + 16 ≤ x ∧ x < o + 22)) G G57 := WX.set hFG54 eG57 (by show _; omega)
                          show WP kX1_makeFull X 107 [some (2, ((o : Nat) : Int)), some (0, m7), some (0, l20)] [] G57
                          refine s_iinc dX1_makeFull_107 (v := l20) rfl (by omega) (by decide) (lv' := [some (2, ((o : Nat) : Int)), some (0, m7), some (0, l20 + 1)]) rfl ?_
                          refine s_goto (tgt := 47) dX1_makeFull_110 (by decide) ?_
                          exact ih20 (l20 + 1) G57 hCG57 (KX.trans (KX.trans hXG20 hXG54) hXG57) hFG57 (⟨(by omega), (by intro P hT hF k hk; by_cases e : k = (l20 : Int).toNat; (focus (exact FIP.mk (hpG54.2 P (RPs.at (TLP.sm (hT (l20 : Int).toNat (by omega)) (KX.trans (KX.trans hXG3 hXG7) hXG20) hFG20 (by show ¬ _; omega) (congrFun (hFG20 (o + 2) az2 (by show ¬ _; omega)) _)) (by omega)) (ip20 P hT hF)) eG57 e (by omega) (by omega))); exact FIP.set (FIP.sm (ip20 P hT hF k hk) hXG54 hfG54 (by show ¬ _; omega) (congrFun (hfG54 (o + 5) (KX.al (KX.trans (KX.trans hXG3 hXG7) hXG20) az5) (by show ¬ _; omega)) k)) eG57 (by omega) (by omega))⟩) (by omega)
              exact L20 _ 0 G7 hCG7 KX.rf hFG7 (⟨(by omega), (by exact ip7)⟩) (Nat.lt_succ_self _)
        exact L7 _ 0 G3 hCG3 KX.rf hFG3 (⟨(by omega), (by intro P hT hF k hk; exact FIP.sm (hF k hk) hXG3 hfG3 (by show ¬ _; omega) (congrFun (hfG3 (o + 5) az5 (by show ¬ _; omega)) k))⟩) (Nat.lt_succ_self _)
      · -- 9 to 12
        refine s_aload_n dX1_makeFull_12 rfl (Int.natCast_nonneg _) ?_
        have hk58 : gK G3 (o) = (10, 0) := ((hXG3).k hk2 (by decide))
        refine s_alv (o) (by simp) (fun al59 => ?_)
        have hv60 : gS G3 o 2 = ((o + 3 : Nat) : Int) := by have h9 : (gS G3 o 2) = (((o % 1048576) + 3 : Nat) : Int) := hCG3.1.v (j := 2) (by rw [cde_f (by omega) (by omega)]; omega : cde o = 400) al59 (by rw [hk58]; exact Nat.le_of_ble_eq_true rfl); omega
        refine s_getf (ci := 2) (k := 2) (C := RX1) (T := TX1) (N := 5) (n := o) (L := 0) (t := 2) dX1_makeFull_13 rfl wi_66 m_412 (Nat.le_of_ble_eq_true rfl) rfl rfl hk58 hv60 ?_
        refine s_iload_n dX1_makeFull_16 rfl ?_
        refine s_alv (o + 3) (by simp) (fun al61 => ?_)
        have hk62 : gK G3 (o + 3) = (1, 6) := hCG3.1.k (by rw [cde_f (by omega) (by omega)]; omega : cde (o + 3) = 403) al61
        refine s_iald dX1_makeFull_17 hk62 (by omega) (by omega) rfl ?_
        refine s_iload_n dX1_makeFull_18 rfl ?_
        refine s_callSN (own := RX1) rfl (by decide +kernel) (as := [(0, gS G3 (o + 3) ((j5 : Int).toNat)), (0, j5)]) (rest := []) gX11_isIn dX1_makeFull_19 m_1777 m_714 m_97 ⟨by decide, by decide, show (parseMethodDescriptor yX11_isIn.desc).map (fun d => d.parameters.length) = some 2 from by decide +kernel⟩ (Nat.le_of_ble_eq_true rfl) (by rw [hcf]; exact Nat.le_of_ble_eq_true rfl) rfl (Nat.le_of_ble_eq_true rfl) ⟨gS G3 (o + 3) ((j5 : Int).toNat), j5, rfl, fun rr63 hp64 => ?_⟩
        show WP kX1_makeFull X 22 [some (2, ((o : Nat) : Int)), some (0, j5), none] [(0, rr63)] G3
        refine s_if_eq (tgt := 31) dX1_makeFull_22 (by decide) (fun c65 => ?_) (fun c65 => ?_)
        · -- 22 to 31
          refine s_iinc dX1_makeFull_31 (v := j5) rfl (by omega) (by decide) (lv' := [some (2, ((o : Nat) : Int)), some (0, j5 + 1), none]) rfl ?_
          refine s_goto (tgt := 6) dX1_makeFull_34 (by decide) ?_
          exact ih5 (j5 + 1) ((by omega)) (by omega)
        · -- 22 to 25
          refine s_iconst dX1_makeFull_25 (by decide) ?_
          refine s_iload_n dX1_makeFull_26 rfl ?_
          refine s_callSN (own := RX1) rfl (by decide +kernel) (as := [(0, 3), (0, j5)]) (rest := []) gX11_typeMistake dX1_makeFull_27 m_1783 m_714 m_125 ⟨by decide, by decide, show (parseMethodDescriptor yX11_typeMistake.desc).map (fun d => d.parameters.length) = some 2 from by decide +kernel⟩ (Nat.le_of_ble_eq_true rfl) (by rw [hcf]; exact Nat.le_of_ble_eq_true rfl) rfl (Nat.le_of_ble_eq_true rfl) ⟨3, j5, rfl, (by first | assumption | omega), (by first | assumption | omega), fun rr66 hp67 => ?_⟩
          show WP kX1_makeFull X 30 [some (2, ((o : Nat) : Int)), some (0, j5), none] [(0, rr66)] G3
          exact s_iret hR dX1_makeFull_30 rfl (hQ rr66 G3 hCG3 hXG3 hFG3 ⟨fun h => absurd h (by omega), fun P _ hF k hk => FIP.sm (hF k hk) hXG3 hfG3 (by show ¬ _; omega) (congrFun (hfG3 (o + 5) az5 (by show ¬ _; omega)) k)⟩)
  exact L5 _ 0 ((by omega)) (Nat.lt_succ_self _)
