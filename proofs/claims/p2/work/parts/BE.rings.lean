abbrev kX3_hasRing : KD := (RX3, cX3_hasRing, 6, (some .boolean), [])
def TX3_hasRing : TR := fun as G Qr => ∃ (o : Nat) (f : Int) (a b : Nat), as = [(2, ((o : Nat) : Int)), (0, f)] ∧ CI a b G ∧ (a ≤ 2840000 ∧ b ≤ 590000) ∧ (isMc o) ∧ (0 ≤ f ∧ f ≤ 24) ∧ (MI G o f) ∧ (NO G o f) ∧ ∀ (r : Int) (G' : LG), CI a b G' → KX G G' → WX (fun x => x = o + 6) G G' → (r = 0 ∨ r = 1) → Qr (.inl (some (0, r))) G'
set_option maxHeartbeats 4000000 in
set_option maxRecDepth 100000 in
theorem gX3_hasRing : Good kX3_hasRing yX3_hasRing 2 TX3_hasRing := by
  refine good_of (by decide) rfl rfl (fun as G Qr h => ?_) (fun X as G Qr hcf hR hT oa => ?_)
  · obtain ⟨o, f, a, b, rfl, -⟩ := h; exact Nat.le_of_ble_eq_true rfl
  obtain ⟨o, f, a, b, rfl, hC, hab, ho, hf0, hMI, hNO, hQ⟩ := hT
  show WP kX3_hasRing X 0 [some (2, ((o : Nat) : Int)), some (0, f), none, none, none, none] [] G
  have hr_f : inR f := okv_R (oa _ (by simp))
  have rg0 : RNx (fun x => x = (o + 6) % 1048576) (o % 1048576) := by show ¬ _; omega
  have rg1 : RNx (fun x => x = (o + 6) % 1048576) ((o + 1) % 1048576) := by show ¬ _; omega
  have rg2 : RNx (fun x => x = (o + 6) % 1048576) ((o + 3) % 1048576) := by show ¬ _; omega
  have rg3 : RNx (fun x => x = (o + 6) % 1048576) ((o + 4) % 1048576) := by show ¬ _; omega
  have rg4 : RNx (fun x => x = (o + 6) % 1048576) (327681 % 1048576) := by show ¬ _; omega
  have rg5 : RNx (fun x => x = (o + 6) % 1048576) ((o + 5) % 1048576) := by show ¬ _; omega
  have rg6 : RNx (fun x => x = (o + 6) % 1048576) (327706 % 1048576) := by show ¬ _; omega
  refine s_alvl o (k := 0) rfl (fun alo => ?_)
  refine s_lk (fun hlk => ?_)
  have hmn := hlk.mna hC ho alo
  obtain ⟨kM, kM1, kM2, kM3, kM4, kM5, kM6, kM7, kM8, kM13, kM15, kM20, kMp, kMp5, kMp6, kMp7, kMp8, kMp9, kMp10, kMp13, kMp14, kMp16⟩ := id hmn
  have hin : 0 ≤ gS G o 9 ∧ gS G o 9 ≤ 24 := hC.1.v (c := 300) (j := 9) (by rcases ho with rfl | rfl <;> decide) alo (by rw [kM]; exact Nat.le_of_ble_eq_true rfl)
  have hI : gS G o 9 = gS G o 9 := rfl
  refine s_iconst dX3_hasRing_0 (by decide) ?_
  refine s_istore_n dX3_hasRing_1 (by decide) (lv' := [some (2, ((o : Nat) : Int)), some (0, f), some (0, 0), none, none, none]) rfl ?_
  refine s_iload_n dX3_hasRing_2 rfl ?_
  refine s_bipush dX3_hasRing_3 rfl (by decide) ?_
  refine s_imul dX3_hasRing_5 (by omega) ?_
  refine s_istore_n dX3_hasRing_6 (by decide) (lv' := [some (2, ((o : Nat) : Int)), some (0, f), some (0, 0), some (0, f * 10), none, none]) rfl ?_
  have L1 : ∀ (n1 : Nat) (l1 : Int) (s1 : Int) (G1 : LG), CI a b G1 → KX G G1 → WX (fun x => x = o + 6) G G1 → (((10 * f ≤ s1 ∧ s1 ≤ 240) ∧ 0 ≤ l1 ∧ l1 ≤ s1) ∧ (∀ s : Int, 10 * f ≤ s → s < s1 → gS G1 (o + 6) s.toNat = 0 → 0 ≤ gS G1 (o + 1) s.toNat) ∧ (gS G1 o 9 = gS G o 9) ∧ (MI G1 o f) ∧ (NO G1 o f)) → (240 - s1).toNat < n1 → WP kX3_hasRing X 7 [some (2, ((o : Nat) : Int)), some (0, f), some (0, l1), some (0, s1), none, none] [] G1 := by
    intro n1
    induction n1 with
    | zero => intro l1 s1 G1 hCG1 hXG1 hFG1 hi1 hm1; exact absurd hm1 (Nat.not_lt_zero _)
    | succ n1 ih1 =>
      intro l1 s1 G1 hCG1 hXG1 hFG1 hi1 hm1
      obtain ⟨is1, im1, hIG1, hMIG1, hNOG1⟩ := hi1
      refine s_iload_n dX3_hasRing_7 rfl ?_
      refine s_aload_n dX3_hasRing_8 rfl (Int.natCast_nonneg _) ?_
      have hk4 : gK G1 (o) = (12, 0) := ((hXG1).k kM (by decide))
      refine s_callV (as := []) (rest := [(0, s1)]) (n := o) (ci := 4) gX3_slotCount dX3_hasRing_9 m_1361 m_966 m_1693 m_717 m_314 ⟨by decide, by decide, show (parseMethodDescriptor yX3_slotCount.desc).map (fun d => d.parameters.length) = some 0 from by decide +kernel⟩ (Nat.le_of_ble_eq_true rfl) (by rw [hcf]; exact Nat.le_of_ble_eq_true rfl) hk4 rfl rfl (Nat.le_of_ble_eq_true rfl) ⟨o, a, b, rfl, hCG1, hab, (by first | assumption | omega), fun rr2 hp3 => ?_⟩
      show WP kX3_hasRing X 12 [some (2, ((o : Nat) : Int)), some (0, f), some (0, l1), some (0, s1), none, none] [(0, rr2), (0, s1)] G1
      refine s_icmp_ge (tgt := 68) dX3_hasRing_12 (by decide) (fun c5 => ?_) (fun c5 => ?_)
      · -- 12 to 68
        refine s_iconst dX3_hasRing_68 (by decide) ?_
        refine s_istore_n dX3_hasRing_69 (by decide) (lv' := [some (2, ((o : Nat) : Int)), some (0, f), some (0, l1), some (0, 1), none, none]) rfl ?_
        refine s_iconst dX3_hasRing_70 (by decide) ?_
        refine s_istore dX3_hasRing_71 (by decide) (lv' := [some (2, ((o : Nat) : Int)), some (0, f), some (0, l1), some (0, 1), some (0, 0), none]) rfl ?_
        have L6 : ∀ (n6 : Nat) (l6 : Int) (on6 : Int) (r6 : Int) (G6 : LG), CI a b G6 → KX G1 G6 → WX (fun x => x = o + 6) G G6 → (((0 ≤ r6 ∧ r6 ≤ 240) ∧ -(240 * r6) ≤ l6 ∧ l6 ≤ 240) ∧ (∀ s : Int, 10 * f ≤ s → s < 10 * gS G o 9 → gS G6 (o + 6) s.toNat = 0 → 0 ≤ gS G6 (o + 1) s.toNat) ∧ (gS G6 o 9 = gS G o 9) ∧ (MI G6 o f) ∧ (NO G6 o f)) → (240 - r6).toNat < n6 → WP kX3_hasRing X 73 [some (2, ((o : Nat) : Int)), some (0, f), some (0, l6), some (0, on6), some (0, r6), none] [] G6 := by
          intro n6
          induction n6 with
          | zero => intro l6 on6 r6 G6 hCG6 hXG6 hFG6 hi6 hm6; exact absurd hm6 (Nat.not_lt_zero _)
          | succ n6 ih6 =>
            intro l6 on6 r6 G6 hCG6 hXG6 hFG6 hi6 hm6
            obtain ⟨ir6, im6, hIG6, hMIG6, hNOG6⟩ := hi6
            refine s_iload dX3_hasRing_73 rfl ?_
            refine s_sipush dX3_hasRing_75 rfl (by decide) ?_
            refine s_icmp_ge (tgt := 150) dX3_hasRing_78 (by decide) (fun c7 => ?_) (fun c7 => ?_)
            · -- 78 to 150
              refine s_iload_n dX3_hasRing_150 rfl ?_
              have J9 : ∀ z8 : Int, ((l6 ≤ 0) ∧ z8 = 0) ∨ ((¬ l6 ≤ 0) ∧ z8 = 1) → WP kX3_hasRing X 159 [some (2, ((o : Nat) : Int)), some (0, f), some (0, l6), some (0, on6), some (0, r6), none] [(0, z8)] G6 := by
                intro z8 hz8
                exact s_zret hR dX3_hasRing_159 rfl (by first | exact Or.inl rfl | exact Or.inr rfl | omega) (hQ z8 G6 hCG6 (KX.trans hXG1 hXG6) hFG6 (by omega))
              refine s_if_le (tgt := 158) dX3_hasRing_151 (by decide) (fun c10 => ?_) (fun c10 => ?_)
              · -- 151 to 158
                refine s_iconst dX3_hasRing_158 (by decide) ?_
                exact J9 0 (Or.inl ⟨c10, rfl⟩)
              · -- 151 to 154
                refine s_iconst dX3_hasRing_154 (by decide) ?_
                refine s_goto (tgt := 159) dX3_hasRing_155 (by decide) ?_
                exact J9 1 (Or.inr (⟨c10, rfl⟩))
            · -- 78 to 81
              refine s_iload_n dX3_hasRing_81 rfl ?_
              refine s_if_eq (tgt := 150) dX3_hasRing_82 (by decide) (fun c11 => ?_) (fun c11 => ?_)
              · -- 82 to 150
                refine s_iload_n dX3_hasRing_150 rfl ?_
                have J13 : ∀ z12 : Int, ((l6 ≤ 0) ∧ z12 = 0) ∨ ((¬ l6 ≤ 0) ∧ z12 = 1) → WP kX3_hasRing X 159 [some (2, ((o : Nat) : Int)), some (0, f), some (0, l6), some (0, on6), some (0, r6), none] [(0, z12)] G6 := by
                  intro z12 hz12
                  exact s_zret hR dX3_hasRing_159 rfl (by first | exact Or.inl rfl | exact Or.inr rfl | omega) (hQ z12 G6 hCG6 (KX.trans hXG1 hXG6) hFG6 (by omega))
                refine s_if_le (tgt := 158) dX3_hasRing_151 (by decide) (fun c14 => ?_) (fun c14 => ?_)
                · -- 151 to 158
                  refine s_iconst dX3_hasRing_158 (by decide) ?_
                  exact J13 0 (Or.inl ⟨c14, rfl⟩)
                · -- 151 to 154
                  refine s_iconst dX3_hasRing_154 (by decide) ?_
                  refine s_goto (tgt := 159) dX3_hasRing_155 (by decide) ?_
                  exact J13 1 (Or.inr (⟨c14, rfl⟩))
              · -- 82 to 85
                refine s_iload_n dX3_hasRing_85 rfl ?_
                refine s_if_le (tgt := 150) dX3_hasRing_86 (by decide) (fun c15 => ?_) (fun c15 => ?_)
                · -- 86 to 150
                  refine s_iload_n dX3_hasRing_150 rfl ?_
                  have J17 : ∀ z16 : Int, ((l6 ≤ 0) ∧ z16 = 0) ∨ ((¬ l6 ≤ 0) ∧ z16 = 1) → WP kX3_hasRing X 159 [some (2, ((o : Nat) : Int)), some (0, f), some (0, l6), some (0, on6), some (0, r6), none] [(0, z16)] G6 := by
                    intro z16 hz16
                    exact s_zret hR dX3_hasRing_159 rfl (by first | exact Or.inl rfl | exact Or.inr rfl | omega) (hQ z16 G6 hCG6 (KX.trans hXG1 hXG6) hFG6 (by omega))
                  refine s_if_le (tgt := 158) dX3_hasRing_151 (by decide) (fun c18 => ?_) (fun c18 => ?_)
                  · -- 151 to 158
                    refine s_iconst dX3_hasRing_158 (by decide) ?_
                    exact J17 0 (Or.inl ⟨c18, rfl⟩)
                  · -- 151 to 154
                    refine s_iconst dX3_hasRing_154 (by decide) ?_
                    refine s_goto (tgt := 159) dX3_hasRing_155 (by decide) ?_
                    exact J17 1 (Or.inr (⟨c18, rfl⟩))
                · -- 86 to 89
                  refine s_iconst dX3_hasRing_89 (by decide) ?_
                  refine s_istore_n dX3_hasRing_90 (by decide) (lv' := [some (2, ((o : Nat) : Int)), some (0, f), some (0, l6), some (0, 0), some (0, r6), none]) rfl ?_
                  refine s_iload_n dX3_hasRing_91 rfl ?_
                  refine s_bipush dX3_hasRing_92 rfl (by decide) ?_
                  refine s_imul dX3_hasRing_94 (by omega) ?_
                  refine s_istore dX3_hasRing_95 (by decide) (lv' := [some (2, ((o : Nat) : Int)), some (0, f), some (0, l6), some (0, 0), some (0, r6), some (0, f * 10)]) rfl ?_
                  have L19 : ∀ (n19 : Nat) (l19 : Int) (on19 : Int) (s19 : Int) (G19 : LG), CI a b G19 → KX G6 G19 → WX (fun x => x = o + 6) G G19 → (((10 * f ≤ s19 ∧ s19 ≤ 240) ∧ -(240 * r6) - s19 ≤ l19 ∧ l19 ≤ 240) ∧ (∀ s : Int, 10 * f ≤ s → s < 10 * gS G o 9 → gS G19 (o + 6) s.toNat = 0 → 0 ≤ gS G19 (o + 1) s.toNat) ∧ (gS G19 o 9 = gS G o 9) ∧ (MI G19 o f) ∧ (NO G19 o f)) → (240 - s19).toNat < n19 → WP kX3_hasRing X 97 [some (2, ((o : Nat) : Int)), some (0, f), some (0, l19), some (0, on19), some (0, r6), some (0, s19)] [] G19 := by
                    intro n19
                    induction n19 with
                    | zero => intro l19 on19 s19 G19 hCG19 hXG19 hFG19 hi19 hm19; exact absurd hm19 (Nat.not_lt_zero _)
                    | succ n19 ih19 =>
                      intro l19 on19 s19 G19 hCG19 hXG19 hFG19 hi19 hm19
                      obtain ⟨is19, im19, hIG19, hMIG19, hNOG19⟩ := hi19
                      refine s_iload dX3_hasRing_97 rfl ?_
                      refine s_aload_n dX3_hasRing_99 rfl (Int.natCast_nonneg _) ?_
                      have hk22 : gK G19 (o) = (12, 0) := ((hXG19).k ((hXG6).k hk4 (by decide)) (by decide))
                      refine s_callV (as := []) (rest := [(0, s19)]) (n := o) (ci := 4) gX3_slotCount dX3_hasRing_100 m_1361 m_966 m_1693 m_717 m_314 ⟨by decide, by decide, show (parseMethodDescriptor yX3_slotCount.desc).map (fun d => d.parameters.length) = some 0 from by decide +kernel⟩ (Nat.le_of_ble_eq_true rfl) (by rw [hcf]; exact Nat.le_of_ble_eq_true rfl) hk22 rfl rfl (Nat.le_of_ble_eq_true rfl) ⟨o, a, b, rfl, hCG19, hab, (by first | assumption | omega), fun rr20 hp21 => ?_⟩
                      show WP kX3_hasRing X 103 [some (2, ((o : Nat) : Int)), some (0, f), some (0, l19), some (0, on19), some (0, r6), some (0, s19)] [(0, rr20), (0, s19)] G19
                      refine s_icmp_ge (tgt := 144) dX3_hasRing_103 (by decide) (fun c23 => ?_) (fun c23 => ?_)
                      · -- 103 to 144
                        refine s_iinc dX3_hasRing_144 (v := r6) rfl (by omega) (by decide) (lv' := [some (2, ((o : Nat) : Int)), some (0, f), some (0, l19), some (0, on19), some (0, r6 + 1), some (0, s19)]) rfl ?_
                        refine s_goto (tgt := 73) dX3_hasRing_147 (by decide) ?_
                        refine s_mask [true, true, true, true, true, false] (lv' := [some (2, ((o : Nat) : Int)), some (0, f), some (0, l19), some (0, on19), some (0, r6 + 1), none]) rfl ?_
                        exact ih6 l19 on19 (r6 + 1) G19 hCG19 (KX.trans hXG6 hXG19) hFG19 (⟨(by omega), (by exact im19), (by exact hIG19), (by exact hMIG19), (by exact hNOG19)⟩) (by omega)
                      · -- 103 to 106
                        refine s_aload_n dX3_hasRing_106 rfl (Int.natCast_nonneg _) ?_
                        refine s_alv (o) (by simp) (fun (al24 : AL G19 o) => ?_)
                        have hv25 : gS G19 o 6 = ((o + 6 : Nat) : Int) := by have h9 : (gS G19 o 6) = (((o % 1048576) + 6 : Nat) : Int) := hCG19.1.v (j := 6) (by rw [cde_m (by omega) (by omega)]; omega : cde o = 300) al24 (by rw [hk22]; exact Nat.le_of_ble_eq_true rfl); omega
                        refine s_getf (ci := 4) (k := 6) (C := RX3) (T := TX3) (N := 18) (n := o) (L := 0) (t := 2) dX3_hasRing_107 rfl wi_71 m_615 (Nat.le_of_ble_eq_true rfl) rfl rfl hk22 hv25 ?_
                        refine s_iload dX3_hasRing_110 rfl ?_
                        have hk26 : gK G19 (o + 6) = (2, 240) := ((hXG19).k ((hXG6).k ((hXG1).k kM6 (by decide)) (by decide)) (by decide))
                        refine s_bald dX3_hasRing_112 hk26 (by omega) (by omega) rfl ?_
                        refine s_if_ne (tgt := 138) dX3_hasRing_113 (by decide) (fun c27 => ?_) (fun c27 => ?_)
                        · -- 113 to 138
                          refine s_iinc dX3_hasRing_138 (v := s19) rfl (by omega) (by decide) (lv' := [some (2, ((o : Nat) : Int)), some (0, f), some (0, l19), some (0, on19), some (0, r6), some (0, s19 + 1)]) rfl ?_
                          refine s_goto (tgt := 97) dX3_hasRing_141 (by decide) ?_
                          exact ih19 l19 on19 (s19 + 1) G19 hCG19 hXG19 hFG19 (⟨(by omega), (by exact im19), (by exact hIG19), (by exact hMIG19), (by exact hNOG19)⟩) (by omega)
                        · -- 113 to 116
                          refine s_aload_n dX3_hasRing_116 rfl (Int.natCast_nonneg _) ?_
                          refine s_iload dX3_hasRing_117 rfl ?_
                          refine s_callV (as := [(0, s19)]) (rest := []) (n := o) (ci := 4) gX3_leadsToMarked dX3_hasRing_119 m_1365 m_957 m_1684 m_717 m_305 ⟨by decide, by decide, show (parseMethodDescriptor yX3_leadsToMarked.desc).map (fun d => d.parameters.length) = some 1 from by decide +kernel⟩ (Nat.le_of_ble_eq_true rfl) (by rw [hcf]; exact Nat.le_of_ble_eq_true rfl) hk22 rfl rfl (Nat.le_of_ble_eq_true rfl) ⟨o, s19, f, a, b, rfl, hCG19, hab, (by assumption), (by omega), (by exact hMIG19), (by exact hNOG19), (by omega), (by exact im19 s19 (by omega) (by omega) (by omega)), fun rr28 hp29 => ?_⟩
                          show WP kX3_hasRing X 122 [some (2, ((o : Nat) : Int)), some (0, f), some (0, l19), some (0, on19), some (0, r6), some (0, s19)] [(0, rr28)] G19
                          refine s_if_eq (tgt := 138) dX3_hasRing_122 (by decide) (fun c30 => ?_) (fun c30 => ?_)
                          · -- 122 to 138
                            refine s_iinc dX3_hasRing_138 (v := s19) rfl (by omega) (by decide) (lv' := [some (2, ((o : Nat) : Int)), some (0, f), some (0, l19), some (0, on19), some (0, r6), some (0, s19 + 1)]) rfl ?_
                            refine s_goto (tgt := 97) dX3_hasRing_141 (by decide) ?_
                            exact ih19 l19 on19 (s19 + 1) G19 hCG19 hXG19 hFG19 (⟨(by omega), (by exact im19), (by exact hIG19), (by exact hMIG19), (by exact hNOG19)⟩) (by omega)
                          · -- 122 to 125
                            refine s_aload_n dX3_hasRing_125 rfl (Int.natCast_nonneg _) ?_
                            have hv31 : gS G19 o 6 = ((o + 6 : Nat) : Int) := by have h9 : (gS G19 o 6) = (((o % 1048576) + 6 : Nat) : Int) := hCG19.1.v (j := 6) (by rw [cde_m (by omega) (by omega)]; omega : cde o = 300) al24 (by rw [hk22]; exact Nat.le_of_ble_eq_true rfl); omega
                            refine s_getf (ci := 4) (k := 6) (C := RX3) (T := TX3) (N := 18) (n := o) (L := 0) (t := 2) dX3_hasRing_126 rfl wi_71 m_615 (Nat.le_of_ble_eq_true rfl) rfl rfl hk22 hv31 ?_
                            refine s_iload dX3_hasRing_129 rfl ?_
                            refine s_iconst dX3_hasRing_131 (by decide) ?_
                            refine s_bast dX3_hasRing_132 hk26 (by omega) (by omega) (by omega) ?_
                            generalize eG32r : gset G19 (o + 6) ((s19 : Int).toNat) 1 = G32
                            have eG32 := eG32r.symm
                            have hCG32 : CI a b G32 := by rw [eG32]; exact hCG19.set (by rw [(by rw [cde_m (by omega) (by omega)]; omega : cde (o + 6) = 306)]; rfl) (by rw [(by rw [cde_m (by omega) (by omega)]; omega : cde (o + 6) = 306)]; exact trivial)
                            have hXG32 : KX G19 G32 := KX.set KX.rf eG32
                            have hFG32 : WX (fun x => x = o + 6) G G32 := WX.set hFG19 eG32 (by show _; omega)
                            have hfG32 : WX (fun x => x = (o + 6) % 1048576) G19 G32 := WX.set WX.rf eG32 rfl
                            have hIG32 : gS G32 o 9 = gS G o 9 := (congrFun (hfG32 o (KX.al (KX.trans (KX.trans hXG1 hXG6) hXG19) (kne kM (by decide))) rg0) 9).trans hIG19
                            have hMIG32 : MI G32 o f := hMIG19.cg (congrFun (hfG32 (o) (KX.al (KX.trans (KX.trans hXG1 hXG6) hXG19) (kne kM (by decide))) rg0) 9) (hfG32 (o + 1) (KX.al (KX.trans (KX.trans hXG1 hXG6) hXG19) (kne kM1 (by decide))) rg1) (hfG32 (o + 3) (KX.al (KX.trans (KX.trans hXG1 hXG6) hXG19) (kne kM3 (by decide))) rg2) (hfG32 (o + 4) (KX.al (KX.trans (KX.trans hXG1 hXG6) hXG19) (kne kM4 (by decide))) rg3) (congrFun (hfG32 (327681) (KX.al (KX.trans (KX.trans hXG1 hXG6) hXG19) (kne kMp (by decide))) rg4) 12)
                            have hNOG32 : NO G32 o f := hNOG19.cg (congrFun (hfG32 (o) (KX.al (KX.trans (KX.trans hXG1 hXG6) hXG19) (kne kM (by decide))) rg0) 9) (hfG32 (o + 1) (KX.al (KX.trans (KX.trans hXG1 hXG6) hXG19) (kne kM1 (by decide))) rg1) (hfG32 (o + 5) (KX.al (KX.trans (KX.trans hXG1 hXG6) hXG19) (kne kM5 (by decide))) rg5) (hfG32 (327706) (KX.al (KX.trans (KX.trans hXG1 hXG6) hXG19) (kne kMp10 (by decide))) rg6)
                            show WP kX3_hasRing X 133 [some (2, ((o : Nat) : Int)), some (0, f), some (0, l19), some (0, on19), some (0, r6), some (0, s19)] [] G32
                            have hb1G32 : gS G32 (o + 1) = gS G19 (o + 1) := gset_o eG32 (by omega)
                            refine s_iinc dX3_hasRing_133 (v := l19) rfl (by omega) (by decide) (lv' := [some (2, ((o : Nat) : Int)), some (0, f), some (0, l19 + (-1)), some (0, on19), some (0, r6), some (0, s19)]) rfl ?_
                            refine s_iconst dX3_hasRing_136 (by decide) ?_
                            refine s_istore_n dX3_hasRing_137 (by decide) (lv' := [some (2, ((o : Nat) : Int)), some (0, f), some (0, l19 + (-1)), some (0, 1), some (0, r6), some (0, s19)]) rfl ?_
                            refine s_iinc dX3_hasRing_138 (v := s19) rfl (by omega) (by decide) (lv' := [some (2, ((o : Nat) : Int)), some (0, f), some (0, l19 + (-1)), some (0, 1), some (0, r6), some (0, s19 + 1)]) rfl ?_
                            refine s_goto (tgt := 97) dX3_hasRing_141 (by decide) ?_
                            exact ih19 (l19 + (-1)) 1 (s19 + 1) G32 hCG32 (KX.trans hXG19 hXG32) hFG32 (⟨(by omega), (by intro s h0 h1 h2; by_cases w : s = s19; (focus (subst w; rw [gsaE eG32] at h2; rw [hb1G32]; omega)); (focus (rw [eG32, gset_ne _ _ (fun q => by omega)] at h2; rw [hb1G32]; exact im19 s h0 (by omega) h2))), (by exact hIG32), (by exact hMIG32), (by exact hNOG32)⟩) (by omega)
                  exact L19 _ l6 0 (f * 10) G6 hCG6 KX.rf hFG6 (⟨(by omega), (by exact im6), (by exact hIG6), (by exact hMIG6), (by exact hNOG6)⟩) (Nat.lt_succ_self _)
        exact L6 _ l1 1 0 G1 hCG1 KX.rf hFG1 (⟨(by omega), (by intro s h0 h1 h2; exact im1 s h0 (by omega) h2), (by exact hIG1), (by exact hMIG1), (by exact hNOG1)⟩) (Nat.lt_succ_self _)
      · -- 12 to 15
        refine s_aload_n dX3_hasRing_15 rfl (Int.natCast_nonneg _) ?_
        refine s_alv (o) (by simp) (fun (al33 : AL G1 o) => ?_)
        have hv34 : gS G1 o 6 = ((o + 6 : Nat) : Int) := by have h9 : (gS G1 o 6) = (((o % 1048576) + 6 : Nat) : Int) := hCG1.1.v (j := 6) (by rw [cde_m (by omega) (by omega)]; omega : cde o = 300) al33 (by rw [hk4]; exact Nat.le_of_ble_eq_true rfl); omega
        refine s_getf (ci := 4) (k := 6) (C := RX3) (T := TX3) (N := 18) (n := o) (L := 0) (t := 2) dX3_hasRing_16 rfl wi_71 m_615 (Nat.le_of_ble_eq_true rfl) rfl rfl hk4 hv34 ?_
        refine s_iload_n dX3_hasRing_19 rfl ?_
        refine s_aload_n dX3_hasRing_20 rfl (Int.natCast_nonneg _) ?_
        refine s_iload_n dX3_hasRing_21 rfl ?_
        refine s_callV (as := [(0, s1)]) (rest := [(0, s1), (2, ((o + 6 : Nat) : Int))]) (n := o) (ci := 4) gX3_isCell dX3_hasRing_22 m_1362 m_955 m_1682 m_717 m_303 ⟨by decide, by decide, show (parseMethodDescriptor yX3_isCell.desc).map (fun d => d.parameters.length) = some 1 from by decide +kernel⟩ (Nat.le_of_ble_eq_true rfl) (by rw [hcf]; exact Nat.le_of_ble_eq_true rfl) hk4 rfl rfl (Nat.le_of_ble_eq_true rfl) ⟨o, s1, a, b, rfl, hCG1, hab, (by first | assumption | omega), (by first | assumption | omega), fun rr35 hp36 => ?_⟩
        show WP kX3_hasRing X 25 [some (2, ((o : Nat) : Int)), some (0, f), some (0, l1), some (0, s1), none, none] [(0, rr35), (0, s1), (2, ((o + 6 : Nat) : Int))] G1
        have J40 : ∀ z39 : Int, ((rr35 = 0) ∧ z39 = 1) ∨ ((¬ rr35 = 0) ∧ ((i_and (gS G1 (o + 2) ((s1 : Int).toNat)) 1) = 0) ∧ z39 = 0) ∨ ((¬ rr35 = 0) ∧ (¬ (i_and (gS G1 (o + 2) ((s1 : Int).toNat)) 1) = 0) ∧ z39 = 1) → WP kX3_hasRing X 44 [some (2, ((o : Nat) : Int)), some (0, f), some (0, l1), some (0, s1), none, none] [(0, z39), (0, s1), (2, ((o + 6 : Nat) : Int))] G1 := by
          intro z39 hz39
          have hk41 : gK G1 (o + 6) = (2, 240) := ((hXG1).k kM6 (by decide))
          refine s_bast dX3_hasRing_44 hk41 (by omega) (by omega) (by omega) ?_
          generalize eG42r : gset G1 (o + 6) ((s1 : Int).toNat) z39 = G42
          have eG42 := eG42r.symm
          have hCG42 : CI a b G42 := by rw [eG42]; exact hCG1.set (by rw [(by rw [cde_m (by omega) (by omega)]; omega : cde (o + 6) = 306)]; rfl) (by rw [(by rw [cde_m (by omega) (by omega)]; omega : cde (o + 6) = 306)]; exact trivial)
          have hXG42 : KX G1 G42 := KX.set KX.rf eG42
          have hFG42 : WX (fun x => x = o + 6) G G42 := WX.set hFG1 eG42 (by show _; omega)
          have hfG42 : WX (fun x => x = (o + 6) % 1048576) G1 G42 := WX.set WX.rf eG42 rfl
          have hIG42 : gS G42 o 9 = gS G o 9 := (congrFun (hfG42 o (KX.al hXG1 (kne kM (by decide))) rg0) 9).trans hIG1
          have hMIG42 : MI G42 o f := hMIG1.cg (congrFun (hfG42 (o) (KX.al hXG1 (kne kM (by decide))) rg0) 9) (hfG42 (o + 1) (KX.al hXG1 (kne kM1 (by decide))) rg1) (hfG42 (o + 3) (KX.al hXG1 (kne kM3 (by decide))) rg2) (hfG42 (o + 4) (KX.al hXG1 (kne kM4 (by decide))) rg3) (congrFun (hfG42 (327681) (KX.al hXG1 (kne kMp (by decide))) rg4) 12)
          have hNOG42 : NO G42 o f := hNOG1.cg (congrFun (hfG42 (o) (KX.al hXG1 (kne kM (by decide))) rg0) 9) (hfG42 (o + 1) (KX.al hXG1 (kne kM1 (by decide))) rg1) (hfG42 (o + 5) (KX.al hXG1 (kne kM5 (by decide))) rg5) (hfG42 (327706) (KX.al hXG1 (kne kMp10 (by decide))) rg6)
          show WP kX3_hasRing X 45 [some (2, ((o : Nat) : Int)), some (0, f), some (0, l1), some (0, s1), none, none] [] G42
          have hb1G42 : gS G42 (o + 1) = gS G1 (o + 1) := gset_o eG42 (by omega)
          refine s_iload_n dX3_hasRing_45 rfl ?_
          refine s_aload_n dX3_hasRing_46 rfl (Int.natCast_nonneg _) ?_
          have hk43 : gK G42 (o) = (12, 0) := ((hXG42).k hk4 (by decide))
          refine s_alv (o) (by simp) (fun (al44 : AL G42 o) => ?_)
          have hv45 : gS G42 o 6 = ((o + 6 : Nat) : Int) := by have h9 : (gS G42 o 6) = (((o % 1048576) + 6 : Nat) : Int) := hCG42.1.v (j := 6) (by rw [cde_m (by omega) (by omega)]; omega : cde o = 300) al44 (by rw [hk43]; exact Nat.le_of_ble_eq_true rfl); omega
          refine s_getf (ci := 4) (k := 6) (C := RX3) (T := TX3) (N := 18) (n := o) (L := 0) (t := 2) dX3_hasRing_47 rfl wi_71 m_615 (Nat.le_of_ble_eq_true rfl) rfl rfl hk43 hv45 ?_
          refine s_iload_n dX3_hasRing_50 rfl ?_
          have hk46 : gK G42 (o + 6) = (2, 240) := ((hXG42).k hk41 (by decide))
          refine s_bald dX3_hasRing_51 hk46 (by omega) (by omega) (gsaE eG42) ?_
          have J48 : ∀ z47 : Int, ((z39 = 0) ∧ z47 = 1) ∨ ((¬ z39 = 0) ∧ z47 = 0) → WP kX3_hasRing X 60 [some (2, ((o : Nat) : Int)), some (0, f), some (0, l1), some (0, s1), none, none] [(0, z47), (0, l1)] G42 := by
            intro z47 hz47
            refine s_iadd dX3_hasRing_60 (by omega) ?_
            refine s_istore_n dX3_hasRing_61 (by decide) (lv' := [some (2, ((o : Nat) : Int)), some (0, f), some (0, l1 + z47), some (0, s1), none, none]) rfl ?_
            refine s_iinc dX3_hasRing_62 (v := s1) rfl (by omega) (by decide) (lv' := [some (2, ((o : Nat) : Int)), some (0, f), some (0, l1 + z47), some (0, s1 + 1), none, none]) rfl ?_
            refine s_goto (tgt := 7) dX3_hasRing_65 (by decide) ?_
            exact ih1 (l1 + z47) (s1 + 1) G42 hCG42 (KX.trans hXG1 hXG42) hFG42 (⟨(by omega), (by intro s h0 h1 h2; by_cases w : s = s1; (focus (subst w; rw [gsaE eG42] at h2; rw [hb1G42]; omega)); (focus (rw [eG42, gset_ne _ _ (fun q => by omega)] at h2; rw [hb1G42]; exact im1 s h0 (by omega) h2))), (by exact hIG42), (by exact hMIG42), (by exact hNOG42)⟩) (by omega)
          refine s_if_eq (tgt := 59) dX3_hasRing_52 (by decide) (fun c49 => ?_) (fun c49 => ?_)
          · -- 52 to 59
            refine s_iconst dX3_hasRing_59 (by decide) ?_
            exact J48 1 (Or.inl ⟨c49, rfl⟩)
          · -- 52 to 55
            refine s_iconst dX3_hasRing_55 (by decide) ?_
            refine s_goto (tgt := 60) dX3_hasRing_56 (by decide) ?_
            exact J48 0 (Or.inr (⟨c49, rfl⟩))
        refine s_if_eq (tgt := 39) dX3_hasRing_25 (by decide) (fun c50 => ?_) (fun c50 => ?_)
        · -- 25 to 39
          refine s_iconst dX3_hasRing_39 (by decide) ?_
          refine s_goto (tgt := 44) dX3_hasRing_40 (by decide) ?_
          exact J40 1 (Or.inl ⟨c50, rfl⟩)
        · -- 25 to 28
          refine s_aload_n dX3_hasRing_28 rfl (Int.natCast_nonneg _) ?_
          have hv51 : gS G1 o 2 = ((o + 2 : Nat) : Int) := by have h9 : (gS G1 o 2) = (((o % 1048576) + 2 : Nat) : Int) := hCG1.1.v (j := 2) (by rw [cde_m (by omega) (by omega)]; omega : cde o = 300) al33 (by rw [hk4]; exact Nat.le_of_ble_eq_true rfl); omega
          refine s_getf (ci := 4) (k := 2) (C := RX3) (T := TX3) (N := 18) (n := o) (L := 0) (t := 2) dX3_hasRing_29 rfl wi_71 m_598 (Nat.le_of_ble_eq_true rfl) rfl rfl hk4 hv51 ?_
          refine s_iload_n dX3_hasRing_32 rfl ?_
          have hk52 : gK G1 (o + 2) = (1, 240) := ((hXG1).k kM2 (by decide))
          refine s_iald dX3_hasRing_33 hk52 (by omega) (by omega) rfl ?_
          refine s_iconst dX3_hasRing_34 (by decide) ?_
          refine s_iand dX3_hasRing_35 ?_
          refine s_if_eq (tgt := 43) dX3_hasRing_36 (by decide) (fun c53 => ?_) (fun c53 => ?_)
          · -- 36 to 43
            refine s_iconst dX3_hasRing_43 (by decide) ?_
            exact J40 0 (Or.inr (Or.inl ⟨c50, c53, rfl⟩))
          · -- 36 to 39
            refine s_iconst dX3_hasRing_39 (by decide) ?_
            refine s_goto (tgt := 44) dX3_hasRing_40 (by decide) ?_
            exact J40 1 (Or.inr (Or.inr (⟨c50, c53, rfl⟩)))
  exact L1 _ 0 (f * 10) G hC KX.rf WX.rf (⟨(by omega), (by intro s h0 h1; omega), (by exact hI), (by exact hMI), (by exact hNO)⟩) (Nat.lt_succ_self _)

abbrev kX3_reachCell : KD := (RX3, cX3_reachCell, 2, none, [])
def TX3_reachCell : TR := fun as G Qr => ∃ (o : Nat) (c f : Int) (a b : Nat), as = [(2, ((o : Nat) : Int)), (0, c)] ∧ CI a b G ∧ (a ≤ 2840000 ∧ b ≤ 590000) ∧ (isMc o) ∧ (0 ≤ f ∧ f ≤ 24) ∧ (c < 0 ∨ ((10 * f ≤ c ∧ c < 10 * gS G o 9) ∧ 0 ≤ gS G (o + 1) c.toNat)) ∧ (SK G o f (gS G o 17)) ∧ ∀ (G' : LG), CI a b G' → KX G G' → WX (fun x => x = o ∨ x = o + 6 ∨ x = o + 8) G G' → (SK G' o f (gS G' o 17) ∧ gS G o 17 ≤ gS G' o 17 ∧ ∀ j, j ≠ 17 → gS G' o j = gS G o j) → Qr (.inl none) G'
set_option maxHeartbeats 4000000 in
set_option maxRecDepth 100000 in
theorem gX3_reachCell : Good kX3_reachCell yX3_reachCell 0 TX3_reachCell := by
  refine good_of (by decide) rfl rfl (fun as G Qr h => ?_) (fun X as G Qr hcf hR hT oa => ?_)
  · obtain ⟨o, c, f, a, b, rfl, -⟩ := h; exact Nat.le_of_ble_eq_true rfl
  obtain ⟨o, c, f, a, b, rfl, hC, hab, ho, hf0, hc, hSK, hQ⟩ := hT
  show WP kX3_reachCell X 0 [some (2, ((o : Nat) : Int)), some (0, c)] [] G
  have hr_c : inR c := okv_R (oa _ (by simp))
  refine s_alvl o (k := 0) rfl (fun alo => ?_)
  refine s_lk (fun hlk => ?_)
  have hmn := hlk.mna hC ho alo
  obtain ⟨kM, kM1, kM2, kM3, kM4, kM5, kM6, kM7, kM8, kM13, kM15, kM20, kMp, kMp5, kMp6, kMp7, kMp8, kMp9, kMp10, kMp13, kMp14, kMp16⟩ := id hmn
  have hin : 0 ≤ gS G o 9 ∧ gS G o 9 ≤ 24 := hC.1.v (c := 300) (j := 9) (by rcases ho with rfl | rfl <;> decide) alo (by rw [kM]; exact Nat.le_of_ble_eq_true rfl)
  have h17 : 0 ≤ gS G o 17 ∧ gS G o 17 ≤ 240 := hC.1.v (c := 300) (j := 17) (by rcases ho with rfl | rfl <;> decide) alo (by rw [kM]; exact Nat.le_of_ble_eq_true rfl)
  refine s_iload_n dX3_reachCell_0 rfl ?_
  refine s_if_lt (tgt := 50) dX3_reachCell_1 (by decide) (fun c1 => ?_) (fun c1 => ?_)
  · -- 1 to 50
    exact s_vret hR dX3_reachCell_50 rfl (hQ G hC KX.rf WX.rf ⟨hSK, Int.le_refl _, fun _ _ => rfl⟩)
  · -- 1 to 4
    have hc9 := hc.resolve_left (by omega)
    clear hc
    refine s_aload_n dX3_reachCell_4 rfl (Int.natCast_nonneg _) ?_
    have hv2 : gS G o 6 = ((o + 6 : Nat) : Int) := by have h9 : (gS G o 6) = (((o % 1048576) + 6 : Nat) : Int) := hC.1.v (j := 6) (by rw [cde_m (by omega) (by omega)]; omega : cde o = 300) (kne kM (by decide)) (by rw [kM]; exact Nat.le_of_ble_eq_true rfl); omega
    refine s_getf (ci := 4) (k := 6) (C := RX3) (T := TX3) (N := 18) (n := o) (L := 0) (t := 2) dX3_reachCell_5 rfl wi_71 m_615 (Nat.le_of_ble_eq_true rfl) rfl rfl kM hv2 ?_
    refine s_iload_n dX3_reachCell_8 rfl ?_
    refine s_bald dX3_reachCell_9 kM6 (by omega) (by omega) rfl ?_
    refine s_if_ne (tgt := 50) dX3_reachCell_10 (by decide) (fun c3 => ?_) (fun c3 => ?_)
    · -- 10 to 50
      exact s_vret hR dX3_reachCell_50 rfl (hQ G hC KX.rf WX.rf ⟨hSK, Int.le_refl _, fun _ _ => rfl⟩)
    · -- 10 to 13
      refine s_aload_n dX3_reachCell_13 rfl (Int.natCast_nonneg _) ?_
      have hv4 : 0 ≤ (gS G o 17) ∧ (gS G o 17) ≤ 240 := hC.1.v (j := 17) (by rw [cde_m (by omega) (by omega)]; omega : cde o = 300) (kne kM (by decide)) (by rw [kM]; exact Nat.le_of_ble_eq_true rfl)
      refine s_getf (ci := 4) (k := 17) (C := RX3) (T := TX3) (N := 18) (n := o) (L := 0) (t := 0) dX3_reachCell_14 rfl wi_71 m_605 (Nat.le_of_ble_eq_true rfl) rfl rfl kM rfl ?_
      refine s_sipush dX3_reachCell_17 rfl (by decide) ?_
      refine s_icmp_ge (tgt := 50) dX3_reachCell_20 (by decide) (fun c5 => ?_) (fun c5 => ?_)
      · -- 20 to 50
        exact s_vret hR dX3_reachCell_50 rfl (hQ G hC KX.rf WX.rf ⟨hSK, Int.le_refl _, fun _ _ => rfl⟩)
      · -- 20 to 23
        refine s_aload_n dX3_reachCell_23 rfl (Int.natCast_nonneg _) ?_
        have hv6 : gS G o 6 = ((o + 6 : Nat) : Int) := by have h9 : (gS G o 6) = (((o % 1048576) + 6 : Nat) : Int) := hC.1.v (j := 6) (by rw [cde_m (by omega) (by omega)]; omega : cde o = 300) (kne kM (by decide)) (by rw [kM]; exact Nat.le_of_ble_eq_true rfl); omega
        refine s_getf (ci := 4) (k := 6) (C := RX3) (T := TX3) (N := 18) (n := o) (L := 0) (t := 2) dX3_reachCell_24 rfl wi_71 m_615 (Nat.le_of_ble_eq_true rfl) rfl rfl kM hv6 ?_
        refine s_iload_n dX3_reachCell_27 rfl ?_
        refine s_iconst dX3_reachCell_28 (by decide) ?_
        refine s_bast dX3_reachCell_29 kM6 (by omega) (by omega) (by omega) ?_
        generalize eG7r : gset G (o + 6) ((c : Int).toNat) 1 = G7
        have eG7 := eG7r.symm
        have hCG7 : CI a b G7 := by rw [eG7]; exact hC.set (by rw [(by rw [cde_m (by omega) (by omega)]; omega : cde (o + 6) = 306)]; rfl) (by rw [(by rw [cde_m (by omega) (by omega)]; omega : cde (o + 6) = 306)]; exact trivial)
        have hXG7 : KX G G7 := KX.set KX.rf eG7
        have hFG7 : WX (fun x => x = o ∨ x = o + 6 ∨ x = o + 8) G G7 := WX.set WX.rf eG7 (by show _; omega)
        show WP kX3_reachCell X 30 [some (2, ((o : Nat) : Int)), some (0, c)] [] G7
        refine s_aload_n dX3_reachCell_30 rfl (Int.natCast_nonneg _) ?_
        have hk8 : gK G7 (o) = (12, 0) := ((hXG7).k kM (by decide))
        refine s_alv (o) (by simp) (fun (al9 : AL G7 o) => ?_)
        have hv10 : gS G7 o 8 = ((o + 8 : Nat) : Int) := by have h9 : (gS G7 o 8) = (((o % 1048576) + 8 : Nat) : Int) := hCG7.1.v (j := 8) (by rw [cde_m (by omega) (by omega)]; omega : cde o = 300) al9 (by rw [hk8]; exact Nat.le_of_ble_eq_true rfl); omega
        refine s_getf (ci := 4) (k := 8) (C := RX3) (T := TX3) (N := 18) (n := o) (L := 0) (t := 2) dX3_reachCell_31 rfl wi_71 m_617 (Nat.le_of_ble_eq_true rfl) rfl rfl hk8 hv10 ?_
        refine s_aload_n dX3_reachCell_34 rfl (Int.natCast_nonneg _) ?_
        have hv11 : 0 ≤ (gS G7 o 17) ∧ (gS G7 o 17) ≤ 240 := hCG7.1.v (j := 17) (by rw [cde_m (by omega) (by omega)]; omega : cde o = 300) al9 (by rw [hk8]; exact Nat.le_of_ble_eq_true rfl)
        refine s_getf (ci := 4) (k := 17) (C := RX3) (T := TX3) (N := 18) (n := o) (L := 0) (t := 0) dX3_reachCell_35 rfl wi_71 m_605 (Nat.le_of_ble_eq_true rfl) rfl rfl hk8 rfl ?_
        refine s_iload_n dX3_reachCell_38 rfl ?_
        have hk12 : gK G7 (o + 8) = (1, 240) := ((hXG7).k kM8 (by decide))
        refine s_iast dX3_reachCell_39 hk12 (by omega) (by omega) ?_
        generalize eG13r : gset G7 (o + 8) ((gS G7 o 17 : Int).toNat) c = G13
        have eG13 := eG13r.symm
        have hCG13 : CI a b G13 := by rw [eG13]; exact hCG7.set (by rw [(by rw [cde_m (by omega) (by omega)]; omega : cde (o + 8) = 308)]; rfl) (by rw [(by rw [cde_m (by omega) (by omega)]; omega : cde (o + 8) = 308)]; exact (show 0 ≤ c ∧ c ≤ 239 from by omega))
        have hXG13 : KX G7 G13 := KX.set KX.rf eG13
        have hFG13 : WX (fun x => x = o ∨ x = o + 6 ∨ x = o + 8) G G13 := WX.set hFG7 eG13 (by show _; omega)
        show WP kX3_reachCell X 40 [some (2, ((o : Nat) : Int)), some (0, c)] [] G13
        refine s_aload_n dX3_reachCell_40 rfl (Int.natCast_nonneg _) ?_
        refine s_dup dX3_reachCell_41 (show (2 : Nat) ≠ 1 by decide) ?_
        have hk14 : gK G13 (o) = (12, 0) := ((hXG13).k hk8 (by decide))
        refine s_alv (o) (by simp) (fun (al16 : AL G13 o) => ?_)
        have hv15 : 0 ≤ (gS G13 o 17) ∧ (gS G13 o 17) ≤ 240 := hCG13.1.v (j := 17) (by rw [cde_m (by omega) (by omega)]; omega : cde o = 300) al16 (by rw [hk14]; exact Nat.le_of_ble_eq_true rfl)
        refine s_getf (ci := 4) (k := 17) (C := RX3) (T := TX3) (N := 18) (n := o) (L := 0) (t := 0) dX3_reachCell_42 rfl wi_71 m_605 (Nat.le_of_ble_eq_true rfl) rfl rfl hk14 rfl ?_
        refine s_iconst dX3_reachCell_45 (by decide) ?_
        refine s_iadd dX3_reachCell_46 (by omega) ?_
        refine s_putf (ci := 4) (k := 17) (C := RX3) (T := TX3) (N := 18) (n := o) (L := 0) dX3_reachCell_47 rfl wi_71 m_605 (Nat.le_of_ble_eq_true rfl) rfl rfl tyX3_ok nmX3 rfl (Or.inl rfl) hk14 ?_
        generalize eG17r : gset G13 o 17 ((gS G13 o 17) + 1) = G17
        have eG17 := eG17r.symm
        have hCG17 : CI a b G17 := by rw [eG17]; exact hCG13.set (by rw [(by rw [cde_m (by omega) (by omega)]; omega : cde o = 300)]; rfl) (by rw [(by rw [cde_m (by omega) (by omega)]; omega : cde o = 300)]; exact (show 0 ≤ ((gS G13 o 17) + 1) ∧ ((gS G13 o 17) + 1) ≤ 240 from by omega))
        have hXG17 : KX G13 G17 := KX.set KX.rf eG17
        have hFG17 : WX (fun x => x = o ∨ x = o + 6 ∨ x = o + 8) G G17 := WX.set hFG13 eG17 (by show _; omega)
        show WP kX3_reachCell X 50 [some (2, ((o : Nat) : Int)), some (0, c)] [] G17
        have a1 : gS G7 o = gS G o := gset_o eG7 (by omega)
        have a2 : gS G13 o = gS G o := (gset_o eG13 (by omega)).trans a1
        have a17 : gS G7 o 17 = gS G o 17 := congrFun a1 17
        have a18 : gS G13 o 17 = gS G o 17 := congrFun a2 17
        have a3 : ∀ j, j ≠ 17 → gS G17 o j = gS G o j := fun j hj => by rw [eG17, gset_ne _ _ (fun z => hj z.2), a2]
        have b9 : gS G17 (o + 1) = gS G (o + 1) := (gset_o eG17 (by omega)).trans ((gset_o eG13 (by omega)).trans (gset_o eG7 (by omega)))
        have b8 : gS G17 (o + 8) = gS G13 (o + 8) := gset_o eG17 (by omega)
        have b7 : gS G7 (o + 8) = gS G (o + 8) := gset_o eG7 (by omega)
        have d9 : gS G17 o 17 = gS G o 17 + 1 := (gsaE eG17).trans (by omega)
        have hS3 : SK G17 o f (gS G o 17 + 1) := hSK.push (a3 9 (by decide)) b9 (fun j hj => by rw [b8, eG13, gset_ne _ _ (fun z => hj (by omega)), b7]) (by rw [b8, show (gS G o 17).toNat = (gS G7 o 17 : Int).toNat by omega]; exact gsaE eG13) (by omega) hc9
        exact s_vret hR dX3_reachCell_50 rfl (hQ G17 hCG17 (KX.trans (KX.trans hXG7 hXG13) hXG17) hFG17 ⟨by rw [d9]; exact hS3, by omega, a3⟩)

abbrev kX3_faceCell : KD := (RX3, cX3_faceCell, 5, (some .int), [])
def TX3_faceCell : TR := fun as G Qr => ∃ (o n : Nat) (w k f : Int) (a b : Nat), as = [(2, ((o : Nat) : Int)), (2, ((n : Nat) : Int)), (0, w), (0, k)] ∧ CI a b G ∧ (a ≤ 2840000 ∧ b ≤ 590000) ∧ (isMc o) ∧ (isNd n) ∧ (0 ≤ f) ∧ (MI G o f) ∧ (MC G o f) ∧ (f ≤ w ∧ w < gS G o 9) ∧ (0 ≤ k ∧ k < 10) ∧ ∀ (r : Int), (r = -1 ∨ ((10 * f ≤ r ∧ r < 10 * gS G o 9) ∧ 0 ≤ gS G (o + 1) r.toNat)) → Qr (.inl (some (0, r))) G
set_option maxHeartbeats 4000000 in
set_option maxRecDepth 100000 in
theorem gX3_faceCell : Good kX3_faceCell yX3_faceCell 0 TX3_faceCell := by
  refine good_of (by decide) rfl rfl (fun as G Qr h => ?_) (fun X as G Qr hcf hR hT oa => ?_)
  · obtain ⟨o, n, w, k, f, a, b, rfl, -⟩ := h; exact Nat.le_of_ble_eq_true rfl
  obtain ⟨o, n, w, k, f, a, b, rfl, hC, hab, ho, hn, hf0, hMI, hMC, hw, hk, hQ⟩ := hT
  show WP kX3_faceCell X 0 [some (2, ((o : Nat) : Int)), some (2, ((n : Nat) : Int)), some (0, w), some (0, k), none] [] G
  have hr_w : inR w := okv_R (oa _ (by simp))
  have hr_k : inR k := okv_R (oa _ (by simp))
  refine s_alvl o (k := 0) rfl (fun alo => ?_)
  refine s_lk (fun hlk => ?_)
  have hmn := hlk.mna hC ho alo
  obtain ⟨kM, kM1, kM2, kM3, kM4, kM5, kM6, kM7, kM8, kM13, kM15, kM20, kMp, kMp5, kMp6, kMp7, kMp8, kMp9, kMp10, kMp13, kMp14, kMp16⟩ := id hmn
  have hin : 0 ≤ gS G o 9 ∧ gS G o 9 ≤ 24 := hC.1.v (c := 300) (j := 9) (by rcases ho with rfl | rfl <;> decide) alo (by rw [kM]; exact Nat.le_of_ble_eq_true rfl)
  refine s_aload_n dX3_faceCell_0 rfl (Int.natCast_nonneg _) ?_
  have hv1 : gS G o 4 = ((o + 4 : Nat) : Int) := by have h9 : (gS G o 4) = (((o % 1048576) + 4 : Nat) : Int) := hC.1.v (j := 4) (by rw [cde_m (by omega) (by omega)]; omega : cde o = 300) (kne kM (by decide)) (by rw [kM]; exact Nat.le_of_ble_eq_true rfl); omega
  refine s_getf (ci := 4) (k := 4) (C := RX3) (T := TX3) (N := 18) (n := o) (L := 0) (t := 2) dX3_faceCell_1 rfl wi_71 m_608 (Nat.le_of_ble_eq_true rfl) rfl rfl kM hv1 ?_
  refine s_iload_n dX3_faceCell_4 rfl ?_
  refine s_bipush dX3_faceCell_5 rfl (by decide) ?_
  refine s_imul dX3_faceCell_7 (by omega) ?_
  refine s_iload_n dX3_faceCell_8 rfl ?_
  refine s_iadd dX3_faceCell_9 (by omega) ?_
  have hmi := hMI ((w * 10) + k) (by omega) (by omega)
  have hv2 : -1 ≤ (gS G (o + 4) ((w * 10) + k : Int).toNat) ∧ (gS G (o + 4) ((w * 10) + k : Int).toNat) ≤ 239 := hC.1.v (j := ((w * 10) + k : Int).toNat) (by rw [cde_m (by omega) (by omega)]; omega : cde (o + 4) = 304) (kne kM4 (by decide)) (by rw [kM4]; show ((w * 10) + k : Int).toNat < 240; omega)
  refine s_iald dX3_faceCell_10 kM4 (by omega) (by omega) rfl ?_
  refine s_istore dX3_faceCell_11 (by decide) (lv' := [some (2, ((o : Nat) : Int)), some (2, ((n : Nat) : Int)), some (0, w), some (0, k), some (0, gS G (o + 4) (((w * 10) + k : Int).toNat))]) rfl ?_
  refine s_iload dX3_faceCell_13 rfl ?_
  refine s_if_lt (tgt := 31) dX3_faceCell_15 (by decide) (fun c3 => ?_) (fun c3 => ?_)
  · -- 15 to 31
    refine s_iconst dX3_faceCell_31 (by decide) ?_
    refine s_goto (tgt := 42) dX3_faceCell_32 (by decide) ?_
    exact s_iret hR dX3_faceCell_42 rfl (hQ ((-1)) (by omega))
  · -- 15 to 18
    refine s_aload_n dX3_faceCell_18 rfl (Int.natCast_nonneg _) ?_
    refine s_alv (n) (by simp) (fun (al4 : AL G n) => ?_)
    have hk5 : gK G (n) = (13, 0) := hC.1.k (by rw [cde_n (by omega) (by omega)]; omega : cde n = 100) al4
    have hv6 : gS G n 7 = ((n + 1 : Nat) : Int) := by have h9 : (gS G n 7) = (((n % 1048576) + 1 : Nat) : Int) := hC.1.v (j := 7) (by rw [cde_n (by omega) (by omega)]; omega : cde n = 100) al4 (by rw [hk5]; exact Nat.le_of_ble_eq_true rfl); omega
    refine s_getf (ci := 5) (k := 7) (C := RX4) (T := TX4) (N := 14) (n := n) (L := 0) (t := 2) dX3_faceCell_19 rfl wi_72 m_597 (Nat.le_of_ble_eq_true rfl) rfl rfl hk5 hv6 ?_
    refine s_alv (n + 1) (by simp) (fun (al7 : AL G (n + 1)) => ?_)
    have hk8 : gK G (n + 1) = (9, 0) := hC.1.k (by rw [cde_n (by omega) (by omega)]; omega : cde (n + 1) = 101) al7
    have hv9 : gS G (n + 1) 2 = ((n + 3 : Nat) : Int) := by have h9 : (gS G (n + 1) 2) = ((((n + 1) % 1048576) + 2 : Nat) : Int) := hC.1.v (j := 2) (by rw [cde_n (by omega) (by omega)]; omega : cde (n + 1) = 101) al7 (by rw [hk8]; exact Nat.le_of_ble_eq_true rfl); omega
    refine s_getf (ci := 1) (k := 2) (C := RX0) (T := TX0) (N := 7) (n := n + 1) (L := 0) (t := 2) dX3_faceCell_22 rfl wi_65 m_601 (Nat.le_of_ble_eq_true rfl) rfl rfl hk8 hv9 ?_
    refine s_iload_n dX3_faceCell_25 rfl ?_
    refine s_alv (n + 3) (by simp) (fun (al10 : AL G (n + 3)) => ?_)
    have hk11 : gK G (n + 3) = (1, 10) := hC.1.k (by rw [cde_n (by omega) (by omega)]; omega : cde (n + 3) = 103) al10
    refine s_iald dX3_faceCell_26 hk11 (by omega) (by omega) rfl ?_
    refine s_iconst dX3_faceCell_27 (by decide) ?_
    refine s_icmp_eq (tgt := 35) dX3_faceCell_28 (by decide) (fun c12 => ?_) (fun c12 => ?_)
    · -- 28 to 35
      have hmc := hMC (gS G (o + 4) (((w * 10) + k : Int).toNat)) (by omega) (by omega)
      refine s_aload_n dX3_faceCell_35 rfl (Int.natCast_nonneg _) ?_
      have hv13 : gS G o 5 = ((o + 5 : Nat) : Int) := by have h9 : (gS G o 5) = (((o % 1048576) + 5 : Nat) : Int) := hC.1.v (j := 5) (by rw [cde_m (by omega) (by omega)]; omega : cde o = 300) (kne kM (by decide)) (by rw [kM]; exact Nat.le_of_ble_eq_true rfl); omega
      refine s_getf (ci := 4) (k := 5) (C := RX3) (T := TX3) (N := 18) (n := o) (L := 0) (t := 2) dX3_faceCell_36 rfl wi_71 m_612 (Nat.le_of_ble_eq_true rfl) rfl rfl kM hv13 ?_
      refine s_iload dX3_faceCell_39 rfl ?_
      have hv14 : -1 ≤ (gS G (o + 5) (gS G (o + 4) (((w * 10) + k : Int).toNat) : Int).toNat) ∧ (gS G (o + 5) (gS G (o + 4) (((w * 10) + k : Int).toNat) : Int).toNat) ≤ 239 := hC.1.v (j := (gS G (o + 4) (((w * 10) + k : Int).toNat) : Int).toNat) (by rw [cde_m (by omega) (by omega)]; omega : cde (o + 5) = 305) (kne kM5 (by decide)) (by rw [kM5]; show (gS G (o + 4) (((w * 10) + k : Int).toNat) : Int).toNat < 240; omega)
      refine s_iald dX3_faceCell_41 kM5 (by omega) (by omega) rfl ?_
      exact s_iret hR dX3_faceCell_42 rfl (hQ (gS G (o + 5) ((gS G (o + 4) (((w * 10) + k : Int).toNat) : Int).toNat)) (by omega))
    · -- 28 to 31
      refine s_iconst dX3_faceCell_31 (by decide) ?_
      refine s_goto (tgt := 42) dX3_faceCell_32 (by decide) ?_
      exact s_iret hR dX3_faceCell_42 rfl (hQ ((-1)) (by omega))
