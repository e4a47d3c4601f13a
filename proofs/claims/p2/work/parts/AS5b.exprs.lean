abbrev kX5_endExpression : KD := (RX5, cX5_endExpression, 3, (some .int), [])
def TX5_endExpression : TR := fun as G Qr => ∃ (a b : Nat), as = [(2, ((327681 : Nat) : Int))] ∧ CI a b G ∧ (a ≤ 2840000 ∧ b ≤ 590000) ∧ (gS G 327681 12 < 120) ∧ ((gS G 327701 (gS G 327681 12).toNat = 6 → 0 ≤ gS G 327702 (gS G 327681 12).toNat ∧ gS G 327702 (gS G 327681 12).toNat ≤ 9) ∧ (gS G 327701 (gS G 327681 12).toNat ≤ 4 → (0 ≤ gS G 327702 (gS G 327681 12).toNat ∧ gS G 327702 (gS G 327681 12).toNat < gS G 327681 12) ∧ gS G 327703 (gS G 327681 12).toNat < gS G 327681 12 ∧ gS G 327704 (gS G 327681 12).toNat < gS G 327681 12) ∧ (gS G 327701 (gS G 327681 12).toNat = 0 ∨ gS G 327701 (gS G 327681 12).toNat = 1 ∨ gS G 327701 (gS G 327681 12).toNat = 4 → 0 ≤ gS G 327703 (gS G 327681 12).toNat) ∧ (gS G 327701 (gS G 327681 12).toNat = 4 → 0 ≤ gS G 327704 (gS G 327681 12).toNat) ∧ (5 ≤ gS G 327701 (gS G 327681 12).toNat → gS G 327703 (gS G 327681 12).toNat = -1 ∧ gS G 327704 (gS G 327681 12).toNat = -1 ∧ gS G 327705 (gS G 327681 12).toNat = 1) ∧ (gS G 327701 (gS G 327681 12).toNat ≤ 4 → gS G 327705 (gS G 327681 12).toNat = 1 + gS G 327705 (gS G 327702 (gS G 327681 12).toNat).toNat + (if gS G 327703 (gS G 327681 12).toNat < 0 then 0 else gS G 327705 (gS G 327703 (gS G 327681 12).toNat).toNat) + (if gS G 327704 (gS G 327681 12).toNat < 0 then 0 else gS G 327705 (gS G 327704 (gS G 327681 12).toNat).toNat)) ∧ (1 ≤ gS G 327705 (gS G 327681 12).toNat ∧ gS G 327705 (gS G 327681 12).toNat ≤ 12)) ∧ ∀ (r : Int) (G' : LG), CI a b G' → KX G G' → WX (fun x => x = 327681 ∨ x = 327707) G G' → (r = gS G 327681 12 ∧ gS G' 327681 12 = gS G 327681 12 + 1) → Qr (.inl (some (0, r))) G'
set_option maxHeartbeats 4000000 in
set_option maxRecDepth 100000 in
theorem gX5_endExpression : Good kX5_endExpression yX5_endExpression 0 TX5_endExpression := by
  refine good_of (by decide) rfl rfl (fun as G Qr h => ?_) (fun X as G Qr hcf hR hT oa => ?_)
  · obtain ⟨a, b, rfl, -⟩ := h; exact Nat.le_of_ble_eq_true rfl
  obtain ⟨a, b, rfl, hC, hab, hc, hb, hQ⟩ := hT
  show WP kX5_endExpression X 0 [some (2, ((327681 : Nat) : Int)), none, none] [] G
  refine s_alvl 327681 (k := 0) rfl (fun alp => ?_)
  have kp : gK G 327681 = (14, 0) := hC.1.k (c := 501) (by decide) alp
  have hc4 : 0 ≤ gS G 327681 4 ∧ gS G 327681 4 ≤ 60 := hC.1.v (c := 501) (j := 4) (by decide) alp (by rw [kp]; exact Nat.le_of_ble_eq_true rfl)
  have hc12 : 0 ≤ gS G 327681 12 ∧ gS G 327681 12 ≤ 120 := hC.1.v (c := 501) (j := 12) (by decide) alp (by rw [kp]; exact Nat.le_of_ble_eq_true rfl)
  have hA81 : gS G 327681 = gS G 327681 := rfl
  have hA01 : gS G 327701 = gS G 327701 := rfl
  have hA02 : gS G 327702 = gS G 327702 := rfl
  have hA03 : gS G 327703 = gS G 327703 := rfl
  have hA04 : gS G 327704 = gS G 327704 := rfl
  have hA05 : gS G 327705 = gS G 327705 := rfl
  have hE12 : gS G 327681 12 = gS G 327681 12 := rfl
  refine s_alh (327681) 5 alp (by rw [kp]; exact Nat.le_of_ble_eq_true rfl) (by rw [kp]; rfl) (fun ap01x => ?_)
  have ap01v : gS G 327681 5 = ((327701 : Nat) : Int) := by have h9 : (gS G 327681 5) = 327701 := hC.1.v (j := 5) (by decide : cde 327681 = 501) alp (by rw [kp]; exact Nat.le_of_ble_eq_true rfl); omega
  have ap01 : (gK G (327701)).1 ≠ 0 := by have h9 := ap01x (by omega); rw [ap01v, Int.toNat_natCast] at h9; exact h9
  have ap01k : gK G (327701) = (1, 120) := hC.1.k (by decide : cde 327701 = 521) ap01
  refine s_alh (327681) 6 alp (by rw [kp]; exact Nat.le_of_ble_eq_true rfl) (by rw [kp]; rfl) (fun ap02x => ?_)
  have ap02v : gS G 327681 6 = ((327702 : Nat) : Int) := by have h9 : (gS G 327681 6) = 327702 := hC.1.v (j := 6) (by decide : cde 327681 = 501) alp (by rw [kp]; exact Nat.le_of_ble_eq_true rfl); omega
  have ap02 : (gK G (327702)).1 ≠ 0 := by have h9 := ap02x (by omega); rw [ap02v, Int.toNat_natCast] at h9; exact h9
  have ap02k : gK G (327702) = (1, 120) := hC.1.k (by decide : cde 327702 = 522) ap02
  refine s_alh (327681) 7 alp (by rw [kp]; exact Nat.le_of_ble_eq_true rfl) (by rw [kp]; rfl) (fun ap03x => ?_)
  have ap03v : gS G 327681 7 = ((327703 : Nat) : Int) := by have h9 : (gS G 327681 7) = 327703 := hC.1.v (j := 7) (by decide : cde 327681 = 501) alp (by rw [kp]; exact Nat.le_of_ble_eq_true rfl); omega
  have ap03 : (gK G (327703)).1 ≠ 0 := by have h9 := ap03x (by omega); rw [ap03v, Int.toNat_natCast] at h9; exact h9
  have ap03k : gK G (327703) = (1, 120) := hC.1.k (by decide : cde 327703 = 523) ap03
  refine s_alh (327681) 8 alp (by rw [kp]; exact Nat.le_of_ble_eq_true rfl) (by rw [kp]; rfl) (fun ap04x => ?_)
  have ap04v : gS G 327681 8 = ((327704 : Nat) : Int) := by have h9 : (gS G 327681 8) = 327704 := hC.1.v (j := 8) (by decide : cde 327681 = 501) alp (by rw [kp]; exact Nat.le_of_ble_eq_true rfl); omega
  have ap04 : (gK G (327704)).1 ≠ 0 := by have h9 := ap04x (by omega); rw [ap04v, Int.toNat_natCast] at h9; exact h9
  have ap04k : gK G (327704) = (1, 120) := hC.1.k (by decide : cde 327704 = 524) ap04
  refine s_alh (327681) 9 alp (by rw [kp]; exact Nat.le_of_ble_eq_true rfl) (by rw [kp]; rfl) (fun ap05x => ?_)
  have ap05v : gS G 327681 9 = ((327705 : Nat) : Int) := by have h9 : (gS G 327681 9) = 327705 := hC.1.v (j := 9) (by decide : cde 327681 = 501) alp (by rw [kp]; exact Nat.le_of_ble_eq_true rfl); omega
  have ap05 : (gK G (327705)).1 ≠ 0 := by have h9 := ap05x (by omega); rw [ap05v, Int.toNat_natCast] at h9; exact h9
  have ap05k : gK G (327705) = (1, 120) := hC.1.k (by decide : cde 327705 = 525) ap05
  refine s_alh (327681) 11 alp (by rw [kp]; exact Nat.le_of_ble_eq_true rfl) (by rw [kp]; rfl) (fun ap07x => ?_)
  have ap07v : gS G 327681 11 = ((327707 : Nat) : Int) := by have h9 : (gS G 327681 11) = 327707 := hC.1.v (j := 11) (by decide : cde 327681 = 501) alp (by rw [kp]; exact Nat.le_of_ble_eq_true rfl); omega
  have ap07 : (gK G (327707)).1 ≠ 0 := by have h9 := ap07x (by omega); rw [ap07v, Int.toNat_natCast] at h9; exact h9
  have ap07k : gK G (327707) = (1, 120) := hC.1.k (by decide : cde 327707 = 527) ap07
  refine s_aload_n dX5_endExpression_0 rfl (Int.natCast_nonneg _) ?_
  have hv1 : 0 ≤ (gS G 327681 12) ∧ (gS G 327681 12) ≤ 120 := hC.1.v (j := 12) (by decide : cde 327681 = 501) alp (by rw [kp]; exact Nat.le_of_ble_eq_true rfl)
  refine s_getf (ci := 6) (k := 12) (C := RX5) (T := TX5) (N := 18) (n := 327681) (L := 0) (t := 0) dX5_endExpression_1 rfl wi_73 m_658 (Nat.le_of_ble_eq_true rfl) rfl rfl kp rfl ?_
  refine s_istore_n dX5_endExpression_4 (by decide) (lv' := [some (2, ((327681 : Nat) : Int)), some (0, gS G 327681 12), none]) rfl ?_
  refine s_aload_n dX5_endExpression_5 rfl (Int.natCast_nonneg _) ?_
  have hv2 : gS G 327681 11 = ((327707 : Nat) : Int) := by have h9 : (gS G 327681 11) = 327707 := hC.1.v (j := 11) (by decide : cde 327681 = 501) alp (by rw [kp]; exact Nat.le_of_ble_eq_true rfl); omega
  refine s_getf (ci := 6) (k := 11) (C := RX5) (T := TX5) (N := 18) (n := 327681) (L := 0) (t := 2) dX5_endExpression_6 rfl wi_73 m_653 (Nat.le_of_ble_eq_true rfl) rfl rfl kp hv2 ?_
  refine s_iload_n dX5_endExpression_9 rfl ?_
  refine s_iload_n dX5_endExpression_10 rfl ?_
  refine s_iast dX5_endExpression_11 ap07k (by omega) (by omega) ?_
  generalize eG3r : gset G 327707 ((gS G 327681 12 : Int).toNat) (gS G 327681 12) = G3
  have eG3 := eG3r.symm
  have hCG3 : CI a b G3 := by rw [eG3]; exact hC.exprPut (by decide) (by decide) (by rw [hA81]; omega) (show 0 ≤ (gS G 327681 12) ∧ (gS G 327681 12) ≤ 119 by omega)
  have hXG3 : KX G G3 := KX.set KX.rf eG3
  have hFG3 : WX (fun x => x = 327681 ∨ x = 327707) G G3 := WX.set WX.rf eG3 (by show _; omega)
  have hfG3 : WX (fun x => x = 327707 % 1048576) G G3 := WX.set WX.rf eG3 rfl
  have hA81G3 : gS G3 327681 = gS G 327681 := (gset_o eG3 (x := 327681) (by decide)).trans hA81
  have hA01G3 : gS G3 327701 = gS G 327701 := (gset_o eG3 (x := 327701) (by decide)).trans hA01
  have hA02G3 : gS G3 327702 = gS G 327702 := (gset_o eG3 (x := 327702) (by decide)).trans hA02
  have hA03G3 : gS G3 327703 = gS G 327703 := (gset_o eG3 (x := 327703) (by decide)).trans hA03
  have hA04G3 : gS G3 327704 = gS G 327704 := (gset_o eG3 (x := 327704) (by decide)).trans hA04
  have hA05G3 : gS G3 327705 = gS G 327705 := (gset_o eG3 (x := 327705) (by decide)).trans hA05
  have hE12G3 : gS G3 327681 12 = gS G 327681 12 := (congrFun (gset_o eG3 (x := 327681) (by decide)) 12).trans hE12
  show WP kX5_endExpression X 12 [some (2, ((327681 : Nat) : Int)), some (0, gS G 327681 12), none] [] G3
  have hl12 : (gS G3 327707 (gS G 327681 12).toNat ≤ gS G 327681 12 ∧ gS G 327705 (gS G3 327707 (gS G 327681 12).toNat).toNat = gS G 327705 (gS G 327681 12).toNat) := by rw [show gS G3 327707 (gS G 327681 12).toNat = gS G 327681 12 from gsaE eG3]; exact ⟨Int.le_refl _, rfl⟩
  refine s_iconst dX5_endExpression_12 (by decide) ?_
  refine s_istore_n dX5_endExpression_13 (by decide) (lv' := [some (2, ((327681 : Nat) : Int)), some (0, gS G 327681 12), some (0, 0)]) rfl ?_
  have L4 : ∀ (n4 : Nat) (i4 : Int) (G4 : LG), CI a b G4 → KX G3 G4 → WX (fun x => x = 327681 ∨ x = 327707) G G4 → ((0 ≤ i4 ∧ i4 ≤ gS G 327681 12) ∧ ((gS G4 327707 (gS G 327681 12).toNat ≤ gS G 327681 12 ∧ gS G 327705 (gS G4 327707 (gS G 327681 12).toNat).toNat = gS G 327705 (gS G 327681 12).toNat)) ∧ (gS G4 327681 = gS G 327681) ∧ (gS G4 327701 = gS G 327701) ∧ (gS G4 327702 = gS G 327702) ∧ (gS G4 327703 = gS G 327703) ∧ (gS G4 327704 = gS G 327704) ∧ (gS G4 327705 = gS G 327705) ∧ (gS G4 327681 12 = gS G 327681 12)) → (gS G 327681 12 - i4).toNat < n4 → WP kX5_endExpression X 14 [some (2, ((327681 : Nat) : Int)), some (0, gS G 327681 12), some (0, i4)] [] G4 := by
    intro n4
    induction n4 with
    | zero => intro i4 G4 hCG4 hXG4 hFG4 hi4 hm4; exact absurd hm4 (Nat.not_lt_zero _)
    | succ n4 ih4 =>
      intro i4 G4 hCG4 hXG4 hFG4 hi4 hm4
      obtain ⟨ii4, il4, hA81G4, hA01G4, hA02G4, hA03G4, hA04G4, hA05G4, hE12G4⟩ := hi4
      refine s_iload_n dX5_endExpression_14 rfl ?_
      refine s_iload_n dX5_endExpression_15 rfl ?_
      refine s_icmp_ge (tgt := 102) dX5_endExpression_16 (by decide) (fun c5 => ?_) (fun c5 => ?_)
      · -- 16 to 102
        refine s_aload_n dX5_endExpression_102 rfl (Int.natCast_nonneg _) ?_
        refine s_dup dX5_endExpression_103 (show (2 : Nat) ≠ 1 by decide) ?_
        have hk6 : gK G4 (327681) = (14, 0) := ((hXG4).k ((hXG3).k kp (by decide)) (by decide))
        refine s_alv (327681) (by simp) (fun al8 => ?_)
        have hv7 : 0 ≤ (gS G4 327681 12) ∧ (gS G4 327681 12) ≤ 120 := hCG4.1.v (j := 12) (by decide : cde 327681 = 501) al8 (by rw [hk6]; exact Nat.le_of_ble_eq_true rfl)
        refine s_getf (ci := 6) (k := 12) (C := RX5) (T := TX5) (N := 18) (n := 327681) (L := 0) (t := 0) dX5_endExpression_104 rfl wi_73 m_658 (Nat.le_of_ble_eq_true rfl) rfl rfl hk6 rfl ?_
        refine s_iconst dX5_endExpression_107 (by decide) ?_
        refine s_iadd dX5_endExpression_108 (by omega) ?_
        refine s_putf (ci := 6) (k := 12) (C := RX5) (T := TX5) (N := 18) (n := 327681) (L := 0) dX5_endExpression_109 rfl wi_73 m_658 (Nat.le_of_ble_eq_true rfl) rfl rfl tyX5_ok nmX5 rfl (Or.inl rfl) hk6 ?_
        generalize eG9r : gset G4 327681 12 ((gS G4 327681 12) + 1) = G9
        have eG9 := eG9r.symm
        have hCG9 : CI a b G9 := by rw [eG9]; have hcc : gS G4 327681 12 = gS G 327681 12 := (by rw [hA81G4]); rw [hcc]; exact hCG4.exprEnd (by rw [hA81G4]) (by omega) (by rw [hA01G4, hA02G4, hA03G4, hA04G4, hA05G4]; obtain ⟨d1, d2, d3, d4, d5, d6, d7⟩ := hb; exact ⟨d1, d2, d3, d4, d5, d6, d7, il4⟩)
        have hXG9 : KX G4 G9 := KX.set KX.rf eG9
        have hFG9 : WX (fun x => x = 327681 ∨ x = 327707) G G9 := WX.set hFG4 eG9 (by show _; omega)
        have hfG9 : WX (fun x => x = 327681 % 1048576) G4 G9 := WX.set WX.rf eG9 rfl
        have hA01G9 : gS G9 327701 = gS G 327701 := (gset_o eG9 (x := 327701) (by decide)).trans hA01G4
        have hA02G9 : gS G9 327702 = gS G 327702 := (gset_o eG9 (x := 327702) (by decide)).trans hA02G4
        have hA03G9 : gS G9 327703 = gS G 327703 := (gset_o eG9 (x := 327703) (by decide)).trans hA03G4
        have hA04G9 : gS G9 327704 = gS G 327704 := (gset_o eG9 (x := 327704) (by decide)).trans hA04G4
        have hA05G9 : gS G9 327705 = gS G 327705 := (gset_o eG9 (x := 327705) (by decide)).trans hA05G4
        show WP kX5_endExpression X 112 [some (2, ((327681 : Nat) : Int)), some (0, gS G 327681 12), some (0, i4)] [] G9
        refine s_iload_n dX5_endExpression_112 rfl ?_
        exact s_iret hR dX5_endExpression_113 rfl (hQ (gS G 327681 12) G9 hCG9 (KX.trans (KX.trans hXG3 hXG4) hXG9) hFG9 ⟨by omega, (gsaE eG9).trans (by omega)⟩)
      · -- 16 to 19
        refine s_aload_n dX5_endExpression_19 rfl (Int.natCast_nonneg _) ?_
        have hk10 : gK G4 (327681) = (14, 0) := ((hXG4).k ((hXG3).k kp (by decide)) (by decide))
        refine s_alv (327681) (by simp) (fun al11 => ?_)
        have hv12 : gS G4 327681 11 = ((327707 : Nat) : Int) := by have h9 : (gS G4 327681 11) = 327707 := hCG4.1.v (j := 11) (by decide : cde 327681 = 501) al11 (by rw [hk10]; exact Nat.le_of_ble_eq_true rfl); omega
        refine s_getf (ci := 6) (k := 11) (C := RX5) (T := TX5) (N := 18) (n := 327681) (L := 0) (t := 2) dX5_endExpression_20 rfl wi_73 m_653 (Nat.le_of_ble_eq_true rfl) rfl rfl hk10 hv12 ?_
        refine s_iload_n dX5_endExpression_23 rfl ?_
        have hk13 : gK G4 (327707) = (1, 120) := ((hXG4).k ((hXG3).k ap07k (by decide)) (by decide))
        refine s_alv (327707) (by simp) (fun al14 => ?_)
        have hv15 : 0 ≤ (gS G4 327707 (gS G 327681 12 : Int).toNat) ∧ (gS G4 327707 (gS G 327681 12 : Int).toNat) ≤ 119 := hCG4.1.v (j := (gS G 327681 12 : Int).toNat) (by decide : cde 327707 = 527) al14 (by rw [hk13]; show (gS G 327681 12 : Int).toNat < 120; omega)
        refine s_iald dX5_endExpression_24 hk13 (by omega) (by omega) rfl ?_
        refine s_iload_n dX5_endExpression_25 rfl ?_
        refine s_icmp_ne (tgt := 102) dX5_endExpression_26 (by decide) (fun c16 => ?_) (fun c16 => ?_)
        · -- 26 to 102
          refine s_aload_n dX5_endExpression_102 rfl (Int.natCast_nonneg _) ?_
          refine s_dup dX5_endExpression_103 (show (2 : Nat) ≠ 1 by decide) ?_
          have hv17 : 0 ≤ (gS G4 327681 12) ∧ (gS G4 327681 12) ≤ 120 := hCG4.1.v (j := 12) (by decide : cde 327681 = 501) al11 (by rw [hk10]; exact Nat.le_of_ble_eq_true rfl)
          refine s_getf (ci := 6) (k := 12) (C := RX5) (T := TX5) (N := 18) (n := 327681) (L := 0) (t := 0) dX5_endExpression_104 rfl wi_73 m_658 (Nat.le_of_ble_eq_true rfl) rfl rfl hk10 rfl ?_
          refine s_iconst dX5_endExpression_107 (by decide) ?_
          refine s_iadd dX5_endExpression_108 (by omega) ?_
          refine s_putf (ci := 6) (k := 12) (C := RX5) (T := TX5) (N := 18) (n := 327681) (L := 0) dX5_endExpression_109 rfl wi_73 m_658 (Nat.le_of_ble_eq_true rfl) rfl rfl tyX5_ok nmX5 rfl (Or.inl rfl) hk10 ?_
          generalize eG18r : gset G4 327681 12 ((gS G4 327681 12) + 1) = G18
          have eG18 := eG18r.symm
          have hCG18 : CI a b G18 := by rw [eG18]; have hcc : gS G4 327681 12 = gS G 327681 12 := (by rw [hA81G4]); rw [hcc]; exact hCG4.exprEnd (by rw [hA81G4]) (by omega) (by rw [hA01G4, hA02G4, hA03G4, hA04G4, hA05G4]; obtain ⟨d1, d2, d3, d4, d5, d6, d7⟩ := hb; exact ⟨d1, d2, d3, d4, d5, d6, d7, il4⟩)
          have hXG18 : KX G4 G18 := KX.set KX.rf eG18
          have hFG18 : WX (fun x => x = 327681 ∨ x = 327707) G G18 := WX.set hFG4 eG18 (by show _; omega)
          have hfG18 : WX (fun x => x = 327681 % 1048576) G4 G18 := WX.set WX.rf eG18 rfl
          have hA01G18 : gS G18 327701 = gS G 327701 := (gset_o eG18 (x := 327701) (by decide)).trans hA01G4
          have hA02G18 : gS G18 327702 = gS G 327702 := (gset_o eG18 (x := 327702) (by decide)).trans hA02G4
          have hA03G18 : gS G18 327703 = gS G 327703 := (gset_o eG18 (x := 327703) (by decide)).trans hA03G4
          have hA04G18 : gS G18 327704 = gS G 327704 := (gset_o eG18 (x := 327704) (by decide)).trans hA04G4
          have hA05G18 : gS G18 327705 = gS G 327705 := (gset_o eG18 (x := 327705) (by decide)).trans hA05G4
          show WP kX5_endExpression X 112 [some (2, ((327681 : Nat) : Int)), some (0, gS G 327681 12), some (0, i4)] [] G18
          refine s_iload_n dX5_endExpression_112 rfl ?_
          exact s_iret hR dX5_endExpression_113 rfl (hQ (gS G 327681 12) G18 hCG18 (KX.trans (KX.trans hXG3 hXG4) hXG18) hFG18 ⟨by omega, (gsaE eG18).trans (by omega)⟩)
        · -- 26 to 29
          refine s_aload_n dX5_endExpression_29 rfl (Int.natCast_nonneg _) ?_
          have hv19 : gS G4 327681 5 = ((327701 : Nat) : Int) := by have h9 : (gS G4 327681 5) = 327701 := hCG4.1.v (j := 5) (by decide : cde 327681 = 501) al11 (by rw [hk10]; exact Nat.le_of_ble_eq_true rfl); omega
          refine s_getf (ci := 6) (k := 5) (C := RX5) (T := TX5) (N := 18) (n := 327681) (L := 0) (t := 2) dX5_endExpression_30 rfl wi_73 m_647 (Nat.le_of_ble_eq_true rfl) rfl rfl hk10 hv19 ?_
          refine s_iload_n dX5_endExpression_33 rfl ?_
          have hk20 : gK G4 (327701) = (1, 120) := ((hXG4).k ((hXG3).k ap01k (by decide)) (by decide))
          refine s_alv (327701) (by simp) (fun al21 => ?_)
          have hv22 : 0 ≤ (gS G4 327701 (i4 : Int).toNat) ∧ (gS G4 327701 (i4 : Int).toNat) ≤ 6 := hCG4.1.v (j := (i4 : Int).toNat) (by decide : cde 327701 = 521) al21 (by rw [hk20]; show (i4 : Int).toNat < 120; omega)
          refine s_iald dX5_endExpression_34 hk20 (by omega) (by omega) rfl ?_
          refine s_aload_n dX5_endExpression_35 rfl (Int.natCast_nonneg _) ?_
          have hv23 : gS G4 327681 5 = ((327701 : Nat) : Int) := by have h9 : (gS G4 327681 5) = 327701 := hCG4.1.v (j := 5) (by decide : cde 327681 = 501) al11 (by rw [hk10]; exact Nat.le_of_ble_eq_true rfl); omega
          refine s_getf (ci := 6) (k := 5) (C := RX5) (T := TX5) (N := 18) (n := 327681) (L := 0) (t := 2) dX5_endExpression_36 rfl wi_73 m_647 (Nat.le_of_ble_eq_true rfl) rfl rfl hk10 hv23 ?_
          refine s_iload_n dX5_endExpression_39 rfl ?_
          have hv24 : 0 ≤ (gS G4 327701 (gS G 327681 12 : Int).toNat) ∧ (gS G4 327701 (gS G 327681 12 : Int).toNat) ≤ 6 := hCG4.1.v (j := (gS G 327681 12 : Int).toNat) (by decide : cde 327701 = 521) al21 (by rw [hk20]; show (gS G 327681 12 : Int).toNat < 120; omega)
          refine s_iald dX5_endExpression_40 hk20 (by omega) (by omega) rfl ?_
          refine s_icmp_ne (tgt := 96) dX5_endExpression_41 (by decide) (fun c25 => ?_) (fun c25 => ?_)
          · -- 41 to 96
            refine s_iinc dX5_endExpression_96 (v := i4) rfl (by omega) (by decide) (lv' := [some (2, ((327681 : Nat) : Int)), some (0, gS G 327681 12), some (0, i4 + 1)]) rfl ?_
            refine s_goto (tgt := 14) dX5_endExpression_99 (by decide) ?_
            exact ih4 (i4 + 1) G4 hCG4 hXG4 hFG4 (⟨(by omega), (by exact il4), (by exact hA81G4), (by exact hA01G4), (by exact hA02G4), (by exact hA03G4), (by exact hA04G4), (by exact hA05G4), (by exact hE12G4)⟩) (by omega)
          · -- 41 to 44
            refine s_aload_n dX5_endExpression_44 rfl (Int.natCast_nonneg _) ?_
            have hv26 : gS G4 327681 6 = ((327702 : Nat) : Int) := by have h9 : (gS G4 327681 6) = 327702 := hCG4.1.v (j := 6) (by decide : cde 327681 = 501) al11 (by rw [hk10]; exact Nat.le_of_ble_eq_true rfl); omega
            refine s_getf (ci := 6) (k := 6) (C := RX5) (T := TX5) (N := 18) (n := 327681) (L := 0) (t := 2) dX5_endExpression_45 rfl wi_73 m_648 (Nat.le_of_ble_eq_true rfl) rfl rfl hk10 hv26 ?_
            refine s_iload_n dX5_endExpression_48 rfl ?_
            have hk27 : gK G4 (327702) = (1, 120) := ((hXG4).k ((hXG3).k ap02k (by decide)) (by decide))
            refine s_iald dX5_endExpression_49 hk27 (by omega) (by omega) rfl ?_
            refine s_aload_n dX5_endExpression_50 rfl (Int.natCast_nonneg _) ?_
            have hv28 : gS G4 327681 6 = ((327702 : Nat) : Int) := by have h9 : (gS G4 327681 6) = 327702 := hCG4.1.v (j := 6) (by decide : cde 327681 = 501) al11 (by rw [hk10]; exact Nat.le_of_ble_eq_true rfl); omega
            refine s_getf (ci := 6) (k := 6) (C := RX5) (T := TX5) (N := 18) (n := 327681) (L := 0) (t := 2) dX5_endExpression_51 rfl wi_73 m_648 (Nat.le_of_ble_eq_true rfl) rfl rfl hk10 hv28 ?_
            refine s_iload_n dX5_endExpression_54 rfl ?_
            refine s_iald dX5_endExpression_55 hk27 (by omega) (by omega) rfl ?_
            refine s_icmp_ne (tgt := 96) dX5_endExpression_56 (by decide) (fun c29 => ?_) (fun c29 => ?_)
            · -- 56 to 96
              refine s_iinc dX5_endExpression_96 (v := i4) rfl (by omega) (by decide) (lv' := [some (2, ((327681 : Nat) : Int)), some (0, gS G 327681 12), some (0, i4 + 1)]) rfl ?_
              refine s_goto (tgt := 14) dX5_endExpression_99 (by decide) ?_
              exact ih4 (i4 + 1) G4 hCG4 hXG4 hFG4 (⟨(by omega), (by exact il4), (by exact hA81G4), (by exact hA01G4), (by exact hA02G4), (by exact hA03G4), (by exact hA04G4), (by exact hA05G4), (by exact hE12G4)⟩) (by omega)
            · -- 56 to 59
              refine s_aload_n dX5_endExpression_59 rfl (Int.natCast_nonneg _) ?_
              have hv30 : gS G4 327681 7 = ((327703 : Nat) : Int) := by have h9 : (gS G4 327681 7) = 327703 := hCG4.1.v (j := 7) (by decide : cde 327681 = 501) al11 (by rw [hk10]; exact Nat.le_of_ble_eq_true rfl); omega
              refine s_getf (ci := 6) (k := 7) (C := RX5) (T := TX5) (N := 18) (n := 327681) (L := 0) (t := 2) dX5_endExpression_60 rfl wi_73 m_649 (Nat.le_of_ble_eq_true rfl) rfl rfl hk10 hv30 ?_
              refine s_iload_n dX5_endExpression_63 rfl ?_
              have hk31 : gK G4 (327703) = (1, 120) := ((hXG4).k ((hXG3).k ap03k (by decide)) (by decide))
              refine s_alv (327703) (by simp) (fun al32 => ?_)
              have hv33 : -1 ≤ (gS G4 327703 (i4 : Int).toNat) ∧ (gS G4 327703 (i4 : Int).toNat) ≤ 119 := hCG4.1.v (j := (i4 : Int).toNat) (by decide : cde 327703 = 523) al32 (by rw [hk31]; show (i4 : Int).toNat < 120; omega)
              refine s_iald dX5_endExpression_64 hk31 (by omega) (by omega) rfl ?_
              refine s_aload_n dX5_endExpression_65 rfl (Int.natCast_nonneg _) ?_
              have hv34 : gS G4 327681 7 = ((327703 : Nat) : Int) := by have h9 : (gS G4 327681 7) = 327703 := hCG4.1.v (j := 7) (by decide : cde 327681 = 501) al11 (by rw [hk10]; exact Nat.le_of_ble_eq_true rfl); omega
              refine s_getf (ci := 6) (k := 7) (C := RX5) (T := TX5) (N := 18) (n := 327681) (L := 0) (t := 2) dX5_endExpression_66 rfl wi_73 m_649 (Nat.le_of_ble_eq_true rfl) rfl rfl hk10 hv34 ?_
              refine s_iload_n dX5_endExpression_69 rfl ?_
              have hv35 : -1 ≤ (gS G4 327703 (gS G 327681 12 : Int).toNat) ∧ (gS G4 327703 (gS G 327681 12 : Int).toNat) ≤ 119 := hCG4.1.v (j := (gS G 327681 12 : Int).toNat) (by decide : cde 327703 = 523) al32 (by rw [hk31]; show (gS G 327681 12 : Int).toNat < 120; omega)
              refine s_iald dX5_endExpression_70 hk31 (by omega) (by omega) rfl ?_
              refine s_icmp_ne (tgt := 96) dX5_endExpression_71 (by decide) (fun c36 => ?_) (fun c36 => ?_)
              · -- 71 to 96
                refine s_iinc dX5_endExpression_96 (v := i4) rfl (by omega) (by decide) (lv' := [some (2, ((327681 : Nat) : Int)), some (0, gS G 327681 12), some (0, i4 + 1)]) rfl ?_
                refine s_goto (tgt := 14) dX5_endExpression_99 (by decide) ?_
                exact ih4 (i4 + 1) G4 hCG4 hXG4 hFG4 (⟨(by omega), (by exact il4), (by exact hA81G4), (by exact hA01G4), (by exact hA02G4), (by exact hA03G4), (by exact hA04G4), (by exact hA05G4), (by exact hE12G4)⟩) (by omega)
              · -- 71 to 74
                refine s_aload_n dX5_endExpression_74 rfl (Int.natCast_nonneg _) ?_
                have hv37 : gS G4 327681 8 = ((327704 : Nat) : Int) := by have h9 : (gS G4 327681 8) = 327704 := hCG4.1.v (j := 8) (by decide : cde 327681 = 501) al11 (by rw [hk10]; exact Nat.le_of_ble_eq_true rfl); omega
                refine s_getf (ci := 6) (k := 8) (C := RX5) (T := TX5) (N := 18) (n := 327681) (L := 0) (t := 2) dX5_endExpression_75 rfl wi_73 m_650 (Nat.le_of_ble_eq_true rfl) rfl rfl hk10 hv37 ?_
                refine s_iload_n dX5_endExpression_78 rfl ?_
                have hk38 : gK G4 (327704) = (1, 120) := ((hXG4).k ((hXG3).k ap04k (by decide)) (by decide))
                refine s_alv (327704) (by simp) (fun al39 => ?_)
                have hv40 : -1 ≤ (gS G4 327704 (i4 : Int).toNat) ∧ (gS G4 327704 (i4 : Int).toNat) ≤ 119 := hCG4.1.v (j := (i4 : Int).toNat) (by decide : cde 327704 = 524) al39 (by rw [hk38]; show (i4 : Int).toNat < 120; omega)
                refine s_iald dX5_endExpression_79 hk38 (by omega) (by omega) rfl ?_
                refine s_aload_n dX5_endExpression_80 rfl (Int.natCast_nonneg _) ?_
                have hv41 : gS G4 327681 8 = ((327704 : Nat) : Int) := by have h9 : (gS G4 327681 8) = 327704 := hCG4.1.v (j := 8) (by decide : cde 327681 = 501) al11 (by rw [hk10]; exact Nat.le_of_ble_eq_true rfl); omega
                refine s_getf (ci := 6) (k := 8) (C := RX5) (T := TX5) (N := 18) (n := 327681) (L := 0) (t := 2) dX5_endExpression_81 rfl wi_73 m_650 (Nat.le_of_ble_eq_true rfl) rfl rfl hk10 hv41 ?_
                refine s_iload_n dX5_endExpression_84 rfl ?_
                have hv42 : -1 ≤ (gS G4 327704 (gS G 327681 12 : Int).toNat) ∧ (gS G4 327704 (gS G 327681 12 : Int).toNat) ≤ 119 := hCG4.1.v (j := (gS G 327681 12 : Int).toNat) (by decide : cde 327704 = 524) al39 (by rw [hk38]; show (gS G 327681 12 : Int).toNat < 120; omega)
                refine s_iald dX5_endExpression_85 hk38 (by omega) (by omega) rfl ?_
                refine s_icmp_ne (tgt := 96) dX5_endExpression_86 (by decide) (fun c43 => ?_) (fun c43 => ?_)
                · -- 86 to 96
                  refine s_iinc dX5_endExpression_96 (v := i4) rfl (by omega) (by decide) (lv' := [some (2, ((327681 : Nat) : Int)), some (0, gS G 327681 12), some (0, i4 + 1)]) rfl ?_
                  refine s_goto (tgt := 14) dX5_endExpression_99 (by decide) ?_
                  exact ih4 (i4 + 1) G4 hCG4 hXG4 hFG4 (⟨(by omega), (by exact il4), (by exact hA81G4), (by exact hA01G4), (by exact hA02G4), (by exact hA03G4), (by exact hA04G4), (by exact hA05G4), (by exact hE12G4)⟩) (by omega)
                · -- 86 to 89
                  have hz1 : gS G 327701 (i4 : Int).toNat = gS G 327701 (gS G 327681 12).toNat := by have h9 : gS G4 327701 (i4 : Int).toNat = gS G4 327701 (gS G 327681 12).toNat := (by omega); rw [hA01G4] at h9; exact h9
                  have hz2 : gS G 327702 (i4 : Int).toNat = gS G 327702 (gS G 327681 12).toNat := by have h9 : gS G4 327702 (i4 : Int).toNat = gS G4 327702 (gS G 327681 12).toNat := (by omega); rw [hA02G4] at h9; exact h9
                  have hz3 : gS G 327703 (i4 : Int).toNat = gS G 327703 (gS G 327681 12).toNat := by have h9 : gS G4 327703 (i4 : Int).toNat = gS G4 327703 (gS G 327681 12).toNat := (by omega); rw [hA03G4] at h9; exact h9
                  have hz4 : gS G 327704 (i4 : Int).toNat = gS G 327704 (gS G 327681 12).toNat := by have h9 : gS G4 327704 (i4 : Int).toNat = gS G4 327704 (gS G 327681 12).toNat := (by omega); rw [hA04G4] at h9; exact h9
                  refine s_aload_n dX5_endExpression_89 rfl (Int.natCast_nonneg _) ?_
                  have hv44 : gS G4 327681 11 = ((327707 : Nat) : Int) := by have h9 : (gS G4 327681 11) = 327707 := hCG4.1.v (j := 11) (by decide : cde 327681 = 501) al11 (by rw [hk10]; exact Nat.le_of_ble_eq_true rfl); omega
                  refine s_getf (ci := 6) (k := 11) (C := RX5) (T := TX5) (N := 18) (n := 327681) (L := 0) (t := 2) dX5_endExpression_90 rfl wi_73 m_653 (Nat.le_of_ble_eq_true rfl) rfl rfl hk10 hv44 ?_
                  refine s_iload_n dX5_endExpression_93 rfl ?_
                  refine s_iload_n dX5_endExpression_94 rfl ?_
                  refine s_iast dX5_endExpression_95 hk13 (by omega) (by omega) ?_
                  generalize eG45r : gset G4 327707 ((gS G 327681 12 : Int).toNat) i4 = G45
                  have eG45 := eG45r.symm
                  have hCG45 : CI a b G45 := by rw [eG45]; exact hCG4.exprPut (by decide) (by decide) (by rw [hA81G4]; omega) (show 0 ≤ i4 ∧ i4 ≤ 119 by omega)
                  have hXG45 : KX G4 G45 := KX.set KX.rf eG45
                  have hFG45 : WX (fun x => x = 327681 ∨ x = 327707) G G45 := WX.set hFG4 eG45 (by show _; omega)
                  have hfG45 : WX (fun x => x = 327707 % 1048576) G4 G45 := WX.set WX.rf eG45 rfl
                  have hA81G45 : gS G45 327681 = gS G 327681 := (gset_o eG45 (x := 327681) (by decide)).trans hA81G4
                  have hA01G45 : gS G45 327701 = gS G 327701 := (gset_o eG45 (x := 327701) (by decide)).trans hA01G4
                  have hA02G45 : gS G45 327702 = gS G 327702 := (gset_o eG45 (x := 327702) (by decide)).trans hA02G4
                  have hA03G45 : gS G45 327703 = gS G 327703 := (gset_o eG45 (x := 327703) (by decide)).trans hA03G4
                  have hA04G45 : gS G45 327704 = gS G 327704 := (gset_o eG45 (x := 327704) (by decide)).trans hA04G4
                  have hA05G45 : gS G45 327705 = gS G 327705 := (gset_o eG45 (x := 327705) (by decide)).trans hA05G4
                  have hE12G45 : gS G45 327681 12 = gS G 327681 12 := (congrFun (gset_o eG45 (x := 327681) (by decide)) 12).trans hE12G4
                  show WP kX5_endExpression X 96 [some (2, ((327681 : Nat) : Int)), some (0, gS G 327681 12), some (0, i4)] [] G45
                  refine s_iinc dX5_endExpression_96 (v := i4) rfl (by omega) (by decide) (lv' := [some (2, ((327681 : Nat) : Int)), some (0, gS G 327681 12), some (0, i4 + 1)]) rfl ?_
                  refine s_goto (tgt := 14) dX5_endExpression_99 (by decide) ?_
                  exact ih4 (i4 + 1) G45 hCG45 (KX.trans hXG4 hXG45) hFG45 (⟨(by omega), (by rw [show gS G45 327707 (gS G 327681 12).toNat = i4 from gsaE eG45]; refine ⟨by omega, ?_⟩; have hi := hC.2.2.2.2.2.2.1 i4 (by omega) (by omega); obtain ⟨-, d2, -, -, d5, d6, -, -⟩ := hb; obtain ⟨-, c2, -, -, c5, c6, -, -⟩ := hi; by_cases w : gS G 327701 i4.toNat ≤ 4; (focus (rw [c6 w, d6 (by omega), hz2, hz3, hz4])); (focus (rw [(c5 (by omega)).2.2, (d5 (by omega)).2.2]))), (by exact hA81G45), (by exact hA01G45), (by exact hA02G45), (by exact hA03G45), (by exact hA04G45), (by exact hA05G45), (by exact hE12G45)⟩) (by omega)
  exact L4 _ 0 G3 hCG3 KX.rf hFG3 (⟨(by omega), (by exact hl12), (by exact hA81G3), (by exact hA01G3), (by exact hA02G3), (by exact hA03G3), (by exact hA04G3), (by exact hA05G3), (by exact hE12G3)⟩) (Nat.lt_succ_self _)
