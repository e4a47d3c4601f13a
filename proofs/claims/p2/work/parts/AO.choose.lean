abbrev kX2_checkThird : KD := (RX2, cX2_checkThird, 3, (some .int), [])
def TX2_checkThird : TR := fun as G Qr => ∃ (A : Nat) (a b : Nat), as = [(2, ((A : Nat) : Int))] ∧ CI a b G ∧ (a ≤ 2840000 ∧ b ≤ 590000) ∧ (isFc A) ∧ ∀ (r : Int), (True) → Qr (.inl (some (0, r))) G
set_option maxHeartbeats 4000000 in
set_option maxRecDepth 100000 in
theorem gX2_checkThird : Good kX2_checkThird yX2_checkThird 1 TX2_checkThird := by
  refine good_of (by decide) rfl rfl (fun as G Qr h => ?_) (fun X as G Qr hcf hR hT oa => ?_)
  · obtain ⟨A, a, b, rfl, -⟩ := h; exact Nat.le_of_ble_eq_true rfl
  obtain ⟨A, a, b, rfl, hC, hab, hA, hQ⟩ := hT
  show WP kX2_checkThird X 0 [some (2, ((A : Nat) : Int)), none, none] [] G
  refine s_alvl A (k := 0) rfl (fun alA => ?_)
  refine s_lk (fun hlk => ?_)
  have hfA := hlk.fc hC hA alA
  obtain ⟨kA0, kA1, kA2, kA3, kA4, kA5, kA6⟩ := hfA.1
  refine s_aload_n dX2_checkThird_0 rfl (Int.natCast_nonneg _) ?_
  have hv1 : gS G A 4 = ((A + 4 : Nat) : Int) := by have h9 : (gS G A 4) = (((A % 1048576) + 4 : Nat) : Int) := hC.1.v (j := 4) (by rw [cde_n (by omega) (by omega)]; omega : cde A = 101) (kne kA0 (by decide)) (by rw [kA0]; exact Nat.le_of_ble_eq_true rfl); omega
  refine s_getf (ci := 1) (k := 4) (C := RX0) (T := TX0) (N := 7) (n := A) (L := 0) (t := 2) dX2_checkThird_1 rfl wi_65 m_575 (Nat.le_of_ble_eq_true rfl) rfl rfl kA0 hv1 ?_
  refine s_bipush dX2_checkThird_4 rfl (by decide) ?_
  have hv2 : 0 ≤ (gS G (A + 4) (6 : Int).toNat) ∧ (gS G (A + 4) (6 : Int).toNat) ≤ 200 := hC.1.v (j := (6 : Int).toNat) (by rw [cde_n (by omega) (by omega)]; omega : cde (A + 4) = 105) (kne kA4 (by decide)) (by rw [kA4]; show (6 : Int).toNat < 16; omega)
  refine s_iald dX2_checkThird_6 kA4 (by omega) (by omega) rfl ?_
  refine s_iconst dX2_checkThird_7 (by decide) ?_
  refine s_icmp_ne (tgt := 27) dX2_checkThird_8 (by decide) (fun c3 => ?_) (fun c3 => ?_)
  · -- 8 to 27
    refine s_iconst dX2_checkThird_27 (by decide) ?_
    refine s_istore_n dX2_checkThird_28 (by decide) (lv' := [some (2, ((A : Nat) : Int)), some (0, 0), none]) rfl ?_
    refine s_aload_n dX2_checkThird_29 rfl (Int.natCast_nonneg _) ?_
    have hv4 : gS G A 2 = ((A + 2 : Nat) : Int) := by have h9 : (gS G A 2) = (((A % 1048576) + 2 : Nat) : Int) := hC.1.v (j := 2) (by rw [cde_n (by omega) (by omega)]; omega : cde A = 101) (kne kA0 (by decide)) (by rw [kA0]; exact Nat.le_of_ble_eq_true rfl); omega
    refine s_getf (ci := 1) (k := 2) (C := RX0) (T := TX0) (N := 7) (n := A) (L := 0) (t := 2) dX2_checkThird_30 rfl wi_65 m_576 (Nat.le_of_ble_eq_true rfl) rfl rfl kA0 hv4 ?_
    refine s_iconst dX2_checkThird_33 (by decide) ?_
    refine s_iald dX2_checkThird_34 kA2 (by omega) (by omega) rfl ?_
    refine s_iconst dX2_checkThird_35 (by decide) ?_
    refine s_icmp_ne (tgt := 43) dX2_checkThird_36 (by decide) (fun c5 => ?_) (fun c5 => ?_)
    · -- 36 to 43
      refine s_iconst dX2_checkThird_43 (by decide) ?_
      refine s_iconst dX2_checkThird_44 (by decide) ?_
      refine s_callSN (own := RX2) rfl (by decide +kernel) (as := [(0, 5), (0, 0)]) (rest := []) gX11_valueMistake dX2_checkThird_45 m_1784 m_714 m_129 ⟨by decide, by decide, show (parseMethodDescriptor yX11_valueMistake.desc).map (fun d => d.parameters.length) = some 2 from by decide +kernel⟩ (Nat.le_of_ble_eq_true rfl) (by rw [hcf]; exact Nat.le_of_ble_eq_true rfl) rfl (Nat.le_of_ble_eq_true rfl) ⟨5, 0, rfl, (by first | assumption | omega), (by first | assumption | omega), fun rr6 hp7 => ?_⟩
      show WP kX2_checkThird X 48 [some (2, ((A : Nat) : Int)), some (0, 0), none] [(0, rr6)] G
      exact s_iret hR dX2_checkThird_48 rfl (hQ rr6 trivial)
    · -- 36 to 39
      refine s_iload_n dX2_checkThird_39 rfl ?_
      refine s_if_ne (tgt := 49) dX2_checkThird_40 (by decide) (fun c8 => ?_) (fun c8 => ?_)
      · -- 40 to 49
        refine s_iconst dX2_checkThird_49 (by decide) ?_
        refine s_istore_n dX2_checkThird_50 (by decide) (lv' := [some (2, ((A : Nat) : Int)), some (0, 0), some (0, 0)]) rfl ?_
        have L9 : ∀ (n9 : Nat) (n519 : Int), ((0 ≤ n519 ∧ n519 ≤ 10)) → (10 - n519).toNat < n9 → WP kX2_checkThird X 51 [some (2, ((A : Nat) : Int)), some (0, 0), some (0, n519)] [] G := by
          intro n9
          induction n9 with
          | zero => intro n519 hi9 hm9; exact absurd hm9 (Nat.not_lt_zero _)
          | succ n9 ih9 =>
            intro n519 hi9 hm9
            have in51_9 := hi9
            refine s_iload_n dX2_checkThird_51 rfl ?_
            refine s_bipush dX2_checkThird_52 rfl (by decide) ?_
            refine s_icmp_ge (tgt := 86) dX2_checkThird_54 (by decide) (fun c10 => ?_) (fun c10 => ?_)
            · -- 54 to 86
              refine s_iconst dX2_checkThird_86 (by decide) ?_
              exact s_iret hR dX2_checkThird_87 rfl (hQ 0 trivial)
            · -- 54 to 57
              refine s_aload_n dX2_checkThird_57 rfl (Int.natCast_nonneg _) ?_
              refine s_iload_n dX2_checkThird_58 rfl ?_
              refine s_callV (as := [(0, n519)]) (rest := []) (n := A) (ci := 1) gX0_isValueHole dX2_checkThird_59 m_1322 m_743 m_1476 m_711 m_70 ⟨by decide, by decide, show (parseMethodDescriptor yX0_isValueHole.desc).map (fun d => d.parameters.length) = some 1 from by decide +kernel⟩ (Nat.le_of_ble_eq_true rfl) (by rw [hcf]; exact Nat.le_of_ble_eq_true rfl) kA0 rfl rfl (Nat.le_of_ble_eq_true rfl) ⟨A, n519, a, b, rfl, hC, hab, (by first | assumption | omega), (by first | assumption | omega), fun rr11 hp12 => ?_⟩
              show WP kX2_checkThird X 62 [some (2, ((A : Nat) : Int)), some (0, 0), some (0, n519)] [(0, rr11)] G
              refine s_if_eq (tgt := 80) dX2_checkThird_62 (by decide) (fun c13 => ?_) (fun c13 => ?_)
              · -- 62 to 80
                refine s_iinc dX2_checkThird_80 (v := n519) rfl (by omega) (by decide) (lv' := [some (2, ((A : Nat) : Int)), some (0, 0), some (0, n519 + 1)]) rfl ?_
                refine s_goto (tgt := 51) dX2_checkThird_83 (by decide) ?_
                exact ih9 (n519 + 1) ((by omega)) (by omega)
              · -- 62 to 65
                refine s_aload_n dX2_checkThird_65 rfl (Int.natCast_nonneg _) ?_
                refine s_iload_n dX2_checkThird_66 rfl ?_
                refine s_callV (as := [(0, n519)]) (rest := []) (n := A) (ci := 1) gX0_isGhost dX2_checkThird_67 m_1323 m_741 m_1474 m_711 m_68 ⟨by decide, by decide, show (parseMethodDescriptor yX0_isGhost.desc).map (fun d => d.parameters.length) = some 1 from by decide +kernel⟩ (Nat.le_of_ble_eq_true rfl) (by rw [hcf]; exact Nat.le_of_ble_eq_true rfl) kA0 rfl rfl (Nat.le_of_ble_eq_true rfl) ⟨A, n519, a, b, rfl, hC, hab, (by first | assumption | omega), (by first | assumption | omega), fun rr14 hp15 => ?_⟩
                show WP kX2_checkThird X 70 [some (2, ((A : Nat) : Int)), some (0, 0), some (0, n519)] [(0, rr14)] G
                refine s_if_ne (tgt := 80) dX2_checkThird_70 (by decide) (fun c16 => ?_) (fun c16 => ?_)
                · -- 70 to 80
                  refine s_iinc dX2_checkThird_80 (v := n519) rfl (by omega) (by decide) (lv' := [some (2, ((A : Nat) : Int)), some (0, 0), some (0, n519 + 1)]) rfl ?_
                  refine s_goto (tgt := 51) dX2_checkThird_83 (by decide) ?_
                  exact ih9 (n519 + 1) ((by omega)) (by omega)
                · -- 70 to 73
                  refine s_bipush dX2_checkThird_73 rfl (by decide) ?_
                  refine s_iload_n dX2_checkThird_75 rfl ?_
                  refine s_callSN (own := RX2) rfl (by decide +kernel) (as := [(0, 8), (0, n519)]) (rest := []) gX11_valueMistake dX2_checkThird_76 m_1784 m_714 m_129 ⟨by decide, by decide, show (parseMethodDescriptor yX11_valueMistake.desc).map (fun d => d.parameters.length) = some 2 from by decide +kernel⟩ (Nat.le_of_ble_eq_true rfl) (by rw [hcf]; exact Nat.le_of_ble_eq_true rfl) rfl (Nat.le_of_ble_eq_true rfl) ⟨8, n519, rfl, (by first | assumption | omega), (by first | assumption | omega), fun rr17 hp18 => ?_⟩
                  show WP kX2_checkThird X 79 [some (2, ((A : Nat) : Int)), some (0, 0), some (0, n519)] [(0, rr17)] G
                  exact s_iret hR dX2_checkThird_79 rfl (hQ rr17 trivial)
        exact L9 _ 0 ((by omega)) (Nat.lt_succ_self _)
      · -- 40 to 43
        refine s_iconst dX2_checkThird_43 (by decide) ?_
        refine s_iconst dX2_checkThird_44 (by decide) ?_
        refine s_callSN (own := RX2) rfl (by decide +kernel) (as := [(0, 5), (0, 0)]) (rest := []) gX11_valueMistake dX2_checkThird_45 m_1784 m_714 m_129 ⟨by decide, by decide, show (parseMethodDescriptor yX11_valueMistake.desc).map (fun d => d.parameters.length) = some 2 from by decide +kernel⟩ (Nat.le_of_ble_eq_true rfl) (by rw [hcf]; exact Nat.le_of_ble_eq_true rfl) rfl (Nat.le_of_ble_eq_true rfl) ⟨5, 0, rfl, (by first | assumption | omega), (by first | assumption | omega), fun rr19 hp20 => ?_⟩
        show WP kX2_checkThird X 48 [some (2, ((A : Nat) : Int)), some (0, 0), none] [(0, rr19)] G
        exact s_iret hR dX2_checkThird_48 rfl (hQ rr19 trivial)
  · -- 8 to 11
    refine s_aload_n dX2_checkThird_11 rfl (Int.natCast_nonneg _) ?_
    have hv21 : gS G A 3 = ((A + 3 : Nat) : Int) := by have h9 : (gS G A 3) = (((A % 1048576) + 3 : Nat) : Int) := hC.1.v (j := 3) (by rw [cde_n (by omega) (by omega)]; omega : cde A = 101) (kne kA0 (by decide)) (by rw [kA0]; exact Nat.le_of_ble_eq_true rfl); omega
    refine s_getf (ci := 1) (k := 3) (C := RX0) (T := TX0) (N := 7) (n := A) (L := 0) (t := 2) dX2_checkThird_12 rfl wi_65 m_574 (Nat.le_of_ble_eq_true rfl) rfl rfl kA0 hv21 ?_
    refine s_bipush dX2_checkThird_15 rfl (by decide) ?_
    have hv23b : 0 ≤ (gS G (A + 3) (6 : Int).toNat) ∧ (gS G (A + 3) (6 : Int).toNat) % 1048576 = ((((A + 3) % 1048576) + 4 + ((6 : Int).toNat) : Nat) : Int) := hC.1.v (j := (6 : Int).toNat) (by rw [cde_n (by omega) (by omega)]; omega : cde (A + 3) = 104) (kne kA3 (by decide)) (by rw [kA3]; show (6 : Int).toNat < 16; omega)
    obtain ⟨q22, hv23⟩ : ∃ q : Nat, gS G (A + 3) (6 : Int).toNat = (q : Int) := ⟨(gS G (A + 3) (6 : Int).toNat).toNat, by omega⟩
    rw [hv23] at hv23b
    refine s_aald4 dX2_checkThird_17 kA3 (by omega) (by omega) hv23 ?_
    refine s_iconst dX2_checkThird_18 (by decide) ?_
    refine s_alv (q22) (by simp) (fun al24 => ?_)
    obtain ⟨L26, hk25, hL26a, hL26b⟩ := hC.1.kr (show 108 ≤ cde q22 ∧ cde q22 < 124 from by rw [cde_n (by omega) (by omega)]; omega) al24
    refine s_iald dX2_checkThird_19 hk25 (by omega) (by omega) rfl ?_
    have J28 : ∀ z27 : Int, ((¬ (gS G q22 ((0 : Int).toNat)) = 0) ∧ z27 = 0) ∨ (((gS G q22 ((0 : Int).toNat)) = 0) ∧ z27 = 1) → WP kX2_checkThird X 28 [some (2, ((A : Nat) : Int)), none, none] [(0, z27)] G := by
      intro z27 hz27
      refine s_istore_n dX2_checkThird_28 (by decide) (lv' := [some (2, ((A : Nat) : Int)), some (0, z27), none]) rfl ?_
      refine s_aload_n dX2_checkThird_29 rfl (Int.natCast_nonneg _) ?_
      have hv29 : gS G A 2 = ((A + 2 : Nat) : Int) := by have h9 : (gS G A 2) = (((A % 1048576) + 2 : Nat) : Int) := hC.1.v (j := 2) (by rw [cde_n (by omega) (by omega)]; omega : cde A = 101) (kne kA0 (by decide)) (by rw [kA0]; exact Nat.le_of_ble_eq_true rfl); omega
      refine s_getf (ci := 1) (k := 2) (C := RX0) (T := TX0) (N := 7) (n := A) (L := 0) (t := 2) dX2_checkThird_30 rfl wi_65 m_576 (Nat.le_of_ble_eq_true rfl) rfl rfl kA0 hv29 ?_
      refine s_iconst dX2_checkThird_33 (by decide) ?_
      refine s_iald dX2_checkThird_34 kA2 (by omega) (by omega) rfl ?_
      refine s_iconst dX2_checkThird_35 (by decide) ?_
      refine s_icmp_ne (tgt := 43) dX2_checkThird_36 (by decide) (fun c30 => ?_) (fun c30 => ?_)
      · -- 36 to 43
        refine s_iconst dX2_checkThird_43 (by decide) ?_
        refine s_iconst dX2_checkThird_44 (by decide) ?_
        refine s_callSN (own := RX2) rfl (by decide +kernel) (as := [(0, 5), (0, 0)]) (rest := []) gX11_valueMistake dX2_checkThird_45 m_1784 m_714 m_129 ⟨by decide, by decide, show (parseMethodDescriptor yX11_valueMistake.desc).map (fun d => d.parameters.length) = some 2 from by decide +kernel⟩ (Nat.le_of_ble_eq_true rfl) (by rw [hcf]; exact Nat.le_of_ble_eq_true rfl) rfl (Nat.le_of_ble_eq_true rfl) ⟨5, 0, rfl, (by first | assumption | omega), (by first | assumption | omega), fun rr31 hp32 => ?_⟩
        show WP kX2_checkThird X 48 [some (2, ((A : Nat) : Int)), some (0, z27), none] [(0, rr31)] G
        exact s_iret hR dX2_checkThird_48 rfl (hQ rr31 trivial)
      · -- 36 to 39
        refine s_iload_n dX2_checkThird_39 rfl ?_
        refine s_if_ne (tgt := 49) dX2_checkThird_40 (by decide) (fun c33 => ?_) (fun c33 => ?_)
        · -- 40 to 49
          refine s_iconst dX2_checkThird_49 (by decide) ?_
          refine s_istore_n dX2_checkThird_50 (by decide) (lv' := [some (2, ((A : Nat) : Int)), some (0, z27), some (0, 0)]) rfl ?_
          have L34 : ∀ (n34 : Nat) (n5134 : Int), ((0 ≤ n5134 ∧ n5134 ≤ 10)) → (10 - n5134).toNat < n34 → WP kX2_checkThird X 51 [some (2, ((A : Nat) : Int)), some (0, z27), some (0, n5134)] [] G := by
            intro n34
            induction n34 with
            | zero => intro n5134 hi34 hm34; exact absurd hm34 (Nat.not_lt_zero _)
            | succ n34 ih34 =>
              intro n5134 hi34 hm34
              have in51_34 := hi34
              refine s_iload_n dX2_checkThird_51 rfl ?_
              refine s_bipush dX2_checkThird_52 rfl (by decide) ?_
              refine s_icmp_ge (tgt := 86) dX2_checkThird_54 (by decide) (fun c35 => ?_) (fun c35 => ?_)
              · -- 54 to 86
                refine s_iconst dX2_checkThird_86 (by decide) ?_
                exact s_iret hR dX2_checkThird_87 rfl (hQ 0 trivial)
              · -- 54 to 57
                refine s_aload_n dX2_checkThird_57 rfl (Int.natCast_nonneg _) ?_
                refine s_iload_n dX2_checkThird_58 rfl ?_
                refine s_callV (as := [(0, n5134)]) (rest := []) (n := A) (ci := 1) gX0_isValueHole dX2_checkThird_59 m_1322 m_743 m_1476 m_711 m_70 ⟨by decide, by decide, show (parseMethodDescriptor yX0_isValueHole.desc).map (fun d => d.parameters.length) = some 1 from by decide +kernel⟩ (Nat.le_of_ble_eq_true rfl) (by rw [hcf]; exact Nat.le_of_ble_eq_true rfl) kA0 rfl rfl (Nat.le_of_ble_eq_true rfl) ⟨A, n5134, a, b, rfl, hC, hab, (by first | assumption | omega), (by first | assumption | omega), fun rr36 hp37 => ?_⟩
                show WP kX2_checkThird X 62 [some (2, ((A : Nat) : Int)), some (0, z27), some (0, n5134)] [(0, rr36)] G
                refine s_if_eq (tgt := 80) dX2_checkThird_62 (by decide) (fun c38 => ?_) (fun c38 => ?_)
                · -- 62 to 80
                  refine s_iinc dX2_checkThird_80 (v := n5134) rfl (by omega) (by decide) (lv' := [some (2, ((A : Nat) : Int)), some (0, z27), some (0, n5134 + 1)]) rfl ?_
                  refine s_goto (tgt := 51) dX2_checkThird_83 (by decide) ?_
                  exact ih34 (n5134 + 1) ((by omega)) (by omega)
                · -- 62 to 65
                  refine s_aload_n dX2_checkThird_65 rfl (Int.natCast_nonneg _) ?_
                  refine s_iload_n dX2_checkThird_66 rfl ?_
                  refine s_callV (as := [(0, n5134)]) (rest := []) (n := A) (ci := 1) gX0_isGhost dX2_checkThird_67 m_1323 m_741 m_1474 m_711 m_68 ⟨by decide, by decide, show (parseMethodDescriptor yX0_isGhost.desc).map (fun d => d.parameters.length) = some 1 from by decide +kernel⟩ (Nat.le_of_ble_eq_true rfl) (by rw [hcf]; exact Nat.le_of_ble_eq_true rfl) kA0 rfl rfl (Nat.le_of_ble_eq_true rfl) ⟨A, n5134, a, b, rfl, hC, hab, (by first | assumption | omega), (by first | assumption | omega), fun rr39 hp40 => ?_⟩
                  show WP kX2_checkThird X 70 [some (2, ((A : Nat) : Int)), some (0, z27), some (0, n5134)] [(0, rr39)] G
                  refine s_if_ne (tgt := 80) dX2_checkThird_70 (by decide) (fun c41 => ?_) (fun c41 => ?_)
                  · -- 70 to 80
                    refine s_iinc dX2_checkThird_80 (v := n5134) rfl (by omega) (by decide) (lv' := [some (2, ((A : Nat) : Int)), some (0, z27), some (0, n5134 + 1)]) rfl ?_
                    refine s_goto (tgt := 51) dX2_checkThird_83 (by decide) ?_
                    exact ih34 (n5134 + 1) ((by omega)) (by omega)
                  · -- 70 to 73
                    refine s_bipush dX2_checkThird_73 rfl (by decide) ?_
                    refine s_iload_n dX2_checkThird_75 rfl ?_
                    refine s_callSN (own := RX2) rfl (by decide +kernel) (as := [(0, 8), (0, n5134)]) (rest := []) gX11_valueMistake dX2_checkThird_76 m_1784 m_714 m_129 ⟨by decide, by decide, show (parseMethodDescriptor yX11_valueMistake.desc).map (fun d => d.parameters.length) = some 2 from by decide +kernel⟩ (Nat.le_of_ble_eq_true rfl) (by rw [hcf]; exact Nat.le_of_ble_eq_true rfl) rfl (Nat.le_of_ble_eq_true rfl) ⟨8, n5134, rfl, (by first | assumption | omega), (by first | assumption | omega), fun rr42 hp43 => ?_⟩
                    show WP kX2_checkThird X 79 [some (2, ((A : Nat) : Int)), some (0, z27), some (0, n5134)] [(0, rr42)] G
                    exact s_iret hR dX2_checkThird_79 rfl (hQ rr42 trivial)
          exact L34 _ 0 ((by omega)) (Nat.lt_succ_self _)
        · -- 40 to 43
          refine s_iconst dX2_checkThird_43 (by decide) ?_
          refine s_iconst dX2_checkThird_44 (by decide) ?_
          refine s_callSN (own := RX2) rfl (by decide +kernel) (as := [(0, 5), (0, 0)]) (rest := []) gX11_valueMistake dX2_checkThird_45 m_1784 m_714 m_129 ⟨by decide, by decide, show (parseMethodDescriptor yX11_valueMistake.desc).map (fun d => d.parameters.length) = some 2 from by decide +kernel⟩ (Nat.le_of_ble_eq_true rfl) (by rw [hcf]; exact Nat.le_of_ble_eq_true rfl) rfl (Nat.le_of_ble_eq_true rfl) ⟨5, 0, rfl, (by first | assumption | omega), (by first | assumption | omega), fun rr44 hp45 => ?_⟩
          show WP kX2_checkThird X 48 [some (2, ((A : Nat) : Int)), some (0, z27), none] [(0, rr44)] G
          exact s_iret hR dX2_checkThird_48 rfl (hQ rr44 trivial)
    refine s_if_ne (tgt := 27) dX2_checkThird_20 (by decide) (fun c46 => ?_) (fun c46 => ?_)
    · -- 20 to 27
      refine s_iconst dX2_checkThird_27 (by decide) ?_
      exact J28 0 (Or.inl ⟨c46, rfl⟩)
    · -- 20 to 23
      refine s_iconst dX2_checkThird_23 (by decide) ?_
      refine s_goto (tgt := 28) dX2_checkThird_24 (by decide) ?_
      exact J28 1 (Or.inr (⟨c46, rfl⟩))

abbrev kX2_checkNames : KD := (RX2, cX2_checkNames, 3, (some .int), [])
def TX2_checkNames : TR := fun as G Qr => ∃ (A B : Nat) (a b : Nat), as = [(2, ((A : Nat) : Int)), (2, ((B : Nat) : Int))] ∧ CI a b G ∧ (a ≤ 2840000 ∧ b ≤ 590000) ∧ (isFc A) ∧ (isFc B) ∧ ∀ (r : Int), (True) → Qr (.inl (some (0, r))) G
set_option maxHeartbeats 4000000 in
set_option maxRecDepth 100000 in
theorem gX2_checkNames : Good kX2_checkNames yX2_checkNames 1 TX2_checkNames := by
  refine good_of (by decide) rfl rfl (fun as G Qr h => ?_) (fun X as G Qr hcf hR hT oa => ?_)
  · obtain ⟨A, B, a, b, rfl, -⟩ := h; exact Nat.le_of_ble_eq_true rfl
  obtain ⟨A, B, a, b, rfl, hC, hab, hA, hB, hQ⟩ := hT
  show WP kX2_checkNames X 0 [some (2, ((A : Nat) : Int)), some (2, ((B : Nat) : Int)), none] [] G
  refine s_iconst dX2_checkNames_0 (by decide) ?_
  refine s_istore_n dX2_checkNames_1 (by decide) (lv' := [some (2, ((A : Nat) : Int)), some (2, ((B : Nat) : Int)), some (0, 0)]) rfl ?_
  have L1 : ∀ (n1 : Nat) (n21 : Int), ((0 ≤ n21 ∧ n21 ≤ 6)) → (6 - n21).toNat < n1 → WP kX2_checkNames X 2 [some (2, ((A : Nat) : Int)), some (2, ((B : Nat) : Int)), some (0, n21)] [] G := by
    intro n1
    induction n1 with
    | zero => intro n21 hi1 hm1; exact absurd hm1 (Nat.not_lt_zero _)
    | succ n1 ih1 =>
      intro n21 hi1 hm1
      have in2_1 := hi1
      refine s_iload_n dX2_checkNames_2 rfl ?_
      refine s_bipush dX2_checkNames_3 rfl (by decide) ?_
      refine s_icmp_ge (tgt := 33) dX2_checkNames_5 (by decide) (fun c2 => ?_) (fun c2 => ?_)
      · -- 5 to 33
        refine s_iconst dX2_checkNames_33 (by decide) ?_
        refine s_istore_n dX2_checkNames_34 (by decide) (lv' := [some (2, ((A : Nat) : Int)), some (2, ((B : Nat) : Int)), some (0, 0)]) rfl ?_
        have L3 : ∀ (n3 : Nat) (n353 : Int), ((0 ≤ n353 ∧ n353 ≤ 10)) → (10 - n353).toNat < n3 → WP kX2_checkNames X 35 [some (2, ((A : Nat) : Int)), some (2, ((B : Nat) : Int)), some (0, n353)] [] G := by
          intro n3
          induction n3 with
          | zero => intro n353 hi3 hm3; exact absurd hm3 (Nat.not_lt_zero _)
          | succ n3 ih3 =>
            intro n353 hi3 hm3
            have in35_3 := hi3
            refine s_iload_n dX2_checkNames_35 rfl ?_
            refine s_bipush dX2_checkNames_36 rfl (by decide) ?_
            refine s_icmp_ge (tgt := 66) dX2_checkNames_38 (by decide) (fun c4 => ?_) (fun c4 => ?_)
            · -- 38 to 66
              refine s_iconst dX2_checkNames_66 (by decide) ?_
              exact s_iret hR dX2_checkNames_67 rfl (hQ 0 trivial)
            · -- 38 to 41
              refine s_aload_n dX2_checkNames_41 rfl (Int.natCast_nonneg _) ?_
              refine s_iload_n dX2_checkNames_42 rfl ?_
              refine s_alv (A) (by simp) (fun al7 => ?_)
              have hk8 : gK G (A) = (9, 0) := hC.1.k (by rw [cde_n (by omega) (by omega)]; omega : cde A = 101) al7
              refine s_callV (as := [(0, n353)]) (rest := []) (n := A) (ci := 1) gX0_hasValue dX2_checkNames_43 m_1313 m_739 m_1473 m_711 m_66 ⟨by decide, by decide, show (parseMethodDescriptor yX0_hasValue.desc).map (fun d => d.parameters.length) = some 1 from by decide +kernel⟩ (Nat.le_of_ble_eq_true rfl) (by rw [hcf]; exact Nat.le_of_ble_eq_true rfl) hk8 rfl rfl (Nat.le_of_ble_eq_true rfl) ⟨A, n353, a, b, rfl, hC, hab, (by first | assumption | omega), (by first | assumption | omega), fun rr5 hp6 => ?_⟩
              show WP kX2_checkNames X 46 [some (2, ((A : Nat) : Int)), some (2, ((B : Nat) : Int)), some (0, n353)] [(0, rr5)] G
              refine s_aload_n dX2_checkNames_46 rfl (Int.natCast_nonneg _) ?_
              refine s_iload_n dX2_checkNames_47 rfl ?_
              refine s_alv (B) (by simp) (fun al11 => ?_)
              have hk12 : gK G (B) = (9, 0) := hC.1.k (by rw [cde_n (by omega) (by omega)]; omega : cde B = 101) al11
              refine s_callV (as := [(0, n353)]) (rest := [(0, rr5)]) (n := B) (ci := 1) gX0_hasValue dX2_checkNames_48 m_1313 m_739 m_1473 m_711 m_66 ⟨by decide, by decide, show (parseMethodDescriptor yX0_hasValue.desc).map (fun d => d.parameters.length) = some 1 from by decide +kernel⟩ (Nat.le_of_ble_eq_true rfl) (by rw [hcf]; exact Nat.le_of_ble_eq_true rfl) hk12 rfl rfl (Nat.le_of_ble_eq_true rfl) ⟨B, n353, a, b, rfl, hC, hab, (by first | assumption | omega), (by first | assumption | omega), fun rr9 hp10 => ?_⟩
              show WP kX2_checkNames X 51 [some (2, ((A : Nat) : Int)), some (2, ((B : Nat) : Int)), some (0, n353)] [(0, rr9), (0, rr5)] G
              refine s_icmp_eq (tgt := 60) dX2_checkNames_51 (by decide) (fun c13 => ?_) (fun c13 => ?_)
              · -- 51 to 60
                refine s_iinc dX2_checkNames_60 (v := n353) rfl (by omega) (by decide) (lv' := [some (2, ((A : Nat) : Int)), some (2, ((B : Nat) : Int)), some (0, n353 + 1)]) rfl ?_
                refine s_goto (tgt := 35) dX2_checkNames_63 (by decide) ?_
                exact ih3 (n353 + 1) ((by omega)) (by omega)
              · -- 51 to 54
                refine s_iconst dX2_checkNames_54 (by decide) ?_
                refine s_iload_n dX2_checkNames_55 rfl ?_
                refine s_callSN (own := RX2) rfl (by decide +kernel) (as := [(0, 5), (0, n353)]) (rest := []) gX11_valueMistake dX2_checkNames_56 m_1784 m_714 m_129 ⟨by decide, by decide, show (parseMethodDescriptor yX11_valueMistake.desc).map (fun d => d.parameters.length) = some 2 from by decide +kernel⟩ (Nat.le_of_ble_eq_true rfl) (by rw [hcf]; exact Nat.le_of_ble_eq_true rfl) rfl (Nat.le_of_ble_eq_true rfl) ⟨5, n353, rfl, (by first | assumption | omega), (by first | assumption | omega), fun rr14 hp15 => ?_⟩
                show WP kX2_checkNames X 59 [some (2, ((A : Nat) : Int)), some (2, ((B : Nat) : Int)), some (0, n353)] [(0, rr14)] G
                exact s_iret hR dX2_checkNames_59 rfl (hQ rr14 trivial)
        exact L3 _ 0 ((by omega)) (Nat.lt_succ_self _)
      · -- 5 to 8
        refine s_aload_n dX2_checkNames_8 rfl (Int.natCast_nonneg _) ?_
        refine s_iload_n dX2_checkNames_9 rfl ?_
        refine s_alv (A) (by simp) (fun al18 => ?_)
        have hk19 : gK G (A) = (9, 0) := hC.1.k (by rw [cde_n (by omega) (by omega)]; omega : cde A = 101) al18
        refine s_callV (as := [(0, n21)]) (rest := []) (n := A) (ci := 1) gX0_hasType dX2_checkNames_10 m_1317 m_738 m_1472 m_711 m_65 ⟨by decide, by decide, show (parseMethodDescriptor yX0_hasType.desc).map (fun d => d.parameters.length) = some 1 from by decide +kernel⟩ (Nat.le_of_ble_eq_true rfl) (by rw [hcf]; exact Nat.le_of_ble_eq_true rfl) hk19 rfl rfl (Nat.le_of_ble_eq_true rfl) ⟨A, n21, a, b, rfl, hC, hab, (by first | assumption | omega), (by first | assumption | omega), fun rr16 hp17 => ?_⟩
        show WP kX2_checkNames X 13 [some (2, ((A : Nat) : Int)), some (2, ((B : Nat) : Int)), some (0, n21)] [(0, rr16)] G
        refine s_aload_n dX2_checkNames_13 rfl (Int.natCast_nonneg _) ?_
        refine s_iload_n dX2_checkNames_14 rfl ?_
        refine s_alv (B) (by simp) (fun al22 => ?_)
        have hk23 : gK G (B) = (9, 0) := hC.1.k (by rw [cde_n (by omega) (by omega)]; omega : cde B = 101) al22
        refine s_callV (as := [(0, n21)]) (rest := [(0, rr16)]) (n := B) (ci := 1) gX0_hasType dX2_checkNames_15 m_1317 m_738 m_1472 m_711 m_65 ⟨by decide, by decide, show (parseMethodDescriptor yX0_hasType.desc).map (fun d => d.parameters.length) = some 1 from by decide +kernel⟩ (Nat.le_of_ble_eq_true rfl) (by rw [hcf]; exact Nat.le_of_ble_eq_true rfl) hk23 rfl rfl (Nat.le_of_ble_eq_true rfl) ⟨B, n21, a, b, rfl, hC, hab, (by first | assumption | omega), (by first | assumption | omega), fun rr20 hp21 => ?_⟩
        show WP kX2_checkNames X 18 [some (2, ((A : Nat) : Int)), some (2, ((B : Nat) : Int)), some (0, n21)] [(0, rr20), (0, rr16)] G
        refine s_icmp_eq (tgt := 27) dX2_checkNames_18 (by decide) (fun c24 => ?_) (fun c24 => ?_)
        · -- 18 to 27
          refine s_iinc dX2_checkNames_27 (v := n21) rfl (by omega) (by decide) (lv' := [some (2, ((A : Nat) : Int)), some (2, ((B : Nat) : Int)), some (0, n21 + 1)]) rfl ?_
          refine s_goto (tgt := 2) dX2_checkNames_30 (by decide) ?_
          exact ih1 (n21 + 1) ((by omega)) (by omega)
        · -- 18 to 21
          refine s_iconst dX2_checkNames_21 (by decide) ?_
          refine s_iload_n dX2_checkNames_22 rfl ?_
          refine s_callSN (own := RX2) rfl (by decide +kernel) (as := [(0, 5), (0, n21)]) (rest := []) gX11_typeMistake dX2_checkNames_23 m_1783 m_714 m_125 ⟨by decide, by decide, show (parseMethodDescriptor yX11_typeMistake.desc).map (fun d => d.parameters.length) = some 2 from by decide +kernel⟩ (Nat.le_of_ble_eq_true rfl) (by rw [hcf]; exact Nat.le_of_ble_eq_true rfl) rfl (Nat.le_of_ble_eq_true rfl) ⟨5, n21, rfl, (by first | assumption | omega), (by first | assumption | omega), fun rr25 hp26 => ?_⟩
          show WP kX2_checkNames X 26 [some (2, ((A : Nat) : Int)), some (2, ((B : Nat) : Int)), some (0, n21)] [(0, rr25)] G
          exact s_iret hR dX2_checkNames_26 rfl (hQ rr25 trivial)
  exact L1 _ 0 ((by omega)) (Nat.lt_succ_self _)

abbrev kX2_checkHoles : KD := (RX2, cX2_checkHoles, 3, (some .int), [])
def TX2_checkHoles : TR := fun as G Qr => ∃ (A B : Nat) (a b : Nat), as = [(2, ((A : Nat) : Int)), (2, ((B : Nat) : Int))] ∧ CI a b G ∧ (a ≤ 2840000 ∧ b ≤ 590000) ∧ (isFc A) ∧ (isFc B) ∧ ∀ (r : Int), (True) → Qr (.inl (some (0, r))) G
set_option maxHeartbeats 4000000 in
set_option maxRecDepth 100000 in
theorem gX2_checkHoles : Good kX2_checkHoles yX2_checkHoles 1 TX2_checkHoles := by
  refine good_of (by decide) rfl rfl (fun as G Qr h => ?_) (fun X as G Qr hcf hR hT oa => ?_)
  · obtain ⟨A, B, a, b, rfl, -⟩ := h; exact Nat.le_of_ble_eq_true rfl
  obtain ⟨A, B, a, b, rfl, hC, hab, hA, hB, hQ⟩ := hT
  show WP kX2_checkHoles X 0 [some (2, ((A : Nat) : Int)), some (2, ((B : Nat) : Int)), none] [] G
  refine s_iconst dX2_checkHoles_0 (by decide) ?_
  refine s_istore_n dX2_checkHoles_1 (by decide) (lv' := [some (2, ((A : Nat) : Int)), some (2, ((B : Nat) : Int)), some (0, 0)]) rfl ?_
  have L1 : ∀ (n1 : Nat) (n21 : Int), ((0 ≤ n21 ∧ n21 ≤ 6)) → (6 - n21).toNat < n1 → WP kX2_checkHoles X 2 [some (2, ((A : Nat) : Int)), some (2, ((B : Nat) : Int)), some (0, n21)] [] G := by
    intro n1
    induction n1 with
    | zero => intro n21 hi1 hm1; exact absurd hm1 (Nat.not_lt_zero _)
    | succ n1 ih1 =>
      intro n21 hi1 hm1
      have in2_1 := hi1
      refine s_iload_n dX2_checkHoles_2 rfl ?_
      refine s_bipush dX2_checkHoles_3 rfl (by decide) ?_
      refine s_icmp_ge (tgt := 41) dX2_checkHoles_5 (by decide) (fun c2 => ?_) (fun c2 => ?_)
      · -- 5 to 41
        refine s_iconst dX2_checkHoles_41 (by decide) ?_
        refine s_istore_n dX2_checkHoles_42 (by decide) (lv' := [some (2, ((A : Nat) : Int)), some (2, ((B : Nat) : Int)), some (0, 0)]) rfl ?_
        have L3 : ∀ (n3 : Nat) (n433 : Int), ((0 ≤ n433 ∧ n433 ≤ 10)) → (10 - n433).toNat < n3 → WP kX2_checkHoles X 43 [some (2, ((A : Nat) : Int)), some (2, ((B : Nat) : Int)), some (0, n433)] [] G := by
          intro n3
          induction n3 with
          | zero => intro n433 hi3 hm3; exact absurd hm3 (Nat.not_lt_zero _)
          | succ n3 ih3 =>
            intro n433 hi3 hm3
            have in43_3 := hi3
            refine s_iload_n dX2_checkHoles_43 rfl ?_
            refine s_bipush dX2_checkHoles_44 rfl (by decide) ?_
            refine s_icmp_ge (tgt := 78) dX2_checkHoles_46 (by decide) (fun c4 => ?_) (fun c4 => ?_)
            · -- 46 to 78
              refine s_iconst dX2_checkHoles_78 (by decide) ?_
              exact s_iret hR dX2_checkHoles_79 rfl (hQ 0 trivial)
            · -- 46 to 49
              refine s_aload_n dX2_checkHoles_49 rfl (Int.natCast_nonneg _) ?_
              refine s_iload_n dX2_checkHoles_50 rfl ?_
              refine s_alv (A) (by simp) (fun al7 => ?_)
              have hk8 : gK G (A) = (9, 0) := hC.1.k (by rw [cde_n (by omega) (by omega)]; omega : cde A = 101) al7
              refine s_callV (as := [(0, n433)]) (rest := []) (n := A) (ci := 1) gX0_isValueHole dX2_checkHoles_51 m_1322 m_743 m_1476 m_711 m_70 ⟨by decide, by decide, show (parseMethodDescriptor yX0_isValueHole.desc).map (fun d => d.parameters.length) = some 1 from by decide +kernel⟩ (Nat.le_of_ble_eq_true rfl) (by rw [hcf]; exact Nat.le_of_ble_eq_true rfl) hk8 rfl rfl (Nat.le_of_ble_eq_true rfl) ⟨A, n433, a, b, rfl, hC, hab, (by first | assumption | omega), (by first | assumption | omega), fun rr5 hp6 => ?_⟩
              show WP kX2_checkHoles X 54 [some (2, ((A : Nat) : Int)), some (2, ((B : Nat) : Int)), some (0, n433)] [(0, rr5)] G
              refine s_if_ne (tgt := 65) dX2_checkHoles_54 (by decide) (fun c9 => ?_) (fun c9 => ?_)
              · -- 54 to 65
                refine s_bipush dX2_checkHoles_65 rfl (by decide) ?_
                refine s_iload_n dX2_checkHoles_67 rfl ?_
                refine s_callSN (own := RX2) rfl (by decide +kernel) (as := [(0, 8), (0, n433)]) (rest := []) gX11_valueMistake dX2_checkHoles_68 m_1784 m_714 m_129 ⟨by decide, by decide, show (parseMethodDescriptor yX11_valueMistake.desc).map (fun d => d.parameters.length) = some 2 from by decide +kernel⟩ (Nat.le_of_ble_eq_true rfl) (by rw [hcf]; exact Nat.le_of_ble_eq_true rfl) rfl (Nat.le_of_ble_eq_true rfl) ⟨8, n433, rfl, (by first | assumption | omega), (by first | assumption | omega), fun rr10 hp11 => ?_⟩
                show WP kX2_checkHoles X 71 [some (2, ((A : Nat) : Int)), some (2, ((B : Nat) : Int)), some (0, n433)] [(0, rr10)] G
                exact s_iret hR dX2_checkHoles_71 rfl (hQ rr10 trivial)
              · -- 54 to 57
                refine s_aload_n dX2_checkHoles_57 rfl (Int.natCast_nonneg _) ?_
                refine s_iload_n dX2_checkHoles_58 rfl ?_
                refine s_alv (B) (by simp) (fun al14 => ?_)
                have hk15 : gK G (B) = (9, 0) := hC.1.k (by rw [cde_n (by omega) (by omega)]; omega : cde B = 101) al14
                refine s_callV (as := [(0, n433)]) (rest := []) (n := B) (ci := 1) gX0_isValueHole dX2_checkHoles_59 m_1322 m_743 m_1476 m_711 m_70 ⟨by decide, by decide, show (parseMethodDescriptor yX0_isValueHole.desc).map (fun d => d.parameters.length) = some 1 from by decide +kernel⟩ (Nat.le_of_ble_eq_true rfl) (by rw [hcf]; exact Nat.le_of_ble_eq_true rfl) hk15 rfl rfl (Nat.le_of_ble_eq_true rfl) ⟨B, n433, a, b, rfl, hC, hab, (by first | assumption | omega), (by first | assumption | omega), fun rr12 hp13 => ?_⟩
                show WP kX2_checkHoles X 62 [some (2, ((A : Nat) : Int)), some (2, ((B : Nat) : Int)), some (0, n433)] [(0, rr12)] G
                refine s_if_eq (tgt := 72) dX2_checkHoles_62 (by decide) (fun c16 => ?_) (fun c16 => ?_)
                · -- 62 to 72
                  refine s_iinc dX2_checkHoles_72 (v := n433) rfl (by omega) (by decide) (lv' := [some (2, ((A : Nat) : Int)), some (2, ((B : Nat) : Int)), some (0, n433 + 1)]) rfl ?_
                  refine s_goto (tgt := 43) dX2_checkHoles_75 (by decide) ?_
                  exact ih3 (n433 + 1) ((by omega)) (by omega)
                · -- 62 to 65
                  refine s_bipush dX2_checkHoles_65 rfl (by decide) ?_
                  refine s_iload_n dX2_checkHoles_67 rfl ?_
                  refine s_callSN (own := RX2) rfl (by decide +kernel) (as := [(0, 8), (0, n433)]) (rest := []) gX11_valueMistake dX2_checkHoles_68 m_1784 m_714 m_129 ⟨by decide, by decide, show (parseMethodDescriptor yX11_valueMistake.desc).map (fun d => d.parameters.length) = some 2 from by decide +kernel⟩ (Nat.le_of_ble_eq_true rfl) (by rw [hcf]; exact Nat.le_of_ble_eq_true rfl) rfl (Nat.le_of_ble_eq_true rfl) ⟨8, n433, rfl, (by first | assumption | omega), (by first | assumption | omega), fun rr17 hp18 => ?_⟩
                  show WP kX2_checkHoles X 71 [some (2, ((A : Nat) : Int)), some (2, ((B : Nat) : Int)), some (0, n433)] [(0, rr17)] G
                  exact s_iret hR dX2_checkHoles_71 rfl (hQ rr17 trivial)
        exact L3 _ 0 ((by omega)) (Nat.lt_succ_self _)
      · -- 5 to 8
        refine s_aload_n dX2_checkHoles_8 rfl (Int.natCast_nonneg _) ?_
        refine s_alv (A) (by simp) (fun al19 => ?_)
        have hk20 : gK G (A) = (9, 0) := hC.1.k (by rw [cde_n (by omega) (by omega)]; omega : cde A = 101) al19
        have hv21 : gS G A 1 = ((A + 1 : Nat) : Int) := by have h9 : (gS G A 1) = (((A % 1048576) + 1 : Nat) : Int) := hC.1.v (j := 1) (by rw [cde_n (by omega) (by omega)]; omega : cde A = 101) al19 (by rw [hk20]; exact Nat.le_of_ble_eq_true rfl); omega
        refine s_getf (ci := 1) (k := 1) (C := RX0) (T := TX0) (N := 7) (n := A) (L := 0) (t := 2) dX2_checkHoles_9 rfl wi_65 m_573 (Nat.le_of_ble_eq_true rfl) rfl rfl hk20 hv21 ?_
        refine s_iload_n dX2_checkHoles_12 rfl ?_
        refine s_alv (A + 1) (by simp) (fun al22 => ?_)
        have hk23 : gK G (A + 1) = (1, 6) := hC.1.k (by rw [cde_n (by omega) (by omega)]; omega : cde (A + 1) = 102) al22
        refine s_iald dX2_checkHoles_13 hk23 (by omega) (by omega) rfl ?_
        refine s_iconst dX2_checkHoles_14 (by decide) ?_
        refine s_icmp_eq (tgt := 28) dX2_checkHoles_15 (by decide) (fun c24 => ?_) (fun c24 => ?_)
        · -- 15 to 28
          refine s_bipush dX2_checkHoles_28 rfl (by decide) ?_
          refine s_iload_n dX2_checkHoles_30 rfl ?_
          refine s_callSN (own := RX2) rfl (by decide +kernel) (as := [(0, 8), (0, n21)]) (rest := []) gX11_typeMistake dX2_checkHoles_31 m_1783 m_714 m_125 ⟨by decide, by decide, show (parseMethodDescriptor yX11_typeMistake.desc).map (fun d => d.parameters.length) = some 2 from by decide +kernel⟩ (Nat.le_of_ble_eq_true rfl) (by rw [hcf]; exact Nat.le_of_ble_eq_true rfl) rfl (Nat.le_of_ble_eq_true rfl) ⟨8, n21, rfl, (by first | assumption | omega), (by first | assumption | omega), fun rr25 hp26 => ?_⟩
          show WP kX2_checkHoles X 34 [some (2, ((A : Nat) : Int)), some (2, ((B : Nat) : Int)), some (0, n21)] [(0, rr25)] G
          exact s_iret hR dX2_checkHoles_34 rfl (hQ rr25 trivial)
        · -- 15 to 18
          refine s_aload_n dX2_checkHoles_18 rfl (Int.natCast_nonneg _) ?_
          refine s_alv (B) (by simp) (fun al27 => ?_)
          have hk28 : gK G (B) = (9, 0) := hC.1.k (by rw [cde_n (by omega) (by omega)]; omega : cde B = 101) al27
          have hv29 : gS G B 1 = ((B + 1 : Nat) : Int) := by have h9 : (gS G B 1) = (((B % 1048576) + 1 : Nat) : Int) := hC.1.v (j := 1) (by rw [cde_n (by omega) (by omega)]; omega : cde B = 101) al27 (by rw [hk28]; exact Nat.le_of_ble_eq_true rfl); omega
          refine s_getf (ci := 1) (k := 1) (C := RX0) (T := TX0) (N := 7) (n := B) (L := 0) (t := 2) dX2_checkHoles_19 rfl wi_65 m_573 (Nat.le_of_ble_eq_true rfl) rfl rfl hk28 hv29 ?_
          refine s_iload_n dX2_checkHoles_22 rfl ?_
          refine s_alv (B + 1) (by simp) (fun al30 => ?_)
          have hk31 : gK G (B + 1) = (1, 6) := hC.1.k (by rw [cde_n (by omega) (by omega)]; omega : cde (B + 1) = 102) al30
          refine s_iald dX2_checkHoles_23 hk31 (by omega) (by omega) rfl ?_
          refine s_iconst dX2_checkHoles_24 (by decide) ?_
          refine s_icmp_ne (tgt := 35) dX2_checkHoles_25 (by decide) (fun c32 => ?_) (fun c32 => ?_)
          · -- 25 to 35
            refine s_iinc dX2_checkHoles_35 (v := n21) rfl (by omega) (by decide) (lv' := [some (2, ((A : Nat) : Int)), some (2, ((B : Nat) : Int)), some (0, n21 + 1)]) rfl ?_
            refine s_goto (tgt := 2) dX2_checkHoles_38 (by decide) ?_
            exact ih1 (n21 + 1) ((by omega)) (by omega)
          · -- 25 to 28
            refine s_bipush dX2_checkHoles_28 rfl (by decide) ?_
            refine s_iload_n dX2_checkHoles_30 rfl ?_
            refine s_callSN (own := RX2) rfl (by decide +kernel) (as := [(0, 8), (0, n21)]) (rest := []) gX11_typeMistake dX2_checkHoles_31 m_1783 m_714 m_125 ⟨by decide, by decide, show (parseMethodDescriptor yX11_typeMistake.desc).map (fun d => d.parameters.length) = some 2 from by decide +kernel⟩ (Nat.le_of_ble_eq_true rfl) (by rw [hcf]; exact Nat.le_of_ble_eq_true rfl) rfl (Nat.le_of_ble_eq_true rfl) ⟨8, n21, rfl, (by first | assumption | omega), (by first | assumption | omega), fun rr33 hp34 => ?_⟩
            show WP kX2_checkHoles X 34 [some (2, ((A : Nat) : Int)), some (2, ((B : Nat) : Int)), some (0, n21)] [(0, rr33)] G
            exact s_iret hR dX2_checkHoles_34 rfl (hQ rr33 trivial)
  exact L1 _ 0 ((by omega)) (Nat.lt_succ_self _)

abbrev kX2_applied : KD := (RX2, cX2_applied, 4, (some .int), [])
def TX2_applied : TR := fun as G Qr => ∃ (P : Int → Prop) (A f : Nat) (a b : Nat), as = [(2, ((327682 : Nat) : Int)), (2, ((A : Nat) : Int)), (2, ((f : Nat) : Int))] ∧ CI a b G ∧ (a ≤ 2840000 ∧ b ≤ 590000) ∧ (isFc A) ∧ (isFc f) ∧ (A ≠ f) ∧ (f ≠ 68097) ∧ (FPa P G f) ∧ ∀ (r : Int) (G' : LG), CI a b G' → KX G G' → WX (fun x => x = f + 1 ∨ x = f + 4) G G' → (FPa P G' f) → Qr (.inl (some (0, r))) G'
set_option maxHeartbeats 4000000 in
set_option maxRecDepth 100000 in
theorem gX2_applied : Good kX2_applied yX2_applied 1 TX2_applied := by
  refine good_of (by decide) rfl rfl (fun as G Qr h => ?_) (fun X as G Qr hcf hR hT oa => ?_)
  · obtain ⟨P, A, f, a, b, rfl, -⟩ := h; exact Nat.le_of_ble_eq_true rfl
  obtain ⟨P, A, f, a, b, rfl, hC, hab, hA, hf, hne, hf9, hFf, hQ⟩ := hT
  show WP kX2_applied X 0 [some (2, ((327682 : Nat) : Int)), some (2, ((A : Nat) : Int)), some (2, ((f : Nat) : Int)), none] [] G
  have rg0 : RM (fun x => x = f + 1 ∨ x = f + 4) (fun x => x = f + 1 ∨ x = f + 4) := fun x hx => by (try dsimp only at hx ⊢); omega
  refine s_alvl 327682 (k := 0) rfl (fun alZ => ?_)
  refine s_alvl A (k := 1) rfl (fun alA => ?_)
  refine s_alvl f (k := 2) rfl (fun alf => ?_)
  refine s_lk (fun hlk => ?_)
  have hfn := hlk.fna hC alZ
  obtain ⟨k327682, k327681, k327683, k262144, k262208, k327684, k68097, k327691, k327692, k262145, k262146, k262148, k262149, k262209, k262210, k262212, k262213, k327710, k327685, k327688⟩ := id hfn
  have hfA := hlk.fc hC hA alA
  obtain ⟨kA0, kA1, kA2, kA3, kA4, kA5, kA6⟩ := hfA.1
  have hff := hlk.fc hC hf alf
  obtain ⟨kf0, kf1, kf2, kf3, kf4, kf5, kf6⟩ := hff.1
  refine s_iconst dX2_applied_0 (by decide) ?_
  refine s_istore_n dX2_applied_1 (by decide) (lv' := [some (2, ((327682 : Nat) : Int)), some (2, ((A : Nat) : Int)), some (2, ((f : Nat) : Int)), some (0, 0)]) rfl ?_
  have L1 : ∀ (fu1 : Nat) (n1 : Int), ((0 ≤ n1 ∧ n1 ≤ 6)) → (6 - n1).toNat < fu1 → WP kX2_applied X 2 [some (2, ((327682 : Nat) : Int)), some (2, ((A : Nat) : Int)), some (2, ((f : Nat) : Int)), some (0, n1)] [] G := by
    intro fu1
    induction fu1 with
    | zero => intro n1 hi1 hm1; exact absurd hm1 (Nat.not_lt_zero _)
    | succ fu1 ih1 =>
      intro n1 hi1 hm1
      have in_1 := hi1
      refine s_iload_n dX2_applied_2 rfl ?_
      refine s_bipush dX2_applied_3 rfl (by decide) ?_
      refine s_icmp_ge (tgt := 43) dX2_applied_5 (by decide) (fun c2 => ?_) (fun c2 => ?_)
      · -- 5 to 43
        refine s_iconst dX2_applied_43 (by decide) ?_
        refine s_istore_n dX2_applied_44 (by decide) (lv' := [some (2, ((327682 : Nat) : Int)), some (2, ((A : Nat) : Int)), some (2, ((f : Nat) : Int)), some (0, 0)]) rfl ?_
        have L3 : ∀ (n3 : Nat) (m3 : Int), ((0 ≤ m3 ∧ m3 ≤ 10)) → (10 - m3).toNat < n3 → WP kX2_applied X 45 [some (2, ((327682 : Nat) : Int)), some (2, ((A : Nat) : Int)), some (2, ((f : Nat) : Int)), some (0, m3)] [] G := by
          intro n3
          induction n3 with
          | zero => intro m3 hi3 hm3; exact absurd hm3 (Nat.not_lt_zero _)
          | succ n3 ih3 =>
            intro m3 hi3 hm3
            have im3 := hi3
            refine s_iload_n dX2_applied_45 rfl ?_
            refine s_bipush dX2_applied_46 rfl (by decide) ?_
            refine s_icmp_ge (tgt := 85) dX2_applied_48 (by decide) (fun c4 => ?_) (fun c4 => ?_)
            · -- 48 to 85
              refine s_iconst dX2_applied_85 (by decide) ?_
              refine s_istore_n dX2_applied_86 (by decide) (lv' := [some (2, ((327682 : Nat) : Int)), some (2, ((A : Nat) : Int)), some (2, ((f : Nat) : Int)), some (0, 0)]) rfl ?_
              have L5 : ∀ (n5 : Nat) (l5 : Int) (G5 : LG), CI a b G5 → KX G G5 → WX (fun x => x = f + 1 ∨ x = f + 4) G G5 → ((0 ≤ l5 ∧ l5 ≤ 6) ∧ (FPa P G5 f)) → (6 - l5).toNat < n5 → WP kX2_applied X 87 [some (2, ((327682 : Nat) : Int)), some (2, ((A : Nat) : Int)), some (2, ((f : Nat) : Int)), some (0, l5)] [] G5 := by
                intro n5
                induction n5 with
                | zero => intro l5 G5 hCG5 hXG5 hFG5 hi5 hm5; exact absurd hm5 (Nat.not_lt_zero _)
                | succ n5 ih5 =>
                  intro l5 G5 hCG5 hXG5 hFG5 hi5 hm5
                  obtain ⟨il5, hFfG5⟩ := hi5
                  refine s_iload_n dX2_applied_87 rfl ?_
                  refine s_bipush dX2_applied_88 rfl (by decide) ?_
                  refine s_icmp_ge (tgt := 115) dX2_applied_90 (by decide) (fun c6 => ?_) (fun c6 => ?_)
                  · -- 90 to 115
                    refine s_iconst dX2_applied_115 (by decide) ?_
                    exact s_iret hR dX2_applied_116 rfl (hQ 0 G5 hCG5 hXG5 hFG5 hFfG5)
                  · -- 90 to 93
                    refine s_aload_n dX2_applied_93 rfl (Int.natCast_nonneg _) ?_
                    have hk7 : gK G5 (327682) = (11, 0) := ((hXG5).k k327682 (by decide))
                    refine s_alv (327682) (by simp) (fun al8 => ?_)
                    have hv9 : gS G5 327682 5 = ((68097 : Nat) : Int) := by have h9 : (gS G5 327682 5) = 68097 := hCG5.1.v (j := 5) (by decide : cde 327682 = 502) al8 (by rw [hk7]; exact Nat.le_of_ble_eq_true rfl); omega
                    refine s_getf (ci := 3) (k := 5) (C := RX2) (T := TX2) (N := 8) (n := 327682) (L := 0) (t := 2) dX2_applied_94 rfl wi_70 m_581 (Nat.le_of_ble_eq_true rfl) rfl rfl hk7 hv9 ?_
                    refine s_iload_n dX2_applied_97 rfl ?_
                    have hk12 : gK G5 (68097) = (9, 0) := ((hXG5).k k68097 (by decide))
                    refine s_callV (as := [(0, l5)]) (rest := []) (n := 68097) (ci := 1) gX0_hasType dX2_applied_98 m_1317 m_738 m_1472 m_711 m_65 ⟨by decide, by decide, show (parseMethodDescriptor yX0_hasType.desc).map (fun d => d.parameters.length) = some 1 from by decide +kernel⟩ (Nat.le_of_ble_eq_true rfl) (by rw [hcf]; exact Nat.le_of_ble_eq_true rfl) hk12 rfl rfl (Nat.le_of_ble_eq_true rfl) ⟨68097, l5, a, b, rfl, hCG5, hab, (by first | assumption | omega), (by first | assumption | omega), fun rr10 hp11 => ?_⟩
                    show WP kX2_applied X 101 [some (2, ((327682 : Nat) : Int)), some (2, ((A : Nat) : Int)), some (2, ((f : Nat) : Int)), some (0, l5)] [(0, rr10)] G5
                    refine s_if_ne (tgt := 109) dX2_applied_101 (by decide) (fun c13 => ?_) (fun c13 => ?_)
                    · -- 101 to 109
                      refine s_iinc dX2_applied_109 (v := l5) rfl (by omega) (by decide) (lv' := [some (2, ((327682 : Nat) : Int)), some (2, ((A : Nat) : Int)), some (2, ((f : Nat) : Int)), some (0, l5 + 1)]) rfl ?_
                      refine s_goto (tgt := 87) dX2_applied_112 (by decide) ?_
                      exact ih5 (l5 + 1) G5 hCG5 hXG5 hFG5 (⟨(by omega), (by exact hFfG5)⟩) (by omega)
                    · -- 101 to 104
                      refine s_aload_n dX2_applied_104 rfl (Int.natCast_nonneg _) ?_
                      refine s_iload_n dX2_applied_105 rfl ?_
                      have hk16 : gK G5 (f) = (9, 0) := ((hXG5).k kf0 (by decide))
                      refine s_callV (as := [(0, l5)]) (rest := []) (n := f) (ci := 1) gX0_removeType dX2_applied_106 m_1331 m_751 m_1484 m_711 m_78 ⟨by decide, by decide, show (parseMethodDescriptor yX0_removeType.desc).map (fun d => d.parameters.length) = some 1 from by decide +kernel⟩ (Nat.le_of_ble_eq_true rfl) (by rw [hcf]; exact Nat.le_of_ble_eq_true rfl) hk16 rfl rfl (Nat.le_of_ble_eq_true rfl) ⟨f, l5, a, b, rfl, hCG5, hab, (by first | assumption | omega), (by first | assumption | omega), fun G14 hCG14 hXG14 hfG14 hpG14 => ?_⟩
                      have hFG14 : WX (fun x => x = f + 1 ∨ x = f + 4) G G14 := WX.trans hFG5 hXG5 (WX.mono hfG14 rg0)
                      have hFfG14 : FPa P G14 f := fun p2 hp2 => by by_cases e : p2 = (l5 : Int).toNat; (focus (subst e; exact FPo.size0 (S := fun _ => False) (hFfG5 _ hp2) hXG14 (congrFun (hfG14 (f + 3) (KX.al hXG5 (kne kf3 (by decide))) (by show ¬ _; omega)) _) hpG14.1)); exact (hFfG5 p2 hp2).wx hXG14 hfG14 (by show ¬ _; omega) (congrFun (hfG14 (f + 3) (KX.al hXG5 (kne kf3 (by decide))) (by show ¬ _; omega)) _) (hpG14.2 p2 e)
                      show WP kX2_applied X 109 [some (2, ((327682 : Nat) : Int)), some (2, ((A : Nat) : Int)), some (2, ((f : Nat) : Int)), some (0, l5)] [] G14
                      refine s_iinc dX2_applied_109 (v := l5) rfl (by omega) (by decide) (lv' := [some (2, ((327682 : Nat) : Int)), some (2, ((A : Nat) : Int)), some (2, ((f : Nat) : Int)), some (0, l5 + 1)]) rfl ?_
                      refine s_goto (tgt := 87) dX2_applied_112 (by decide) ?_
                      exact ih5 (l5 + 1) G14 hCG14 (KX.trans hXG5 hXG14) hFG14 (⟨(by omega), (by exact hFfG14)⟩) (by omega)
              exact L5 _ 0 G hC KX.rf WX.rf (⟨(by omega), (by exact hFf)⟩) (Nat.lt_succ_self _)
            · -- 48 to 51
              refine s_aload_n dX2_applied_51 rfl (Int.natCast_nonneg _) ?_
              have hv17 : gS G 327682 5 = ((68097 : Nat) : Int) := by have h9 : (gS G 327682 5) = 68097 := hC.1.v (j := 5) (by decide : cde 327682 = 502) (kne k327682 (by decide)) (by rw [k327682]; exact Nat.le_of_ble_eq_true rfl); omega
              refine s_getf (ci := 3) (k := 5) (C := RX2) (T := TX2) (N := 8) (n := 327682) (L := 0) (t := 2) dX2_applied_52 rfl wi_70 m_581 (Nat.le_of_ble_eq_true rfl) rfl rfl k327682 hv17 ?_
              refine s_iload_n dX2_applied_55 rfl ?_
              refine s_callV (as := [(0, m3)]) (rest := []) (n := 68097) (ci := 1) gX0_isValueHole dX2_applied_56 m_1322 m_743 m_1476 m_711 m_70 ⟨by decide, by decide, show (parseMethodDescriptor yX0_isValueHole.desc).map (fun d => d.parameters.length) = some 1 from by decide +kernel⟩ (Nat.le_of_ble_eq_true rfl) (by rw [hcf]; exact Nat.le_of_ble_eq_true rfl) k68097 rfl rfl (Nat.le_of_ble_eq_true rfl) ⟨68097, m3, a, b, rfl, hC, hab, (by first | assumption | omega), (by first | assumption | omega), fun rr18 hp19 => ?_⟩
              show WP kX2_applied X 59 [some (2, ((327682 : Nat) : Int)), some (2, ((A : Nat) : Int)), some (2, ((f : Nat) : Int)), some (0, m3)] [(0, rr18)] G
              refine s_if_eq (tgt := 79) dX2_applied_59 (by decide) (fun c20 => ?_) (fun c20 => ?_)
              · -- 59 to 79
                refine s_iinc dX2_applied_79 (v := m3) rfl (by omega) (by decide) (lv' := [some (2, ((327682 : Nat) : Int)), some (2, ((A : Nat) : Int)), some (2, ((f : Nat) : Int)), some (0, m3 + 1)]) rfl ?_
                refine s_goto (tgt := 45) dX2_applied_82 (by decide) ?_
                exact ih3 (m3 + 1) ((by omega)) (by omega)
              · -- 59 to 62
                refine s_aload_n dX2_applied_62 rfl (Int.natCast_nonneg _) ?_
                have hv21 : gS G A 2 = ((A + 2 : Nat) : Int) := by have h9 : (gS G A 2) = (((A % 1048576) + 2 : Nat) : Int) := hC.1.v (j := 2) (by rw [cde_n (by omega) (by omega)]; omega : cde A = 101) (kne kA0 (by decide)) (by rw [kA0]; exact Nat.le_of_ble_eq_true rfl); omega
                refine s_getf (ci := 1) (k := 2) (C := RX0) (T := TX0) (N := 7) (n := A) (L := 0) (t := 2) dX2_applied_63 rfl wi_65 m_576 (Nat.le_of_ble_eq_true rfl) rfl rfl kA0 hv21 ?_
                refine s_iload_n dX2_applied_66 rfl ?_
                refine s_iald dX2_applied_67 kA2 (by omega) (by omega) rfl ?_
                refine s_iconst dX2_applied_68 (by decide) ?_
                refine s_iand dX2_applied_69 ?_
                refine s_if_ne (tgt := 79) dX2_applied_70 (by decide) (fun c22 => ?_) (fun c22 => ?_)
                · -- 70 to 79
                  refine s_iinc dX2_applied_79 (v := m3) rfl (by omega) (by decide) (lv' := [some (2, ((327682 : Nat) : Int)), some (2, ((A : Nat) : Int)), some (2, ((f : Nat) : Int)), some (0, m3 + 1)]) rfl ?_
                  refine s_goto (tgt := 45) dX2_applied_82 (by decide) ?_
                  exact ih3 (m3 + 1) ((by omega)) (by omega)
                · -- 70 to 73
                  refine s_iconst dX2_applied_73 (by decide) ?_
                  refine s_iload_n dX2_applied_74 rfl ?_
                  refine s_callSN (own := RX2) rfl (by decide +kernel) (as := [(0, 5), (0, m3)]) (rest := []) gX11_valueMistake dX2_applied_75 m_1784 m_714 m_129 ⟨by decide, by decide, show (parseMethodDescriptor yX11_valueMistake.desc).map (fun d => d.parameters.length) = some 2 from by decide +kernel⟩ (Nat.le_of_ble_eq_true rfl) (by rw [hcf]; exact Nat.le_of_ble_eq_true rfl) rfl (Nat.le_of_ble_eq_true rfl) ⟨5, m3, rfl, (by first | assumption | omega), (by first | assumption | omega), fun rr23 hp24 => ?_⟩
                  show WP kX2_applied X 78 [some (2, ((327682 : Nat) : Int)), some (2, ((A : Nat) : Int)), some (2, ((f : Nat) : Int)), some (0, m3)] [(0, rr23)] G
                  exact s_iret hR dX2_applied_78 rfl (hQ rr23 G hC KX.rf WX.rf hFf)
        exact L3 _ 0 ((by omega)) (Nat.lt_succ_self _)
      · -- 5 to 8
        refine s_aload_n dX2_applied_8 rfl (Int.natCast_nonneg _) ?_
        have hv25 : gS G 327682 5 = ((68097 : Nat) : Int) := by have h9 : (gS G 327682 5) = 68097 := hC.1.v (j := 5) (by decide : cde 327682 = 502) (kne k327682 (by decide)) (by rw [k327682]; exact Nat.le_of_ble_eq_true rfl); omega
        refine s_getf (ci := 3) (k := 5) (C := RX2) (T := TX2) (N := 8) (n := 327682) (L := 0) (t := 2) dX2_applied_9 rfl wi_70 m_581 (Nat.le_of_ble_eq_true rfl) rfl rfl k327682 hv25 ?_
        have hv26 : gS G 68097 1 = ((68098 : Nat) : Int) := by have h9 : (gS G 68097 1) = (((68097 % 1048576) + 1 : Nat) : Int) := hC.1.v (j := 1) (by decide : cde 68097 = 101) (kne k68097 (by decide)) (by rw [k68097]; exact Nat.le_of_ble_eq_true rfl); omega
        refine s_getf (ci := 1) (k := 1) (C := RX0) (T := TX0) (N := 7) (n := 68097) (L := 0) (t := 2) dX2_applied_12 rfl wi_65 m_573 (Nat.le_of_ble_eq_true rfl) rfl rfl k68097 hv26 ?_
        refine s_iload_n dX2_applied_15 rfl ?_
        refine s_alv (68098) (by simp) (fun al27 => ?_)
        have hk28 : gK G (68098) = (1, 6) := hC.1.k (by decide : cde 68098 = 102) al27
        refine s_iald dX2_applied_16 hk28 (by omega) (by omega) rfl ?_
        refine s_iconst dX2_applied_17 (by decide) ?_
        refine s_icmp_ne (tgt := 37) dX2_applied_18 (by decide) (fun c29 => ?_) (fun c29 => ?_)
        · -- 18 to 37
          refine s_iinc dX2_applied_37 (v := n1) rfl (by omega) (by decide) (lv' := [some (2, ((327682 : Nat) : Int)), some (2, ((A : Nat) : Int)), some (2, ((f : Nat) : Int)), some (0, n1 + 1)]) rfl ?_
          refine s_goto (tgt := 2) dX2_applied_40 (by decide) ?_
          exact ih1 (n1 + 1) ((by omega)) (by omega)
        · -- 18 to 21
          refine s_aload_n dX2_applied_21 rfl (Int.natCast_nonneg _) ?_
          have hv30 : gS G A 1 = ((A + 1 : Nat) : Int) := by have h9 : (gS G A 1) = (((A % 1048576) + 1 : Nat) : Int) := hC.1.v (j := 1) (by rw [cde_n (by omega) (by omega)]; omega : cde A = 101) (kne kA0 (by decide)) (by rw [kA0]; exact Nat.le_of_ble_eq_true rfl); omega
          refine s_getf (ci := 1) (k := 1) (C := RX0) (T := TX0) (N := 7) (n := A) (L := 0) (t := 2) dX2_applied_22 rfl wi_65 m_573 (Nat.le_of_ble_eq_true rfl) rfl rfl kA0 hv30 ?_
          refine s_iload_n dX2_applied_25 rfl ?_
          refine s_iald dX2_applied_26 kA1 (by omega) (by omega) rfl ?_
          refine s_iconst dX2_applied_27 (by decide) ?_
          refine s_icmp_eq (tgt := 37) dX2_applied_28 (by decide) (fun c31 => ?_) (fun c31 => ?_)
          · -- 28 to 37
            refine s_iinc dX2_applied_37 (v := n1) rfl (by omega) (by decide) (lv' := [some (2, ((327682 : Nat) : Int)), some (2, ((A : Nat) : Int)), some (2, ((f : Nat) : Int)), some (0, n1 + 1)]) rfl ?_
            refine s_goto (tgt := 2) dX2_applied_40 (by decide) ?_
            exact ih1 (n1 + 1) ((by omega)) (by omega)
          · -- 28 to 31
            refine s_iconst dX2_applied_31 (by decide) ?_
            refine s_iload_n dX2_applied_32 rfl ?_
            refine s_callSN (own := RX2) rfl (by decide +kernel) (as := [(0, 5), (0, n1)]) (rest := []) gX11_typeMistake dX2_applied_33 m_1783 m_714 m_125 ⟨by decide, by decide, show (parseMethodDescriptor yX11_typeMistake.desc).map (fun d => d.parameters.length) = some 2 from by decide +kernel⟩ (Nat.le_of_ble_eq_true rfl) (by rw [hcf]; exact Nat.le_of_ble_eq_true rfl) rfl (Nat.le_of_ble_eq_true rfl) ⟨5, n1, rfl, (by first | assumption | omega), (by first | assumption | omega), fun rr32 hp33 => ?_⟩
            show WP kX2_applied X 36 [some (2, ((327682 : Nat) : Int)), some (2, ((A : Nat) : Int)), some (2, ((f : Nat) : Int)), some (0, n1)] [(0, rr32)] G
            exact s_iret hR dX2_applied_36 rfl (hQ rr32 G hC KX.rf WX.rf hFf)
  exact L1 _ 0 ((by omega)) (Nat.lt_succ_self _)

abbrev kX2_hiddenNameAt : KD := (RX2, cX2_hiddenNameAt, 6, (some .int), [])
def TX2_hiddenNameAt : TR := fun as G Qr => ∃ (q N : Nat) (x e : Int) (A : Nat) (h : Int) (a b : Nat), as = [(2, ((q : Nat) : Int)), (0, x), (0, e), (2, ((A : Nat) : Int)), (0, h)] ∧ CI a b G ∧ (a ≤ 2840000 ∧ b ≤ 590000) ∧ (gK G q = (1, N)) ∧ (N ≤ 100000) ∧ (0 ≤ x ∧ x ≤ 100000) ∧ (0 ≤ e) ∧ (isFc A) ∧ ∀ (r : Int), (r = -1 ∨ ((0 ≤ r ∧ r < 6) ∧ ¬ i_and (i_shr h r) 1 = 0)) → Qr (.inl (some (0, r))) G
set_option maxHeartbeats 4000000 in
set_option maxRecDepth 100000 in
theorem gX2_hiddenNameAt : Good kX2_hiddenNameAt yX2_hiddenNameAt 1 TX2_hiddenNameAt := by
  refine good_of (by decide) rfl rfl (fun as G Qr h => ?_) (fun X as G Qr hcf hR hT oa => ?_)
  · obtain ⟨q, N, x, e, A, h, a, b, rfl, -⟩ := h; exact Nat.le_of_ble_eq_true rfl
  obtain ⟨q, N, x, e, A, h, a, b, rfl, hC, hab, hkq, hN, hx, he, hA, hQ⟩ := hT
  show WP kX2_hiddenNameAt X 0 [some (2, ((q : Nat) : Int)), some (0, x), some (0, e), some (2, ((A : Nat) : Int)), some (0, h), none] [] G
  have hr_x : inR x := okv_R (oa _ (by simp))
  have hr_e : inR e := okv_R (oa _ (by simp))
  have hr_h : inR h := okv_R (oa _ (by simp))
  refine s_iconst dX2_hiddenNameAt_0 (by decide) ?_
  refine s_istore dX2_hiddenNameAt_1 (by decide) (lv' := [some (2, ((q : Nat) : Int)), some (0, x), some (0, e), some (2, ((A : Nat) : Int)), some (0, h), some (0, 0)]) rfl ?_
  have L1 : ∀ (fu1 : Nat) (n1 : Int), ((0 ≤ n1 ∧ n1 ≤ 6)) → (6 - n1).toNat < fu1 → WP kX2_hiddenNameAt X 3 [some (2, ((q : Nat) : Int)), some (0, x), some (0, e), some (2, ((A : Nat) : Int)), some (0, h), some (0, n1)] [] G := by
    intro fu1
    induction fu1 with
    | zero => intro n1 hi1 hm1; exact absurd hm1 (Nat.not_lt_zero _)
    | succ fu1 ih1 =>
      intro n1 hi1 hm1
      have in_1 := hi1
      refine s_iload dX2_hiddenNameAt_3 rfl ?_
      refine s_bipush dX2_hiddenNameAt_5 rfl (by decide) ?_
      refine s_icmp_ge (tgt := 52) dX2_hiddenNameAt_7 (by decide) (fun c2 => ?_) (fun c2 => ?_)
      · -- 7 to 52
        refine s_iconst dX2_hiddenNameAt_52 (by decide) ?_
        exact s_iret hR dX2_hiddenNameAt_53 rfl (hQ ((-1)) (by omega))
      · -- 7 to 10
        refine s_iload dX2_hiddenNameAt_10 rfl ?_
        refine s_iload dX2_hiddenNameAt_12 rfl ?_
        refine s_callSN (own := RX2) rfl (by decide +kernel) (as := [(0, h), (0, n1)]) (rest := []) gX11_isIn dX2_hiddenNameAt_14 m_1777 m_714 m_97 ⟨by decide, by decide, show (parseMethodDescriptor yX11_isIn.desc).map (fun d => d.parameters.length) = some 2 from by decide +kernel⟩ (Nat.le_of_ble_eq_true rfl) (by rw [hcf]; exact Nat.le_of_ble_eq_true rfl) rfl (Nat.le_of_ble_eq_true rfl) ⟨h, n1, rfl, fun rr3 hp4 => ?_⟩
        show WP kX2_hiddenNameAt X 17 [some (2, ((q : Nat) : Int)), some (0, x), some (0, e), some (2, ((A : Nat) : Int)), some (0, h), some (0, n1)] [(0, rr3)] G
        refine s_if_eq (tgt := 46) dX2_hiddenNameAt_17 (by decide) (fun c5 => ?_) (fun c5 => ?_)
        · -- 17 to 46
          refine s_iinc dX2_hiddenNameAt_46 (v := n1) rfl (by omega) (by decide) (lv' := [some (2, ((q : Nat) : Int)), some (0, x), some (0, e), some (2, ((A : Nat) : Int)), some (0, h), some (0, n1 + 1)]) rfl ?_
          refine s_goto (tgt := 3) dX2_hiddenNameAt_49 (by decide) ?_
          exact ih1 (n1 + 1) ((by omega)) (by omega)
        · -- 17 to 20
          refine s_aload_n dX2_hiddenNameAt_20 rfl (Int.natCast_nonneg _) ?_
          refine s_iload_n dX2_hiddenNameAt_21 rfl ?_
          refine s_iload_n dX2_hiddenNameAt_22 rfl ?_
          refine s_aload_n dX2_hiddenNameAt_23 rfl (Int.natCast_nonneg _) ?_
          refine s_alv (A) (by simp) (fun al6 => ?_)
          have hk7 : gK G (A) = (9, 0) := hC.1.k (by rw [cde_n (by omega) (by omega)]; omega : cde A = 101) al6
          have hv8 : gS G A 3 = ((A + 3 : Nat) : Int) := by have h9 : (gS G A 3) = (((A % 1048576) + 3 : Nat) : Int) := hC.1.v (j := 3) (by rw [cde_n (by omega) (by omega)]; omega : cde A = 101) al6 (by rw [hk7]; exact Nat.le_of_ble_eq_true rfl); omega
          refine s_getf (ci := 1) (k := 3) (C := RX0) (T := TX0) (N := 7) (n := A) (L := 0) (t := 2) dX2_hiddenNameAt_24 rfl wi_65 m_574 (Nat.le_of_ble_eq_true rfl) rfl rfl hk7 hv8 ?_
          refine s_iload dX2_hiddenNameAt_27 rfl ?_
          refine s_alv (A + 3) (by simp) (fun al9 => ?_)
          have hk10 : gK G (A + 3) = (4, 16) := hC.1.k (by rw [cde_n (by omega) (by omega)]; omega : cde (A + 3) = 104) al9
          have hv12b : 0 ≤ (gS G (A + 3) (n1 : Int).toNat) ∧ (gS G (A + 3) (n1 : Int).toNat) % 1048576 = ((((A + 3) % 1048576) + 4 + ((n1 : Int).toNat) : Nat) : Int) := hC.1.v (j := (n1 : Int).toNat) (by rw [cde_n (by omega) (by omega)]; omega : cde (A + 3) = 104) al9 (by rw [hk10]; show (n1 : Int).toNat < 16; omega)
          obtain ⟨q11, hv12⟩ : ∃ q : Nat, gS G (A + 3) (n1 : Int).toNat = (q : Int) := ⟨(gS G (A + 3) (n1 : Int).toNat).toNat, by omega⟩
          rw [hv12] at hv12b
          refine s_aald4 dX2_hiddenNameAt_29 hk10 (by omega) (by omega) hv12 ?_
          refine s_aload_n dX2_hiddenNameAt_30 rfl (Int.natCast_nonneg _) ?_
          have hv13 : gS G A 4 = ((A + 4 : Nat) : Int) := by have h9 : (gS G A 4) = (((A % 1048576) + 4 : Nat) : Int) := hC.1.v (j := 4) (by rw [cde_n (by omega) (by omega)]; omega : cde A = 101) al6 (by rw [hk7]; exact Nat.le_of_ble_eq_true rfl); omega
          refine s_getf (ci := 1) (k := 4) (C := RX0) (T := TX0) (N := 7) (n := A) (L := 0) (t := 2) dX2_hiddenNameAt_31 rfl wi_65 m_575 (Nat.le_of_ble_eq_true rfl) rfl rfl hk7 hv13 ?_
          refine s_iload dX2_hiddenNameAt_34 rfl ?_
          refine s_alv (A + 4) (by simp) (fun al14 => ?_)
          have hk15 : gK G (A + 4) = (1, 16) := hC.1.k (by rw [cde_n (by omega) (by omega)]; omega : cde (A + 4) = 105) al14
          have hv16 : 0 ≤ (gS G (A + 4) (n1 : Int).toNat) ∧ (gS G (A + 4) (n1 : Int).toNat) ≤ 200 := hC.1.v (j := (n1 : Int).toNat) (by rw [cde_n (by omega) (by omega)]; omega : cde (A + 4) = 105) al14 (by rw [hk15]; show (n1 : Int).toNat < 16; omega)
          refine s_iald dX2_hiddenNameAt_36 hk15 (by omega) (by omega) rfl ?_
          refine s_alv (q11) (by simp) (fun al17 => ?_)
          obtain ⟨L19, hk18, hL19a, hL19b⟩ := hC.1.kr (show 108 ≤ cde q11 ∧ cde q11 < 124 from by rw [cde_n (by omega) (by omega)]; omega) al17
          refine s_callSN (own := RX2) rfl (by decide +kernel) (as := [(2, ((q : Nat) : Int)), (0, x), (0, e), (2, ((q11 : Nat) : Int)), (0, gS G (A + 4) ((n1 : Int).toNat))]) (rest := []) gX11_startsWith dX2_hiddenNameAt_37 m_1782 m_714 m_122 ⟨by decide, by decide, show (parseMethodDescriptor yX11_startsWith.desc).map (fun d => d.parameters.length) = some 5 from by decide +kernel⟩ (Nat.le_of_ble_eq_true rfl) (by rw [hcf]; exact Nat.le_of_ble_eq_true rfl) rfl (Nat.le_of_ble_eq_true rfl) ⟨q, N, x, e, q11, L19, gS G (A + 4) ((n1 : Int).toNat), rfl, hkq, (by first | assumption | omega), hk18, (by first | assumption | omega), (by first | assumption | omega), fun rr20 hp21 => ?_⟩
          show WP kX2_hiddenNameAt X 40 [some (2, ((q : Nat) : Int)), some (0, x), some (0, e), some (2, ((A : Nat) : Int)), some (0, h), some (0, n1)] [(0, rr20)] G
          refine s_if_eq (tgt := 46) dX2_hiddenNameAt_40 (by decide) (fun c22 => ?_) (fun c22 => ?_)
          · -- 40 to 46
            refine s_iinc dX2_hiddenNameAt_46 (v := n1) rfl (by omega) (by decide) (lv' := [some (2, ((q : Nat) : Int)), some (0, x), some (0, e), some (2, ((A : Nat) : Int)), some (0, h), some (0, n1 + 1)]) rfl ?_
            refine s_goto (tgt := 3) dX2_hiddenNameAt_49 (by decide) ?_
            exact ih1 (n1 + 1) ((by omega)) (by omega)
          · -- 40 to 43
            refine s_iload dX2_hiddenNameAt_43 rfl ?_
            exact s_iret hR dX2_hiddenNameAt_45 rfl (hQ n1 (by omega))
  exact L1 _ 0 ((by omega)) (Nat.lt_succ_self _)

abbrev kX2_hideTypes : KD := (RX2, cX2_hideTypes, 9, (some .int), [])
def TX2_hideTypes : TR := fun as G Qr => ∃ (A : Nat) (p h : Int) (f q : Nat) (a b : Nat), as = [(2, ((A : Nat) : Int)), (0, p), (0, h), (2, ((f : Nat) : Int)), (2, ((q : Nat) : Int))] ∧ CI a b G ∧ (a ≤ 2840000 ∧ b ≤ 590000) ∧ (0 ≤ p ∧ p < 16) ∧ (gK G q = (1, 200)) ∧ (FRW q) ∧ (327680 ≤ q ∧ q < 1048576) ∧ (isFc A) ∧ (isFc f) ∧ (∀ k : Nat, k < 6 → ¬ i_and (i_shr h k) 1 = 0 → 1 ≤ gS G (f + 4) k) ∧ ∀ (r : Int) (G' : LG), CI a b G' → KX G G' → WX (fun x => x = q) G G' → ((0 ≤ r ∧ r ≤ 200) ∧ ∀ P : Int → Prop, FPa P G A → FPa P G f → RPs P G' q r) → Qr (.inl (some (0, r))) G'
set_option maxHeartbeats 4000000 in
set_option maxRecDepth 100000 in
theorem gX2_hideTypes : Good kX2_hideTypes yX2_hideTypes 2 TX2_hideTypes := by
  refine good_of (by decide) rfl rfl (fun as G Qr h => ?_) (fun X as G Qr hcf hR hT oa => ?_)
  · obtain ⟨A, p, h, f, q, a, b, rfl, -⟩ := h; exact Nat.le_of_ble_eq_true rfl
  obtain ⟨A, p, h, f, q, a, b, rfl, hC, hab, hp, hkq, hfq, hq9, hA, hf, hhid, hQ⟩ := hT
  show WP kX2_hideTypes X 0 [some (2, ((A : Nat) : Int)), some (0, p), some (0, h), some (2, ((f : Nat) : Int)), some (2, ((q : Nat) : Int)), none, none, none, none] [] G
  have hr_p : inR p := okv_R (oa _ (by simp))
  have hr_h : inR h := okv_R (oa _ (by simp))
  refine s_alvl A (k := 0) rfl (fun alA => ?_)
  refine s_alvl f (k := 3) rfl (fun alf => ?_)
  refine s_lk (fun hlk => ?_)
  have hfA := hlk.fc hC hA alA
  obtain ⟨kA0, kA1, kA2, kA3, kA4, kA5, kA6⟩ := hfA.1
  have hff := hlk.fc hC hf alf
  obtain ⟨kf0, kf1, kf2, kf3, kf4, kf5, kf6⟩ := hff.1
  refine s_aload_n dX2_hideTypes_0 rfl (Int.natCast_nonneg _) ?_
  have hv1 : gS G A 3 = ((A + 3 : Nat) : Int) := by have h9 : (gS G A 3) = (((A % 1048576) + 3 : Nat) : Int) := hC.1.v (j := 3) (by rw [cde_n (by omega) (by omega)]; omega : cde A = 101) (kne kA0 (by decide)) (by rw [kA0]; exact Nat.le_of_ble_eq_true rfl); omega
  refine s_getf (ci := 1) (k := 3) (C := RX0) (T := TX0) (N := 7) (n := A) (L := 0) (t := 2) dX2_hideTypes_1 rfl wi_65 m_574 (Nat.le_of_ble_eq_true rfl) rfl rfl kA0 hv1 ?_
  refine s_iload_n dX2_hideTypes_4 rfl ?_
  have hv3b : 0 ≤ (gS G (A + 3) (p : Int).toNat) ∧ (gS G (A + 3) (p : Int).toNat) % 1048576 = ((((A + 3) % 1048576) + 4 + ((p : Int).toNat) : Nat) : Int) := hC.1.v (j := (p : Int).toNat) (by rw [cde_n (by omega) (by omega)]; omega : cde (A + 3) = 104) (kne kA3 (by decide)) (by rw [kA3]; show (p : Int).toNat < 16; omega)
  obtain ⟨q2, hv3⟩ : ∃ q : Nat, gS G (A + 3) (p : Int).toNat = (q : Int) := ⟨(gS G (A + 3) (p : Int).toNat).toNat, by omega⟩
  rw [hv3] at hv3b
  refine s_aald4 dX2_hideTypes_5 kA3 (by omega) (by omega) hv3 ?_
  refine s_astore (Int.natCast_nonneg _) dX2_hideTypes_6 (by decide) (lv' := [some (2, ((A : Nat) : Int)), some (0, p), some (0, h), some (2, ((f : Nat) : Int)), some (2, ((q : Nat) : Int)), some (2, ((q2 : Nat) : Int)), none, none, none]) rfl ?_
  refine s_iconst dX2_hideTypes_8 (by decide) ?_
  refine s_istore dX2_hideTypes_9 (by decide) (lv' := [some (2, ((A : Nat) : Int)), some (0, p), some (0, h), some (2, ((f : Nat) : Int)), some (2, ((q : Nat) : Int)), some (2, ((q2 : Nat) : Int)), some (0, 0), none, none]) rfl ?_
  refine s_iconst dX2_hideTypes_11 (by decide) ?_
  refine s_istore dX2_hideTypes_12 (by decide) (lv' := [some (2, ((A : Nat) : Int)), some (0, p), some (0, h), some (2, ((f : Nat) : Int)), some (2, ((q : Nat) : Int)), some (2, ((q2 : Nat) : Int)), some (0, 0), some (0, 0), none]) rfl ?_
  have L4 : ∀ (n4 : Nat) (c4 : Int) (i4 : Int) (G4 : LG), CI a b G4 → KX G G4 → WX (fun x => x = q) G G4 → (((0 ≤ i4 ∧ i4 ≤ 400) ∧ (0 ≤ c4 ∧ c4 ≤ 200)) ∧ (∀ P : Int → Prop, FPa P G A → FPa P G f → RPs P G4 q c4)) → (400 - i4).toNat < n4 → WP kX2_hideTypes X 14 [some (2, ((A : Nat) : Int)), some (0, p), some (0, h), some (2, ((f : Nat) : Int)), some (2, ((q : Nat) : Int)), some (2, ((q2 : Nat) : Int)), some (0, c4), some (0, i4), none] [] G4 := by
    intro n4
    induction n4 with
    | zero => intro c4 i4 G4 hCG4 hXG4 hFG4 hi4 hm4; exact absurd hm4 (Nat.not_lt_zero _)
    | succ n4 ih4 =>
      intro c4 i4 G4 hCG4 hXG4 hFG4 hi4 hm4
      obtain ⟨ii4, ip4⟩ := hi4
      have hszA4 : gS G4 (A + 4) p.toNat = gS G (A + 4) p.toNat := congrFun (hFG4 (A + 4) (kne kA4 (by decide)) (by show ¬ _; omega)) _
      refine s_iload dX2_hideTypes_14 rfl ?_
      refine s_aload_n dX2_hideTypes_16 rfl (Int.natCast_nonneg _) ?_
      have hk5 : gK G4 (A) = (9, 0) := ((hXG4).k kA0 (by decide))
      refine s_alv (A) (by simp) (fun al6 => ?_)
      have hv7 : gS G4 A 4 = ((A + 4 : Nat) : Int) := by have h9 : (gS G4 A 4) = (((A % 1048576) + 4 : Nat) : Int) := hCG4.1.v (j := 4) (by rw [cde_n (by omega) (by omega)]; omega : cde A = 101) al6 (by rw [hk5]; exact Nat.le_of_ble_eq_true rfl); omega
      refine s_getf (ci := 1) (k := 4) (C := RX0) (T := TX0) (N := 7) (n := A) (L := 0) (t := 2) dX2_hideTypes_17 rfl wi_65 m_575 (Nat.le_of_ble_eq_true rfl) rfl rfl hk5 hv7 ?_
      refine s_iload_n dX2_hideTypes_20 rfl ?_
      have hk8 : gK G4 (A + 4) = (1, 16) := ((hXG4).k kA4 (by decide))
      refine s_alv (A + 4) (by simp) (fun al9 => ?_)
      have hv10 : 0 ≤ (gS G4 (A + 4) (p : Int).toNat) ∧ (gS G4 (A + 4) (p : Int).toNat) ≤ 200 := hCG4.1.v (j := (p : Int).toNat) (by rw [cde_n (by omega) (by omega)]; omega : cde (A + 4) = 105) al9 (by rw [hk8]; show (p : Int).toNat < 16; omega)
      refine s_iald dX2_hideTypes_21 hk8 (by omega) (by omega) rfl ?_
      refine s_icmp_ge (tgt := 116) dX2_hideTypes_22 (by decide) (fun c11 => ?_) (fun c11 => ?_)
      · -- 22 to 116
        refine s_iload dX2_hideTypes_116 rfl ?_
        exact s_iret hR dX2_hideTypes_118 rfl (hQ c4 G4 hCG4 hXG4 hFG4 ⟨by omega, ip4⟩)
      · -- 22 to 25
        refine s_iload dX2_hideTypes_25 rfl ?_
        refine s_aload dX2_hideTypes_27 rfl (Int.natCast_nonneg _) ?_
        refine s_alv (q2) (by simp) (fun al12 => ?_)
        obtain ⟨L14, hk13, hL14a, hL14b⟩ := hCG4.1.kr (show 108 ≤ cde q2 ∧ cde q2 < 124 from by rw [cde_n (by omega) (by omega)]; omega) al12
        refine s_alen dX2_hideTypes_29 hk13 (by decide) (by omega) ?_
        refine s_icmp_ge (tgt := 116) dX2_hideTypes_30 (by decide) (fun c15 => ?_) (fun c15 => ?_)
        · -- 30 to 116
          refine s_iload dX2_hideTypes_116 rfl ?_
          exact s_iret hR dX2_hideTypes_118 rfl (hQ c4 G4 hCG4 hXG4 hFG4 ⟨by omega, ip4⟩)
        · -- 30 to 33
          refine s_iload dX2_hideTypes_33 rfl ?_
          refine s_aload dX2_hideTypes_35 rfl (Int.natCast_nonneg _) ?_
          have hk16 : gK G4 (q) = (1, 200) := ((hXG4).k hkq (by decide))
          refine s_alen dX2_hideTypes_37 hk16 (by decide) (by omega) ?_
          refine s_icmp_ge (tgt := 116) dX2_hideTypes_38 (by decide) (fun c17 => ?_) (fun c17 => ?_)
          · -- 38 to 116
            refine s_iload dX2_hideTypes_116 rfl ?_
            exact s_iret hR dX2_hideTypes_118 rfl (hQ c4 G4 hCG4 hXG4 hFG4 ⟨by omega, ip4⟩)
          · -- 38 to 41
            refine s_aload dX2_hideTypes_41 rfl (Int.natCast_nonneg _) ?_
            refine s_iload dX2_hideTypes_43 rfl ?_
            refine s_aload_n dX2_hideTypes_45 rfl (Int.natCast_nonneg _) ?_
            have hv18 : gS G4 A 4 = ((A + 4 : Nat) : Int) := by have h9 : (gS G4 A 4) = (((A % 1048576) + 4 : Nat) : Int) := hCG4.1.v (j := 4) (by rw [cde_n (by omega) (by omega)]; omega : cde A = 101) al6 (by rw [hk5]; exact Nat.le_of_ble_eq_true rfl); omega
            refine s_getf (ci := 1) (k := 4) (C := RX0) (T := TX0) (N := 7) (n := A) (L := 0) (t := 2) dX2_hideTypes_46 rfl wi_65 m_575 (Nat.le_of_ble_eq_true rfl) rfl rfl hk5 hv18 ?_
            refine s_iload_n dX2_hideTypes_49 rfl ?_
            have hv19 : 0 ≤ (gS G4 (A + 4) (p : Int).toNat) ∧ (gS G4 (A + 4) (p : Int).toNat) ≤ 200 := hCG4.1.v (j := (p : Int).toNat) (by rw [cde_n (by omega) (by omega)]; omega : cde (A + 4) = 105) al9 (by rw [hk8]; show (p : Int).toNat < 16; omega)
            refine s_iald dX2_hideTypes_50 hk8 (by omega) (by omega) rfl ?_
            refine s_aload_n dX2_hideTypes_51 rfl (Int.natCast_nonneg _) ?_
            refine s_iload_n dX2_hideTypes_52 rfl ?_
            refine s_callS2 (as := [(2, ((q2 : Nat) : Int)), (0, i4), (0, gS G4 (A + 4) ((p : Int).toNat)), (2, ((A : Nat) : Int)), (0, h)]) (rest := []) gX2_hiddenNameAt dX2_hideTypes_53 m_1338 m_1795 m_716 m_272 ⟨by decide, by decide, show (parseMethodDescriptor yX2_hiddenNameAt.desc).map (fun d => d.parameters.length) = some 5 from by decide +kernel⟩ (Nat.le_of_ble_eq_true rfl) (by rw [hcf]; exact Nat.le_of_ble_eq_true rfl) rfl (Nat.le_of_ble_eq_true rfl) ⟨q2, L14, i4, gS G4 (A + 4) ((p : Int).toNat), A, h, a, b, rfl, hCG4, hab, hk13, (by first | assumption | omega), (by first | assumption | omega), (by first | assumption | omega), (by first | assumption | omega), fun rr20 hp21 => ?_⟩
            show WP kX2_hideTypes X 56 [some (2, ((A : Nat) : Int)), some (0, p), some (0, h), some (2, ((f : Nat) : Int)), some (2, ((q : Nat) : Int)), some (2, ((q2 : Nat) : Int)), some (0, c4), some (0, i4), none] [(0, rr20)] G4
            refine s_istore dX2_hideTypes_56 (by decide) (lv' := [some (2, ((A : Nat) : Int)), some (0, p), some (0, h), some (2, ((f : Nat) : Int)), some (2, ((q : Nat) : Int)), some (2, ((q2 : Nat) : Int)), some (0, c4), some (0, i4), some (0, rr20)]) rfl ?_
            refine s_aload dX2_hideTypes_58 rfl (Int.natCast_nonneg _) ?_
            refine s_iload dX2_hideTypes_60 rfl ?_
            refine s_iload dX2_hideTypes_62 rfl ?_
            refine s_if_ge (tgt := 75) dX2_hideTypes_64 (by decide) (fun c22 => ?_) (fun c22 => ?_)
            · -- 64 to 75
              refine s_aload_n dX2_hideTypes_75 rfl (Int.natCast_nonneg _) ?_
              have hk23 : gK G4 (f) = (9, 0) := ((hXG4).k kf0 (by decide))
              refine s_alv (f) (by simp) (fun al24 => ?_)
              have hv25 : gS G4 f 3 = ((f + 3 : Nat) : Int) := by have h9 : (gS G4 f 3) = (((f % 1048576) + 3 : Nat) : Int) := hCG4.1.v (j := 3) (by rw [cde_n (by omega) (by omega)]; omega : cde f = 101) al24 (by rw [hk23]; exact Nat.le_of_ble_eq_true rfl); omega
              refine s_getf (ci := 1) (k := 3) (C := RX0) (T := TX0) (N := 7) (n := f) (L := 0) (t := 2) dX2_hideTypes_76 rfl wi_65 m_574 (Nat.le_of_ble_eq_true rfl) rfl rfl hk23 hv25 ?_
              refine s_iload dX2_hideTypes_79 rfl ?_
              have hk26 : gK G4 (f + 3) = (4, 16) := ((hXG4).k kf3 (by decide))
              refine s_alv (f + 3) (by simp) (fun al27 => ?_)
              have hv29b : 0 ≤ (gS G4 (f + 3) (rr20 : Int).toNat) ∧ (gS G4 (f + 3) (rr20 : Int).toNat) % 1048576 = ((((f + 3) % 1048576) + 4 + ((rr20 : Int).toNat) : Nat) : Int) := hCG4.1.v (j := (rr20 : Int).toNat) (by rw [cde_n (by omega) (by omega)]; omega : cde (f + 3) = 104) al27 (by rw [hk26]; show (rr20 : Int).toNat < 16; omega)
              obtain ⟨q28, hv29⟩ : ∃ q : Nat, gS G4 (f + 3) (rr20 : Int).toNat = (q : Int) := ⟨(gS G4 (f + 3) (rr20 : Int).toNat).toNat, by omega⟩
              rw [hv29] at hv29b
              refine s_aald4 dX2_hideTypes_81 hk26 (by omega) (by omega) hv29 ?_
              refine s_iconst dX2_hideTypes_82 (by decide) ?_
              refine s_alv (q28) (by simp) (fun al30 => ?_)
              obtain ⟨L32, hk31, hL32a, hL32b⟩ := hCG4.1.kr (show 108 ≤ cde q28 ∧ cde q28 < 124 from by rw [cde_n (by omega) (by omega)]; omega) al30
              refine s_iald dX2_hideTypes_83 hk31 (by omega) (by omega) rfl ?_
              refine s_iast dX2_hideTypes_84 hk16 (by omega) (by omega) ?_
              generalize eG33r : gset G4 q ((c4 : Int).toNat) (gS G4 q28 ((0 : Int).toNat)) = G33
              have eG33 := eG33r.symm
              have hCG33 : CI a b G33 := by rw [eG33]; exact hCG4.set hfq.1 (hfq.2 _ _ _)
              have hXG33 : KX G4 G33 := KX.set KX.rf eG33
              have hFG33 : WX (fun x => x = q) G G33 := WX.set hFG4 eG33 (by show _; omega)
              have hpv : ∀ P : Int → Prop, FPa P G A → FPa P G f → P (gS G4 q28 ((0 : Int).toNat)) := fun P hA9 hf9 => (((((hf9 (rr20 : Int).toNat (by omega)).wo hXG4 hFG4 (by show ¬ _; omega) (by show ¬ _; omega) (by show ¬ _; omega) (kne kf3 (by decide)) (kne kf4 (by decide))).rps hv29 rfl)) 0 (by rw [show gS G4 (f + 4) = gS G (f + 4) from hFG4 (f + 4) (kne kf4 (by decide)) (by show ¬ _; omega)]; have h9 := hhid (rr20 : Int).toNat (by omega) (by rw [show (((rr20 : Int).toNat : Nat) : Int) = rr20 by omega]; exact (hp21.resolve_left (by omega)).2); omega)).2
              show WP kX2_hideTypes X 85 [some (2, ((A : Nat) : Int)), some (0, p), some (0, h), some (2, ((f : Nat) : Int)), some (2, ((q : Nat) : Int)), some (2, ((q2 : Nat) : Int)), some (0, c4), some (0, i4), some (0, rr20)] [] G33
              refine s_iload dX2_hideTypes_85 rfl ?_
              refine s_iload dX2_hideTypes_87 rfl ?_
              refine s_if_ge (tgt := 96) dX2_hideTypes_89 (by decide) (fun c34 => ?_) (fun c34 => ?_)
              · -- 89 to 96
                refine s_iconst dX2_hideTypes_96 (by decide) ?_
                refine s_aload_n dX2_hideTypes_97 rfl (Int.natCast_nonneg _) ?_
                have hk35 : gK G33 (A) = (9, 0) := ((hXG33).k hk5 (by decide))
                refine s_alv (A) (by simp) (fun al36 => ?_)
                have hv37 : gS G33 A 4 = ((A + 4 : Nat) : Int) := by have h9 : (gS G33 A 4) = (((A % 1048576) + 4 : Nat) : Int) := hCG33.1.v (j := 4) (by rw [cde_n (by omega) (by omega)]; omega : cde A = 101) al36 (by rw [hk35]; exact Nat.le_of_ble_eq_true rfl); omega
                refine s_getf (ci := 1) (k := 4) (C := RX0) (T := TX0) (N := 7) (n := A) (L := 0) (t := 2) dX2_hideTypes_98 rfl wi_65 m_575 (Nat.le_of_ble_eq_true rfl) rfl rfl hk35 hv37 ?_
                refine s_iload dX2_hideTypes_101 rfl ?_
                have hk38 : gK G33 (A + 4) = (1, 16) := ((hXG33).k hk8 (by decide))
                refine s_alv (A + 4) (by simp) (fun al39 => ?_)
                have hv40 : 0 ≤ (gS G33 (A + 4) (rr20 : Int).toNat) ∧ (gS G33 (A + 4) (rr20 : Int).toNat) ≤ 200 := hCG33.1.v (j := (rr20 : Int).toNat) (by rw [cde_n (by omega) (by omega)]; omega : cde (A + 4) = 105) al39 (by rw [hk38]; show (rr20 : Int).toNat < 16; omega)
                refine s_iald dX2_hideTypes_103 hk38 (by omega) (by omega) rfl ?_
                refine s_mmax dX2_hideTypes_104 m_1339 (by rw [hcf]; exact Nat.le_of_ble_eq_true rfl) (Nat.le_of_ble_eq_true rfl) ?_
                obtain ⟨z41, hz41⟩ : ∃ z : Int, z = (if 1 < (gS G33 (A + 4) ((rr20 : Int).toNat)) then gS G33 (A + 4) ((rr20 : Int).toNat) else 1) := ⟨_, rfl⟩
                rw [← hz41]
                have hz41a : (1 < (gS G33 (A + 4) ((rr20 : Int).toNat)) ∧ z41 = gS G33 (A + 4) ((rr20 : Int).toNat)) ∨ (¬ 1 < (gS G33 (A + 4) ((rr20 : Int).toNat)) ∧ z41 = 1) := by rw [hz41]; by_cases q : 1 < (gS G33 (A + 4) ((rr20 : Int).toNat)); exact Or.inl ⟨q, if_pos q⟩; exact Or.inr ⟨q, if_neg q⟩
                refine s_iadd dX2_hideTypes_107 (by omega) ?_
                refine s_istore dX2_hideTypes_108 (by decide) (lv' := [some (2, ((A : Nat) : Int)), some (0, p), some (0, h), some (2, ((f : Nat) : Int)), some (2, ((q : Nat) : Int)), some (2, ((q2 : Nat) : Int)), some (0, c4), some (0, i4 + z41), some (0, rr20)]) rfl ?_
                refine s_iinc dX2_hideTypes_110 (v := c4) rfl (by omega) (by decide) (lv' := [some (2, ((A : Nat) : Int)), some (0, p), some (0, h), some (2, ((f : Nat) : Int)), some (2, ((q : Nat) : Int)), some (2, ((q2 : Nat) : Int)), some (0, c4 + 1), some (0, i4 + z41), some (0, rr20)]) rfl ?_
                refine s_goto (tgt := 14) dX2_hideTypes_113 (by decide) ?_
                refine s_mask [true, true, true, true, true, true, true, true, false] (lv' := [some (2, ((A : Nat) : Int)), some (0, p), some (0, h), some (2, ((f : Nat) : Int)), some (2, ((q : Nat) : Int)), some (2, ((q2 : Nat) : Int)), some (0, c4 + 1), some (0, i4 + z41), none]) rfl ?_
                exact ih4 (c4 + 1) (i4 + z41) G33 hCG33 (KX.trans hXG4 hXG33) hFG33 (⟨(by omega), (by intro P hA9 hf9; exact RPs.cast (RPs.put (ip4 P hA9 hf9) (by omega) (hpv P hA9 hf9) (kne hk16 (by decide)) eG33) (by omega))⟩) (by omega)
              · -- 89 to 92
                refine s_iconst dX2_hideTypes_92 (by decide) ?_
                refine s_goto (tgt := 107) dX2_hideTypes_93 (by decide) ?_
                refine s_iadd dX2_hideTypes_107 (by omega) ?_
                refine s_istore dX2_hideTypes_108 (by decide) (lv' := [some (2, ((A : Nat) : Int)), some (0, p), some (0, h), some (2, ((f : Nat) : Int)), some (2, ((q : Nat) : Int)), some (2, ((q2 : Nat) : Int)), some (0, c4), some (0, i4 + 1), some (0, rr20)]) rfl ?_
                refine s_iinc dX2_hideTypes_110 (v := c4) rfl (by omega) (by decide) (lv' := [some (2, ((A : Nat) : Int)), some (0, p), some (0, h), some (2, ((f : Nat) : Int)), some (2, ((q : Nat) : Int)), some (2, ((q2 : Nat) : Int)), some (0, c4 + 1), some (0, i4 + 1), some (0, rr20)]) rfl ?_
                refine s_goto (tgt := 14) dX2_hideTypes_113 (by decide) ?_
                refine s_mask [true, true, true, true, true, true, true, true, false] (lv' := [some (2, ((A : Nat) : Int)), some (0, p), some (0, h), some (2, ((f : Nat) : Int)), some (2, ((q : Nat) : Int)), some (2, ((q2 : Nat) : Int)), some (0, c4 + 1), some (0, i4 + 1), none]) rfl ?_
                exact ih4 (c4 + 1) (i4 + 1) G33 hCG33 (KX.trans hXG4 hXG33) hFG33 (⟨(by omega), (by intro P hA9 hf9; exact RPs.cast (RPs.put (ip4 P hA9 hf9) (by omega) (hpv P hA9 hf9) (kne hk16 (by decide)) eG33) (by omega))⟩) (by omega)
            · -- 64 to 67
              refine s_aload dX2_hideTypes_67 rfl (Int.natCast_nonneg _) ?_
              refine s_iload dX2_hideTypes_69 rfl ?_
              refine s_iald dX2_hideTypes_71 hk13 (by omega) (by omega) rfl ?_
              refine s_goto (tgt := 84) dX2_hideTypes_72 (by decide) ?_
              refine s_iast dX2_hideTypes_84 hk16 (by omega) (by omega) ?_
              generalize eG42r : gset G4 q ((c4 : Int).toNat) (gS G4 q2 ((i4 : Int).toNat)) = G42
              have eG42 := eG42r.symm
              have hCG42 : CI a b G42 := by rw [eG42]; exact hCG4.set hfq.1 (hfq.2 _ _ _)
              have hXG42 : KX G4 G42 := KX.set KX.rf eG42
              have hFG42 : WX (fun x => x = q) G G42 := WX.set hFG4 eG42 (by show _; omega)
              have hpv : ∀ P : Int → Prop, FPa P G A → FPa P G f → P (gS G4 q2 ((i4 : Int).toNat)) := fun P hA9 hf9 => ((((hA9 p.toNat (by omega)).rps hv3 rfl).wx hXG4 hFG4 (by show ¬ _; omega)) (i4 : Int).toNat (by omega)).2
              show WP kX2_hideTypes X 85 [some (2, ((A : Nat) : Int)), some (0, p), some (0, h), some (2, ((f : Nat) : Int)), some (2, ((q : Nat) : Int)), some (2, ((q2 : Nat) : Int)), some (0, c4), some (0, i4), some (0, rr20)] [] G42
              refine s_iload dX2_hideTypes_85 rfl ?_
              refine s_iload dX2_hideTypes_87 rfl ?_
              refine s_if_ge (tgt := 96) dX2_hideTypes_89 (by decide) (fun c43 => ?_) (fun c43 => ?_)
              · -- 89 to 96
                refine s_iconst dX2_hideTypes_96 (by decide) ?_
                refine s_aload_n dX2_hideTypes_97 rfl (Int.natCast_nonneg _) ?_
                have hk44 : gK G42 (A) = (9, 0) := ((hXG42).k hk5 (by decide))
                refine s_alv (A) (by simp) (fun al45 => ?_)
                have hv46 : gS G42 A 4 = ((A + 4 : Nat) : Int) := by have h9 : (gS G42 A 4) = (((A % 1048576) + 4 : Nat) : Int) := hCG42.1.v (j := 4) (by rw [cde_n (by omega) (by omega)]; omega : cde A = 101) al45 (by rw [hk44]; exact Nat.le_of_ble_eq_true rfl); omega
                refine s_getf (ci := 1) (k := 4) (C := RX0) (T := TX0) (N := 7) (n := A) (L := 0) (t := 2) dX2_hideTypes_98 rfl wi_65 m_575 (Nat.le_of_ble_eq_true rfl) rfl rfl hk44 hv46 ?_
                refine s_iload dX2_hideTypes_101 rfl ?_
                have hk47 : gK G42 (A + 4) = (1, 16) := ((hXG42).k hk8 (by decide))
                refine s_alv (A + 4) (by simp) (fun al48 => ?_)
                have hv49 : 0 ≤ (gS G42 (A + 4) (rr20 : Int).toNat) ∧ (gS G42 (A + 4) (rr20 : Int).toNat) ≤ 200 := hCG42.1.v (j := (rr20 : Int).toNat) (by rw [cde_n (by omega) (by omega)]; omega : cde (A + 4) = 105) al48 (by rw [hk47]; show (rr20 : Int).toNat < 16; omega)
                refine s_iald dX2_hideTypes_103 hk47 (by omega) (by omega) rfl ?_
                refine s_mmax dX2_hideTypes_104 m_1339 (by rw [hcf]; exact Nat.le_of_ble_eq_true rfl) (Nat.le_of_ble_eq_true rfl) ?_
                obtain ⟨z50, hz50⟩ : ∃ z : Int, z = (if 1 < (gS G42 (A + 4) ((rr20 : Int).toNat)) then gS G42 (A + 4) ((rr20 : Int).toNat) else 1) := ⟨_, rfl⟩
                rw [← hz50]
                have hz50a : (1 < (gS G42 (A + 4) ((rr20 : Int).toNat)) ∧ z50 = gS G42 (A + 4) ((rr20 : Int).toNat)) ∨ (¬ 1 < (gS G42 (A + 4) ((rr20 : Int).toNat)) ∧ z50 = 1) := by rw [hz50]; by_cases q : 1 < (gS G42 (A + 4) ((rr20 : Int).toNat)); exact Or.inl ⟨q, if_pos q⟩; exact Or.inr ⟨q, if_neg q⟩
                refine s_iadd dX2_hideTypes_107 (by omega) ?_
                refine s_istore dX2_hideTypes_108 (by decide) (lv' := [some (2, ((A : Nat) : Int)), some (0, p), some (0, h), some (2, ((f : Nat) : Int)), some (2, ((q : Nat) : Int)), some (2, ((q2 : Nat) : Int)), some (0, c4), some (0, i4 + z50), some (0, rr20)]) rfl ?_
                refine s_iinc dX2_hideTypes_110 (v := c4) rfl (by omega) (by decide) (lv' := [some (2, ((A : Nat) : Int)), some (0, p), some (0, h), some (2, ((f : Nat) : Int)), some (2, ((q : Nat) : Int)), some (2, ((q2 : Nat) : Int)), some (0, c4 + 1), some (0, i4 + z50), some (0, rr20)]) rfl ?_
                refine s_goto (tgt := 14) dX2_hideTypes_113 (by decide) ?_
                refine s_mask [true, true, true, true, true, true, true, true, false] (lv' := [some (2, ((A : Nat) : Int)), some (0, p), some (0, h), some (2, ((f : Nat) : Int)), some (2, ((q : Nat) : Int)), some (2, ((q2 : Nat) : Int)), some (0, c4 + 1), some (0, i4 + z50), none]) rfl ?_
                exact ih4 (c4 + 1) (i4 + z50) G42 hCG42 (KX.trans hXG4 hXG42) hFG42 (⟨(by omega), (by intro P hA9 hf9; exact RPs.cast (RPs.put (ip4 P hA9 hf9) (by omega) (hpv P hA9 hf9) (kne hk16 (by decide)) eG42) (by omega))⟩) (by omega)
              · -- 89 to 92
                refine s_iconst dX2_hideTypes_92 (by decide) ?_
                refine s_goto (tgt := 107) dX2_hideTypes_93 (by decide) ?_
                refine s_iadd dX2_hideTypes_107 (by omega) ?_
                refine s_istore dX2_hideTypes_108 (by decide) (lv' := [some (2, ((A : Nat) : Int)), some (0, p), some (0, h), some (2, ((f : Nat) : Int)), some (2, ((q : Nat) : Int)), some (2, ((q2 : Nat) : Int)), some (0, c4), some (0, i4 + 1), some (0, rr20)]) rfl ?_
                refine s_iinc dX2_hideTypes_110 (v := c4) rfl (by omega) (by decide) (lv' := [some (2, ((A : Nat) : Int)), some (0, p), some (0, h), some (2, ((f : Nat) : Int)), some (2, ((q : Nat) : Int)), some (2, ((q2 : Nat) : Int)), some (0, c4 + 1), some (0, i4 + 1), some (0, rr20)]) rfl ?_
                refine s_goto (tgt := 14) dX2_hideTypes_113 (by decide) ?_
                refine s_mask [true, true, true, true, true, true, true, true, false] (lv' := [some (2, ((A : Nat) : Int)), some (0, p), some (0, h), some (2, ((f : Nat) : Int)), some (2, ((q : Nat) : Int)), some (2, ((q2 : Nat) : Int)), some (0, c4 + 1), some (0, i4 + 1), none]) rfl ?_
                exact ih4 (c4 + 1) (i4 + 1) G42 hCG42 (KX.trans hXG4 hXG42) hFG42 (⟨(by omega), (by intro P hA9 hf9; exact RPs.cast (RPs.put (ip4 P hA9 hf9) (by omega) (hpv P hA9 hf9) (kne hk16 (by decide)) eG42) (by omega))⟩) (by omega)
  exact L4 _ 0 0 G hC KX.rf WX.rf (⟨(by omega), (by intro P _ _; exact RPs.zero (by omega))⟩) (Nat.lt_succ_self _)

abbrev kX2_choiceValue : KD := (RX2, cX2_choiceValue, 8, (some .int), [])
def TX2_choiceValue : TR := fun as G Qr => ∃ (P : Int → Prop) (k : Int) (A B : Nat) (h : Int) (f : Nat) (a b : Nat), as = [(2, ((327682 : Nat) : Int)), (0, k), (2, ((A : Nat) : Int)), (2, ((B : Nat) : Int)), (0, h), (2, ((f : Nat) : Int))] ∧ CI a b G ∧ (a ≤ 2840000 ∧ b ≤ 590000) ∧ (0 ≤ k ∧ k < 10) ∧ (isFc A) ∧ (isFc B) ∧ (isFc f) ∧ (A ≠ f ∧ B ≠ f) ∧ (FPa P G A) ∧ (FPa P G f) ∧ (∀ k : Nat, k < 6 → ¬ i_and (i_shr h k) 1 = 0 → 1 ≤ gS G (f + 4) k) ∧ ∀ (r : Int) (G' : LG), CI a b G' → KX G G' → WX (fun x => x = 327691 ∨ x = 327692 ∨ (f + 2 ≤ x ∧ x ≤ f + 6) ∨ (f + 13 ≤ x ∧ x ≤ f + 22)) G G' → (FPa P G' f ∧ ∀ k9 : Nat, k9 < 6 → gS G' (f + 4) k9 = gS G (f + 4) k9) → Qr (.inl (some (0, r))) G'
set_option maxHeartbeats 4000000 in
set_option maxRecDepth 100000 in
theorem gX2_choiceValue : Good kX2_choiceValue yX2_choiceValue 3 TX2_choiceValue := by
  refine good_of (by decide) rfl rfl (fun as G Qr h => ?_) (fun X as G Qr hcf hR hT oa => ?_)
  · obtain ⟨P, k, A, B, h, f, a, b, rfl, -⟩ := h; exact Nat.le_of_ble_eq_true rfl
  obtain ⟨P, k, A, B, h, f, a, b, rfl, hC, hab, hk, hA, hB, hf, hne, hFA, hFf, hH, hQ⟩ := hT
  show WP kX2_choiceValue X 0 [some (2, ((327682 : Nat) : Int)), some (0, k), some (2, ((A : Nat) : Int)), some (2, ((B : Nat) : Int)), some (0, h), some (2, ((f : Nat) : Int)), none, none] [] G
  have hr_k : inR k := okv_R (oa _ (by simp))
  have hr_h : inR h := okv_R (oa _ (by simp))
  have rg0 : RM (fun x => x = 327691) (fun x => x = 327691 ∨ x = 327692 ∨ (f + 2 ≤ x ∧ x ≤ f + 6) ∨ (f + 13 ≤ x ∧ x ≤ f + 22)) := fun x hx => by (try dsimp only at hx ⊢); omega
  have rg1 : RNf (fun x => x = 327691) A := ⟨by show ¬ _; omega, by show ¬ _; omega, fun p hp => by show ¬ _; omega⟩
  have rg2 : RNf (fun x => x = 327691) f := ⟨by show ¬ _; omega, by show ¬ _; omega, fun p hp => by show ¬ _; omega⟩
  have rg3 : RM (fun x => x = 327692) (fun x => x = 327691 ∨ x = 327692 ∨ (f + 2 ≤ x ∧ x ≤ f + 6) ∨ (f + 13 ≤ x ∧ x ≤ f + 22)) := fun x hx => by (try dsimp only at hx ⊢); omega
  have rg4 : RNf (fun x => x = 327692) A := ⟨by show ¬ _; omega, by show ¬ _; omega, fun p hp => by show ¬ _; omega⟩
  have rg5 : RNf (fun x => x = 327692) f := ⟨by show ¬ _; omega, by show ¬ _; omega, fun p hp => by show ¬ _; omega⟩
  refine s_alvl 327682 (k := 0) rfl (fun alZ => ?_)
  refine s_alvl A (k := 2) rfl (fun alA => ?_)
  refine s_alvl B (k := 3) rfl (fun alB => ?_)
  refine s_alvl f (k := 5) rfl (fun alf => ?_)
  refine s_lk (fun hlk => ?_)
  have hfn := hlk.fna hC alZ
  obtain ⟨k327682, k327681, k327683, k262144, k262208, k327684, k68097, k327691, k327692, k262145, k262146, k262148, k262149, k262209, k262210, k262212, k262213, k327710, k327685, k327688⟩ := id hfn
  have hfA := hlk.fc hC hA alA
  obtain ⟨kA0, kA1, kA2, kA3, kA4, kA5, kA6⟩ := hfA.1
  have hfB := hlk.fc hC hB alB
  obtain ⟨kB0, kB1, kB2, kB3, kB4, kB5, kB6⟩ := hfB.1
  have hff := hlk.fc hC hf alf
  obtain ⟨kf0, kf1, kf2, kf3, kf4, kf5, kf6⟩ := hff.1
  refine s_aload_n dX2_choiceValue_0 rfl (Int.natCast_nonneg _) ?_
  refine s_bipush dX2_choiceValue_1 rfl (by decide) ?_
  refine s_iload_n dX2_choiceValue_3 rfl ?_
  refine s_iadd dX2_choiceValue_4 (by omega) ?_
  refine s_iload dX2_choiceValue_5 rfl ?_
  refine s_aload dX2_choiceValue_7 rfl (Int.natCast_nonneg _) ?_
  refine s_aload_n dX2_choiceValue_9 rfl (Int.natCast_nonneg _) ?_
  have hv1 : gS G 327682 6 = ((327691 : Nat) : Int) := by have h9 : (gS G 327682 6) = 327691 := hC.1.v (j := 6) (by decide : cde 327682 = 502) (kne k327682 (by decide)) (by rw [k327682]; exact Nat.le_of_ble_eq_true rfl); omega
  refine s_getf (ci := 3) (k := 6) (C := RX2) (T := TX2) (N := 8) (n := 327682) (L := 0) (t := 2) dX2_choiceValue_10 rfl wi_70 m_582 (Nat.le_of_ble_eq_true rfl) rfl rfl k327682 hv1 ?_
  refine s_callS2 (as := [(2, ((A : Nat) : Int)), (0, 6 + k), (0, h), (2, ((f : Nat) : Int)), (2, ((327691 : Nat) : Int))]) (rest := []) gX2_hideTypes dX2_choiceValue_13 m_1340 m_1796 m_716 m_273 ⟨by decide, by decide, show (parseMethodDescriptor yX2_hideTypes.desc).map (fun d => d.parameters.length) = some 5 from by decide +kernel⟩ (Nat.le_of_ble_eq_true rfl) (by rw [hcf]; exact Nat.le_of_ble_eq_true rfl) rfl (Nat.le_of_ble_eq_true rfl) ⟨A, 6 + k, h, f, 327691, a, b, rfl, hC, hab, (by omega), k327691, (by exact FRW.s), (by omega), (by assumption), (by assumption), (by exact hH), fun rr3 G2 hCG2 hXG2 hfG2 hpG2 => ?_⟩
  have hFG2 : WX (fun x => x = 327691 ∨ x = 327692 ∨ (f + 2 ≤ x ∧ x ≤ f + 6) ∨ (f + 13 ≤ x ∧ x ≤ f + 22)) G G2 := WX.trans WX.rf KX.rf (WX.mono hfG2 rg0)
  have hFAG2 : FPa P G2 A := (hFA).ns hXG2 hfG2 ⟨KX.al KX.rf (kne kA3 (by decide)), KX.al KX.rf (kne kA4 (by decide))⟩ rg1
  have hFfG2 : FPa P G2 f := (hFf).ns hXG2 hfG2 ⟨KX.al KX.rf (kne kf3 (by decide)), KX.al KX.rf (kne kf4 (by decide))⟩ rg2
  have hHG2 : ∀ k : Nat, k < 6 → ¬ i_and (i_shr h k) 1 = 0 → 1 ≤ gS G2 (f + 4) k := fun k hk hb => by rw [hfG2 (f + 4) (KX.al KX.rf (kne kf4 (by decide))) (by show ¬ _; omega)]; exact hH k hk hb
  show WP kX2_choiceValue X 16 [some (2, ((327682 : Nat) : Int)), some (0, k), some (2, ((A : Nat) : Int)), some (2, ((B : Nat) : Int)), some (0, h), some (2, ((f : Nat) : Int)), none, none] [(0, rr3)] G2
  refine s_istore dX2_choiceValue_16 (by decide) (lv' := [some (2, ((327682 : Nat) : Int)), some (0, k), some (2, ((A : Nat) : Int)), some (2, ((B : Nat) : Int)), some (0, h), some (2, ((f : Nat) : Int)), some (0, rr3), none]) rfl ?_
  refine s_aload_n dX2_choiceValue_18 rfl (Int.natCast_nonneg _) ?_
  refine s_bipush dX2_choiceValue_19 rfl (by decide) ?_
  refine s_iload_n dX2_choiceValue_21 rfl ?_
  refine s_iadd dX2_choiceValue_22 (by omega) ?_
  refine s_iload dX2_choiceValue_23 rfl ?_
  refine s_aload dX2_choiceValue_25 rfl (Int.natCast_nonneg _) ?_
  refine s_aload_n dX2_choiceValue_27 rfl (Int.natCast_nonneg _) ?_
  have hk4 : gK G2 (327682) = (11, 0) := ((hXG2).k k327682 (by decide))
  refine s_alv (327682) (by simp) (fun al5 => ?_)
  have hv6 : gS G2 327682 7 = ((327692 : Nat) : Int) := by have h9 : (gS G2 327682 7) = 327692 := hCG2.1.v (j := 7) (by decide : cde 327682 = 502) al5 (by rw [hk4]; exact Nat.le_of_ble_eq_true rfl); omega
  refine s_getf (ci := 3) (k := 7) (C := RX2) (T := TX2) (N := 8) (n := 327682) (L := 0) (t := 2) dX2_choiceValue_28 rfl wi_70 m_583 (Nat.le_of_ble_eq_true rfl) rfl rfl hk4 hv6 ?_
  have hk7 : gK G2 (327692) = (1, 200) := ((hXG2).k k327692 (by decide))
  refine s_callS2 (as := [(2, ((B : Nat) : Int)), (0, 6 + k), (0, h), (2, ((f : Nat) : Int)), (2, ((327692 : Nat) : Int))]) (rest := []) gX2_hideTypes dX2_choiceValue_31 m_1340 m_1796 m_716 m_273 ⟨by decide, by decide, show (parseMethodDescriptor yX2_hideTypes.desc).map (fun d => d.parameters.length) = some 5 from by decide +kernel⟩ (Nat.le_of_ble_eq_true rfl) (by rw [hcf]; exact Nat.le_of_ble_eq_true rfl) rfl (Nat.le_of_ble_eq_true rfl) ⟨B, 6 + k, h, f, 327692, a, b, rfl, hCG2, hab, (by omega), hk7, (by exact FRW.o), (by omega), (by assumption), (by assumption), (by exact hHG2), fun rr9 G8 hCG8 hXG8 hfG8 hpG8 => ?_⟩
  have hFG8 : WX (fun x => x = 327691 ∨ x = 327692 ∨ (f + 2 ≤ x ∧ x ≤ f + 6) ∨ (f + 13 ≤ x ∧ x ≤ f + 22)) G G8 := WX.trans hFG2 hXG2 (WX.mono hfG8 rg3)
  have hFAG8 : FPa P G8 A := (hFAG2).ns hXG8 hfG8 ⟨KX.al hXG2 (kne kA3 (by decide)), KX.al hXG2 (kne kA4 (by decide))⟩ rg4
  have hFfG8 : FPa P G8 f := (hFfG2).ns hXG8 hfG8 ⟨KX.al hXG2 (kne kf3 (by decide)), KX.al hXG2 (kne kf4 (by decide))⟩ rg5
  have hHG8 : ∀ k : Nat, k < 6 → ¬ i_and (i_shr h k) 1 = 0 → 1 ≤ gS G8 (f + 4) k := fun k hk hb => by rw [hfG8 (f + 4) (KX.al hXG2 (kne kf4 (by decide))) (by show ¬ _; omega)]; exact hHG2 k hk hb
  show WP kX2_choiceValue X 34 [some (2, ((327682 : Nat) : Int)), some (0, k), some (2, ((A : Nat) : Int)), some (2, ((B : Nat) : Int)), some (0, h), some (2, ((f : Nat) : Int)), some (0, rr3), none] [(0, rr9)] G8
  refine s_istore dX2_choiceValue_34 (by decide) (lv' := [some (2, ((327682 : Nat) : Int)), some (0, k), some (2, ((A : Nat) : Int)), some (2, ((B : Nat) : Int)), some (0, h), some (2, ((f : Nat) : Int)), some (0, rr3), some (0, rr9)]) rfl ?_
  refine s_aload_n dX2_choiceValue_36 rfl (Int.natCast_nonneg _) ?_
  have hk10 : gK G8 (327682) = (11, 0) := ((hXG8).k hk4 (by decide))
  refine s_alv (327682) (by simp) (fun al11 => ?_)
  have hv12 : gS G8 327682 6 = ((327691 : Nat) : Int) := by have h9 : (gS G8 327682 6) = 327691 := hCG8.1.v (j := 6) (by decide : cde 327682 = 502) al11 (by rw [hk10]; exact Nat.le_of_ble_eq_true rfl); omega
  refine s_getf (ci := 3) (k := 6) (C := RX2) (T := TX2) (N := 8) (n := 327682) (L := 0) (t := 2) dX2_choiceValue_37 rfl wi_70 m_582 (Nat.le_of_ble_eq_true rfl) rfl rfl hk10 hv12 ?_
  refine s_iload dX2_choiceValue_40 rfl ?_
  refine s_aload_n dX2_choiceValue_42 rfl (Int.natCast_nonneg _) ?_
  have hv13 : gS G8 327682 7 = ((327692 : Nat) : Int) := by have h9 : (gS G8 327682 7) = 327692 := hCG8.1.v (j := 7) (by decide : cde 327682 = 502) al11 (by rw [hk10]; exact Nat.le_of_ble_eq_true rfl); omega
  refine s_getf (ci := 3) (k := 7) (C := RX2) (T := TX2) (N := 8) (n := 327682) (L := 0) (t := 2) dX2_choiceValue_43 rfl wi_70 m_583 (Nat.le_of_ble_eq_true rfl) rfl rfl hk10 hv13 ?_
  refine s_iload dX2_choiceValue_46 rfl ?_
  have hk14 : gK G8 (327691) = (1, 200) := ((hXG8).k ((hXG2).k k327691 (by decide)) (by decide))
  have hk15 : gK G8 (327692) = (1, 200) := ((hXG8).k hk7 (by decide))
  refine s_callSN (own := RX2) rfl (by decide +kernel) (as := [(2, ((327691 : Nat) : Int)), (0, rr3), (2, ((327692 : Nat) : Int)), (0, rr9)]) (rest := []) gX11_isSameRow dX2_choiceValue_48 m_1778 m_714 m_98 ⟨by decide, by decide, show (parseMethodDescriptor yX11_isSameRow.desc).map (fun d => d.parameters.length) = some 4 from by decide +kernel⟩ (Nat.le_of_ble_eq_true rfl) (by rw [hcf]; exact Nat.le_of_ble_eq_true rfl) rfl (Nat.le_of_ble_eq_true rfl) ⟨327691, 200, rr3, 327692, 200, rr9, rfl, hk14, (by first | assumption | omega), hk15, (by first | assumption | omega), fun rr16 hp17 => ?_⟩
  show WP kX2_choiceValue X 51 [some (2, ((327682 : Nat) : Int)), some (0, k), some (2, ((A : Nat) : Int)), some (2, ((B : Nat) : Int)), some (0, h), some (2, ((f : Nat) : Int)), some (0, rr3), some (0, rr9)] [(0, rr16)] G8
  refine s_if_ne (tgt := 60) dX2_choiceValue_51 (by decide) (fun c18 => ?_) (fun c18 => ?_)
  · -- 51 to 60
    refine s_aload dX2_choiceValue_60 rfl (Int.natCast_nonneg _) ?_
    refine s_iload_n dX2_choiceValue_62 rfl ?_
    refine s_iconst dX2_choiceValue_63 (by decide) ?_
    refine s_aload_n dX2_choiceValue_64 rfl (Int.natCast_nonneg _) ?_
    have hk19 : gK G8 (A) = (9, 0) := ((hXG8).k ((hXG2).k kA0 (by decide)) (by decide))
    refine s_alv (A) (by simp) (fun al20 => ?_)
    have hv21 : gS G8 A 2 = ((A + 2 : Nat) : Int) := by have h9 : (gS G8 A 2) = (((A % 1048576) + 2 : Nat) : Int) := hCG8.1.v (j := 2) (by rw [cde_n (by omega) (by omega)]; omega : cde A = 101) al20 (by rw [hk19]; exact Nat.le_of_ble_eq_true rfl); omega
    refine s_getf (ci := 1) (k := 2) (C := RX0) (T := TX0) (N := 7) (n := A) (L := 0) (t := 2) dX2_choiceValue_65 rfl wi_65 m_576 (Nat.le_of_ble_eq_true rfl) rfl rfl hk19 hv21 ?_
    refine s_iload_n dX2_choiceValue_68 rfl ?_
    have hk22 : gK G8 (A + 2) = (1, 10) := ((hXG8).k ((hXG2).k kA2 (by decide)) (by decide))
    refine s_iald dX2_choiceValue_69 hk22 (by omega) (by omega) rfl ?_
    refine s_aload_n dX2_choiceValue_70 rfl (Int.natCast_nonneg _) ?_
    have hk23 : gK G8 (B) = (9, 0) := ((hXG8).k ((hXG2).k kB0 (by decide)) (by decide))
    refine s_alv (B) (by simp) (fun al24 => ?_)
    have hv25 : gS G8 B 2 = ((B + 2 : Nat) : Int) := by have h9 : (gS G8 B 2) = (((B % 1048576) + 2 : Nat) : Int) := hCG8.1.v (j := 2) (by rw [cde_n (by omega) (by omega)]; omega : cde B = 101) al24 (by rw [hk23]; exact Nat.le_of_ble_eq_true rfl); omega
    refine s_getf (ci := 1) (k := 2) (C := RX0) (T := TX0) (N := 7) (n := B) (L := 0) (t := 2) dX2_choiceValue_71 rfl wi_65 m_576 (Nat.le_of_ble_eq_true rfl) rfl rfl hk23 hv25 ?_
    refine s_iload_n dX2_choiceValue_74 rfl ?_
    have hk26 : gK G8 (B + 2) = (1, 10) := ((hXG8).k ((hXG2).k kB2 (by decide)) (by decide))
    refine s_iald dX2_choiceValue_75 hk26 (by omega) (by omega) rfl ?_
    refine s_ior dX2_choiceValue_76 ?_
    refine s_iconst dX2_choiceValue_77 (by decide) ?_
    refine s_iand dX2_choiceValue_78 ?_
    refine s_ior dX2_choiceValue_79 ?_
    refine s_aload_n dX2_choiceValue_80 rfl (Int.natCast_nonneg _) ?_
    have hv27 : gS G8 327682 6 = ((327691 : Nat) : Int) := by have h9 : (gS G8 327682 6) = 327691 := hCG8.1.v (j := 6) (by decide : cde 327682 = 502) al11 (by rw [hk10]; exact Nat.le_of_ble_eq_true rfl); omega
    refine s_getf (ci := 3) (k := 6) (C := RX2) (T := TX2) (N := 8) (n := 327682) (L := 0) (t := 2) dX2_choiceValue_81 rfl wi_70 m_582 (Nat.le_of_ble_eq_true rfl) rfl rfl hk10 hv27 ?_
    refine s_iload dX2_choiceValue_84 rfl ?_
    have hk30 : gK G8 (f) = (9, 0) := ((hXG8).k ((hXG2).k kf0 (by decide)) (by decide))
    refine s_callV (as := [(0, k), (0, i_or 2 (i_and (i_or (gS G8 (A + 2) ((k : Int).toNat)) (gS G8 (B + 2) ((k : Int).toNat))) 4)), (2, ((327691 : Nat) : Int)), (0, rr3)]) (rest := []) (n := f) (ci := 1) gX0_putValue dX2_choiceValue_86 m_1320 m_750 m_1483 m_711 m_77 ⟨by decide, by decide, show (parseMethodDescriptor yX0_putValue.desc).map (fun d => d.parameters.length) = some 4 from by decide +kernel⟩ (Nat.le_of_ble_eq_true rfl) (by rw [hcf]; exact Nat.le_of_ble_eq_true rfl) hk30 rfl rfl (Nat.le_of_ble_eq_true rfl) ⟨f, k, i_or 2 (i_and (i_or (gS G8 (A + 2) ((k : Int).toNat)) (gS G8 (B + 2) ((k : Int).toNat))) 4), 327691, 200, rr3, a, b, rfl, hCG8, hab, (by first | assumption | omega), (by first | assumption | omega), hk14, (by first | assumption | omega), (by first | assumption | omega), (by first | assumption | omega), fun G28 hCG28 hXG28 hfG28 hpG28 => ?_⟩
    have hFG28 : WX (fun x => x = 327691 ∨ x = 327692 ∨ (f + 2 ≤ x ∧ x ≤ f + 6) ∨ (f + 13 ≤ x ∧ x ≤ f + 22)) G G28 := WX.trans hFG8 (KX.trans hXG2 hXG8) (WX.mono hfG28 (fun x hx => by omega))
    have hFAG28 : FPa P G28 A := (hFAG8).ns hXG28 hfG28 ⟨KX.al (KX.trans hXG2 hXG8) (kne kA3 (by decide)), KX.al (KX.trans hXG2 hXG8) (kne kA4 (by decide))⟩ ⟨by show ¬ _; omega, by show ¬ _; omega, fun p hp => by show ¬ _; omega⟩
    have hFfG28 : FPa P G28 f := FPa.put hpG28.1 hFfG8 (fun _ _ => ((hpG2.2 P hFA hFf).wx hXG8 hfG8 (by show ¬ _; omega))) hXG28 hfG28 (fun p hp hn => by show ¬ _; omega)
    show WP kX2_choiceValue X 89 [some (2, ((327682 : Nat) : Int)), some (0, k), some (2, ((A : Nat) : Int)), some (2, ((B : Nat) : Int)), some (0, h), some (2, ((f : Nat) : Int)), some (0, rr3), some (0, rr9)] [] G28
    refine s_iconst dX2_choiceValue_89 (by decide) ?_
    exact s_iret hR dX2_choiceValue_90 rfl (hQ 0 G28 hCG28 (KX.trans (KX.trans hXG2 hXG8) hXG28) hFG28 ⟨hFfG28, fun k9 hk9 => ((hpG28.1.2.2 k9 (by omega)).2).trans (((congrFun (hfG8 (f + 4) (KX.al hXG2 (kne kf4 (by decide))) (by show ¬ _; omega)) _).trans (congrFun (hfG2 (f + 4) (KX.al KX.rf (kne kf4 (by decide))) (by show ¬ _; omega)) _)))⟩)
  · -- 51 to 54
    refine s_iconst dX2_choiceValue_54 (by decide) ?_
    refine s_iload_n dX2_choiceValue_55 rfl ?_
    refine s_callSN (own := RX2) rfl (by decide +kernel) (as := [(0, 2), (0, k)]) (rest := []) gX11_valueMistake dX2_choiceValue_56 m_1784 m_714 m_129 ⟨by decide, by decide, show (parseMethodDescriptor yX11_valueMistake.desc).map (fun d => d.parameters.length) = some 2 from by decide +kernel⟩ (Nat.le_of_ble_eq_true rfl) (by rw [hcf]; exact Nat.le_of_ble_eq_true rfl) rfl (Nat.le_of_ble_eq_true rfl) ⟨2, k, rfl, (by first | assumption | omega), (by first | assumption | omega), fun rr31 hp32 => ?_⟩
    show WP kX2_choiceValue X 59 [some (2, ((327682 : Nat) : Int)), some (0, k), some (2, ((A : Nat) : Int)), some (2, ((B : Nat) : Int)), some (0, h), some (2, ((f : Nat) : Int)), some (0, rr3), some (0, rr9)] [(0, rr31)] G8
    exact s_iret hR dX2_choiceValue_59 rfl (hQ rr31 G8 hCG8 (KX.trans hXG2 hXG8) hFG8 ⟨hFfG8, fun k9 hk9 => ((congrFun (hfG8 (f + 4) (KX.al hXG2 (kne kf4 (by decide))) (by show ¬ _; omega)) _).trans (congrFun (hfG2 (f + 4) (KX.al KX.rf (kne kf4 (by decide))) (by show ¬ _; omega)) _))⟩)

abbrev kX2_renamed : KD := (RX2, cX2_renamed, 3, (some .int), [])
def TX2_renamed : TR := fun as G Qr => ∃ (P : Int → Prop) (o A f : Nat) (a b : Nat), as = [(2, ((o : Nat) : Int)), (2, ((A : Nat) : Int)), (2, ((f : Nat) : Int))] ∧ CI a b G ∧ (a ≤ 2840000 ∧ b ≤ 590000) ∧ (isNd o) ∧ (gS G o 1 = 4 → 0 ≤ gS G o 4) ∧ (isFc A) ∧ (isFc f) ∧ (f ≠ A) ∧ (FPa P G A) ∧ (FPa P G f) ∧ ∀ (r : Int) (G' : LG), CI a b G' → KX G G' → WX (fun x => f + 1 ≤ x ∧ x ≤ f + 22) G G' → (FPa P G' f) → Qr (.inl (some (0, r))) G'
set_option maxHeartbeats 4000000 in
set_option maxRecDepth 100000 in
theorem gX2_renamed : Good kX2_renamed yX2_renamed 5 TX2_renamed := by
  refine good_of (by decide) rfl rfl (fun as G Qr h => ?_) (fun X as G Qr hcf hR hT oa => ?_)
  · obtain ⟨P, o, A, f, a, b, rfl, -⟩ := h; exact Nat.le_of_ble_eq_true rfl
  obtain ⟨P, o, A, f, a, b, rfl, hC, hab, ho, hto, hA, hf, hne, hFA, hFf, hQ⟩ := hT
  show WP kX2_renamed X 0 [some (2, ((o : Nat) : Int)), some (2, ((A : Nat) : Int)), some (2, ((f : Nat) : Int))] [] G
  have rg0 : RM (fun x => f + 1 ≤ x ∧ x ≤ f + 22) (fun x => f + 1 ≤ x ∧ x ≤ f + 22) := fun x hx => by (try dsimp only at hx ⊢); omega
  have rg1 : RNf (fun x => f + 1 ≤ x ∧ x ≤ f + 22) A := ⟨by show ¬ _; omega, by show ¬ _; omega, fun p hp => by show ¬ _; omega⟩
  have rg2 : RM (fun x => x = f + 2 ∨ x = f + 4 ∨ x = f + 5) (fun x => f + 1 ≤ x ∧ x ≤ f + 22) := fun x hx => by (try dsimp only at hx ⊢); omega
  have rg3 : RNf (fun x => x = f + 2 ∨ x = f + 4 ∨ x = f + 5) A := ⟨by show ¬ _; omega, by show ¬ _; omega, fun p hp => by show ¬ _; omega⟩
  refine s_alvl o (k := 0) rfl (fun alo => ?_)
  refine s_alvl A (k := 1) rfl (fun alA => ?_)
  refine s_alvl f (k := 2) rfl (fun alf => ?_)
  refine s_lk (fun hlk => ?_)
  have hfA := hlk.fc hC hA alA
  obtain ⟨kA0, kA1, kA2, kA3, kA4, kA5, kA6⟩ := hfA.1
  have hff := hlk.fc hC hf alf
  obtain ⟨kf0, kf1, kf2, kf3, kf4, kf5, kf6⟩ := hff.1
  refine s_aload_n dX2_renamed_0 rfl (Int.natCast_nonneg _) ?_
  refine s_aload_n dX2_renamed_1 rfl (Int.natCast_nonneg _) ?_
  refine s_alv (o) (by simp) (fun al1 => ?_)
  have hk2 : gK G (o) = (13, 0) := hC.1.k (by rw [cde_n (by omega) (by omega)]; omega : cde o = 100) al1
  have hv3 : 0 ≤ (gS G o 3) ∧ (gS G o 3) ≤ 9 := hC.1.v (j := 3) (by rw [cde_n (by omega) (by omega)]; omega : cde o = 100) al1 (by rw [hk2]; exact Nat.le_of_ble_eq_true rfl)
  refine s_getf (ci := 5) (k := 3) (C := RX4) (T := TX4) (N := 14) (n := o) (L := 0) (t := 0) dX2_renamed_2 rfl wi_72 m_570 (Nat.le_of_ble_eq_true rfl) rfl rfl hk2 rfl ?_
  refine s_callV (as := [(0, gS G o 3)]) (rest := []) (n := A) (ci := 1) gX0_hasValue dX2_renamed_5 m_1313 m_739 m_1473 m_711 m_66 ⟨by decide, by decide, show (parseMethodDescriptor yX0_hasValue.desc).map (fun d => d.parameters.length) = some 1 from by decide +kernel⟩ (Nat.le_of_ble_eq_true rfl) (by rw [hcf]; exact Nat.le_of_ble_eq_true rfl) kA0 rfl rfl (Nat.le_of_ble_eq_true rfl) ⟨A, gS G o 3, a, b, rfl, hC, hab, (by first | assumption | omega), (by first | assumption | omega), fun rr4 hp5 => ?_⟩
  show WP kX2_renamed X 8 [some (2, ((o : Nat) : Int)), some (2, ((A : Nat) : Int)), some (2, ((f : Nat) : Int))] [(0, rr4)] G
  refine s_if_ne (tgt := 20) dX2_renamed_8 (by decide) (fun c6 => ?_) (fun c6 => ?_)
  · -- 8 to 20
    refine s_aload_n dX2_renamed_20 rfl (Int.natCast_nonneg _) ?_
    have hv7 : 0 ≤ (gS G o 1) ∧ (gS G o 1) ≤ 6 := hC.1.v (j := 1) (by rw [cde_n (by omega) (by omega)]; omega : cde o = 100) al1 (by rw [hk2]; exact Nat.le_of_ble_eq_true rfl)
    refine s_getf (ci := 5) (k := 1) (C := RX4) (T := TX4) (N := 14) (n := o) (L := 0) (t := 0) dX2_renamed_21 rfl wi_72 m_569 (Nat.le_of_ble_eq_true rfl) rfl rfl hk2 rfl ?_
    refine s_iconst dX2_renamed_24 (by decide) ?_
    refine s_icmp_ne (tgt := 49) dX2_renamed_25 (by decide) (fun c8 => ?_) (fun c8 => ?_)
    · -- 25 to 49
      refine s_aload_n dX2_renamed_49 rfl (Int.natCast_nonneg _) ?_
      refine s_getf (ci := 5) (k := 1) (C := RX4) (T := TX4) (N := 14) (n := o) (L := 0) (t := 0) dX2_renamed_50 rfl wi_72 m_569 (Nat.le_of_ble_eq_true rfl) rfl rfl hk2 rfl ?_
      refine s_iconst dX2_renamed_53 (by decide) ?_
      refine s_icmp_ne (tgt := 77) dX2_renamed_54 (by decide) (fun c10 => ?_) (fun c10 => ?_)
      · -- 54 to 77
        refine s_aload_n dX2_renamed_77 rfl (Int.natCast_nonneg _) ?_
        refine s_aload_n dX2_renamed_78 rfl (Int.natCast_nonneg _) ?_
        refine s_callV (as := [(2, ((A : Nat) : Int))]) (rest := []) (n := f) (ci := 1) gX0_copy dX2_renamed_79 m_1330 m_736 m_1470 m_711 m_63 ⟨by decide, by decide, show (parseMethodDescriptor yX0_copy.desc).map (fun d => d.parameters.length) = some 1 from by decide +kernel⟩ (Nat.le_of_ble_eq_true rfl) (by rw [hcf]; exact Nat.le_of_ble_eq_true rfl) kf0 rfl rfl (Nat.le_of_ble_eq_true rfl) ⟨f, A, a, b, rfl, hC, hab, (by assumption), (by assumption), (by omega), (by exact kne kf3 (by decide)), (by exact kne kf4 (by decide)), (by exact kne kA3 (by decide)), (by exact kne kA4 (by decide)), fun G11 hCG11 hXG11 hfG11 hpG11 => ?_⟩
        have hFG11 : WX (fun x => f + 1 ≤ x ∧ x ≤ f + 22) G G11 := WX.trans WX.rf KX.rf (WX.mono hfG11 rg0)
        have hFAG11 : FPa P G11 A := (hFA).ns hXG11 hfG11 ⟨KX.al KX.rf (kne kA3 (by decide)), KX.al KX.rf (kne kA4 (by decide))⟩ rg1
        have hFfG11 : FPa P G11 f := hpG11 P hFA
        show WP kX2_renamed X 82 [some (2, ((o : Nat) : Int)), some (2, ((A : Nat) : Int)), some (2, ((f : Nat) : Int))] [] G11
        have hobG11 : gS G11 o = gS G o := hFG11 o alo (by show ¬ _; omega)
        have hobG111 : gS G11 o 1 = gS G o 1 := congrFun hobG11 1
        have hobG113 : gS G11 o 3 = gS G o 3 := congrFun hobG11 3
        have hobG114 : gS G11 o 4 = gS G o 4 := congrFun hobG11 4
        refine s_aload_n dX2_renamed_82 rfl (Int.natCast_nonneg _) ?_
        refine s_aload_n dX2_renamed_83 rfl (Int.natCast_nonneg _) ?_
        have hk13 : gK G11 (o) = (13, 0) := ((hXG11).k hk2 (by decide))
        refine s_alv (o) (by simp) (fun al15 => ?_)
        have hv14 : 0 ≤ (gS G11 o 3) ∧ (gS G11 o 3) ≤ 9 := hCG11.1.v (j := 3) (by rw [cde_n (by omega) (by omega)]; omega : cde o = 100) al15 (by rw [hk13]; exact Nat.le_of_ble_eq_true rfl)
        refine s_getf (ci := 5) (k := 3) (C := RX4) (T := TX4) (N := 14) (n := o) (L := 0) (t := 0) dX2_renamed_84 rfl wi_72 m_570 (Nat.le_of_ble_eq_true rfl) rfl rfl hk13 rfl ?_
        have hk18 : gK G11 (f) = (9, 0) := ((hXG11).k kf0 (by decide))
        refine s_callV (as := [(0, gS G11 o 3)]) (rest := []) (n := f) (ci := 1) gX0_removeValue dX2_renamed_87 m_1341 m_752 m_1485 m_711 m_79 ⟨by decide, by decide, show (parseMethodDescriptor yX0_removeValue.desc).map (fun d => d.parameters.length) = some 1 from by decide +kernel⟩ (Nat.le_of_ble_eq_true rfl) (by rw [hcf]; exact Nat.le_of_ble_eq_true rfl) hk18 rfl rfl (Nat.le_of_ble_eq_true rfl) ⟨f, gS G11 o 3, a, b, rfl, hCG11, hab, (by first | assumption | omega), (by first | assumption | omega), fun G16 hCG16 hXG16 hfG16 hpG16 => ?_⟩
        have hFG16 : WX (fun x => f + 1 ≤ x ∧ x ≤ f + 22) G G16 := WX.trans hFG11 hXG11 (WX.mono hfG16 rg2)
        have hFAG16 : FPa P G16 A := (hFAG11).ns hXG16 hfG16 ⟨KX.al hXG11 (kne kA3 (by decide)), KX.al hXG11 (kne kA4 (by decide))⟩ rg3
        have hFfG16 : FPa P G16 f := fun p2 hp2 => by by_cases e : p2 = (6 + (gS G11 o 3) : Int).toNat; (focus (subst e; exact FPo.size0 (S := fun _ => False) (hFfG11 _ hp2) hXG16 (congrFun (hfG16 (f + 3) (KX.al hXG11 (kne kf3 (by decide))) (by show ¬ _; omega)) _) hpG16.1)); exact (hFfG11 p2 hp2).wx hXG16 hfG16 (by show ¬ _; omega) (congrFun (hfG16 (f + 3) (KX.al hXG11 (kne kf3 (by decide))) (by show ¬ _; omega)) _) (hpG16.2 p2 e)
        show WP kX2_renamed X 90 [some (2, ((o : Nat) : Int)), some (2, ((A : Nat) : Int)), some (2, ((f : Nat) : Int))] [] G16
        have hobG16 : gS G16 o = gS G o := hFG16 o alo (by show ¬ _; omega)
        have hobG161 : gS G16 o 1 = gS G o 1 := congrFun hobG16 1
        have hobG163 : gS G16 o 3 = gS G o 3 := congrFun hobG16 3
        have hobG164 : gS G16 o 4 = gS G o 4 := congrFun hobG16 4
        refine s_aload_n dX2_renamed_90 rfl (Int.natCast_nonneg _) ?_
        have hk19 : gK G16 (o) = (13, 0) := ((hXG16).k hk13 (by decide))
        refine s_alv (o) (by simp) (fun al21 => ?_)
        have hv20 : 0 ≤ (gS G16 o 1) ∧ (gS G16 o 1) ≤ 6 := hCG16.1.v (j := 1) (by rw [cde_n (by omega) (by omega)]; omega : cde o = 100) al21 (by rw [hk19]; exact Nat.le_of_ble_eq_true rfl)
        refine s_getf (ci := 5) (k := 1) (C := RX4) (T := TX4) (N := 14) (n := o) (L := 0) (t := 0) dX2_renamed_91 rfl wi_72 m_569 (Nat.le_of_ble_eq_true rfl) rfl rfl hk19 rfl ?_
        refine s_iconst dX2_renamed_94 (by decide) ?_
        refine s_icmp_ne (tgt := 111) dX2_renamed_95 (by decide) (fun c22 => ?_) (fun c22 => ?_)
        · -- 95 to 111
          refine s_iconst dX2_renamed_111 (by decide) ?_
          exact s_iret hR dX2_renamed_112 rfl (hQ 0 G16 hCG16 (KX.trans hXG11 hXG16) hFG16 hFfG16)
        · -- 95 to 98
          refine s_aload_n dX2_renamed_98 rfl (Int.natCast_nonneg _) ?_
          refine s_aload_n dX2_renamed_99 rfl (Int.natCast_nonneg _) ?_
          have hv23 : -1 ≤ (gS G16 o 4) ∧ (gS G16 o 4) ≤ 9 := hCG16.1.v (j := 4) (by rw [cde_n (by omega) (by omega)]; omega : cde o = 100) al21 (by rw [hk19]; exact Nat.le_of_ble_eq_true rfl)
          refine s_getf (ci := 5) (k := 4) (C := RX4) (T := TX4) (N := 14) (n := o) (L := 0) (t := 0) dX2_renamed_100 rfl wi_72 m_571 (Nat.le_of_ble_eq_true rfl) rfl rfl hk19 rfl ?_
          refine s_aload_n dX2_renamed_103 rfl (Int.natCast_nonneg _) ?_
          refine s_aload_n dX2_renamed_104 rfl (Int.natCast_nonneg _) ?_
          have hv24 : 0 ≤ (gS G16 o 3) ∧ (gS G16 o 3) ≤ 9 := hCG16.1.v (j := 3) (by rw [cde_n (by omega) (by omega)]; omega : cde o = 100) al21 (by rw [hk19]; exact Nat.le_of_ble_eq_true rfl)
          refine s_getf (ci := 5) (k := 3) (C := RX4) (T := TX4) (N := 14) (n := o) (L := 0) (t := 0) dX2_renamed_105 rfl wi_72 m_570 (Nat.le_of_ble_eq_true rfl) rfl rfl hk19 rfl ?_
          have hk27 : gK G16 (f) = (9, 0) := ((hXG16).k hk18 (by decide))
          refine s_callV (as := [(0, gS G16 o 4), (2, ((A : Nat) : Int)), (0, gS G16 o 3)]) (rest := []) (n := f) (ci := 1) gX0_copyValue dX2_renamed_108 m_1342 m_737 m_1471 m_711 m_64 ⟨by decide, by decide, show (parseMethodDescriptor yX0_copyValue.desc).map (fun d => d.parameters.length) = some 3 from by decide +kernel⟩ (Nat.le_of_ble_eq_true rfl) (by rw [hcf]; exact Nat.le_of_ble_eq_true rfl) hk27 rfl rfl (Nat.le_of_ble_eq_true rfl) ⟨f, gS G16 o 4, A, gS G16 o 3, a, b, rfl, hCG16, hab, (by assumption), (by omega), (by assumption), (by omega), (by omega), (by exact KX.al (KX.trans hXG11 hXG16) (kne kf3 (by decide))), (by exact KX.al (KX.trans hXG11 hXG16) (kne kf4 (by decide))), fun G25 hCG25 hXG25 hfG25 hpG25 => ?_⟩
          have hFG25 : WX (fun x => f + 1 ≤ x ∧ x ≤ f + 22) G G25 := WX.trans hFG16 (KX.trans hXG11 hXG16) (WX.mono hfG25 (fun x hx => by omega))
          have hFAG25 : FPa P G25 A := (hFAG16).ns hXG25 hfG25 ⟨KX.al (KX.trans hXG11 hXG16) (kne kA3 (by decide)), KX.al (KX.trans hXG11 hXG16) (kne kA4 (by decide))⟩ ⟨by show ¬ _; omega, by show ¬ _; omega, fun p hp => by show ¬ _; omega⟩
          have hFfG25 : FPa P G25 f := fun p2 hp2 => by by_cases e : p2 = (6 + (gS G16 o 4) : Int).toNat; (focus (subst e; exact hpG25.1 P (hFAG16 _ (by omega)))); exact (hFfG16 p2 hp2).wx hXG25 hfG25 (by show ¬ _; omega) (hpG25.2 p2 e).1 (hpG25.2 p2 e).2
          show WP kX2_renamed X 111 [some (2, ((o : Nat) : Int)), some (2, ((A : Nat) : Int)), some (2, ((f : Nat) : Int))] [] G25
          refine s_iconst dX2_renamed_111 (by decide) ?_
          exact s_iret hR dX2_renamed_112 rfl (hQ 0 G25 hCG25 (KX.trans (KX.trans hXG11 hXG16) hXG25) hFG25 hFfG25)
      · -- 54 to 57
        refine s_aload_n dX2_renamed_57 rfl (Int.natCast_nonneg _) ?_
        refine s_aload_n dX2_renamed_58 rfl (Int.natCast_nonneg _) ?_
        have hv28 : -1 ≤ (gS G o 4) ∧ (gS G o 4) ≤ 9 := hC.1.v (j := 4) (by rw [cde_n (by omega) (by omega)]; omega : cde o = 100) al1 (by rw [hk2]; exact Nat.le_of_ble_eq_true rfl)
        refine s_getf (ci := 5) (k := 4) (C := RX4) (T := TX4) (N := 14) (n := o) (L := 0) (t := 0) dX2_renamed_59 rfl wi_72 m_571 (Nat.le_of_ble_eq_true rfl) rfl rfl hk2 rfl ?_
        refine s_callV (as := [(0, gS G o 4)]) (rest := []) (n := A) (ci := 1) gX0_hasValue dX2_renamed_62 m_1313 m_739 m_1473 m_711 m_66 ⟨by decide, by decide, show (parseMethodDescriptor yX0_hasValue.desc).map (fun d => d.parameters.length) = some 1 from by decide +kernel⟩ (Nat.le_of_ble_eq_true rfl) (by rw [hcf]; exact Nat.le_of_ble_eq_true rfl) kA0 rfl rfl (Nat.le_of_ble_eq_true rfl) ⟨A, gS G o 4, a, b, rfl, hC, hab, (by first | assumption | omega), (by first | assumption | omega), fun rr29 hp30 => ?_⟩
        show WP kX2_renamed X 65 [some (2, ((o : Nat) : Int)), some (2, ((A : Nat) : Int)), some (2, ((f : Nat) : Int))] [(0, rr29)] G
        refine s_if_eq (tgt := 77) dX2_renamed_65 (by decide) (fun c31 => ?_) (fun c31 => ?_)
        · -- 65 to 77
          refine s_aload_n dX2_renamed_77 rfl (Int.natCast_nonneg _) ?_
          refine s_aload_n dX2_renamed_78 rfl (Int.natCast_nonneg _) ?_
          refine s_callV (as := [(2, ((A : Nat) : Int))]) (rest := []) (n := f) (ci := 1) gX0_copy dX2_renamed_79 m_1330 m_736 m_1470 m_711 m_63 ⟨by decide, by decide, show (parseMethodDescriptor yX0_copy.desc).map (fun d => d.parameters.length) = some 1 from by decide +kernel⟩ (Nat.le_of_ble_eq_true rfl) (by rw [hcf]; exact Nat.le_of_ble_eq_true rfl) kf0 rfl rfl (Nat.le_of_ble_eq_true rfl) ⟨f, A, a, b, rfl, hC, hab, (by assumption), (by assumption), (by omega), (by exact kne kf3 (by decide)), (by exact kne kf4 (by decide)), (by exact kne kA3 (by decide)), (by exact kne kA4 (by decide)), fun G32 hCG32 hXG32 hfG32 hpG32 => ?_⟩
          have hFG32 : WX (fun x => f + 1 ≤ x ∧ x ≤ f + 22) G G32 := WX.trans WX.rf KX.rf (WX.mono hfG32 rg0)
          have hFAG32 : FPa P G32 A := (hFA).ns hXG32 hfG32 ⟨KX.al KX.rf (kne kA3 (by decide)), KX.al KX.rf (kne kA4 (by decide))⟩ rg1
          have hFfG32 : FPa P G32 f := hpG32 P hFA
          show WP kX2_renamed X 82 [some (2, ((o : Nat) : Int)), some (2, ((A : Nat) : Int)), some (2, ((f : Nat) : Int))] [] G32
          have hobG32 : gS G32 o = gS G o := hFG32 o alo (by show ¬ _; omega)
          have hobG321 : gS G32 o 1 = gS G o 1 := congrFun hobG32 1
          have hobG323 : gS G32 o 3 = gS G o 3 := congrFun hobG32 3
          have hobG324 : gS G32 o 4 = gS G o 4 := congrFun hobG32 4
          refine s_aload_n dX2_renamed_82 rfl (Int.natCast_nonneg _) ?_
          refine s_aload_n dX2_renamed_83 rfl (Int.natCast_nonneg _) ?_
          have hk34 : gK G32 (o) = (13, 0) := ((hXG32).k hk2 (by decide))
          refine s_alv (o) (by simp) (fun al36 => ?_)
          have hv35 : 0 ≤ (gS G32 o 3) ∧ (gS G32 o 3) ≤ 9 := hCG32.1.v (j := 3) (by rw [cde_n (by omega) (by omega)]; omega : cde o = 100) al36 (by rw [hk34]; exact Nat.le_of_ble_eq_true rfl)
          refine s_getf (ci := 5) (k := 3) (C := RX4) (T := TX4) (N := 14) (n := o) (L := 0) (t := 0) dX2_renamed_84 rfl wi_72 m_570 (Nat.le_of_ble_eq_true rfl) rfl rfl hk34 rfl ?_
          have hk39 : gK G32 (f) = (9, 0) := ((hXG32).k kf0 (by decide))
          refine s_callV (as := [(0, gS G32 o 3)]) (rest := []) (n := f) (ci := 1) gX0_removeValue dX2_renamed_87 m_1341 m_752 m_1485 m_711 m_79 ⟨by decide, by decide, show (parseMethodDescriptor yX0_removeValue.desc).map (fun d => d.parameters.length) = some 1 from by decide +kernel⟩ (Nat.le_of_ble_eq_true rfl) (by rw [hcf]; exact Nat.le_of_ble_eq_true rfl) hk39 rfl rfl (Nat.le_of_ble_eq_true rfl) ⟨f, gS G32 o 3, a, b, rfl, hCG32, hab, (by first | assumption | omega), (by first | assumption | omega), fun G37 hCG37 hXG37 hfG37 hpG37 => ?_⟩
          have hFG37 : WX (fun x => f + 1 ≤ x ∧ x ≤ f + 22) G G37 := WX.trans hFG32 hXG32 (WX.mono hfG37 rg2)
          have hFAG37 : FPa P G37 A := (hFAG32).ns hXG37 hfG37 ⟨KX.al hXG32 (kne kA3 (by decide)), KX.al hXG32 (kne kA4 (by decide))⟩ rg3
          have hFfG37 : FPa P G37 f := fun p2 hp2 => by by_cases e : p2 = (6 + (gS G32 o 3) : Int).toNat; (focus (subst e; exact FPo.size0 (S := fun _ => False) (hFfG32 _ hp2) hXG37 (congrFun (hfG37 (f + 3) (KX.al hXG32 (kne kf3 (by decide))) (by show ¬ _; omega)) _) hpG37.1)); exact (hFfG32 p2 hp2).wx hXG37 hfG37 (by show ¬ _; omega) (congrFun (hfG37 (f + 3) (KX.al hXG32 (kne kf3 (by decide))) (by show ¬ _; omega)) _) (hpG37.2 p2 e)
          show WP kX2_renamed X 90 [some (2, ((o : Nat) : Int)), some (2, ((A : Nat) : Int)), some (2, ((f : Nat) : Int))] [] G37
          have hobG37 : gS G37 o = gS G o := hFG37 o alo (by show ¬ _; omega)
          have hobG371 : gS G37 o 1 = gS G o 1 := congrFun hobG37 1
          have hobG373 : gS G37 o 3 = gS G o 3 := congrFun hobG37 3
          have hobG374 : gS G37 o 4 = gS G o 4 := congrFun hobG37 4
          refine s_aload_n dX2_renamed_90 rfl (Int.natCast_nonneg _) ?_
          have hk40 : gK G37 (o) = (13, 0) := ((hXG37).k hk34 (by decide))
          refine s_alv (o) (by simp) (fun al42 => ?_)
          have hv41 : 0 ≤ (gS G37 o 1) ∧ (gS G37 o 1) ≤ 6 := hCG37.1.v (j := 1) (by rw [cde_n (by omega) (by omega)]; omega : cde o = 100) al42 (by rw [hk40]; exact Nat.le_of_ble_eq_true rfl)
          refine s_getf (ci := 5) (k := 1) (C := RX4) (T := TX4) (N := 14) (n := o) (L := 0) (t := 0) dX2_renamed_91 rfl wi_72 m_569 (Nat.le_of_ble_eq_true rfl) rfl rfl hk40 rfl ?_
          refine s_iconst dX2_renamed_94 (by decide) ?_
          refine s_icmp_ne (tgt := 111) dX2_renamed_95 (by decide) (fun c43 => ?_) (fun c43 => ?_)
          · -- 95 to 111
            refine s_iconst dX2_renamed_111 (by decide) ?_
            exact s_iret hR dX2_renamed_112 rfl (hQ 0 G37 hCG37 (KX.trans hXG32 hXG37) hFG37 hFfG37)
          · -- 95 to 98
            refine s_aload_n dX2_renamed_98 rfl (Int.natCast_nonneg _) ?_
            refine s_aload_n dX2_renamed_99 rfl (Int.natCast_nonneg _) ?_
            have hv44 : -1 ≤ (gS G37 o 4) ∧ (gS G37 o 4) ≤ 9 := hCG37.1.v (j := 4) (by rw [cde_n (by omega) (by omega)]; omega : cde o = 100) al42 (by rw [hk40]; exact Nat.le_of_ble_eq_true rfl)
            refine s_getf (ci := 5) (k := 4) (C := RX4) (T := TX4) (N := 14) (n := o) (L := 0) (t := 0) dX2_renamed_100 rfl wi_72 m_571 (Nat.le_of_ble_eq_true rfl) rfl rfl hk40 rfl ?_
            refine s_aload_n dX2_renamed_103 rfl (Int.natCast_nonneg _) ?_
            refine s_aload_n dX2_renamed_104 rfl (Int.natCast_nonneg _) ?_
            have hv45 : 0 ≤ (gS G37 o 3) ∧ (gS G37 o 3) ≤ 9 := hCG37.1.v (j := 3) (by rw [cde_n (by omega) (by omega)]; omega : cde o = 100) al42 (by rw [hk40]; exact Nat.le_of_ble_eq_true rfl)
            refine s_getf (ci := 5) (k := 3) (C := RX4) (T := TX4) (N := 14) (n := o) (L := 0) (t := 0) dX2_renamed_105 rfl wi_72 m_570 (Nat.le_of_ble_eq_true rfl) rfl rfl hk40 rfl ?_
            have hk48 : gK G37 (f) = (9, 0) := ((hXG37).k hk39 (by decide))
            refine s_callV (as := [(0, gS G37 o 4), (2, ((A : Nat) : Int)), (0, gS G37 o 3)]) (rest := []) (n := f) (ci := 1) gX0_copyValue dX2_renamed_108 m_1342 m_737 m_1471 m_711 m_64 ⟨by decide, by decide, show (parseMethodDescriptor yX0_copyValue.desc).map (fun d => d.parameters.length) = some 3 from by decide +kernel⟩ (Nat.le_of_ble_eq_true rfl) (by rw [hcf]; exact Nat.le_of_ble_eq_true rfl) hk48 rfl rfl (Nat.le_of_ble_eq_true rfl) ⟨f, gS G37 o 4, A, gS G37 o 3, a, b, rfl, hCG37, hab, (by assumption), (by omega), (by assumption), (by omega), (by omega), (by exact KX.al (KX.trans hXG32 hXG37) (kne kf3 (by decide))), (by exact KX.al (KX.trans hXG32 hXG37) (kne kf4 (by decide))), fun G46 hCG46 hXG46 hfG46 hpG46 => ?_⟩
            have hFG46 : WX (fun x => f + 1 ≤ x ∧ x ≤ f + 22) G G46 := WX.trans hFG37 (KX.trans hXG32 hXG37) (WX.mono hfG46 (fun x hx => by omega))
            have hFAG46 : FPa P G46 A := (hFAG37).ns hXG46 hfG46 ⟨KX.al (KX.trans hXG32 hXG37) (kne kA3 (by decide)), KX.al (KX.trans hXG32 hXG37) (kne kA4 (by decide))⟩ ⟨by show ¬ _; omega, by show ¬ _; omega, fun p hp => by show ¬ _; omega⟩
            have hFfG46 : FPa P G46 f := fun p2 hp2 => by by_cases e : p2 = (6 + (gS G37 o 4) : Int).toNat; (focus (subst e; exact hpG46.1 P (hFAG37 _ (by omega)))); exact (hFfG37 p2 hp2).wx hXG46 hfG46 (by show ¬ _; omega) (hpG46.2 p2 e).1 (hpG46.2 p2 e).2
            show WP kX2_renamed X 111 [some (2, ((o : Nat) : Int)), some (2, ((A : Nat) : Int)), some (2, ((f : Nat) : Int))] [] G46
            refine s_iconst dX2_renamed_111 (by decide) ?_
            exact s_iret hR dX2_renamed_112 rfl (hQ 0 G46 hCG46 (KX.trans (KX.trans hXG32 hXG37) hXG46) hFG46 hFfG46)
        · -- 65 to 68
          refine s_iconst dX2_renamed_68 (by decide) ?_
          refine s_aload_n dX2_renamed_69 rfl (Int.natCast_nonneg _) ?_
          refine s_getf (ci := 5) (k := 4) (C := RX4) (T := TX4) (N := 14) (n := o) (L := 0) (t := 0) dX2_renamed_70 rfl wi_72 m_571 (Nat.le_of_ble_eq_true rfl) rfl rfl hk2 rfl ?_
          refine s_callSN (own := RX2) rfl (by decide +kernel) (as := [(0, 4), (0, gS G o 4)]) (rest := []) gX11_valueMistake dX2_renamed_73 m_1784 m_714 m_129 ⟨by decide, by decide, show (parseMethodDescriptor yX11_valueMistake.desc).map (fun d => d.parameters.length) = some 2 from by decide +kernel⟩ (Nat.le_of_ble_eq_true rfl) (by rw [hcf]; exact Nat.le_of_ble_eq_true rfl) rfl (Nat.le_of_ble_eq_true rfl) ⟨4, gS G o 4, rfl, (by first | assumption | omega), (by first | assumption | omega), fun rr50 hp51 => ?_⟩
          show WP kX2_renamed X 76 [some (2, ((o : Nat) : Int)), some (2, ((A : Nat) : Int)), some (2, ((f : Nat) : Int))] [(0, rr50)] G
          exact s_iret hR dX2_renamed_76 rfl (hQ rr50 G hC KX.rf WX.rf hFf)
    · -- 25 to 28
      refine s_aload_n dX2_renamed_28 rfl (Int.natCast_nonneg _) ?_
      refine s_aload_n dX2_renamed_29 rfl (Int.natCast_nonneg _) ?_
      refine s_getf (ci := 5) (k := 3) (C := RX4) (T := TX4) (N := 14) (n := o) (L := 0) (t := 0) dX2_renamed_30 rfl wi_72 m_570 (Nat.le_of_ble_eq_true rfl) rfl rfl hk2 rfl ?_
      refine s_callV (as := [(0, gS G o 3)]) (rest := []) (n := A) (ci := 1) gX0_isValueHole dX2_renamed_33 m_1322 m_743 m_1476 m_711 m_70 ⟨by decide, by decide, show (parseMethodDescriptor yX0_isValueHole.desc).map (fun d => d.parameters.length) = some 1 from by decide +kernel⟩ (Nat.le_of_ble_eq_true rfl) (by rw [hcf]; exact Nat.le_of_ble_eq_true rfl) kA0 rfl rfl (Nat.le_of_ble_eq_true rfl) ⟨A, gS G o 3, a, b, rfl, hC, hab, (by first | assumption | omega), (by first | assumption | omega), fun rr53 hp54 => ?_⟩
      show WP kX2_renamed X 36 [some (2, ((o : Nat) : Int)), some (2, ((A : Nat) : Int)), some (2, ((f : Nat) : Int))] [(0, rr53)] G
      refine s_if_eq (tgt := 49) dX2_renamed_36 (by decide) (fun c55 => ?_) (fun c55 => ?_)
      · -- 36 to 49
        refine s_aload_n dX2_renamed_49 rfl (Int.natCast_nonneg _) ?_
        refine s_getf (ci := 5) (k := 1) (C := RX4) (T := TX4) (N := 14) (n := o) (L := 0) (t := 0) dX2_renamed_50 rfl wi_72 m_569 (Nat.le_of_ble_eq_true rfl) rfl rfl hk2 rfl ?_
        refine s_iconst dX2_renamed_53 (by decide) ?_
        refine s_icmp_ne (tgt := 77) dX2_renamed_54 (by decide) (fun c57 => ?_) (fun c57 => ?_)
        · -- 54 to 77
          refine s_aload_n dX2_renamed_77 rfl (Int.natCast_nonneg _) ?_
          refine s_aload_n dX2_renamed_78 rfl (Int.natCast_nonneg _) ?_
          refine s_callV (as := [(2, ((A : Nat) : Int))]) (rest := []) (n := f) (ci := 1) gX0_copy dX2_renamed_79 m_1330 m_736 m_1470 m_711 m_63 ⟨by decide, by decide, show (parseMethodDescriptor yX0_copy.desc).map (fun d => d.parameters.length) = some 1 from by decide +kernel⟩ (Nat.le_of_ble_eq_true rfl) (by rw [hcf]; exact Nat.le_of_ble_eq_true rfl) kf0 rfl rfl (Nat.le_of_ble_eq_true rfl) ⟨f, A, a, b, rfl, hC, hab, (by assumption), (by assumption), (by omega), (by exact kne kf3 (by decide)), (by exact kne kf4 (by decide)), (by exact kne kA3 (by decide)), (by exact kne kA4 (by decide)), fun G58 hCG58 hXG58 hfG58 hpG58 => ?_⟩
          have hFG58 : WX (fun x => f + 1 ≤ x ∧ x ≤ f + 22) G G58 := WX.trans WX.rf KX.rf (WX.mono hfG58 rg0)
          have hFAG58 : FPa P G58 A := (hFA).ns hXG58 hfG58 ⟨KX.al KX.rf (kne kA3 (by decide)), KX.al KX.rf (kne kA4 (by decide))⟩ rg1
          have hFfG58 : FPa P G58 f := hpG58 P hFA
          show WP kX2_renamed X 82 [some (2, ((o : Nat) : Int)), some (2, ((A : Nat) : Int)), some (2, ((f : Nat) : Int))] [] G58
          have hobG58 : gS G58 o = gS G o := hFG58 o alo (by show ¬ _; omega)
          have hobG581 : gS G58 o 1 = gS G o 1 := congrFun hobG58 1
          have hobG583 : gS G58 o 3 = gS G o 3 := congrFun hobG58 3
          have hobG584 : gS G58 o 4 = gS G o 4 := congrFun hobG58 4
          refine s_aload_n dX2_renamed_82 rfl (Int.natCast_nonneg _) ?_
          refine s_aload_n dX2_renamed_83 rfl (Int.natCast_nonneg _) ?_
          have hk60 : gK G58 (o) = (13, 0) := ((hXG58).k hk2 (by decide))
          refine s_alv (o) (by simp) (fun al62 => ?_)
          have hv61 : 0 ≤ (gS G58 o 3) ∧ (gS G58 o 3) ≤ 9 := hCG58.1.v (j := 3) (by rw [cde_n (by omega) (by omega)]; omega : cde o = 100) al62 (by rw [hk60]; exact Nat.le_of_ble_eq_true rfl)
          refine s_getf (ci := 5) (k := 3) (C := RX4) (T := TX4) (N := 14) (n := o) (L := 0) (t := 0) dX2_renamed_84 rfl wi_72 m_570 (Nat.le_of_ble_eq_true rfl) rfl rfl hk60 rfl ?_
          have hk65 : gK G58 (f) = (9, 0) := ((hXG58).k kf0 (by decide))
          refine s_callV (as := [(0, gS G58 o 3)]) (rest := []) (n := f) (ci := 1) gX0_removeValue dX2_renamed_87 m_1341 m_752 m_1485 m_711 m_79 ⟨by decide, by decide, show (parseMethodDescriptor yX0_removeValue.desc).map (fun d => d.parameters.length) = some 1 from by decide +kernel⟩ (Nat.le_of_ble_eq_true rfl) (by rw [hcf]; exact Nat.le_of_ble_eq_true rfl) hk65 rfl rfl (Nat.le_of_ble_eq_true rfl) ⟨f, gS G58 o 3, a, b, rfl, hCG58, hab, (by first | assumption | omega), (by first | assumption | omega), fun G63 hCG63 hXG63 hfG63 hpG63 => ?_⟩
          have hFG63 : WX (fun x => f + 1 ≤ x ∧ x ≤ f + 22) G G63 := WX.trans hFG58 hXG58 (WX.mono hfG63 rg2)
          have hFAG63 : FPa P G63 A := (hFAG58).ns hXG63 hfG63 ⟨KX.al hXG58 (kne kA3 (by decide)), KX.al hXG58 (kne kA4 (by decide))⟩ rg3
          have hFfG63 : FPa P G63 f := fun p2 hp2 => by by_cases e : p2 = (6 + (gS G58 o 3) : Int).toNat; (focus (subst e; exact FPo.size0 (S := fun _ => False) (hFfG58 _ hp2) hXG63 (congrFun (hfG63 (f + 3) (KX.al hXG58 (kne kf3 (by decide))) (by show ¬ _; omega)) _) hpG63.1)); exact (hFfG58 p2 hp2).wx hXG63 hfG63 (by show ¬ _; omega) (congrFun (hfG63 (f + 3) (KX.al hXG58 (kne kf3 (by decide))) (by show ¬ _; omega)) _) (hpG63.2 p2 e)
          show WP kX2_renamed X 90 [some (2, ((o : Nat) : Int)), some (2, ((A : Nat) : Int)), some (2, ((f : Nat) : Int))] [] G63
          have hobG63 : gS G63 o = gS G o := hFG63 o alo (by show ¬ _; omega)
          have hobG631 : gS G63 o 1 = gS G o 1 := congrFun hobG63 1
          have hobG633 : gS G63 o 3 = gS G o 3 := congrFun hobG63 3
          have hobG634 : gS G63 o 4 = gS G o 4 := congrFun hobG63 4
          refine s_aload_n dX2_renamed_90 rfl (Int.natCast_nonneg _) ?_
          have hk66 : gK G63 (o) = (13, 0) := ((hXG63).k hk60 (by decide))
          refine s_alv (o) (by simp) (fun al68 => ?_)
          have hv67 : 0 ≤ (gS G63 o 1) ∧ (gS G63 o 1) ≤ 6 := hCG63.1.v (j := 1) (by rw [cde_n (by omega) (by omega)]; omega : cde o = 100) al68 (by rw [hk66]; exact Nat.le_of_ble_eq_true rfl)
          refine s_getf (ci := 5) (k := 1) (C := RX4) (T := TX4) (N := 14) (n := o) (L := 0) (t := 0) dX2_renamed_91 rfl wi_72 m_569 (Nat.le_of_ble_eq_true rfl) rfl rfl hk66 rfl ?_
          refine s_iconst dX2_renamed_94 (by decide) ?_
          refine s_icmp_ne (tgt := 111) dX2_renamed_95 (by decide) (fun c69 => ?_) (fun c69 => ?_)
          · -- 95 to 111
            refine s_iconst dX2_renamed_111 (by decide) ?_
            exact s_iret hR dX2_renamed_112 rfl (hQ 0 G63 hCG63 (KX.trans hXG58 hXG63) hFG63 hFfG63)
          · -- 95 to 98
            refine s_aload_n dX2_renamed_98 rfl (Int.natCast_nonneg _) ?_
            refine s_aload_n dX2_renamed_99 rfl (Int.natCast_nonneg _) ?_
            have hv70 : -1 ≤ (gS G63 o 4) ∧ (gS G63 o 4) ≤ 9 := hCG63.1.v (j := 4) (by rw [cde_n (by omega) (by omega)]; omega : cde o = 100) al68 (by rw [hk66]; exact Nat.le_of_ble_eq_true rfl)
            refine s_getf (ci := 5) (k := 4) (C := RX4) (T := TX4) (N := 14) (n := o) (L := 0) (t := 0) dX2_renamed_100 rfl wi_72 m_571 (Nat.le_of_ble_eq_true rfl) rfl rfl hk66 rfl ?_
            refine s_aload_n dX2_renamed_103 rfl (Int.natCast_nonneg _) ?_
            refine s_aload_n dX2_renamed_104 rfl (Int.natCast_nonneg _) ?_
            have hv71 : 0 ≤ (gS G63 o 3) ∧ (gS G63 o 3) ≤ 9 := hCG63.1.v (j := 3) (by rw [cde_n (by omega) (by omega)]; omega : cde o = 100) al68 (by rw [hk66]; exact Nat.le_of_ble_eq_true rfl)
            refine s_getf (ci := 5) (k := 3) (C := RX4) (T := TX4) (N := 14) (n := o) (L := 0) (t := 0) dX2_renamed_105 rfl wi_72 m_570 (Nat.le_of_ble_eq_true rfl) rfl rfl hk66 rfl ?_
            have hk74 : gK G63 (f) = (9, 0) := ((hXG63).k hk65 (by decide))
            refine s_callV (as := [(0, gS G63 o 4), (2, ((A : Nat) : Int)), (0, gS G63 o 3)]) (rest := []) (n := f) (ci := 1) gX0_copyValue dX2_renamed_108 m_1342 m_737 m_1471 m_711 m_64 ⟨by decide, by decide, show (parseMethodDescriptor yX0_copyValue.desc).map (fun d => d.parameters.length) = some 3 from by decide +kernel⟩ (Nat.le_of_ble_eq_true rfl) (by rw [hcf]; exact Nat.le_of_ble_eq_true rfl) hk74 rfl rfl (Nat.le_of_ble_eq_true rfl) ⟨f, gS G63 o 4, A, gS G63 o 3, a, b, rfl, hCG63, hab, (by assumption), (by omega), (by assumption), (by omega), (by omega), (by exact KX.al (KX.trans hXG58 hXG63) (kne kf3 (by decide))), (by exact KX.al (KX.trans hXG58 hXG63) (kne kf4 (by decide))), fun G72 hCG72 hXG72 hfG72 hpG72 => ?_⟩
            have hFG72 : WX (fun x => f + 1 ≤ x ∧ x ≤ f + 22) G G72 := WX.trans hFG63 (KX.trans hXG58 hXG63) (WX.mono hfG72 (fun x hx => by omega))
            have hFAG72 : FPa P G72 A := (hFAG63).ns hXG72 hfG72 ⟨KX.al (KX.trans hXG58 hXG63) (kne kA3 (by decide)), KX.al (KX.trans hXG58 hXG63) (kne kA4 (by decide))⟩ ⟨by show ¬ _; omega, by show ¬ _; omega, fun p hp => by show ¬ _; omega⟩
            have hFfG72 : FPa P G72 f := fun p2 hp2 => by by_cases e : p2 = (6 + (gS G63 o 4) : Int).toNat; (focus (subst e; exact hpG72.1 P (hFAG63 _ (by omega)))); exact (hFfG63 p2 hp2).wx hXG72 hfG72 (by show ¬ _; omega) (hpG72.2 p2 e).1 (hpG72.2 p2 e).2
            show WP kX2_renamed X 111 [some (2, ((o : Nat) : Int)), some (2, ((A : Nat) : Int)), some (2, ((f : Nat) : Int))] [] G72
            refine s_iconst dX2_renamed_111 (by decide) ?_
            exact s_iret hR dX2_renamed_112 rfl (hQ 0 G72 hCG72 (KX.trans (KX.trans hXG58 hXG63) hXG72) hFG72 hFfG72)
        · -- 54 to 57
          refine s_aload_n dX2_renamed_57 rfl (Int.natCast_nonneg _) ?_
          refine s_aload_n dX2_renamed_58 rfl (Int.natCast_nonneg _) ?_
          have hv75 : -1 ≤ (gS G o 4) ∧ (gS G o 4) ≤ 9 := hC.1.v (j := 4) (by rw [cde_n (by omega) (by omega)]; omega : cde o = 100) al1 (by rw [hk2]; exact Nat.le_of_ble_eq_true rfl)
          refine s_getf (ci := 5) (k := 4) (C := RX4) (T := TX4) (N := 14) (n := o) (L := 0) (t := 0) dX2_renamed_59 rfl wi_72 m_571 (Nat.le_of_ble_eq_true rfl) rfl rfl hk2 rfl ?_
          refine s_callV (as := [(0, gS G o 4)]) (rest := []) (n := A) (ci := 1) gX0_hasValue dX2_renamed_62 m_1313 m_739 m_1473 m_711 m_66 ⟨by decide, by decide, show (parseMethodDescriptor yX0_hasValue.desc).map (fun d => d.parameters.length) = some 1 from by decide +kernel⟩ (Nat.le_of_ble_eq_true rfl) (by rw [hcf]; exact Nat.le_of_ble_eq_true rfl) kA0 rfl rfl (Nat.le_of_ble_eq_true rfl) ⟨A, gS G o 4, a, b, rfl, hC, hab, (by first | assumption | omega), (by first | assumption | omega), fun rr76 hp77 => ?_⟩
          show WP kX2_renamed X 65 [some (2, ((o : Nat) : Int)), some (2, ((A : Nat) : Int)), some (2, ((f : Nat) : Int))] [(0, rr76)] G
          refine s_if_eq (tgt := 77) dX2_renamed_65 (by decide) (fun c78 => ?_) (fun c78 => ?_)
          · -- 65 to 77
            refine s_aload_n dX2_renamed_77 rfl (Int.natCast_nonneg _) ?_
            refine s_aload_n dX2_renamed_78 rfl (Int.natCast_nonneg _) ?_
            refine s_callV (as := [(2, ((A : Nat) : Int))]) (rest := []) (n := f) (ci := 1) gX0_copy dX2_renamed_79 m_1330 m_736 m_1470 m_711 m_63 ⟨by decide, by decide, show (parseMethodDescriptor yX0_copy.desc).map (fun d => d.parameters.length) = some 1 from by decide +kernel⟩ (Nat.le_of_ble_eq_true rfl) (by rw [hcf]; exact Nat.le_of_ble_eq_true rfl) kf0 rfl rfl (Nat.le_of_ble_eq_true rfl) ⟨f, A, a, b, rfl, hC, hab, (by assumption), (by assumption), (by omega), (by exact kne kf3 (by decide)), (by exact kne kf4 (by decide)), (by exact kne kA3 (by decide)), (by exact kne kA4 (by decide)), fun G79 hCG79 hXG79 hfG79 hpG79 => ?_⟩
            have hFG79 : WX (fun x => f + 1 ≤ x ∧ x ≤ f + 22) G G79 := WX.trans WX.rf KX.rf (WX.mono hfG79 rg0)
            have hFAG79 : FPa P G79 A := (hFA).ns hXG79 hfG79 ⟨KX.al KX.rf (kne kA3 (by decide)), KX.al KX.rf (kne kA4 (by decide))⟩ rg1
            have hFfG79 : FPa P G79 f := hpG79 P hFA
            show WP kX2_renamed X 82 [some (2, ((o : Nat) : Int)), some (2, ((A : Nat) : Int)), some (2, ((f : Nat) : Int))] [] G79
            have hobG79 : gS G79 o = gS G o := hFG79 o alo (by show ¬ _; omega)
            have hobG791 : gS G79 o 1 = gS G o 1 := congrFun hobG79 1
            have hobG793 : gS G79 o 3 = gS G o 3 := congrFun hobG79 3
            have hobG794 : gS G79 o 4 = gS G o 4 := congrFun hobG79 4
            refine s_aload_n dX2_renamed_82 rfl (Int.natCast_nonneg _) ?_
            refine s_aload_n dX2_renamed_83 rfl (Int.natCast_nonneg _) ?_
            have hk81 : gK G79 (o) = (13, 0) := ((hXG79).k hk2 (by decide))
            refine s_alv (o) (by simp) (fun al83 => ?_)
            have hv82 : 0 ≤ (gS G79 o 3) ∧ (gS G79 o 3) ≤ 9 := hCG79.1.v (j := 3) (by rw [cde_n (by omega) (by omega)]; omega : cde o = 100) al83 (by rw [hk81]; exact Nat.le_of_ble_eq_true rfl)
            refine s_getf (ci := 5) (k := 3) (C := RX4) (T := TX4) (N := 14) (n := o) (L := 0) (t := 0) dX2_renamed_84 rfl wi_72 m_570 (Nat.le_of_ble_eq_true rfl) rfl rfl hk81 rfl ?_
            have hk86 : gK G79 (f) = (9, 0) := ((hXG79).k kf0 (by decide))
            refine s_callV (as := [(0, gS G79 o 3)]) (rest := []) (n := f) (ci := 1) gX0_removeValue dX2_renamed_87 m_1341 m_752 m_1485 m_711 m_79 ⟨by decide, by decide, show (parseMethodDescriptor yX0_removeValue.desc).map (fun d => d.parameters.length) = some 1 from by decide +kernel⟩ (Nat.le_of_ble_eq_true rfl) (by rw [hcf]; exact Nat.le_of_ble_eq_true rfl) hk86 rfl rfl (Nat.le_of_ble_eq_true rfl) ⟨f, gS G79 o 3, a, b, rfl, hCG79, hab, (by first | assumption | omega), (by first | assumption | omega), fun G84 hCG84 hXG84 hfG84 hpG84 => ?_⟩
            have hFG84 : WX (fun x => f + 1 ≤ x ∧ x ≤ f + 22) G G84 := WX.trans hFG79 hXG79 (WX.mono hfG84 rg2)
            have hFAG84 : FPa P G84 A := (hFAG79).ns hXG84 hfG84 ⟨KX.al hXG79 (kne kA3 (by decide)), KX.al hXG79 (kne kA4 (by decide))⟩ rg3
            have hFfG84 : FPa P G84 f := fun p2 hp2 => by by_cases e : p2 = (6 + (gS G79 o 3) : Int).toNat; (focus (subst e; exact FPo.size0 (S := fun _ => False) (hFfG79 _ hp2) hXG84 (congrFun (hfG84 (f + 3) (KX.al hXG79 (kne kf3 (by decide))) (by show ¬ _; omega)) _) hpG84.1)); exact (hFfG79 p2 hp2).wx hXG84 hfG84 (by show ¬ _; omega) (congrFun (hfG84 (f + 3) (KX.al hXG79 (kne kf3 (by decide))) (by show ¬ _; omega)) _) (hpG84.2 p2 e)
            show WP kX2_renamed X 90 [some (2, ((o : Nat) : Int)), some (2, ((A : Nat) : Int)), some (2, ((f : Nat) : Int))] [] G84
            have hobG84 : gS G84 o = gS G o := hFG84 o alo (by show ¬ _; omega)
            have hobG841 : gS G84 o 1 = gS G o 1 := congrFun hobG84 1
            have hobG843 : gS G84 o 3 = gS G o 3 := congrFun hobG84 3
            have hobG844 : gS G84 o 4 = gS G o 4 := congrFun hobG84 4
            refine s_aload_n dX2_renamed_90 rfl (Int.natCast_nonneg _) ?_
            have hk87 : gK G84 (o) = (13, 0) := ((hXG84).k hk81 (by decide))
            refine s_alv (o) (by simp) (fun al89 => ?_)
            have hv88 : 0 ≤ (gS G84 o 1) ∧ (gS G84 o 1) ≤ 6 := hCG84.1.v (j := 1) (by rw [cde_n (by omega) (by omega)]; omega : cde o = 100) al89 (by rw [hk87]; exact Nat.le_of_ble_eq_true rfl)
            refine s_getf (ci := 5) (k := 1) (C := RX4) (T := TX4) (N := 14) (n := o) (L := 0) (t := 0) dX2_renamed_91 rfl wi_72 m_569 (Nat.le_of_ble_eq_true rfl) rfl rfl hk87 rfl ?_
            refine s_iconst dX2_renamed_94 (by decide) ?_
            refine s_icmp_ne (tgt := 111) dX2_renamed_95 (by decide) (fun c90 => ?_) (fun c90 => ?_)
            · -- 95 to 111
              refine s_iconst dX2_renamed_111 (by decide) ?_
              exact s_iret hR dX2_renamed_112 rfl (hQ 0 G84 hCG84 (KX.trans hXG79 hXG84) hFG84 hFfG84)
            · -- 95 to 98
              refine s_aload_n dX2_renamed_98 rfl (Int.natCast_nonneg _) ?_
              refine s_aload_n dX2_renamed_99 rfl (Int.natCast_nonneg _) ?_
              have hv91 : -1 ≤ (gS G84 o 4) ∧ (gS G84 o 4) ≤ 9 := hCG84.1.v (j := 4) (by rw [cde_n (by omega) (by omega)]; omega : cde o = 100) al89 (by rw [hk87]; exact Nat.le_of_ble_eq_true rfl)
              refine s_getf (ci := 5) (k := 4) (C := RX4) (T := TX4) (N := 14) (n := o) (L := 0) (t := 0) dX2_renamed_100 rfl wi_72 m_571 (Nat.le_of_ble_eq_true rfl) rfl rfl hk87 rfl ?_
              refine s_aload_n dX2_renamed_103 rfl (Int.natCast_nonneg _) ?_
              refine s_aload_n dX2_renamed_104 rfl (Int.natCast_nonneg _) ?_
              have hv92 : 0 ≤ (gS G84 o 3) ∧ (gS G84 o 3) ≤ 9 := hCG84.1.v (j := 3) (by rw [cde_n (by omega) (by omega)]; omega : cde o = 100) al89 (by rw [hk87]; exact Nat.le_of_ble_eq_true rfl)
              refine s_getf (ci := 5) (k := 3) (C := RX4) (T := TX4) (N := 14) (n := o) (L := 0) (t := 0) dX2_renamed_105 rfl wi_72 m_570 (Nat.le_of_ble_eq_true rfl) rfl rfl hk87 rfl ?_
              have hk95 : gK G84 (f) = (9, 0) := ((hXG84).k hk86 (by decide))
              refine s_callV (as := [(0, gS G84 o 4), (2, ((A : Nat) : Int)), (0, gS G84 o 3)]) (rest := []) (n := f) (ci := 1) gX0_copyValue dX2_renamed_108 m_1342 m_737 m_1471 m_711 m_64 ⟨by decide, by decide, show (parseMethodDescriptor yX0_copyValue.desc).map (fun d => d.parameters.length) = some 3 from by decide +kernel⟩ (Nat.le_of_ble_eq_true rfl) (by rw [hcf]; exact Nat.le_of_ble_eq_true rfl) hk95 rfl rfl (Nat.le_of_ble_eq_true rfl) ⟨f, gS G84 o 4, A, gS G84 o 3, a, b, rfl, hCG84, hab, (by assumption), (by omega), (by assumption), (by omega), (by omega), (by exact KX.al (KX.trans hXG79 hXG84) (kne kf3 (by decide))), (by exact KX.al (KX.trans hXG79 hXG84) (kne kf4 (by decide))), fun G93 hCG93 hXG93 hfG93 hpG93 => ?_⟩
              have hFG93 : WX (fun x => f + 1 ≤ x ∧ x ≤ f + 22) G G93 := WX.trans hFG84 (KX.trans hXG79 hXG84) (WX.mono hfG93 (fun x hx => by omega))
              have hFAG93 : FPa P G93 A := (hFAG84).ns hXG93 hfG93 ⟨KX.al (KX.trans hXG79 hXG84) (kne kA3 (by decide)), KX.al (KX.trans hXG79 hXG84) (kne kA4 (by decide))⟩ ⟨by show ¬ _; omega, by show ¬ _; omega, fun p hp => by show ¬ _; omega⟩
              have hFfG93 : FPa P G93 f := fun p2 hp2 => by by_cases e : p2 = (6 + (gS G84 o 4) : Int).toNat; (focus (subst e; exact hpG93.1 P (hFAG84 _ (by omega)))); exact (hFfG84 p2 hp2).wx hXG93 hfG93 (by show ¬ _; omega) (hpG93.2 p2 e).1 (hpG93.2 p2 e).2
              show WP kX2_renamed X 111 [some (2, ((o : Nat) : Int)), some (2, ((A : Nat) : Int)), some (2, ((f : Nat) : Int))] [] G93
              refine s_iconst dX2_renamed_111 (by decide) ?_
              exact s_iret hR dX2_renamed_112 rfl (hQ 0 G93 hCG93 (KX.trans (KX.trans hXG79 hXG84) hXG93) hFG93 hFfG93)
          · -- 65 to 68
            refine s_iconst dX2_renamed_68 (by decide) ?_
            refine s_aload_n dX2_renamed_69 rfl (Int.natCast_nonneg _) ?_
            refine s_getf (ci := 5) (k := 4) (C := RX4) (T := TX4) (N := 14) (n := o) (L := 0) (t := 0) dX2_renamed_70 rfl wi_72 m_571 (Nat.le_of_ble_eq_true rfl) rfl rfl hk2 rfl ?_
            refine s_callSN (own := RX2) rfl (by decide +kernel) (as := [(0, 4), (0, gS G o 4)]) (rest := []) gX11_valueMistake dX2_renamed_73 m_1784 m_714 m_129 ⟨by decide, by decide, show (parseMethodDescriptor yX11_valueMistake.desc).map (fun d => d.parameters.length) = some 2 from by decide +kernel⟩ (Nat.le_of_ble_eq_true rfl) (by rw [hcf]; exact Nat.le_of_ble_eq_true rfl) rfl (Nat.le_of_ble_eq_true rfl) ⟨4, gS G o 4, rfl, (by first | assumption | omega), (by first | assumption | omega), fun rr97 hp98 => ?_⟩
            show WP kX2_renamed X 76 [some (2, ((o : Nat) : Int)), some (2, ((A : Nat) : Int)), some (2, ((f : Nat) : Int))] [(0, rr97)] G
            exact s_iret hR dX2_renamed_76 rfl (hQ rr97 G hC KX.rf WX.rf hFf)
      · -- 36 to 39
        refine s_bipush dX2_renamed_39 rfl (by decide) ?_
        refine s_aload_n dX2_renamed_41 rfl (Int.natCast_nonneg _) ?_
        refine s_getf (ci := 5) (k := 3) (C := RX4) (T := TX4) (N := 14) (n := o) (L := 0) (t := 0) dX2_renamed_42 rfl wi_72 m_570 (Nat.le_of_ble_eq_true rfl) rfl rfl hk2 rfl ?_
        refine s_callSN (own := RX2) rfl (by decide +kernel) (as := [(0, 8), (0, gS G o 3)]) (rest := []) gX11_valueMistake dX2_renamed_45 m_1784 m_714 m_129 ⟨by decide, by decide, show (parseMethodDescriptor yX11_valueMistake.desc).map (fun d => d.parameters.length) = some 2 from by decide +kernel⟩ (Nat.le_of_ble_eq_true rfl) (by rw [hcf]; exact Nat.le_of_ble_eq_true rfl) rfl (Nat.le_of_ble_eq_true rfl) ⟨8, gS G o 3, rfl, (by first | assumption | omega), (by first | assumption | omega), fun rr100 hp101 => ?_⟩
        show WP kX2_renamed X 48 [some (2, ((o : Nat) : Int)), some (2, ((A : Nat) : Int)), some (2, ((f : Nat) : Int))] [(0, rr100)] G
        exact s_iret hR dX2_renamed_48 rfl (hQ rr100 G hC KX.rf WX.rf hFf)
  · -- 8 to 11
    refine s_iconst dX2_renamed_11 (by decide) ?_
    refine s_aload_n dX2_renamed_12 rfl (Int.natCast_nonneg _) ?_
    refine s_getf (ci := 5) (k := 3) (C := RX4) (T := TX4) (N := 14) (n := o) (L := 0) (t := 0) dX2_renamed_13 rfl wi_72 m_570 (Nat.le_of_ble_eq_true rfl) rfl rfl hk2 rfl ?_
    refine s_callSN (own := RX2) rfl (by decide +kernel) (as := [(0, 5), (0, gS G o 3)]) (rest := []) gX11_valueMistake dX2_renamed_16 m_1784 m_714 m_129 ⟨by decide, by decide, show (parseMethodDescriptor yX11_valueMistake.desc).map (fun d => d.parameters.length) = some 2 from by decide +kernel⟩ (Nat.le_of_ble_eq_true rfl) (by rw [hcf]; exact Nat.le_of_ble_eq_true rfl) rfl (Nat.le_of_ble_eq_true rfl) ⟨5, gS G o 3, rfl, (by first | assumption | omega), (by first | assumption | omega), fun rr103 hp104 => ?_⟩
    show WP kX2_renamed X 19 [some (2, ((o : Nat) : Int)), some (2, ((A : Nat) : Int)), some (2, ((f : Nat) : Int))] [(0, rr103)] G
    exact s_iret hR dX2_renamed_19 rfl (hQ rr103 G hC KX.rf WX.rf hFf)
