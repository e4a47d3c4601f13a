abbrev nX12_finishes : List Nat := [a_above, a_table]
abbrev jX12_finishes : List Nat := [69]
def TX12_finishes : TR := fun as G Qr => ∃ (n : Int) (I E : Int), as = [(2, ((1000 : Nat) : Int)), (0, n)] ∧ MG G ∧ (ND G) ∧ (0 ≤ n ∧ n < (gS G 1000 18)) ∧ (1 ≤ (gS G a_nKind (n).toNat)) ∧ (IN G I E) ∧ (1 ≤ (gS G 1000 69) ∧ (gS G 1000 69) ≤ 49) ∧ ((gS G a_nKind (n).toNat) = 1 ∨ (gS G a_nKind (n).toNat) = 3 → 2 ≤ (gS G 1000 69)) ∧ (∀ j : Int, 0 ≤ j → j < 10 * (gS G 1000 69) → -1 ≤ (gS G a_table (j).toNat) ∧ (gS G a_table (j).toNat) < E) ∧ (DN G n) ∧ ((gS G a_nKind (n).toNat) = 1 ∨ (gS G a_nKind (n).toNat) = 3 → TGd G ((gS G 1000 69) - 2) ((gS G a_nFirst (n).toNat)) E ∧ TGd G ((gS G 1000 69) - 1) ((gS G a_nSecond (n).toNat)) E) ∧ ((gS G a_nKind (n).toNat) = 2 ∨ 5 ≤ (gS G a_nKind (n).toNat) → TGd G ((gS G 1000 69) - 1) ((gS G a_nFirst (n).toNat)) E) ∧ ((gS G a_nKind (n).toNat) = 4 → TGd G ((gS G 1000 69) - 1) ((gS G a_nFirst (n).toNat)) E ∨ TGd G ((gS G 1000 69) - 1) ((gS G a_nSecond (n).toNat)) E) ∧ ∀ G' : LG, MG G' → (Fr nX12_finishes jX12_finishes G G' ∧ (IN G' I E ∧ ((gS G a_nKind (n).toNat) = 1 ∨ (gS G a_nKind (n).toNat) = 3 → (gS G' 1000 69) = (gS G 1000 69) - 1) ∧ (¬ ((gS G a_nKind (n).toNat) = 1 ∨ (gS G a_nKind (n).toNat) = 3) → (gS G' 1000 69) = (gS G 1000 69)) ∧ (∀ j : Int, 0 ≤ j → j < 10 * ((gS G' 1000 69) - 1) → (gS G' a_table (j).toNat) = (gS G a_table (j).toNat)) ∧ TGd G' ((gS G' 1000 69) - 1) n E)) → Qr (.inl none) G'
set_option maxHeartbeats 4000000 in
set_option maxRecDepth 100000 in
theorem gX12_finishes : Good kX12_finishes yX12_finishes 2 TX12_finishes := by
  refine good_of (by decide) rfl rfl (fun as G Qr h => ?_) (fun X as G Qr hcf hR hT oa => ?_)
  · obtain ⟨n, I, E, rfl, -⟩ := h; exact Nat.le_of_ble_eq_true rfl
  obtain ⟨n, I, E, rfl, hM, hND, hn, hk, hI, hT, hT2, hE, hDN, hg1, hg2, hg4, hQ⟩ := hT
  show WP kX12_finishes X 0 [some (2, ((1000 : Nat) : Int)), some (0, n), none, none, none, none, none, none] [] G
  have hr_n : inR n := okv_R (oa _ (by simp))
  have hnd := hND.2 n hn.1 hn.2
  have hnk := hnd.1
  have hn4 := hnd.2.2.2.1
  have hn6 := hnd.2.2.2.2.2.1
  have hn7 := hnd.2.2.2.2.2.2.1
  clear hnd
  have h40 := hND.1
  refine s_bipush dX12_finishes_0 rfl (by decide) ?_
  refine s_aload_n dX12_finishes_2 rfl (Int.natCast_nonneg _) ?_
  refine gf_tables rfl dX12_finishes_3 hM rfl ?_
  refine s_iconst dX12_finishes_6 (by decide) ?_
  refine s_isub dX12_finishes_7 (by omega) ?_
  refine s_imul dX12_finishes_8 (by omega) ?_
  refine s_istore_n dX12_finishes_9 (by decide) (lv' := [some (2, ((1000 : Nat) : Int)), some (0, n), some (0, 10 * ((gS G 1000 69) - 1)), none, none, none, none, none]) rfl ?_
  refine s_aload_n dX12_finishes_10 rfl (Int.natCast_nonneg _) ?_
  refine gf_nKind rfl dX12_finishes_11 hM ?_
  refine s_iload_n dX12_finishes_14 rfl ?_
  refine s_iald dX12_finishes_15 (mg_a_nKind hM) (by omega) (by omega) rfl ?_
  refine s_istore_n dX12_finishes_16 (by decide) (lv' := [some (2, ((1000 : Nat) : Int)), some (0, n), some (0, 10 * ((gS G 1000 69) - 1)), some (0, gS G a_nKind ((n).toNat)), none, none, none, none]) rfl ?_
  refine s_iload_n dX12_finishes_17 rfl ?_
  refine s_iconst dX12_finishes_18 (by decide) ?_
  refine s_icmp_eq (tgt := 27) dX12_finishes_19 (by decide) (fun c1 => ?_) (fun c1 => ?_)
  · -- 19 to 27
    have hTT := hT2 (by omega)
    clear hT2 hn4 hn6 hn7
    refine s_aload_n dX12_finishes_27 rfl (Int.natCast_nonneg _) ?_
    refine s_dup dX12_finishes_28 (by decide) ?_
    refine gf_tables rfl dX12_finishes_29 hM rfl ?_
    refine s_iconst dX12_finishes_32 (by decide) ?_
    refine s_isub dX12_finishes_33 (by omega) ?_
    refine pf_tables rfl dX12_finishes_34 hM (fun G2 eG2 hMG2 => ?_)
    have hFG2 : Fr nX12_finishes jX12_finishes G G2 := Fr.setF Fr.rf eG2 (by decide)
    refine s_iload_n dX12_finishes_37 rfl ?_
    refine s_bipush dX12_finishes_38 rfl (by decide) ?_
    refine s_isub dX12_finishes_40 (by omega) ?_
    refine s_istore dX12_finishes_41 (by decide) (lv' := [some (2, ((1000 : Nat) : Int)), some (0, n), some (0, 10 * ((gS G 1000 69) - 1)), some (0, gS G a_nKind ((n).toNat)), some (0, (10 * ((gS G 1000 69) - 1)) - 10), none, none, none]) rfl ?_
    refine s_iconst dX12_finishes_43 (by decide) ?_
    refine s_istore dX12_finishes_44 (by decide) (lv' := [some (2, ((1000 : Nat) : Int)), some (0, n), some (0, 10 * ((gS G 1000 69) - 1)), some (0, gS G a_nKind ((n).toNat)), some (0, (10 * ((gS G 1000 69) - 1)) - 10), some (0, 0), none, none]) rfl ?_
    have L3 : ∀ (n3 : Nat) (k3 : Int) (G3 : LG), MG G3 → Fr nX12_finishes jX12_finishes G G3 → ((0 ≤ k3 ∧ k3 ≤ 10) ∧ (IN G3 I E) ∧ ((gS G3 1000 69) = (gS G 1000 69) - 1) ∧ (∀ j : Int, 0 ≤ j → (j < 10 * ((gS G 1000 69) - 2) ∨ (10 * ((gS G 1000 69) - 2) + k3 ≤ j ∧ j < 10 * (gS G 1000 69))) → (gS G3 a_table (j).toNat) = (gS G a_table (j).toNat)) ∧ (∀ j : Int, 0 ≤ j → j < k3 → (-1 ≤ (gS G3 a_table (10 * ((gS G 1000 69) - 2) + j).toNat) ∧ (gS G3 a_table (10 * ((gS G 1000 69) - 2) + j).toNat) < E) ∧ ((0 ≤ (gS G a_table (10 * ((gS G 1000 69) - 2) + j).toNat) ∨ ((gS G a_nKind (n).toNat) = 1 ∧ 0 ≤ (gS G a_table (10 * ((gS G 1000 69) - 1) + j).toNat))) → 0 ≤ (gS G3 a_table (10 * ((gS G 1000 69) - 2) + j).toNat)))) → (10 - k3).toNat < n3 → WP kX12_finishes X 46 [some (2, ((1000 : Nat) : Int)), some (0, n), some (0, 10 * ((gS G 1000 69) - 1)), some (0, gS G a_nKind ((n).toNat)), some (0, (10 * ((gS G 1000 69) - 1)) - 10), some (0, k3), none, none] [] G3 := by
      intro n3
      induction n3 with
      | zero => intro k3 G3 hMG3 hFG3 hi3 hm3; exact absurd hm3 (Nat.not_lt_zero _)
      | succ n3 ih3 =>
        intro k3 G3 hMG3 hFG3 hi3 hm3
        have hj3 := hi3
        obtain ⟨ik3, iI3, it3, ib3, ia3⟩ := hi3
        refine s_iload dX12_finishes_46 rfl ?_
        refine s_bipush dX12_finishes_48 rfl (by decide) ?_
        refine s_icmp_ge (tgt := 137) dX12_finishes_50 (by decide) (fun c4 => ?_) (fun c4 => ?_)
        · -- 50 to 137
          refine s_goto (tgt := 252) dX12_finishes_137 (by decide) ?_
          exact s_vret hR dX12_finishes_252 rfl (hQ G3 hMG3 (⟨hFG3, ⟨iI3, fun _ => it3, fun z => by omega, fun j j0 j1 => ib3 j j0 (by omega), fun k k0 k1 => by have z1 := ia3 k k0 (by omega); rw [it3, show 10 * ((gS G 1000 69) - 1 - 1) + k = 10 * ((gS G 1000 69) - 2) + k by omega, hFG3.atA (n := a_sValue) (by decide) (by decide)]; refine ⟨z1.1, fun q => z1.2 ?_⟩; have z2 := hDN k k0 k1 q; obtain ⟨-, z3, -, z4, -⟩ := z2; have z5 := hg1 (by omega); have z6 := (z5.1 k k0 k1).2; have z7 := (z5.2 k k0 k1).2; omega⟩⟩))
        · -- 50 to 53
          refine s_aload_n dX12_finishes_53 rfl (Int.natCast_nonneg _) ?_
          refine gf_table rfl dX12_finishes_54 hMG3 ?_
          refine s_iload dX12_finishes_57 rfl ?_
          refine s_iload dX12_finishes_59 rfl ?_
          refine s_iadd dX12_finishes_61 (by omega) ?_
          refine s_iald dX12_finishes_62 (mg_a_table hMG3) (by omega) (by omega) rfl ?_
          refine s_istore dX12_finishes_63 (by decide) (lv' := [some (2, ((1000 : Nat) : Int)), some (0, n), some (0, 10 * ((gS G 1000 69) - 1)), some (0, gS G a_nKind ((n).toNat)), some (0, (10 * ((gS G 1000 69) - 1)) - 10), some (0, k3), some (0, gS G3 a_table ((((10 * ((gS G 1000 69) - 1)) - 10) + k3).toNat)), none]) rfl ?_
          refine s_aload_n dX12_finishes_65 rfl (Int.natCast_nonneg _) ?_
          refine gf_table rfl dX12_finishes_66 hMG3 ?_
          refine s_iload_n dX12_finishes_69 rfl ?_
          refine s_iload dX12_finishes_70 rfl ?_
          refine s_iadd dX12_finishes_72 (by omega) ?_
          refine s_iald dX12_finishes_73 (mg_a_table hMG3) (by omega) (by omega) rfl ?_
          refine s_istore dX12_finishes_74 (by decide) (lv' := [some (2, ((1000 : Nat) : Int)), some (0, n), some (0, 10 * ((gS G 1000 69) - 1)), some (0, gS G a_nKind ((n).toNat)), some (0, (10 * ((gS G 1000 69) - 1)) - 10), some (0, k3), some (0, gS G3 a_table ((((10 * ((gS G 1000 69) - 1)) - 10) + k3).toNat)), some (0, gS G3 a_table (((10 * ((gS G 1000 69) - 1)) + k3).toNat))]) rfl ?_
          have hone3 : gS G3 a_table ((((10 * ((gS G 1000 69) - 1)) - 10) + k3).toNat) = (gS G a_table (10 * ((gS G 1000 69) - 2) + k3).toNat) := by rw [show 10 * ((gS G 1000 69) - 1) - 10 + k3 = 10 * ((gS G 1000 69) - 2) + k3 by omega]; exact ib3 _ (by omega) (by omega)
          have hoth3 : gS G3 a_table (((10 * ((gS G 1000 69) - 1)) + k3).toNat) = (gS G a_table (10 * ((gS G 1000 69) - 1) + k3).toNat) := ib3 _ (by omega) (by omega)
          have hre3 := hE (10 * ((gS G 1000 69) - 2) + k3) (by omega) (by omega)
          have hrf3 := hE (10 * ((gS G 1000 69) - 1) + k3) (by omega) (by omega)
          refine s_aload_n dX12_finishes_76 rfl (Int.natCast_nonneg _) ?_
          refine gf_table rfl dX12_finishes_77 hMG3 ?_
          refine s_iload dX12_finishes_80 rfl ?_
          refine s_iload dX12_finishes_82 rfl ?_
          refine s_iadd dX12_finishes_84 (by omega) ?_
          refine s_iload dX12_finishes_85 rfl ?_
          refine s_iconst dX12_finishes_87 (by decide) ?_
          refine s_icmp_eq (tgt := 108) dX12_finishes_88 (by decide) (fun c5 => ?_) (fun c5 => ?_)
          · -- 88 to 108
            refine s_iload dX12_finishes_108 rfl ?_
            refine s_iconst dX12_finishes_110 (by decide) ?_
            have J7 : ∀ z6 : Int, (((gS G3 a_table ((((10 * ((gS G 1000 69) - 1)) - 10) + k3).toNat)) = ((-1))) ∧ (¬ (gS G a_nKind ((n).toNat)) = 1) ∧ z6 = (-1)) ∨ (((gS G3 a_table ((((10 * ((gS G 1000 69) - 1)) - 10) + k3).toNat)) = ((-1))) ∧ ((gS G a_nKind ((n).toNat)) = 1) ∧ z6 = gS G3 a_table (((10 * ((gS G 1000 69) - 1)) + k3).toNat)) ∨ ((¬ (gS G3 a_table ((((10 * ((gS G 1000 69) - 1)) - 10) + k3).toNat)) = ((-1))) ∧ z6 = gS G3 a_table ((((10 * ((gS G 1000 69) - 1)) - 10) + k3).toNat)) → WP kX12_finishes X 130 [some (2, ((1000 : Nat) : Int)), some (0, n), some (0, 10 * ((gS G 1000 69) - 1)), some (0, gS G a_nKind ((n).toNat)), some (0, (10 * ((gS G 1000 69) - 1)) - 10), some (0, k3), some (0, gS G3 a_table ((((10 * ((gS G 1000 69) - 1)) - 10) + k3).toNat)), some (0, gS G3 a_table (((10 * ((gS G 1000 69) - 1)) + k3).toNat))] [(0, z6), (0, ((10 * ((gS G 1000 69) - 1)) - 10) + k3), (2, ((a_table : Nat) : Int))] G3 := by
              intro z6 hz6
              refine r_iast dX12_finishes_130 hMG3 (mg_a_table hMG3) (by decide) (by omega) (by omega) (fun G8 eG8 hMG8 => ?_)
              have hFG8 : Fr nX12_finishes jX12_finishes G G8 := Fr.setA hFG3 eG8 (by decide)
              show WP kX12_finishes X 131 [some (2, ((1000 : Nat) : Int)), some (0, n), some (0, 10 * ((gS G 1000 69) - 1)), some (0, gS G a_nKind ((n).toNat)), some (0, (10 * ((gS G 1000 69) - 1)) - 10), some (0, k3), some (0, gS G3 a_table ((((10 * ((gS G 1000 69) - 1)) - 10) + k3).toNat)), some (0, gS G3 a_table (((10 * ((gS G 1000 69) - 1)) + k3).toNat))] [] G8
              refine s_iinc dX12_finishes_131 (v := k3) rfl (by omega) (by decide) (lv' := [some (2, ((1000 : Nat) : Int)), some (0, n), some (0, 10 * ((gS G 1000 69) - 1)), some (0, gS G a_nKind ((n).toNat)), some (0, (10 * ((gS G 1000 69) - 1)) - 10), some (0, k3 + 1), some (0, gS G3 a_table ((((10 * ((gS G 1000 69) - 1)) - 10) + k3).toNat)), some (0, gS G3 a_table (((10 * ((gS G 1000 69) - 1)) + k3).toNat))]) rfl ?_
              refine s_goto (tgt := 46) dX12_finishes_134 (by decide) ?_
              refine s_mask [true, true, true, true, true, true, false, false] (lv' := [some (2, ((1000 : Nat) : Int)), some (0, n), some (0, 10 * ((gS G 1000 69) - 1)), some (0, gS G a_nKind ((n).toNat)), some (0, (10 * ((gS G 1000 69) - 1)) - 10), some (0, k3 + 1), none, none]) rfl ?_
              have hu9 : ∀ y : Nat, gS G8 a_table y = if y = (10 * ((gS G 1000 69) - 2) + k3).toNat then z6 else gS G3 a_table y := fun y => by rw [g_upd eG8, show (10 * ((gS G 1000 69) - 1) - 10 + k3).toNat = (10 * ((gS G 1000 69) - 2) + k3).toNat by omega]
              exact ih3 (k3 + 1) G8 hMG8 hFG8 (⟨(by omega), (by exact (iI3).agr ((Fr.setA (Fr.rf) eG8 (by decide) : Fr [a_table] [] G3 G8).agr (by decide) (by decide) (by decide))), (by rw [(Fr.setA (Fr.rf) eG8 (by decide) : Fr [a_table] [] G3 G8).atF (by decide) (by decide)]; exact it3), (by intro j j0 j1; rw [hu9, if_neg (by omega)]; exact ib3 j j0 (by omega)), (by intro j j0 j1; by_cases hj : j = k3; (subst hj; rw [hu9, if_pos rfl]; omega); (rw [hu9, if_neg (by omega)]; exact ia3 j j0 (by omega)))⟩) (by omega)
            refine s_icmp_eq (tgt := 119) dX12_finishes_111 (by decide) (fun c9 => ?_) (fun c9 => ?_)
            · -- 111 to 119
              refine s_iload_n dX12_finishes_119 rfl ?_
              refine s_iconst dX12_finishes_120 (by decide) ?_
              refine s_icmp_ne (tgt := 129) dX12_finishes_121 (by decide) (fun c10 => ?_) (fun c10 => ?_)
              · -- 121 to 129
                refine s_iconst dX12_finishes_129 (by decide) ?_
                exact J7 ((-1)) (Or.inl ⟨c9, c10, rfl⟩)
              · -- 121 to 124
                refine s_iload dX12_finishes_124 rfl ?_
                refine s_goto (tgt := 130) dX12_finishes_126 (by decide) ?_
                exact J7 _ (Or.inr (Or.inl ⟨c9, c10, rfl⟩))
            · -- 111 to 114
              refine s_iload dX12_finishes_114 rfl ?_
              refine s_goto (tgt := 130) dX12_finishes_116 (by decide) ?_
              exact J7 _ (Or.inr (Or.inr (⟨c9, rfl⟩)))
          · -- 88 to 91
            refine s_iload dX12_finishes_91 rfl ?_
            refine s_iconst dX12_finishes_93 (by decide) ?_
            refine s_icmp_eq (tgt := 108) dX12_finishes_94 (by decide) (fun c11 => ?_) (fun c11 => ?_)
            · -- 94 to 108
              refine s_iload dX12_finishes_108 rfl ?_
              refine s_iconst dX12_finishes_110 (by decide) ?_
              have J13 : ∀ z12 : Int, (((gS G3 a_table ((((10 * ((gS G 1000 69) - 1)) - 10) + k3).toNat)) = ((-1))) ∧ (¬ (gS G a_nKind ((n).toNat)) = 1) ∧ z12 = (-1)) ∨ (((gS G3 a_table ((((10 * ((gS G 1000 69) - 1)) - 10) + k3).toNat)) = ((-1))) ∧ ((gS G a_nKind ((n).toNat)) = 1) ∧ z12 = gS G3 a_table (((10 * ((gS G 1000 69) - 1)) + k3).toNat)) ∨ ((¬ (gS G3 a_table ((((10 * ((gS G 1000 69) - 1)) - 10) + k3).toNat)) = ((-1))) ∧ z12 = gS G3 a_table ((((10 * ((gS G 1000 69) - 1)) - 10) + k3).toNat)) → WP kX12_finishes X 130 [some (2, ((1000 : Nat) : Int)), some (0, n), some (0, 10 * ((gS G 1000 69) - 1)), some (0, gS G a_nKind ((n).toNat)), some (0, (10 * ((gS G 1000 69) - 1)) - 10), some (0, k3), some (0, gS G3 a_table ((((10 * ((gS G 1000 69) - 1)) - 10) + k3).toNat)), some (0, gS G3 a_table (((10 * ((gS G 1000 69) - 1)) + k3).toNat))] [(0, z12), (0, ((10 * ((gS G 1000 69) - 1)) - 10) + k3), (2, ((a_table : Nat) : Int))] G3 := by
                intro z12 hz12
                refine r_iast dX12_finishes_130 hMG3 (mg_a_table hMG3) (by decide) (by omega) (by omega) (fun G14 eG14 hMG14 => ?_)
                have hFG14 : Fr nX12_finishes jX12_finishes G G14 := Fr.setA hFG3 eG14 (by decide)
                show WP kX12_finishes X 131 [some (2, ((1000 : Nat) : Int)), some (0, n), some (0, 10 * ((gS G 1000 69) - 1)), some (0, gS G a_nKind ((n).toNat)), some (0, (10 * ((gS G 1000 69) - 1)) - 10), some (0, k3), some (0, gS G3 a_table ((((10 * ((gS G 1000 69) - 1)) - 10) + k3).toNat)), some (0, gS G3 a_table (((10 * ((gS G 1000 69) - 1)) + k3).toNat))] [] G14
                refine s_iinc dX12_finishes_131 (v := k3) rfl (by omega) (by decide) (lv' := [some (2, ((1000 : Nat) : Int)), some (0, n), some (0, 10 * ((gS G 1000 69) - 1)), some (0, gS G a_nKind ((n).toNat)), some (0, (10 * ((gS G 1000 69) - 1)) - 10), some (0, k3 + 1), some (0, gS G3 a_table ((((10 * ((gS G 1000 69) - 1)) - 10) + k3).toNat)), some (0, gS G3 a_table (((10 * ((gS G 1000 69) - 1)) + k3).toNat))]) rfl ?_
                refine s_goto (tgt := 46) dX12_finishes_134 (by decide) ?_
                refine s_mask [true, true, true, true, true, true, false, false] (lv' := [some (2, ((1000 : Nat) : Int)), some (0, n), some (0, 10 * ((gS G 1000 69) - 1)), some (0, gS G a_nKind ((n).toNat)), some (0, (10 * ((gS G 1000 69) - 1)) - 10), some (0, k3 + 1), none, none]) rfl ?_
                have hu9 : ∀ y : Nat, gS G14 a_table y = if y = (10 * ((gS G 1000 69) - 2) + k3).toNat then z12 else gS G3 a_table y := fun y => by rw [g_upd eG14, show (10 * ((gS G 1000 69) - 1) - 10 + k3).toNat = (10 * ((gS G 1000 69) - 2) + k3).toNat by omega]
                exact ih3 (k3 + 1) G14 hMG14 hFG14 (⟨(by omega), (by exact (iI3).agr ((Fr.setA (Fr.rf) eG14 (by decide) : Fr [a_table] [] G3 G14).agr (by decide) (by decide) (by decide))), (by rw [(Fr.setA (Fr.rf) eG14 (by decide) : Fr [a_table] [] G3 G14).atF (by decide) (by decide)]; exact it3), (by intro j j0 j1; rw [hu9, if_neg (by omega)]; exact ib3 j j0 (by omega)), (by intro j j0 j1; by_cases hj : j = k3; (subst hj; rw [hu9, if_pos rfl]; omega); (rw [hu9, if_neg (by omega)]; exact ia3 j j0 (by omega)))⟩) (by omega)
              refine s_icmp_eq (tgt := 119) dX12_finishes_111 (by decide) (fun c15 => ?_) (fun c15 => ?_)
              · -- 111 to 119
                refine s_iload_n dX12_finishes_119 rfl ?_
                refine s_iconst dX12_finishes_120 (by decide) ?_
                refine s_icmp_ne (tgt := 129) dX12_finishes_121 (by decide) (fun c16 => ?_) (fun c16 => ?_)
                · -- 121 to 129
                  refine s_iconst dX12_finishes_129 (by decide) ?_
                  exact J13 ((-1)) (Or.inl ⟨c15, c16, rfl⟩)
                · -- 121 to 124
                  refine s_iload dX12_finishes_124 rfl ?_
                  refine s_goto (tgt := 130) dX12_finishes_126 (by decide) ?_
                  exact J13 _ (Or.inr (Or.inl ⟨c15, c16, rfl⟩))
              · -- 111 to 114
                refine s_iload dX12_finishes_114 rfl ?_
                refine s_goto (tgt := 130) dX12_finishes_116 (by decide) ?_
                exact J13 _ (Or.inr (Or.inr (⟨c15, rfl⟩)))
            · -- 94 to 97
              refine s_aload_n dX12_finishes_97 rfl (Int.natCast_nonneg _) ?_
              refine s_iload dX12_finishes_98 rfl ?_
              refine s_iload dX12_finishes_100 rfl ?_
              refine cv_X12_503 rfl gX12_together dX12_finishes_102 hMG3 (by rw [hcf]; decide) (as := [(0, gS G3 a_table ((((10 * ((gS G 1000 69) - 1)) - 10) + k3).toNat)), (0, gS G3 a_table (((10 * ((gS G 1000 69) - 1)) + k3).toNat))]) rfl (Nat.le_of_ble_eq_true rfl) ⟨gS G3 a_table ((((10 * ((gS G 1000 69) - 1)) - 10) + k3).toNat), gS G3 a_table (((10 * ((gS G 1000 69) - 1)) + k3).toNat), I, E, rfl, hMG3, (by exact iI3), (by omega), (by omega), fun r18 G17 hMG17 hpG17 => ?_⟩
              obtain ⟨hfG17, hpG17⟩ := hpG17
              have hFG17 : Fr nX12_finishes jX12_finishes G G17 := Fr.call hFG3 hfG17 (by decide) (by decide)
              show WP kX12_finishes X 105 [some (2, ((1000 : Nat) : Int)), some (0, n), some (0, 10 * ((gS G 1000 69) - 1)), some (0, gS G a_nKind ((n).toNat)), some (0, (10 * ((gS G 1000 69) - 1)) - 10), some (0, k3), some (0, gS G3 a_table ((((10 * ((gS G 1000 69) - 1)) - 10) + k3).toNat)), some (0, gS G3 a_table (((10 * ((gS G 1000 69) - 1)) + k3).toNat))] [(0, r18), (0, ((10 * ((gS G 1000 69) - 1)) - 10) + k3), (2, ((a_table : Nat) : Int))] G17
              refine s_goto (tgt := 130) dX12_finishes_105 (by decide) ?_
              refine r_iast dX12_finishes_130 hMG17 (mg_a_table hMG17) (by decide) (by omega) (by omega) (fun G19 eG19 hMG19 => ?_)
              have hFG19 : Fr nX12_finishes jX12_finishes G G19 := Fr.setA hFG17 eG19 (by decide)
              show WP kX12_finishes X 131 [some (2, ((1000 : Nat) : Int)), some (0, n), some (0, 10 * ((gS G 1000 69) - 1)), some (0, gS G a_nKind ((n).toNat)), some (0, (10 * ((gS G 1000 69) - 1)) - 10), some (0, k3), some (0, gS G3 a_table ((((10 * ((gS G 1000 69) - 1)) - 10) + k3).toNat)), some (0, gS G3 a_table (((10 * ((gS G 1000 69) - 1)) + k3).toNat))] [] G19
              refine s_iinc dX12_finishes_131 (v := k3) rfl (by omega) (by decide) (lv' := [some (2, ((1000 : Nat) : Int)), some (0, n), some (0, 10 * ((gS G 1000 69) - 1)), some (0, gS G a_nKind ((n).toNat)), some (0, (10 * ((gS G 1000 69) - 1)) - 10), some (0, k3 + 1), some (0, gS G3 a_table ((((10 * ((gS G 1000 69) - 1)) - 10) + k3).toNat)), some (0, gS G3 a_table (((10 * ((gS G 1000 69) - 1)) + k3).toNat))]) rfl ?_
              refine s_goto (tgt := 46) dX12_finishes_134 (by decide) ?_
              refine s_mask [true, true, true, true, true, true, false, false] (lv' := [some (2, ((1000 : Nat) : Int)), some (0, n), some (0, 10 * ((gS G 1000 69) - 1)), some (0, gS G a_nKind ((n).toNat)), some (0, (10 * ((gS G 1000 69) - 1)) - 10), some (0, k3 + 1), none, none]) rfl ?_
              have hu9 : ∀ y : Nat, gS G19 a_table y = if y = (10 * ((gS G 1000 69) - 2) + k3).toNat then r18 else gS G3 a_table y := fun y => by rw [g_upd eG19, show (10 * ((gS G 1000 69) - 1) - 10 + k3).toNat = (10 * ((gS G 1000 69) - 2) + k3).toNat by omega, hfG17.atA (by decide) (by decide)]
              exact ih3 (k3 + 1) G19 hMG19 hFG19 (⟨(by omega), (by exact (hpG17.1).agr ((Fr.setA (Fr.rf) eG19 (by decide) : Fr [a_table] [] G17 G19).agr (by decide) (by decide) (by decide))), (by rw [(Fr.setA (Fr.call (Fr.rf) hfG17 (by decide) (by decide)) eG19 (by decide) : Fr [a_above, a_table] [] G3 G19).atF (by decide) (by decide)]; exact it3), (by intro j j0 j1; rw [hu9, if_neg (by omega)]; exact ib3 j j0 (by omega)), (by intro j j0 j1; by_cases hj : j = k3; (subst hj; rw [hu9, if_pos rfl]; omega); (rw [hu9, if_neg (by omega)]; exact ia3 j j0 (by omega)))⟩) (by omega)
    exact L3 _ 0 G2 hMG2 hFG2 (⟨(by omega), (by exact hI.agr ((Fr.setF (Fr.rf) eG2 (by decide) : Fr [] [69] G G2).agr (by decide) (by decide) (by decide))), (by exact gsaE eG2), (by intro j j0 j1; exact gsnE eG2 (by decide)), (by intro j j0 j1; omega)⟩) (Nat.lt_succ_self _)
  · -- 19 to 22
    refine s_iload_n dX12_finishes_22 rfl ?_
    refine s_iconst dX12_finishes_23 (by decide) ?_
    refine s_icmp_ne (tgt := 140) dX12_finishes_24 (by decide) (fun c20 => ?_) (fun c20 => ?_)
    · -- 24 to 140
      refine s_iload_n dX12_finishes_140 rfl ?_
      refine s_iconst dX12_finishes_141 (by decide) ?_
      refine s_icmp_ne (tgt := 202) dX12_finishes_142 (by decide) (fun c21 => ?_) (fun c21 => ?_)
      · -- 142 to 202
        clear hT2 hn4
        refine s_iload_n dX12_finishes_202 rfl ?_
        refine s_iconst dX12_finishes_203 (by decide) ?_
        refine s_icmp_lt (tgt := 252) dX12_finishes_204 (by decide) (fun c22 => ?_) (fun c22 => ?_)
        · -- 204 to 252
          exact s_vret hR dX12_finishes_252 rfl (hQ G hM (⟨Fr.rf, ⟨hI, fun z => by omega, fun _ => rfl, fun j j0 j1 => rfl, fun k k0 k1 => by have z1 := hE (10 * ((gS G 1000 69) - 1) + k) (by omega) (by omega); refine ⟨z1, fun q => ?_⟩; have z2 := hDN k k0 k1 q; obtain ⟨-, -, -, -, z3, -⟩ := z2; have z4 := z3 (by omega); rcases hg4 (by omega) with z5 | z5; (exact (z5 k k0 k1).2 z4.1); (exact (z5 k k0 k1).2 z4.2)⟩⟩))
        · -- 204 to 207
          have hns6 := hn6 (by omega)
          clear hn6
          refine s_iload_n dX12_finishes_207 rfl ?_
          refine s_iconst dX12_finishes_208 (by decide) ?_
          refine s_icmp_ne (tgt := 238) dX12_finishes_209 (by decide) (fun c23 => ?_) (fun c23 => ?_)
          · -- 209 to 238
            refine s_aload_n dX12_finishes_238 rfl (Int.natCast_nonneg _) ?_
            refine gf_table rfl dX12_finishes_239 hM ?_
            refine s_iload_n dX12_finishes_242 rfl ?_
            refine s_aload_n dX12_finishes_243 rfl (Int.natCast_nonneg _) ?_
            refine gf_nSecond rfl dX12_finishes_244 hM ?_
            refine s_iload_n dX12_finishes_247 rfl ?_
            refine s_iald dX12_finishes_248 (mg_a_nSecond hM) (by omega) (by omega) rfl ?_
            refine s_iadd dX12_finishes_249 (by omega) ?_
            refine s_iconst dX12_finishes_250 (by decide) ?_
            refine r_iast dX12_finishes_251 hM (mg_a_table hM) (by decide) (by omega) (by omega) (fun G24 eG24 hMG24 => ?_)
            have hFG24 : Fr nX12_finishes jX12_finishes G G24 := Fr.setA Fr.rf eG24 (by decide)
            show WP kX12_finishes X 252 [some (2, ((1000 : Nat) : Int)), some (0, n), some (0, 10 * ((gS G 1000 69) - 1)), some (0, gS G a_nKind ((n).toNat)), none, none, none, none] [] G24
            have hff := (Fr.setA (Fr.rf) eG24 (by decide) : Fr [a_table] [] G G24)
            exact s_vret hR dX12_finishes_252 rfl (hQ G24 hMG24 (⟨hFG24, ⟨hI.agr (hff.agr (by decide) (by decide) (by decide)), fun z => by omega, fun _ => hff.atF (by decide) (by decide), fun j j0 j1 => by rw [hff.atF (by decide) (by decide)] at j1; rw [g_ne (g_upd eG24) (by omega)], fun k k0 k1 => by rw [hff.atF (by decide) (by decide), hff.atA (n := a_sValue) (by decide) (by decide)]; have z1 := hE (10 * ((gS G 1000 69) - 1) + k) (by omega) (by omega); have z8 := hE (10 * ((gS G 1000 69) - 1) + (gS G a_nSecond (n).toNat)) (by omega) (by omega); have z6 := (hg2 (by omega) k k0 k1).2; have z7 := (hg2 (by omega) ((gS G a_nSecond (n).toNat)) (by omega) (by omega)).2; have z2 := hDN k k0 k1; by_cases h1 : k = (gS G a_nSecond (n).toNat); (rw [h1, g_at (g_upd eG24)]; rw [← h1]; exact ⟨by omega, fun q => absurd h1 ((z2 q).2.2.2.2.2 (by omega)).1⟩); (rw [g_ne (g_upd eG24) (by omega)]; exact ⟨z1, fun q => z6 (((z2 q).2.2.2.2.2 (by omega)).2.2 (fun z => by omega))⟩)⟩⟩))
          · -- 209 to 212
            refine s_aload_n dX12_finishes_212 rfl (Int.natCast_nonneg _) ?_
            refine gf_table rfl dX12_finishes_213 hM ?_
            refine s_iload_n dX12_finishes_216 rfl ?_
            refine s_aload_n dX12_finishes_217 rfl (Int.natCast_nonneg _) ?_
            refine gf_nThird rfl dX12_finishes_218 hM ?_
            refine s_iload_n dX12_finishes_221 rfl ?_
            refine s_iald dX12_finishes_222 (mg_a_nThird hM) (by omega) (by omega) rfl ?_
            refine s_iadd dX12_finishes_223 (by omega) ?_
            refine s_aload_n dX12_finishes_224 rfl (Int.natCast_nonneg _) ?_
            refine gf_table rfl dX12_finishes_225 hM ?_
            refine s_iload_n dX12_finishes_228 rfl ?_
            refine s_aload_n dX12_finishes_229 rfl (Int.natCast_nonneg _) ?_
            refine gf_nSecond rfl dX12_finishes_230 hM ?_
            refine s_iload_n dX12_finishes_233 rfl ?_
            refine s_iald dX12_finishes_234 (mg_a_nSecond hM) (by omega) (by omega) rfl ?_
            refine s_iadd dX12_finishes_235 (by omega) ?_
            refine s_iald dX12_finishes_236 (mg_a_table hM) (by omega) (by omega) rfl ?_
            refine r_iast dX12_finishes_237 hM (mg_a_table hM) (by decide) (by omega) (by omega) (fun G25 eG25 hMG25 => ?_)
            have hFG25 : Fr nX12_finishes jX12_finishes G G25 := Fr.setA Fr.rf eG25 (by decide)
            show WP kX12_finishes X 238 [some (2, ((1000 : Nat) : Int)), some (0, n), some (0, 10 * ((gS G 1000 69) - 1)), some (0, gS G a_nKind ((n).toNat)), none, none, none, none] [] G25
            refine s_aload_n dX12_finishes_238 rfl (Int.natCast_nonneg _) ?_
            refine gf_table rfl dX12_finishes_239 hMG25 ?_
            refine s_iload_n dX12_finishes_242 rfl ?_
            refine s_aload_n dX12_finishes_243 rfl (Int.natCast_nonneg _) ?_
            refine gf_nSecond rfl dX12_finishes_244 hMG25 ?_
            refine s_iload_n dX12_finishes_247 rfl ?_
            refine s_iald dX12_finishes_248 (mg_a_nSecond hMG25) (by omega) (by omega) (gsnE eG25 (by decide)) ?_
            refine s_iadd dX12_finishes_249 (by omega) ?_
            refine s_iconst dX12_finishes_250 (by decide) ?_
            refine r_iast dX12_finishes_251 hMG25 (mg_a_table hMG25) (by decide) (by omega) (by omega) (fun G26 eG26 hMG26 => ?_)
            have hFG26 : Fr nX12_finishes jX12_finishes G G26 := Fr.setA hFG25 eG26 (by decide)
            show WP kX12_finishes X 252 [some (2, ((1000 : Nat) : Int)), some (0, n), some (0, 10 * ((gS G 1000 69) - 1)), some (0, gS G a_nKind ((n).toNat)), none, none, none, none] [] G26
            have hff := (Fr.setA (Fr.setA (Fr.rf) eG25 (by decide)) eG26 (by decide) : Fr [a_table] [] G G26)
            exact s_vret hR dX12_finishes_252 rfl (hQ G26 hMG26 (⟨hFG26, ⟨hI.agr (hff.agr (by decide) (by decide) (by decide)), fun z => by omega, fun _ => hff.atF (by decide) (by decide), fun j j0 j1 => by rw [hff.atF (by decide) (by decide)] at j1; rw [g_ne (g_upd eG26) (by omega), g_ne (g_upd eG25) (by omega)], fun k k0 k1 => by rw [hff.atF (by decide) (by decide), hff.atA (n := a_sValue) (by decide) (by decide)]; have z1 := hE (10 * ((gS G 1000 69) - 1) + k) (by omega) (by omega); have z8 := hE (10 * ((gS G 1000 69) - 1) + (gS G a_nSecond (n).toNat)) (by omega) (by omega); have z6 := (hg2 (by omega) k k0 k1).2; have z7 := (hg2 (by omega) ((gS G a_nSecond (n).toNat)) (by omega) (by omega)).2; have z2 := hDN k k0 k1; by_cases h1 : k = (gS G a_nSecond (n).toNat); (rw [h1, g_at (g_upd eG26)]; rw [← h1]; exact ⟨by omega, fun q => absurd h1 ((z2 q).2.2.2.2.2 (by omega)).1⟩); (rw [g_ne (g_upd eG26) (by omega)]; by_cases h2 : k = (gS G a_nThird (n).toNat); (rw [h2, g_at (g_upd eG25)]; rw [← h2]; exact ⟨z8, fun q => z7 (((z2 q).2.2.2.2.2 (by omega)).2.1 (by omega) h2)⟩); (rw [g_ne (g_upd eG25) (by omega)]; exact ⟨z1, fun q => z6 (((z2 q).2.2.2.2.2 (by omega)).2.2 (fun _ => h2))⟩))⟩⟩))
      · -- 142 to 145
        have hns4 := hn4 (by omega)
        clear hT2 hn4 hn6 hn7
        refine s_iconst dX12_finishes_145 (by decide) ?_
        refine s_istore dX12_finishes_146 (by decide) (lv' := [some (2, ((1000 : Nat) : Int)), some (0, n), some (0, 10 * ((gS G 1000 69) - 1)), some (0, gS G a_nKind ((n).toNat)), some (0, 0), none, none, none]) rfl ?_
        have L27 : ∀ (n27 : Nat) (k27 : Int) (G27 : LG), MG G27 → Fr nX12_finishes jX12_finishes G G27 → ((0 ≤ k27 ∧ k27 ≤ 10) ∧ (Fr [a_table] [] G G27) ∧ (∀ j : Int, 0 ≤ j → (j < 10 * ((gS G 1000 69) - 1) ∨ (10 * ((gS G 1000 69) - 1) + k27 ≤ j ∧ j < 10 * (gS G 1000 69))) → (gS G27 a_table (j).toNat) = (gS G a_table (j).toNat)) ∧ (∀ j : Int, 0 ≤ j → j < k27 → (-1 ≤ (gS G27 a_table (10 * ((gS G 1000 69) - 1) + j).toNat) ∧ (gS G27 a_table (10 * ((gS G 1000 69) - 1) + j).toNat) < E) ∧ (¬ (gS G a_sValue (10 * (gS G a_nSecond (n).toNat) + j).toNat) = -1 → (gS G27 a_table (10 * ((gS G 1000 69) - 1) + j).toNat) = (gS G a_table (10 * ((gS G 1000 69) - 1) + j).toNat)))) → (10 - k27).toNat < n27 → WP kX12_finishes X 148 [some (2, ((1000 : Nat) : Int)), some (0, n), some (0, 10 * ((gS G 1000 69) - 1)), some (0, gS G a_nKind ((n).toNat)), some (0, k27), none, none, none] [] G27 := by
          intro n27
          induction n27 with
          | zero => intro k27 G27 hMG27 hFG27 hi27 hm27; exact absurd hm27 (Nat.not_lt_zero _)
          | succ n27 ih27 =>
            intro k27 G27 hMG27 hFG27 hi27 hm27
            have hj27 := hi27
            obtain ⟨ik27, ir27, ib27, ia27⟩ := hi27
            refine s_iload dX12_finishes_148 rfl ?_
            refine s_bipush dX12_finishes_150 rfl (by decide) ?_
            refine s_icmp_ge (tgt := 199) dX12_finishes_152 (by decide) (fun c28 => ?_) (fun c28 => ?_)
            · -- 152 to 199
              refine s_goto (tgt := 252) dX12_finishes_199 (by decide) ?_
              exact s_vret hR dX12_finishes_252 rfl (hQ G27 hMG27 (⟨hFG27, ⟨hI.agr (ir27.agr (by decide) (by decide) (by decide)), fun z => by omega, fun _ => ir27.atF (by decide) (by decide), fun j j0 j1 => ib27 j j0 (by rw [ir27.atF (by decide) (by decide)] at j1; omega), fun k k0 k1 => by have z1 := ia27 k k0 (by omega); rw [ir27.atF (by decide) (by decide), ir27.atA (n := a_sValue) (by decide) (by decide)]; refine ⟨z1.1, fun q => ?_⟩; have z2 := hDN k k0 k1 q; obtain ⟨-, -, z3, -⟩ := z2; have z5 := (hg2 (by omega) k k0 k1).2; have z6 := z3 (by omega); rw [z1.2 z6.2]; exact z5 z6.1⟩⟩))
            · -- 152 to 155
              have hsv27 : (gS G27 a_sValue (10 * (gS G a_nSecond (n).toNat) + k27).toNat) = (gS G a_sValue (10 * (gS G a_nSecond (n).toNat) + k27).toNat) := ir27.atA (by decide) (by decide)
              refine s_aload_n dX12_finishes_155 rfl (Int.natCast_nonneg _) ?_
              refine gf_table rfl dX12_finishes_156 hMG27 ?_
              refine s_iload_n dX12_finishes_159 rfl ?_
              refine s_iload dX12_finishes_160 rfl ?_
              refine s_iadd dX12_finishes_162 (by omega) ?_
              refine s_aload_n dX12_finishes_163 rfl (Int.natCast_nonneg _) ?_
              refine s_aload_n dX12_finishes_164 rfl (Int.natCast_nonneg _) ?_
              refine gf_nSecond rfl dX12_finishes_165 hMG27 ?_
              refine s_iload_n dX12_finishes_168 rfl ?_
              refine s_iald dX12_finishes_169 (mg_a_nSecond hMG27) (by omega) (by omega) rfl ?_
              rw [show gS G27 a_nSecond ((n).toNat) = (gS G a_nSecond (n).toNat) from ir27.atA (by decide) (by decide)]
              refine s_iload dX12_finishes_170 rfl ?_
              refine cv_X12_388 rfl gX12_isOf dX12_finishes_172 hMG27 (by rw [hcf]; decide) (as := [(0, (gS G a_nSecond (n).toNat)), (0, k27)]) rfl (Nat.le_of_ble_eq_true rfl) ⟨(gS G a_nSecond (n).toNat), k27, rfl, hMG27, (by first | assumption | omega), (by first | assumption | omega), ?_⟩
              show WP kX12_finishes X 175 [some (2, ((1000 : Nat) : Int)), some (0, n), some (0, 10 * ((gS G 1000 69) - 1)), some (0, gS G a_nKind ((n).toNat)), some (0, k27), none, none, none] [(0, (gS G27 a_sValue (10 * ((gS G a_nSecond (n).toNat)) + k27).toNat)), (0, (10 * ((gS G 1000 69) - 1)) + k27), (2, ((a_table : Nat) : Int))] G27
              refine s_iconst dX12_finishes_175 (by decide) ?_
              have J30 : ∀ z29 : Int, ((¬ ((gS G27 a_sValue (10 * ((gS G a_nSecond (n).toNat)) + k27).toNat)) = ((-1))) ∧ z29 = gS G27 a_table (((10 * ((gS G 1000 69) - 1)) + k27).toNat)) ∨ ((((gS G27 a_sValue (10 * ((gS G a_nSecond (n).toNat)) + k27).toNat)) = ((-1))) ∧ z29 = (-1)) → WP kX12_finishes X 192 [some (2, ((1000 : Nat) : Int)), some (0, n), some (0, 10 * ((gS G 1000 69) - 1)), some (0, gS G a_nKind ((n).toNat)), some (0, k27), none, none, none] [(0, z29), (0, (10 * ((gS G 1000 69) - 1)) + k27), (2, ((a_table : Nat) : Int))] G27 := by
                intro z29 hz29
                refine r_iast dX12_finishes_192 hMG27 (mg_a_table hMG27) (by decide) (by omega) (by omega) (fun G31 eG31 hMG31 => ?_)
                have hFG31 : Fr nX12_finishes jX12_finishes G G31 := Fr.setA hFG27 eG31 (by decide)
                show WP kX12_finishes X 193 [some (2, ((1000 : Nat) : Int)), some (0, n), some (0, 10 * ((gS G 1000 69) - 1)), some (0, gS G a_nKind ((n).toNat)), some (0, k27), none, none, none] [] G31
                refine s_iinc dX12_finishes_193 (v := k27) rfl (by omega) (by decide) (lv' := [some (2, ((1000 : Nat) : Int)), some (0, n), some (0, 10 * ((gS G 1000 69) - 1)), some (0, gS G a_nKind ((n).toNat)), some (0, k27 + 1), none, none, none]) rfl ?_
                refine s_goto (tgt := 148) dX12_finishes_196 (by decide) ?_
                exact ih27 (k27 + 1) G31 hMG31 hFG31 (⟨(by omega), (by exact Fr.setA ir27 eG31 (by decide)), (by intro j j0 j1; rw [g_ne (g_upd eG31) (by omega)]; exact ib27 j j0 (by omega)), (by intro j j0 j1; by_cases hj : j = k27; (subst hj; rw [g_at (g_upd eG31)]; have z9 := ib27 (10 * ((gS G 1000 69) - 1) + j) (by omega) (by omega); have z8 := hE (10 * ((gS G 1000 69) - 1) + j) (by omega) (by omega); have z7 := hsv27; omega); (rw [g_ne (g_upd eG31) (by omega)]; exact ia27 j j0 (by omega)))⟩) (by omega)
              refine s_icmp_ne (tgt := 183) dX12_finishes_176 (by decide) (fun c32 => ?_) (fun c32 => ?_)
              · -- 176 to 183
                refine s_aload_n dX12_finishes_183 rfl (Int.natCast_nonneg _) ?_
                refine gf_table rfl dX12_finishes_184 hMG27 ?_
                refine s_iload_n dX12_finishes_187 rfl ?_
                refine s_iload dX12_finishes_188 rfl ?_
                refine s_iadd dX12_finishes_190 (by omega) ?_
                refine s_iald dX12_finishes_191 (mg_a_table hMG27) (by omega) (by omega) rfl ?_
                exact J30 _ (Or.inl ⟨c32, rfl⟩)
              · -- 176 to 179
                refine s_iconst dX12_finishes_179 (by decide) ?_
                refine s_goto (tgt := 192) dX12_finishes_180 (by decide) ?_
                exact J30 ((-1)) (Or.inr (⟨c32, rfl⟩))
        exact L27 _ 0 G hM Fr.rf (⟨(by omega), (by exact Fr.rf), (by intro j j0 j1; rfl), (by intro j j0 j1; omega)⟩) (Nat.lt_succ_self _)
    · -- 24 to 27
      have hTT := hT2 (by omega)
      clear hT2 hn4 hn6 hn7
      refine s_aload_n dX12_finishes_27 rfl (Int.natCast_nonneg _) ?_
      refine s_dup dX12_finishes_28 (by decide) ?_
      refine gf_tables rfl dX12_finishes_29 hM rfl ?_
      refine s_iconst dX12_finishes_32 (by decide) ?_
      refine s_isub dX12_finishes_33 (by omega) ?_
      refine pf_tables rfl dX12_finishes_34 hM (fun G33 eG33 hMG33 => ?_)
      have hFG33 : Fr nX12_finishes jX12_finishes G G33 := Fr.setF Fr.rf eG33 (by decide)
      refine s_iload_n dX12_finishes_37 rfl ?_
      refine s_bipush dX12_finishes_38 rfl (by decide) ?_
      refine s_isub dX12_finishes_40 (by omega) ?_
      refine s_istore dX12_finishes_41 (by decide) (lv' := [some (2, ((1000 : Nat) : Int)), some (0, n), some (0, 10 * ((gS G 1000 69) - 1)), some (0, gS G a_nKind ((n).toNat)), some (0, (10 * ((gS G 1000 69) - 1)) - 10), none, none, none]) rfl ?_
      refine s_iconst dX12_finishes_43 (by decide) ?_
      refine s_istore dX12_finishes_44 (by decide) (lv' := [some (2, ((1000 : Nat) : Int)), some (0, n), some (0, 10 * ((gS G 1000 69) - 1)), some (0, gS G a_nKind ((n).toNat)), some (0, (10 * ((gS G 1000 69) - 1)) - 10), some (0, 0), none, none]) rfl ?_
      have L34 : ∀ (n34 : Nat) (k34 : Int) (G34 : LG), MG G34 → Fr nX12_finishes jX12_finishes G G34 → ((0 ≤ k34 ∧ k34 ≤ 10) ∧ (IN G34 I E) ∧ ((gS G34 1000 69) = (gS G 1000 69) - 1) ∧ (∀ j : Int, 0 ≤ j → (j < 10 * ((gS G 1000 69) - 2) ∨ (10 * ((gS G 1000 69) - 2) + k34 ≤ j ∧ j < 10 * (gS G 1000 69))) → (gS G34 a_table (j).toNat) = (gS G a_table (j).toNat)) ∧ (∀ j : Int, 0 ≤ j → j < k34 → (-1 ≤ (gS G34 a_table (10 * ((gS G 1000 69) - 2) + j).toNat) ∧ (gS G34 a_table (10 * ((gS G 1000 69) - 2) + j).toNat) < E) ∧ ((0 ≤ (gS G a_table (10 * ((gS G 1000 69) - 2) + j).toNat) ∨ ((gS G a_nKind (n).toNat) = 1 ∧ 0 ≤ (gS G a_table (10 * ((gS G 1000 69) - 1) + j).toNat))) → 0 ≤ (gS G34 a_table (10 * ((gS G 1000 69) - 2) + j).toNat)))) → (10 - k34).toNat < n34 → WP kX12_finishes X 46 [some (2, ((1000 : Nat) : Int)), some (0, n), some (0, 10 * ((gS G 1000 69) - 1)), some (0, gS G a_nKind ((n).toNat)), some (0, (10 * ((gS G 1000 69) - 1)) - 10), some (0, k34), none, none] [] G34 := by
        intro n34
        induction n34 with
        | zero => intro k34 G34 hMG34 hFG34 hi34 hm34; exact absurd hm34 (Nat.not_lt_zero _)
        | succ n34 ih34 =>
          intro k34 G34 hMG34 hFG34 hi34 hm34
          have hj34 := hi34
          obtain ⟨ik34, iI34, it34, ib34, ia34⟩ := hi34
          refine s_iload dX12_finishes_46 rfl ?_
          refine s_bipush dX12_finishes_48 rfl (by decide) ?_
          refine s_icmp_ge (tgt := 137) dX12_finishes_50 (by decide) (fun c35 => ?_) (fun c35 => ?_)
          · -- 50 to 137
            refine s_goto (tgt := 252) dX12_finishes_137 (by decide) ?_
            exact s_vret hR dX12_finishes_252 rfl (hQ G34 hMG34 (⟨hFG34, ⟨iI34, fun _ => it34, fun z => by omega, fun j j0 j1 => ib34 j j0 (by omega), fun k k0 k1 => by have z1 := ia34 k k0 (by omega); rw [it34, show 10 * ((gS G 1000 69) - 1 - 1) + k = 10 * ((gS G 1000 69) - 2) + k by omega, hFG34.atA (n := a_sValue) (by decide) (by decide)]; refine ⟨z1.1, fun q => z1.2 ?_⟩; have z2 := hDN k k0 k1 q; obtain ⟨-, z3, -, z4, -⟩ := z2; have z5 := hg1 (by omega); have z6 := (z5.1 k k0 k1).2; have z7 := (z5.2 k k0 k1).2; omega⟩⟩))
          · -- 50 to 53
            refine s_aload_n dX12_finishes_53 rfl (Int.natCast_nonneg _) ?_
            refine gf_table rfl dX12_finishes_54 hMG34 ?_
            refine s_iload dX12_finishes_57 rfl ?_
            refine s_iload dX12_finishes_59 rfl ?_
            refine s_iadd dX12_finishes_61 (by omega) ?_
            refine s_iald dX12_finishes_62 (mg_a_table hMG34) (by omega) (by omega) rfl ?_
            refine s_istore dX12_finishes_63 (by decide) (lv' := [some (2, ((1000 : Nat) : Int)), some (0, n), some (0, 10 * ((gS G 1000 69) - 1)), some (0, gS G a_nKind ((n).toNat)), some (0, (10 * ((gS G 1000 69) - 1)) - 10), some (0, k34), some (0, gS G34 a_table ((((10 * ((gS G 1000 69) - 1)) - 10) + k34).toNat)), none]) rfl ?_
            refine s_aload_n dX12_finishes_65 rfl (Int.natCast_nonneg _) ?_
            refine gf_table rfl dX12_finishes_66 hMG34 ?_
            refine s_iload_n dX12_finishes_69 rfl ?_
            refine s_iload dX12_finishes_70 rfl ?_
            refine s_iadd dX12_finishes_72 (by omega) ?_
            refine s_iald dX12_finishes_73 (mg_a_table hMG34) (by omega) (by omega) rfl ?_
            refine s_istore dX12_finishes_74 (by decide) (lv' := [some (2, ((1000 : Nat) : Int)), some (0, n), some (0, 10 * ((gS G 1000 69) - 1)), some (0, gS G a_nKind ((n).toNat)), some (0, (10 * ((gS G 1000 69) - 1)) - 10), some (0, k34), some (0, gS G34 a_table ((((10 * ((gS G 1000 69) - 1)) - 10) + k34).toNat)), some (0, gS G34 a_table (((10 * ((gS G 1000 69) - 1)) + k34).toNat))]) rfl ?_
            have hone34 : gS G34 a_table ((((10 * ((gS G 1000 69) - 1)) - 10) + k34).toNat) = (gS G a_table (10 * ((gS G 1000 69) - 2) + k34).toNat) := by rw [show 10 * ((gS G 1000 69) - 1) - 10 + k34 = 10 * ((gS G 1000 69) - 2) + k34 by omega]; exact ib34 _ (by omega) (by omega)
            have hoth34 : gS G34 a_table (((10 * ((gS G 1000 69) - 1)) + k34).toNat) = (gS G a_table (10 * ((gS G 1000 69) - 1) + k34).toNat) := ib34 _ (by omega) (by omega)
            have hre34 := hE (10 * ((gS G 1000 69) - 2) + k34) (by omega) (by omega)
            have hrf34 := hE (10 * ((gS G 1000 69) - 1) + k34) (by omega) (by omega)
            refine s_aload_n dX12_finishes_76 rfl (Int.natCast_nonneg _) ?_
            refine gf_table rfl dX12_finishes_77 hMG34 ?_
            refine s_iload dX12_finishes_80 rfl ?_
            refine s_iload dX12_finishes_82 rfl ?_
            refine s_iadd dX12_finishes_84 (by omega) ?_
            refine s_iload dX12_finishes_85 rfl ?_
            refine s_iconst dX12_finishes_87 (by decide) ?_
            refine s_icmp_eq (tgt := 108) dX12_finishes_88 (by decide) (fun c36 => ?_) (fun c36 => ?_)
            · -- 88 to 108
              refine s_iload dX12_finishes_108 rfl ?_
              refine s_iconst dX12_finishes_110 (by decide) ?_
              have J38 : ∀ z37 : Int, (((gS G34 a_table ((((10 * ((gS G 1000 69) - 1)) - 10) + k34).toNat)) = ((-1))) ∧ (¬ (gS G a_nKind ((n).toNat)) = 1) ∧ z37 = (-1)) ∨ (((gS G34 a_table ((((10 * ((gS G 1000 69) - 1)) - 10) + k34).toNat)) = ((-1))) ∧ ((gS G a_nKind ((n).toNat)) = 1) ∧ z37 = gS G34 a_table (((10 * ((gS G 1000 69) - 1)) + k34).toNat)) ∨ ((¬ (gS G34 a_table ((((10 * ((gS G 1000 69) - 1)) - 10) + k34).toNat)) = ((-1))) ∧ z37 = gS G34 a_table ((((10 * ((gS G 1000 69) - 1)) - 10) + k34).toNat)) → WP kX12_finishes X 130 [some (2, ((1000 : Nat) : Int)), some (0, n), some (0, 10 * ((gS G 1000 69) - 1)), some (0, gS G a_nKind ((n).toNat)), some (0, (10 * ((gS G 1000 69) - 1)) - 10), some (0, k34), some (0, gS G34 a_table ((((10 * ((gS G 1000 69) - 1)) - 10) + k34).toNat)), some (0, gS G34 a_table (((10 * ((gS G 1000 69) - 1)) + k34).toNat))] [(0, z37), (0, ((10 * ((gS G 1000 69) - 1)) - 10) + k34), (2, ((a_table : Nat) : Int))] G34 := by
                intro z37 hz37
                refine r_iast dX12_finishes_130 hMG34 (mg_a_table hMG34) (by decide) (by omega) (by omega) (fun G39 eG39 hMG39 => ?_)
                have hFG39 : Fr nX12_finishes jX12_finishes G G39 := Fr.setA hFG34 eG39 (by decide)
                show WP kX12_finishes X 131 [some (2, ((1000 : Nat) : Int)), some (0, n), some (0, 10 * ((gS G 1000 69) - 1)), some (0, gS G a_nKind ((n).toNat)), some (0, (10 * ((gS G 1000 69) - 1)) - 10), some (0, k34), some (0, gS G34 a_table ((((10 * ((gS G 1000 69) - 1)) - 10) + k34).toNat)), some (0, gS G34 a_table (((10 * ((gS G 1000 69) - 1)) + k34).toNat))] [] G39
                refine s_iinc dX12_finishes_131 (v := k34) rfl (by omega) (by decide) (lv' := [some (2, ((1000 : Nat) : Int)), some (0, n), some (0, 10 * ((gS G 1000 69) - 1)), some (0, gS G a_nKind ((n).toNat)), some (0, (10 * ((gS G 1000 69) - 1)) - 10), some (0, k34 + 1), some (0, gS G34 a_table ((((10 * ((gS G 1000 69) - 1)) - 10) + k34).toNat)), some (0, gS G34 a_table (((10 * ((gS G 1000 69) - 1)) + k34).toNat))]) rfl ?_
                refine s_goto (tgt := 46) dX12_finishes_134 (by decide) ?_
                refine s_mask [true, true, true, true, true, true, false, false] (lv' := [some (2, ((1000 : Nat) : Int)), some (0, n), some (0, 10 * ((gS G 1000 69) - 1)), some (0, gS G a_nKind ((n).toNat)), some (0, (10 * ((gS G 1000 69) - 1)) - 10), some (0, k34 + 1), none, none]) rfl ?_
                have hu9 : ∀ y : Nat, gS G39 a_table y = if y = (10 * ((gS G 1000 69) - 2) + k34).toNat then z37 else gS G34 a_table y := fun y => by rw [g_upd eG39, show (10 * ((gS G 1000 69) - 1) - 10 + k34).toNat = (10 * ((gS G 1000 69) - 2) + k34).toNat by omega]
                exact ih34 (k34 + 1) G39 hMG39 hFG39 (⟨(by omega), (by exact (iI34).agr ((Fr.setA (Fr.rf) eG39 (by decide) : Fr [a_table] [] G34 G39).agr (by decide) (by decide) (by decide))), (by rw [(Fr.setA (Fr.rf) eG39 (by decide) : Fr [a_table] [] G34 G39).atF (by decide) (by decide)]; exact it34), (by intro j j0 j1; rw [hu9, if_neg (by omega)]; exact ib34 j j0 (by omega)), (by intro j j0 j1; by_cases hj : j = k34; (subst hj; rw [hu9, if_pos rfl]; omega); (rw [hu9, if_neg (by omega)]; exact ia34 j j0 (by omega)))⟩) (by omega)
              refine s_icmp_eq (tgt := 119) dX12_finishes_111 (by decide) (fun c40 => ?_) (fun c40 => ?_)
              · -- 111 to 119
                refine s_iload_n dX12_finishes_119 rfl ?_
                refine s_iconst dX12_finishes_120 (by decide) ?_
                refine s_icmp_ne (tgt := 129) dX12_finishes_121 (by decide) (fun c41 => ?_) (fun c41 => ?_)
                · -- 121 to 129
                  refine s_iconst dX12_finishes_129 (by decide) ?_
                  exact J38 ((-1)) (Or.inl ⟨c40, c41, rfl⟩)
                · -- 121 to 124
                  refine s_iload dX12_finishes_124 rfl ?_
                  refine s_goto (tgt := 130) dX12_finishes_126 (by decide) ?_
                  exact J38 _ (Or.inr (Or.inl ⟨c40, c41, rfl⟩))
              · -- 111 to 114
                refine s_iload dX12_finishes_114 rfl ?_
                refine s_goto (tgt := 130) dX12_finishes_116 (by decide) ?_
                exact J38 _ (Or.inr (Or.inr (⟨c40, rfl⟩)))
            · -- 88 to 91
              refine s_iload dX12_finishes_91 rfl ?_
              refine s_iconst dX12_finishes_93 (by decide) ?_
              refine s_icmp_eq (tgt := 108) dX12_finishes_94 (by decide) (fun c42 => ?_) (fun c42 => ?_)
              · -- 94 to 108
                refine s_iload dX12_finishes_108 rfl ?_
                refine s_iconst dX12_finishes_110 (by decide) ?_
                have J44 : ∀ z43 : Int, (((gS G34 a_table ((((10 * ((gS G 1000 69) - 1)) - 10) + k34).toNat)) = ((-1))) ∧ (¬ (gS G a_nKind ((n).toNat)) = 1) ∧ z43 = (-1)) ∨ (((gS G34 a_table ((((10 * ((gS G 1000 69) - 1)) - 10) + k34).toNat)) = ((-1))) ∧ ((gS G a_nKind ((n).toNat)) = 1) ∧ z43 = gS G34 a_table (((10 * ((gS G 1000 69) - 1)) + k34).toNat)) ∨ ((¬ (gS G34 a_table ((((10 * ((gS G 1000 69) - 1)) - 10) + k34).toNat)) = ((-1))) ∧ z43 = gS G34 a_table ((((10 * ((gS G 1000 69) - 1)) - 10) + k34).toNat)) → WP kX12_finishes X 130 [some (2, ((1000 : Nat) : Int)), some (0, n), some (0, 10 * ((gS G 1000 69) - 1)), some (0, gS G a_nKind ((n).toNat)), some (0, (10 * ((gS G 1000 69) - 1)) - 10), some (0, k34), some (0, gS G34 a_table ((((10 * ((gS G 1000 69) - 1)) - 10) + k34).toNat)), some (0, gS G34 a_table (((10 * ((gS G 1000 69) - 1)) + k34).toNat))] [(0, z43), (0, ((10 * ((gS G 1000 69) - 1)) - 10) + k34), (2, ((a_table : Nat) : Int))] G34 := by
                  intro z43 hz43
                  refine r_iast dX12_finishes_130 hMG34 (mg_a_table hMG34) (by decide) (by omega) (by omega) (fun G45 eG45 hMG45 => ?_)
                  have hFG45 : Fr nX12_finishes jX12_finishes G G45 := Fr.setA hFG34 eG45 (by decide)
                  show WP kX12_finishes X 131 [some (2, ((1000 : Nat) : Int)), some (0, n), some (0, 10 * ((gS G 1000 69) - 1)), some (0, gS G a_nKind ((n).toNat)), some (0, (10 * ((gS G 1000 69) - 1)) - 10), some (0, k34), some (0, gS G34 a_table ((((10 * ((gS G 1000 69) - 1)) - 10) + k34).toNat)), some (0, gS G34 a_table (((10 * ((gS G 1000 69) - 1)) + k34).toNat))] [] G45
                  refine s_iinc dX12_finishes_131 (v := k34) rfl (by omega) (by decide) (lv' := [some (2, ((1000 : Nat) : Int)), some (0, n), some (0, 10 * ((gS G 1000 69) - 1)), some (0, gS G a_nKind ((n).toNat)), some (0, (10 * ((gS G 1000 69) - 1)) - 10), some (0, k34 + 1), some (0, gS G34 a_table ((((10 * ((gS G 1000 69) - 1)) - 10) + k34).toNat)), some (0, gS G34 a_table (((10 * ((gS G 1000 69) - 1)) + k34).toNat))]) rfl ?_
                  refine s_goto (tgt := 46) dX12_finishes_134 (by decide) ?_
                  refine s_mask [true, true, true, true, true, true, false, false] (lv' := [some (2, ((1000 : Nat) : Int)), some (0, n), some (0, 10 * ((gS G 1000 69) - 1)), some (0, gS G a_nKind ((n).toNat)), some (0, (10 * ((gS G 1000 69) - 1)) - 10), some (0, k34 + 1), none, none]) rfl ?_
                  have hu9 : ∀ y : Nat, gS G45 a_table y = if y = (10 * ((gS G 1000 69) - 2) + k34).toNat then z43 else gS G34 a_table y := fun y => by rw [g_upd eG45, show (10 * ((gS G 1000 69) - 1) - 10 + k34).toNat = (10 * ((gS G 1000 69) - 2) + k34).toNat by omega]
                  exact ih34 (k34 + 1) G45 hMG45 hFG45 (⟨(by omega), (by exact (iI34).agr ((Fr.setA (Fr.rf) eG45 (by decide) : Fr [a_table] [] G34 G45).agr (by decide) (by decide) (by decide))), (by rw [(Fr.setA (Fr.rf) eG45 (by decide) : Fr [a_table] [] G34 G45).atF (by decide) (by decide)]; exact it34), (by intro j j0 j1; rw [hu9, if_neg (by omega)]; exact ib34 j j0 (by omega)), (by intro j j0 j1; by_cases hj : j = k34; (subst hj; rw [hu9, if_pos rfl]; omega); (rw [hu9, if_neg (by omega)]; exact ia34 j j0 (by omega)))⟩) (by omega)
                refine s_icmp_eq (tgt := 119) dX12_finishes_111 (by decide) (fun c46 => ?_) (fun c46 => ?_)
                · -- 111 to 119
                  refine s_iload_n dX12_finishes_119 rfl ?_
                  refine s_iconst dX12_finishes_120 (by decide) ?_
                  refine s_icmp_ne (tgt := 129) dX12_finishes_121 (by decide) (fun c47 => ?_) (fun c47 => ?_)
                  · -- 121 to 129
                    refine s_iconst dX12_finishes_129 (by decide) ?_
                    exact J44 ((-1)) (Or.inl ⟨c46, c47, rfl⟩)
                  · -- 121 to 124
                    refine s_iload dX12_finishes_124 rfl ?_
                    refine s_goto (tgt := 130) dX12_finishes_126 (by decide) ?_
                    exact J44 _ (Or.inr (Or.inl ⟨c46, c47, rfl⟩))
                · -- 111 to 114
                  refine s_iload dX12_finishes_114 rfl ?_
                  refine s_goto (tgt := 130) dX12_finishes_116 (by decide) ?_
                  exact J44 _ (Or.inr (Or.inr (⟨c46, rfl⟩)))
              · -- 94 to 97
                refine s_aload_n dX12_finishes_97 rfl (Int.natCast_nonneg _) ?_
                refine s_iload dX12_finishes_98 rfl ?_
                refine s_iload dX12_finishes_100 rfl ?_
                refine cv_X12_503 rfl gX12_together dX12_finishes_102 hMG34 (by rw [hcf]; decide) (as := [(0, gS G34 a_table ((((10 * ((gS G 1000 69) - 1)) - 10) + k34).toNat)), (0, gS G34 a_table (((10 * ((gS G 1000 69) - 1)) + k34).toNat))]) rfl (Nat.le_of_ble_eq_true rfl) ⟨gS G34 a_table ((((10 * ((gS G 1000 69) - 1)) - 10) + k34).toNat), gS G34 a_table (((10 * ((gS G 1000 69) - 1)) + k34).toNat), I, E, rfl, hMG34, (by exact iI34), (by omega), (by omega), fun r49 G48 hMG48 hpG48 => ?_⟩
                obtain ⟨hfG48, hpG48⟩ := hpG48
                have hFG48 : Fr nX12_finishes jX12_finishes G G48 := Fr.call hFG34 hfG48 (by decide) (by decide)
                show WP kX12_finishes X 105 [some (2, ((1000 : Nat) : Int)), some (0, n), some (0, 10 * ((gS G 1000 69) - 1)), some (0, gS G a_nKind ((n).toNat)), some (0, (10 * ((gS G 1000 69) - 1)) - 10), some (0, k34), some (0, gS G34 a_table ((((10 * ((gS G 1000 69) - 1)) - 10) + k34).toNat)), some (0, gS G34 a_table (((10 * ((gS G 1000 69) - 1)) + k34).toNat))] [(0, r49), (0, ((10 * ((gS G 1000 69) - 1)) - 10) + k34), (2, ((a_table : Nat) : Int))] G48
                refine s_goto (tgt := 130) dX12_finishes_105 (by decide) ?_
                refine r_iast dX12_finishes_130 hMG48 (mg_a_table hMG48) (by decide) (by omega) (by omega) (fun G50 eG50 hMG50 => ?_)
                have hFG50 : Fr nX12_finishes jX12_finishes G G50 := Fr.setA hFG48 eG50 (by decide)
                show WP kX12_finishes X 131 [some (2, ((1000 : Nat) : Int)), some (0, n), some (0, 10 * ((gS G 1000 69) - 1)), some (0, gS G a_nKind ((n).toNat)), some (0, (10 * ((gS G 1000 69) - 1)) - 10), some (0, k34), some (0, gS G34 a_table ((((10 * ((gS G 1000 69) - 1)) - 10) + k34).toNat)), some (0, gS G34 a_table (((10 * ((gS G 1000 69) - 1)) + k34).toNat))] [] G50
                refine s_iinc dX12_finishes_131 (v := k34) rfl (by omega) (by decide) (lv' := [some (2, ((1000 : Nat) : Int)), some (0, n), some (0, 10 * ((gS G 1000 69) - 1)), some (0, gS G a_nKind ((n).toNat)), some (0, (10 * ((gS G 1000 69) - 1)) - 10), some (0, k34 + 1), some (0, gS G34 a_table ((((10 * ((gS G 1000 69) - 1)) - 10) + k34).toNat)), some (0, gS G34 a_table (((10 * ((gS G 1000 69) - 1)) + k34).toNat))]) rfl ?_
                refine s_goto (tgt := 46) dX12_finishes_134 (by decide) ?_
                refine s_mask [true, true, true, true, true, true, false, false] (lv' := [some (2, ((1000 : Nat) : Int)), some (0, n), some (0, 10 * ((gS G 1000 69) - 1)), some (0, gS G a_nKind ((n).toNat)), some (0, (10 * ((gS G 1000 69) - 1)) - 10), some (0, k34 + 1), none, none]) rfl ?_
                have hu9 : ∀ y : Nat, gS G50 a_table y = if y = (10 * ((gS G 1000 69) - 2) + k34).toNat then r49 else gS G34 a_table y := fun y => by rw [g_upd eG50, show (10 * ((gS G 1000 69) - 1) - 10 + k34).toNat = (10 * ((gS G 1000 69) - 2) + k34).toNat by omega, hfG48.atA (by decide) (by decide)]
                exact ih34 (k34 + 1) G50 hMG50 hFG50 (⟨(by omega), (by exact (hpG48.1).agr ((Fr.setA (Fr.rf) eG50 (by decide) : Fr [a_table] [] G48 G50).agr (by decide) (by decide) (by decide))), (by rw [(Fr.setA (Fr.call (Fr.rf) hfG48 (by decide) (by decide)) eG50 (by decide) : Fr [a_above, a_table] [] G34 G50).atF (by decide) (by decide)]; exact it34), (by intro j j0 j1; rw [hu9, if_neg (by omega)]; exact ib34 j j0 (by omega)), (by intro j j0 j1; by_cases hj : j = k34; (subst hj; rw [hu9, if_pos rfl]; omega); (rw [hu9, if_neg (by omega)]; exact ia34 j j0 (by omega)))⟩) (by omega)
      exact L34 _ 0 G33 hMG33 hFG33 (⟨(by omega), (by exact hI.agr ((Fr.setF (Fr.rf) eG33 (by decide) : Fr [] [69] G G33).agr (by decide) (by decide) (by decide))), (by exact gsaE eG33), (by intro j j0 j1; exact gsnE eG33 (by decide)), (by intro j j0 j1; omega)⟩) (Nat.lt_succ_self _)
