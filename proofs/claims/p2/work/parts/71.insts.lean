def TX12_rootOf : TR := fun as G Qr => ∃ (e : Int), as = [(2, ((1000 : Nat) : Int)), (0, e)] ∧ MG G ∧ (∃ E : Int, E ≤ 240 ∧ (0 ≤ e ∧ e < E) ∧ (∀ x : Int, 0 ≤ x → x < E → 0 ≤ (gS G a_above (x).toNat) ∧ (gS G a_above (x).toNat) < E) ∧ ∃ q, Rt G e q) ∧ Qr (.inl (some (0, rootV G e))) G
set_option maxHeartbeats 4000000 in
set_option maxRecDepth 100000 in
theorem gX12_rootOf : Good kX12_rootOf yX12_rootOf 0 TX12_rootOf := by
  refine good_of (by decide) rfl rfl (fun as G Qr h => ?_) (fun X as G Qr hcf hR hT oa => ?_)
  · obtain ⟨e, rfl, -⟩ := h; exact Nat.le_of_ble_eq_true rfl
  obtain ⟨e, rfl, hM, hE, hQ⟩ := hT
  show WP kX12_rootOf X 0 [some (2, ((1000 : Nat) : Int)), some (0, e), none] [] G
  have hr_e : inR e := okv_R (oa _ (by simp))
  obtain ⟨E, hE4, hE1, hE2, q0, d0, hd0⟩ := hE
  refine s_iload_n dX12_rootOf_0 rfl ?_
  refine s_istore_n dX12_rootOf_1 (by decide) (lv' := [some (2, ((1000 : Nat) : Int)), some (0, e), some (0, e)]) rfl ?_
  have L1 : ∀ (n1 : Nat) (x1 : Int) (d1 : Nat), ((0 ≤ x1 ∧ x1 < E) ∧ (RP G d1 x1 q0)) → (((d1 : Nat) : Int)).toNat < n1 → WP kX12_rootOf X 2 [some (2, ((1000 : Nat) : Int)), some (0, e), some (0, x1)] [] G := by
    intro n1
    induction n1 with
    | zero => intro x1 d1 hi1 hm1; exact absurd hm1 (Nat.not_lt_zero _)
    | succ n1 ih1 =>
      intro x1 d1 hi1 hm1
      have hj1 := hi1
      obtain ⟨ix1, id1⟩ := hi1
      have hab1 := hE2 x1 ix1.1 ix1.2
      have hdz1 : ¬ (gS G a_above (x1).toNat) = x1 → 0 < d1 ∧ RP G (d1 - 1) ((gS G a_above (x1).toNat)) q0 := fun q => by cases d1 with | zero => (exact absurd (by rw [id1.1]; exact id1.2) q) | succ d => exact ⟨Nat.succ_pos d, id1⟩
      refine s_aload_n dX12_rootOf_2 rfl (Int.natCast_nonneg _) ?_
      refine gf_above rfl dX12_rootOf_3 hM ?_
      refine s_iload_n dX12_rootOf_6 rfl ?_
      refine s_iald dX12_rootOf_7 (mg_a_above hM) (by omega) (by omega) rfl ?_
      refine s_iload_n dX12_rootOf_8 rfl ?_
      refine s_icmp_eq (tgt := 22) dX12_rootOf_9 (by decide) (fun c2 => ?_) (fun c2 => ?_)
      · -- 9 to 22
        refine s_iload_n dX12_rootOf_22 rfl ?_
        exact s_iret hR dX12_rootOf_23 rfl (by rw [show x1 = rootV G e from (by have z9 := RP.root (G := G) (e := x1) (by omega) d1 q0 id1; rw [rootV.eq ⟨d0, hd0⟩]; exact z9.symm)]; exact hQ)
      · -- 9 to 12
        refine s_aload_n dX12_rootOf_12 rfl (Int.natCast_nonneg _) ?_
        refine gf_above rfl dX12_rootOf_13 hM ?_
        refine s_iload_n dX12_rootOf_16 rfl ?_
        refine s_iald dX12_rootOf_17 (mg_a_above hM) (by omega) (by omega) rfl ?_
        refine s_istore_n dX12_rootOf_18 (by decide) (lv' := [some (2, ((1000 : Nat) : Int)), some (0, e), some (0, gS G a_above ((x1).toNat))]) rfl ?_
        refine s_goto (tgt := 2) dX12_rootOf_19 (by decide) ?_
        exact ih1 (gS G a_above ((x1).toNat)) (d1 - 1) (⟨(by omega), (by exact (hdz1 (by omega)).2)⟩) (by have z9 := (hdz1 (by omega)).1; omega)
  exact L1 _ e d0 (⟨(by exact hE1), (by exact hd0)⟩) (Nat.lt_succ_self _)

def TX12_expressionOf : TR := fun as G Qr => ∃ (c : Int), as = [(2, ((1000 : Nat) : Int)), (0, c)] ∧ MG G ∧ (0 ≤ c ∧ c < 240) ∧ (0 ≤ (gS G a_cellOf (c).toNat) ∧ (gS G a_cellOf (c).toNat) < 240) ∧ (0 ≤ (gS G a_versionAt ((gS G a_cellOf (c).toNat) / 10).toNat) ∧ (gS G a_versionAt ((gS G a_cellOf (c).toNat) / 10).toNat) < 40) ∧ Qr (.inl (some (0, (gS G a_valueBy (10 * (gS G a_versionAt ((gS G a_cellOf (c).toNat) / 10).toNat) + (gS G a_cellOf (c).toNat) % 10).toNat)))) G
set_option maxHeartbeats 4000000 in
set_option maxRecDepth 100000 in
theorem gX12_expressionOf : Good kX12_expressionOf yX12_expressionOf 0 TX12_expressionOf := by
  refine good_of (by decide) rfl rfl (fun as G Qr h => ?_) (fun X as G Qr hcf hR hT oa => ?_)
  · obtain ⟨c, rfl, -⟩ := h; exact Nat.le_of_ble_eq_true rfl
  obtain ⟨c, rfl, hM, hc, h1, h2, hQ⟩ := hT
  show WP kX12_expressionOf X 0 [some (2, ((1000 : Nat) : Int)), some (0, c), none] [] G
  have hr_c : inR c := okv_R (oa _ (by simp))
  refine s_aload_n dX12_expressionOf_0 rfl (Int.natCast_nonneg _) ?_
  refine gf_cellOf rfl dX12_expressionOf_1 hM ?_
  refine s_iload_n dX12_expressionOf_4 rfl ?_
  refine s_iald dX12_expressionOf_5 (mg_a_cellOf hM) (by omega) (by omega) rfl ?_
  refine s_istore_n dX12_expressionOf_6 (by decide) (lv' := [some (2, ((1000 : Nat) : Int)), some (0, c), some (0, gS G a_cellOf ((c).toNat))]) rfl ?_
  refine s_aload_n dX12_expressionOf_7 rfl (Int.natCast_nonneg _) ?_
  refine gf_valueBy rfl dX12_expressionOf_8 hM ?_
  refine s_bipush dX12_expressionOf_11 rfl (by decide) ?_
  refine s_aload_n dX12_expressionOf_13 rfl (Int.natCast_nonneg _) ?_
  refine gf_versionAt rfl dX12_expressionOf_14 hM ?_
  refine s_iload_n dX12_expressionOf_17 rfl ?_
  refine s_bipush dX12_expressionOf_18 rfl (by decide) ?_
  refine s_idiv dX12_expressionOf_20 (by omega) (by omega) ?_
  refine s_iald dX12_expressionOf_21 (mg_a_versionAt hM) (by omega) (by omega) rfl ?_
  refine s_imul dX12_expressionOf_22 (by omega) ?_
  refine s_iload_n dX12_expressionOf_23 rfl ?_
  refine s_bipush dX12_expressionOf_24 rfl (by decide) ?_
  refine s_irem dX12_expressionOf_26 (by omega) (by omega) ?_
  refine s_iadd dX12_expressionOf_27 (by omega) ?_
  refine s_iald dX12_expressionOf_28 (mg_a_valueBy hM) (by omega) (by omega) rfl ?_
  exact s_iret hR dX12_expressionOf_29 rfl (by rw [show gS G a_valueBy (((10 * (gS G a_versionAt (((gS G a_cellOf ((c).toNat)) / 10).toNat))) + ((gS G a_cellOf ((c).toNat)) % 10)).toNat) = (gS G a_valueBy (10 * (gS G a_versionAt ((gS G a_cellOf (c).toNat) / 10).toNat) + (gS G a_cellOf (c).toNat) % 10).toNat) from (by first | rfl | omega)]; exact hQ)

def TX12_isA : TR := fun as G Qr => ∃ (c f : Int), as = [(2, ((1000 : Nat) : Int)), (0, c), (0, f)] ∧ MG G ∧ (0 ≤ c ∧ c < 240) ∧ (0 ≤ (gS G a_cellOf (c).toNat) ∧ (gS G a_cellOf (c).toNat) < 240) ∧ (0 ≤ (gS G a_versionAt ((gS G a_cellOf (c).toNat) / 10).toNat) ∧ (gS G a_versionAt ((gS G a_cellOf (c).toNat) / 10).toNat) < 40) ∧ Qr (.inl (some (0, b2i (¬ i_and (gS G a_valueFlags (10 * (gS G a_versionAt ((gS G a_cellOf (c).toNat) / 10).toNat) + (gS G a_cellOf (c).toNat) % 10).toNat) f = 0)))) G
set_option maxHeartbeats 4000000 in
set_option maxRecDepth 100000 in
theorem gX12_isA : Good kX12_isA yX12_isA 0 TX12_isA := by
  refine good_of (by decide) rfl rfl (fun as G Qr h => ?_) (fun X as G Qr hcf hR hT oa => ?_)
  · obtain ⟨c, f, rfl, -⟩ := h; exact Nat.le_of_ble_eq_true rfl
  obtain ⟨c, f, rfl, hM, hc, h1, h2, hQ⟩ := hT
  show WP kX12_isA X 0 [some (2, ((1000 : Nat) : Int)), some (0, c), some (0, f), none] [] G
  have hr_c : inR c := okv_R (oa _ (by simp))
  have hr_f : inR f := okv_R (oa _ (by simp))
  refine s_aload_n dX12_isA_0 rfl (Int.natCast_nonneg _) ?_
  refine gf_cellOf rfl dX12_isA_1 hM ?_
  refine s_iload_n dX12_isA_4 rfl ?_
  refine s_iald dX12_isA_5 (mg_a_cellOf hM) (by omega) (by omega) rfl ?_
  refine s_istore_n dX12_isA_6 (by decide) (lv' := [some (2, ((1000 : Nat) : Int)), some (0, c), some (0, f), some (0, gS G a_cellOf ((c).toNat))]) rfl ?_
  refine s_aload_n dX12_isA_7 rfl (Int.natCast_nonneg _) ?_
  refine gf_valueFlags rfl dX12_isA_8 hM ?_
  refine s_bipush dX12_isA_11 rfl (by decide) ?_
  refine s_aload_n dX12_isA_13 rfl (Int.natCast_nonneg _) ?_
  refine gf_versionAt rfl dX12_isA_14 hM ?_
  refine s_iload_n dX12_isA_17 rfl ?_
  refine s_bipush dX12_isA_18 rfl (by decide) ?_
  refine s_idiv dX12_isA_20 (by omega) (by omega) ?_
  refine s_iald dX12_isA_21 (mg_a_versionAt hM) (by omega) (by omega) rfl ?_
  refine s_imul dX12_isA_22 (by omega) ?_
  refine s_iload_n dX12_isA_23 rfl ?_
  refine s_bipush dX12_isA_24 rfl (by decide) ?_
  refine s_irem dX12_isA_26 (by omega) (by omega) ?_
  refine s_iadd dX12_isA_27 (by omega) ?_
  refine s_iald dX12_isA_28 (mg_a_valueFlags hM) (by omega) (by omega) rfl ?_
  refine s_iload_n dX12_isA_29 rfl ?_
  refine s_iand dX12_isA_30 ?_
  have J2 : ∀ z1 : Int, (((i_and (gS G a_valueFlags (((10 * (gS G a_versionAt (((gS G a_cellOf ((c).toNat)) / 10).toNat))) + ((gS G a_cellOf ((c).toNat)) % 10)).toNat)) f) = 0) ∧ z1 = 0) ∨ ((¬ (i_and (gS G a_valueFlags (((10 * (gS G a_versionAt (((gS G a_cellOf ((c).toNat)) / 10).toNat))) + ((gS G a_cellOf ((c).toNat)) % 10)).toNat)) f) = 0) ∧ z1 = 1) → WP kX12_isA X 39 [some (2, ((1000 : Nat) : Int)), some (0, c), some (0, f), some (0, gS G a_cellOf ((c).toNat))] [(0, z1)] G := by
    intro z1 hz1
    exact s_zret hR dX12_isA_39 rfl (by first | exact Or.inl rfl | exact Or.inr rfl | exact b2i_01 | omega) (by rw [show z1 = b2i (¬ i_and (gS G a_valueFlags (10 * (gS G a_versionAt ((gS G a_cellOf (c).toNat) / 10).toNat) + (gS G a_cellOf (c).toNat) % 10).toNat) f = 0) from (by first | rfl | (by_cases hb : ¬ i_and (gS G a_valueFlags (10 * (gS G a_versionAt ((gS G a_cellOf (c).toNat) / 10).toNat) + (gS G a_cellOf (c).toNat) % 10).toNat) f = 0; (focus (rw [b2i_t hb]; omega)); (rw [b2i_f hb]; omega)))]; exact hQ)
  refine s_if_eq (tgt := 38) dX12_isA_31 (by decide) (fun c3 => ?_) (fun c3 => ?_)
  · -- 31 to 38
    refine s_iconst dX12_isA_38 (by decide) ?_
    exact J2 0 (Or.inl ⟨c3, rfl⟩)
  · -- 31 to 34
    refine s_iconst dX12_isA_34 (by decide) ?_
    refine s_goto (tgt := 39) dX12_isA_35 (by decide) ?_
    exact J2 1 (Or.inr (⟨c3, rfl⟩))

def TX12_targetOf : TR := fun as G Qr => ∃ (c k : Int) (I E : Int), as = [(2, ((1000 : Nat) : Int)), (0, c), (0, k)] ∧ MG G ∧ (IN G I E) ∧ (E = 10 * I) ∧ (0 ≤ c ∧ c < (gS G 1000 67)) ∧ (0 ≤ k ∧ k < 10) ∧ Qr (.inl (some (0, (gS G a_cellAt (rootV G ((gS G a_cellOf (c).toNat) / 10 * 10 + k)).toNat)))) G
set_option maxHeartbeats 4000000 in
set_option maxRecDepth 100000 in
theorem gX12_targetOf : Good kX12_targetOf yX12_targetOf 1 TX12_targetOf := by
  refine good_of (by decide) rfl rfl (fun as G Qr h => ?_) (fun X as G Qr hcf hR hT oa => ?_)
  · obtain ⟨c, k, I, E, rfl, -⟩ := h; exact Nat.le_of_ble_eq_true rfl
  obtain ⟨c, k, I, E, rfl, hM, hI, hE, hc, hk, hQ⟩ := hT
  show WP kX12_targetOf X 0 [some (2, ((1000 : Nat) : Int)), some (0, c), some (0, k)] [] G
  have hr_c : inR c := okv_R (oa _ (by simp))
  have hr_k : inR k := okv_R (oa _ (by simp))
  have hI1 := hI.1
  have hI2 := hI.2.1
  have hI3 := hI.2.2.1
  have hcc := (hI.2.2.2.2.2 c hc.1 hc.2).1
  have he : 0 ≤ (gS G a_cellOf (c).toNat) / 10 * 10 + k ∧ (gS G a_cellOf (c).toNat) / 10 * 10 + k < E := by omega
  have hrr := hI.root he.1 he.2
  refine s_aload_n dX12_targetOf_0 rfl (Int.natCast_nonneg _) ?_
  refine gf_cellAt rfl dX12_targetOf_1 hM ?_
  refine s_aload_n dX12_targetOf_4 rfl (Int.natCast_nonneg _) ?_
  refine s_aload_n dX12_targetOf_5 rfl (Int.natCast_nonneg _) ?_
  refine gf_cellOf rfl dX12_targetOf_6 hM ?_
  refine s_iload_n dX12_targetOf_9 rfl ?_
  refine s_iald dX12_targetOf_10 (mg_a_cellOf hM) (by omega) (by omega) rfl ?_
  refine s_bipush dX12_targetOf_11 rfl (by decide) ?_
  refine s_idiv dX12_targetOf_13 (by omega) (by omega) ?_
  refine s_bipush dX12_targetOf_14 rfl (by decide) ?_
  refine s_imul dX12_targetOf_16 (by omega) ?_
  refine s_iload_n dX12_targetOf_17 rfl ?_
  refine s_iadd dX12_targetOf_18 (by omega) ?_
  refine cv_X12_500 rfl gX12_rootOf dX12_targetOf_19 hM (by rw [hcf]; decide) (as := [(0, (((gS G a_cellOf ((c).toNat)) / 10) * 10) + k)]) rfl (Nat.le_of_ble_eq_true rfl) ⟨(((gS G a_cellOf ((c).toNat)) / 10) * 10) + k, rfl, hM, (by exact hI.rt he.1 he.2), ?_⟩
  show WP kX12_targetOf X 22 [some (2, ((1000 : Nat) : Int)), some (0, c), some (0, k)] [(0, rootV G ((((gS G a_cellOf ((c).toNat)) / 10) * 10) + k)), (2, ((a_cellAt : Nat) : Int))] G
  refine s_iald dX12_targetOf_22 (mg_a_cellAt hM) (by omega) (by omega) rfl ?_
  exact s_iret hR dX12_targetOf_23 rfl (by rw [show gS G a_cellAt ((rootV G ((((gS G a_cellOf ((c).toNat)) / 10) * 10) + k)).toNat) = (gS G a_cellAt (rootV G ((gS G a_cellOf (c).toNat) / 10 * 10 + k)).toNat) from (by first | rfl | omega)]; exact hQ)

abbrev nX12_instance : List Nat := [a_versionAt, a_above, a_cellAt, a_cellOf, a_table]
abbrev jX12_instance : List Nat := [63, 67, 69]
def TX12_instance : TR := fun as G Qr => ∃ (v : Int), as = [(2, ((1000 : Nat) : Int)), (0, v)] ∧ MG G ∧ (IN G ((gS G 1000 63)) (10 * (gS G 1000 63))) ∧ ((gS G 1000 63) < 24) ∧ (0 ≤ v ∧ v < 40) ∧ (0 ≤ (gS G 1000 69) ∧ (gS G 1000 69) ≤ 49) ∧ ∀ G' : LG, MG G' → (Fr nX12_instance jX12_instance G G' ∧ ((gS G' 1000 63) = (gS G 1000 63) + 1 ∧ (gS G' 1000 69) = (gS G 1000 69) + 1 ∧ IN G' ((gS G 1000 63) + 1) (10 * (gS G 1000 63) + 10) ∧ (∀ j : Int, 0 ≤ j → j < 10 * (gS G 1000 69) → (gS G' a_table (j).toNat) = (gS G a_table (j).toNat)) ∧ ∀ k : Int, 0 ≤ k → k < 10 → (-1 ≤ (gS G' a_table (10 * (gS G 1000 69) + k).toNat) ∧ (gS G' a_table (10 * (gS G 1000 69) + k).toNat) < 10 * (gS G 1000 63) + 10) ∧ (¬ (gS G a_valueType (10 * v + k).toNat) = -1 → 0 ≤ (gS G' a_table (10 * (gS G 1000 69) + k).toNat)))) → Qr (.inl none) G'
set_option maxHeartbeats 4000000 in
set_option maxRecDepth 100000 in
theorem gX12_instance : Good kX12_instance yX12_instance 0 TX12_instance := by
  refine good_of (by decide) rfl rfl (fun as G Qr h => ?_) (fun X as G Qr hcf hR hT oa => ?_)
  · obtain ⟨v, rfl, -⟩ := h; exact Nat.le_of_ble_eq_true rfl
  obtain ⟨v, rfl, hM, hI, hi, hv, ht, hQ⟩ := hT
  show WP kX12_instance X 0 [some (2, ((1000 : Nat) : Int)), some (0, v), none, none, none, none, none] [] G
  have hr_v : inR v := okv_R (oa _ (by simp))
  have hi0 := hI.1
  refine s_aload_n dX12_instance_0 rfl (Int.natCast_nonneg _) ?_
  refine gf_versionAt rfl dX12_instance_1 hM ?_
  refine s_aload_n dX12_instance_4 rfl (Int.natCast_nonneg _) ?_
  refine gf_instances rfl dX12_instance_5 hM rfl ?_
  refine s_iload_n dX12_instance_8 rfl ?_
  refine r_iast dX12_instance_9 hM (mg_a_versionAt hM) (by decide) (by omega) (by omega) (fun G1 eG1 hMG1 => ?_)
  have hFG1 : Fr nX12_instance jX12_instance G G1 := Fr.setA Fr.rf eG1 (by decide)
  show WP kX12_instance X 10 [some (2, ((1000 : Nat) : Int)), some (0, v), none, none, none, none, none] [] G1
  have hf1 : Fr [a_versionAt] [] G G1 := Fr.setA Fr.rf eG1 (by decide)
  have hI1 : IN G1 ((gS G 1000 63) + 1) (10 * (gS G 1000 63)) := hI.ver hf1 (by rw [g_at (g_upd eG1)]; exact hv) (fun y hy => g_ne (g_upd eG1) hy) hi
  refine s_iconst dX12_instance_10 (by decide) ?_
  refine s_istore_n dX12_instance_11 (by decide) (lv' := [some (2, ((1000 : Nat) : Int)), some (0, v), some (0, 0), none, none, none, none]) rfl ?_
  have L2 : ∀ (n2 : Nat) (k2 : Int) (G2 : LG), MG G2 → Fr nX12_instance jX12_instance G G2 → ((0 ≤ k2 ∧ k2 ≤ 10) ∧ ((gS G2 1000 63) = (gS G 1000 63)) ∧ ((gS G2 1000 69) = (gS G 1000 69)) ∧ ((gS G2 a_versionAt ((gS G 1000 63)).toNat) = v) ∧ (IN G2 ((gS G 1000 63) + 1) (10 * (gS G 1000 63) + k2)) ∧ (∀ j : Nat, gS G2 a_valueType j = gS G a_valueType j) ∧ (∀ j : Int, 0 ≤ j → j < 10 * (gS G 1000 69) → (gS G2 a_table (j).toNat) = (gS G a_table (j).toNat)) ∧ (∀ j : Int, 0 ≤ j → j < k2 → (-1 ≤ (gS G2 a_table (10 * (gS G 1000 69) + j).toNat) ∧ (gS G2 a_table (10 * (gS G 1000 69) + j).toNat) < 10 * (gS G 1000 63) + 10) ∧ (¬ (gS G a_valueType (10 * v + j).toNat) = -1 → 0 ≤ (gS G2 a_table (10 * (gS G 1000 69) + j).toNat)))) → (10 - k2).toNat < n2 → WP kX12_instance X 12 [some (2, ((1000 : Nat) : Int)), some (0, v), some (0, k2), none, none, none, none] [] G2 := by
    intro n2
    induction n2 with
    | zero => intro k2 G2 hMG2 hFG2 hi2 hm2; exact absurd hm2 (Nat.not_lt_zero _)
    | succ n2 ih2 =>
      intro k2 G2 hMG2 hFG2 hi2 hm2
      have hj2 := hi2
      obtain ⟨ik2, is2, it2, iv2, iI2, iy2, ib2, ia2⟩ := hi2
      have hic2 := iI2.2.2.1
      refine s_iload_n dX12_instance_12 rfl ?_
      refine s_bipush dX12_instance_13 rfl (by decide) ?_
      refine s_icmp_ge (tgt := 192) dX12_instance_15 (by decide) (fun c3 => ?_) (fun c3 => ?_)
      · -- 15 to 192
        refine s_aload_n dX12_instance_192 rfl (Int.natCast_nonneg _) ?_
        refine s_dup dX12_instance_193 (by decide) ?_
        refine gf_instances rfl dX12_instance_194 hMG2 rfl ?_
        refine s_iconst dX12_instance_197 (by decide) ?_
        refine s_iadd dX12_instance_198 (by omega) ?_
        refine pf_instances rfl dX12_instance_199 hMG2 (fun G4 eG4 hMG4 => ?_)
        have hFG4 : Fr nX12_instance jX12_instance G G4 := Fr.setF hFG2 eG4 (by decide)
        refine s_aload_n dX12_instance_202 rfl (Int.natCast_nonneg _) ?_
        refine s_dup dX12_instance_203 (by decide) ?_
        refine gf_tables rfl dX12_instance_204 hMG4 (gsjE eG4 (by decide)) ?_
        refine s_iconst dX12_instance_207 (by decide) ?_
        refine s_iadd dX12_instance_208 (by omega) ?_
        refine pf_tables rfl dX12_instance_209 hMG4 (fun G5 eG5 hMG5 => ?_)
        have hFG5 : Fr nX12_instance jX12_instance G G5 := Fr.setF hFG4 eG5 (by decide)
        exact s_vret hR dX12_instance_212 rfl (hQ G5 hMG5 (⟨hFG5, ⟨by rw [gsjE eG5 (by decide), gsaE eG4]; omega, by rw [gsaE eG5]; omega, by have z9 := iI2; rw [show k2 = 10 by omega] at z9; exact z9.agr ((Fr.setF (Fr.setF (Fr.rf) eG4 (by decide)) eG5 (by decide) : Fr [] [63, 69] G2 G5).agr (by decide) (by decide) (by decide)), fun j j0 j1 => by rw [(Fr.setF (Fr.setF (Fr.rf) eG4 (by decide)) eG5 (by decide) : Fr [] [63, 69] G2 G5).atA (by decide) (by decide)]; exact ib2 j j0 j1, fun k k0 k1 => by rw [(Fr.setF (Fr.setF (Fr.rf) eG4 (by decide)) eG5 (by decide) : Fr [] [63, 69] G2 G5).atA (by decide) (by decide)]; exact ia2 k k0 (by omega)⟩⟩))
      · -- 15 to 18
        refine s_bipush dX12_instance_18 rfl (by decide) ?_
        refine s_iload_n dX12_instance_20 rfl ?_
        refine s_imul dX12_instance_21 (by omega) ?_
        refine s_iload_n dX12_instance_22 rfl ?_
        refine s_iadd dX12_instance_23 (by omega) ?_
        refine s_istore_n dX12_instance_24 (by decide) (lv' := [some (2, ((1000 : Nat) : Int)), some (0, v), some (0, k2), some (0, (10 * v) + k2), none, none, none]) rfl ?_
        refine s_bipush dX12_instance_25 rfl (by decide) ?_
        refine s_aload_n dX12_instance_27 rfl (Int.natCast_nonneg _) ?_
        refine gf_instances rfl dX12_instance_28 hMG2 rfl ?_
        refine s_imul dX12_instance_31 (by omega) ?_
        refine s_iload_n dX12_instance_32 rfl ?_
        refine s_iadd dX12_instance_33 (by omega) ?_
        refine s_istore dX12_instance_34 (by decide) (lv' := [some (2, ((1000 : Nat) : Int)), some (0, v), some (0, k2), some (0, (10 * v) + k2), some (0, (10 * (gS G2 1000 63)) + k2), none, none]) rfl ?_
        refine s_aload_n dX12_instance_36 rfl (Int.natCast_nonneg _) ?_
        refine gf_above rfl dX12_instance_37 hMG2 ?_
        refine s_iload dX12_instance_40 rfl ?_
        refine s_iload dX12_instance_42 rfl ?_
        refine r_iast dX12_instance_44 hMG2 (mg_a_above hMG2) (by decide) (by omega) (by omega) (fun G6 eG6 hMG6 => ?_)
        have hFG6 : Fr nX12_instance jX12_instance G G6 := Fr.setA hFG2 eG6 (by decide)
        show WP kX12_instance X 45 [some (2, ((1000 : Nat) : Int)), some (0, v), some (0, k2), some (0, (10 * v) + k2), some (0, (10 * (gS G2 1000 63)) + k2), none, none] [] G6
        refine s_aload_n dX12_instance_45 rfl (Int.natCast_nonneg _) ?_
        refine gf_valueType rfl dX12_instance_46 hMG6 ?_
        refine s_iload_n dX12_instance_49 rfl ?_
        refine s_iald dX12_instance_50 (mg_a_valueType hMG6) (by omega) (by omega) (gsnE eG6 (by decide)) ?_
        refine s_iconst dX12_instance_51 (by decide) ?_
        have J8 : ∀ z7 : Int, (((gS G2 a_valueType (((10 * v) + k2).toNat)) = ((-1))) ∧ z7 = 0) ∨ ((¬ (gS G2 a_valueType (((10 * v) + k2).toNat)) = ((-1))) ∧ z7 = 1) → WP kX12_instance X 60 [some (2, ((1000 : Nat) : Int)), some (0, v), some (0, k2), some (0, (10 * v) + k2), some (0, (10 * (gS G2 1000 63)) + k2), none, none] [(0, z7)] G6 := by
          intro z7 hz7
          refine s_istore dX12_instance_60 (by decide) (lv' := [some (2, ((1000 : Nat) : Int)), some (0, v), some (0, k2), some (0, (10 * v) + k2), some (0, (10 * (gS G2 1000 63)) + k2), some (0, z7), none]) rfl ?_
          refine s_iload dX12_instance_62 rfl ?_
          have J10 : ∀ z9 : Int, ((z7 = 0) ∧ z9 = 0) ∨ ((¬ z7 = 0) ∧ ((i_and (gS G2 a_valueFlags (((10 * v) + k2).toNat)) 4) = 0) ∧ z9 = 0) ∨ ((¬ z7 = 0) ∧ (¬ (i_and (gS G2 a_valueFlags (((10 * v) + k2).toNat)) 4) = 0) ∧ z9 = 1) → WP kX12_instance X 83 [some (2, ((1000 : Nat) : Int)), some (0, v), some (0, k2), some (0, (10 * v) + k2), some (0, (10 * (gS G2 1000 63)) + k2), some (0, z7), none] [(0, z9)] G6 := by
            intro z9 hz9
            refine s_istore dX12_instance_83 (by decide) (lv' := [some (2, ((1000 : Nat) : Int)), some (0, v), some (0, k2), some (0, (10 * v) + k2), some (0, (10 * (gS G2 1000 63)) + k2), some (0, z7), some (0, z9)]) rfl ?_
            refine s_aload_n dX12_instance_85 rfl (Int.natCast_nonneg _) ?_
            refine gf_cellAt rfl dX12_instance_86 hMG6 ?_
            refine s_iload dX12_instance_89 rfl ?_
            refine s_iload dX12_instance_91 rfl ?_
            have J12 : ∀ z11 : Int, ((¬ z7 = 0) ∧ (¬ (gS G2 a_valueBy (((10 * v) + k2).toNat)) = ((-1))) ∧ (z9 = 0) ∧ z11 = gS G2 1000 67) ∨ ((¬ z7 = 0) ∧ (¬ (gS G2 a_valueBy (((10 * v) + k2).toNat)) = ((-1))) ∧ (¬ z9 = 0) ∧ z11 = (-3)) ∨ ((¬ z7 = 0) ∧ ((gS G2 a_valueBy (((10 * v) + k2).toNat)) = ((-1))) ∧ z11 = (-1)) ∨ ((z7 = 0) ∧ z11 = (-4)) → WP kX12_instance X 129 [some (2, ((1000 : Nat) : Int)), some (0, v), some (0, k2), some (0, (10 * v) + k2), some (0, (10 * (gS G2 1000 63)) + k2), some (0, z7), some (0, z9)] [(0, z11), (0, (10 * (gS G2 1000 63)) + k2), (2, ((a_cellAt : Nat) : Int))] G6 := by
              intro z11 hz11
              refine r_iast dX12_instance_129 hMG6 (mg_a_cellAt hMG6) (by decide) (by omega) (by omega) (fun G13 eG13 hMG13 => ?_)
              have hFG13 : Fr nX12_instance jX12_instance G G13 := Fr.setA hFG6 eG13 (by decide)
              show WP kX12_instance X 130 [some (2, ((1000 : Nat) : Int)), some (0, v), some (0, k2), some (0, (10 * v) + k2), some (0, (10 * (gS G2 1000 63)) + k2), some (0, z7), some (0, z9)] [] G13
              refine s_aload_n dX12_instance_130 rfl (Int.natCast_nonneg _) ?_
              refine gf_cellAt rfl dX12_instance_131 hMG13 ?_
              refine s_iload dX12_instance_134 rfl ?_
              refine s_iald dX12_instance_136 (mg_a_cellAt hMG13) (by omega) (by omega) (gsaE eG13) ?_
              refine s_if_lt (tgt := 161) dX12_instance_137 (by decide) (fun c14 => ?_) (fun c14 => ?_)
              · -- 137 to 161
                refine s_aload_n dX12_instance_161 rfl (Int.natCast_nonneg _) ?_
                refine gf_table rfl dX12_instance_162 hMG13 ?_
                refine s_bipush dX12_instance_165 rfl (by decide) ?_
                refine s_aload_n dX12_instance_167 rfl (Int.natCast_nonneg _) ?_
                refine gf_tables rfl dX12_instance_168 hMG13 (Eq.trans (gsnE eG13 (by decide)) (gsnE eG6 (by decide))) ?_
                refine s_imul dX12_instance_171 (by omega) ?_
                refine s_iload_n dX12_instance_172 rfl ?_
                refine s_iadd dX12_instance_173 (by omega) ?_
                refine s_iload dX12_instance_174 rfl ?_
                have J16 : ∀ z15 : Int, ((z7 = 0) ∧ z15 = (-1)) ∨ ((¬ z7 = 0) ∧ z15 = (10 * (gS G2 1000 63)) + k2) → WP kX12_instance X 185 [some (2, ((1000 : Nat) : Int)), some (0, v), some (0, k2), some (0, (10 * v) + k2), some (0, (10 * (gS G2 1000 63)) + k2), some (0, z7), some (0, z9)] [(0, z15), (0, (10 * (gS G2 1000 69)) + k2), (2, ((a_table : Nat) : Int))] G13 := by
                  intro z15 hz15
                  refine r_iast dX12_instance_185 hMG13 (mg_a_table hMG13) (by decide) (by omega) (by omega) (fun G17 eG17 hMG17 => ?_)
                  have hFG17 : Fr nX12_instance jX12_instance G G17 := Fr.setA hFG13 eG17 (by decide)
                  show WP kX12_instance X 186 [some (2, ((1000 : Nat) : Int)), some (0, v), some (0, k2), some (0, (10 * v) + k2), some (0, (10 * (gS G2 1000 63)) + k2), some (0, z7), some (0, z9)] [] G17
                  refine s_iinc dX12_instance_186 (v := k2) rfl (by omega) (by decide) (lv' := [some (2, ((1000 : Nat) : Int)), some (0, v), some (0, k2 + 1), some (0, (10 * v) + k2), some (0, (10 * (gS G2 1000 63)) + k2), some (0, z7), some (0, z9)]) rfl ?_
                  refine s_goto (tgt := 12) dX12_instance_189 (by decide) ?_
                  refine s_mask [true, true, true, false, false, false, false] (lv' := [some (2, ((1000 : Nat) : Int)), some (0, v), some (0, k2 + 1), none, none, none, none]) rfl ?_
                  have ha9 : ∀ y : Nat, gS G17 a_above y = if y = (10 * (gS G 1000 63) + k2).toNat then (10 * (gS G 1000 63) + k2) else gS G2 a_above y := by rw [← is2]; exact fun y => by rw [gsnE eG17 (by decide), gsnE eG13 (by decide), g_upd eG6]
                  have hc9 : ∀ y : Nat, gS G17 a_cellAt y = if y = (10 * (gS G 1000 63) + k2).toNat then z11 else gS G2 a_cellAt y := by rw [← is2]; exact fun y => by rw [gsnE eG17 (by decide), g_upd eG13, gsnE eG6 (by decide)]
                  have hn9 : (gS G17 1000 67) = (gS G2 1000 67) := by rw [gsnE eG17 (by decide), gsnE eG13 (by decide), gsnE eG6 (by decide)]
                  have hcs9 : ((-4 ≤ z11 ∧ z11 < 0) ∧ (gS G17 1000 67) = (gS G2 1000 67) ∧ ∀ y : Nat, gS G17 a_cellOf y = gS G2 a_cellOf y) ∨ (z11 = (gS G2 1000 67) ∧ (gS G17 1000 67) = (gS G2 1000 67) + 1 ∧ (∀ y : Nat, gS G17 a_cellOf y = if y = ((gS G2 1000 67)).toNat then (10 * (gS G 1000 63) + k2) else gS G2 a_cellOf y) ∧ ¬ (gS G2 a_valueType (10 * (gS G2 a_versionAt ((10 * (gS G 1000 63) + k2) / 10).toNat) + (10 * (gS G 1000 63) + k2) % 10).toNat) = -1 ∧ ¬ (gS G2 a_valueBy (10 * (gS G2 a_versionAt ((10 * (gS G 1000 63) + k2) / 10).toNat) + (10 * (gS G 1000 63) + k2) % 10).toNat) = -1) := Or.inl ⟨by omega, hn9, fun y => by rw [gsnE eG17 (by decide), gsnE eG13 (by decide), gsnE eG6 (by decide)]⟩
                  have hI9 : IN G17 ((gS G 1000 63) + 1) ((10 * (gS G 1000 63) + k2) + 1) := iI2.add (by omega) ha9 hc9 (fun y => by rw [gsnE eG17 (by decide), gsnE eG13 (by decide), gsnE eG6 (by decide)]) (fun y => by rw [gsnE eG17 (by decide), gsnE eG13 (by decide), gsnE eG6 (by decide)]) (fun y => by rw [gsnE eG17 (by decide), gsnE eG13 (by decide), gsnE eG6 (by decide)]) hcs9
                  have ht9 : ∀ y : Nat, gS G17 a_table y = if y = (10 * (gS G 1000 69) + k2).toNat then z15 else gS G2 a_table y := by rw [← it2]; exact fun y => by rw [g_upd eG17, gsnE eG13 (by decide), gsnE eG6 (by decide)]
                  exact ih2 (k2 + 1) G17 hMG17 hFG17 (⟨(by omega), (by rw [gsnE eG17 (by decide), gsnE eG13 (by decide), gsnE eG6 (by decide)]; exact is2), (by rw [gsnE eG17 (by decide), gsnE eG13 (by decide), gsnE eG6 (by decide)]; exact it2), (by have z9 := (show ∀ y : Nat, gS G17 a_versionAt y = gS G2 a_versionAt y from fun y => by rw [gsnE eG17 (by decide), gsnE eG13 (by decide), gsnE eG6 (by decide)]) ((gS G 1000 63)).toNat; rw [z9]; exact iv2), (by rw [show 10 * (gS G 1000 63) + (k2 + 1) = 10 * (gS G 1000 63) + k2 + 1 by omega]; exact hI9), (by intro j; rw [(show ∀ y : Nat, gS G17 a_valueType y = gS G2 a_valueType y from fun y => by rw [gsnE eG17 (by decide), gsnE eG13 (by decide), gsnE eG6 (by decide)]) j]; exact iy2 j), (by intro j j0 j1; rw [ht9, if_neg (by omega)]; exact ib2 j j0 j1), (by intro j j0 j1; by_cases hj : j = k2; (subst hj; rw [ht9, if_pos rfl]; have z8 := iy2 (10 * v + j).toNat; omega); (rw [ht9, if_neg (by omega)]; exact ia2 j j0 (by omega)))⟩) (by omega)
                refine s_if_eq (tgt := 184) dX12_instance_176 (by decide) (fun c18 => ?_) (fun c18 => ?_)
                · -- 176 to 184
                  refine s_iconst dX12_instance_184 (by decide) ?_
                  exact J16 ((-1)) (Or.inl ⟨c18, rfl⟩)
                · -- 176 to 179
                  refine s_iload dX12_instance_179 rfl ?_
                  refine s_goto (tgt := 185) dX12_instance_181 (by decide) ?_
                  exact J16 _ (Or.inr (⟨c18, rfl⟩))
              · -- 137 to 140
                refine s_aload_n dX12_instance_140 rfl (Int.natCast_nonneg _) ?_
                refine gf_cellOf rfl dX12_instance_141 hMG13 ?_
                refine s_aload_n dX12_instance_144 rfl (Int.natCast_nonneg _) ?_
                refine gf_cells rfl dX12_instance_145 hMG13 (Eq.trans (gsnE eG13 (by decide)) (gsnE eG6 (by decide))) ?_
                refine s_iload dX12_instance_148 rfl ?_
                refine r_iast dX12_instance_150 hMG13 (mg_a_cellOf hMG13) (by decide) (by omega) (by omega) (fun G19 eG19 hMG19 => ?_)
                have hFG19 : Fr nX12_instance jX12_instance G G19 := Fr.setA hFG13 eG19 (by decide)
                show WP kX12_instance X 151 [some (2, ((1000 : Nat) : Int)), some (0, v), some (0, k2), some (0, (10 * v) + k2), some (0, (10 * (gS G2 1000 63)) + k2), some (0, z7), some (0, z9)] [] G19
                refine s_aload_n dX12_instance_151 rfl (Int.natCast_nonneg _) ?_
                refine s_dup dX12_instance_152 (by decide) ?_
                refine gf_cells rfl dX12_instance_153 hMG19 (Eq.trans (gsnE eG19 (by decide)) (Eq.trans (gsnE eG13 (by decide)) (gsnE eG6 (by decide)))) ?_
                refine s_iconst dX12_instance_156 (by decide) ?_
                refine s_iadd dX12_instance_157 (by omega) ?_
                refine pf_cells rfl dX12_instance_158 hMG19 (fun G20 eG20 hMG20 => ?_)
                have hFG20 : Fr nX12_instance jX12_instance G G20 := Fr.setF hFG19 eG20 (by decide)
                refine s_aload_n dX12_instance_161 rfl (Int.natCast_nonneg _) ?_
                refine gf_table rfl dX12_instance_162 hMG20 ?_
                refine s_bipush dX12_instance_165 rfl (by decide) ?_
                refine s_aload_n dX12_instance_167 rfl (Int.natCast_nonneg _) ?_
                refine gf_tables rfl dX12_instance_168 hMG20 (Eq.trans (gsjE eG20 (by decide)) (Eq.trans (gsnE eG19 (by decide)) (Eq.trans (gsnE eG13 (by decide)) (gsnE eG6 (by decide))))) ?_
                refine s_imul dX12_instance_171 (by omega) ?_
                refine s_iload_n dX12_instance_172 rfl ?_
                refine s_iadd dX12_instance_173 (by omega) ?_
                refine s_iload dX12_instance_174 rfl ?_
                have J22 : ∀ z21 : Int, ((z7 = 0) ∧ z21 = (-1)) ∨ ((¬ z7 = 0) ∧ z21 = (10 * (gS G2 1000 63)) + k2) → WP kX12_instance X 185 [some (2, ((1000 : Nat) : Int)), some (0, v), some (0, k2), some (0, (10 * v) + k2), some (0, (10 * (gS G2 1000 63)) + k2), some (0, z7), some (0, z9)] [(0, z21), (0, (10 * (gS G2 1000 69)) + k2), (2, ((a_table : Nat) : Int))] G20 := by
                  intro z21 hz21
                  refine r_iast dX12_instance_185 hMG20 (mg_a_table hMG20) (by decide) (by omega) (by omega) (fun G23 eG23 hMG23 => ?_)
                  have hFG23 : Fr nX12_instance jX12_instance G G23 := Fr.setA hFG20 eG23 (by decide)
                  show WP kX12_instance X 186 [some (2, ((1000 : Nat) : Int)), some (0, v), some (0, k2), some (0, (10 * v) + k2), some (0, (10 * (gS G2 1000 63)) + k2), some (0, z7), some (0, z9)] [] G23
                  refine s_iinc dX12_instance_186 (v := k2) rfl (by omega) (by decide) (lv' := [some (2, ((1000 : Nat) : Int)), some (0, v), some (0, k2 + 1), some (0, (10 * v) + k2), some (0, (10 * (gS G2 1000 63)) + k2), some (0, z7), some (0, z9)]) rfl ?_
                  refine s_goto (tgt := 12) dX12_instance_189 (by decide) ?_
                  refine s_mask [true, true, true, false, false, false, false] (lv' := [some (2, ((1000 : Nat) : Int)), some (0, v), some (0, k2 + 1), none, none, none, none]) rfl ?_
                  have ha9 : ∀ y : Nat, gS G23 a_above y = if y = (10 * (gS G 1000 63) + k2).toNat then (10 * (gS G 1000 63) + k2) else gS G2 a_above y := by rw [← is2]; exact fun y => by rw [gsnE eG23 (by decide), gsnE eG20 (by decide), gsnE eG19 (by decide), gsnE eG13 (by decide), g_upd eG6]
                  have hc9 : ∀ y : Nat, gS G23 a_cellAt y = if y = (10 * (gS G 1000 63) + k2).toNat then z11 else gS G2 a_cellAt y := by rw [← is2]; exact fun y => by rw [gsnE eG23 (by decide), gsnE eG20 (by decide), gsnE eG19 (by decide), g_upd eG13, gsnE eG6 (by decide)]
                  have hn9 : (gS G23 1000 67) = (gS G2 1000 67) + 1 := by rw [gsnE eG23 (by decide), gsaE eG20]
                  have hcs9 : ((-4 ≤ z11 ∧ z11 < 0) ∧ (gS G23 1000 67) = (gS G2 1000 67) ∧ ∀ y : Nat, gS G23 a_cellOf y = gS G2 a_cellOf y) ∨ (z11 = (gS G2 1000 67) ∧ (gS G23 1000 67) = (gS G2 1000 67) + 1 ∧ (∀ y : Nat, gS G23 a_cellOf y = if y = ((gS G2 1000 67)).toNat then (10 * (gS G 1000 63) + k2) else gS G2 a_cellOf y) ∧ ¬ (gS G2 a_valueType (10 * (gS G2 a_versionAt ((10 * (gS G 1000 63) + k2) / 10).toNat) + (10 * (gS G 1000 63) + k2) % 10).toNat) = -1 ∧ ¬ (gS G2 a_valueBy (10 * (gS G2 a_versionAt ((10 * (gS G 1000 63) + k2) / 10).toNat) + (10 * (gS G 1000 63) + k2) % 10).toNat) = -1) := by
                    refine Or.inr ⟨by omega, hn9, by rw [← is2]; exact fun y => by rw [gsnE eG23 (by decide), gsnE eG20 (by decide), g_upd eG19, gsnE eG13 (by decide), gsnE eG6 (by decide)], ?_⟩
                    rw [show (10 * (gS G 1000 63) + k2) / 10 = (gS G 1000 63) by omega, show (10 * (gS G 1000 63) + k2) % 10 = k2 by omega, iv2]
                    exact ⟨by omega, by omega⟩
                  have hI9 : IN G23 ((gS G 1000 63) + 1) ((10 * (gS G 1000 63) + k2) + 1) := iI2.add (by omega) ha9 hc9 (fun y => by rw [gsnE eG23 (by decide), gsnE eG20 (by decide), gsnE eG19 (by decide), gsnE eG13 (by decide), gsnE eG6 (by decide)]) (fun y => by rw [gsnE eG23 (by decide), gsnE eG20 (by decide), gsnE eG19 (by decide), gsnE eG13 (by decide), gsnE eG6 (by decide)]) (fun y => by rw [gsnE eG23 (by decide), gsnE eG20 (by decide), gsnE eG19 (by decide), gsnE eG13 (by decide), gsnE eG6 (by decide)]) hcs9
                  have ht9 : ∀ y : Nat, gS G23 a_table y = if y = (10 * (gS G 1000 69) + k2).toNat then z21 else gS G2 a_table y := by rw [← it2]; exact fun y => by rw [g_upd eG23, gsnE eG20 (by decide), gsnE eG19 (by decide), gsnE eG13 (by decide), gsnE eG6 (by decide)]
                  exact ih2 (k2 + 1) G23 hMG23 hFG23 (⟨(by omega), (by rw [gsnE eG23 (by decide), gsjE eG20 (by decide), gsnE eG19 (by decide), gsnE eG13 (by decide), gsnE eG6 (by decide)]; exact is2), (by rw [gsnE eG23 (by decide), gsjE eG20 (by decide), gsnE eG19 (by decide), gsnE eG13 (by decide), gsnE eG6 (by decide)]; exact it2), (by have z9 := (show ∀ y : Nat, gS G23 a_versionAt y = gS G2 a_versionAt y from fun y => by rw [gsnE eG23 (by decide), gsnE eG20 (by decide), gsnE eG19 (by decide), gsnE eG13 (by decide), gsnE eG6 (by decide)]) ((gS G 1000 63)).toNat; rw [z9]; exact iv2), (by rw [show 10 * (gS G 1000 63) + (k2 + 1) = 10 * (gS G 1000 63) + k2 + 1 by omega]; exact hI9), (by intro j; rw [(show ∀ y : Nat, gS G23 a_valueType y = gS G2 a_valueType y from fun y => by rw [gsnE eG23 (by decide), gsnE eG20 (by decide), gsnE eG19 (by decide), gsnE eG13 (by decide), gsnE eG6 (by decide)]) j]; exact iy2 j), (by intro j j0 j1; rw [ht9, if_neg (by omega)]; exact ib2 j j0 j1), (by intro j j0 j1; by_cases hj : j = k2; (subst hj; rw [ht9, if_pos rfl]; have z8 := iy2 (10 * v + j).toNat; omega); (rw [ht9, if_neg (by omega)]; exact ia2 j j0 (by omega)))⟩) (by omega)
                refine s_if_eq (tgt := 184) dX12_instance_176 (by decide) (fun c24 => ?_) (fun c24 => ?_)
                · -- 176 to 184
                  refine s_iconst dX12_instance_184 (by decide) ?_
                  exact J22 ((-1)) (Or.inl ⟨c24, rfl⟩)
                · -- 176 to 179
                  refine s_iload dX12_instance_179 rfl ?_
                  refine s_goto (tgt := 185) dX12_instance_181 (by decide) ?_
                  exact J22 _ (Or.inr (⟨c24, rfl⟩))
            refine s_if_ne (tgt := 101) dX12_instance_93 (by decide) (fun c25 => ?_) (fun c25 => ?_)
            · -- 93 to 101
              refine s_aload_n dX12_instance_101 rfl (Int.natCast_nonneg _) ?_
              refine gf_valueBy rfl dX12_instance_102 hMG6 ?_
              refine s_iload_n dX12_instance_105 rfl ?_
              refine s_iald dX12_instance_106 (mg_a_valueBy hMG6) (by omega) (by omega) (gsnE eG6 (by decide)) ?_
              refine s_iconst dX12_instance_107 (by decide) ?_
              refine s_icmp_ne (tgt := 115) dX12_instance_108 (by decide) (fun c26 => ?_) (fun c26 => ?_)
              · -- 108 to 115
                refine s_iload dX12_instance_115 rfl ?_
                refine s_if_eq (tgt := 125) dX12_instance_117 (by decide) (fun c27 => ?_) (fun c27 => ?_)
                · -- 117 to 125
                  refine s_aload_n dX12_instance_125 rfl (Int.natCast_nonneg _) ?_
                  refine gf_cells rfl dX12_instance_126 hMG6 (gsnE eG6 (by decide)) ?_
                  exact J12 _ (Or.inl ⟨c25, c26, c27, rfl⟩)
                · -- 117 to 120
                  refine s_bipush dX12_instance_120 rfl (by decide) ?_
                  refine s_goto (tgt := 129) dX12_instance_122 (by decide) ?_
                  exact J12 ((-3)) (Or.inr (Or.inl ⟨c25, c26, c27, rfl⟩))
              · -- 108 to 111
                refine s_iconst dX12_instance_111 (by decide) ?_
                refine s_goto (tgt := 129) dX12_instance_112 (by decide) ?_
                exact J12 ((-1)) (Or.inr (Or.inr (Or.inl ⟨c25, c26, rfl⟩)))
            · -- 93 to 96
              refine s_bipush dX12_instance_96 rfl (by decide) ?_
              refine s_goto (tgt := 129) dX12_instance_98 (by decide) ?_
              exact J12 ((-4)) (Or.inr (Or.inr (Or.inr (⟨c25, rfl⟩))))
          refine s_if_eq (tgt := 82) dX12_instance_64 (by decide) (fun c28 => ?_) (fun c28 => ?_)
          · -- 64 to 82
            refine s_iconst dX12_instance_82 (by decide) ?_
            exact J10 0 (Or.inl ⟨c28, rfl⟩)
          · -- 64 to 67
            refine s_aload_n dX12_instance_67 rfl (Int.natCast_nonneg _) ?_
            refine gf_valueFlags rfl dX12_instance_68 hMG6 ?_
            refine s_iload_n dX12_instance_71 rfl ?_
            refine s_iald dX12_instance_72 (mg_a_valueFlags hMG6) (by omega) (by omega) (gsnE eG6 (by decide)) ?_
            refine s_iconst dX12_instance_73 (by decide) ?_
            refine s_iand dX12_instance_74 ?_
            refine s_if_eq (tgt := 82) dX12_instance_75 (by decide) (fun c29 => ?_) (fun c29 => ?_)
            · -- 75 to 82
              refine s_iconst dX12_instance_82 (by decide) ?_
              exact J10 0 (Or.inr (Or.inl ⟨c28, c29, rfl⟩))
            · -- 75 to 78
              refine s_iconst dX12_instance_78 (by decide) ?_
              refine s_goto (tgt := 83) dX12_instance_79 (by decide) ?_
              exact J10 1 (Or.inr (Or.inr (⟨c28, c29, rfl⟩)))
        refine s_icmp_eq (tgt := 59) dX12_instance_52 (by decide) (fun c30 => ?_) (fun c30 => ?_)
        · -- 52 to 59
          refine s_iconst dX12_instance_59 (by decide) ?_
          exact J8 0 (Or.inl ⟨c30, rfl⟩)
        · -- 52 to 55
          refine s_iconst dX12_instance_55 (by decide) ?_
          refine s_goto (tgt := 60) dX12_instance_56 (by decide) ?_
          exact J8 1 (Or.inr (⟨c30, rfl⟩))
  exact L2 _ 0 G1 hMG1 hFG1 (⟨(by omega), (by exact gsnE eG1 (by decide)), (by exact gsnE eG1 (by decide)), (by exact g_at (g_upd eG1)), (by rw [show 10 * (gS G 1000 63) + (0 : Int) = 10 * (gS G 1000 63) by omega]; exact hI1), (by intro j; exact gsnE eG1 (by decide)), (by intro j j0 j1; exact gsnE eG1 (by decide)), (by intro j j0 j1; omega)⟩) (Nat.lt_succ_self _)

abbrev nX12_together : List Nat := [a_above]
abbrev jX12_together : List Nat := []
def TX12_together : TR := fun as G Qr => ∃ (a b : Int) (I E : Int), as = [(2, ((1000 : Nat) : Int)), (0, a), (0, b)] ∧ MG G ∧ (IN G I E) ∧ (0 ≤ a ∧ a < E) ∧ (0 ≤ b ∧ b < E) ∧ ∀ (r : Int) (G' : LG), MG G' → (Fr nX12_together jX12_together G G' ∧ (IN G' I E ∧ 0 ≤ r ∧ r < E)) → Qr (.inl (some (0, r))) G'
set_option maxHeartbeats 4000000 in
set_option maxRecDepth 100000 in
theorem gX12_together : Good kX12_together yX12_together 1 TX12_together := by
  refine good_of (by decide) rfl rfl (fun as G Qr h => ?_) (fun X as G Qr hcf hR hT oa => ?_)
  · obtain ⟨a, b, I, E, rfl, -⟩ := h; exact Nat.le_of_ble_eq_true rfl
  obtain ⟨a, b, I, E, rfl, hM, hI, ha, hb, hQ⟩ := hT
  show WP kX12_together X 0 [some (2, ((1000 : Nat) : Int)), some (0, a), some (0, b), none, none] [] G
  have hr_a : inR a := okv_R (oa _ (by simp))
  have hr_b : inR b := okv_R (oa _ (by simp))
  have hI1 := hI.1
  have hI2 := hI.2.1
  have hra := hI.root ha.1 ha.2
  have hrb := hI.root hb.1 hb.2
  refine s_aload_n dX12_together_0 rfl (Int.natCast_nonneg _) ?_
  refine s_iload_n dX12_together_1 rfl ?_
  refine cv_X12_500 rfl gX12_rootOf dX12_together_2 hM (by rw [hcf]; decide) (as := [(0, a)]) rfl (Nat.le_of_ble_eq_true rfl) ⟨a, rfl, hM, (by exact hI.rt ha.1 ha.2), ?_⟩
  show WP kX12_together X 5 [some (2, ((1000 : Nat) : Int)), some (0, a), some (0, b), none, none] [(0, rootV G a)] G
  refine s_istore_n dX12_together_5 (by decide) (lv' := [some (2, ((1000 : Nat) : Int)), some (0, a), some (0, b), some (0, rootV G a), none]) rfl ?_
  refine s_aload_n dX12_together_6 rfl (Int.natCast_nonneg _) ?_
  refine s_iload_n dX12_together_7 rfl ?_
  refine cv_X12_500 rfl gX12_rootOf dX12_together_8 hM (by rw [hcf]; decide) (as := [(0, b)]) rfl (Nat.le_of_ble_eq_true rfl) ⟨b, rfl, hM, (by exact hI.rt hb.1 hb.2), ?_⟩
  show WP kX12_together X 11 [some (2, ((1000 : Nat) : Int)), some (0, a), some (0, b), some (0, rootV G a), none] [(0, rootV G b)] G
  refine s_istore dX12_together_11 (by decide) (lv' := [some (2, ((1000 : Nat) : Int)), some (0, a), some (0, b), some (0, rootV G a), some (0, rootV G b)]) rfl ?_
  refine s_aload_n dX12_together_13 rfl (Int.natCast_nonneg _) ?_
  refine gf_cellAt rfl dX12_together_14 hM ?_
  refine s_iload_n dX12_together_17 rfl ?_
  refine s_iald dX12_together_18 (mg_a_cellAt hM) (by omega) (by omega) rfl ?_
  refine s_iconst dX12_together_19 (by decide) ?_
  refine s_icmp_ne (tgt := 34) dX12_together_20 (by decide) (fun c1 => ?_) (fun c1 => ?_)
  · -- 20 to 34
    refine s_aload_n dX12_together_34 rfl (Int.natCast_nonneg _) ?_
    refine gf_above rfl dX12_together_35 hM ?_
    refine s_iload dX12_together_38 rfl ?_
    refine s_iload_n dX12_together_40 rfl ?_
    refine r_iast dX12_together_41 hM (mg_a_above hM) (by decide) (by omega) (by omega) (fun G2 eG2 hMG2 => ?_)
    have hFG2 : Fr nX12_together jX12_together G G2 := Fr.setA Fr.rf eG2 (by decide)
    show WP kX12_together X 42 [some (2, ((1000 : Nat) : Int)), some (0, a), some (0, b), some (0, rootV G a), some (0, rootV G b)] [] G2
    refine s_iload_n dX12_together_42 rfl ?_
    exact s_iret hR dX12_together_43 rfl (hQ _ G2 hMG2 (⟨hFG2, ⟨hI.link hrb.1 hra.1 hrb.2 hra.2 eG2, hra.1⟩⟩))
  · -- 20 to 23
    refine s_aload_n dX12_together_23 rfl (Int.natCast_nonneg _) ?_
    refine gf_above rfl dX12_together_24 hM ?_
    refine s_iload_n dX12_together_27 rfl ?_
    refine s_iload dX12_together_28 rfl ?_
    refine r_iast dX12_together_30 hM (mg_a_above hM) (by decide) (by omega) (by omega) (fun G3 eG3 hMG3 => ?_)
    have hFG3 : Fr nX12_together jX12_together G G3 := Fr.setA Fr.rf eG3 (by decide)
    show WP kX12_together X 31 [some (2, ((1000 : Nat) : Int)), some (0, a), some (0, b), some (0, rootV G a), some (0, rootV G b)] [] G3
    refine s_iload dX12_together_31 rfl ?_
    exact s_iret hR dX12_together_33 rfl (hQ _ G3 hMG3 (⟨hFG3, ⟨hI.link hra.1 hrb.1 hra.2 hrb.2 eG3, hrb.1⟩⟩))
