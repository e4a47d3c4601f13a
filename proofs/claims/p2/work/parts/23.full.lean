/-! THE TABLE OF FULL TYPES -/
def FU (G : LG) : Prop := (0 ≤ (gS G 1000 26) ∧ (gS G 1000 26) ≤ 150000) ∧ 0 ≤ (gS G 1000 35) ∧ 0 ≤ (gS G 1000 42) ∧ (∀ p : Int, 0 ≤ p → p < 16384 → -1 ≤ (gS G a_fHead (p).toNat) ∧ (gS G a_fHead (p).toNat) < (gS G 1000 26)) ∧
  ∀ k : Int, 0 ≤ k → k < (gS G 1000 26) → (0 ≤ (gS G a_fKind (k).toNat) ∧ (gS G a_fKind (k).toNat) ≤ 3) ∧ ((gS G a_fKind (k).toNat) = 1 → 0 ≤ (gS G a_fA (k).toNat) ∧ (gS G a_fA (k).toNat) ≤ 5) ∧ ((gS G a_fKind (k).toNat) = 2 → 0 ≤ (gS G a_fA (k).toNat) ∧ (gS G a_fA (k).toNat) < (gS G 1000 42)) ∧ ((gS G a_fKind (k).toNat) = 3 → 0 ≤ (gS G a_fA (k).toNat) ∧ (gS G a_fA (k).toNat) < k ∧ 0 ≤ (gS G a_fB (k).toNat) ∧ (gS G a_fB (k).toNat) < k) ∧
    (1 ≤ (gS G a_fSize (k).toNat) ∧ (gS G a_fSize (k).toNat) ≤ 1000000) ∧ (¬ (gS G a_fKind (k).toNat) = 3 → (gS G a_fSize (k).toNat) = 1) ∧ ((gS G a_fKind (k).toNat) = 3 → (gS G a_fSize (k).toNat) = if 1 + (gS G a_fSize ((gS G a_fA (k).toNat)).toNat) + (gS G a_fSize ((gS G a_fB (k).toNat)).toNat) > 1000000 then 1000000 else 1 + (gS G a_fSize ((gS G a_fA (k).toNat)).toNat) + (gS G a_fSize ((gS G a_fB (k).toNat)).toNat)) ∧ (0 ≤ (gS G a_fMark (k).toNat) ∧ (gS G a_fMark (k).toNat) ≤ (gS G 1000 35)) ∧ (-1 ≤ (gS G a_fNext (k).toNat) ∧ (gS G a_fNext (k).toNat) < k)
/-- what was in the table is there as it was -/
def FX (G G' : LG) : Prop := (gS G 1000 26) ≤ (gS G' 1000 26) ∧ ∀ k : Int, 0 ≤ k → k < (gS G 1000 26) → (gS G' a_fKind (k).toNat) = (gS G a_fKind (k).toNat) ∧ (gS G' a_fA (k).toNat) = (gS G a_fA (k).toNat) ∧ (gS G' a_fB (k).toNat) = (gS G a_fB (k).toNat) ∧ (gS G' a_fSize (k).toNat) = (gS G a_fSize (k).toNat)
theorem FX.rf {G : LG} : FX G G := ⟨Int.le_refl _, fun _ _ _ => ⟨rfl, rfl, rfl, rfl⟩⟩
theorem FX.trans {G G1 G2 : LG} (h : FX G G1) (k : FX G1 G2) : FX G G2 := by
  refine ⟨Int.le_trans h.1 k.1, fun j h0 h1 => ?_⟩
  obtain ⟨a1, a2, a3, a4⟩ := h.2 j h0 h1
  obtain ⟨b1, b2, b3, b4⟩ := k.2 j h0 (Int.lt_of_lt_of_le h1 h.1)
  exact ⟨b1.trans a1, b2.trans a2, b3.trans a3, b4.trans a4⟩
theorem i_and_nn (x : Int) : 0 ≤ i_and x 2147483647 := by
  unfold i_and
  have h : (Int32.ofInt x &&& Int32.ofInt 2147483647).toInt = ((Int32.ofInt x &&& Int32.ofInt 2147483647).toBitVec).toInt := rfl
  rw [h, Int32.toBitVec_and, BitVec.toInt_eq_msb_cond]
  have hm : ((Int32.ofInt x).toBitVec &&& (Int32.ofInt 2147483647).toBitVec).msb = false := by
    rw [BitVec.msb_and]
    have h2 : (Int32.ofInt 2147483647).toBitVec.msb = false := by decide
    rw [h2, Bool.and_false]
  rw [hm]
  simp
theorem g_upd {G G' : LG} {n i : Nat} {v : Int} (e : G' = gset G n i v) (y : Nat) : gS G' n y = if y = i then v else gS G n y := by
  rw [e, gset_eq]
  by_cases h : y = i
  · rw [if_pos ⟨rfl, h⟩, if_pos h]
  · rw [if_neg (fun q => h q.2), if_neg h]
theorem g_at {G G' : LG} {n i : Nat} {v : Int} (h : ∀ y : Nat, gS G' n y = if y = i then v else gS G n y) : gS G' n i = v := by rw [h, if_pos rfl]
theorem g_ne {G G' : LG} {n i y : Nat} {v : Int} (h : ∀ y : Nat, gS G' n y = if y = i then v else gS G n y) (hy : y ≠ i) : gS G' n y = gS G n y := by rw [h, if_neg hy]
theorem full_new {G G1 G2 G3 G4 G5 G6 G7 G8 : LG} {k a b z p F : Int} (hFU : FU G) (hF : F = (gS G 1000 26)) (hc : F < 150000) (hk : 0 ≤ k ∧ k ≤ 3) (h1 : k = 1 → 0 ≤ a ∧ a ≤ 5) (h2 : k = 2 → 0 ≤ a ∧ a < (gS G 1000 42)) (h3 : k = 3 → 0 ≤ a ∧ a < F ∧ 0 ≤ b ∧ b < F)
    (hz : (k = 3 → z = if 1 + (gS G a_fSize (a).toNat) + (gS G a_fSize (b).toNat) > 1000000 then 1000000 else 1 + (gS G a_fSize (a).toNat) + (gS G a_fSize (b).toNat)) ∧ (¬ k = 3 → z = 1)) (hp : 0 ≤ p ∧ p < 16384)
    (e1 : G1 = gset G a_fKind (F).toNat k) (e2 : G2 = gset G1 a_fA (F).toNat a) (e3 : G3 = gset G2 a_fB (F).toNat b) (e4 : G4 = gset G3 a_fSize (F).toNat z) (e5 : G5 = gset G4 a_fMark (F).toNat 0) (e6 : G6 = gset G5 a_fNext (F).toNat (gS G a_fHead (p).toNat)) (e7 : G7 = gset G6 a_fHead (p).toNat F) (e8 : G8 = gset G7 1000 26 (F + 1)) :
    FU G8 ∧ (gS G8 1000 26) = F + 1 ∧ FX G G8 ∧ (∀ j : Int, 0 ≤ j → j < F → (gS G8 a_fMark (j).toNat) = (gS G a_fMark (j).toNat)) ∧ (gS G8 a_fKind (F).toNat) = k ∧ (gS G8 a_fA (F).toNat) = a ∧ (gS G8 a_fB (F).toNat) = b := by
  have hFU0 := hFU
  obtain ⟨hf, hmk, hth, hhd, hent⟩ := hFU
  have uK : ∀ y, gS G8 a_fKind y = if y = (F).toNat then k else gS G a_fKind y := fun y => by rw [gsnE e8 (by decide), gsnE e7 (by decide), gsnE e6 (by decide), gsnE e5 (by decide), gsnE e4 (by decide), gsnE e3 (by decide), gsnE e2 (by decide), g_upd e1]
  have uA : ∀ y, gS G8 a_fA y = if y = (F).toNat then a else gS G a_fA y := fun y => by rw [gsnE e8 (by decide), gsnE e7 (by decide), gsnE e6 (by decide), gsnE e5 (by decide), gsnE e4 (by decide), gsnE e3 (by decide), g_upd e2, gsnE e1 (by decide)]
  have uB : ∀ y, gS G8 a_fB y = if y = (F).toNat then b else gS G a_fB y := fun y => by rw [gsnE e8 (by decide), gsnE e7 (by decide), gsnE e6 (by decide), gsnE e5 (by decide), gsnE e4 (by decide), g_upd e3, gsnE e2 (by decide), gsnE e1 (by decide)]
  have uZ : ∀ y, gS G8 a_fSize y = if y = (F).toNat then z else gS G a_fSize y := fun y => by rw [gsnE e8 (by decide), gsnE e7 (by decide), gsnE e6 (by decide), gsnE e5 (by decide), g_upd e4, gsnE e3 (by decide), gsnE e2 (by decide), gsnE e1 (by decide)]
  have uM : ∀ y, gS G8 a_fMark y = if y = (F).toNat then 0 else gS G a_fMark y := fun y => by rw [gsnE e8 (by decide), gsnE e7 (by decide), gsnE e6 (by decide), g_upd e5, gsnE e4 (by decide), gsnE e3 (by decide), gsnE e2 (by decide), gsnE e1 (by decide)]
  have uN : ∀ y, gS G8 a_fNext y = if y = (F).toNat then gS G a_fHead (p).toNat else gS G a_fNext y := fun y => by rw [gsnE e8 (by decide), gsnE e7 (by decide), g_upd e6, gsnE e5 (by decide), gsnE e4 (by decide), gsnE e3 (by decide), gsnE e2 (by decide), gsnE e1 (by decide)]
  have uH : ∀ y, gS G8 a_fHead y = if y = (p).toNat then F else gS G a_fHead y := fun y => by rw [gsnE e8 (by decide), g_upd e7, gsnE e6 (by decide), gsnE e5 (by decide), gsnE e4 (by decide), gsnE e3 (by decide), gsnE e2 (by decide), gsnE e1 (by decide)]
  have uf : (gS G8 1000 26) = F + 1 := gsaE e8
  have um : (gS G8 1000 35) = (gS G 1000 35) := by rw [gsjE e8 (by decide), gsnE e7 (by decide), gsnE e6 (by decide), gsnE e5 (by decide), gsnE e4 (by decide), gsnE e3 (by decide), gsnE e2 (by decide), gsnE e1 (by decide)]
  have ut : (gS G8 1000 42) = (gS G 1000 42) := by rw [gsjE e8 (by decide), gsnE e7 (by decide), gsnE e6 (by decide), gsnE e5 (by decide), gsnE e4 (by decide), gsnE e3 (by decide), gsnE e2 (by decide), gsnE e1 (by decide)]
  have hFX : FX G G8 := ⟨by omega, fun j h0 h9 => ⟨g_ne uK (by omega), g_ne uA (by omega), g_ne uB (by omega), g_ne uZ (by omega)⟩⟩
  refine ⟨⟨by omega, by omega, by omega, fun q q0 q1 => ?_, fun j j0 j1 => ?_⟩, uf, hFX, fun j h0 h9 => g_ne uM (by omega), g_at uK, g_at uA, g_at uB⟩
  · have h9 := hhd q q0 q1
    rw [uH]
    split <;> omega
  · by_cases hj : j = F
    · subst hj
      rw [g_at uK, g_at uA, g_at uB, g_at uZ, g_at uM, g_at uN, ut, um]
      have h9 := hhd p hp.1 hp.2
      refine ⟨hk, h1, h2, fun q => by have := h3 q; omega, ?_, hz.2, fun q => ?_, by omega, by omega⟩
      · by_cases q : k = 3
        · obtain ⟨a0, a1, b0, b1⟩ := h3 q
          have s1 := (hent a a0 (by omega)).2.2.2.2.1
          have s2 := (hent b b0 (by omega)).2.2.2.2.1
          rw [hz.1 q]
          split <;> omega
        · rw [hz.2 q]; omega
      · obtain ⟨a0, a1, b0, b1⟩ := h3 q
        rw [g_ne uZ (by omega), g_ne uZ (by omega)]
        exact hz.1 q
    · have hjF : j < F := by omega
      have hne : (j).toNat ≠ (F).toNat := by omega
      obtain ⟨x1, x2, x3, x4, x5, x6, x7, x8, x9⟩ := hent j j0 (by omega)
      rw [g_ne uK hne, g_ne uA hne, g_ne uB hne, g_ne uZ hne, g_ne uM hne, g_ne uN hne, ut, um]
      refine ⟨x1, x2, x3, x4, x5, x6, fun q => ?_, x8, x9⟩
      obtain ⟨a0, a1, b0, b1⟩ := x4 q
      rw [g_ne uZ (by omega), g_ne uZ (by omega)]
      exact x7 q
