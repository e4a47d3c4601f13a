/-! THE STACK OF typeFor: parts that come (phase 0), wholes that wait for theirs (phase 1) -/
def tfg (G Gz : LG) (j : Nat) : Int := if gS G a_phase j = 0 then -1 else eMany Gz (gS G a_todo j) - 1
def tfh (G Gz : LG) (j : Nat) : Int := if gS G a_phase j = 0 then 5 * gS Gz a_eWeight (gS G a_todo j).toNat - 1 else 4
def TF (G Gz : LG) (y m z : Int) : Prop := 0 ≤ y ∧ (∀ j : Int, 0 ≤ j → j < y → (0 ≤ (gS G a_todo (j).toNat) ∧ (gS G a_todo (j).toNat) < (gS Gz 1000 6)) ∧ ((gS G a_phase (j).toNat) = 0 ∨ ((gS G a_phase (j).toNat) = 1 ∧ 2 ≤ (gS Gz a_eKind ((gS G a_todo (j).toNat)).toNat))) ∧ 0 ≤ ssum (tfg G Gz) (j).toNat) ∧ z = ssum (tfh G Gz) (y).toNat ∧ m = 1 + ssum (tfg G Gz) (y).toNat
def TFE (G Gz : LG) (y m z : Int) : Prop := ∃ zz : Int, zz ≤ z ∧ TF G Gz y m zz
theorem ssum_le {f : Nat → Int} {c : Int} : ∀ (n : Nat), (∀ j, j < n → f j ≤ c) → ssum f n ≤ c * (n : Int) := by
  intro n
  induction n with
  | zero => intro _; show (0 : Int) ≤ c * 0; rw [Int.mul_zero]; exact Int.le_refl _
  | succ n ih =>
    intro h
    have h1 := ih (fun j hj => h j (by omega))
    have h2 := h n (by omega)
    show ssum f n + f n ≤ c * ((n + 1 : Nat) : Int)
    rw [show ((n + 1 : Nat) : Int) = (n : Int) + 1 by omega, Int.mul_add, Int.mul_one]
    omega
theorem TF.top {G Gz : LG} {y m z : Int} (h : TF G Gz y m z) (hy : 0 < y) : z = ssum (tfh G Gz) (y - 1).toNat + tfh G Gz (y - 1).toNat ∧ m = 1 + ssum (tfg G Gz) (y - 1).toNat + tfg G Gz (y - 1).toNat ∧ 0 ≤ ssum (tfg G Gz) (y - 1).toNat := by
  obtain ⟨h0, h1, h2, h3⟩ := h
  have e : y.toNat = (y - 1).toNat + 1 := by omega
  rw [e] at h2 h3
  have e2 : ssum (tfh G Gz) ((y - 1).toNat + 1) = ssum (tfh G Gz) (y - 1).toNat + tfh G Gz (y - 1).toNat := rfl
  have e3 : ssum (tfg G Gz) ((y - 1).toNat + 1) = ssum (tfg G Gz) (y - 1).toNat + tfg G Gz (y - 1).toNat := rfl
  have := (h1 (y - 1) (by omega) (by omega)).2.2
  exact ⟨by omega, by omega, by omega⟩
theorem TF.h1 {G Gz : LG} {y m z : Int} (hE : EX Gz) (h : TF G Gz y m z) {j : Nat} (hj : (j : Int) < y) : 4 ≤ tfh G Gz j := by
  have h1 := h.2.1 (j : Int) (by omega) hj
  rw [Int.toNat_natCast] at h1
  have := (hE.w h1.1.1 h1.1.2).1
  unfold tfh
  split <;> omega
theorem TF.le {G Gz : LG} {y m z : Int} (hE : EX Gz) (h : TF G Gz y m z) : 0 ≤ y ∧ y ≤ z ∧ 0 ≤ m ∧ m ≤ 1 + 2 * y := by
  obtain ⟨h0, h1, h2, h3⟩ := h
  have hge := ssum_ge (f := tfh G Gz) y.toNat (fun j hj => by have := TF.h1 hE ⟨h0, h1, h2, h3⟩ (j := j) (by omega); omega)
  have hle := ssum_le (f := tfg G Gz) (c := 2) y.toNat (fun j hj => by have := (eMany_rng Gz (gS G a_todo j)).2; unfold tfg; split <;> omega)
  refine ⟨h0, by omega, ?_, by omega⟩
  by_cases hy : 0 < y
  · have := TF.top ⟨h0, h1, h2, h3⟩ hy
    have h9 : -1 ≤ tfg G Gz (y - 1).toNat := by have := (eMany_rng Gz (gS G a_todo (y - 1).toNat)).1; unfold tfg; split <;> omega
    omega
  · have e : y.toNat = 0 := by omega
    rw [e] at h3
    have : ssum (tfg G Gz) 0 = 0 := rfl
    omega
theorem tf_cg {G G2 Gz : LG} {a : Nat} (h1 : gS G2 a_todo a = gS G a_todo a) (h2 : gS G2 a_phase a = gS G a_phase a) : tfg G2 Gz a = tfg G Gz a ∧ tfh G2 Gz a = tfh G Gz a := by unfold tfg tfh; rw [h1, h2]; exact ⟨rfl, rfl⟩
theorem TFE.le {G Gz : LG} {y m z : Int} (hE : EX Gz) (h : TFE G Gz y m z) : 0 ≤ y ∧ y ≤ z ∧ 0 ≤ m ∧ m ≤ 1 + 2 * y := by
  obtain ⟨zz, h1, h2⟩ := h
  have := h2.le hE
  omega
theorem TFE.at {G Gz : LG} {y m z : Int} (h : TFE G Gz y m z) (hy : 0 < y) : (0 ≤ (gS G a_todo (y - 1).toNat) ∧ (gS G a_todo (y - 1).toNat) < (gS Gz 1000 6)) ∧ ((gS G a_phase (y - 1).toNat) = 0 ∨ ((gS G a_phase (y - 1).toNat) = 1 ∧ 2 ≤ (gS Gz a_eKind ((gS G a_todo (y - 1).toNat)).toNat))) ∧ (¬ (gS G a_phase (y - 1).toNat) = 0 → eMany Gz ((gS G a_todo (y - 1).toNat)) ≤ m) := by
  obtain ⟨zz, h1, h2⟩ := h
  have h3 := h2.2.1 (y - 1) (by omega) (by omega)
  refine ⟨h3.1, h3.2.1, fun q => ?_⟩
  have h4 := h2.top hy
  have h5 : tfg G Gz (y - 1).toNat = eMany Gz ((gS G a_todo (y - 1).toNat)) - 1 := by unfold tfg; rw [if_neg q]
  omega
theorem TFE.pop {G G2 Gz : LG} {y m z x : Int} (hE : EX Gz) (h : TFE G Gz y m z) (hy : 0 < y) (hx : (gS G a_todo (y - 1).toNat) = x) (hl : (gS G a_phase (y - 1).toNat) = 0 → eMany Gz x = 0) (g1 : ∀ j : Int, 0 ≤ j → j < y - 1 → (gS G2 a_todo (j).toNat) = (gS G a_todo (j).toNat)) (g2 : ∀ j : Int, 0 ≤ j → j < y - 1 → (gS G2 a_phase (j).toNat) = (gS G a_phase (j).toNat)) :
    eMany Gz x ≤ m ∧ TFE G2 Gz (y - 1) (m - eMany Gz x + 1) (z - 4) := by
  subst hx
  obtain ⟨zz, hz, ht⟩ := h
  have h4 := ht.top hy
  have h5 := TF.h1 hE ht (j := (y - 1).toNat) (by omega)
  have h6 : tfg G Gz (y - 1).toNat = eMany Gz ((gS G a_todo (y - 1).toNat)) - 1 := by
    unfold tfg
    split
    · rename_i q; rw [hl q]; rfl
    · rfl
  have hc : ∀ j : Nat, (j : Int) < y - 1 → tfg G2 Gz j = tfg G Gz j ∧ tfh G2 Gz j = tfh G Gz j := fun j hj => by
    have a1 := g1 (j : Int) (by omega) hj
    have a2 := g2 (j : Int) (by omega) hj
    rw [Int.toNat_natCast] at a1 a2
    exact tf_cg a1 a2
  have eg : ∀ n : Nat, (n : Int) ≤ y - 1 → ssum (tfg G2 Gz) n = ssum (tfg G Gz) n := fun n hn => ssum_congr n (fun j hj => (hc j (by omega)).1)
  have eh : ssum (tfh G2 Gz) (y - 1).toNat = ssum (tfh G Gz) (y - 1).toNat := ssum_congr _ (fun j hj => (hc j (by omega)).2)
  refine ⟨by omega, _, ?_, by omega, fun j j0 j1 => ?_, rfl, ?_⟩
  · rw [eh]; omega
  · rw [g1 j j0 j1, g2 j j0 j1, eg _ (by omega)]
    exact ht.2.1 j j0 (by omega)
  · rw [eg _ (by omega)]; omega
theorem TFE.grow {G G2 Gz : LG} {y m z x : Int} (hE : EX Gz) (h : TFE G Gz y m z) (hy : 0 < y) (hx : (gS G a_todo (y - 1).toNat) = x) (hp : (gS G a_phase (y - 1).toNat) = 0) (hk : 1 ≤ eMany Gz x) (g1 : ∀ j : Int, 0 ≤ j → j < y → (gS G2 a_todo (j).toNat) = (gS G a_todo (j).toNat)) (g2 : ∀ j : Int, 0 ≤ j → j < y - 1 → (gS G2 a_phase (j).toNat) = (gS G a_phase (j).toNat)) (g3 : (gS G2 a_phase (y - 1).toNat) = 1)
    (g4 : ∀ i : Int, 0 ≤ i → i < eMany Gz x → (gS G2 a_todo (y + i).toNat) = ePart Gz x (eMany Gz x - 1 - i) ∧ (gS G2 a_phase (y + i).toNat) = 0) : TFE G2 Gz (y + eMany Gz x) m (z - 1) := by
  subst hx
  obtain ⟨zz, hz, ht⟩ := h
  have h4 := ht.top hy
  have hat := ht.2.1 (y - 1) (by omega) (by omega)
  have hm := eMany_rng Gz ((gS G a_todo (y - 1).toNat))
  have hs := hE.sum hat.1.1 hat.1.2
  have h6 : tfg G Gz (y - 1).toNat = -1 := by unfold tfg; rw [if_pos hp]
  have h7 : tfh G Gz (y - 1).toNat = 5 * (gS Gz a_eWeight ((gS G a_todo (y - 1).toNat)).toNat) - 1 := by unfold tfh; rw [if_pos hp]
  have hkd : 2 ≤ (gS Gz a_eKind ((gS G a_todo (y - 1).toNat)).toNat) := by
    refine Classical.byContradiction fun q => ?_
    have : eMany Gz ((gS G a_todo (y - 1).toNat)) = 0 := if_pos (by omega)
    omega
  have hc : ∀ j : Nat, (j : Int) < y - 1 → tfg G2 Gz j = tfg G Gz j ∧ tfh G2 Gz j = tfh G Gz j := fun j hj => by
    have a1 := g1 (j : Int) (by omega) (by omega)
    have a2 := g2 (j : Int) (by omega) hj
    rw [Int.toNat_natCast] at a1 a2
    exact tf_cg a1 a2
  have eg : ∀ n : Nat, (n : Int) ≤ y - 1 → ssum (tfg G2 Gz) n = ssum (tfg G Gz) n := fun n hn => ssum_congr n (fun j hj => (hc j (by omega)).1)
  have eh : ssum (tfh G2 Gz) (y - 1).toNat = ssum (tfh G Gz) (y - 1).toNat := ssum_congr _ (fun j hj => (hc j (by omega)).2)
  -- the top and what is above it
  have t0 : tfg G2 Gz ((y - 1).toNat + 0) = eMany Gz ((gS G a_todo (y - 1).toNat)) - 1 ∧ tfh G2 Gz ((y - 1).toNat + 0) = 4 := by
    show tfg G2 Gz (y - 1).toNat = _ ∧ tfh G2 Gz (y - 1).toNat = 4
    unfold tfg tfh
    rw [g3, g1 (y - 1) (by omega) (by omega)]
    exact ⟨rfl, rfl⟩
  have ti : ∀ i : Nat, (i : Int) < eMany Gz ((gS G a_todo (y - 1).toNat)) → gS G2 a_todo ((y - 1).toNat + (i + 1)) = ePart Gz ((gS G a_todo (y - 1).toNat)) (eMany Gz ((gS G a_todo (y - 1).toNat)) - 1 - (i : Int)) ∧ gS G2 a_phase ((y - 1).toNat + (i + 1)) = 0 := fun i hi => by
    have := g4 (i : Int) (by omega) hi
    rw [show (y + (i : Int)).toNat = (y - 1).toNat + (i + 1) by omega] at this
    exact this
  have hgs : ∀ k : Nat, (k : Int) ≤ eMany Gz ((gS G a_todo (y - 1).toNat)) → ssum (fun j => tfg G2 Gz ((y - 1).toNat + j)) (k + 1) = eMany Gz ((gS G a_todo (y - 1).toNat)) - 1 - (k : Int) := by
    intro k
    induction k with
    | zero => intro _; show (0 : Int) + tfg G2 Gz ((y - 1).toNat + 0) = _; rw [t0.1]; omega
    | succ k ih =>
      intro hk2
      have h8 := ih (by omega)
      show ssum (fun j => tfg G2 Gz ((y - 1).toNat + j)) (k + 1) + tfg G2 Gz ((y - 1).toNat + (k + 1)) = _
      rw [h8]
      have : tfg G2 Gz ((y - 1).toNat + (k + 1)) = -1 := by unfold tfg; rw [if_pos (ti k (by omega)).2]
      omega
  have hh : ∀ i : Nat, (i : Int) < eMany Gz ((gS G a_todo (y - 1).toNat)) → tfh G2 Gz ((y - 1).toNat + (i + 1)) = 5 * (gS Gz a_eWeight (ePart Gz ((gS G a_todo (y - 1).toNat)) (eMany Gz ((gS G a_todo (y - 1).toNat)) - 1 - (i : Int))).toNat) - 1 := fun i hi => by
    unfold tfh
    rw [(ti i hi).1, (ti i hi).2]
    rfl
  have hN : (y + eMany Gz ((gS G a_todo (y - 1).toNat))).toNat = (y - 1).toNat + ((eMany Gz ((gS G a_todo (y - 1).toNat))).toNat + 1) := by omega
  refine ⟨_, ?_, by omega, fun j j0 j1 => ?_, rfl, ?_⟩
  · rw [hN, ssum_add, eh]
    have hq : eMany Gz ((gS G a_todo (y - 1).toNat)) = 1 ∨ eMany Gz ((gS G a_todo (y - 1).toNat)) = 2 ∨ eMany Gz ((gS G a_todo (y - 1).toNat)) = 3 := by omega
    rcases hq with hq | hq | hq
    · have a0 := hh 0 (by omega)
      rw [hq] at hs a0 ⊢
      have s1 : ssum (fun j => tfh G2 Gz ((y - 1).toNat + j)) ((1 : Int).toNat + 1) = 0 + tfh G2 Gz ((y - 1).toNat + 0) + tfh G2 Gz ((y - 1).toNat + (0 + 1)) := rfl
      have s2 : ssum (fun j => (gS Gz a_eWeight (ePart Gz ((gS G a_todo (y - 1).toNat)) (j : Int)).toNat)) (1 : Int).toNat = 0 + (gS Gz a_eWeight (ePart Gz ((gS G a_todo (y - 1).toNat)) ((0 : Nat) : Int)).toNat) := rfl
      rw [s1, t0.2, a0]
      rw [s2] at hs
      simp only [show ((1 : Int) - 1 - ((0 : Nat) : Int)) = ((0 : Nat) : Int) from rfl] at *
      omega
    · have a0 := hh 0 (by omega)
      have a1 := hh 1 (by omega)
      rw [hq] at hs a0 a1 ⊢
      have s1 : ssum (fun j => tfh G2 Gz ((y - 1).toNat + j)) ((2 : Int).toNat + 1) = 0 + tfh G2 Gz ((y - 1).toNat + 0) + tfh G2 Gz ((y - 1).toNat + (0 + 1)) + tfh G2 Gz ((y - 1).toNat + (1 + 1)) := rfl
      have s2 : ssum (fun j => (gS Gz a_eWeight (ePart Gz ((gS G a_todo (y - 1).toNat)) (j : Int)).toNat)) (2 : Int).toNat = 0 + (gS Gz a_eWeight (ePart Gz ((gS G a_todo (y - 1).toNat)) ((0 : Nat) : Int)).toNat) + (gS Gz a_eWeight (ePart Gz ((gS G a_todo (y - 1).toNat)) ((1 : Nat) : Int)).toNat) := rfl
      rw [s1, t0.2, a0, a1]
      rw [s2] at hs
      simp only [show ((2 : Int) - 1 - ((0 : Nat) : Int)) = ((1 : Nat) : Int) from rfl, show ((2 : Int) - 1 - ((1 : Nat) : Int)) = ((0 : Nat) : Int) from rfl] at *
      omega
    · have a0 := hh 0 (by omega)
      have a1 := hh 1 (by omega)
      have a2 := hh 2 (by omega)
      rw [hq] at hs a0 a1 a2 ⊢
      have s1 : ssum (fun j => tfh G2 Gz ((y - 1).toNat + j)) ((3 : Int).toNat + 1) = 0 + tfh G2 Gz ((y - 1).toNat + 0) + tfh G2 Gz ((y - 1).toNat + (0 + 1)) + tfh G2 Gz ((y - 1).toNat + (1 + 1)) + tfh G2 Gz ((y - 1).toNat + (2 + 1)) := rfl
      have s2 : ssum (fun j => (gS Gz a_eWeight (ePart Gz ((gS G a_todo (y - 1).toNat)) (j : Int)).toNat)) (3 : Int).toNat = 0 + (gS Gz a_eWeight (ePart Gz ((gS G a_todo (y - 1).toNat)) ((0 : Nat) : Int)).toNat) + (gS Gz a_eWeight (ePart Gz ((gS G a_todo (y - 1).toNat)) ((1 : Nat) : Int)).toNat) + (gS Gz a_eWeight (ePart Gz ((gS G a_todo (y - 1).toNat)) ((2 : Nat) : Int)).toNat) := rfl
      rw [s1, t0.2, a0, a1, a2]
      rw [s2] at hs
      simp only [show ((3 : Int) - 1 - ((0 : Nat) : Int)) = ((2 : Nat) : Int) from rfl, show ((3 : Int) - 1 - ((1 : Nat) : Int)) = ((1 : Nat) : Int) from rfl, show ((3 : Int) - 1 - ((2 : Nat) : Int)) = ((0 : Nat) : Int) from rfl] at *
      omega
  · by_cases hj : j < y - 1
    · rw [g1 j j0 (by omega), g2 j j0 hj, eg _ (by omega)]
      exact ht.2.1 j j0 (by omega)
    · by_cases hj2 : j = y - 1
      · subst hj2
        rw [g1 _ (by omega) (by omega), g3, eg _ (by omega)]
        exact ⟨hat.1, Or.inr ⟨rfl, hkd⟩, h4.2.2⟩
      · have q := g4 (j - y) (by omega) (by omega)
        rw [show y + (j - y) = j by omega] at q
        have hpt := hE.part (k := eMany Gz ((gS G a_todo (y - 1).toNat)) - 1 - (j - y)) hat.1.1 hat.1.2 (by omega) (by omega)
        refine ⟨by rw [q.1]; omega, Or.inl q.2, ?_⟩
        rw [show j.toNat = (y - 1).toNat + ((j - y).toNat + 1) by omega, ssum_add, hgs _ (by omega), eg _ (by omega)]
        omega
  · rw [hN, ssum_add, hgs _ (by omega), eg _ (by omega)]
    omega
theorem TFE.one {G Gz : LG} {e : Int} (hE : EX Gz) (he : 0 ≤ e ∧ e < (gS Gz 1000 6)) (h1 : (gS G a_todo ((0 : Int)).toNat) = e) (h2 : (gS G a_phase ((0 : Int)).toNat) = 0) : TFE G Gz 1 0 59 := by
  have hw := hE.w he.1 he.2
  have t1 : tfg G Gz 0 = -1 := by unfold tfg; rw [if_pos (show gS G a_phase 0 = 0 from h2)]
  have t2 : tfh G Gz 0 = 5 * (gS Gz a_eWeight (e).toNat) - 1 := by unfold tfh; rw [if_pos (show gS G a_phase 0 = 0 from h2)]; rw [show gS G a_todo 0 = e from h1]
  refine ⟨ssum (tfh G Gz) (1 : Int).toNat, ?_, by omega, fun j j0 j1 => ?_, rfl, ?_⟩
  · show 0 + tfh G Gz 0 ≤ 59
    omega
  · have e0 : j = 0 := by omega
    subst e0
    rw [h1]
    exact ⟨he, Or.inl h2, Int.le_refl _⟩
  · show (0 : Int) = 1 + (0 + tfg G Gz 0)
    omega
theorem EX.agr {G G' : LG} (h : EX G) (ha : Agr [a_eKind, a_eFirst, a_eSecond, a_eThird, a_eWeight] [6] G G') : EX G' := by
  unfold EX
  rw [ha.f (j := 6) (by decide)]
  simp only [ha.a (n := a_eKind) (by decide), ha.a (n := a_eFirst) (by decide), ha.a (n := a_eSecond) (by decide), ha.a (n := a_eThird) (by decide), ha.a (n := a_eWeight) (by decide)]
  exact h
theorem Occ.agr {G G' : LG} (ha : Agr [a_eKind, a_eFirst, a_eSecond, a_eThird] [] G G') {e i : Int} : Occ G' e i ↔ Occ G e i := by
  have key : ∀ (d : Nat) (e i : Int), occF G' d e i ↔ occF G d e i := by
    intro d
    induction d with
    | zero => intro e i; exact Iff.rfl
    | succ d ih =>
      intro e i
      have e1 : eMany G' e = eMany G e := by unfold eMany; rw [ha.a (n := a_eKind) (by decide)]
      have e2 : ∀ k : Int, ePart G' e k = ePart G e k := fun k => by unfold ePart; rw [ha.a (n := a_eFirst) (by decide), ha.a (n := a_eSecond) (by decide), ha.a (n := a_eThird) (by decide)]
      show (((gS G' a_eKind (e).toNat) = 1 ∧ (gS G' a_eFirst (e).toNat) = i) ∨ ∃ k : Int, (0 ≤ k ∧ k < eMany G' e) ∧ occF G' d (ePart G' e k) i) ↔ _
      rw [ha.a (n := a_eKind) (by decide), ha.a (n := a_eFirst) (by decide), e1]
      constructor
      · intro q
        rcases q with q | ⟨k, hk, q⟩
        · exact Or.inl q
        · exact Or.inr ⟨k, hk, by rw [← e2]; exact (ih _ _).mp q⟩
      · intro q
        rcases q with q | ⟨k, hk, q⟩
        · exact Or.inl q
        · exact Or.inr ⟨k, hk, by rw [e2]; exact (ih _ _).mpr q⟩
  exact ⟨fun ⟨d, q⟩ => ⟨d, (key d e i).mp q⟩, fun ⟨d, q⟩ => ⟨d, (key d e i).mpr q⟩⟩
