/-! THE CLASS: what expressions come to -/
theorem lenV.nn {G : LG} {o : Nat} : 0 ≤ lenV G o := Int.natCast_nonneg _
theorem lenV.cg {G G' : LG} {o : Nat} (h : gS G' o 0 = gS G o 0) (hk : gK G' = gK G) : lenV G' o = lenV G o := by unfold lenV; rw [h, hk]
theorem CI.states {a b : Nat} {G : LG} {o : Nat} (h : CI a b G) (ho : isMc o) (al : (gK G (o + 20)).1 ≠ 0) (s : Int) (hs : 0 ≤ s ∧ s < 240) : gS G (o + 7) s.toNat < lenV G (o + 20) := by
  obtain ⟨q0, q1, q2, q3, L, -, -, -, -, -, -, h7, -, h9⟩ := h.vals (o := o + 20) (by omega) al
  rw [h9]
  exact h7 s.toNat (by omega)
theorem CI.cntV {a b : Nat} {G : LG} {o : Nat} (h : CI a b G) (ho : isVl o) (al : (gK G o).1 ≠ 0) : 0 ≤ gS G o 4 ∧ gS G o 4 ≤ lenV G o := by
  obtain ⟨q0, q1, q2, q3, L, -, -, -, -, h5, -, -, -, h9⟩ := h.vals ho al
  rw [h9]; exact h5
theorem CI.cutV {a b : Nat} {G G' : LG} {o : Nat} {v : Int} (h : CI a b G) (ho : isVl o) (al : (gK G o).1 ≠ 0) (hv : 0 ≤ v ∧ v ≤ lenV G o) (e : G' = gset G o 4 v) : CI a b G' := by
  obtain ⟨q0, q1, q2, q3, L, ⟨h1, -⟩, -, ⟨h3, -⟩, ⟨-, h4⟩, -, -, -, -, h9⟩ := h.vals ho al
  rw [h9] at hv
  rw [e]; exact h.valCount ho h1 h3 hv h4
/-- the weight of an expression; there may be none -/
def wE (G : LG) (e : Int) : Int := if e < 0 then 0 else gS G 327705 e.toNat
theorem wE.cg {G G' : LG} (h : gS G' 327705 = gS G 327705) (e : Int) : wE G' e = wE G e := by unfold wE; rw [h]
theorem wE.ng {G : LG} {e : Int} (h : e < 0) : wE G e = 0 := by unfold wE; rw [if_pos h]
theorem E6.wn {G : LG} (h : E6 G) {e : Int} (h1 : e < gS G 327681 12) : 0 ≤ wE G e ∧ wE G e ≤ 12 ∧ (0 ≤ e → 1 ≤ wE G e) := by
  unfold wE
  by_cases w : e < 0
  · rw [if_pos w]; omega
  · rw [if_neg w]
    have h9 := h e (by omega) h1
    omega
theorem E6.wt {G : LG} (h : E6 G) {e : Int} (h0 : 0 ≤ e) (h1 : e < gS G 327681 12) (hk : gS G 327701 e.toNat ≤ 4) : wE G e = 1 + wE G (gS G 327702 e.toNat) + wE G (gS G 327703 e.toNat) + wE G (gS G 327704 e.toNat) ∧ (0 ≤ wE G (gS G 327702 e.toNat) ∧ 0 ≤ wE G (gS G 327703 e.toNat) ∧ 0 ≤ wE G (gS G 327704 e.toNat)) ∧ gS G 327702 e.toNat < gS G 327681 12 ∧ gS G 327703 e.toNat < gS G 327681 12 ∧ gS G 327704 e.toNat < gS G 327681 12 := by
  obtain ⟨b1, b2, b3, b4, b5, b6, b7, b8⟩ := h e h0 h1
  have c := b2 hk
  have d := b6 hk
  have n1 := (h.wn (e := gS G 327702 e.toNat) (by omega)).1
  have n2 := (h.wn (e := gS G 327703 e.toNat) (by omega)).1
  have n3 := (h.wn (e := gS G 327704 e.toNat) (by omega)).1
  have f1 : wE G (gS G 327702 e.toNat) = gS G 327705 (gS G 327702 e.toNat).toNat := by unfold wE; rw [if_neg (by omega)]
  refine ⟨?_, ⟨n1, n2, n3⟩, by omega, by omega, by omega⟩
  rw [f1]
  unfold wE
  rw [if_neg (by omega)]
  exact d
/-- the cell that was asked for, if any, is one -/
def AQC (G : LG) (o : Nat) (f : Int) : Prop := gS G o 10 < 0 ∨ ((10 * f ≤ gS G o 10 ∧ gS G o 10 < 10 * gS G o 9) ∧ 0 ≤ gS G (o + 1) (gS G o 10).toNat)
theorem AQC.cg {G G' : LG} {o : Nat} {f : Int} (h : AQC G o f) (h9 : gS G' o 9 = gS G o 9) (h10 : gS G' o 10 = gS G o 10) (h1 : gS G' (o + 1) = gS G (o + 1)) : AQC G' o f := by
  unfold AQC; rw [h9, h10, h1]; exact h
