/-! THE CLASS: instances -/
theorem MI.app {G1 G2 : LG} {o : Nat} {a : Int} (h : MI G1 o a) (hl : LO G1 G2 o (10 * gS G1 o 9)) (k : MI G2 o (gS G1 o 9)) (ha : 0 ≤ a ∧ a ≤ gS G1 o 9) (hle : gS G1 o 9 ≤ gS G2 o 9) (hp : gS G2 327681 12 = gS G1 327681 12) : MI G2 o a := fun s s0 s1 => by
  by_cases w : s < 10 * gS G1 o 9
  · obtain ⟨e1, e3, e4⟩ := hl s (by omega) w
    obtain ⟨m1, m3, m4⟩ := h s s0 w
    rw [e1, e3, e4, hp]; exact ⟨m1, by omega, by omega⟩
  · obtain ⟨m1, m3, m4⟩ := k s (by omega) s1
    exact ⟨m1, by omega, by omega⟩
theorem LO.cg {G G1 G2 : LG} {o : Nat} {b : Int} (h : LO G G1 o b) (h1 : gS G2 (o + 1) = gS G1 (o + 1)) (h3 : gS G2 (o + 3) = gS G1 (o + 3)) (h4 : gS G2 (o + 4) = gS G1 (o + 4)) : LO G G2 o b := by
  unfold LO; rw [h1, h3, h4]; exact h
/-- what is shown by a slot is set -/
theorem MI.sh {G G' : LG} {o j : Nat} {f v : Int} (h : MI G o f) (ho : isMc o) (e : G' = gset G (o + 4) j v) (hv : v = -1 ∨ (10 * f ≤ v ∧ v < 10 * gS G o 9)) : MI G' o f := fun s s0 s1 => by
  have e9 : gS G' o = gS G o := gset_o e (by omega)
  have ep : gS G' 327681 = gS G 327681 := gset_o e (by omega)
  rw [e9] at s1 ⊢
  obtain ⟨m1, m3, m4⟩ := h s s0 s1
  rw [gset_o e (x := o + 1) (by omega), gset_o e (x := o + 3) (by omega), ep]
  refine ⟨m1, m3, ?_⟩
  by_cases w : j = s.toNat
  · rw [← w, gsaE e]; exact hv
  · rw [e, gset_ne _ _ (fun q => w q.2.symm)]; exact m4
theorem LO.sh {G G1 G' : LG} {o j : Nat} {b v : Int} (h : LO G G1 o b) (ho : isMc o) (e : G' = gset G1 (o + 4) j v) (hj : b ≤ (j : Int)) : LO G G' o b := fun s s0 s1 => by
  obtain ⟨l1, l3, l4⟩ := h s s0 s1
  rw [gset_o e (x := o + 1) (by omega), gset_o e (x := o + 3) (by omega)]
  refine ⟨l1, l3, ?_⟩
  rw [e, gset_ne _ _ (fun q => by have := q.2; omega)]; exact l4
