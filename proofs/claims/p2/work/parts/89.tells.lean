/-! the rows of a face that is there, as its telling needs them -/
def RS1 (G : LG) (m : Int) : Prop := (gS G a_error (m).toNat) = 0 → (∀ j : Int, 0 ≤ j → j < 6 → (-2 ≤ (gS G a_sType (6 * m + j).toNat) ∧ (gS G a_sType (6 * m + j).toNat) < (gS G 1000 26)) ∧ (0 ≤ (gS G a_sType (6 * m + j).toNat) → (gS G a_fSize ((gS G a_sType (6 * m + j).toNat)).toNat) ≤ 200)) ∧ ∀ j : Int, 0 ≤ j → j < 10 → (-1 ≤ (gS G a_sValue (10 * m + j).toNat) ∧ (gS G a_sValue (10 * m + j).toNat) < (gS G 1000 26)) ∧ (0 ≤ (gS G a_sValue (10 * m + j).toNat) → (gS G a_fSize ((gS G a_sValue (10 * m + j).toNat)).toNat) ≤ 200)
theorem RS1.agr {G G' : LG} {m : Int} (h : RS1 G m) (ha : Agr [a_error, a_sType, a_sValue, a_fSize] [26] G G') : RS1 G' m := by
  unfold RS1
  rw [ha.f (j := 26) (by decide)]
  simp only [ha.a (n := a_error) (by decide), ha.a (n := a_sType) (by decide), ha.a (n := a_sValue) (by decide), ha.a (n := a_fSize) (by decide)]
  exact h
theorem FD.rs1 {G : LG} {v : Int → Int} {m : Int} (h : FD G v m) : RS1 G m := fun he => ⟨fun j j0 j1 => ⟨((h.1.2 he).1 j j0 j1).1, fun q => (((h.1.2 he).1 j j0 j1).2 q).1⟩, fun j j0 j1 => ⟨((h.1.2 he).2 j j0 j1).1, fun q => (((h.1.2 he).2 j j0 j1).2 q).1⟩⟩
