/-! LINK: which type stands for a name -/
def eqOf (G : LG) (a b j : Int) : Int := if 0 ≤ (gS G a_sType (6 * a + j).toNat) then (gS G a_sType (6 * a + j).toNat) else (gS G a_sType (6 * b + j).toNat)
theorem eqOf.ok {G : LG} {P : Int → Prop} {a b j : Int} (ha : RT G P a) (hb : RT G P b) (j0 : 0 ≤ j) (j1 : j < 6) (h : 0 ≤ eqOf G a b j) : (0 ≤ eqOf G a b j ∧ eqOf G a b j < (gS G 1000 26)) ∧ (gS G a_fSize (eqOf G a b j).toNat) ≤ 200 ∧ okS G P (eqOf G a b j) := by
  have x := ha j j0 j1
  have y := hb j j0 j1
  unfold eqOf at h ⊢
  split
  · rename_i q; rw [if_pos q] at h; exact ⟨⟨h, x.1.2⟩, x.2 h⟩
  · rename_i q; rw [if_neg q] at h; exact ⟨⟨h, y.1.2⟩, y.2 h⟩
theorem SlotFr.rt {G G' : LG} {s b : Int} (h : SlotFr s G G') (hb : 0 ≤ b) (hne : ¬ b = s) (j : Int) (j0 : 0 ≤ j) (j1 : j < 6) : (gS G' a_sType (6 * b + j).toNat) = (gS G a_sType (6 * b + j).toNat) := h.1 _ (by omega)
theorem SlotFr.rv {G G' : LG} {s b : Int} (h : SlotFr s G G') (hb : 0 ≤ b) (hne : ¬ b = s) (j : Int) (j0 : 0 ≤ j) (j1 : j < 10) : (gS G' a_sValue (10 * b + j).toNat) = (gS G a_sValue (10 * b + j).toNat) ∧ (gS G' a_sFlags (10 * b + j).toNat) = (gS G a_sFlags (10 * b + j).toNat) ∧ (gS G' a_sNumber (10 * b + j).toNat) = (gS G a_sNumber (10 * b + j).toNat) := h.2 _ (by omega)
