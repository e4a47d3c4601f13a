/-! WHAT IS TOLD OF FACES AND VERSIONS: how much it is -/
theorem TB.w {G : LG} (h : TB G) {x : Int} (x0 : 0 ≤ x) (x1 : x < (gS G 1000 0)) : 1 ≤ (gS G a_tWeight (x).toNat) ∧ (gS G a_tWeight (x).toNat) ≤ 12 := (h.2 x x0 x1).2.2.2
/-- the parts of an expression come in the other order -/
theorem StkE.prev {G G2 Gz : LG} {n z x : Int} (hE : EX Gz) (h : StkE G Gz ((gS Gz 1000 6)) n z) (hn : 0 < n) (hx : (gS G a_todo (n - 1).toNat) = x) (h1 : ∀ j : Int, 0 ≤ j → j < n - 1 → (gS G2 a_todo (j).toNat) = (gS G a_todo (j).toNat)) (h2 : ∀ k : Int, 0 ≤ k → k < eMany Gz x → (gS G2 a_todo (n - 1 + k).toNat) = ePart Gz x (eMany Gz x - 1 - k)) : StkE G2 Gz ((gS Gz 1000 6)) (n - 1 + eMany Gz x) (z - 1) := by
  obtain ⟨zz, hz, s0, s1, s2⟩ := h
  have hr := s1 (n - 1) (by omega) (by omega)
  rw [hx] at hr
  have hm := eMany_rng Gz x
  have hs := hE.sum hr.1 hr.2
  have e1 : n.toNat = (n - 1).toNat + 1 := by omega
  have e2 : (n - 1 + eMany Gz x).toNat = (n - 1).toNat + (eMany Gz x).toNat := by omega
  have hf : ∀ k : Nat, k < (eMany Gz x).toNat → gS G2 a_todo ((n - 1).toNat + k) = ePart Gz x (eMany Gz x - 1 - (k : Int)) := fun k hk => by
    have := h2 (k : Int) (by omega) (by omega)
    rw [show (n - 1 + (k : Int)).toNat = (n - 1).toNat + k by omega] at this
    exact this
  have hrev : ssum (fun j => gS Gz a_eWeight (ePart Gz x (eMany Gz x - 1 - (j : Int))).toNat) (eMany Gz x).toNat = ssum (fun j => gS Gz a_eWeight (ePart Gz x (j : Int)).toNat) (eMany Gz x).toNat := by
    have hc : eMany Gz x = 0 ∨ eMany Gz x = 1 ∨ eMany Gz x = 2 ∨ eMany Gz x = 3 := by omega
    rcases hc with hc | hc | hc | hc <;> rw [hc]
    · rfl
    · rfl
    · show (0 : Int) + gS Gz a_eWeight (ePart Gz x 1).toNat + gS Gz a_eWeight (ePart Gz x 0).toNat = 0 + gS Gz a_eWeight (ePart Gz x 0).toNat + gS Gz a_eWeight (ePart Gz x 1).toNat
      omega
    · show (0 : Int) + gS Gz a_eWeight (ePart Gz x 2).toNat + gS Gz a_eWeight (ePart Gz x 1).toNat + gS Gz a_eWeight (ePart Gz x 0).toNat = 0 + gS Gz a_eWeight (ePart Gz x 0).toNat + gS Gz a_eWeight (ePart Gz x 1).toNat + gS Gz a_eWeight (ePart Gz x 2).toNat
      omega
  refine ⟨ssum (fun j => gS Gz a_eWeight (gS G2 a_todo j).toNat) (n - 1 + eMany Gz x).toNat, ?_, by omega, fun j j0 j1 => ?_, rfl⟩
  · rw [e2, ssum_add, ssum_congr (f := fun j => gS Gz a_eWeight (gS G2 a_todo ((n - 1).toNat + j)).toNat) (g := fun j => gS Gz a_eWeight (ePart Gz x (eMany Gz x - 1 - (j : Int))).toNat) _ (fun k hk => by rw [hf k hk]), hrev]
    rw [e1] at s2
    have h3 : ssum (fun j => gS Gz a_eWeight (gS G2 a_todo j).toNat) (n - 1).toNat = ssum (fun j => gS Gz a_eWeight (gS G a_todo j).toNat) (n - 1).toNat := ssum_congr _ (fun j hj => by
      have := h1 (j : Int) (by omega) (by omega)
      rw [Int.toNat_natCast] at this
      rw [this])
    have h4 : ssum (fun j => gS Gz a_eWeight (gS G a_todo j).toNat) ((n - 1).toNat + 1) = ssum (fun j => gS Gz a_eWeight (gS G a_todo j).toNat) (n - 1).toNat + gS Gz a_eWeight (gS G a_todo (n - 1).toNat).toNat := rfl
    rw [h4, hx] at s2
    rw [h3]
    omega
  · by_cases hj : j < n - 1
    · rw [h1 j j0 hj]; exact s1 j j0 (by omega)
    · have := h2 (j - (n - 1)) (by omega) (by omega)
      rw [show n - 1 + (j - (n - 1)) = j by omega] at this
      rw [this]
      have := hE.part (k := eMany Gz x - 1 - (j - (n - 1))) hr.1 hr.2 (by omega) (by omega)
      omega
/-- the rows of what was seen and shown are as long as they can be -/
def BI (G : LG) : Prop := ∀ n : Int, 0 ≤ n → n < 40 → (0 ≤ (gS G a_seenMany (n).toNat) ∧ (gS G a_seenMany (n).toNat) ≤ 9900) ∧ 0 ≤ (gS G a_faceMany (n).toNat) ∧ (gS G a_faceMany (n).toNat) ≤ 3400
theorem BI.agr {G G' : LG} (h : BI G) (ha : Agr [a_seenMany, a_faceMany] [] G G') : BI G' := by
  unfold BI
  simp only [ha.a (n := a_seenMany) (by decide), ha.a (n := a_faceMany) (by decide)]
  exact h
