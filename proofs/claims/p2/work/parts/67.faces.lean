theorem RCH.fr {ns js : List Nat} {G G' : LG} {u a : Int} (h : RCH G' u a) (f : Fr ns js G G') (h0 : a_nKind ∉ ns) (h1 : a_nFirst ∉ ns) (h2 : a_nSecond ∉ ns) (h3 : a_nThird ∉ ns) (h4 : 1000 ∉ ns) (h5 : 18 ∉ js) : RCH G u a := by
  have e1 := fun n => nMany.fr f h0 n
  have e2 := fun n k => nPart.fr f h1 h2 h3 n k
  have e3 : (gS G' 1000 18) = (gS G 1000 18) := f.atF h4 h5
  unfold RCH at h ⊢
  simp only [e1, e2, e3] at h
  exact h
theorem DN.agr {G G' : LG} {n : Int} (h : DN G n) (ha : Agr [a_sValue, a_nKind, a_nFirst, a_nSecond, a_nThird, a_valueType, a_versions] [] G G') : DN G' n := by
  have ev : verC G' n = verC G n := by unfold verC; rw [ha.a (n := a_nFirst) (by decide), ha.a (n := a_nSecond) (by decide), ha.a (n := a_versions) (by decide)]
  unfold DN
  rw [ev]
  simp only [ha.a (n := a_sValue) (by decide), ha.a (n := a_nKind) (by decide), ha.a (n := a_nFirst) (by decide), ha.a (n := a_nSecond) (by decide), ha.a (n := a_nThird) (by decide), ha.a (n := a_valueType) (by decide)]
  exact h
theorem ncost.fr {ns js : List Nat} {G G' : LG} (h : Fr ns js G G') (h1 : a_nKind ∉ ns) (n : Int) : ncost G' n = ncost G n := by unfold ncost; rw [h.atA h1 (by decide)]
/-- what faces does: the faces of a set of nodes and of all of which they are made are found -/
def FP (G G' : LG) (Hs : List (Int → Int)) (vv : Int → Int) (u : Int) : Prop := FU G' ∧ TH G' Hs ∧ TX G G' ∧ ((gS G 1000 35) ≤ (gS G' 1000 35) ∧ (gS G' 1000 35) ≤ (gS G 1000 35) + 4000) ∧ ∃ a : Int, RCH G u a ∧ ∀ m : Int, 0 ≤ m → m < (gS G 1000 18) → bitL a m → FD G' vv m
theorem FP.at {G G' : LG} {Hs : List (Int → Int)} {vv : Int → Int} {u m : Int} (h : FP G G' Hs vv u) (hN : ND G) (m0 : 0 ≤ m) (m1 : m < (gS G 1000 18)) (hb : bitL u m) : FD G' vv m := by
  obtain ⟨-, -, -, -, a, ha, hd⟩ := h
  have := hN.1
  exact hd m m0 m1 (ha.1 m m0 (by omega) hb)
theorem bitL_self {n : Int} (h0 : 0 ≤ n) (h1 : n < 64) : bitL (l_shl 1 n) n := (bitL_shl h0 h1 h0 h1).mpr rfl
