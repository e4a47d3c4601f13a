theorem RCH.fr {ns js : List Nat} {G G' : LG} {u a : Int} (h : RCH G' u a) (f : Fr ns js G G') (h0 : a_nKind ∉ ns) (h1 : a_nFirst ∉ ns) (h2 : a_nSecond ∉ ns) (h3 : a_nThird ∉ ns) (h4 : 1000 ∉ ns) (h5 : 18 ∉ js) : RCH G u a := by
  have e1 := fun n => nMany.fr f h0 n
  have e2 := fun n k => nPart.fr f h1 h2 h3 n k
  have e3 : (gS G' 1000 18) = (gS G 1000 18) := f.atF h4 h5
  unfold RCH at h ⊢
  simp only [e1, e2, e3] at h
  exact h
theorem DN.agr {G G' : LG} {n : Int} (h : DN G n) (ha : Agr [a_sValue, a_nKind, a_nFirst, a_nSecond, a_nThird, a_valueType, a_versions] [] G G') : DN G' n := by
  have ev : verC G' n = verC G n := by unfold verC; rw [ha.a (n := a_nFirst) (by decide), ha.a (n := a_nSecond) (by decide), ha.a (n := a_versions) (by decide)]
  unfold DN
  rw [ev]
  simp only [ha.a (n := a_sValue) (by decide), ha.a (n := a_nKind) (by decide), ha.a (n := a_nFirst) (by decide), ha.a (n := a_nSecond) (by decide), ha.a (n := a_nThird) (by decide), ha.a (n := a_valueType) (by decide)]
  exact h
theorem ncost.fr {ns js : List Nat} {G G' : LG} (h : Fr ns js G G') (h1 : a_nKind ∉ ns) (n : Int) : ncost G' n = ncost G n := by unfold ncost; rw [h.atA h1 (by decide)]
/-- what faces does: the faces of a set of nodes and of all of which they are made are found -/
def FP (G G' : LG) (Hs : List (Int → Int)) (vv : Int → Int) (u : Int) : Prop := FU G' ∧ TH G' Hs ∧ TX G G' ∧ ((gS G 1000 35) ≤ (gS G' 1000 35) ∧ (gS G' 1000 35) ≤ (gS G 1000 35) + 4000) ∧ ∃ a : Int, RCH G u a ∧ ∀ m : Int, 0 ≤ m → m < (gS G 1000 18) → bitL a m → FD G' vv m
theorem FP.at {G G' : LG} {Hs : List (Int → Int)} {vv : Int → Int} {u m : Int} (h : FP G G' Hs vv u) (hN : ND G) (m0 : 0 ≤ m) (m1 : m < (gS G 1000 18)) (hb : bitL u m) : FD G' vv m := by
  obtain ⟨-, -, -, -, a, ha, hd⟩ := h
  have := hN.1
  exact hd m m0 m1 (ha.1 m m0 (by omega) hb)
theorem bitL_self {n : Int} (h0 : 0 ≤ n) (h1 : n < 64) : bitL (l_shl 1 n) n := (bitL_shl h0 h1 h0 h1).mpr rfl
/-- what a public call that looks at faces leaves: the things, more of them, and marks -/
def QP (G G' : LG) (Hs : List (Int → Int)) : Prop := TH G' Hs ∧ TX G G' ∧ ((gS G 1000 35) ≤ (gS G' 1000 35) ∧ (gS G' 1000 35) ≤ (gS G 1000 35) + 4000)
theorem QP.rf {G : LG} {Hs : List (Int → Int)} (h : TH G Hs) : QP G G Hs := ⟨h, TX.rf, by omega⟩
theorem QP.fr {ns js : List Nat} {G G1 G2 : LG} {Hs : List (Int → Int)} (h : QP G G1 Hs) (f : Fr ns js G1 G2) (h1 : ∀ n ∈ thA, n ∉ ns ∧ n ≠ 1000) (h2 : 1000 ∉ ns) (h3 : ∀ j ∈ thJ, j ∉ js) (h4 : 35 ∉ js) : QP G G2 Hs := by
  have a : Agr thA thJ G1 G2 := f.agr h1 h2 h3
  have e : (gS G2 1000 35) = (gS G1 1000 35) := f.atF h2 h4
  exact ⟨h.1.agr a, h.2.1.trans (TX.agr a), by rw [e]; exact h.2.2⟩
theorem FP.qp {G G' : LG} {Hs : List (Int → Int)} {vv : Int → Int} {u : Int} (h : FP G G' Hs vv u) : QP G G' Hs := ⟨h.2.1, h.2.2.1, h.2.2.2.1⟩
theorem goes_r {a b c r : Int} (h : r = b2i (¬ a = 0 ∧ ¬ b = 0 ∧ ¬ c = 0)) (q : ¬ r = 0) : ¬ a = 0 ∧ ¬ b = 0 ∧ ¬ c = 0 := Classical.byContradiction fun z => q (h.trans (b2i_f z))
theorem b2i_n {p : Prop} (h : ¬ b2i p = 0) : p := Classical.byContradiction fun z => h (b2i_f z)
theorem QP.trans0 {G G1 G2 : LG} {Hs : List (Int → Int)} (h : QP G G1 Hs) (e : (gS G1 1000 35) = (gS G 1000 35)) (k : QP G1 G2 Hs) : QP G G2 Hs := ⟨k.1, h.2.1.trans k.2.1, by have := k.2.2; omega⟩
