/-! A RUN, AND WHAT IS KEPT OF IT -/
theorem RU0.self {G Gz : LG} (h : RU0 G Gz) (e : (gS Gz 1000 67) = (gS G 1000 67)) : RU0 G G := by unfold RU0 at h ⊢; rw [e] at h; exact h
theorem RU0.agr {G G' : LG} (h : RU0 G G) (ha : Agr [a_state, a_cellValue, a_left, a_right] [67, 79, 90] G G') : RU0 G' G' := by
  obtain ⟨a1, a2, a3, a4, a5⟩ := h
  have es : s0 G' ((gS G 1000 67)) = s0 G ((gS G 1000 67)) := s0.cg (fun j => ha.a (by decide) j)
  unfold RU0 VA
  rw [ha.f (j := 67) (by decide), ha.f (j := 79) (by decide), ha.f (j := 90) (by decide), es]
  simp only [ha.a (n := a_state) (by decide), ha.a (n := a_cellValue) (by decide), ha.a (n := a_left) (by decide), ha.a (n := a_right) (by decide)]
  exact ⟨a1, a2, a3, a4, a5⟩
/-- a node has been run: its instances, its table, its values -/
def RDN (G : LG) (N : Int) : Prop := ∃ I : Int, IN G I (10 * I) ∧ TGd G 0 N (10 * I) ∧ RU0 G G
abbrev rdA : List Nat := [a_state, a_cellValue, a_left, a_right, a_versionAt, a_above, a_cellAt, a_cellOf, a_valueType, a_valueBy, a_table, a_sValue]
theorem RDN.agr {G G' : LG} {N : Int} (h : RDN G N) (ha : Agr rdA [67, 79, 90] G G') : RDN G' N := by
  obtain ⟨I, h1, h2, h3⟩ := h
  exact ⟨I, h1.agr (ha.sub (by decide) (by decide)), h2.cg (Int.le_refl _) (fun k _ _ => ha.a (by decide) _) (fun j => ha.a (by decide) j), h3.agr (ha.sub (by decide) (by decide))⟩
theorem RU0.rng {G : LG} (h : RU0 G G) : (0 ≤ (gS G 1000 79) ∧ (gS G 1000 79) ≤ 3120) ∧ (0 ≤ (gS G 1000 90) ∧ (gS G 1000 90) ≤ 240) := by
  obtain ⟨a1, a2, a3, a4, a5⟩ := h
  have := s0.nn (G := G) (n := (gS G 1000 67))
  have := a1.1
  omega
theorem RG.agr {G G' : LG} {S : Int → Prop} (h : RG G S) (ha : Agr [a_sValue, a_nKind, a_nFirst, a_nSecond, a_nThird, a_valueType, a_versions] [18] G G') : RG G' S := fun m hm => by
  obtain ⟨h1, h2, h3⟩ := h m hm
  have e1 : nMany G' m = nMany G m := by unfold nMany; rw [ha.a (n := a_nKind) (by decide)]
  have e2 : ∀ k, nPart G' m k = nPart G m k := fun k => by unfold nPart; rw [ha.a (n := a_nFirst) (by decide), ha.a (n := a_nSecond) (by decide), ha.a (n := a_nThird) (by decide)]
  refine ⟨by rw [ha.f (j := 18) (by decide)]; exact h1, h2.agr (ha.sub (by decide) (by decide)), fun k k0 k1 => ?_⟩
  rw [e1] at k1
  rw [e2]
  exact h3 k k0 k1
/-- the choices are made for the CHOOSEs below n -/
def CHD (G : LG) (S : Int → Prop) (n : Int) : Prop := ∀ m : Int, S m → m < n → (gS G a_nKind (m).toNat) = 4 → (gS G a_choiceCode (m).toNat) = 0 → (gS G a_taken (m).toNat) = (gS G a_nFirst (m).toNat) ∨ (gS G a_taken (m).toNat) = (gS G a_nSecond (m).toNat)
theorem CHD.agr {G G' : LG} {S : Int → Prop} {n : Int} (h : CHD G S n) (ha : Agr [a_nKind, a_nFirst, a_nSecond, a_choiceCode, a_taken] [] G G') : CHD G' S n := by
  unfold CHD
  simp only [ha.a (n := a_nKind) (by decide), ha.a (n := a_nFirst) (by decide), ha.a (n := a_nSecond) (by decide), ha.a (n := a_choiceCode) (by decide), ha.a (n := a_taken) (by decide)]
  exact h
/-- what is known of the latest run that ran -/
def LR (G : LG) : Prop := (0 ≤ (gS G 1000 98) ∧ (gS G 1000 98) ≤ 240) ∧ (¬ (gS G 1000 92) = 0 → ∃ V : Int, (0 ≤ V ∧ V ≤ 4000) ∧ (∀ k : Int, 0 ≤ k → k < 10 → -1 ≤ (gS G a_lastOf (k).toNat) ∧ (gS G a_lastOf (k).toNat) < V) ∧ ∀ v : Int, 0 ≤ v → v < V → (gS G a_lastLeft (v).toNat) = -1 ∨ ((0 ≤ (gS G a_lastLeft (v).toNat) ∧ (gS G a_lastLeft (v).toNat) < v) ∧ 0 ≤ (gS G a_lastRight (v).toNat) ∧ (gS G a_lastRight (v).toNat) < v))
abbrev lrA : List Nat := [a_lastOf, a_lastLeft, a_lastRight]
abbrev lrJ : List Nat := [92, 98]
theorem LR.agr {G G' : LG} (h : LR G) (ha : Agr lrA lrJ G G') : LR G' := by
  unfold LR
  rw [ha.f (j := 92) (by decide), ha.f (j := 98) (by decide)]
  simp only [ha.a (n := a_lastOf) (by decide), ha.a (n := a_lastLeft) (by decide), ha.a (n := a_lastRight) (by decide)]
  exact h
/-- the right ones of the nodes that were found -/
def RS0 (G : LG) (a : Int) : Int → Prop := fun m => (0 ≤ m ∧ m < (gS G 1000 18)) ∧ bitL a m ∧ (gS G a_error (m).toNat) = 0
theorem FP.rg {G G' : LG} {Hs : List (Int → Int)} {vv : Int → Int} {u : Int} (h : FP G G' Hs vv u) (hN : ND G) : ∃ a : Int, RCH G u a ∧ RG G' (RS0 G' a) := by
  obtain ⟨h1, h2, h3, h4, a, ha, hd⟩ := h
  refine ⟨a, ha, fun m hm => ?_⟩
  obtain ⟨⟨m0, m1⟩, hb, he⟩ := hm
  have en : (gS G' 1000 18) = (gS G 1000 18) := h3.2.1
  have hf := hd m m0 (by omega) hb
  have e1 : nMany G' m = nMany G m := by unfold nMany; rw [h3.nd (n := a_nKind) (by decide)]
  have e2 : ∀ k, nPart G' m k = nPart G m k := fun k => by unfold nPart; rw [h3.nd (n := a_nFirst) (by decide), h3.nd (n := a_nSecond) (by decide), h3.nd (n := a_nThird) (by decide)]
  refine ⟨⟨m0, m1⟩, (hf.2 he).1, fun k k0 k1 => ?_⟩
  have hp := hN.part (n := m) (k := k) m0 (by omega) k0 (by rw [← e1]; exact k1)
  refine ⟨by rw [e2]; omega, ?_, (hf.2 he).2 k k0 k1⟩
  rw [e2]
  exact ha.2.1 m m0 (by omega) hb k k0 (by rw [← e1]; exact k1)
theorem RU0.frz {G G' Gz : LG} (h : RU0 G Gz) (ha : Agr [a_state, a_cellValue, a_left, a_right] [79, 90] G G') : RU0 G' Gz := by
  obtain ⟨a1, a2, a3, a4, a5⟩ := h
  have es : s0 G' ((gS Gz 1000 67)) = s0 G ((gS Gz 1000 67)) := s0.cg (fun j => ha.a (by decide) j)
  unfold RU0 VA
  rw [ha.f (j := 79) (by decide), ha.f (j := 90) (by decide), es]
  simp only [ha.a (n := a_state) (by decide), ha.a (n := a_cellValue) (by decide), ha.a (n := a_left) (by decide), ha.a (n := a_right) (by decide)]
  exact ⟨a1, a2, a3, a4, a5⟩
