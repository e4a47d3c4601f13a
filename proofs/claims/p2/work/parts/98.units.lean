/-! WHAT THE MAKING CALLS DO: units and what their versions have -/
def UZ (G : LG) : Prop := ∀ j : Nat, (gS G 1000 12) ≤ (j : Int) → gS G a_versions j = 0
def UNT (G : LG) (r : Int) (G' : LG) : Prop := (gS G' 1000 25) = (if (gS G 1000 12) < 8 then 0 else 1) ∧ (¬ (gS G 1000 12) < 8 → r = 0 ∧ Fr [] [25] G G') ∧ ((gS G 1000 12) < 8 → r = (gS G 1000 12) ∧ (gS G' 1000 12) = (gS G 1000 12) + 1 ∧ ∀ j : Nat, gS G' a_versions j = if j = ((gS G 1000 12)).toNat then 1 else gS G a_versions j)
theorem UV.un {G G' : LG} (h : UV G) (hc : (gS G 1000 12) < 8) (u0 : (gS G' 1000 12) = (gS G 1000 12) + 1) (u1 : ∀ j : Nat, gS G' a_versions j = if j = ((gS G 1000 12)).toNat then 1 else gS G a_versions j) (ha : Agr [a_typeOf, a_valueType, a_valueBy, a_valueFlags] [0, 6] G G') : UV G' := by
  obtain ⟨h1, h2, h3, h4, h5⟩ := h
  refine ⟨by omega, fun u x0 x1 => ?_, fun u x0 x1 => ?_, ?_, ?_⟩
  · by_cases hu : u = (gS G 1000 12)
    · subst hu; rw [g_at u1]; omega
    · rw [g_ne u1 (by omega)]; exact h2 u x0 x1
  · by_cases hu : u = (gS G 1000 12)
    · subst hu; rw [g_at u1]; omega
    · rw [g_ne u1 (by omega)]; exact h3 u x0 (by omega)
  · simp only [ha.a (n := a_typeOf) (by decide), ha.f (j := 0) (by decide)]
    exact h4
  · simp only [ha.a (n := a_valueType) (by decide), ha.a (n := a_valueBy) (by decide), ha.a (n := a_valueFlags) (by decide), ha.f (j := 0) (by decide), ha.f (j := 6) (by decide)]
    exact h5
abbrev ndB : List Nat := [a_nKind, a_nFirst, a_nSecond, a_nThird, a_nWeight]
theorem ND.vs {G G' : LG} (h : ND G) (u0 : (gS G 1000 12) ≤ (gS G' 1000 12)) (u1 : ∀ u : Int, 0 ≤ u → u < (gS G 1000 12) → (gS G a_versions (u).toNat) ≤ (gS G' a_versions (u).toNat)) (ha : Agr ndB [18] G G') : ND G' := by
  unfold ND
  rw [ha.f (j := 18) (by decide)]
  simp only [ha.a (n := a_nKind) (by decide), ha.a (n := a_nFirst) (by decide), ha.a (n := a_nSecond) (by decide), ha.a (n := a_nThird) (by decide), ha.a (n := a_nWeight) (by decide)]
  refine ⟨h.1, fun n n0 n1 => ?_⟩
  obtain ⟨h1, h2, h3⟩ := h.2 n n0 n1
  refine ⟨h1, fun q => ?_, h3⟩
  have h4 := h2 q
  have h5 := u1 _ h4.1 h4.2.1
  exact ⟨h4.1, by omega, h4.2.2.1, by omega⟩
theorem TN.agr {G G' : LG} (ha : Agr [a_nKind, a_nFirst, a_nSecond, a_nThird, a_isGenerative, a_thingKind, a_thingA, a_thingB, a_thingC] [42] G G') : TN G G' := by
  refine ⟨by rw [ha.f (j := 42) (by decide)]; exact Int.le_refl _, fun x _ _ => ⟨ha.a (n := a_nKind) (by decide) _, ha.a (n := a_nFirst) (by decide) _, ha.a (n := a_nSecond) (by decide) _, ha.a (n := a_nThird) (by decide) _, ha.a (n := a_isGenerative) (by decide) _⟩, fun t _ _ => ⟨ha.a (n := a_thingKind) (by decide) _, ha.a (n := a_thingA) (by decide) _, ha.a (n := a_thingB) (by decide) _, ha.a (n := a_thingC) (by decide) _⟩⟩
theorem cur.un {G G' : LG} (hz : UZ G) (h0 : 0 ≤ (gS G 1000 12)) (u1 : ∀ j : Nat, gS G' a_versions j = if j = ((gS G 1000 12)).toNat then 1 else gS G a_versions j) : cur G' = cur G := by
  funext u
  unfold cur
  by_cases hu : (u).toNat = ((gS G 1000 12)).toNat
  · rw [u1, if_pos hu, hz _ (by omega)]
    rfl
  · rw [u1, if_neg hu]
theorem UZ.un {G G' : LG} (hz : UZ G) (h0 : 0 ≤ (gS G 1000 12)) (u0 : (gS G' 1000 12) = (gS G 1000 12) + 1) (u1 : ∀ j : Nat, gS G' a_versions j = if j = ((gS G 1000 12)).toNat then 1 else gS G a_versions j) : UZ G' := fun j hj => by
  rw [u1, if_neg (by omega)]
  exact hz j (by omega)
theorem UV.st {G G' : LG} {i : Nat} {t : Int} (h : UV G) (ht : -2 ≤ t ∧ t < (gS G 1000 0)) (u1 : ∀ j : Nat, gS G' a_typeOf j = if j = i then t else gS G a_typeOf j) (ha : Agr [a_versions, a_valueType, a_valueBy, a_valueFlags] [0, 6, 12] G G') : UV G' := by
  unfold UV
  rw [ha.f (j := 0) (by decide), ha.f (j := 6) (by decide), ha.f (j := 12) (by decide)]
  simp only [ha.a (n := a_versions) (by decide), ha.a (n := a_valueType) (by decide), ha.a (n := a_valueBy) (by decide), ha.a (n := a_valueFlags) (by decide)]
  refine ⟨h.1, h.2.1, h.2.2.1, fun v k v0 v1 k0 k1 => ?_, h.2.2.2.2⟩
  rw [u1]
  split
  · exact ht
  · exact h.2.2.2.1 v k v0 v1 k0 k1
theorem UV.sv {G G' : LG} {i : Nat} {t e f : Int} (h : UV G) (ht : -1 ≤ t ∧ t < (gS G 1000 0)) (hk : ¬ t = -1 → (-1 ≤ e ∧ e < (gS G 1000 6)) ∧ 0 ≤ f ∧ f ≤ 7) (u1 : ∀ j : Nat, gS G' a_valueType j = if j = i then t else gS G a_valueType j) (u2 : ∀ j : Nat, ¬ t = -1 → gS G' a_valueBy j = if j = i then e else gS G a_valueBy j) (u3 : ∀ j : Nat, ¬ t = -1 → gS G' a_valueFlags j = if j = i then f else gS G a_valueFlags j)
    (u4 : t = -1 → ∀ j : Nat, gS G' a_valueBy j = gS G a_valueBy j ∧ gS G' a_valueFlags j = gS G a_valueFlags j) (ha : Agr [a_versions, a_typeOf] [0, 6, 12] G G') : UV G' := by
  unfold UV
  rw [ha.f (j := 0) (by decide), ha.f (j := 6) (by decide), ha.f (j := 12) (by decide)]
  simp only [ha.a (n := a_versions) (by decide), ha.a (n := a_typeOf) (by decide)]
  refine ⟨h.1, h.2.1, h.2.2.1, h.2.2.2.1, fun v k v0 v1 k0 k1 => ?_⟩
  have h9 := h.2.2.2.2 v k v0 v1 k0 k1
  by_cases ht1 : t = -1
  · rw [u1, (u4 ht1 _).1, (u4 ht1 _).2]
    split
    · exact ⟨ht, fun q => absurd ht1 q⟩
    · exact h9
  · rw [u1, u2 _ ht1, u3 _ ht1]
    by_cases hj : (10 * v + k).toNat = i
    · rw [if_pos hj, if_pos hj, if_pos hj]; exact ⟨ht, hk⟩
    · rw [if_neg hj, if_neg hj, if_neg hj]; exact h9
def stT (G : LG) (u k t : Int) : Int := if ¬ ((0 ≤ u ∧ u < (gS G 1000 12)) ∧ (t = -1 ∨ t = -2 ∨ (0 ≤ t ∧ t < (gS G 1000 0)))) then 1 else if ¬ (0 ≤ k ∧ k ≤ 5) then 2 else 0
def svT (G : LG) (u k t e f : Int) : Int := if ¬ ((0 ≤ u ∧ u < (gS G 1000 12)) ∧ (0 ≤ t ∧ t < (gS G 1000 0)) ∧ (e = -1 ∨ (0 ≤ e ∧ e < (gS G 1000 6)))) then 1 else if ¬ ((0 ≤ k ∧ k ≤ 9) ∧ (0 ≤ f ∧ f ≤ 7) ∧ (¬ e = -1 ∨ f = 0 ∨ f = 4)) then 2 else 0
def rmT (G : LG) (u k : Int) : Int := if ¬ (0 ≤ u ∧ u < (gS G 1000 12)) then 1 else if ¬ (0 ≤ k ∧ k ≤ 9) then 2 else 0
/-- the place of the value k in the unit u's latest version -/
def vAt (G : LG) (u k : Int) : Int := 10 * (5 * u + ((gS G a_versions (u).toNat) - 1)) + k
