/-! WHAT THE MAKING CALLS DO: nodes -/
def NDP (G : LG) (t w r : Int) (G' : LG) : Prop := (gS G' 1000 25) = t ∧ (¬ t = 0 → r = 0 ∧ Fr [] [25] G G') ∧ (t = 0 → r = (gS G 1000 18) ∧ (gS G' 1000 18) = (gS G 1000 18) + 1 ∧ ∀ j : Nat, gS G' a_nWeight j = if j = ((gS G 1000 18)).toNat then w else gS G a_nWeight j)
def unT (G : LG) (u v : Int) : Int := if ¬ ((0 ≤ u ∧ u < (gS G 1000 12)) ∧ (v = -1 ∨ (0 ≤ v ∧ v ≤ (gS G a_versions (u).toNat) - 1))) then 1 else if ¬ (gS G 1000 18) < 40 then 2 else 0
def noT (G : LG) (k a b : Int) : Int := if ¬ (0 ≤ k ∧ k ≤ 2) then 1 else if ¬ ((0 ≤ a ∧ a < (gS G 1000 18)) ∧ 0 ≤ b ∧ b < (gS G 1000 18)) then 2 else if ¬ ((gS G 1000 18) < 40 ∧ 1 + (gS G a_nWeight (a).toNat) + (gS G a_nWeight (b).toNat) ≤ 24) then 3 else 0
def chT (G : LG) (a b c : Int) : Int := if ¬ ((0 ≤ a ∧ a < (gS G 1000 18)) ∧ (0 ≤ b ∧ b < (gS G 1000 18)) ∧ 0 ≤ c ∧ c < (gS G 1000 18)) then 1 else if ¬ ((gS G 1000 18) < 40 ∧ 1 + (gS G a_nWeight (a).toNat) + (gS G a_nWeight (b).toNat) + (gS G a_nWeight (c).toNat) ≤ 24) then 2 else 0
def rnT (G : LG) (n k t : Int) : Int := if ¬ (0 ≤ n ∧ n < (gS G 1000 18)) then 1 else if ¬ ((0 ≤ k ∧ k ≤ 9) ∧ (t = -1 ∨ (0 ≤ t ∧ t ≤ 9)) ∧ ¬ k = t) then 2 else if ¬ ((gS G 1000 18) < 40 ∧ 1 + (gS G a_nWeight (n).toNat) ≤ 24) then 3 else 0
theorem ND.add {G G' : LG} {k a b c w : Int} (h : ND G) (hc : (gS G 1000 18) < 40) (u0 : (gS G' 1000 18) = (gS G 1000 18) + 1) (u1 : ∀ j : Nat, gS G' a_nKind j = if j = ((gS G 1000 18)).toNat then k else gS G a_nKind j) (u2 : ∀ j : Nat, gS G' a_nFirst j = if j = ((gS G 1000 18)).toNat then a else gS G a_nFirst j)
    (u3 : ∀ j : Nat, gS G' a_nSecond j = if j = ((gS G 1000 18)).toNat then b else gS G a_nSecond j) (u4 : ∀ j : Nat, gS G' a_nThird j = if j = ((gS G 1000 18)).toNat then c else gS G a_nThird j) (u5 : ∀ j : Nat, gS G' a_nWeight j = if j = ((gS G 1000 18)).toNat then w else gS G a_nWeight j) (ha : Agr [a_versions] [12] G G')
    (k0 : 0 ≤ k ∧ k ≤ 6) (k1 : k = 0 → 0 ≤ a ∧ a < (gS G 1000 12) ∧ -1 ≤ b ∧ b < (gS G a_versions (a).toNat)) (k2 : 1 ≤ k → 0 ≤ a ∧ a < (gS G 1000 18)) (k3 : 1 ≤ k ∧ k ≤ 4 → 0 ≤ b ∧ b < (gS G 1000 18)) (k4 : k = 4 → 0 ≤ c ∧ c < (gS G 1000 18)) (k5 : 5 ≤ k → 0 ≤ b ∧ b ≤ 9) (k6 : k = 5 → 0 ≤ c ∧ c ≤ 9) (kw : 1 ≤ w ∧ w ≤ 24)
    (w1 : 1 ≤ k ∧ k ≤ 3 → w = 1 + (gS G a_nWeight (a).toNat) + (gS G a_nWeight (b).toNat)) (w2 : k = 4 → w = 1 + (gS G a_nWeight (a).toNat) + (gS G a_nWeight (b).toNat) + (gS G a_nWeight (c).toNat)) (w3 : 5 ≤ k → w = 1 + (gS G a_nWeight (a).toNat)) (w4 : k = 0 → w = 1) : ND G' := by
  have h00 := h.1
  unfold ND
  rw [ha.f (j := 12) (by decide)]
  simp only [ha.a (n := a_versions) (by decide)]
  refine ⟨by omega, fun x x0 x1 => ?_⟩
  by_cases hx : x = (gS G 1000 18)
  · subst hx
    rw [g_at u1, g_at u2, g_at u3, g_at u4, g_at u5]
    refine ⟨k0, k1, k2, k3, k4, k5, k6, kw, fun q => ?_, fun q => ?_, fun q => ?_, w4⟩
    · have q1 := k2 q.1; have q2 := k3 (by omega)
      rw [g_ne u5 (by omega), g_ne u5 (by omega)]; exact w1 q
    · have q1 := k2 (by omega); have q2 := k3 (by omega); have q3 := k4 q
      rw [g_ne u5 (by omega), g_ne u5 (by omega), g_ne u5 (by omega)]; exact w2 q
    · have q1 := k2 (by omega)
      rw [g_ne u5 (by omega)]; exact w3 q
  · obtain ⟨a0, a1, a2, a3, a4, a5, a6, a7, a8, a9, b1, b2⟩ := h.2 x x0 (by omega)
    rw [g_ne u1 (by omega), g_ne u2 (by omega), g_ne u3 (by omega), g_ne u4 (by omega), g_ne u5 (by omega)]
    refine ⟨a0, a1, a2, a3, a4, a5, a6, a7, fun q => ?_, fun q => ?_, fun q => ?_, b2⟩
    · have q1 := a2 q.1; have q2 := a3 (by omega)
      rw [g_ne u5 (by omega), g_ne u5 (by omega)]; exact a8 q
    · have q1 := a2 (by omega); have q2 := a3 (by omega); have q3 := a4 q
      rw [g_ne u5 (by omega), g_ne u5 (by omega), g_ne u5 (by omega)]; exact a9 q
    · have q1 := a2 (by omega)
      rw [g_ne u5 (by omega)]; exact b1 q
theorem TN.add {G G' : LG} {k a b c g : Int} (u1 : ∀ j : Nat, gS G' a_nKind j = if j = ((gS G 1000 18)).toNat then k else gS G a_nKind j) (u2 : ∀ j : Nat, gS G' a_nFirst j = if j = ((gS G 1000 18)).toNat then a else gS G a_nFirst j)
    (u3 : ∀ j : Nat, gS G' a_nSecond j = if j = ((gS G 1000 18)).toNat then b else gS G a_nSecond j) (u4 : ∀ j : Nat, gS G' a_nThird j = if j = ((gS G 1000 18)).toNat then c else gS G a_nThird j) (u6 : ∀ j : Nat, gS G' a_isGenerative j = if j = ((gS G 1000 18)).toNat then g else gS G a_isGenerative j) (ha : Agr tgA [42] G G') : TN G G' := by
  refine ⟨by rw [ha.f (j := 42) (by decide)]; exact Int.le_refl _, fun x x0 x1 => ⟨g_ne u1 (by omega), g_ne u2 (by omega), g_ne u3 (by omega), g_ne u4 (by omega), g_ne u6 (by omega)⟩, fun t _ _ => ⟨ha.a (n := a_thingKind) (by decide) _, ha.a (n := a_thingA) (by decide) _, ha.a (n := a_thingB) (by decide) _, ha.a (n := a_thingC) (by decide) _⟩⟩
