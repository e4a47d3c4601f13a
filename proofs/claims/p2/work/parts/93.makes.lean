/-! WHAT THE MAKING CALLS DO: types and expressions -/
theorem goes_0 {a b c r : Int} (h : r = b2i (¬ a = 0 ∧ ¬ b = 0 ∧ ¬ c = 0)) (q : r = 0) : a = 0 ∨ b = 0 ∨ c = 0 := by
  by_cases hb : ¬ a = 0 ∧ ¬ b = 0 ∧ ¬ c = 0
  · rw [b2i_t hb] at h; omega
  · omega
def tyW (G : LG) (k a b : Int) : Int := if k = 1 then 1 + (gS G a_tWeight (a).toNat) + (gS G a_tWeight (b).toNat) else 1
def tyT (G : LG) (k a b : Int) : Int := if ¬ ((0 ≤ k ∧ k ≤ 2) ∧ (k = 2 → 0 ≤ a ∧ a ≤ 5)) then 1 else if k = 1 ∧ ¬ ((0 ≤ a ∧ a < (gS G 1000 0)) ∧ 0 ≤ b ∧ b < (gS G 1000 0)) then 2 else if ¬ ((gS G 1000 0) < 60 ∧ tyW G k a b ≤ 12) then 3 else 0
def TYP (G : LG) (k a b r : Int) (G' : LG) : Prop := (gS G' 1000 25) = tyT G k a b ∧ (¬ tyT G k a b = 0 → r = 0 ∧ Fr [] [25] G G') ∧ (tyT G k a b = 0 → r = (gS G 1000 0) ∧ (gS G' 1000 0) = (gS G 1000 0) + 1 ∧ ∀ j : Nat, gS G' a_tWeight j = if j = ((gS G 1000 0)).toNat then tyW G k a b else gS G a_tWeight j)
theorem TB.add {G G' : LG} {k a b w : Int} (h : TB G) (hc : (gS G 1000 0) < 60) (u0 : (gS G' 1000 0) = (gS G 1000 0) + 1) (u1 : ∀ j : Nat, gS G' a_tKind j = if j = ((gS G 1000 0)).toNat then k else gS G a_tKind j) (u2 : ∀ j : Nat, gS G' a_tFirst j = if j = ((gS G 1000 0)).toNat then a else gS G a_tFirst j)
    (u3 : ∀ j : Nat, gS G' a_tSecond j = if j = ((gS G 1000 0)).toNat then b else gS G a_tSecond j) (u4 : ∀ j : Nat, gS G' a_tWeight j = if j = ((gS G 1000 0)).toNat then w else gS G a_tWeight j)
    (k0 : 0 ≤ k ∧ k ≤ 2) (k2 : k = 2 → 0 ≤ a ∧ a ≤ 5) (k1 : k = 1 → 0 ≤ a ∧ a < (gS G 1000 0) ∧ 0 ≤ b ∧ b < (gS G 1000 0) ∧ w = 1 + (gS G a_tWeight (a).toNat) + (gS G a_tWeight (b).toNat)) (kw : 1 ≤ w ∧ w ≤ 12) : TB G' := by
  obtain ⟨h0, h1⟩ := h
  refine ⟨by omega, fun x x0 x1 => ?_⟩
  by_cases hx : x = (gS G 1000 0)
  · subst hx
    rw [g_at u1, g_at u2, g_at u3, g_at u4]
    refine ⟨k0, k2, fun q => ?_, kw⟩
    obtain ⟨q1, q2, q3, q4, q5⟩ := k1 q
    refine ⟨q1, q2, q3, q4, ?_⟩
    rw [g_ne u4 (by omega), g_ne u4 (by omega)]
    exact q5
  · have h9 := h1 x x0 (by omega)
    rw [g_ne u1 (by omega), g_ne u2 (by omega), g_ne u3 (by omega), g_ne u4 (by omega)]
    refine ⟨h9.1, h9.2.1, fun q => ?_, h9.2.2.2⟩
    obtain ⟨q1, q2, q3, q4, q5⟩ := h9.2.2.1 q
    refine ⟨q1, q2, q3, q4, ?_⟩
    rw [g_ne u4 (by omega), g_ne u4 (by omega)]
    exact q5
/-- expressions -/
def exM (k : Int) : Int := if k < 0 ∨ 4 < k then 0 else if k + 2 = 4 ∨ k + 2 = 5 then 1 else if k + 2 = 6 then 3 else 2
def exW (G : LG) (k a b c : Int) : Int := 1 + (gS G a_eWeight (a).toNat) + (if 1 < exM k then (gS G a_eWeight (b).toNat) else 0) + (if 2 < exM k then (gS G a_eWeight (c).toNat) else 0)
def exT (G : LG) (k a b c : Int) : Int := if ¬ (0 ≤ k ∧ k ≤ 4) then 1 else if ¬ ((0 ≤ a ∧ a < (gS G 1000 6)) ∧ (exM k < 2 ∨ (0 ≤ b ∧ b < (gS G 1000 6))) ∧ (exM k < 3 ∨ (0 ≤ c ∧ c < (gS G 1000 6)))) then 2 else if ¬ ((gS G 1000 6) < 120 ∧ exW G k a b c ≤ 12) then 3 else 0
def EXP (G : LG) (t w r : Int) (G' : LG) : Prop := (gS G' 1000 25) = t ∧ (¬ t = 0 → r = 0 ∧ Fr [] [25] G G') ∧ (t = 0 → r = (gS G 1000 6) ∧ (gS G' 1000 6) = (gS G 1000 6) + 1 ∧ ∀ j : Nat, gS G' a_eWeight j = if j = ((gS G 1000 6)).toNat then w else gS G a_eWeight j)
def leT (G : LG) (i n : Int) : Int := if ¬ (i = 0 ∨ (0 ≤ n ∧ n ≤ 9)) then 1 else if ¬ (gS G 1000 6) < 120 then 2 else 0
theorem EX.add {G G' : LG} {k a b c w : Int} (h : EX G) (hc : (gS G 1000 6) < 120) (u0 : (gS G' 1000 6) = (gS G 1000 6) + 1) (u1 : ∀ j : Nat, gS G' a_eKind j = if j = ((gS G 1000 6)).toNat then k else gS G a_eKind j) (u2 : ∀ j : Nat, gS G' a_eFirst j = if j = ((gS G 1000 6)).toNat then a else gS G a_eFirst j)
    (u3 : ∀ j : Nat, gS G' a_eSecond j = if j = ((gS G 1000 6)).toNat then b else gS G a_eSecond j) (u4 : ∀ j : Nat, gS G' a_eThird j = if j = ((gS G 1000 6)).toNat then c else gS G a_eThird j) (u5 : ∀ j : Nat, gS G' a_eWeight j = if j = ((gS G 1000 6)).toNat then w else gS G a_eWeight j)
    (k0 : 0 ≤ k ∧ k ≤ 6) (k1 : k = 1 → 0 ≤ a ∧ a ≤ 9) (k2 : 2 ≤ k → 0 ≤ a ∧ a < (gS G 1000 6)) (k3 : k = 2 ∨ k = 3 ∨ k = 6 → 0 ≤ b ∧ b < (gS G 1000 6)) (k4 : k = 6 → 0 ≤ c ∧ c < (gS G 1000 6)) (kw : 1 ≤ w ∧ w ≤ 12)
    (w1 : k = 2 ∨ k = 3 → w = 1 + (gS G a_eWeight (a).toNat) + (gS G a_eWeight (b).toNat)) (w2 : k = 4 ∨ k = 5 → w = 1 + (gS G a_eWeight (a).toNat)) (w3 : k = 6 → w = 1 + (gS G a_eWeight (a).toNat) + (gS G a_eWeight (b).toNat) + (gS G a_eWeight (c).toNat)) : EX G' := by
  obtain ⟨h0, h1⟩ := h
  refine ⟨by omega, fun x x0 x1 => ?_⟩
  by_cases hx : x = (gS G 1000 6)
  · subst hx
    rw [g_at u1, g_at u2, g_at u3, g_at u4, g_at u5]
    refine ⟨k0, k1, k2, k3, k4, kw, fun q => ?_, fun q => ?_, fun q => ?_⟩
    · have q1 := k2 (by omega); have q2 := k3 (by omega); have q3 := w1 q
      rw [g_ne u5 (by omega), g_ne u5 (by omega)]; exact q3
    · have q1 := k2 (by omega); have q3 := w2 q
      rw [g_ne u5 (by omega)]; exact q3
    · have q1 := k2 (by omega); have q2 := k3 (by omega); have q4 := k4 q; have q3 := w3 q
      rw [g_ne u5 (by omega), g_ne u5 (by omega), g_ne u5 (by omega)]; exact q3
  · obtain ⟨a1, a2, a3, a4, a5, a6, a7, a8, a9⟩ := h1 x x0 (by omega)
    rw [g_ne u1 (by omega), g_ne u2 (by omega), g_ne u3 (by omega), g_ne u4 (by omega), g_ne u5 (by omega)]
    refine ⟨a1, a2, fun q => by have := a3 q; omega, fun q => by have := a4 q; omega, fun q => by have := a5 q; omega, a6, fun q => ?_, fun q => ?_, fun q => ?_⟩
    · have q1 := a3 (by omega); have q2 := a4 (by omega); have q3 := a7 q
      rw [g_ne u5 (by omega), g_ne u5 (by omega)]; exact q3
    · have q1 := a3 (by omega); have q3 := a8 q
      rw [g_ne u5 (by omega)]; exact q3
    · have q1 := a3 (by omega); have q2 := a4 (by omega); have q4 := a5 q; have q3 := a9 q
      rw [g_ne u5 (by omega), g_ne u5 (by omega), g_ne u5 (by omega)]; exact q3
