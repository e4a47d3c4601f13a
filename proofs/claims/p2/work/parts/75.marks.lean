/-! CELLS: what they say, to which they have REFs, which are marked -/
noncomputable def tgtC (G : LG) (c k : Int) : Int := (gS G a_cellAt (rootV G ((gS G a_cellOf (c).toNat) / 10 * 10 + k)).toNat)
/-- each REF of a cell is to a cell -/
def FI (G : LG) : Prop := ∀ c k : Int, 0 ≤ c → c < (gS G 1000 67) → 0 ≤ k → k < 10 → Occ G (exprC G c) k → 0 ≤ tgtC G c k
theorem IN.cell {G : LG} {I c : Int} (h : IN G I (10 * I)) (hU : UV G) (c0 : 0 ≤ c) (c1 : c < (gS G 1000 67)) : (0 ≤ (gS G a_cellOf (c).toNat) ∧ (gS G a_cellOf (c).toNat) < 240) ∧ (0 ≤ (gS G a_versionAt ((gS G a_cellOf (c).toNat) / 10).toNat) ∧ (gS G a_versionAt ((gS G a_cellOf (c).toNat) / 10).toNat) < 40) ∧ (0 ≤ exprC G c ∧ exprC G c < (gS G 1000 6)) ∧ 0 ≤ c ∧ c < 240 := by
  have h1 := h.1
  have h3 := h.2.2.1
  obtain ⟨a1, a2, a3⟩ := h.2.2.2.2.2 c c0 c1
  have hv := h.2.2.2.1 ((gS G a_cellOf (c).toNat) / 10) (by omega) (by omega)
  have hu := (hU.2.2.2.2 ((gS G a_versionAt ((gS G a_cellOf (c).toNat) / 10).toNat)) ((gS G a_cellOf (c).toNat) % 10) hv.1 hv.2 (by omega) (by omega)).2 a2
  unfold exprC
  exact ⟨by omega, hv, by omega, c0, by omega⟩
theorem IN.tgt {G : LG} {I c k : Int} (h : IN G I (10 * I)) (c0 : 0 ≤ c) (c1 : c < (gS G 1000 67)) (k0 : 0 ≤ k) (k1 : k < 10) : tgtC G c k < (gS G 1000 67) := by
  have h1 := h.1
  obtain ⟨a1, a2, a3⟩ := h.2.2.2.2.2 c c0 c1
  have hr := h.root (e := (gS G a_cellOf (c).toNat) / 10 * 10 + k) (by omega) (by omega)
  exact (h.2.2.2.2.1 _ hr.1.1 hr.1.2).2.2.2
theorem exprC.agr {G G' : LG} (ha : Agr [a_versionAt, a_cellOf, a_valueBy] [] G G') (c : Int) : exprC G' c = exprC G c := by unfold exprC; rw [ha.a (n := a_versionAt) (by decide), ha.a (n := a_cellOf) (by decide), ha.a (n := a_valueBy) (by decide)]
theorem tgtC.agr {G G' : LG} (ha : Agr [a_above, a_cellAt, a_cellOf] [] G G') (c k : Int) : tgtC G' c k = tgtC G c k := by unfold tgtC; rw [ha.a (n := a_cellOf) (by decide), rootV.agr (fun j => ha.a (n := a_above) (by decide) j), ha.a (n := a_cellAt) (by decide)]
abbrev fiA : List Nat := [a_versionAt, a_cellOf, a_valueBy, a_above, a_cellAt, a_eKind, a_eFirst, a_eSecond, a_eThird]
theorem FI.agr {G G' : LG} (h : FI G) (ha : Agr fiA [67] G G') : FI G' := by
  intro c k c0 c1 k0 k1 q
  rw [ha.f (j := 67) (by decide)] at c1
  rw [tgtC.agr (ha.sub (by decide) (by decide))]
  rw [exprC.agr (ha.sub (by decide) (by decide))] at q
  exact h c k c0 c1 k0 k1 ((Occ.agr (ha.sub (by decide) (by decide))).mp q)
theorem ssum_set {f g : Nat → Int} {k : Nat} {n : Nat} (hk : k < n) (h : ∀ j, j ≠ k → g j = f j) : ssum g n = ssum f n + (g k - f k) := by
  induction n with
  | zero => omega
  | succ n ih =>
    show ssum g n + g n = ssum f n + f n + (g k - f k)
    by_cases q : k = n
    · subst q
      rw [ssum_congr k (fun j hj => h j (by omega))]
      omega
    · rw [ih (by omega), h n (by omega)]
      omega
theorem ssum_01 {f : Nat → Int} {n : Nat} (h : ∀ j, j < n → f j = 0 ∨ f j = 1) : 0 ≤ ssum f n ∧ ssum f n ≤ n := by
  induction n with
  | zero => exact ⟨Int.le_refl _, Int.le_refl _⟩
  | succ n ih =>
    have h1 := ih (fun j hj => h j (by omega))
    have h2 := h n (by omega)
    have e : ssum f (n + 1) = ssum f n + f n := rfl
    rw [e]
    omega
/-- the marks are 0 or 1; how many there are -/
def M01 (G : LG) (n : Int) : Prop := ∀ j : Int, 0 ≤ j → j < n → (gS G a_reached (j).toNat) = 0 ∨ (gS G a_reached (j).toNat) = 1
def mS (G : LG) (n : Int) : Int := ssum (fun j => gS G a_reached j) n.toNat
theorem M01.sum {G : LG} {n : Int} (h : M01 G n) (h0 : 0 ≤ n) : 0 ≤ mS G n ∧ mS G n ≤ n := by
  have := ssum_01 (f := fun j => gS G a_reached j) (n := n.toNat) (fun j hj => by have := h (j : Int) (by omega) (by omega); rw [Int.toNat_natCast] at this; exact this)
  unfold mS
  omega
theorem mS.set {G G' : LG} {n c v : Int} (hc : 0 ≤ c ∧ c < n) (e : ∀ j : Nat, gS G' a_reached j = if j = (c).toNat then v else gS G a_reached j) : mS G' n = mS G n + (v - (gS G a_reached (c).toNat)) := by
  unfold mS
  rw [ssum_set (f := fun j => gS G a_reached j) (g := fun j => gS G' a_reached j) (k := c.toNat) (by omega) (fun j hj => by show gS G' a_reached j = gS G a_reached j; rw [e, if_neg hj])]
  show _ + (gS G' a_reached c.toNat - _) = _
  rw [e, if_pos rfl]
theorem mS.cg {G G' : LG} {n : Int} (e : ∀ j : Nat, gS G' a_reached j = gS G a_reached j) : mS G' n = mS G n := by unfold mS; exact ssum_congr _ (fun j _ => e j)
theorem mS.next {G : LG} {n : Int} (h : 0 ≤ n) : mS G (n + 1) = mS G n + (gS G a_reached (n).toNat) := by
  unfold mS
  rw [show (n + 1).toNat = n.toNat + 1 by omega]
  rfl
theorem M01.set {G G' : LG} {n c v : Int} (h : M01 G n) (hv : v = 0 ∨ v = 1) (e : ∀ j : Nat, gS G' a_reached j = if j = (c).toNat then v else gS G a_reached j) : M01 G' n := fun j j0 j1 => by
  rw [e]
  split
  · exact hv
  · exact h j j0 j1
theorem M01.cg {G G' : LG} {n : Int} (h : M01 G n) (e : ∀ j : Nat, gS G' a_reached j = gS G a_reached j) : M01 G' n := fun j j0 j1 => by rw [e]; exact h j j0 j1
