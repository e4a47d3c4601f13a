/-! THE CLASS: the machine -/
/-- the slots from an instance on: their expressions are there, what fills them and what is shown is among them -/
def MI (G : LG) (o : Nat) (f : Int) : Prop := ∀ s : Int, 10 * f ≤ s → s < 10 * gS G o 9 → gS G (o + 1) s.toNat < gS G 327681 12 ∧ (gS G (o + 3) s.toNat = -1 ∨ (10 * f ≤ gS G (o + 3) s.toNat ∧ gS G (o + 3) s.toNat < 10 * gS G o 9)) ∧ (gS G (o + 4) s.toNat = -1 ∨ (10 * f ≤ gS G (o + 4) s.toNat ∧ gS G (o + 4) s.toNat < 10 * gS G o 9))
/-- the cells that the slots come to -/
def MC (G : LG) (o : Nat) (f : Int) : Prop := ∀ s : Int, 10 * f ≤ s → s < 10 * gS G o 9 → gS G (o + 5) s.toNat = -1 ∨ ((10 * f ≤ gS G (o + 5) s.toNat ∧ gS G (o + 5) s.toNat < 10 * gS G o 9) ∧ 0 ≤ gS G (o + 1) (gS G (o + 5) s.toNat).toNat)
/-- no REF is open -/
def NO (G : LG) (o : Nat) (f : Int) : Prop := ∀ s : Int, 10 * f ≤ s → s < 10 * gS G o 9 → 0 ≤ gS G (o + 1) s.toNat → ∀ k : Int, 0 ≤ k → k < 10 → ¬ i_and (i_shr (gS G 327706 (gS G (o + 1) s.toNat).toNat) k) 1 = 0 → 0 ≤ gS G (o + 5) (s - s % 10 + k).toNat
/-- what is on the stack are cells -/
def SK (G : LG) (o : Nat) (f d : Int) : Prop := ∀ i : Int, 0 ≤ i → i < d → (10 * f ≤ gS G (o + 8) i.toNat ∧ gS G (o + 8) i.toNat < 10 * gS G o 9) ∧ 0 ≤ gS G (o + 1) (gS G (o + 8) i.toNat).toNat
/-- below a slot nothing has changed -/
def LO (G G' : LG) (o : Nat) (b : Int) : Prop := ∀ s : Int, 0 ≤ s → s < b → gS G' (o + 1) s.toNat = gS G (o + 1) s.toNat ∧ gS G' (o + 3) s.toNat = gS G (o + 3) s.toNat ∧ gS G' (o + 4) s.toNat = gS G (o + 4) s.toNat
theorem LO.rf {G : LG} {o : Nat} {b : Int} : LO G G o b := fun _ _ _ => ⟨rfl, rfl, rfl⟩
theorem LO.trans {G G1 G2 : LG} {o : Nat} {b c : Int} (h : LO G G1 o b) (k : LO G1 G2 o c) (hc : b ≤ c) : LO G G2 o b := fun s h0 h1 => by
  obtain ⟨a1, a2, a3⟩ := h s h0 h1
  obtain ⟨b1, b2, b3⟩ := k s h0 (by omega)
  exact ⟨b1.trans a1, b2.trans a2, b3.trans a3⟩
theorem MI.cg {G G' : LG} {o : Nat} {f : Int} (h : MI G o f) (h9 : gS G' o 9 = gS G o 9) (h1 : gS G' (o + 1) = gS G (o + 1)) (h3 : gS G' (o + 3) = gS G (o + 3)) (h4 : gS G' (o + 4) = gS G (o + 4)) (hp : gS G' 327681 12 = gS G 327681 12) : MI G' o f := by
  unfold MI; rw [h9, h1, h3, h4, hp]; exact h
theorem MC.cg {G G' : LG} {o : Nat} {f : Int} (h : MC G o f) (h9 : gS G' o 9 = gS G o 9) (h1 : gS G' (o + 1) = gS G (o + 1)) (h5 : gS G' (o + 5) = gS G (o + 5)) : MC G' o f := by
  unfold MC; rw [h9, h1, h5]; exact h
theorem NO.cg {G G' : LG} {o : Nat} {f : Int} (h : NO G o f) (h9 : gS G' o 9 = gS G o 9) (h1 : gS G' (o + 1) = gS G (o + 1)) (h5 : gS G' (o + 5) = gS G (o + 5)) (hp : gS G' 327706 = gS G 327706) : NO G' o f := by
  unfold NO; rw [h9, h1, h5, hp]; exact h
theorem SK.cg {G G' : LG} {o : Nat} {f d : Int} (h : SK G o f d) (h9 : gS G' o 9 = gS G o 9) (h1 : gS G' (o + 1) = gS G (o + 1)) (h8 : gS G' (o + 8) = gS G (o + 8)) : SK G' o f d := by
  unfold SK; rw [h9, h1, h8]; exact h
theorem SK.push {G G' : LG} {o : Nat} {f d c : Int} (h : SK G o f d) (h9 : gS G' o 9 = gS G o 9) (h1 : gS G' (o + 1) = gS G (o + 1)) (h8 : ∀ j, j ≠ d.toNat → gS G' (o + 8) j = gS G (o + 8) j) (hd : gS G' (o + 8) d.toNat = c) (h0 : 0 ≤ d) (hc : (10 * f ≤ c ∧ c < 10 * gS G o 9) ∧ 0 ≤ gS G (o + 1) c.toNat) : SK G' o f (d + 1) := fun i i0 i1 => by
  rw [h9, h1]
  by_cases e : i = d
  · subst e; rw [hd]; exact hc
  · rw [h8 i.toNat (by omega)]; exact h i i0 (by omega)
/-- how many of the first slots have no value yet -/
def unk (G : LG) (x : Nat) : Nat → Nat
  | 0 => 0
  | n + 1 => unk G x n + (if gS G x n = -1 then 1 else 0)
theorem unk.le (G : LG) (x n : Nat) : unk G x n ≤ n := by
  induction n with
  | zero => exact Nat.le_refl _
  | succ n ih => unfold unk; split <;> omega
theorem unk.cg {G G' : LG} {x : Nat} (h : gS G' x = gS G x) (n : Nat) : unk G' x n = unk G x n := by
  induction n with
  | zero => rfl
  | succ n ih => unfold unk; rw [ih, h]
theorem unk.set {G G' : LG} {x j : Nat} {v : Int} (e : G' = gset G x j v) : ∀ n, unk G' x n + (if j < n ∧ gS G x j = -1 then 1 else 0) = unk G x n + (if j < n ∧ v = -1 then 1 else 0) := by
  intro n
  induction n with
  | zero => simp [unk]
  | succ n ih =>
    unfold unk
    by_cases hj : j = n
    · subst hj
      rw [e, gset_at]
      rw [← e]
      simp only [Nat.lt_irrefl, false_and, if_false, Nat.add_zero, Nat.lt_succ_self, true_and] at ih ⊢
      rw [ih]
      split <;> split <;> omega
    · have e9 : gS G' x n = gS G x n := by rw [e]; exact gset_ne _ _ (fun q => hj q.2.symm)
      rw [e9]
      by_cases hl : j < n
      · simp only [hl, Nat.lt_succ_of_lt hl, true_and] at ih ⊢
        omega
      · have hl2 : ¬ j < n + 1 := by omega
        simp only [hl, hl2, false_and, if_false, Nat.add_zero] at ih ⊢
        rw [ih]
