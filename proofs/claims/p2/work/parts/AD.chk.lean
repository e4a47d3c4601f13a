/-! THE CLASS: the stack of expressions' types -/
theorem CI.stk {a b : Nat} {G : LG} (h : CI a b G) (al : (gK G 327684).1 ≠ 0) : ∃ q L : Nat, gS G 327684 3 = (q : Int) ∧ q % 1048576 = 327690 ∧ gK G q = (1, L) ∧ (64 ≤ L ∧ L ≤ 2412) ∧ (0 ≤ gS G 327684 4 ∧ gS G 327684 4 ≤ (L : Int)) ∧ (L ≤ 2412 ∨ L = 2412) := by
  obtain ⟨q, L, a1, a2, a3, a4, a5, a6, a7⟩ := h.2.2.2.1
  have hk : gK G 327684 = (17, 0) := h.1.k (c := 504) (by decide) al
  have h3 : 0 ≤ gS G 327684 3 ∧ gS G 327684 3 % 1048576 = 327690 := h.1.v (c := 504) (j := 3) (by decide) al (by rw [hk]; exact Nat.le_of_ble_eq_true rfl)
  have h4 : 0 ≤ gS G 327684 4 ∧ gS G 327684 4 ≤ 2412 := h.1.v (c := 504) (j := 4) (by decide) al (by rw [hk]; exact Nat.le_of_ble_eq_true rfl)
  exact ⟨q, L, a1, by omega, a3, ⟨a4, a5⟩, ⟨h4.1, a6⟩, a7⟩
theorem LST.gr {G G' : LG} {q L q' L' : Nat} (hq : gS G 327684 3 = (q : Int)) (hk : gK G q = (1, L)) (hq' : gS G' 327684 3 = (q' : Int)) (hk' : gK G' q' = (1, L')) (hL : L ≤ L') : ∀ m, LST G m → LST G' m := fun m hm => by
  obtain ⟨q2, L2, a1, a2, a3⟩ := hm
  have e : q2 = q := by omega
  subst e
  rw [hk] at a2
  have e2 : L = L2 := congrArg Prod.snd a2
  exact ⟨q', L', hq', hk', by omega⟩
/-- the values that a face has are as long as a part at least -/
def FSZ (G : LG) (o : Nat) : Prop := ((gK G (o + 2)).1 ≠ 0 ∧ (gK G (o + 4)).1 ≠ 0) ∧ ∀ k : Nat, k < 10 → ¬ gS G (o + 2) k = 0 → 1 ≤ gS G (o + 4) (6 + k)
theorem FSZ.wx {S : Nat → Prop} {G G' : LG} {o : Nat} (h : FSZ G o) (kx : KX G G') (wx : WX S G G') (h2 : ¬ S ((o + 2) % 1048576)) (h4 : ¬ S ((o + 4) % 1048576)) : FSZ G' o := by
  refine ⟨⟨kx.al h.1.1, kx.al h.1.2⟩, ?_⟩
  rw [wx _ h.1.1 h2, wx _ h.1.2 h4]
  exact h.2
theorem E6.w {G : LG} (h : E6 G) {e : Int} (h0 : 0 ≤ e) (h1 : e < gS G 327681 12) : (gS G 327701 e.toNat = 6 → 0 ≤ gS G 327702 e.toNat ∧ gS G 327702 e.toNat ≤ 9) ∧ (gS G 327701 e.toNat ≤ 4 → (0 ≤ gS G 327702 e.toNat ∧ gS G 327702 e.toNat < e) ∧ gS G 327703 e.toNat < e ∧ gS G 327704 e.toNat < e) ∧ (gS G 327701 e.toNat = 0 ∨ gS G 327701 e.toNat = 1 ∨ gS G 327701 e.toNat = 4 → 0 ≤ gS G 327703 e.toNat) ∧ (gS G 327701 e.toNat = 4 → 0 ≤ gS G 327704 e.toNat) ∧ (1 ≤ gS G 327705 e.toNat ∧ gS G 327705 e.toNat ≤ 12) ∧
    (gS G 327701 e.toNat ≤ 4 → 1 + gS G 327705 (gS G 327702 e.toNat).toNat ≤ gS G 327705 e.toNat) ∧ (gS G 327701 e.toNat = 0 ∨ gS G 327701 e.toNat = 1 → 1 + gS G 327705 (gS G 327702 e.toNat).toNat + gS G 327705 (gS G 327703 e.toNat).toNat ≤ gS G 327705 e.toNat) ∧ (gS G 327701 e.toNat = 4 → 1 + gS G 327705 (gS G 327702 e.toNat).toNat + gS G 327705 (gS G 327703 e.toNat).toNat + gS G 327705 (gS G 327704 e.toNat).toNat ≤ gS G 327705 e.toNat ∧ 1 ≤ gS G 327705 (gS G 327704 e.toNat).toNat) := by
  obtain ⟨a1, a2, a3, a4, a5, a6, a7, a8⟩ := h e h0 h1
  refine ⟨a1, a2, a3, a4, a7, fun k => ?_, fun k => ?_, fun k => ?_⟩
  · have b2 := a2 (by omega)
    have b6 := a6 (by omega)
    have p2 : gS G 327703 e.toNat < 0 ∨ (1 ≤ gS G 327705 (gS G 327703 e.toNat).toNat) := by
      by_cases q : gS G 327703 e.toNat < 0
      · exact Or.inl q
      · exact Or.inr (h (gS G 327703 e.toNat) (by omega) (by omega)).2.2.2.2.2.2.1.1
    have p3 : gS G 327704 e.toNat < 0 ∨ (1 ≤ gS G 327705 (gS G 327704 e.toNat).toNat) := by
      by_cases q : gS G 327704 e.toNat < 0
      · exact Or.inl q
      · exact Or.inr (h (gS G 327704 e.toNat) (by omega) (by omega)).2.2.2.2.2.2.1.1
    rw [b6]
    split <;> split <;> omega
  · have b2 := a2 (by omega)
    have b3 := a3 (by omega)
    have b6 := a6 (by omega)
    rw [if_neg (by omega)] at b6
    have p3 : gS G 327704 e.toNat < 0 ∨ (1 ≤ gS G 327705 (gS G 327704 e.toNat).toNat) := by
      by_cases q : gS G 327704 e.toNat < 0
      · exact Or.inl q
      · exact Or.inr (h (gS G 327704 e.toNat) (by omega) (by omega)).2.2.2.2.2.2.1.1
    rw [b6]
    split <;> omega
  · have b2 := a2 (by omega)
    have b3 := a3 (by omega)
    have b4 := a4 k
    have b6 := a6 (by omega)
    rw [if_neg (by omega), if_neg (by omega)] at b6
    exact ⟨by omega, (h (gS G 327704 e.toNat) b4 (by omega)).2.2.2.2.2.2.1.1⟩
theorem LST.tp {G G' : LG} {v : Int} (e : G' = gset G 327684 4 v) : ∀ m, LST G m → LST G' m := fun m hm => by
  obtain ⟨q, L, a1, a2, a3⟩ := hm
  exact ⟨q, L, by rw [e, gset_ne _ _ (fun z => absurd z.2 (by decide))]; exact a1, by rw [e, gset_K]; exact a2, a3⟩
