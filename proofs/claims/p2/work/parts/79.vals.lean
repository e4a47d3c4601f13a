theorem VA.add {G G' : LG} {a b : Int} (h : VA G) (ev : (gS G' 1000 79) = (gS G 1000 79) + 1) (u1 : ∀ j : Nat, gS G' a_left j = if j = ((gS G 1000 79)).toNat then a else gS G a_left j) (u2 : ∀ j : Nat, gS G' a_right j = if j = ((gS G 1000 79)).toNat then b else gS G a_right j) (hab : a = -1 ∨ ((0 ≤ a ∧ a < (gS G 1000 79)) ∧ 0 ≤ b ∧ b < (gS G 1000 79))) : VA G' := by
  obtain ⟨h0, h1⟩ := h
  refine ⟨by omega, fun v v0 v1 => ?_⟩
  rw [u1, u2]
  by_cases hv : v = (gS G 1000 79)
  · rw [if_pos (by rw [hv]), if_pos (by rw [hv])]; omega
  · rw [if_neg (by omega), if_neg (by omega)]; exact h1 v v0 (by omega)
/-- what is left of a run between two searches -/
def RU0 (G Gz : LG) : Prop := VA G ∧ (∀ c : Int, 0 ≤ c → c < (gS Gz 1000 67) → (gS G a_state (c).toNat) = 2 → 0 ≤ (gS G a_cellValue (c).toNat) ∧ (gS G a_cellValue (c).toNat) < (gS G 1000 79)) ∧ 0 ≤ (gS G 1000 90) ∧ (gS G 1000 79) + 13 * s0 G ((gS Gz 1000 67)) ≤ 3120 ∧ (gS G 1000 90) + s0 G ((gS Gz 1000 67)) ≤ 240
theorem RU.ru0 {G Gz : LG} (h : RU G Gz [] 0 0 0) : RU0 G Gz := by
  obtain ⟨a1, a2, a3, a4, a5, a6, a7, a8, a9⟩ := h
  have e1 : potL Gz [] = 0 := rfl
  have e3 : nph [] = 0 := rfl
  exact ⟨a3, a4, a6.2, by omega, by omega⟩
theorem RU0.ru {G G1 G2 Gz : LG} (h : RU0 G Gz) (hc : 0 ≤ (gS Gz 1000 67) ∧ (gS Gz 1000 67) ≤ 240) (e1 : G1 = gset G 1000 84 0) (e2 : G2 = gset G1 1000 88 0) : RU G2 Gz [] 0 0 0 ∧ s0 G2 ((gS Gz 1000 67)) = s0 G ((gS Gz 1000 67)) := by
  have f : Fr [] [84, 88] G G2 := Fr.setF (Fr.setF Fr.rf e1 (by decide)) e2 (by decide)
  obtain ⟨a1, a2, a3, a4, a5⟩ := h
  have ea : (gS G2 1000 84) = 0 := by rw [gsjE e2 (by decide), gsaE e1]
  have ev : (gS G2 1000 79) = (gS G 1000 79) := f.atF (by decide) (by decide)
  have eg : (gS G2 1000 88) = 0 := gsaE e2
  have el : (gS G2 1000 90) = (gS G 1000 90) := f.atF (by decide) (by decide)
  have es : s0 G2 ((gS Gz 1000 67)) = s0 G ((gS Gz 1000 67)) := s0.cg (fun j => f.atA (by decide) (by decide))
  have hs := s0.all (G := G) hc.1
  have h1 : potL Gz [] = 0 := rfl
  have h3 : nph [] = 0 := rfl
  refine ⟨⟨ea, trivial, ?_, ?_, fun j j0 j1 => by omega, by omega, by omega, by omega, by omega⟩, es⟩
  · unfold VA; rw [ev]; simp only [f.atA (n := a_left) (by decide) (by decide), f.atA (n := a_right) (by decide) (by decide)]; exact a1
  · rw [ev]; simp only [f.atA (n := a_state) (by decide) (by decide), f.atA (n := a_cellValue) (by decide) (by decide)]; exact a2
theorem AR.nil {G : LG} {st : List (Int × Int × Int)} {y : Int} (h : AR G st y) : (st = [] → y = 0) ∧ (0 < y → ¬ st = []) := ⟨fun q => by subst q; exact h, fun q z => by subst z; have : y = 0 := h; omega⟩
theorem GV.nonil {Gz : LG} {st : List (Int × Int × Int)} {m : Int} (h : GV Gz st m) (hm : 0 < m) : ¬ st = [] := fun q => by subst q; have : m = 0 := h; omega
/-- a cell is begun: its acts -/
theorem GV.cell {Gz : LG} {st : List (Int × Int × Int)} {e c m : Int} (h : (st = [] ∧ m = 0) ∨ (¬ st = [] ∧ GV Gz st (m + 1))) (hm : 0 ≤ m) : GV Gz ((e, 0, c) :: (c, 2, c) :: st) m := Or.inl ⟨rfl, Or.inr (Or.inr ⟨rfl, by omega, h.imp (fun z => ⟨z.1, by omega⟩) id⟩)⟩
theorem occP {Gz : LG} {e c k : Int} (h : ∀ i : Int, 0 ≤ i → i < 32 → Occ Gz e i → Occ Gz (exprC Gz c) i) (hk : 0 ≤ k ∧ k < eMany Gz e) : ∀ i : Int, 0 ≤ i → i < 32 → Occ Gz (ePart Gz e k) i → Occ Gz (exprC Gz c) i := fun i i0 i1 q => h i i0 i1 (Occ.step.mpr (Or.inr ⟨k, hk, q⟩))
theorem EVt.part {Gz : LG} {e p c k : Int} (h : EVt Gz e p c) (hp : p = 0 ∨ p = 1) (hE : EX Gz) (hk : 0 ≤ k ∧ k < eMany Gz e) : EVt Gz (ePart Gz e k) 0 c := by
  rcases h with ⟨h2, -⟩ | ⟨-, h2, h3, h4⟩
  · omega
  · have hp2 := hE.part h2.1 h2.2 hk.1 hk.2
    exact Or.inr ⟨Or.inl rfl, ⟨hp2.1, by omega⟩, h3, occP h4 hk⟩
theorem po1.z {Gz : LG} {e : Int} : po1 Gz e 0 = (gS Gz a_eWeight (e).toNat) ∧ me1 Gz e 0 = 2 * (gS Gz a_eWeight (e).toNat) := ⟨if_pos rfl, if_pos rfl⟩
theorem po1.t {Gz : LG} {e : Int} : po1 Gz e 2 = 1 ∧ me1 Gz e 2 = 1 := by unfold po1 me1; rw [if_neg (by decide), if_neg (by omega), if_neg (by decide), if_neg (by omega)]; exact ⟨rfl, rfl⟩
theorem po1.o {Gz : LG} {e : Int} : ((gS Gz a_eKind (e).toNat) = 6 → po1 Gz e 1 = 1 + (gS Gz a_eWeight ((gS Gz a_eSecond (e).toNat)).toNat) + (gS Gz a_eWeight ((gS Gz a_eThird (e).toNat)).toNat) ∧ me1 Gz e 1 = 1 + 2 * ((gS Gz a_eWeight ((gS Gz a_eSecond (e).toNat)).toNat) + (gS Gz a_eWeight ((gS Gz a_eThird (e).toNat)).toNat))) ∧ (¬ (gS Gz a_eKind (e).toNat) = 6 → po1 Gz e 1 = 1 ∧ me1 Gz e 1 = 1) := by
  have h0 : ¬ (1 : Int) = 0 := by decide
  refine ⟨fun q => ⟨?_, ?_⟩, fun q => ⟨?_, ?_⟩⟩
  · unfold po1; rw [if_neg h0, if_pos ⟨rfl, q⟩]
  · unfold me1; rw [if_neg h0, if_pos ⟨rfl, q⟩]
  · unfold po1; rw [if_neg h0, if_neg (fun z => q z.2)]
  · unfold me1; rw [if_neg h0, if_neg (fun z => q z.2)]
theorem eMany.k {G : LG} {x : Int} : ((gS G a_eKind (x).toNat) < 2 → eMany G x = 0) ∧ ((gS G a_eKind (x).toNat) = 4 ∨ (gS G a_eKind (x).toNat) = 5 → eMany G x = 1) ∧ ((gS G a_eKind (x).toNat) = 6 → eMany G x = 3) ∧ ((gS G a_eKind (x).toNat) = 2 ∨ (gS G a_eKind (x).toNat) = 3 → eMany G x = 2) := by
  unfold eMany
  refine ⟨fun q => if_pos q, fun q => ?_, fun q => ?_, fun q => ?_⟩
  · rw [if_neg (by omega), if_pos q]
  · rw [if_neg (by omega), if_neg (by omega), if_pos q]
  · rw [if_neg (by omega), if_neg (by omega), if_neg (by omega)]
