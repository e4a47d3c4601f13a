/-! EXPRESSIONS: their parts, and which values occur in them -/
def eMany (G : LG) (x : Int) : Int := if (gS G a_eKind (x).toNat) < 2 then 0 else if (gS G a_eKind (x).toNat) = 4 ∨ (gS G a_eKind (x).toNat) = 5 then 1 else if (gS G a_eKind (x).toNat) = 6 then 3 else 2
def ePart (G : LG) (x k : Int) : Int := if k = 0 then (gS G a_eFirst (x).toNat) else if k = 1 then (gS G a_eSecond (x).toNat) else (gS G a_eThird (x).toNat)
def occF (G : LG) : Nat → Int → Int → Prop
  | 0, _, _ => False
  | d + 1, e, i => ((gS G a_eKind (e).toNat) = 1 ∧ (gS G a_eFirst (e).toNat) = i) ∨ ∃ k : Int, (0 ≤ k ∧ k < eMany G e) ∧ occF G d (ePart G e k) i
/-- the value i occurs in the expression e -/
def Occ (G : LG) (e i : Int) : Prop := ∃ d, occF G d e i
theorem Occ.step {G : LG} {e i : Int} : Occ G e i ↔ ((gS G a_eKind (e).toNat) = 1 ∧ (gS G a_eFirst (e).toNat) = i) ∨ ∃ k : Int, (0 ≤ k ∧ k < eMany G e) ∧ Occ G (ePart G e k) i := by
  constructor
  · intro ⟨d, h⟩
    cases d with
    | zero => exact h.elim
    | succ d =>
      rcases h with h | ⟨k, hk, h⟩
      · exact Or.inl h
      · exact Or.inr ⟨k, hk, d, h⟩
  · intro h
    rcases h with h | ⟨k, hk, d, h⟩
    · exact ⟨1, Or.inl h⟩
    · exact ⟨d + 1, Or.inr ⟨k, hk, h⟩⟩
theorem eMany_rng (G : LG) (x : Int) : 0 ≤ eMany G x ∧ eMany G x ≤ 3 := by unfold eMany; split <;> (try split) <;> (try split) <;> omega
theorem EX.part {G : LG} (h : EX G) {x k : Int} (x0 : 0 ≤ x) (x1 : x < (gS G 1000 6)) (k0 : 0 ≤ k) (k1 : k < eMany G x) : 0 ≤ ePart G x k ∧ ePart G x k < x := by
  obtain ⟨h1, h2, h3, h4, h5, h6, h7, h8, h9⟩ := h.2 x x0 x1
  revert k1
  unfold eMany ePart
  intro k1
  split at k1
  · omega
  · rename_i q0
    split at k1
    · rw [if_pos (by omega)]; exact h3 (by omega)
    · split at k1
      · split
        · exact h3 (by omega)
        · split
          · exact h4 (by omega)
          · exact h5 (by omega)
      · split
        · exact h3 (by omega)
        · rw [if_pos (by omega)]; exact h4 (by omega)
theorem EX.w {G : LG} (h : EX G) {x : Int} (x0 : 0 ≤ x) (x1 : x < (gS G 1000 6)) : 1 ≤ (gS G a_eWeight (x).toNat) ∧ (gS G a_eWeight (x).toNat) ≤ 12 := (h.2 x x0 x1).2.2.2.2.2.1
theorem EX.sum {G : LG} (h : EX G) {x : Int} (x0 : 0 ≤ x) (x1 : x < (gS G 1000 6)) : ssum (fun j => (gS G a_eWeight (ePart G x (j : Int)).toNat)) (eMany G x).toNat + 1 ≤ (gS G a_eWeight (x).toNat) := by
  obtain ⟨h1, h2, h3, h4, h5, h6, h7, h8, h9⟩ := h.2 x x0 x1
  have p0 : ePart G x ((0 : Nat) : Int) = (gS G a_eFirst (x).toNat) := rfl
  have p1 : ePart G x ((1 : Nat) : Int) = (gS G a_eSecond (x).toNat) := rfl
  have p2 : ePart G x ((2 : Nat) : Int) = (gS G a_eThird (x).toNat) := rfl
  by_cases q0 : (gS G a_eKind (x).toNat) < 2
  · rw [show eMany G x = 0 from if_pos q0]
    show (0 : Int) + 1 ≤ _
    omega
  · by_cases q1 : (gS G a_eKind (x).toNat) = 4 ∨ (gS G a_eKind (x).toNat) = 5
    · rw [show eMany G x = 1 from (if_neg q0).trans (if_pos q1)]
      show (0 : Int) + gS G a_eWeight (ePart G x ((0 : Nat) : Int)).toNat + 1 ≤ _
      rw [p0]; have := h8 q1; omega
    · by_cases q2 : (gS G a_eKind (x).toNat) = 6
      · rw [show eMany G x = 3 from (if_neg q0).trans ((if_neg q1).trans (if_pos q2))]
        show (0 : Int) + gS G a_eWeight (ePart G x ((0 : Nat) : Int)).toNat + gS G a_eWeight (ePart G x ((1 : Nat) : Int)).toNat + gS G a_eWeight (ePart G x ((2 : Nat) : Int)).toNat + 1 ≤ _
        rw [p0, p1, p2]; have := h9 q2; omega
      · rw [show eMany G x = 2 from (if_neg q0).trans ((if_neg q1).trans (if_neg q2))]
        show (0 : Int) + gS G a_eWeight (ePart G x ((0 : Nat) : Int)).toNat + gS G a_eWeight (ePart G x ((1 : Nat) : Int)).toNat + 1 ≤ _
        rw [p0, p1]; have := h7 (by omega); omega
theorem ssum_add (f : Nat → Int) (a : Nat) : ∀ b : Nat, ssum f (a + b) = ssum f a + ssum (fun j => f (a + j)) b := by
  intro b
  induction b with
  | zero => show ssum f a = ssum f a + 0; omega
  | succ b ih => show ssum f (a + b) + f (a + b) = ssum f a + (ssum (fun j => f (a + j)) b + f (a + b)); omega
/-- the expressions that are still to be seen, their weights together at most z -/
def StkE (G Gz : LG) (lim n z : Int) : Prop := ∃ zz : Int, zz ≤ z ∧ Stk G Gz a_todo a_eWeight lim n zz
theorem StkE.le {G Gz : LG} {n z : Int} (hE : EX Gz) (h : StkE G Gz ((gS Gz 1000 6)) n z) : 0 ≤ n ∧ n ≤ z := by
  obtain ⟨zz, h1, h2⟩ := h
  have := h2.le (fun x x0 x1 => (hE.w x0 x1).1)
  omega
theorem StkE.next {G G2 Gz : LG} {n z x : Int} (hE : EX Gz) (h : StkE G Gz ((gS Gz 1000 6)) n z) (hn : 0 < n) (hx : (gS G a_todo (n - 1).toNat) = x) (h1 : ∀ j : Int, 0 ≤ j → j < n - 1 → (gS G2 a_todo (j).toNat) = (gS G a_todo (j).toNat)) (h2 : ∀ k : Int, 0 ≤ k → k < eMany Gz x → (gS G2 a_todo (n - 1 + k).toNat) = ePart Gz x k) : StkE G2 Gz ((gS Gz 1000 6)) (n - 1 + eMany Gz x) (z - 1) := by
  obtain ⟨zz, hz, s0, s1, s2⟩ := h
  have hr := s1 (n - 1) (by omega) (by omega)
  rw [hx] at hr
  have hm := eMany_rng Gz x
  have hs := hE.sum hr.1 hr.2
  have e1 : n.toNat = (n - 1).toNat + 1 := by omega
  have e2 : (n - 1 + eMany Gz x).toNat = (n - 1).toNat + (eMany Gz x).toNat := by omega
  have hf : ∀ k : Nat, k < (eMany Gz x).toNat → gS G2 a_todo ((n - 1).toNat + k) = ePart Gz x (k : Int) := fun k hk => by
    have := h2 (k : Int) (by omega) (by omega)
    rw [show (n - 1 + (k : Int)).toNat = (n - 1).toNat + k by omega] at this
    exact this
  refine ⟨ssum (fun j => gS Gz a_eWeight (gS G2 a_todo j).toNat) (n - 1 + eMany Gz x).toNat, ?_, by omega, fun j j0 j1 => ?_, rfl⟩
  · rw [e2, ssum_add, ssum_congr (f := fun j => gS Gz a_eWeight (gS G2 a_todo ((n - 1).toNat + j)).toNat) (g := fun j => gS Gz a_eWeight (ePart Gz x (j : Int)).toNat) _ (fun k hk => by rw [hf k hk])]
    rw [e1] at s2
    have h3 : ssum (fun j => gS Gz a_eWeight (gS G2 a_todo j).toNat) (n - 1).toNat = ssum (fun j => gS Gz a_eWeight (gS G a_todo j).toNat) (n - 1).toNat := ssum_congr _ (fun j hj => by
      have := h1 (j : Int) (by omega) (by omega)
      rw [Int.toNat_natCast] at this
      rw [this])
    have h4 : ssum (fun j => gS Gz a_eWeight (gS G a_todo j).toNat) ((n - 1).toNat + 1) = ssum (fun j => gS Gz a_eWeight (gS G a_todo j).toNat) (n - 1).toNat + gS Gz a_eWeight (gS G a_todo (n - 1).toNat).toNat := rfl
    rw [h4, hx] at s2
    rw [h3]
    omega
  · by_cases hj : j < n - 1
    · rw [h1 j j0 hj]; exact s1 j j0 (by omega)
    · have := h2 (j - (n - 1)) (by omega) (by omega)
      rw [show n - 1 + (j - (n - 1)) = j by omega] at this
      rw [this]
      have := hE.part (k := j - (n - 1)) hr.1 hr.2 (by omega) (by omega)
      omega
def OccE (G Gz : LG) (e n r : Int) : Prop := ∀ i : Int, 0 ≤ i → i < 32 → (Occ Gz e i ↔ bitI r i ∨ ∃ j : Int, (0 ≤ j ∧ j < n) ∧ Occ Gz ((gS G a_todo (j).toNat)) i)
theorem OccE.next {G G2 Gz : LG} {e n x r r2 : Int} (h : OccE G Gz e n r) (hn : 0 < n) (hx : (gS G a_todo (n - 1).toNat) = x) (h1 : ∀ j : Int, 0 ≤ j → j < n - 1 → (gS G2 a_todo (j).toNat) = (gS G a_todo (j).toNat)) (h2 : ∀ k : Int, 0 ≤ k → k < eMany Gz x → (gS G2 a_todo (n - 1 + k).toNat) = ePart Gz x k)
    (hr : ∀ i : Int, 0 ≤ i → i < 32 → (bitI r2 i ↔ bitI r i ∨ ((gS Gz a_eKind (x).toNat) = 1 ∧ (gS Gz a_eFirst (x).toNat) = i))) : OccE G2 Gz e (n - 1 + eMany Gz x) r2 := by
  intro i i0 i1
  have hm := eMany_rng Gz x
  rw [h i i0 i1, hr i i0 i1]
  constructor
  · intro q
    rcases q with q | ⟨j, ⟨j0, j1⟩, q⟩
    · exact Or.inl (Or.inl q)
    · by_cases hj : j = n - 1
      · rw [hj, hx] at q
        rcases Occ.step.mp q with q | ⟨k, ⟨k0, k1⟩, q⟩
        · exact Or.inl (Or.inr q)
        · exact Or.inr ⟨n - 1 + k, ⟨by omega, by omega⟩, by rw [h2 k k0 k1]; exact q⟩
      · exact Or.inr ⟨j, ⟨j0, by omega⟩, by rw [h1 j j0 (by omega)]; exact q⟩
  · intro q
    rcases q with (q | q) | ⟨j, ⟨j0, j1⟩, q⟩
    · exact Or.inl q
    · exact Or.inr ⟨n - 1, ⟨by omega, by omega⟩, by rw [hx]; exact Occ.step.mpr (Or.inl q)⟩
    · by_cases hj : j < n - 1
      · exact Or.inr ⟨j, ⟨j0, by omega⟩, by rw [← h1 j j0 hj]; exact q⟩
      · refine Or.inr ⟨n - 1, ⟨by omega, by omega⟩, ?_⟩
        rw [hx]
        refine Occ.step.mpr (Or.inr ⟨j - (n - 1), ⟨by omega, by omega⟩, ?_⟩)
        rw [← h2 _ (by omega) (by omega), show n - 1 + (j - (n - 1)) = j by omega]
        exact q
theorem StkE.one {G Gz : LG} {e : Int} (hE : EX Gz) (he : 0 ≤ e ∧ e < (gS Gz 1000 6)) (h : (gS G a_todo ((0 : Int)).toNat) = e) : StkE G Gz ((gS Gz 1000 6)) 1 12 := ⟨_, (hE.w he.1 he.2).2, Stk.one he h⟩
theorem OccE.one {G Gz : LG} {e : Int} (h : (gS G a_todo ((0 : Int)).toNat) = e) : OccE G Gz e 1 0 := by
  intro i i0 i1
  constructor
  · exact fun q => Or.inr ⟨0, ⟨by omega, by omega⟩, by rw [h]; exact q⟩
  · intro q
    rcases q with q | ⟨j, ⟨j0, j1⟩, q⟩
    · exact absurd q (bitI_0 i0 i1)
    · have e0 : j = 0 := by omega
      rw [e0, h] at q
      exact q
theorem eMany_fr {G G2 : LG} {ns js : List Nat} (h : Fr ns js G G2) (hn : a_eKind ∉ ns) (x : Int) : eMany G2 x = eMany G x := by unfold eMany; rw [h.atA hn (by decide)]
theorem ePart_fr {G G2 : LG} {ns js : List Nat} (h : Fr ns js G G2) (h1 : a_eFirst ∉ ns) (h2 : a_eSecond ∉ ns) (h3 : a_eThird ∉ ns) (x k : Int) : ePart G2 x k = ePart G x k := by unfold ePart; rw [h.atA h1 (by decide), h.atA h2 (by decide), h.atA h3 (by decide)]
