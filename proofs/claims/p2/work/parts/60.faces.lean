/-! WHAT NODES ARE; what a face is found to be -/
theorem idF.mono {G : LG} {v : Int → Int} : ∀ (d : Nat) (n t : Int), idF G v d n t → idF G v (d + 1) n t := by
  intro d
  induction d with
  | zero => intro n t h; exact h.elim
  | succ d ih =>
    intro n t h
    rcases h with h | h | ⟨q1, q2, a, q3, q4⟩
    · exact Or.inl h
    · exact Or.inr (Or.inl h)
    · refine Or.inr (Or.inr ⟨q1, q2, a, ih _ _ q3, ?_⟩)
      rcases q4 with q4 | ⟨q4, b, q5, q6⟩
      · exact Or.inl q4
      · exact Or.inr ⟨q4, b, ih _ _ q5, q6⟩
theorem idF.le {G : LG} {v : Int → Int} {d : Nat} {n t : Int} (h : idF G v d n t) : ∀ e : Nat, idF G v (d + e) n t := by
  intro e
  induction e with
  | zero => exact h
  | succ e ih => exact idF.mono _ _ _ ih
theorem idN.u {G : LG} {v : Int → Int} {n t : Int} (hk : (gS G a_nKind (n).toNat) = 0) (h : key G t 1 (verOf G v n) 0 0) : idN G v n t := ⟨1, Or.inl ⟨hk, h⟩⟩
theorem idN.s {G : LG} {v : Int → Int} {n t : Int} (hk : ¬ (gS G a_nKind (n).toNat) = 0) (hs : selfN G n) (h : key G t 0 n 0 0) : idN G v n t := ⟨1, Or.inr (Or.inl ⟨hk, hs, h⟩)⟩
theorem idN.r {G : LG} {v : Int → Int} {n t a : Int} (hk : 5 ≤ (gS G a_nKind (n).toNat)) (hs : ¬ selfN G n) (ha : idN G v ((gS G a_nFirst (n).toNat)) a) (h : key G t (2 + (gS G a_nKind (n).toNat)) a ((gS G a_nSecond (n).toNat)) (if (gS G a_nKind (n).toNat) = 5 then (gS G a_nThird (n).toNat) else 0)) : idN G v n t :=
  ha.elim fun d hd => ⟨d + 1, Or.inr (Or.inr ⟨by omega, hs, a, hd, Or.inl ⟨hk, h⟩⟩)⟩
theorem idN.b {G : LG} {v : Int → Int} {n t a b : Int} (hk : ¬ (gS G a_nKind (n).toNat) = 0 ∧ (gS G a_nKind (n).toNat) < 5) (hs : ¬ selfN G n) (ha : idN G v ((gS G a_nFirst (n).toNat)) a) (hb : idN G v ((gS G a_nSecond (n).toNat)) b) (h : key G t (2 + (gS G a_nKind (n).toNat)) a b 0) : idN G v n t := by
  obtain ⟨d, hd⟩ := ha
  obtain ⟨e, he⟩ := hb
  have hd2 := hd.le e
  have he2 := he.le d
  rw [Nat.add_comm e d] at he2
  exact ⟨d + e + 1, Or.inr (Or.inr ⟨hk.1, hs, a, hd2, Or.inr ⟨hk.2, b, he2, h⟩⟩)⟩
/-- the version of a UNIT now, as the code finds it -/
def verC (G : LG) (n : Int) : Int := if (gS G a_nSecond (n).toNat) = -1 then 5 * (gS G a_nFirst (n).toNat) + ((gS G a_versions ((gS G a_nFirst (n).toNat)).toNat) - 1) else 5 * (gS G a_nFirst (n).toNat) + (gS G a_nSecond (n).toNat)
theorem verC.eq {G : LG} {n : Int} (h : 1 ≤ (gS G a_versions ((gS G a_nFirst (n).toNat)).toNat)) : verOf G (cur G) n = verC G n := by
  unfold verOf verC cur
  split
  · rw [if_neg (by omega)]
  · rfl
theorem verC.rng {G : LG} {n : Int} (hN : ND G) (hU : UV G) (hn : 0 ≤ n ∧ n < (gS G 1000 18)) (hk : (gS G a_nKind (n).toNat) = 0) : 0 ≤ verC G n ∧ verC G n < 40 := by
  obtain ⟨-, h2, -⟩ := hN.2 n hn.1 hn.2
  obtain ⟨a0, a1, b0, b1⟩ := h2 hk
  have h3 := hU.1
  have h4 := hU.2.1 ((gS G a_nFirst (n).toNat)) a0 (by omega)
  have h5 := hU.2.2.1 ((gS G a_nFirst (n).toNat)) a0 (by omega)
  unfold verC
  split <;> omega
/-- a value that a right node shows is there in its parts -/
def DN (G : LG) (n : Int) : Prop := ∀ j : Int, 0 ≤ j → j < 10 → ¬ (gS G a_sValue (10 * n + j).toNat) = -1 →
  ((gS G a_nKind (n).toNat) = 0 → ¬ (gS G a_valueType (10 * verC G n + j).toNat) = -1) ∧ ((gS G a_nKind (n).toNat) = 1 → ¬ (gS G a_sValue (10 * (gS G a_nFirst (n).toNat) + j).toNat) = -1 ∨ ¬ (gS G a_sValue (10 * (gS G a_nSecond (n).toNat) + j).toNat) = -1) ∧ ((gS G a_nKind (n).toNat) = 2 → ¬ (gS G a_sValue (10 * (gS G a_nFirst (n).toNat) + j).toNat) = -1 ∧ ¬ (gS G a_sValue (10 * (gS G a_nSecond (n).toNat) + j).toNat) = -1) ∧
  ((gS G a_nKind (n).toNat) = 3 → ¬ (gS G a_sValue (10 * (gS G a_nFirst (n).toNat) + j).toNat) = -1) ∧ ((gS G a_nKind (n).toNat) = 4 → ¬ (gS G a_sValue (10 * (gS G a_nFirst (n).toNat) + j).toNat) = -1 ∧ ¬ (gS G a_sValue (10 * (gS G a_nSecond (n).toNat) + j).toNat) = -1) ∧
  (5 ≤ (gS G a_nKind (n).toNat) → ¬ j = (gS G a_nSecond (n).toNat) ∧ ((gS G a_nKind (n).toNat) = 5 → j = (gS G a_nThird (n).toNat) → ¬ (gS G a_sValue (10 * (gS G a_nFirst (n).toNat) + (gS G a_nSecond (n).toNat)).toNat) = -1) ∧ (((gS G a_nKind (n).toNat) = 5 → ¬ j = (gS G a_nThird (n).toNat)) → ¬ (gS G a_sValue (10 * (gS G a_nFirst (n).toNat) + j).toNat) = -1))
/-- how many full types the face of a node costs at most -/
def ncost (G : LG) (n : Int) : Int := if (gS G a_nKind (n).toNat) = 0 then 370 else if (gS G a_nKind (n).toNat) = 1 then 3168 else if (gS G a_nKind (n).toNat) = 2 then 3174 else if (gS G a_nKind (n).toNat) = 3 then 6368 else if (gS G a_nKind (n).toNat) = 4 then 4007 else 0
/-- the k-th part of a node -/
def nPart (G : LG) (n k : Int) : Int := if k = 0 then (gS G a_nFirst (n).toNat) else if k = 1 then (gS G a_nSecond (n).toNat) else (gS G a_nThird (n).toNat)
def nMany (G : LG) (n : Int) : Int := if (gS G a_nKind (n).toNat) = 0 then 0 else if 5 ≤ (gS G a_nKind (n).toNat) then 1 else if (gS G a_nKind (n).toNat) = 4 then 3 else 2
theorem nMany_rng {G : LG} {n : Int} : 0 ≤ nMany G n ∧ nMany G n ≤ 3 := by unfold nMany; split <;> (try split) <;> (try split) <;> omega
theorem ND.part {G : LG} (h : ND G) {n k : Int} (n0 : 0 ≤ n) (n1 : n < (gS G 1000 18)) (k0 : 0 ≤ k) (k1 : k < nMany G n) : 0 ≤ nPart G n k ∧ nPart G n k < n := by
  obtain ⟨h1, h2, h3, h4, h5, h6⟩ := h.2 n n0 n1
  revert k1
  unfold nMany nPart
  intro k1
  split at k1
  · omega
  · rename_i q0
    split at k1
    · rw [if_pos (by omega)]; exact h3 (by omega)
    · split at k1
      · split
        · exact h3 (by omega)
        · split
          · exact h4 (by omega)
          · exact h5 (by omega)
      · split
        · exact h3 (by omega)
        · rw [if_pos (by omega)]; exact h4 (by omega)
theorem DN.u {G : LG} {n : Int} (hk : (gS G a_nKind (n).toNat) = 0) (h : ∀ j : Int, 0 ≤ j → j < 10 → ¬ (gS G a_sValue (10 * n + j).toNat) = -1 → ¬ (gS G a_valueType (10 * verC G n + j).toNat) = -1) : DN G n := fun j j0 j1 q => ⟨fun _ => h j j0 j1 q, fun z => by omega, fun z => by omega, fun z => by omega, fun z => by omega, fun z => by omega⟩
theorem DN.l {G : LG} {n : Int} (hk : (gS G a_nKind (n).toNat) = 1) (h : ∀ j : Int, 0 ≤ j → j < 10 → ¬ (gS G a_sValue (10 * n + j).toNat) = -1 → ¬ (gS G a_sValue (10 * (gS G a_nFirst (n).toNat) + j).toNat) = -1 ∨ ¬ (gS G a_sValue (10 * (gS G a_nSecond (n).toNat) + j).toNat) = -1) : DN G n := fun j j0 j1 q => ⟨fun z => by omega, fun _ => h j j0 j1 q, fun z => by omega, fun z => by omega, fun z => by omega, fun z => by omega⟩
theorem DN.s {G : LG} {n : Int} (hk : (gS G a_nKind (n).toNat) = 2) (h : ∀ j : Int, 0 ≤ j → j < 10 → ¬ (gS G a_sValue (10 * n + j).toNat) = -1 → ¬ (gS G a_sValue (10 * (gS G a_nFirst (n).toNat) + j).toNat) = -1 ∧ ¬ (gS G a_sValue (10 * (gS G a_nSecond (n).toNat) + j).toNat) = -1) : DN G n := fun j j0 j1 q => ⟨fun z => by omega, fun z => by omega, fun _ => h j j0 j1 q, fun z => by omega, fun z => by omega, fun z => by omega⟩
theorem DN.a {G : LG} {n : Int} (hk : (gS G a_nKind (n).toNat) = 3) (h : ∀ j : Int, 0 ≤ j → j < 10 → ¬ (gS G a_sValue (10 * n + j).toNat) = -1 → ¬ (gS G a_sValue (10 * (gS G a_nFirst (n).toNat) + j).toNat) = -1) : DN G n := fun j j0 j1 q => ⟨fun z => by omega, fun z => by omega, fun z => by omega, fun _ => h j j0 j1 q, fun z => by omega, fun z => by omega⟩
theorem DN.c {G : LG} {n : Int} (hk : (gS G a_nKind (n).toNat) = 4) (h : ∀ j : Int, 0 ≤ j → j < 10 → ¬ (gS G a_sValue (10 * n + j).toNat) = -1 → ¬ (gS G a_sValue (10 * (gS G a_nFirst (n).toNat) + j).toNat) = -1 ∧ ¬ (gS G a_sValue (10 * (gS G a_nSecond (n).toNat) + j).toNat) = -1) : DN G n := fun j j0 j1 q => ⟨fun z => by omega, fun z => by omega, fun z => by omega, fun z => by omega, fun _ => h j j0 j1 q, fun z => by omega⟩
theorem DN.r {G : LG} {n : Int} (hk : 5 ≤ (gS G a_nKind (n).toNat)) (h : ∀ j : Int, 0 ≤ j → j < 10 → ¬ (gS G a_sValue (10 * n + j).toNat) = -1 → ¬ j = (gS G a_nSecond (n).toNat) ∧ ((gS G a_nKind (n).toNat) = 5 → j = (gS G a_nThird (n).toNat) → ¬ (gS G a_sValue (10 * (gS G a_nFirst (n).toNat) + (gS G a_nSecond (n).toNat)).toNat) = -1) ∧ (((gS G a_nKind (n).toNat) = 5 → ¬ j = (gS G a_nThird (n).toNat)) → ¬ (gS G a_sValue (10 * (gS G a_nFirst (n).toNat) + j).toNat) = -1)) : DN G n := fun j j0 j1 q => ⟨fun z => by omega, fun z => by omega, fun z => by omega, fun z => by omega, fun z => by omega, fun _ => h j j0 j1 q⟩
/-- what is known of a node that has been found: what it is; without an error, its rows -/
def FC (G : LG) (v : Int → Int) (n : Int) : Prop := idN G v n ((gS G a_ident (n).toNat)) ∧ ((gS G a_error (n).toNat) = 0 → RT G (stN G v n) n ∧ RV G (stN G v n) n)
theorem FC.tx {G G' : LG} {v : Int → Int} {n : Int} (h : FC G v n) (hx : TX G G') (hf : FX G G') (hF : FU G) (e1 : (gS G' a_ident (n).toNat) = (gS G a_ident (n).toNat)) (e2 : (gS G' a_error (n).toNat) = (gS G a_error (n).toNat)) (e3 : ∀ j : Int, 0 ≤ j → j < 6 → (gS G' a_sType (6 * n + j).toNat) = (gS G a_sType (6 * n + j).toNat)) (e4 : ∀ j : Int, 0 ≤ j → j < 10 → (gS G' a_sValue (10 * n + j).toNat) = (gS G a_sValue (10 * n + j).toNat)) : FC G' v n := by
  unfold FC
  rw [e1, e2]
  exact ⟨hx.idN h.1, fun q => ⟨((h.2 q).1.fx hf hF e3).mono (fun t z => hx.stN z), ((h.2 q).2.fx hf hF e4).mono (fun t z => hx.stN z)⟩⟩
theorem ncost_nn {G : LG} {n : Int} : 0 ≤ ncost G n ∧ ncost G n ≤ 6368 := by unfold ncost; split <;> (try split) <;> (try split) <;> (try split) <;> (try split) <;> omega
