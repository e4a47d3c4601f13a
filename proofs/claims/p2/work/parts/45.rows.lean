/-! ROWS OF FACES: six types, ten values; the stamps in them are of P -/
def RT (G : LG) (P : Int → Prop) (s : Int) : Prop := ∀ j : Int, 0 ≤ j → j < 6 → (-2 ≤ (gS G a_sType (6 * s + j).toNat) ∧ (gS G a_sType (6 * s + j).toNat) < (gS G 1000 26)) ∧ (0 ≤ (gS G a_sType (6 * s + j).toNat) → (gS G a_fSize ((gS G a_sType (6 * s + j).toNat)).toNat) ≤ 200 ∧ okS G P ((gS G a_sType (6 * s + j).toNat)))
def RV (G : LG) (P : Int → Prop) (s : Int) : Prop := ∀ j : Int, 0 ≤ j → j < 10 → (-1 ≤ (gS G a_sValue (10 * s + j).toNat) ∧ (gS G a_sValue (10 * s + j).toNat) < (gS G 1000 26)) ∧ (0 ≤ (gS G a_sValue (10 * s + j).toNat) → (gS G a_fSize ((gS G a_sValue (10 * s + j).toNat)).toNat) ≤ 200 ∧ okS G P ((gS G a_sValue (10 * s + j).toNat)))
/-- what the types of setType are as full types -/
def RW (G : LG) : Prop := ∀ k : Int, 0 ≤ k → k < (gS G 1000 0) → (0 ≤ (gS G a_raw (k).toNat) ∧ (gS G a_raw (k).toNat) < (gS G 1000 26)) ∧ (gS G a_fSize ((gS G a_raw (k).toNat)).toNat) ≤ 12 ∧ okS G (fun _ => False) ((gS G a_raw (k).toNat))
theorem RT.fx {G G' : LG} {P : Int → Prop} {s : Int} (h : RT G P s) (hx : FX G G') (hf : FU G) (e : ∀ j : Int, 0 ≤ j → j < 6 → (gS G' a_sType (6 * s + j).toNat) = (gS G a_sType (6 * s + j).toNat)) : RT G' P s := fun j j0 j1 => by
  obtain ⟨⟨a, b⟩, c⟩ := h j j0 j1
  rw [e j j0 j1]
  refine ⟨⟨a, by have := hx.1; omega⟩, fun q => ⟨?_, (c q).2.fx hx hf q b⟩⟩
  rw [(hx.2 _ q b).2.2.2]
  exact (c q).1
theorem RV.fx {G G' : LG} {P : Int → Prop} {s : Int} (h : RV G P s) (hx : FX G G') (hf : FU G) (e : ∀ j : Int, 0 ≤ j → j < 10 → (gS G' a_sValue (10 * s + j).toNat) = (gS G a_sValue (10 * s + j).toNat)) : RV G' P s := fun j j0 j1 => by
  obtain ⟨⟨a, b⟩, c⟩ := h j j0 j1
  rw [e j j0 j1]
  refine ⟨⟨a, by have := hx.1; omega⟩, fun q => ⟨?_, (c q).2.fx hx hf q b⟩⟩
  rw [(hx.2 _ q b).2.2.2]
  exact (c q).1
theorem RT.mono {G : LG} {P Q : Int → Prop} {s : Int} (h : RT G P s) (hPQ : ∀ x, P x → Q x) : RT G Q s := fun j j0 j1 => ⟨(h j j0 j1).1, fun q => ⟨((h j j0 j1).2 q).1, ((h j j0 j1).2 q).2.mono hPQ⟩⟩
theorem RV.mono {G : LG} {P Q : Int → Prop} {s : Int} (h : RV G P s) (hPQ : ∀ x, P x → Q x) : RV G Q s := fun j j0 j1 => ⟨(h j j0 j1).1, fun q => ⟨((h j j0 j1).2 q).1, ((h j j0 j1).2 q).2.mono hPQ⟩⟩
theorem RW.fx {G G' : LG} (h : RW G) (hx : FX G G') (hf : FU G) (e : ∀ j : Int, (gS G' a_raw (j).toNat) = (gS G a_raw (j).toNat)) (e2 : (gS G' 1000 0) = (gS G 1000 0)) : RW G' := fun k k0 k1 => by
  rw [e2] at k1
  obtain ⟨⟨a, b⟩, c, d⟩ := h k k0 k1
  rw [e]
  refine ⟨⟨a, by have := hx.1; omega⟩, ?_, d.fx hx hf a b⟩
  rw [(hx.2 _ a b).2.2.2]
  exact c
/-- one type of the row is set -/
theorem RT.set {G G' : LG} {P : Int → Prop} {s k t : Int} (h : RT G P s) (hs : 0 ≤ s) (hk : 0 ≤ k ∧ k < 6) (e : G' = gset G a_sType (6 * s + k).toNat t) (ht : (-2 ≤ t ∧ t < (gS G 1000 26)) ∧ (0 ≤ t → (gS G a_fSize (t).toNat) ≤ 200 ∧ okS G P t)) (hf : FU G) : RT G' P s := fun j j0 j1 => by
  have hx : FX G G' := FX.agf (Fr.setA Fr.rf e (by decide) : Fr [a_sType] [] G G') (by decide) (by decide) (by decide)
  have e26 : (gS G' 1000 26) = (gS G 1000 26) := gsnE e (by decide)
  have key : (gS G' a_sType (6 * s + j).toNat = t ∧ j = k) ∨ gS G' a_sType (6 * s + j).toNat = (gS G a_sType (6 * s + j).toNat) := by
    by_cases hj : j = k
    · subst hj; exact Or.inl ⟨g_at (g_upd e), rfl⟩
    · exact Or.inr (g_ne (g_upd e) (by omega))
  have fin : ∀ x : Int, ((-2 ≤ x ∧ x < (gS G 1000 26)) ∧ (0 ≤ x → (gS G a_fSize (x).toNat) ≤ 200 ∧ okS G P x)) → (-2 ≤ x ∧ x < (gS G' 1000 26)) ∧ (0 ≤ x → (gS G' a_fSize (x).toNat) ≤ 200 ∧ okS G' P x) := fun x hx2 => ⟨by omega, fun q => ⟨by rw [(hx.2 x q hx2.1.2).2.2.2]; exact (hx2.2 q).1, (hx2.2 q).2.fx hx hf q hx2.1.2⟩⟩
  rcases key with ⟨key, -⟩ | key
  · rw [key]; exact fin _ ht
  · rw [key]; exact fin _ (h j j0 j1)
theorem RV.set {G G1 G2 G' : LG} {P : Int → Prop} {s k t a b : Int} (h : RV G P s) (hs : 0 ≤ s) (hk : 0 ≤ k ∧ k < 10) (e1 : G1 = gset G a_sValue (10 * s + k).toNat t) (e2 : G2 = gset G1 a_sFlags (10 * s + k).toNat a) (e3 : G' = gset G2 a_sNumber (10 * s + k).toNat b) (ht : (-1 ≤ t ∧ t < (gS G 1000 26)) ∧ (0 ≤ t → (gS G a_fSize (t).toNat) ≤ 200 ∧ okS G P t)) (hf : FU G) : RV G' P s := fun j j0 j1 => by
  have hx : FX G G' := FX.agf (Fr.setA (Fr.setA (Fr.setA Fr.rf e1 (by decide)) e2 (by decide)) e3 (by decide) : Fr [a_sValue, a_sFlags, a_sNumber] [] G G') (by decide) (by decide) (by decide)
  have e26 : (gS G' 1000 26) = (gS G 1000 26) := by rw [gsnE e3 (by decide), gsnE e2 (by decide), gsnE e1 (by decide)]
  obtain ⟨u1, u2, u3, u4⟩ := va3 e1 e2 e3
  have key : gS G' a_sValue (10 * s + j).toNat = t ∨ gS G' a_sValue (10 * s + j).toNat = (gS G a_sValue (10 * s + j).toNat) := by
    by_cases hj : j = k
    · subst hj; exact Or.inl (g_at u1)
    · exact Or.inr (g_ne u1 (by omega))
  have fin : ∀ x : Int, ((-1 ≤ x ∧ x < (gS G 1000 26)) ∧ (0 ≤ x → (gS G a_fSize (x).toNat) ≤ 200 ∧ okS G P x)) → (-1 ≤ x ∧ x < (gS G' 1000 26)) ∧ (0 ≤ x → (gS G' a_fSize (x).toNat) ≤ 200 ∧ okS G' P x) := fun x hx2 => ⟨by omega, fun q => ⟨by rw [(hx.2 x q hx2.1.2).2.2.2]; exact (hx2.2 q).1, (hx2.2 q).2.fx hx hf q hx2.1.2⟩⟩
  rcases key with key | key
  · rw [key]; exact fin _ ht
  · rw [key]; exact fin _ (h j j0 j1)
/-- the names that stand for types now: whole, and with stamps of P -/
def BY (G : LG) (P : Int → Prop) : Prop := ∀ j : Int, 0 ≤ j → j < 6 → (-1 ≤ (gS G a_by (j).toNat) ∧ (gS G a_by (j).toNat) < (gS G 1000 26)) ∧ (0 ≤ (gS G a_by (j).toNat) → okS G P ((gS G a_by (j).toNat)))
theorem BY.fx {G G' : LG} {P : Int → Prop} (h : BY G P) (hx : FX G G') (hf : FU G) (e : ∀ j : Nat, gS G' a_by j = gS G a_by j) : BY G' P := fun j j0 j1 => by
  obtain ⟨⟨a, b⟩, c⟩ := h j j0 j1
  rw [e]
  exact ⟨⟨a, by have := hx.1; omega⟩, fun q => (c q).fx hx hf q b⟩
theorem okS.f {G : LG} {P : Int → Prop} {t : Int} (h : okS G (fun _ => False) t) : okS G P t := h.mono (fun _ q => q.elim)
