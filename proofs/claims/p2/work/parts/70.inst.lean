/-! INSTANCES: elements that are put together lie in trees -/
def RP (G : LG) : Nat → Int → Int → Prop
  | 0, e, r => e = r ∧ (gS G a_above (r).toNat) = r
  | d + 1, e, r => RP G d ((gS G a_above (e).toNat)) r
def Rt (G : LG) (e r : Int) : Prop := ∃ d, RP G d e r
theorem RP.root {G : LG} {e : Int} (h : (gS G a_above (e).toNat) = e) : ∀ (d : Nat) (r : Int), RP G d e r → r = e := by
  intro d
  induction d with
  | zero => intro r q; exact q.1.symm
  | succ d ih => intro r q; exact ih r (by have z : RP G d ((gS G a_above (e).toNat)) r := q; rw [h] at z; exact z)
theorem RP.isr {G : LG} : ∀ (d : Nat) (e r : Int), RP G d e r → (gS G a_above (r).toNat) = r := by
  intro d
  induction d with
  | zero => intro e r q; exact q.2
  | succ d ih => intro e r q; exact ih _ r q
theorem RP.uniq {G : LG} : ∀ (d : Nat) (e r : Int), RP G d e r → ∀ (d2 : Nat) (r2 : Int), RP G d2 e r2 → r = r2 := by
  intro d
  induction d with
  | zero => intro e r q d2 r2 q2; have h : (gS G a_above (e).toNat) = e := (by rw [q.1]; exact q.2); rw [RP.root h d2 r2 q2]; exact q.1.symm
  | succ d ih =>
    intro e r q d2 r2 q2
    cases d2 with
    | zero => have h : (gS G a_above (e).toNat) = e := (by rw [q2.1]; exact q2.2); rw [RP.root h (d + 1) r q]; exact q2.1
    | succ d2 => exact ih _ r q d2 r2 q2
noncomputable def rootV (G : LG) (e : Int) : Int := @dite _ (∃ r, Rt G e r) (Classical.propDecidable _) (fun h => Classical.choose h) (fun _ => e)
theorem rootV.eq {G : LG} {e r : Int} (h : Rt G e r) : rootV G e = r := by
  have h0 : ∃ r, Rt G e r := ⟨r, h⟩
  have h1 : rootV G e = Classical.choose h0 := dif_pos h0
  rw [h1]
  obtain ⟨d, hd⟩ := Classical.choose_spec h0
  obtain ⟨d2, hd2⟩ := h
  exact RP.uniq d e _ hd d2 r hd2
theorem RP.agr {G G' : LG} (ha : ∀ j : Nat, gS G' a_above j = gS G a_above j) : ∀ (d : Nat) (e r : Int), RP G' d e r ↔ RP G d e r := by
  intro d
  induction d with
  | zero => intro e r; show (e = r ∧ (gS G' a_above (r).toNat) = r) ↔ _; rw [ha]; exact Iff.rfl
  | succ d ih => intro e r; show RP G' d ((gS G' a_above (e).toNat)) r ↔ _; rw [ha]; exact ih _ r
theorem Rt.agr {G G' : LG} (ha : ∀ j : Nat, gS G' a_above j = gS G a_above j) {e r : Int} : Rt G' e r ↔ Rt G e r := ⟨fun ⟨d, h⟩ => ⟨d, (RP.agr ha d e r).mp h⟩, fun ⟨d, h⟩ => ⟨d, (RP.agr ha d e r).mpr h⟩⟩
theorem rootV.agr {G G' : LG} (ha : ∀ j : Nat, gS G' a_above j = gS G a_above j) (e : Int) : rootV G' e = rootV G e := by
  by_cases h : ∃ r, Rt G e r
  · obtain ⟨r, hr⟩ := h
    rw [rootV.eq hr, rootV.eq ((Rt.agr ha).mpr hr)]
  · have h2 : ¬ ∃ r, Rt G' e r := fun ⟨r, hr⟩ => h ⟨r, (Rt.agr ha).mp hr⟩
    have e1 : rootV G e = e := dif_neg h
    have e2 : rootV G' e = e := dif_neg h2
    rw [e1, e2]
/-- where the value of a cell's component stands -/
def cAt (G : LG) (c : Int) : Int := 10 * (gS G a_versionAt ((gS G a_cellOf (c).toNat) / 10).toNat) + (gS G a_cellOf (c).toNat) % 10
def exprC (G : LG) (c : Int) : Int := (gS G a_valueBy (10 * (gS G a_versionAt ((gS G a_cellOf (c).toNat) / 10).toNat) + (gS G a_cellOf (c).toNat) % 10).toNat)
/-- so many instances, so many elements -/
def IN (G : LG) (I E : Int) : Prop := (0 ≤ I ∧ I ≤ 24) ∧ (0 ≤ E ∧ E ≤ 10 * I) ∧ (0 ≤ (gS G 1000 67) ∧ (gS G 1000 67) ≤ E) ∧ (∀ i : Int, 0 ≤ i → i < I → 0 ≤ (gS G a_versionAt (i).toNat) ∧ (gS G a_versionAt (i).toNat) < 40) ∧
  (∀ e : Int, 0 ≤ e → e < E → (0 ≤ (gS G a_above (e).toNat) ∧ (gS G a_above (e).toNat) < E) ∧ (∃ r, Rt G e r) ∧ -4 ≤ (gS G a_cellAt (e).toNat) ∧ (gS G a_cellAt (e).toNat) < (gS G 1000 67)) ∧
  ∀ c : Int, 0 ≤ c → c < (gS G 1000 67) → (0 ≤ (gS G a_cellOf (c).toNat) ∧ (gS G a_cellOf (c).toNat) < E) ∧ ¬ (gS G a_valueType (10 * (gS G a_versionAt ((gS G a_cellOf (c).toNat) / 10).toNat) + (gS G a_cellOf (c).toNat) % 10).toNat) = -1 ∧ ¬ (gS G a_valueBy (10 * (gS G a_versionAt ((gS G a_cellOf (c).toNat) / 10).toNat) + (gS G a_cellOf (c).toNat) % 10).toNat) = -1
abbrev inA : List Nat := [a_versionAt, a_above, a_cellAt, a_cellOf, a_valueType, a_valueBy]
theorem IN.agr {G G' : LG} {I E : Int} (h : IN G I E) (ha : Agr inA [67] G G') : IN G' I E := by
  obtain ⟨h1, h2, h3, h4, h5, h6⟩ := h
  unfold IN
  rw [ha.f (j := 67) (by decide)]
  simp only [ha.a (n := a_versionAt) (by decide), ha.a (n := a_above) (by decide), ha.a (n := a_cellAt) (by decide), ha.a (n := a_cellOf) (by decide), ha.a (n := a_valueType) (by decide), ha.a (n := a_valueBy) (by decide), Rt.agr (fun j => ha.a (n := a_above) (by decide) j)]
  exact ⟨h1, h2, h3, h4, h5, h6⟩
theorem IN.rt {G : LG} {I E e : Int} (h : IN G I E) (e0 : 0 ≤ e) (e1 : e < E) : ∃ E : Int, E ≤ 240 ∧ (0 ≤ e ∧ e < E) ∧ (∀ x : Int, 0 ≤ x → x < E → 0 ≤ (gS G a_above (x).toNat) ∧ (gS G a_above (x).toNat) < E) ∧ ∃ q, Rt G e q :=
  ⟨E, by have := h.1; have := h.2.1; omega, ⟨e0, e1⟩, fun x x0 x1 => (h.2.2.2.2.1 x x0 x1).1, (h.2.2.2.2.1 e e0 e1).2.1⟩
theorem RP.rng {G : LG} {E : Int} (h : ∀ x : Int, 0 ≤ x → x < E → 0 ≤ (gS G a_above (x).toNat) ∧ (gS G a_above (x).toNat) < E) : ∀ (d : Nat) (e r : Int), 0 ≤ e → e < E → RP G d e r → 0 ≤ r ∧ r < E := by
  intro d
  induction d with
  | zero => intro e r e0 e1 q; rw [← q.1]; exact ⟨e0, e1⟩
  | succ d ih => intro e r e0 e1 q; exact ih _ r (h e e0 e1).1 (h e e0 e1).2 q
theorem IN.root {G : LG} {I E e : Int} (h : IN G I E) (e0 : 0 ≤ e) (e1 : e < E) : (0 ≤ rootV G e ∧ rootV G e < E) ∧ (gS G a_above (rootV G e).toNat) = rootV G e := by
  obtain ⟨r, hr⟩ := (h.2.2.2.2.1 e e0 e1).2.1
  rw [rootV.eq hr]
  obtain ⟨d, hd⟩ := hr
  exact ⟨RP.rng (fun x x0 x1 => (h.2.2.2.2.1 x x0 x1).1) d e r e0 e1 hd, RP.isr d e r hd⟩
/-- one more element -/
theorem IN.add {G G' : LG} {I E z : Int} (h : IN G I E) (hE : E < 10 * I) (ha : ∀ y : Nat, gS G' a_above y = if y = (E).toNat then E else gS G a_above y) (hc : ∀ y : Nat, gS G' a_cellAt y = if y = (E).toNat then z else gS G a_cellAt y)
    (hv : ∀ y : Nat, gS G' a_versionAt y = gS G a_versionAt y) (ht : ∀ y : Nat, gS G' a_valueType y = gS G a_valueType y) (hb : ∀ y : Nat, gS G' a_valueBy y = gS G a_valueBy y)
    (hcs : ((-4 ≤ z ∧ z < 0) ∧ (gS G' 1000 67) = (gS G 1000 67) ∧ ∀ y : Nat, gS G' a_cellOf y = gS G a_cellOf y) ∨ (z = (gS G 1000 67) ∧ (gS G' 1000 67) = (gS G 1000 67) + 1 ∧ (∀ y : Nat, gS G' a_cellOf y = if y = ((gS G 1000 67)).toNat then E else gS G a_cellOf y) ∧ ¬ (gS G a_valueType (10 * (gS G a_versionAt (E / 10).toNat) + E % 10).toNat) = -1 ∧ ¬ (gS G a_valueBy (10 * (gS G a_versionAt (E / 10).toNat) + E % 10).toNat) = -1)) : IN G' I (E + 1) := by
  obtain ⟨h1, h2, h3, h4, h5, h6⟩ := h
  have hle : (gS G 1000 67) ≤ (gS G' 1000 67) ∧ (gS G' 1000 67) ≤ (gS G 1000 67) + 1 := by rcases hcs with ⟨-, q, -⟩ | ⟨-, q, -⟩ <;> omega
  have hkeep : ∀ (d : Nat) (e r : Int), 0 ≤ e → e < E → RP G d e r → RP G' d e r := by
    intro d
    induction d with
    | zero => intro e r e0 e1 q; exact ⟨q.1, by rw [ha, if_neg (by rw [← q.1]; omega)]; exact q.2⟩
    | succ d ih =>
      intro e r e0 e1 q
      show RP G' d ((gS G' a_above (e).toNat)) r
      rw [ha, if_neg (by omega)]
      exact ih _ r (h5 e e0 e1).1.1 (h5 e e0 e1).1.2 q
  refine ⟨h1, by omega, by omega, fun i i0 i1 => by rw [hv]; exact h4 i i0 i1, fun e e0 e1 => ?_, fun c c0 c1 => ?_⟩
  · by_cases he : e = E
    · subst he
      rw [ha, hc, if_pos rfl, if_pos rfl]
      refine ⟨by omega, ⟨e, 0, rfl, by rw [ha, if_pos rfl]⟩, ?_⟩
      rcases hcs with ⟨q, q2, -⟩ | ⟨q, q2, -⟩ <;> omega
    · obtain ⟨a1, ⟨r, d, hd⟩, a3, a4⟩ := h5 e e0 (by omega)
      rw [ha, hc, if_neg (by omega), if_neg (by omega)]
      exact ⟨by omega, ⟨r, d, hkeep d e r e0 (by omega) hd⟩, a3, by omega⟩
  · rcases hcs with ⟨q, q2, q3⟩ | ⟨q, q2, q3, q4, q5⟩
    · obtain ⟨a1, a2, a3⟩ := h6 c c0 (by omega)
      rw [q3, hv, ht, hb]
      exact ⟨by omega, a2, a3⟩
    · by_cases hcc : c = (gS G 1000 67)
      · rw [q3, if_pos (by rw [hcc]), hv, ht, hb]
        exact ⟨by omega, q4, q5⟩
      · obtain ⟨a1, a2, a3⟩ := h6 c c0 (by omega)
        rw [q3, if_neg (by omega), hv, ht, hb]
        exact ⟨by omega, a2, a3⟩
/-- a root is put below another one -/
theorem IN.link {G G' : LG} {I E a b : Int} (h : IN G I E) (ha : 0 ≤ a ∧ a < E) (hb : 0 ≤ b ∧ b < E) (ra : (gS G a_above (a).toNat) = a) (rb : (gS G a_above (b).toNat) = b) (e : G' = gset G a_above (a).toNat b) : IN G' I E := by
  have hf : Fr [a_above] [] G G' := Fr.setA Fr.rf e (by decide)
  obtain ⟨h1, h2, h3, h4, h5, h6⟩ := h
  have hu := g_upd e
  have e89 : (gS G' 1000 67) = (gS G 1000 67) := hf.atF (by decide) (by decide)
  have hroot : ∀ (d : Nat) (x r : Int), 0 ≤ x → x < E → RP G d x r → ∃ r2, Rt G' x r2 := by
    intro d
    induction d with
    | zero =>
      intro x r x0 x1 q
      obtain ⟨q1, q2⟩ := q
      subst q1
      by_cases hx : x = a
      · subst hx
        by_cases hab : x = b
        · exact ⟨x, 0, rfl, by rw [hu, if_pos rfl]; exact hab.symm⟩
        · exact ⟨b, 1, (by show (gS G' a_above (x).toNat) = b; rw [hu, if_pos rfl]), by rw [hu, if_neg (by omega)]; exact rb⟩
      · exact ⟨x, 0, rfl, by rw [hu, if_neg (by omega)]; exact q2⟩
    | succ d ih =>
      intro x r x0 x1 q
      by_cases hx : x = a
      · subst hx
        by_cases hab : x = b
        · exact ⟨x, 0, rfl, by rw [hu, if_pos rfl]; exact hab.symm⟩
        · exact ⟨b, 1, (by show (gS G' a_above (x).toNat) = b; rw [hu, if_pos rfl]), by rw [hu, if_neg (by omega)]; exact rb⟩
      · obtain ⟨r2, d2, hd2⟩ := ih _ r (h5 x x0 x1).1.1 (h5 x x0 x1).1.2 q
        exact ⟨r2, d2 + 1, (by show RP G' d2 ((gS G' a_above (x).toNat)) r2; rw [hu, if_neg (by omega)]; exact hd2)⟩
  unfold IN
  rw [e89]
  simp only [hf.atA (n := a_versionAt) (by decide) (by decide), hf.atA (n := a_cellAt) (by decide) (by decide), hf.atA (n := a_cellOf) (by decide) (by decide), hf.atA (n := a_valueType) (by decide) (by decide), hf.atA (n := a_valueBy) (by decide) (by decide)]
  refine ⟨h1, h2, h3, h4, fun x x0 x1 => ?_, h6⟩
  obtain ⟨a1, ⟨r, d, hd⟩, a3⟩ := h5 x x0 x1
  refine ⟨?_, hroot d x r x0 x1 hd, a3⟩
  rw [hu]
  split
  · exact hb
  · exact a1
/-- the table t fits the node n: what n shows has an element -/
def TGd (G : LG) (t n E : Int) : Prop := ∀ k : Int, 0 ≤ k → k < 10 → (-1 ≤ (gS G a_table (10 * t + k).toNat) ∧ (gS G a_table (10 * t + k).toNat) < E) ∧ (¬ (gS G a_sValue (10 * n + k).toNat) = -1 → 0 ≤ (gS G a_table (10 * t + k).toNat))
theorem IN.ver {G G' : LG} {I : Int} (h : IN G I (10 * I)) (f : Fr [a_versionAt] [] G G') (hv : 0 ≤ (gS G' a_versionAt (I).toNat) ∧ (gS G' a_versionAt (I).toNat) < 40) (hn : ∀ y : Nat, y ≠ (I).toNat → gS G' a_versionAt y = gS G a_versionAt y) (hI : I < 24) : IN G' (I + 1) (10 * I) := by
  obtain ⟨h1, h2, h3, h4, h5, h6⟩ := h
  unfold IN
  rw [f.atF (j := 67) (by decide) (by decide)]
  simp only [f.atA (n := a_above) (by decide) (by decide), f.atA (n := a_cellAt) (by decide) (by decide), f.atA (n := a_cellOf) (by decide) (by decide), f.atA (n := a_valueType) (by decide) (by decide), f.atA (n := a_valueBy) (by decide) (by decide), Rt.agr (fun j => f.atA (n := a_above) (by decide) (by decide))]
  refine ⟨by omega, by omega, h3, fun i i0 i1 => ?_, h5, fun c c0 c1 => ?_⟩
  · by_cases hi : i = I
    · rw [hi]; exact hv
    · rw [hn _ (by omega)]; exact h4 i i0 (by omega)
  · obtain ⟨a1, a2, a3⟩ := h6 c c0 c1
    rw [hn _ (by omega)]
    exact ⟨a1, a2, a3⟩
