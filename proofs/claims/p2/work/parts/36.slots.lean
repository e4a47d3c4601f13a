/-! SLOTS: faces lie in rows of six types and ten values -/
def SlotFr (s : Int) (G G' : LG) : Prop := (∀ j : Nat, ((j : Int) < 6 * s ∨ 6 * s + 6 ≤ (j : Int)) → gS G' a_sType j = gS G a_sType j) ∧ (∀ j : Nat, ((j : Int) < 10 * s ∨ 10 * s + 10 ≤ (j : Int)) → gS G' a_sValue j = gS G a_sValue j ∧ gS G' a_sFlags j = gS G a_sFlags j ∧ gS G' a_sNumber j = gS G a_sNumber j)
theorem SlotFr.rf {s : Int} {G : LG} : SlotFr s G G := ⟨fun _ _ => rfl, fun _ _ => ⟨rfl, rfl, rfl⟩⟩
theorem SlotFr.trans {s : Int} {G G1 G2 : LG} (h : SlotFr s G G1) (k : SlotFr s G1 G2) : SlotFr s G G2 := ⟨fun j hj => (k.1 j hj).trans (h.1 j hj), fun j hj => ⟨(k.2 j hj).1.trans (h.2 j hj).1, (k.2 j hj).2.1.trans (h.2 j hj).2.1, (k.2 j hj).2.2.trans (h.2 j hj).2.2⟩⟩
theorem SlotFr.agr {s : Int} {G G' : LG} (h : Agr [a_sType, a_sValue, a_sFlags, a_sNumber] [] G G') : SlotFr s G G' := ⟨fun j _ => h.a (by decide) j, fun j _ => ⟨h.a (by decide) j, h.a (by decide) j, h.a (by decide) j⟩⟩
theorem SlotFr.ty {s k v : Int} {G G' : LG} (hk : 0 ≤ k ∧ k < 6) (hs : 0 ≤ s) (e : G' = gset G a_sType (6 * s + k).toNat v) : SlotFr s G G' := by
  refine ⟨fun j hj => ?_, fun j _ => ⟨gsnE e (by decide), gsnE e (by decide), gsnE e (by decide)⟩⟩
  rw [g_upd e, if_neg (by omega)]
theorem SlotFr.va {s k a b c : Int} {G G1 G2 G3 : LG} (hk : 0 ≤ k ∧ k < 10) (hs : 0 ≤ s) (e1 : G1 = gset G a_sValue (10 * s + k).toNat a) (e2 : G2 = gset G1 a_sFlags (10 * s + k).toNat b) (e3 : G3 = gset G2 a_sNumber (10 * s + k).toNat c) : SlotFr s G G3 := by
  refine ⟨fun j _ => by rw [gsnE e3 (by decide), gsnE e2 (by decide), gsnE e1 (by decide)], fun j hj => ⟨?_, ?_, ?_⟩⟩
  · rw [gsnE e3 (by decide), gsnE e2 (by decide), g_upd e1, if_neg (by omega)]
  · rw [gsnE e3 (by decide), g_upd e2, gsnE e1 (by decide), if_neg (by omega)]
  · rw [g_upd e3, gsnE e2 (by decide), gsnE e1 (by decide), if_neg (by omega)]
theorem va3 {i a b c : Int} {G G1 G2 G3 : LG} (e1 : G1 = gset G a_sValue (i).toNat a) (e2 : G2 = gset G1 a_sFlags (i).toNat b) (e3 : G3 = gset G2 a_sNumber (i).toNat c) : (∀ j, gS G3 a_sValue j = if j = (i).toNat then a else gS G a_sValue j) ∧ (∀ j, gS G3 a_sFlags j = if j = (i).toNat then b else gS G a_sFlags j) ∧ (∀ j, gS G3 a_sNumber j = if j = (i).toNat then c else gS G a_sNumber j) ∧ (∀ j, gS G3 a_sType j = gS G a_sType j) :=
  ⟨fun j => by rw [gsnE e3 (by decide), gsnE e2 (by decide), g_upd e1], fun j => by rw [gsnE e3 (by decide), g_upd e2, gsnE e1 (by decide)], fun j => by rw [g_upd e3, gsnE e2 (by decide), gsnE e1 (by decide)], fun j => by rw [gsnE e3 (by decide), gsnE e2 (by decide), gsnE e1 (by decide)]⟩
