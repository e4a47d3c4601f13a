/-! APPLY: each stamp of the functor becomes another one; rows beside the nodes' -/
/-- a type of a row: none (below 0), or in full, with at most 200 parts and stamps of P -/
def GT (G : LG) (P : Int → Prop) (lo t : Int) : Prop := (lo ≤ t ∧ t < (gS G 1000 26)) ∧ (0 ≤ t → (gS G a_fSize (t).toNat) ≤ 200 ∧ okS G P t)
theorem GT.fx {G G' : LG} {P : Int → Prop} {lo t : Int} (h : GT G P lo t) (hx : FX G G') (hf : FU G) : GT G' P lo t := by
  obtain ⟨⟨a, b⟩, c⟩ := h
  refine ⟨⟨a, by have := hx.1; omega⟩, fun q => ⟨?_, (c q).2.fx hx hf q b⟩⟩
  rw [(hx.2 _ q b).2.2.2]
  exact (c q).1
theorem GT.mono {G : LG} {P Q : Int → Prop} {lo t : Int} (h : GT G P lo t) (hPQ : ∀ x, P x → Q x) : GT G Q lo t := ⟨h.1, fun q => ⟨(h.2 q).1, (h.2 q).2.mono hPQ⟩⟩
theorem GT.none {G : LG} {P : Int → Prop} {lo t : Int} (hf : FU G) (h : lo ≤ t) (h2 : t < 0) : GT G P lo t := ⟨⟨h, by have := hf.f; omega⟩, fun q => by omega⟩
/-- the rows of the nodes are as they were -/
def RowsEq (G G' : LG) : Prop := (∀ j : Nat, j < 240 → gS G' a_sType j = gS G a_sType j) ∧ (∀ j : Nat, j < 400 → gS G' a_sValue j = gS G a_sValue j ∧ gS G' a_sFlags j = gS G a_sFlags j ∧ gS G' a_sNumber j = gS G a_sNumber j)
theorem RowsEq.rf {G : LG} : RowsEq G G := ⟨fun _ _ => rfl, fun _ _ => ⟨rfl, rfl, rfl⟩⟩
theorem RowsEq.trans {G G1 G2 : LG} (h : RowsEq G G1) (k : RowsEq G1 G2) : RowsEq G G2 := ⟨fun j hj => (k.1 j hj).trans (h.1 j hj), fun j hj => ⟨(k.2 j hj).1.trans (h.2 j hj).1, (k.2 j hj).2.1.trans (h.2 j hj).2.1, (k.2 j hj).2.2.trans (h.2 j hj).2.2⟩⟩
theorem RowsEq.agr {G G' : LG} (h : Agr [a_sType, a_sValue, a_sFlags, a_sNumber] [] G G') : RowsEq G G' := ⟨fun j _ => h.a (by decide) j, fun j _ => ⟨h.a (by decide) j, h.a (by decide) j, h.a (by decide) j⟩⟩
theorem RowsEq.slot {G G' : LG} {s : Int} (h : SlotFr s G G') (hs : 40 ≤ s) : RowsEq G G' := ⟨fun j hj => h.1 j (by omega), fun j hj => h.2 j (by omega)⟩
theorem RowsEq.ty {G G' : LG} {i v : Int} (e : G' = gset G a_sType (i).toNat v) (hi : 240 ≤ i) : RowsEq G G' := ⟨fun j hj => by rw [g_upd e, if_neg (by omega)], fun j _ => ⟨gsnE e (by decide), gsnE e (by decide), gsnE e (by decide)⟩⟩
theorem RowsEq.va {G G' : LG} {i v : Int} (e : G' = gset G a_sValue (i).toNat v) (hi : 400 ≤ i) : RowsEq G G' := ⟨fun j _ => gsnE e (by decide), fun j hj => ⟨by rw [g_upd e, if_neg (by omega)], gsnE e (by decide), gsnE e (by decide)⟩⟩
theorem RowsEq.rt {G G' : LG} (h : RowsEq G G') {b : Int} (hb : 0 ≤ b ∧ b < 40) (j : Int) (j0 : 0 ≤ j) (j1 : j < 6) : (gS G' a_sType (6 * b + j).toNat) = (gS G a_sType (6 * b + j).toNat) := h.1 _ (by omega)
theorem RowsEq.rv {G G' : LG} (h : RowsEq G G') {b : Int} (hb : 0 ≤ b ∧ b < 40) (j : Int) (j0 : 0 ≤ j) (j1 : j < 10) : (gS G' a_sValue (10 * b + j).toNat) = (gS G a_sValue (10 * b + j).toNat) ∧ (gS G' a_sFlags (10 * b + j).toNat) = (gS G a_sFlags (10 * b + j).toNat) ∧ (gS G' a_sNumber (10 * b + j).toNat) = (gS G a_sNumber (10 * b + j).toNat) := h.2 _ (by omega)
/-- the rows of the other nodes are as they were -/
def SlotFa (s : Int) (G G' : LG) : Prop := (∀ j : Nat, j < 240 → ((j : Int) < 6 * s ∨ 6 * s + 6 ≤ (j : Int)) → gS G' a_sType j = gS G a_sType j) ∧ (∀ j : Nat, j < 400 → ((j : Int) < 10 * s ∨ 10 * s + 10 ≤ (j : Int)) → gS G' a_sValue j = gS G a_sValue j ∧ gS G' a_sFlags j = gS G a_sFlags j ∧ gS G' a_sNumber j = gS G a_sNumber j)
theorem SlotFr.fa {s : Int} {G G' : LG} (h : SlotFr s G G') : SlotFa s G G' := ⟨fun j _ hj => h.1 j hj, fun j _ hj => h.2 j hj⟩
theorem RowsEq.fa {s : Int} {G G' : LG} (h : RowsEq G G') : SlotFa s G G' := ⟨fun j hj _ => h.1 j hj, fun j hj _ => h.2 j hj⟩
theorem SlotFa.trans {s : Int} {G G1 G2 : LG} (h : SlotFa s G G1) (k : SlotFa s G1 G2) : SlotFa s G G2 := ⟨fun j h1 hj => (k.1 j h1 hj).trans (h.1 j h1 hj), fun j h1 hj => ⟨(k.2 j h1 hj).1.trans (h.2 j h1 hj).1, (k.2 j h1 hj).2.1.trans (h.2 j h1 hj).2.1, (k.2 j h1 hj).2.2.trans (h.2 j h1 hj).2.2⟩⟩
theorem SlotFa.rt {G G' : LG} {s b : Int} (h : SlotFa s G G') (hb : 0 ≤ b ∧ b < 40) (hne : ¬ b = s) (j : Int) (j0 : 0 ≤ j) (j1 : j < 6) : (gS G' a_sType (6 * b + j).toNat) = (gS G a_sType (6 * b + j).toNat) := h.1 _ (by omega) (by omega)
theorem SlotFa.rv {G G' : LG} {s b : Int} (h : SlotFa s G G') (hb : 0 ≤ b ∧ b < 40) (hne : ¬ b = s) (j : Int) (j0 : 0 ≤ j) (j1 : j < 10) : (gS G' a_sValue (10 * b + j).toNat) = (gS G a_sValue (10 * b + j).toNat) ∧ (gS G' a_sFlags (10 * b + j).toNat) = (gS G a_sFlags (10 * b + j).toNat) ∧ (gS G' a_sNumber (10 * b + j).toNat) = (gS G a_sNumber (10 * b + j).toNat) := h.2 _ (by omega) (by omega)
/-- the stamps that the APPLY n makes: of kind and origin so, so -/
def SKO (G : LG) (v : Int → Int) (n sk so : Int) : Prop := (¬ (gS G a_isGenerative (n).toNat) = 0 ∧ sk = 12 ∧ so = n) ∨ ((gS G a_isGenerative (n).toNat) = 0 ∧ sk = 13 ∧ idN G v ((gS G a_nSecond (n).toNat)) so)
theorem SKO.ak {G G1 : LG} {v : Int → Int} {n sk so s t : Int} (h : SKO G v n sk so) (hx : TX G G1) (hk : key G1 t sk so s 0) : akey G1 v n s t := by
  have e1 := hx.nd (n := a_isGenerative) (by decide) (n).toNat
  have e2 := hx.nd (n := a_nSecond) (by decide) (n).toNat
  rcases h with ⟨q1, q2, q3⟩ | ⟨q1, q2, q3⟩
  · subst q2; subst q3
    exact Or.inl ⟨by rw [e1]; exact q1, hk⟩
  · subst q2
    exact Or.inr ⟨by rw [e1]; exact q1, so, by rw [e2]; exact hx.idN q3, hk⟩
theorem SKO.st {G G1 : LG} {v : Int → Int} {n a sk so s t : Int} (h : SKO G v n sk so) (hx : TX G G1) (hkd : (gS G a_nKind (n).toNat) = 3) (ha : a = (gS G a_nFirst (n).toNat)) (hs : stN G v a s) (hk : key G1 t sk so s 0) : stN G1 v n t := by
  have e0 := hx.nd (n := a_nKind) (by decide) (n).toNat
  have e1 := hx.nd (n := a_nFirst) (by decide) (n).toNat
  exact stN.ak (by rw [e0]; exact hkd) (by rw [e1, ← ha]; exact hx.stN hs) (h.ak hx hk)
theorem SKO.may {G G1 : LG} {v : Int → Int} {n a sk so : Int} (h : SKO G v n sk so) (hx : TX G G1) (hn : 0 ≤ n ∧ n < (gS G 1000 18)) (hkd : (gS G a_nKind (n).toNat) = 3) (ha : a = (gS G a_nFirst (n).toNat)) (e1 : (gS G1 1000 40) = sk) (e2 : (gS G1 1000 41) = so) : mayA G1 v (stN G v a) := by
  intro s hs G' hG t ht
  rw [e1, e2] at ht
  have hy := hx.trans hG
  have e0 := hy.nd (n := a_nKind) (by decide) (n).toNat
  have e3 := hy.nd (n := a_nFirst) (by decide) (n).toNat
  exact ⟨n, ⟨hn.1, by rw [hy.2.1]; exact hn.2⟩, Or.inr (Or.inr (Or.inl ⟨by rw [e0]; exact hkd, s, by rw [e3, ← ha]; exact hy.stN hs, h.ak hy ht⟩))⟩
abbrev nAp : List Nat := [a_sType, a_sValue, a_sFlags, a_sNumber, a_fKind, a_fA, a_fB, a_fSize, a_fNext, a_fHead, a_fMark, a_thingKind, a_thingA, a_thingB, a_thingC, a_thingNext, a_thingHead, a_stackOf, a_fMemo]
abbrev jAp : List Nat := [26, 42, 35, 36, 40, 41]
