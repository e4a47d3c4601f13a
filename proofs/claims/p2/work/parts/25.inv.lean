/-! WHAT HOLDS BETWEEN CALLS: types, expressions, units, nodes, things -/
def TB (G : LG) : Prop := (0 ≤ (gS G 1000 0) ∧ (gS G 1000 0) ≤ 60) ∧ ∀ k : Int, 0 ≤ k → k < (gS G 1000 0) → (0 ≤ (gS G a_tKind (k).toNat) ∧ (gS G a_tKind (k).toNat) ≤ 2) ∧ ((gS G a_tKind (k).toNat) = 2 → 0 ≤ (gS G a_tFirst (k).toNat) ∧ (gS G a_tFirst (k).toNat) ≤ 5) ∧ ((gS G a_tKind (k).toNat) = 1 → 0 ≤ (gS G a_tFirst (k).toNat) ∧ (gS G a_tFirst (k).toNat) < k ∧ 0 ≤ (gS G a_tSecond (k).toNat) ∧ (gS G a_tSecond (k).toNat) < k ∧ (gS G a_tWeight (k).toNat) = 1 + (gS G a_tWeight ((gS G a_tFirst (k).toNat)).toNat) + (gS G a_tWeight ((gS G a_tSecond (k).toNat)).toNat)) ∧ (1 ≤ (gS G a_tWeight (k).toNat) ∧ (gS G a_tWeight (k).toNat) ≤ 12)
def EX (G : LG) : Prop := (0 ≤ (gS G 1000 6) ∧ (gS G 1000 6) ≤ 120) ∧ ∀ k : Int, 0 ≤ k → k < (gS G 1000 6) → (0 ≤ (gS G a_eKind (k).toNat) ∧ (gS G a_eKind (k).toNat) ≤ 6) ∧ ((gS G a_eKind (k).toNat) = 1 → 0 ≤ (gS G a_eFirst (k).toNat) ∧ (gS G a_eFirst (k).toNat) ≤ 9) ∧ (2 ≤ (gS G a_eKind (k).toNat) → 0 ≤ (gS G a_eFirst (k).toNat) ∧ (gS G a_eFirst (k).toNat) < k) ∧ ((gS G a_eKind (k).toNat) = 2 ∨ (gS G a_eKind (k).toNat) = 3 ∨ (gS G a_eKind (k).toNat) = 6 → 0 ≤ (gS G a_eSecond (k).toNat) ∧ (gS G a_eSecond (k).toNat) < k) ∧ ((gS G a_eKind (k).toNat) = 6 → 0 ≤ (gS G a_eThird (k).toNat) ∧ (gS G a_eThird (k).toNat) < k) ∧ (1 ≤ (gS G a_eWeight (k).toNat) ∧ (gS G a_eWeight (k).toNat) ≤ 12) ∧
  ((gS G a_eKind (k).toNat) = 2 ∨ (gS G a_eKind (k).toNat) = 3 → (gS G a_eWeight (k).toNat) = 1 + (gS G a_eWeight ((gS G a_eFirst (k).toNat)).toNat) + (gS G a_eWeight ((gS G a_eSecond (k).toNat)).toNat)) ∧ ((gS G a_eKind (k).toNat) = 4 ∨ (gS G a_eKind (k).toNat) = 5 → (gS G a_eWeight (k).toNat) = 1 + (gS G a_eWeight ((gS G a_eFirst (k).toNat)).toNat)) ∧ ((gS G a_eKind (k).toNat) = 6 → (gS G a_eWeight (k).toNat) = 1 + (gS G a_eWeight ((gS G a_eFirst (k).toNat)).toNat) + (gS G a_eWeight ((gS G a_eSecond (k).toNat)).toNat) + (gS G a_eWeight ((gS G a_eThird (k).toNat)).toNat))
def UV (G : LG) : Prop := (0 ≤ (gS G 1000 12) ∧ (gS G 1000 12) ≤ 8) ∧ (∀ u : Int, 0 ≤ u → u < 8 → 0 ≤ (gS G a_versions (u).toNat) ∧ (gS G a_versions (u).toNat) ≤ 5) ∧ (∀ u : Int, 0 ≤ u → u < (gS G 1000 12) → 1 ≤ (gS G a_versions (u).toNat)) ∧
  (∀ v k : Int, 0 ≤ v → v < 40 → 0 ≤ k → k < 6 → -2 ≤ (gS G a_typeOf (6 * v + k).toNat) ∧ (gS G a_typeOf (6 * v + k).toNat) < (gS G 1000 0)) ∧
  (∀ v k : Int, 0 ≤ v → v < 40 → 0 ≤ k → k < 10 → (-1 ≤ (gS G a_valueType (10 * v + k).toNat) ∧ (gS G a_valueType (10 * v + k).toNat) < (gS G 1000 0)) ∧ (¬ (gS G a_valueType (10 * v + k).toNat) = -1 → (-1 ≤ (gS G a_valueBy (10 * v + k).toNat) ∧ (gS G a_valueBy (10 * v + k).toNat) < (gS G 1000 6)) ∧ 0 ≤ (gS G a_valueFlags (10 * v + k).toNat) ∧ (gS G a_valueFlags (10 * v + k).toNat) ≤ 7))
def ND (G : LG) : Prop := (0 ≤ (gS G 1000 18) ∧ (gS G 1000 18) ≤ 40) ∧ ∀ n : Int, 0 ≤ n → n < (gS G 1000 18) → (0 ≤ (gS G a_nKind (n).toNat) ∧ (gS G a_nKind (n).toNat) ≤ 6) ∧ ((gS G a_nKind (n).toNat) = 0 → 0 ≤ (gS G a_nFirst (n).toNat) ∧ (gS G a_nFirst (n).toNat) < (gS G 1000 12) ∧ -1 ≤ (gS G a_nSecond (n).toNat) ∧ (gS G a_nSecond (n).toNat) < (gS G a_versions ((gS G a_nFirst (n).toNat)).toNat)) ∧ (1 ≤ (gS G a_nKind (n).toNat) → 0 ≤ (gS G a_nFirst (n).toNat) ∧ (gS G a_nFirst (n).toNat) < n) ∧ (1 ≤ (gS G a_nKind (n).toNat) ∧ (gS G a_nKind (n).toNat) ≤ 4 → 0 ≤ (gS G a_nSecond (n).toNat) ∧ (gS G a_nSecond (n).toNat) < n) ∧ ((gS G a_nKind (n).toNat) = 4 → 0 ≤ (gS G a_nThird (n).toNat) ∧ (gS G a_nThird (n).toNat) < n) ∧ (5 ≤ (gS G a_nKind (n).toNat) → 0 ≤ (gS G a_nSecond (n).toNat) ∧ (gS G a_nSecond (n).toNat) ≤ 9) ∧ ((gS G a_nKind (n).toNat) = 5 → 0 ≤ (gS G a_nThird (n).toNat) ∧ (gS G a_nThird (n).toNat) ≤ 9) ∧
  (1 ≤ (gS G a_nWeight (n).toNat) ∧ (gS G a_nWeight (n).toNat) ≤ 24) ∧ (1 ≤ (gS G a_nKind (n).toNat) ∧ (gS G a_nKind (n).toNat) ≤ 3 → (gS G a_nWeight (n).toNat) = 1 + (gS G a_nWeight ((gS G a_nFirst (n).toNat)).toNat) + (gS G a_nWeight ((gS G a_nSecond (n).toNat)).toNat)) ∧ ((gS G a_nKind (n).toNat) = 4 → (gS G a_nWeight (n).toNat) = 1 + (gS G a_nWeight ((gS G a_nFirst (n).toNat)).toNat) + (gS G a_nWeight ((gS G a_nSecond (n).toNat)).toNat) + (gS G a_nWeight ((gS G a_nThird (n).toNat)).toNat)) ∧ (5 ≤ (gS G a_nKind (n).toNat) → (gS G a_nWeight (n).toNat) = 1 + (gS G a_nWeight ((gS G a_nFirst (n).toNat)).toNat)) ∧ ((gS G a_nKind (n).toNat) = 0 → (gS G a_nWeight (n).toNat) = 1)
/-! what nodes are, and which stamps they may show, in a state v of the versions -/
def cur (G : LG) : Int → Int := fun u => if (gS G a_versions (u).toNat) = 0 then 0 else (gS G a_versions (u).toNat) - 1
def verOf (G : LG) (v : Int → Int) (n : Int) : Int := 5 * (gS G a_nFirst (n).toNat) + (if (gS G a_nSecond (n).toNat) = -1 then v ((gS G a_nFirst (n).toNat)) else (gS G a_nSecond (n).toNat))
def key (G : LG) (t k a b c : Int) : Prop := (0 ≤ t ∧ t < (gS G 1000 42)) ∧ (gS G a_thingKind (t).toNat) = k ∧ (gS G a_thingA (t).toNat) = a ∧ (gS G a_thingB (t).toNat) = b ∧ (gS G a_thingC (t).toNat) = c
def selfN (G : LG) (n : Int) : Prop := (gS G a_nKind (n).toNat) = 4 ∨ ¬ (gS G a_isGenerative (n).toNat) = 0
def idF (G : LG) (v : Int → Int) : Nat → Int → Int → Prop
  | 0, _, _ => False
  | d + 1, n, t => ((gS G a_nKind (n).toNat) = 0 ∧ key G t 1 (verOf G v n) 0 0) ∨ (¬ (gS G a_nKind (n).toNat) = 0 ∧ selfN G n ∧ key G t 0 n 0 0) ∨
      (¬ (gS G a_nKind (n).toNat) = 0 ∧ ¬ selfN G n ∧ ∃ a : Int, idF G v d ((gS G a_nFirst (n).toNat)) a ∧ ((5 ≤ (gS G a_nKind (n).toNat) ∧ key G t (2 + (gS G a_nKind (n).toNat)) a ((gS G a_nSecond (n).toNat)) (if (gS G a_nKind (n).toNat) = 5 then (gS G a_nThird (n).toNat) else 0)) ∨ ((gS G a_nKind (n).toNat) < 5 ∧ ∃ b : Int, idF G v d ((gS G a_nSecond (n).toNat)) b ∧ key G t (2 + (gS G a_nKind (n).toNat)) a b 0)))
/-- the thing t is what the node n is -/
def idN (G : LG) (v : Int → Int) (n t : Int) : Prop := ∃ d, idF G v d n t
def skey (G : LG) (v : Int → Int) (n t : Int) : Prop := ∃ k : Int, (0 ≤ k ∧ k < 6) ∧ ((¬ (gS G a_isGenerative (n).toNat) = 0 ∧ key G t 10 n k 0) ∨ ((gS G a_isGenerative (n).toNat) = 0 ∧ ∃ a b : Int, idN G v ((gS G a_nFirst (n).toNat)) a ∧ idN G v ((gS G a_nSecond (n).toNat)) b ∧ key G t 11 a b k))
def akey (G : LG) (v : Int → Int) (n s t : Int) : Prop := (¬ (gS G a_isGenerative (n).toNat) = 0 ∧ key G t 12 n s 0) ∨ ((gS G a_isGenerative (n).toNat) = 0 ∧ ∃ a : Int, idN G v ((gS G a_nSecond (n).toNat)) a ∧ key G t 13 a s 0)
def ckey (G : LG) (n t : Int) : Prop := ∃ k : Int, (0 ≤ k ∧ k < 6) ∧ key G t 10 n k 0
def stF (G : LG) (v : Int → Int) : Nat → Int → Int → Prop
  | 0, _, _ => False
  | d + 1, n, t => ((gS G a_nKind (n).toNat) = 1 ∧ (stF G v d ((gS G a_nFirst (n).toNat)) t ∨ stF G v d ((gS G a_nSecond (n).toNat)) t)) ∨ ((gS G a_nKind (n).toNat) = 2 ∧ (stF G v d ((gS G a_nSecond (n).toNat)) t ∨ skey G v n t)) ∨
      ((gS G a_nKind (n).toNat) = 3 ∧ (stF G v d ((gS G a_nSecond (n).toNat)) t ∨ ∃ s : Int, stF G v d ((gS G a_nFirst (n).toNat)) s ∧ akey G v n s t)) ∨ ((gS G a_nKind (n).toNat) = 4 ∧ (stF G v d ((gS G a_nFirst (n).toNat)) t ∨ stF G v d ((gS G a_nSecond (n).toNat)) t ∨ ckey G n t)) ∨ (5 ≤ (gS G a_nKind (n).toNat) ∧ stF G v d ((gS G a_nFirst (n).toNat)) t)
/-- the thing t may be a stamp in the face of n -/
def stN (G : LG) (v : Int → Int) (n t : Int) : Prop := ∃ d, stF G v d n t
/-- the node n may have made the thing t -/
def mkN (G : LG) (v : Int → Int) (n t : Int) : Prop := idN G v n t ∨ ((gS G a_nKind (n).toNat) = 2 ∧ skey G v n t) ∨ ((gS G a_nKind (n).toNat) = 3 ∧ ∃ s : Int, stN G v ((gS G a_nFirst (n).toNat)) s ∧ akey G v n s t) ∨ ((gS G a_nKind (n).toNat) = 4 ∧ ckey G n t)
def hsh (k a b c : Int) : Int := i_and (k + 17 * a + 257 * b + 4099 * c) 2147483647 % 4096
def Rch (G : LG) : Nat → Int → Int → Prop
  | 0, _, _ => False
  | m + 1, k, t => 0 ≤ k ∧ (k = t ∨ Rch G m ((gS G a_thingNext (k).toNat) - 1) t)
/-- the chains hold all things, each by its hash -/
def CH (G : LG) : Prop := 0 ≤ (gS G 1000 42) ∧ (∀ p : Int, 0 ≤ p → p < 4096 → 0 ≤ (gS G a_thingHead (p).toNat) ∧ (gS G a_thingHead (p).toNat) ≤ (gS G 1000 42)) ∧ (∀ t : Int, 0 ≤ t → t < (gS G 1000 42) → 0 ≤ (gS G a_thingNext (t).toNat) ∧ (gS G a_thingNext (t).toNat) ≤ t) ∧
  ∀ t : Int, 0 ≤ t → t < (gS G 1000 42) → ∃ m, Rch G m ((gS G a_thingHead (hsh ((gS G a_thingKind (t).toNat)) ((gS G a_thingA (t).toNat)) ((gS G a_thingB (t).toNat)) ((gS G a_thingC (t).toNat))).toNat) - 1) t
/-- the states that the versions have had: a chain, the last one is how they are now -/
def HI (G : LG) (Hs : List (Int → Int)) : Prop := (∀ v ∈ Hs, ∀ u, 0 ≤ v u ∧ v u ≤ 4) ∧ (∀ v ∈ Hs, ∀ w ∈ Hs, (∀ u, v u ≤ w u) ∨ (∀ u, w u ≤ v u)) ∧ ∀ v ∈ Hs, ∀ u, 8 ≤ u → v u = 0
def TH (G : LG) (Hs : List (Int → Int)) : Prop := CH G ∧ (∀ t s k a b c : Int, key G t k a b c → key G s k a b c → t = s) ∧ HI G Hs ∧ ND G ∧ ∀ t : Int, 0 ≤ t → t < (gS G 1000 42) → ∃ v ∈ Hs, ∃ n : Int, (0 ≤ n ∧ n < (gS G 1000 18)) ∧ mkN G v n t
abbrev ndA : List Nat := [a_nKind, a_nFirst, a_nSecond, a_nThird, a_nWeight, a_isGenerative, a_versions]
/-- things have come to it, nodes and versions are as they were -/
def TX (G G' : LG) : Prop := (gS G 1000 42) ≤ (gS G' 1000 42) ∧ (gS G' 1000 18) = (gS G 1000 18) ∧ (gS G' 1000 12) = (gS G 1000 12) ∧ (∀ n ∈ ndA, ∀ j, gS G' n j = gS G n j) ∧ ∀ t : Int, 0 ≤ t → t < (gS G 1000 42) → (gS G' a_thingKind (t).toNat) = (gS G a_thingKind (t).toNat) ∧ (gS G' a_thingA (t).toNat) = (gS G a_thingA (t).toNat) ∧ (gS G' a_thingB (t).toNat) = (gS G a_thingB (t).toNat) ∧ (gS G' a_thingC (t).toNat) = (gS G a_thingC (t).toNat)
theorem TX.rf {G : LG} : TX G G := ⟨Int.le_refl _, rfl, rfl, fun _ _ _ => rfl, fun _ _ _ => ⟨rfl, rfl, rfl, rfl⟩⟩
theorem TX.trans {G G1 G2 : LG} (h : TX G G1) (k : TX G1 G2) : TX G G2 := by
  refine ⟨Int.le_trans h.1 k.1, k.2.1.trans h.2.1, k.2.2.1.trans h.2.2.1, fun n hn j => (k.2.2.2.1 n hn j).trans (h.2.2.2.1 n hn j), fun t h0 h1 => ?_⟩
  obtain ⟨a1, a2, a3, a4⟩ := h.2.2.2.2 t h0 h1
  obtain ⟨b1, b2, b3, b4⟩ := k.2.2.2.2 t h0 (Int.lt_of_lt_of_le h1 h.1)
  exact ⟨b1.trans a1, b2.trans a2, b3.trans a3, b4.trans a4⟩
theorem TX.key {G G' : LG} (h : TX G G') {t k a b c : Int} (hk : key G t k a b c) : key G' t k a b c := by
  obtain ⟨⟨h0, h1⟩, e1, e2, e3, e4⟩ := hk
  obtain ⟨b1, b2, b3, b4⟩ := h.2.2.2.2 t h0 h1
  exact ⟨⟨h0, Int.lt_of_lt_of_le h1 h.1⟩, b1.trans e1, b2.trans e2, b3.trans e3, b4.trans e4⟩
theorem TX.nd {G G' : LG} (h : TX G G') {n : Nat} (hn : n ∈ ndA) (j : Nat) : gS G' n j = gS G n j := h.2.2.2.1 n hn j
theorem TX.cur {G G' : LG} (h : TX G G') : cur G' = cur G := by
  funext u
  show (if (gS G' a_versions (u).toNat) = 0 then 0 else (gS G' a_versions (u).toNat) - 1) = _
  rw [h.nd (n := a_versions) (by decide)]
  rfl
theorem TX.idF {G G' : LG} (h : TX G G') {v : Int → Int} : ∀ (d : Nat) (n t : Int), idF G v d n t → idF G' v d n t := by
  intro d
  induction d with
  | zero => intro n t h; exact h
  | succ d ih =>
    intro n t hi
    have e1 := h.nd (n := a_nKind) (by decide) (n).toNat
    have e2 := h.nd (n := a_nFirst) (by decide) (n).toNat
    have e3 := h.nd (n := a_nSecond) (by decide) (n).toNat
    have e4 := h.nd (n := a_nThird) (by decide) (n).toNat
    have e5 := h.nd (n := a_isGenerative) (by decide) (n).toNat
    have ev : verOf G' v n = verOf G v n := by unfold verOf; rw [e2, e3]
    have es : selfN G' n ↔ selfN G n := by unfold selfN; rw [e1, e5]
    simp only [_root_.Jvm.Pilot.CMixinUnitsLaw_law_r3776_235641.idF, e1, e2, e3, e4, ev, es]
    rcases hi with ⟨q1, q2⟩ | ⟨q1, q2, q3⟩ | ⟨q1, q2, a, q3, q4⟩
    · exact Or.inl ⟨q1, h.key q2⟩
    · exact Or.inr (Or.inl ⟨q1, q2, h.key q3⟩)
    · refine Or.inr (Or.inr ⟨q1, q2, a, ih _ _ q3, ?_⟩)
      rcases q4 with ⟨q4, q5⟩ | ⟨q4, b, q5, q6⟩
      · exact Or.inl ⟨q4, h.key q5⟩
      · exact Or.inr ⟨q4, b, ih _ _ q5, h.key q6⟩
theorem TX.idN {G G' : LG} (h : TX G G') {v : Int → Int} {n t : Int} (hi : idN G v n t) : idN G' v n t := hi.elim fun d hd => ⟨d, h.idF d n t hd⟩
theorem TX.skey {G G' : LG} (h : TX G G') {v : Int → Int} {n t : Int} (hi : skey G v n t) : skey G' v n t := by
  obtain ⟨k, hk, q⟩ := hi
  have e2 := h.nd (n := a_nFirst) (by decide) (n).toNat
  have e3 := h.nd (n := a_nSecond) (by decide) (n).toNat
  have e5 := h.nd (n := a_isGenerative) (by decide) (n).toNat
  refine ⟨k, hk, ?_⟩
  rw [e2, e3, e5]
  rcases q with ⟨q1, q2⟩ | ⟨q1, a, b, q2, q3, q4⟩
  · exact Or.inl ⟨q1, h.key q2⟩
  · exact Or.inr ⟨q1, a, b, h.idN q2, h.idN q3, h.key q4⟩
theorem TX.akey {G G' : LG} (h : TX G G') {v : Int → Int} {n s t : Int} (hi : akey G v n s t) : akey G' v n s t := by
  have e3 := h.nd (n := a_nSecond) (by decide) (n).toNat
  have e5 := h.nd (n := a_isGenerative) (by decide) (n).toNat
  unfold _root_.Jvm.Pilot.CMixinUnitsLaw_law_r3776_235641.akey
  rw [e3, e5]
  rcases hi with ⟨q1, q2⟩ | ⟨q1, a, q2, q3⟩
  · exact Or.inl ⟨q1, h.key q2⟩
  · exact Or.inr ⟨q1, a, h.idN q2, h.key q3⟩
theorem TX.ckey {G G' : LG} (h : TX G G') {n t : Int} (hi : ckey G n t) : ckey G' n t := hi.elim fun k hk => ⟨k, hk.1, h.key hk.2⟩
theorem TX.stF {G G' : LG} (h : TX G G') {v : Int → Int} : ∀ (d : Nat) (n t : Int), stF G v d n t → stF G' v d n t := by
  intro d
  induction d with
  | zero => intro n t h; exact h
  | succ d ih =>
    intro n t hi
    have e1 := h.nd (n := a_nKind) (by decide) (n).toNat
    have e2 := h.nd (n := a_nFirst) (by decide) (n).toNat
    have e3 := h.nd (n := a_nSecond) (by decide) (n).toNat
    simp only [_root_.Jvm.Pilot.CMixinUnitsLaw_law_r3776_235641.stF, e1, e2, e3]
    rcases hi with ⟨q1, q2 | q2⟩ | ⟨q1, q2 | q2⟩ | ⟨q1, q2 | ⟨s, q2, q3⟩⟩ | ⟨q1, q2 | q2 | q2⟩ | ⟨q1, q2⟩
    · exact Or.inl ⟨q1, Or.inl (ih _ _ q2)⟩
    · exact Or.inl ⟨q1, Or.inr (ih _ _ q2)⟩
    · exact Or.inr (Or.inl ⟨q1, Or.inl (ih _ _ q2)⟩)
    · exact Or.inr (Or.inl ⟨q1, Or.inr (h.skey q2)⟩)
    · exact Or.inr (Or.inr (Or.inl ⟨q1, Or.inl (ih _ _ q2)⟩))
    · exact Or.inr (Or.inr (Or.inl ⟨q1, Or.inr ⟨s, ih _ _ q2, h.akey q3⟩⟩))
    · exact Or.inr (Or.inr (Or.inr (Or.inl ⟨q1, Or.inl (ih _ _ q2)⟩)))
    · exact Or.inr (Or.inr (Or.inr (Or.inl ⟨q1, Or.inr (Or.inl (ih _ _ q2))⟩)))
    · exact Or.inr (Or.inr (Or.inr (Or.inl ⟨q1, Or.inr (Or.inr (h.ckey q2))⟩)))
    · exact Or.inr (Or.inr (Or.inr (Or.inr ⟨q1, ih _ _ q2⟩)))
theorem TX.stN {G G' : LG} (h : TX G G') {v : Int → Int} {n t : Int} (hi : stN G v n t) : stN G' v n t := hi.elim fun d hd => ⟨d, h.stF d n t hd⟩
theorem TX.mkN {G G' : LG} (h : TX G G') {v : Int → Int} {n t : Int} (hi : mkN G v n t) : mkN G' v n t := by
  have e1 := h.nd (n := a_nKind) (by decide) (n).toNat
  have e2 := h.nd (n := a_nFirst) (by decide) (n).toNat
  unfold _root_.Jvm.Pilot.CMixinUnitsLaw_law_r3776_235641.mkN
  rw [e1, e2]
  rcases hi with q | ⟨q1, q2⟩ | ⟨q1, s, q2, q3⟩ | ⟨q1, q2⟩
  · exact Or.inl (h.idN q)
  · exact Or.inr (Or.inl ⟨q1, h.skey q2⟩)
  · exact Or.inr (Or.inr (Or.inl ⟨q1, s, h.stN q2, h.akey q3⟩))
  · exact Or.inr (Or.inr (Or.inr ⟨q1, h.ckey q2⟩))
