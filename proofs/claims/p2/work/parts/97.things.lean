/-! THINGS WHEN UNITS, VERSIONS AND NODES COME: what made them makes them still -/
def TN (G G' : LG) : Prop := (gS G 1000 42) ≤ (gS G' 1000 42) ∧ (∀ x : Int, 0 ≤ x → x < (gS G 1000 18) → (gS G' a_nKind (x).toNat) = (gS G a_nKind (x).toNat) ∧ (gS G' a_nFirst (x).toNat) = (gS G a_nFirst (x).toNat) ∧ (gS G' a_nSecond (x).toNat) = (gS G a_nSecond (x).toNat) ∧ (gS G' a_nThird (x).toNat) = (gS G a_nThird (x).toNat) ∧ (gS G' a_isGenerative (x).toNat) = (gS G a_isGenerative (x).toNat)) ∧
  ∀ t : Int, 0 ≤ t → t < (gS G 1000 42) → (gS G' a_thingKind (t).toNat) = (gS G a_thingKind (t).toNat) ∧ (gS G' a_thingA (t).toNat) = (gS G a_thingA (t).toNat) ∧ (gS G' a_thingB (t).toNat) = (gS G a_thingB (t).toNat) ∧ (gS G' a_thingC (t).toNat) = (gS G a_thingC (t).toNat)
theorem TN.key {G G' : LG} (h : TN G G') {t k a b c : Int} (hk : key G t k a b c) : key G' t k a b c := by
  obtain ⟨⟨h0, h1⟩, e1, e2, e3, e4⟩ := hk
  obtain ⟨b1, b2, b3, b4⟩ := h.2.2 t h0 h1
  exact ⟨⟨h0, Int.lt_of_lt_of_le h1 h.1⟩, b1.trans e1, b2.trans e2, b3.trans e3, b4.trans e4⟩
theorem TN.idF {G G' : LG} (h : TN G G') (hN : ND G) {v : Int → Int} : ∀ (d : Nat) (n t : Int), 0 ≤ n → n < (gS G 1000 18) → idF G v d n t → idF G' v d n t := by
  intro d
  induction d with
  | zero => intro n t _ _ h; exact h
  | succ d ih =>
    intro n t n0 n1 hi
    obtain ⟨e1, e2, e3, e4, e5⟩ := h.2.1 n n0 n1
    obtain ⟨p1, p2, p3, p4, -⟩ := hN.2 n n0 n1
    have ev : verOf G' v n = verOf G v n := by unfold verOf; rw [e2, e3]
    have es : selfN G' n ↔ selfN G n := by unfold selfN; rw [e1, e5]
    simp only [_root_.Jvm.Pilot.CMixinUnitsLaw_law_r3776_235641.idF, e1, e2, e3, e4, ev, es]
    rcases hi with ⟨q1, q2⟩ | ⟨q1, q2, q3⟩ | ⟨q1, q2, a, q3, q4⟩
    · exact Or.inl ⟨q1, h.key q2⟩
    · exact Or.inr (Or.inl ⟨q1, q2, h.key q3⟩)
    · have hp := p3 (by omega)
      refine Or.inr (Or.inr ⟨q1, q2, a, ih _ _ hp.1 (by omega) q3, ?_⟩)
      rcases q4 with ⟨q4, q5⟩ | ⟨q4, b, q5, q6⟩
      · exact Or.inl ⟨q4, h.key q5⟩
      · have hp2 := p4 (by omega)
        exact Or.inr ⟨q4, b, ih _ _ hp2.1 (by omega) q5, h.key q6⟩
theorem TN.idN {G G' : LG} (h : TN G G') (hN : ND G) {v : Int → Int} {n t : Int} (n0 : 0 ≤ n) (n1 : n < (gS G 1000 18)) (hi : idN G v n t) : idN G' v n t := hi.elim fun d hd => ⟨d, h.idF hN d n t n0 n1 hd⟩
theorem TN.skey {G G' : LG} (h : TN G G') (hN : ND G) {v : Int → Int} {n t : Int} (n0 : 0 ≤ n) (n1 : n < (gS G 1000 18)) (hk2 : (gS G a_nKind (n).toNat) = 2) (hi : skey G v n t) : skey G' v n t := by
  obtain ⟨k, hk, q⟩ := hi
  obtain ⟨e1, e2, e3, e4, e5⟩ := h.2.1 n n0 n1
  obtain ⟨p1, p2, p3, p4, -⟩ := hN.2 n n0 n1
  have hp := p3 (by omega)
  have hp2 := p4 (by omega)
  refine ⟨k, hk, ?_⟩
  rw [e2, e3, e5]
  rcases q with ⟨q1, q2⟩ | ⟨q1, a, b, q2, q3, q4⟩
  · exact Or.inl ⟨q1, h.key q2⟩
  · exact Or.inr ⟨q1, a, b, h.idN hN hp.1 (by omega) q2, h.idN hN hp2.1 (by omega) q3, h.key q4⟩
theorem TN.akey {G G' : LG} (h : TN G G') (hN : ND G) {v : Int → Int} {n s t : Int} (n0 : 0 ≤ n) (n1 : n < (gS G 1000 18)) (hk3 : (gS G a_nKind (n).toNat) = 3) (hi : akey G v n s t) : akey G' v n s t := by
  obtain ⟨e1, e2, e3, e4, e5⟩ := h.2.1 n n0 n1
  obtain ⟨p1, p2, p3, p4, -⟩ := hN.2 n n0 n1
  have hp2 := p4 (by omega)
  unfold _root_.Jvm.Pilot.CMixinUnitsLaw_law_r3776_235641.akey
  rw [e3, e5]
  rcases hi with ⟨q1, q2⟩ | ⟨q1, a, q2, q3⟩
  · exact Or.inl ⟨q1, h.key q2⟩
  · exact Or.inr ⟨q1, a, h.idN hN hp2.1 (by omega) q2, h.key q3⟩
theorem TN.ckey {G G' : LG} (h : TN G G') {n t : Int} (hi : ckey G n t) : ckey G' n t := hi.elim fun k hk => ⟨k, hk.1, h.key hk.2⟩
theorem TN.stF {G G' : LG} (h : TN G G') (hN : ND G) {v : Int → Int} : ∀ (d : Nat) (n t : Int), 0 ≤ n → n < (gS G 1000 18) → stF G v d n t → stF G' v d n t := by
  intro d
  induction d with
  | zero => intro n t _ _ h; exact h
  | succ d ih =>
    intro n t n0 n1 hi
    obtain ⟨e1, e2, e3, e4, e5⟩ := h.2.1 n n0 n1
    obtain ⟨p1, p2, p3, p4, -⟩ := hN.2 n n0 n1
    have f1 := fun q t z => ih ((gS G a_nFirst (n).toNat)) t (p3 q).1 (by have := (p3 q).2; omega) z
    have f2 := fun q t z => ih ((gS G a_nSecond (n).toNat)) t (p4 q).1 (by have := (p4 q).2; omega) z
    simp only [_root_.Jvm.Pilot.CMixinUnitsLaw_law_r3776_235641.stF, e1, e2, e3]
    rcases hi with ⟨q1, q2 | q2⟩ | ⟨q1, q2 | q2⟩ | ⟨q1, q2 | ⟨s, q2, q3⟩⟩ | ⟨q1, q2 | q2 | q2⟩ | ⟨q1, q2⟩
    · exact Or.inl ⟨q1, Or.inl (f1 (by omega) _ q2)⟩
    · exact Or.inl ⟨q1, Or.inr (f2 (by omega) _ q2)⟩
    · exact Or.inr (Or.inl ⟨q1, Or.inl (f2 (by omega) _ q2)⟩)
    · exact Or.inr (Or.inl ⟨q1, Or.inr (h.skey hN n0 n1 q1 q2)⟩)
    · exact Or.inr (Or.inr (Or.inl ⟨q1, Or.inl (f2 (by omega) _ q2)⟩))
    · exact Or.inr (Or.inr (Or.inl ⟨q1, Or.inr ⟨s, f1 (by omega) _ q2, h.akey hN n0 n1 q1 q3⟩⟩))
    · exact Or.inr (Or.inr (Or.inr (Or.inl ⟨q1, Or.inl (f1 (by omega) _ q2)⟩)))
    · exact Or.inr (Or.inr (Or.inr (Or.inl ⟨q1, Or.inr (Or.inl (f2 (by omega) _ q2))⟩)))
    · exact Or.inr (Or.inr (Or.inr (Or.inl ⟨q1, Or.inr (Or.inr (h.ckey q2))⟩)))
    · exact Or.inr (Or.inr (Or.inr (Or.inr ⟨q1, f1 (by omega) _ q2⟩)))
theorem TN.stN {G G' : LG} (h : TN G G') (hN : ND G) {v : Int → Int} {n t : Int} (n0 : 0 ≤ n) (n1 : n < (gS G 1000 18)) (hi : stN G v n t) : stN G' v n t := hi.elim fun d hd => ⟨d, h.stF hN d n t n0 n1 hd⟩
theorem TN.mkN {G G' : LG} (h : TN G G') (hN : ND G) {v : Int → Int} {n t : Int} (n0 : 0 ≤ n) (n1 : n < (gS G 1000 18)) (hi : mkN G v n t) : mkN G' v n t := by
  obtain ⟨e1, e2, e3, e4, e5⟩ := h.2.1 n n0 n1
  obtain ⟨p1, p2, p3, p4, -⟩ := hN.2 n n0 n1
  unfold _root_.Jvm.Pilot.CMixinUnitsLaw_law_r3776_235641.mkN
  rw [e1, e2]
  rcases hi with q | ⟨q1, q2⟩ | ⟨q1, s, q2, q3⟩ | ⟨q1, q2⟩
  · exact Or.inl (h.idN hN n0 n1 q)
  · exact Or.inr (Or.inl ⟨q1, h.skey hN n0 n1 q1 q2⟩)
  · have hp := p3 (by omega)
    exact Or.inr (Or.inr (Or.inl ⟨q1, s, h.stN hN hp.1 (by omega) q2, h.akey hN n0 n1 q1 q3⟩))
  · exact Or.inr (Or.inr (Or.inr ⟨q1, h.ckey q2⟩))
abbrev tgA : List Nat := [a_thingKind, a_thingA, a_thingB, a_thingC, a_thingNext, a_thingHead]
theorem TH.tn {G G' : LG} {Hs Hs' : List (Int → Int)} (h : TH G Hs) (hx : TN G G') (ha : Agr tgA [42] G G') (hn : (gS G 1000 18) ≤ (gS G' 1000 18)) (hND' : ND G') (hHI : HI G' Hs') (hs : ∀ v ∈ Hs, v ∈ Hs') : TH G' Hs' := by
  obtain ⟨⟨c0, c1, c2, c3⟩, h2, h3, h4, h5⟩ := h
  have e42 : (gS G' 1000 42) = (gS G 1000 42) := ha.f (by decide)
  have hr : ∀ (m : Nat) (k t : Int), Rch G m k t → Rch G' m k t := by
    intro m
    induction m with
    | zero => intro k t h; exact h
    | succ m ih =>
      intro k t h
      refine ⟨h.1, ?_⟩
      rw [ha.a (n := a_thingNext) (by decide)]
      exact h.2.imp id (ih _ _)
  have hk : ∀ {t k a b c : Int}, key G' t k a b c → key G t k a b c := by
    intro t k a b c ⟨q1, q2, q3, q4, q5⟩
    exact ⟨⟨q1.1, by omega⟩, (ha.a (n := a_thingKind) (by decide) _).symm.trans q2, (ha.a (n := a_thingA) (by decide) _).symm.trans q3, (ha.a (n := a_thingB) (by decide) _).symm.trans q4, (ha.a (n := a_thingC) (by decide) _).symm.trans q5⟩
  refine ⟨⟨by omega, fun p p0 p1 => ?_, fun t t0 t1 => ?_, fun t t0 t1 => ?_⟩, fun t s k a b c q1 q2 => h2 t s k a b c (hk q1) (hk q2), hHI, hND', fun t t0 t1 => ?_⟩
  · rw [ha.a (n := a_thingHead) (by decide), e42]; exact c1 p p0 p1
  · rw [ha.a (n := a_thingNext) (by decide)]; exact c2 t t0 (by omega)
  · rw [ha.a (n := a_thingHead) (by decide), ha.a (n := a_thingKind) (by decide), ha.a (n := a_thingA) (by decide), ha.a (n := a_thingB) (by decide), ha.a (n := a_thingC) (by decide)]
    obtain ⟨m, hm⟩ := c3 t t0 (by omega)
    exact ⟨m, hr _ _ _ hm⟩
  · obtain ⟨v, hv, n, hn2, hm⟩ := h5 t t0 (by omega)
    exact ⟨v, hs v hv, n, ⟨hn2.1, by omega⟩, hx.mkN h4 hn2.1 hn2.2 hm⟩
