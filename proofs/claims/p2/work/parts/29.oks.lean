/-! STAMPS IN FULL TYPES; what one part of a type becomes -/
def okF (G : LG) (P : Int → Prop) : Nat → Int → Prop
  | 0, _ => True
  | d + 1, t => ((gS G a_fKind (t).toNat) = 2 → P ((gS G a_fA (t).toNat))) ∧ ((gS G a_fKind (t).toNat) = 3 → okF G P d ((gS G a_fA (t).toNat)) ∧ okF G P d ((gS G a_fB (t).toNat)))
/-- all stamps in the full type t are of P -/
def okS (G : LG) (P : Int → Prop) (t : Int) : Prop := ∀ d, okF G P d t
theorem okS.leaf {G : LG} {P : Int → Prop} {t : Int} (h3 : ¬ (gS G a_fKind (t).toNat) = 3) (h2 : (gS G a_fKind (t).toNat) = 2 → P ((gS G a_fA (t).toNat))) : okS G P t := fun d => match d with
  | 0 => trivial
  | _ + 1 => ⟨h2, fun q => absurd q h3⟩
theorem okS.pair {G : LG} {P : Int → Prop} {t : Int} (h3 : (gS G a_fKind (t).toNat) = 3) (ha : okS G P ((gS G a_fA (t).toNat))) (hb : okS G P ((gS G a_fB (t).toNat))) : okS G P t := fun d => match d with
  | 0 => trivial
  | d + 1 => ⟨fun q => by omega, fun _ => ⟨ha d, hb d⟩⟩
theorem okS.a {G : LG} {P : Int → Prop} {t : Int} (h : okS G P t) (h3 : (gS G a_fKind (t).toNat) = 3) : okS G P ((gS G a_fA (t).toNat)) := fun d => ((h (d + 1)).2 h3).1
theorem okS.b {G : LG} {P : Int → Prop} {t : Int} (h : okS G P t) (h3 : (gS G a_fKind (t).toNat) = 3) : okS G P ((gS G a_fB (t).toNat)) := fun d => ((h (d + 1)).2 h3).2
theorem okS.s {G : LG} {P : Int → Prop} {t : Int} (h : okS G P t) (h2 : (gS G a_fKind (t).toNat) = 2) : P ((gS G a_fA (t).toNat)) := (h 1).1 h2
theorem okS.mono {G : LG} {P Q : Int → Prop} {t : Int} (h : okS G P t) (hPQ : ∀ x, P x → Q x) : okS G Q t := fun d => by
  have key : ∀ (d : Nat) (t : Int), okF G P d t → okF G Q d t := by
    intro d
    induction d with
    | zero => intro _ _; trivial
    | succ d ih => intro t h; exact ⟨fun q => hPQ _ (h.1 q), fun q => ⟨ih _ (h.2 q).1, ih _ (h.2 q).2⟩⟩
  exact key d t (h d)
theorem okS.fx {G G' : LG} {P : Int → Prop} {t : Int} (h : okS G P t) (hx : FX G G') (hf : FU G) (h0 : 0 ≤ t) (h1 : t < (gS G 1000 26)) : okS G' P t := fun d => by
  have key : ∀ (d : Nat) (t : Int), 0 ≤ t → t < (gS G 1000 26) → okF G P d t → okF G' P d t := by
    intro d
    induction d with
    | zero => intro _ _ _ _; trivial
    | succ d ih =>
      intro t h0 h1 h
      obtain ⟨e1, e2, e3, e4⟩ := hx.2 t h0 h1
      refine ⟨fun q => by rw [e2]; exact h.1 (by omega), fun q => ?_⟩
      have hq : (gS G a_fKind (t).toNat) = 3 := by omega
      obtain ⟨a0, a1, b0, b1⟩ := (hf.2.2.2.2 t h0 h1).2.2.2.1 hq
      rw [e2, e3]
      exact ⟨ih _ a0 (by omega) (h.2 hq).1, ih _ b0 (by omega) (h.2 hq).2⟩
  exact key d t h0 h1 (h d)
abbrev tabA : List Nat := [a_fKind, a_fA, a_fB, a_fSize, a_fNext, a_fHead, a_fMark]
theorem FU.agr {G G' : LG} (h : FU G) (ha : Agr tabA [26, 35] G G') (ht : (gS G 1000 42) ≤ (gS G' 1000 42)) : FU G' := by
  obtain ⟨h1, h2, h3, h4, h5⟩ := h
  unfold FU
  simp only [ha.f (j := 26) (by decide), ha.f (j := 35) (by decide), ha.a (n := a_fKind) (by decide), ha.a (n := a_fA) (by decide), ha.a (n := a_fB) (by decide), ha.a (n := a_fSize) (by decide), ha.a (n := a_fNext) (by decide), ha.a (n := a_fHead) (by decide), ha.a (n := a_fMark) (by decide)]
  refine ⟨h1, h2, by omega, h4, fun k k0 k1 => ?_⟩
  obtain ⟨x1, x2, x3, x4⟩ := h5 k k0 k1
  exact ⟨x1, x2, fun q => by have := x3 q; omega, x4⟩
theorem FX.agr {G G' : LG} (ha : Agr tabA [26, 35] G G') : FX G G' := ⟨by rw [ha.f (j := 26) (by decide)]; exact Int.le_refl _, fun k _ _ => ⟨ha.a (n := a_fKind) (by decide) _, ha.a (n := a_fA) (by decide) _, ha.a (n := a_fB) (by decide) _, ha.a (n := a_fSize) (by decide) _⟩⟩
abbrev thA : List Nat := [a_thingKind, a_thingA, a_thingB, a_thingC, a_thingNext, a_thingHead, a_nKind, a_nFirst, a_nSecond, a_nThird, a_nWeight, a_isGenerative, a_versions]
abbrev thJ : List Nat := [42, 18, 12]
theorem TX.agr {G G' : LG} (ha : Agr thA thJ G G') : TX G G' := by
  refine ⟨by rw [ha.f (j := 42) (by decide)]; exact Int.le_refl _, ha.f (by decide), ha.f (by decide), fun n hn j => ha.a (by revert n; decide) j, fun t _ _ => ⟨ha.a (n := a_thingKind) (by decide) _, ha.a (n := a_thingA) (by decide) _, ha.a (n := a_thingB) (by decide) _, ha.a (n := a_thingC) (by decide) _⟩⟩
theorem TH.agr {G G' : LG} {Hs : List (Int → Int)} (h : TH G Hs) (ha : Agr thA thJ G G') : TH G' Hs := by
  have hx := TX.agr ha
  have hb : Agr thA thJ G' G := fun n j q => (ha n j q).symm
  have hy := TX.agr hb
  obtain ⟨⟨c0, c1, c2, c3⟩, h2, h3, h4, h5⟩ := h
  have e42 : (gS G' 1000 42) = (gS G 1000 42) := ha.f (by decide)
  have e18 : (gS G' 1000 18) = (gS G 1000 18) := ha.f (by decide)
  have e12 : (gS G' 1000 12) = (gS G 1000 12) := ha.f (by decide)
  have hr : ∀ (m : Nat) (k t : Int), Rch G m k t → Rch G' m k t := by
    intro m
    induction m with
    | zero => intro k t h; exact h
    | succ m ih =>
      intro k t h
      refine ⟨h.1, ?_⟩
      rw [ha.a (n := a_thingNext) (by decide)]
      exact h.2.imp id (ih _ _)
  refine ⟨⟨by omega, fun p p0 p1 => ?_, fun t t0 t1 => ?_, fun t t0 t1 => ?_⟩, fun t s k a b c q1 q2 => h2 t s k a b c (hy.key q1) (hy.key q2), h3, ?_, fun t t0 t1 => ?_⟩
  · rw [ha.a (n := a_thingHead) (by decide), e42]; exact c1 p p0 p1
  · rw [ha.a (n := a_thingNext) (by decide)]; exact c2 t t0 (by omega)
  · rw [ha.a (n := a_thingHead) (by decide), ha.a (n := a_thingKind) (by decide), ha.a (n := a_thingA) (by decide), ha.a (n := a_thingB) (by decide), ha.a (n := a_thingC) (by decide)]
    obtain ⟨m, hm⟩ := c3 t t0 (by omega)
    exact ⟨m, hr _ _ _ hm⟩
  · unfold ND
    rw [e18, e12]
    simp only [ha.a (n := a_nKind) (by decide), ha.a (n := a_nFirst) (by decide), ha.a (n := a_nSecond) (by decide), ha.a (n := a_nThird) (by decide), ha.a (n := a_nWeight) (by decide), ha.a (n := a_versions) (by decide)]
    exact h4
  · obtain ⟨w, hw, n, hn, hm⟩ := h5 t t0 (by omega)
    exact ⟨w, hw, n, by omega, hx.mkN hm⟩
/-- what may be made of a stamp by the APPLY that is under way -/
def mayA (G : LG) (v : Int → Int) (P : Int → Prop) : Prop := ∀ s, P s → ∀ G' : LG, TX G G' → ∀ t, key G' t ((gS G 1000 40)) ((gS G 1000 41)) s 0 → ∃ n : Int, (0 ≤ n ∧ n < (gS G' 1000 18)) ∧ mkN G' v n t
def PO (G G' : LG) (Hs : List (Int → Int)) (P : Int → Prop) (way its r : Int) : Prop :=
  FU G' ∧ FX G G' ∧ TH G' Hs ∧ TX G G' ∧ (∀ j : Int, 0 ≤ j → j < (gS G 1000 26) → (gS G' a_fMark (j).toNat) = (gS G a_fMark (j).toNat)) ∧ (-1 ≤ r ∧ r < (gS G' 1000 26)) ∧ (gS G' 1000 26) ≤ (gS G 1000 26) + 1 ∧ (r = -1 → (gS G a_fKind (its).toNat) = 3 ∧ (gS G' 1000 26) = (gS G 1000 26)) ∧ (way = 0 → (gS G' 1000 26) = (gS G 1000 26)) ∧
  (¬ r = -1 → (way = 0 → ∀ P0 : Int → Prop, okS G P0 its → (∀ k : Int, 0 ≤ k → k < 6 → 0 ≤ (gS G a_by (k).toNat) → okS G P0 ((gS G a_by (k).toNat))) → okS G' P0 r) ∧ (way = 1 → okS G' (fun t => ∃ s, P s ∧ key G' t ((gS G 1000 40)) ((gS G 1000 41)) s 0) r) ∧
    (way = 2 → ∀ P0 : Int → Prop, okS G P0 its → (∀ k : Int, 0 ≤ k → k < 6 → 0 ≤ (gS G a_by (k).toNat) → P0 ((gS G a_byStamp (k).toNat))) → okS G' P0 r) ∧ ((way = 0 → ∀ k : Int, 0 ≤ k → k < 6 → 0 ≤ (gS G a_by (k).toNat) → (gS G a_fSize ((gS G a_by (k).toNat)).toNat) = 1) → (gS G' a_fSize (r).toNat) ≤ (gS G a_fSize (its).toNat)))
theorem PO.none {G : LG} {Hs : List (Int → Int)} {P : Int → Prop} {way its : Int} (hF : FU G) (hT : TH G Hs) (h3 : (gS G a_fKind (its).toNat) = 3) : PO G G Hs P way its (-1) :=
  ⟨hF, FX.rf, hT, TX.rf, fun _ _ _ => rfl, ⟨by omega, by have := hF.1; omega⟩, by omega, fun _ => ⟨h3, rfl⟩, fun _ => rfl, fun q => absurd rfl q⟩
theorem PO.its {G : LG} {Hs : List (Int → Int)} {P : Int → Prop} {way its : Int} (hF : FU G) (hT : TH G Hs) (h0 : 0 ≤ its ∧ its < (gS G 1000 26)) (h3 : ¬ (gS G a_fKind (its).toNat) = 3) (h2 : way = 1 → ¬ (gS G a_fKind (its).toNat) = 2) : PO G G Hs P way its its :=
  ⟨hF, FX.rf, hT, TX.rf, fun _ _ _ => rfl, ⟨by omega, h0.2⟩, by omega, fun q => by omega, fun _ => rfl, fun _ => ⟨fun _ P0 h _ => h, fun q => okS.leaf h3 (fun z => absurd z (h2 q)), fun _ P0 h _ => h, fun _ => Int.le_refl _⟩⟩
theorem PO.by {G : LG} {Hs : List (Int → Int)} {P : Int → Prop} {way its k : Int} (hF : FU G) (hT : TH G Hs) (hw : way = 0) (hk : 0 ≤ k ∧ k < 6) (hb : 0 ≤ (gS G a_by (k).toNat) ∧ (gS G a_by (k).toNat) < (gS G 1000 26)) (hi : 0 ≤ its ∧ its < (gS G 1000 26)) : PO G G Hs P way its ((gS G a_by (k).toNat)) :=
  ⟨hF, FX.rf, hT, TX.rf, fun _ _ _ => rfl, ⟨by omega, hb.2⟩, by omega, fun q => by omega, fun _ => rfl, fun _ => ⟨fun _ P0 _ h => h k hk.1 hk.2 hb.1, fun q => by omega, fun q => by omega, fun q => by rw [q hw k hk.1 hk.2 hb.1]; exact (hF.2.2.2.2 its hi.1 hi.2).2.2.2.2.1.1⟩⟩
theorem PO.stamp {G G1 G2 : LG} {Hs : List (Int → Int)} {P : Int → Prop} {way its r1 r : Int} (hF : FU G) (hw : way = 1) (hi : 0 ≤ its ∧ its < (gS G 1000 26)) (hst : okS G P its) (h2 : (gS G a_fKind (its).toNat) = 2) (hf1 : Fr nX12_stamp jX12_stamp G G1) (hp1 : TH G1 Hs ∧ TX G G1 ∧ key G1 r1 ((gS G 1000 40)) ((gS G 1000 41)) ((gS G a_fA (its).toNat)) 0 ∧ (gS G1 1000 42) ≤ (gS G 1000 42) + 1)
    (hf2 : Fr nX12_full jX12_full G1 G2) (hp2 : FU G2 ∧ (0 ≤ r ∧ r < (gS G2 1000 26) ∧ (gS G2 1000 26) ≤ (gS G1 1000 26) + 1) ∧ FX G1 G2 ∧ (∀ j : Int, 0 ≤ j → j < (gS G1 1000 26) → (gS G2 a_fMark (j).toNat) = (gS G1 a_fMark (j).toNat)) ∧ (gS G2 a_fKind (r).toNat) = 2 ∧ (gS G2 a_fA (r).toNat) = r1 ∧ (gS G2 a_fB (r).toNat) = 0) : PO G G2 Hs P way its r := by
  obtain ⟨t1, x1, k1, c1⟩ := hp1
  obtain ⟨f2, ⟨r0, r2, r3⟩, fx2, m2, q1, q2, -⟩ := hp2
  have a1 : Agr tabA [26, 35] G G1 := hf1.agr (by decide) (by decide) (by decide)
  have a2 : Agr thA thJ G1 G2 := hf2.agr (by decide) (by decide) (by decide)
  have e26 : (gS G1 1000 26) = (gS G 1000 26) := a1.f (by decide)
  have fx1 : FX G G1 := FX.agr a1
  refine ⟨f2, fx1.trans fx2, t1.agr a2, x1.trans (TX.agr a2), fun j j0 j1 => ?_, ⟨by omega, r2⟩, by omega, fun q => by omega, fun q => by omega, fun _ => ⟨fun q => by omega, fun _ => ?_, fun q => by omega, fun _ => by rw [(f2.2.2.2.2 r r0 r2).2.2.2.2.2.1 (by omega)]; exact (hF.2.2.2.2 its hi.1 hi.2).2.2.2.2.1.1⟩⟩
  · rw [m2 j j0 (by omega), a1.a (n := a_fMark) (by decide)]
  · refine okS.leaf (by omega) (fun _ => ?_)
    rw [q2]
    exact ⟨_, hst.s h2, (TX.agr a2).key k1⟩
theorem PO.types {G G2 : LG} {Hs : List (Int → Int)} {P : Int → Prop} {way its k r : Int} (hF : FU G) (hTH : TH G Hs) (hw : way = 2) (hi : 0 ≤ its ∧ its < (gS G 1000 26)) (hk : 0 ≤ k ∧ k < 6) (hb : (gS G a_by (k).toNat) = its)
    (hf2 : Fr nX12_full jX12_full G G2) (hp2 : FU G2 ∧ (0 ≤ r ∧ r < (gS G2 1000 26) ∧ (gS G2 1000 26) ≤ (gS G 1000 26) + 1) ∧ FX G G2 ∧ (∀ j : Int, 0 ≤ j → j < (gS G 1000 26) → (gS G2 a_fMark (j).toNat) = (gS G a_fMark (j).toNat)) ∧ (gS G2 a_fKind (r).toNat) = 2 ∧ (gS G2 a_fA (r).toNat) = (gS G a_byStamp (k).toNat) ∧ (gS G2 a_fB (r).toNat) = 0) : PO G G2 Hs P way its r := by
  obtain ⟨f2, ⟨r0, r2, r3⟩, fx2, m2, q1, q2, -⟩ := hp2
  have a2 : Agr thA thJ G G2 := hf2.agr (by decide) (by decide) (by decide)
  refine ⟨f2, fx2, hTH.agr a2, TX.agr a2, m2, ⟨by omega, r2⟩, r3, fun q => by omega, fun q => by omega, fun _ => ⟨fun q => by omega, fun q => by omega, fun _ P0 _ hB => ?_, fun _ => by rw [(f2.2.2.2.2 r r0 r2).2.2.2.2.2.1 (by omega)]; exact (hF.2.2.2.2 its hi.1 hi.2).2.2.2.2.1.1⟩⟩
  refine okS.leaf (by omega) (fun _ => ?_)
  rw [q2]
  exact hB k hk.1 hk.2 (by omega)
