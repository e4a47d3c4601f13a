/-! puts: a type's parts one after another, on a stack of its own -/
def PS (Gs G1 : LG) (P : Int → Prop) (way x m : Int) : Prop :=
  (way = 0 → ∀ P0 : Int → Prop, okS Gs P0 x → (∀ k : Int, 0 ≤ k → k < 6 → 0 ≤ (gS Gs a_by (k).toNat) → okS Gs P0 ((gS Gs a_by (k).toNat))) → okS G1 P0 m) ∧ (way = 1 → okS G1 (fun t => ∃ s, P s ∧ key G1 t ((gS Gs 1000 40)) ((gS Gs 1000 41)) s 0) m) ∧
    (way = 2 → ∀ P0 : Int → Prop, okS Gs P0 x → (∀ k : Int, 0 ≤ k → k < 6 → 0 ≤ (gS Gs a_by (k).toNat) → P0 ((gS Gs a_byStamp (k).toNat))) → okS G1 P0 m) ∧ ((way = 0 → ∀ k : Int, 0 ≤ k → k < 6 → 0 ≤ (gS Gs a_by (k).toNat) → (gS Gs a_fSize ((gS Gs a_by (k).toNat)).toNat) = 1) → (gS G1 a_fSize (m).toNat) ≤ (gS Gs a_fSize (x).toNat))
def PJ (Gs G1 : LG) (Hs : List (Int → Int)) (P : Int → Prop) (way : Int) : Prop :=
  FU G1 ∧ FX Gs G1 ∧ TH G1 Hs ∧ TX Gs G1 ∧ (gS G1 1000 35) = (gS Gs 1000 35) ∧ Agr [a_by, a_byStamp] [40, 41] Gs G1 ∧
    ∀ x : Int, 0 ≤ x → x < (gS Gs 1000 26) → (gS G1 a_fMark (x).toNat) = (gS Gs 1000 35) → (0 ≤ (gS G1 a_fMemo (x).toNat) ∧ (gS G1 a_fMemo (x).toNat) < (gS G1 1000 26)) ∧ PS Gs G1 P way x ((gS G1 a_fMemo (x).toNat))
def PK (Gs G1 G2 : LG) (Hs : List (Int → Int)) (P : Int → Prop) (way x sp c : Int) : Prop :=
  PJ Gs G2 Hs P way ∧ (gS G2 1000 36) = sp ∧ (∀ j : Int, 0 ≤ j → j < sp → (gS G2 a_stackOf (j).toNat) = (gS G1 a_stackOf (j).toNat)) ∧ (gS G2 a_fMark (x).toNat) = (gS Gs 1000 35) ∧ (∀ y : Int, 0 ≤ y → y < (gS Gs 1000 26) → (gS G1 a_fMark (y).toNat) = (gS Gs 1000 35) → (gS G2 a_fMark (y).toNat) = (gS Gs 1000 35)) ∧ (gS G2 1000 26) ≤ (gS G1 1000 26) + c
theorem PS.mono {Gs G1 G2 : LG} {P : Int → Prop} {way x m : Int} (h : PS Gs G1 P way x m) (hf : FU G1) (hm : 0 ≤ m ∧ m < (gS G1 1000 26)) (hx : FX G1 G2) (ht : TX G1 G2) : PS Gs G2 P way x m := by
  obtain ⟨h0, h1, h2, h3⟩ := h
  refine ⟨fun q P0 q1 q2 => (h0 q P0 q1 q2).fx hx hf hm.1 hm.2, fun q => ?_, fun q P0 q1 q2 => (h2 q P0 q1 q2).fx hx hf hm.1 hm.2, fun q => by rw [(hx.2 m hm.1 hm.2).2.2.2]; exact h3 q⟩
  exact ((h1 q).fx hx hf hm.1 hm.2).mono (fun t ⟨s, hs, hk⟩ => ⟨s, hs, ht.key hk⟩)
theorem PS.pair {Gs G1 : LG} {P : Int → Prop} {way x m a b : Int} (hFs : FU Gs) (hx : 0 ≤ x ∧ x < (gS Gs 1000 26)) (hF1 : FU G1) (hm : 0 ≤ m ∧ m < (gS G1 1000 26)) (h3 : (gS Gs a_fKind (x).toNat) = 3) (h4 : (gS G1 a_fKind (m).toNat) = 3) (ha : PS Gs G1 P way ((gS Gs a_fA (x).toNat)) a) (hb : PS Gs G1 P way ((gS Gs a_fB (x).toNat)) b) (ea : (gS G1 a_fA (m).toNat) = a) (eb : (gS G1 a_fB (m).toNat) = b) : PS Gs G1 P way x m := by
  subst ea; subst eb
  refine ⟨fun q P0 q1 q2 => okS.pair h4 (ha.1 q P0 (q1.a h3) q2) (hb.1 q P0 (q1.b h3) q2), fun q => okS.pair h4 (ha.2.1 q) (hb.2.1 q), fun q P0 q1 q2 => okS.pair h4 (ha.2.2.1 q P0 (q1.a h3) q2) (hb.2.2.1 q P0 (q1.b h3) q2), fun q => ?_⟩
  have e1 := (hFs.2.2.2.2 x hx.1 hx.2).2.2.2.2.2.2.1 h3
  have e2 := (hF1.2.2.2.2 m hm.1 hm.2).2.2.2.2.2.2.1 h4
  have l1 := ha.2.2.2 q
  have l2 := hb.2.2.2 q
  rw [e1, e2]
  split <;> split <;> omega
theorem PJ.pop {Gs G1 G2 : LG} {Hs : List (Int → Int)} {P : Int → Prop} {way x sp c : Int} (h : PJ Gs G1 Hs P way) (hm : (gS G1 a_fMark (x).toNat) = (gS Gs 1000 35)) (e : G2 = gset G1 1000 36 sp) (hc : 0 ≤ c) : PK Gs G1 G2 Hs P way x sp c := by
  obtain ⟨h1, h2, h3, h4, h5, h6, h7⟩ := h
  have hfr : Fr [] [36] G1 G2 := Fr.setF Fr.rf e (by decide)
  have aF : Agr tabA [26, 35] G1 G2 := hfr.agr (by decide) (by decide) (by decide)
  have aT : Agr thA thJ G1 G2 := hfr.agr (by decide) (by decide) (by decide)
  have aB : Agr [a_by, a_byStamp] [40, 41] G1 G2 := hfr.agr (by decide) (by decide) (by decide)
  refine ⟨⟨h1.agr aF (by rw [hfr.atF (by decide) (by decide)]; exact Int.le_refl _), h2.trans (FX.agr aF), h3.agr aT, h4.trans (TX.agr aT), by rw [← h5]; exact aF.f (by decide), fun n j q => (aB n j q).trans (h6 n j q), fun y y0 y1 q => ?_⟩, gsaE e, fun j _ _ => hfr.atA (by decide) (by decide), by rw [aF.a (n := a_fMark) (by decide)]; exact hm, fun y _ _ q => by rw [aF.a (n := a_fMark) (by decide)]; exact q, by rw [aF.f (j := 26) (by decide)]; omega⟩
  rw [aF.a (n := a_fMark) (by decide)] at q
  obtain ⟨m1, m2⟩ := h7 y y0 y1 q
  rw [hfr.atA (n := a_fMemo) (by decide) (by decide), aF.f (j := 26) (by decide)]
  exact ⟨m1, m2.mono h1 m1 (FX.agr aF) (TX.agr aT)⟩
abbrev nPut : List Nat := [a_fKind, a_fA, a_fB, a_fSize, a_fNext, a_fHead, a_fMark, a_thingKind, a_thingA, a_thingB, a_thingC, a_thingNext, a_thingHead]
theorem PJ.done {Gs G1 Gb G2 G3 G4 : LG} {Hs : List (Int → Int)} {P : Int → Prop} {way x sp c m : Int} (h : PJ Gs G1 Hs P way) (hx0 : 0 ≤ x ∧ x < (gS Gs 1000 26)) (hfr : Fr nPut [26, 42] G1 Gb) (hF : FU Gb) (hX : FX G1 Gb) (hT : TH Gb Hs) (hY : TX G1 Gb) (hmk : ∀ j : Int, 0 ≤ j → j < (gS G1 1000 26) → (gS Gb a_fMark (j).toNat) = (gS G1 a_fMark (j).toNat))
    (hm : 0 ≤ m ∧ m < (gS Gb 1000 26)) (hS : PS Gs Gb P way x m) (hc : (gS Gb 1000 26) ≤ (gS G1 1000 26) + c) (e2 : G2 = gset Gb a_fMemo (x).toNat m) (e3 : G3 = gset G2 a_fMark (x).toNat ((gS Gs 1000 35))) (e4 : G4 = gset G3 1000 36 sp) : PK Gs G1 G4 Hs P way x sp c := by
  obtain ⟨h1, h2, h3, h4, h5, h6, h7⟩ := h
  have f4 : Fr [a_fMemo, a_fMark] [36] Gb G4 := Fr.setF (Fr.setA (Fr.setA Fr.rf e2 (by decide)) e3 (by decide)) e4 (by decide)
  have aT : Agr thA thJ Gb G4 := f4.agr (by decide) (by decide) (by decide)
  have aF : Agr [a_fKind, a_fA, a_fB, a_fSize, a_fNext, a_fHead] [26, 35] Gb G4 := f4.agr (by decide) (by decide) (by decide)
  have aB1 : Agr [a_by, a_byStamp] [40, 41] G1 Gb := hfr.agr (by decide) (by decide) (by decide)
  have aB2 : Agr [a_by, a_byStamp] [40, 41] Gb G4 := f4.agr (by decide) (by decide) (by decide)
  have hmark : (gS Gb 1000 35) = (gS G1 1000 35) := hfr.atF (by decide) (by decide)
  have uM : ∀ y, gS G4 a_fMark y = if y = (x).toNat then (gS Gs 1000 35) else gS Gb a_fMark y := fun y => by rw [gsnE e4 (by decide), g_upd e3, gsnE e2 (by decide)]
  have uO : ∀ y, gS G4 a_fMemo y = if y = (x).toNat then m else gS Gb a_fMemo y := fun y => by rw [gsnE e4 (by decide), gsnE e3 (by decide), g_upd e2]
  have e26 : (gS G4 1000 26) = (gS Gb 1000 26) := aF.f (by decide)
  have hN : (gS Gs 1000 26) ≤ (gS G1 1000 26) := h2.1
  have hFX : FX Gb G4 := ⟨by omega, fun k _ _ => ⟨aF.a (n := a_fKind) (by decide) _, aF.a (n := a_fA) (by decide) _, aF.a (n := a_fB) (by decide) _, aF.a (n := a_fSize) (by decide) _⟩⟩
  have hF4 : FU G4 := by
    obtain ⟨k1, k2, k3, k4, k5⟩ := hF
    unfold FU
    rw [e26, aF.f (j := 35) (by decide), aT.f (j := 42) (by decide)]
    simp only [aF.a (n := a_fKind) (by decide), aF.a (n := a_fA) (by decide), aF.a (n := a_fB) (by decide), aF.a (n := a_fSize) (by decide), aF.a (n := a_fNext) (by decide), aF.a (n := a_fHead) (by decide)]
    refine ⟨k1, k2, k3, k4, fun k z0 z1 => ?_⟩
    obtain ⟨x1, x2, x3, x4, x5, x6, x7, x8, x9⟩ := k5 k z0 z1
    refine ⟨x1, x2, x3, x4, x5, x6, x7, ?_, x9⟩
    rw [uM]
    split
    · omega
    · exact x8
  have hTX : TX Gb G4 := TX.agr aT
  have hmm : ∀ y : Int, 0 ≤ y → y < (gS Gs 1000 26) → (gS G1 a_fMark (y).toNat) = (gS Gs 1000 35) → (gS G4 a_fMark (y).toNat) = (gS Gs 1000 35) := by
    intro y y0 y1 q
    rw [uM]
    split
    · rfl
    · rw [hmk y y0 (by omega)]; exact q
  refine ⟨⟨hF4, h2.trans (hX.trans hFX), hT.agr aT, h4.trans (hY.trans hTX), by rw [aF.f (j := 35) (by decide), hmark]; exact h5, fun n j q => (aB2 n j q).trans ((aB1 n j q).trans (h6 n j q)), fun y y0 y1 q => ?_⟩, gsaE e4, fun j _ _ => by rw [f4.atA (n := a_stackOf) (by decide) (by decide), hfr.atA (n := a_stackOf) (by decide) (by decide)], g_at uM, hmm, by omega⟩
  rw [e26]
  by_cases hy : (y).toNat = (x).toNat
  · have e : y = x := by omega
    subst e
    rw [g_at uO]
    exact ⟨hm, hS.mono hF hm hFX hTX⟩
  · rw [uM, if_neg hy, hmk y y0 (by omega)] at q
    obtain ⟨m1, m2⟩ := h7 y y0 y1 q
    rw [g_ne uO hy, hfr.atA (n := a_fMemo) (by decide) (by decide)]
    exact ⟨⟨m1.1, by have := hX.1; omega⟩, m2.mono h1 m1 (hX.trans hFX) (hY.trans hTX)⟩
/-- how many full types puts makes at most of one of so many parts -/
def pcost (way z : Int) : Int := if way = 0 then (z - 1) / 2 else z
theorem pc_0 {z : Int} : pcost 0 z = (z - 1) / 2 := if_pos rfl
theorem pc_n {w z : Int} (h : ¬ w = 0) : pcost w z = z := if_neg h
theorem mayA.mono {G G1 : LG} {v : Int → Int} {P : Int → Prop} (h : mayA G v P) (hx : TX G G1) (ha : Agr [a_by, a_byStamp] [40, 41] G G1) : mayA G1 v P := by
  intro s hs G' hG t ht
  rw [ha.f (j := 40) (by decide), ha.f (j := 41) (by decide)] at ht
  exact h s hs G' (hx.trans hG) t ht
theorem PJ.pre {Gs G1 : LG} {Hs : List (Int → Int)} {P : Int → Prop} {w x : Int} {v : Int → Int} (hJ : PJ Gs G1 Hs P w) (hFs : FU Gs) (h0 : w = 0 → ∀ k : Int, 0 ≤ k → k < 6 → -1 ≤ (gS Gs a_by (k).toNat) ∧ (gS Gs a_by (k).toNat) < (gS Gs 1000 26)) (h2 : w = 2 → ∀ k : Int, 0 ≤ k → k < 6 → 0 ≤ (gS Gs a_by (k).toNat) → 0 ≤ (gS Gs a_byStamp (k).toNat) ∧ (gS Gs a_byStamp (k).toNat) < (gS Gs 1000 42))
    (h1 : w = 1 → mayA Gs v P) (hx : 0 ≤ x ∧ x < (gS Gs 1000 26)) (hok : w = 1 → okS Gs P x) : FU G1 ∧ TH G1 Hs ∧ (0 ≤ x ∧ x < (gS G1 1000 26)) ∧ (w = 0 → ∀ k : Int, 0 ≤ k → k < 6 → -1 ≤ (gS G1 a_by (k).toNat) ∧ (gS G1 a_by (k).toNat) < (gS G1 1000 26)) ∧ (w = 2 → ∀ k : Int, 0 ≤ k → k < 6 → 0 ≤ (gS G1 a_by (k).toNat) → 0 ≤ (gS G1 a_byStamp (k).toNat) ∧ (gS G1 a_byStamp (k).toNat) < (gS G1 1000 42)) ∧ (w = 1 → okS G1 P x ∧ mayA G1 v P) := by
  obtain ⟨j1, j2, j3, j4, j5, j6, j7⟩ := hJ
  have hN := j2.1
  have hT := j4.1
  refine ⟨j1, j3, by omega, fun q k k0 k1 => ?_, fun q k k0 k1 => ?_, fun q => ⟨(hok q).fx j2 hFs hx.1 hx.2, (h1 q).mono j4 j6⟩⟩
  · have := h0 q k k0 k1
    rw [j6.a (n := a_by) (by decide)]
    omega
  · have := h2 q k k0 k1
    rw [j6.a (n := a_by) (by decide), j6.a (n := a_byStamp) (by decide)]
    omega
theorem PS.of {Gs G1 G2 : LG} {Hs : List (Int → Int)} {P : Int → Prop} {w x r : Int} (hJ : PJ Gs G1 Hs P w) (hFs : FU Gs) (h0 : w = 0 → ∀ k : Int, 0 ≤ k → k < 6 → -1 ≤ (gS Gs a_by (k).toNat) ∧ (gS Gs a_by (k).toNat) < (gS Gs 1000 26)) (hx : 0 ≤ x ∧ x < (gS Gs 1000 26)) (hp : PO G1 G2 Hs P w x r) (hr : ¬ r = -1) : PS Gs G2 P w x r := by
  obtain ⟨j1, j2, j3, j4, j5, j6, j7⟩ := hJ
  obtain ⟨q0, q1, q2, q3⟩ := hp.2.2.2.2.2.2.2.2.2 hr
  refine ⟨fun q P0 a b => q0 q P0 (a.fx j2 hFs hx.1 hx.2) (fun k k0 k1 kb => ?_), fun q => ?_, fun q P0 a b => q2 q P0 (a.fx j2 hFs hx.1 hx.2) (fun k k0 k1 kb => ?_), fun q => ?_⟩
  · rw [j6.a (n := a_by) (by decide)] at kb ⊢
    have hb := b k k0 k1 kb
    exact hb.fx j2 hFs kb (h0 q k k0 k1).2
  · have := q1 q
    rw [j6.f (j := 40) (by decide), j6.f (j := 41) (by decide)] at this
    exact this
  · rw [j6.a (n := a_by) (by decide)] at kb
    rw [j6.a (n := a_byStamp) (by decide)]
    exact b k k0 k1 kb
  · rw [← (j2.2 x hx.1 hx.2).2.2.2]
    refine q3 (fun z k k0 k1 kb => ?_)
    rw [j6.a (n := a_by) (by decide)] at kb ⊢
    rw [(j2.2 _ kb (h0 z k k0 k1).2).2.2.2]
    exact q z k k0 k1 kb
theorem PK.weak {Gs G1 G2 : LG} {Hs : List (Int → Int)} {P : Int → Prop} {w x sp c d : Int} (h : PK Gs G1 G2 Hs P w x sp c) (hc : c ≤ d) : PK Gs G1 G2 Hs P w x sp d := ⟨h.1, h.2.1, h.2.2.1, h.2.2.2.1, h.2.2.2.2.1, by have := h.2.2.2.2.2; omega⟩
theorem PJ.push {Gs G1 Gp Gc : LG} {Hs : List (Int → Int)} {P : Int → Prop} {w x : Int} (h : PJ Gs G1 Hs P w) (hp : PO G1 Gp Hs P w x (-1)) (hfp : Fr nPut [26, 42] G1 Gp) (hfc : Fr [a_stackOf] [36] Gp Gc) : PJ Gs Gc Hs P w ∧ (∀ y : Int, 0 ≤ y → y < (gS Gs 1000 26) → (gS Gc a_fMark (y).toNat) = (gS G1 a_fMark (y).toNat)) ∧ (gS Gc 1000 26) = (gS G1 1000 26) := by
  obtain ⟨j1, j2, j3, j4, j5, j6, j7⟩ := h
  obtain ⟨p1, p2, p3, p4, p5, p6, p7, p8, p9, p10⟩ := hp
  have hN := j2.1
  have aF : Agr tabA [26, 35] Gp Gc := hfc.agr (by decide) (by decide) (by decide)
  have aT : Agr thA thJ Gp Gc := hfc.agr (by decide) (by decide) (by decide)
  have aB1 : Agr [a_by, a_byStamp] [40, 41] G1 Gp := hfp.agr (by decide) (by decide) (by decide)
  have aB2 : Agr [a_by, a_byStamp] [40, 41] Gp Gc := hfc.agr (by decide) (by decide) (by decide)
  have e26 : (gS Gc 1000 26) = (gS G1 1000 26) := (aF.f (by decide)).trans (p8 rfl).2
  have hmk : ∀ y : Int, 0 ≤ y → y < (gS Gs 1000 26) → (gS Gc a_fMark (y).toNat) = (gS G1 a_fMark (y).toNat) := fun y y0 y1 => by rw [aF.a (n := a_fMark) (by decide), p5 y y0 (by omega)]
  have hmo : ∀ y : Int, (gS Gc a_fMemo (y).toNat) = (gS G1 a_fMemo (y).toNat) := fun y => by rw [hfc.atA (n := a_fMemo) (by decide) (by decide), hfp.atA (n := a_fMemo) (by decide) (by decide)]
  refine ⟨⟨p1.agr aF (by rw [aT.f (j := 42) (by decide)]; exact Int.le_refl _), j2.trans (p2.trans (FX.agr aF)), p3.agr aT, j4.trans (p4.trans (TX.agr aT)), by rw [aF.f (j := 35) (by decide), hfp.atF (j := 35) (by decide) (by decide)]; exact j5, fun n j q => (aB2 n j q).trans ((aB1 n j q).trans (j6 n j q)), fun y y0 y1 q => ?_⟩, hmk, e26⟩
  rw [hmk y y0 y1] at q
  obtain ⟨m1, m2⟩ := j7 y y0 y1 q
  rw [hmo, e26]
  exact ⟨m1, m2.mono j1 m1 (p2.trans (FX.agr aF)) (p4.trans (TX.agr aT))⟩
theorem PK.join {Gs G1 Gc G2 G3 G4 : LG} {Hs : List (Int → Int)} {P : Int → Prop} {w x a b sp ca cb c : Int} (hmk : ∀ y : Int, 0 ≤ y → y < (gS Gs 1000 26) → (gS Gc a_fMark (y).toNat) = (gS G1 a_fMark (y).toNat)) (e26 : (gS Gc 1000 26) = (gS G1 1000 26)) (hst : ∀ j : Int, 0 ≤ j → j < sp → (gS Gc a_stackOf (j).toNat) = (gS G1 a_stackOf (j).toNat))
    (h2 : PK Gs Gc G2 Hs P w a (sp + 2) ca) (h3 : PK Gs G2 G3 Hs P w b (sp + 1) cb) (h4 : PK Gs G3 G4 Hs P w x sp 1) (hc : ca + cb + 1 ≤ c) : PK Gs G1 G4 Hs P w x sp c := by
  refine ⟨h4.1, h4.2.1, fun j j0 j1 => ?_, h4.2.2.2.1, fun y y0 y1 q => ?_, ?_⟩
  · rw [h4.2.2.1 j j0 j1, h3.2.2.1 j j0 (by omega), h2.2.2.1 j j0 (by omega), hst j j0 j1]
  · exact h4.2.2.2.2.1 y y0 y1 (h3.2.2.2.2.1 y y0 y1 (h2.2.2.2.2.1 y y0 y1 (by rw [hmk y y0 y1]; exact q)))
  · have := h2.2.2.2.2.2
    have := h3.2.2.2.2.2
    have := h4.2.2.2.2.2
    omega
theorem puts_init {G Gs : LG} {Hs : List (Int → Int)} {P : Int → Prop} {w : Int} (hFU : FU G) (hTH : TH G Hs) (hf : Fr [a_stackOf] [35, 36] G Gs) (hm : (gS Gs 1000 35) = (gS G 1000 35) + 1) : PJ Gs Gs Hs P w ∧ FX G Gs ∧ TX G Gs ∧ Agr [a_by, a_byStamp] [40, 41] G Gs := by
  have aF : Agr tabA [26] G Gs := hf.agr (by decide) (by decide) (by decide)
  have aT : Agr thA thJ G Gs := hf.agr (by decide) (by decide) (by decide)
  obtain ⟨k1, k2, k3, k4, k5⟩ := hFU
  have hF : FU Gs := by
    unfold FU
    rw [aF.f (j := 26) (by decide), aT.f (j := 42) (by decide), hm]
    simp only [aF.a (n := a_fKind) (by decide), aF.a (n := a_fA) (by decide), aF.a (n := a_fB) (by decide), aF.a (n := a_fSize) (by decide), aF.a (n := a_fNext) (by decide), aF.a (n := a_fHead) (by decide), aF.a (n := a_fMark) (by decide)]
    refine ⟨k1, by omega, k3, k4, fun k z0 z1 => ?_⟩
    obtain ⟨x1, x2, x3, x4, x5, x6, x7, x8, x9⟩ := k5 k z0 z1
    exact ⟨x1, x2, x3, x4, x5, x6, x7, by omega, x9⟩
  refine ⟨⟨hF, FX.rf, hTH.agr aT, TX.rf, rfl, fun _ _ _ => rfl, fun x x0 x1 q => ?_⟩, ⟨by rw [aF.f (j := 26) (by decide)]; exact Int.le_refl _, fun k _ _ => ⟨aF.a (n := a_fKind) (by decide) _, aF.a (n := a_fA) (by decide) _, aF.a (n := a_fB) (by decide) _, aF.a (n := a_fSize) (by decide) _⟩⟩, TX.agr aT, hf.agr (by decide) (by decide) (by decide)⟩
  rw [aF.a (n := a_fMark) (by decide)] at q
  rw [aF.f (j := 26) (by decide)] at x1
  have := (k5 x x0 x1).2.2.2.2.2.2.2.1
  omega
theorem FU.kd {G : LG} (h : FU G) {k : Int} (k0 : 0 ≤ k) (k1 : k < (gS G 1000 26)) : 0 ≤ (gS G a_fKind (k).toNat) ∧ (gS G a_fKind (k).toNat) ≤ 3 := (h.2.2.2.2 k k0 k1).1
theorem FU.op {G : LG} (h : FU G) {k : Int} (k0 : 0 ≤ k) (k1 : k < (gS G 1000 26)) (q : (gS G a_fKind (k).toNat) = 1) : 0 ≤ (gS G a_fA (k).toNat) ∧ (gS G a_fA (k).toNat) ≤ 5 := (h.2.2.2.2 k k0 k1).2.1 q
theorem FU.st {G : LG} (h : FU G) {k : Int} (k0 : 0 ≤ k) (k1 : k < (gS G 1000 26)) (q : (gS G a_fKind (k).toNat) = 2) : 0 ≤ (gS G a_fA (k).toNat) ∧ (gS G a_fA (k).toNat) < (gS G 1000 42) := (h.2.2.2.2 k k0 k1).2.2.1 q
theorem FU.pr {G : LG} (h : FU G) {k : Int} (k0 : 0 ≤ k) (k1 : k < (gS G 1000 26)) (q : (gS G a_fKind (k).toNat) = 3) : 0 ≤ (gS G a_fA (k).toNat) ∧ (gS G a_fA (k).toNat) < k ∧ 0 ≤ (gS G a_fB (k).toNat) ∧ (gS G a_fB (k).toNat) < k := (h.2.2.2.2 k k0 k1).2.2.2.1 q
theorem FU.sz {G : LG} (h : FU G) {k : Int} (k0 : 0 ≤ k) (k1 : k < (gS G 1000 26)) : 1 ≤ (gS G a_fSize (k).toNat) ∧ (gS G a_fSize (k).toNat) ≤ 1000000 := (h.2.2.2.2 k k0 k1).2.2.2.2.1
theorem FU.ps {G : LG} (h : FU G) {k : Int} (k0 : 0 ≤ k) (k1 : k < (gS G 1000 26)) (q : (gS G a_fKind (k).toNat) = 3) (hz : (gS G a_fSize (k).toNat) ≤ 200) : (gS G a_fSize (k).toNat) = 1 + (gS G a_fSize ((gS G a_fA (k).toNat)).toNat) + (gS G a_fSize ((gS G a_fB (k).toNat)).toNat) ∧ 1 ≤ (gS G a_fSize ((gS G a_fA (k).toNat)).toNat) ∧ 1 ≤ (gS G a_fSize ((gS G a_fB (k).toNat)).toNat) := by
  obtain ⟨a0, a1, b0, b1⟩ := h.pr k0 k1 q
  have ea := (h.sz a0 (by omega)).1
  have eb := (h.sz b0 (by omega)).1
  have z9 := (h.2.2.2.2 k k0 k1).2.2.2.2.2.2.1 q
  refine ⟨?_, ea, eb⟩
  split at z9 <;> omega
theorem FU.f {G : LG} (h : FU G) : 0 ≤ (gS G 1000 26) ∧ (gS G 1000 26) ≤ 150000 := h.1
theorem FU.mk {G : LG} (h : FU G) {k : Int} (k0 : 0 ≤ k) (k1 : k < (gS G 1000 26)) : 0 ≤ (gS G a_fMark (k).toNat) ∧ (gS G a_fMark (k).toNat) ≤ (gS G 1000 35) := (h.2.2.2.2 k k0 k1).2.2.2.2.2.2.2.1
theorem pc_nn {w z : Int} (h : 1 ≤ z) : 0 ≤ pcost w z := by unfold pcost; split <;> omega
theorem pc_one {w z k : Int} (h : 1 ≤ z) (h3 : k = 3 → 3 ≤ z) : (if w = 0 ∧ ¬ k = 3 then (0 : Int) else 1) ≤ pcost w z := by
  unfold pcost
  by_cases hw : w = 0
  · rw [if_pos hw]
    by_cases hk : k = 3
    · rw [if_neg (fun q => q.2 hk)]; have := h3 hk; omega
    · rw [if_pos ⟨hw, hk⟩]; omega
  · rw [if_neg hw, if_neg (fun q => hw q.1)]; omega
theorem pc_sum {w z a b : Int} (h : z = 1 + a + b) (ha : 1 ≤ a) (hb : 1 ≤ b) : pcost w a + pcost w b + 1 ≤ pcost w z := by unfold pcost; split <;> omega
theorem if_nn {p : Prop} [Decidable p] : (0 : Int) ≤ (if p then 0 else 1) := by split <;> omega
theorem if_le1 {p : Prop} [Decidable p] : (if p then (0 : Int) else 1) ≤ 1 := by split <;> omega
theorem PO.c {G G' : LG} {Hs : List (Int → Int)} {P : Int → Prop} {w x r k : Int} (h : PO G G' Hs P w x r) : (gS G' 1000 26) ≤ (gS G 1000 26) + (if w = 0 ∧ ¬ k = 3 then (0 : Int) else 1) := by
  have h1 := h.2.2.2.2.2.2.1
  have h2 := h.2.2.2.2.2.2.2.2.1
  split
  · rename_i q; have := h2 q.1; omega
  · omega
theorem PS.base {G Gs G1 : LG} {P : Int → Prop} {w t m : Int} (h : PS Gs G1 P w t m) (hF : FU G) (hX : FX G Gs) (hB : Agr [a_by, a_byStamp] [40, 41] G Gs) (h0 : w = 0 → ∀ k : Int, 0 ≤ k → k < 6 → -1 ≤ (gS G a_by (k).toNat) ∧ (gS G a_by (k).toNat) < (gS G 1000 26)) (ht : 0 ≤ t ∧ t < (gS G 1000 26)) : PS G G1 P w t m := by
  obtain ⟨q0, q1, q2, q3⟩ := h
  refine ⟨fun q P0 a b => q0 q P0 (a.fx hX hF ht.1 ht.2) (fun k k0 k1 kb => ?_), fun q => ?_, fun q P0 a b => q2 q P0 (a.fx hX hF ht.1 ht.2) (fun k k0 k1 kb => ?_), fun q => ?_⟩
  · rw [hB.a (n := a_by) (by decide)] at kb ⊢
    exact (b k k0 k1 kb).fx hX hF kb (h0 q k k0 k1).2
  · have := q1 q
    rw [hB.f (j := 40) (by decide), hB.f (j := 41) (by decide)] at this
    exact this
  · rw [hB.a (n := a_by) (by decide)] at kb
    rw [hB.a (n := a_byStamp) (by decide)]
    exact b k k0 k1 kb
  · rw [← (hX.2 t ht.1 ht.2).2.2.2]
    refine q3 (fun z k k0 k1 kb => ?_)
    rw [hB.a (n := a_by) (by decide)] at kb ⊢
    rw [(hX.2 _ kb (h0 z k k0 k1).2).2.2.2]
    exact q z k k0 k1 kb
