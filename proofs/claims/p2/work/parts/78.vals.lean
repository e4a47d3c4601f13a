/-! VALUES: acts that wait, values that are given, cells that are begun -/
def AR (G : LG) : List (Int × Int × Int) → Int → Prop
  | [], y => y = 0
  | (e, p, c) :: st, y => 1 ≤ y ∧ ((gS G a_actOn (y - 1).toNat) = e ∧ (gS G a_actPhase (y - 1).toNat) = p ∧ (gS G a_actFor (y - 1).toNat) = c) ∧ AR G st (y - 1)
def EVt (Gz : LG) (e p c : Int) : Prop := (p = 2 ∧ 0 ≤ e ∧ e < (gS Gz 1000 67)) ∨ ((p = 0 ∨ (p = 1 ∧ 2 ≤ (gS Gz a_eKind (e).toNat))) ∧ (0 ≤ e ∧ e < (gS Gz 1000 6)) ∧ (0 ≤ c ∧ c < (gS Gz 1000 67)) ∧ ∀ i : Int, 0 ≤ i → i < 32 → Occ Gz e i → Occ Gz (exprC Gz c) i)
def EVs (Gz : LG) : List (Int × Int × Int) → Prop
  | [] => True
  | (e, p, c) :: st => EVt Gz e p c ∧ EVs Gz st
def po1 (Gz : LG) (e p : Int) : Int := if p = 0 then (gS Gz a_eWeight (e).toNat) else if p = 1 ∧ (gS Gz a_eKind (e).toNat) = 6 then 1 + (gS Gz a_eWeight ((gS Gz a_eSecond (e).toNat)).toNat) + (gS Gz a_eWeight ((gS Gz a_eThird (e).toNat)).toNat) else 1
def me1 (Gz : LG) (e p : Int) : Int := if p = 0 then 2 * (gS Gz a_eWeight (e).toNat) else if p = 1 ∧ (gS Gz a_eKind (e).toNat) = 6 then 1 + 2 * ((gS Gz a_eWeight ((gS Gz a_eSecond (e).toNat)).toNat) + (gS Gz a_eWeight ((gS Gz a_eThird (e).toNat)).toNat)) else 1
def potL (Gz : LG) : List (Int × Int × Int) → Int
  | [] => 0
  | (e, p, _) :: st => po1 Gz e p + potL Gz st
def mesL (Gz : LG) : List (Int × Int × Int) → Int
  | [] => 0
  | (e, p, _) :: st => me1 Gz e p + mesL Gz st
def nph : List (Int × Int × Int) → Int
  | [] => 0
  | (_, p, _) :: st => (if p = 2 then 1 else 0) + nph st
def GV (Gz : LG) : List (Int × Int × Int) → Int → Prop
  | [], m => m = 0
  | (e, p, _) :: st, m => (p = 0 ∧ GV Gz st (m + 1)) ∨ (p = 1 ∧ (((gS Gz a_eKind (e).toNat) = 2 ∨ (gS Gz a_eKind (e).toNat) = 3) ∧ 2 ≤ m ∧ GV Gz st (m - 1) ∨ (¬ ((gS Gz a_eKind (e).toNat) = 2 ∨ (gS Gz a_eKind (e).toNat) = 3)) ∧ 1 ≤ m ∧ GV Gz st m)) ∨ (p = 2 ∧ 1 ≤ m ∧ ((st = [] ∧ m = 1) ∨ (¬ st = [] ∧ GV Gz st m)))
def GW (Gz : LG) (st : List (Int × Int × Int)) (m : Int) : Prop := st = [] ∨ GV Gz st m
theorem EX.po {Gz : LG} (h : EX Gz) {e : Int} (e0 : 0 ≤ e) (e1 : e < (gS Gz 1000 6)) (p : Int) : 1 ≤ po1 Gz e p ∧ 1 ≤ me1 Gz e p := by
  have hw := h.w e0 e1
  unfold po1 me1
  by_cases h0 : p = 0
  · rw [if_pos h0, if_pos h0]; omega
  · by_cases h6 : p = 1 ∧ (gS Gz a_eKind (e).toNat) = 6
    · have hk : eMany Gz e = 3 := by unfold eMany; rw [if_neg (by omega), if_neg (by omega), if_pos h6.2]
      have a1 := h.part (k := 1) e0 e1 (by omega) (by omega)
      have a2 := h.part (k := 2) e0 e1 (by omega) (by omega)
      have p1 : ePart Gz e 1 = (gS Gz a_eSecond (e).toNat) := rfl
      have p2 : ePart Gz e 2 = (gS Gz a_eThird (e).toNat) := rfl
      rw [p1] at a1
      rw [p2] at a2
      have w1 := h.w a1.1 (by omega)
      have w2 := h.w a2.1 (by omega)
      rw [if_neg h0, if_neg h0, if_pos h6, if_pos h6]; omega
    · rw [if_neg h0, if_neg h0, if_neg h6, if_neg h6]; omega
theorem EVt.po {Gz : LG} (h : EX Gz) {e p c : Int} (hv : EVt Gz e p c) : 1 ≤ po1 Gz e p ∧ 1 ≤ me1 Gz e p := by
  rcases hv with ⟨h2, -⟩ | ⟨-, h2, -⟩
  · unfold po1 me1
    rw [if_neg (by omega), if_neg (by omega), if_neg (by omega), if_neg (by omega)]
    omega
  · exact h.po h2.1 h2.2 p
theorem AR.len {G Gz : LG} (h : EX Gz) : ∀ (st : List (Int × Int × Int)) (y : Int), AR G st y → EVs Gz st → 0 ≤ y ∧ y ≤ potL Gz st ∧ y ≤ mesL Gz st ∧ 0 ≤ nph st := by
  intro st
  induction st with
  | nil => intro y q _; have q2 : y = 0 := q; rw [q2]; exact ⟨Int.le_refl _, Int.le_refl _, Int.le_refl _, Int.le_refl _⟩
  | cons a st ih =>
    obtain ⟨e, p, c⟩ := a
    intro y q v
    have q9 := ih _ q.2.2 v.2
    have v9 := v.1.po h
    have e1 : potL Gz ((e, p, c) :: st) = po1 Gz e p + potL Gz st := rfl
    have e2 : mesL Gz ((e, p, c) :: st) = me1 Gz e p + mesL Gz st := rfl
    have e3 : nph ((e, p, c) :: st) = (if p = 2 then 1 else 0) + nph st := rfl
    have q1 := q.1
    rw [e1, e2, e3]
    refine ⟨by omega, by omega, by omega, ?_⟩
    split <;> omega
theorem AR.pos {G : LG} {st : List (Int × Int × Int)} {y : Int} (h : AR G st y) (hy : 0 < y) : ∃ e p c st2, st = (e, p, c) :: st2 ∧ ((gS G a_actOn (y - 1).toNat) = e ∧ (gS G a_actPhase (y - 1).toNat) = p ∧ (gS G a_actFor (y - 1).toNat) = c) ∧ AR G st2 (y - 1) := by
  cases st with
  | nil => have : y = 0 := h; omega
  | cons a st => obtain ⟨e, p, c⟩ := a; exact ⟨e, p, c, st, rfl, h.2.1, h.2.2⟩
theorem AR.cg {G G' : LG} : ∀ (st : List (Int × Int × Int)) (y : Int), AR G st y → (∀ j : Int, 0 ≤ j → j < y → (gS G' a_actOn (j).toNat) = (gS G a_actOn (j).toNat) ∧ (gS G' a_actPhase (j).toNat) = (gS G a_actPhase (j).toNat) ∧ (gS G' a_actFor (j).toNat) = (gS G a_actFor (j).toNat)) → AR G' st y := by
  intro st
  induction st with
  | nil => intro y h _; exact h
  | cons a st ih =>
    obtain ⟨e, p, c⟩ := a
    intro y h he
    obtain ⟨h1, h2, h3⟩ := h
    have e9 := he (y - 1) (by omega) (by omega)
    exact ⟨h1, ⟨e9.1.trans h2.1, e9.2.1.trans h2.2.1, e9.2.2.trans h2.2.2⟩, ih _ h3 (fun j j0 j1 => he j j0 (by omega))⟩
/-- the cells that are not begun -/
noncomputable def s0 (G : LG) (n : Int) : Int := psum (fun _ => 1) (fun c => (gS G a_state (c).toNat) = 0) n.toNat
theorem s0.nn {G : LG} {n : Int} : 0 ≤ s0 G n := psum_nn (fun _ => by decide) _ _
theorem s0.cg {G G' : LG} {n : Int} (e : ∀ j : Nat, gS G' a_state j = gS G a_state j) : s0 G' n = s0 G n := by unfold s0; simp only [e]
theorem psum_upd {S T : Int → Prop} {k : Int} : ∀ n : Nat, (∀ m : Int, m ≠ k → (S m ↔ T m)) → S k → ¬ T k → 0 ≤ k → k < n → psum (fun _ => 1) T n + 1 ≤ psum (fun _ => 1) S n := by
  intro n
  induction n with
  | zero => intro _ _ _ k0 k1; omega
  | succ n ih =>
    intro h hs ht k0 k1
    rw [psum_s, psum_s]
    by_cases q : (n : Int) = k
    · have h9 := psum_le (c := fun _ => 1) (fun _ => by decide) (S := T) (T := S) n (fun m m0 m1 z => (h m (by omega)).mpr z)
      rw [q, if_pos hs, if_neg ht]
      omega
    · have h9 := ih h hs ht k0 (by omega)
      by_cases z : S (n : Int)
      · rw [if_pos z, if_pos ((h _ q).mp z)]; omega
      · rw [if_neg z, if_neg (fun y => z ((h _ q).mpr y))]; omega
theorem s0.set {G G' : LG} {n c v : Int} (hv : ¬ v = 0) (c0 : 0 ≤ c) (e : ∀ j : Nat, gS G' a_state j = if j = (c).toNat then v else gS G a_state j) : s0 G' n ≤ s0 G n := by
  unfold s0
  refine psum_le (fun _ => by decide) n.toNat (fun m m0 m1 z => ?_)
  rw [e] at z
  split at z
  · exact absurd z hv
  · exact z
theorem s0.beg {G G' : LG} {n c v : Int} (hv : ¬ v = 0) (hc : 0 ≤ c ∧ c < n) (h0 : (gS G a_state (c).toNat) = 0) (e : ∀ j : Nat, gS G' a_state j = if j = (c).toNat then v else gS G a_state j) : s0 G' n + 1 ≤ s0 G n := by
  have key : ∀ N : Nat, c < N → psum (fun _ => 1) (fun x => 0 ≤ x ∧ (gS G' a_state (x).toNat) = 0) N + 1 ≤ psum (fun _ => 1) (fun x => 0 ≤ x ∧ (gS G a_state (x).toNat) = 0) N := fun N hN => by
    refine psum_upd (k := c) N (fun m hm => ?_) ⟨hc.1, h0⟩ (fun z => ?_) hc.1 hN
    · by_cases m0 : 0 ≤ m
      · rw [e, if_neg (by omega)]
      · exact ⟨fun z => absurd z.1 m0, fun z => absurd z.1 m0⟩
    · have z2 := z.2
      rw [e, if_pos rfl] at z2
      exact hv z2
  have k9 := key n.toNat (by omega)
  have a1 := psum_le (c := fun _ => 1) (fun _ => by decide) (S := fun c => (gS G' a_state (c).toNat) = 0) (T := fun x => 0 ≤ x ∧ (gS G' a_state (x).toNat) = 0) n.toNat (fun m m0 m1 z => ⟨m0, z⟩)
  have a2 := psum_le (c := fun _ => 1) (fun _ => by decide) (S := fun x => 0 ≤ x ∧ (gS G a_state (x).toNat) = 0) (T := fun c => (gS G a_state (c).toNat) = 0) n.toNat (fun m m0 m1 z => z.2)
  unfold s0
  omega
theorem s0.all {G : LG} {n : Int} (h0 : 0 ≤ n) : s0 G n ≤ n := by
  have : ∀ N : Nat, psum (fun _ => 1) (fun c => (gS G a_state (c).toNat) = 0) N ≤ N := by
    intro N
    induction N with
    | zero => exact Int.le_refl _
    | succ N ih => rw [psum_s]; split <;> omega
  have h9 := this n.toNat
  unfold s0
  omega
/-- values are numbers, or pairs of earlier ones -/
def VA (G : LG) : Prop := 0 ≤ (gS G 1000 79) ∧ ∀ v : Int, 0 ≤ v → v < (gS G 1000 79) → (gS G a_left (v).toNat) = -1 ∨ ((0 ≤ (gS G a_left (v).toNat) ∧ (gS G a_left (v).toNat) < v) ∧ 0 ≤ (gS G a_right (v).toNat) ∧ (gS G a_right (v).toNat) < v)
def RU (G Gz : LG) (st : List (Int × Int × Int)) (wv wg p : Int) : Prop := AR G st ((gS G 1000 84)) ∧ EVs Gz st ∧ VA G ∧ (∀ c : Int, 0 ≤ c → c < (gS Gz 1000 67) → (gS G a_state (c).toNat) = 2 → 0 ≤ (gS G a_cellValue (c).toNat) ∧ (gS G a_cellValue (c).toNat) < (gS G 1000 79)) ∧ (∀ j : Int, 0 ≤ j → j < (gS G 1000 88) → 0 ≤ (gS G a_give (j).toNat) ∧ (gS G a_give (j).toNat) < (gS G 1000 79)) ∧ (0 ≤ (gS G 1000 88) ∧ 0 ≤ (gS G 1000 90)) ∧
  (gS G 1000 79) + potL Gz st + wv + 13 * s0 G ((gS Gz 1000 67)) ≤ 3120 ∧ (gS G 1000 88) + potL Gz st + wg + 13 * s0 G ((gS Gz 1000 67)) ≤ 3120 ∧ (gS G 1000 90) + nph st + p + s0 G ((gS Gz 1000 67)) ≤ 240
theorem RU.weak {G Gz : LG} {st : List (Int × Int × Int)} {wv wg p wv2 wg2 p2 : Int} (h : RU G Gz st wv wg p) (h1 : wv2 ≤ wv) (h2 : wg2 ≤ wg) (h3 : p2 ≤ p) : RU G Gz st wv2 wg2 p2 := by
  obtain ⟨a1, a2, a3, a4, a5, a6, a7, a8, a9⟩ := h
  exact ⟨a1, a2, a3, a4, a5, a6, by omega, by omega, by omega⟩
theorem RU.len {G Gz : LG} {st : List (Int × Int × Int)} {wv wg p : Int} (h : RU G Gz st wv wg p) (hE : EX Gz) (hv : 0 ≤ wv) (hg : 0 ≤ wg) (hp : 0 ≤ p) : (0 ≤ (gS G 1000 84) ∧ (gS G 1000 84) ≤ 3120 - wv) ∧ (0 ≤ (gS G 1000 79) ∧ (gS G 1000 79) ≤ 3120 - wv) ∧ (0 ≤ (gS G 1000 88) ∧ (gS G 1000 88) ≤ 3120 - wg) ∧ (0 ≤ (gS G 1000 90) ∧ (gS G 1000 90) ≤ 240 - p) := by
  obtain ⟨a1, a2, a3, a4, a5, a6, a7, a8, a9⟩ := h
  have hl := a1.len hE _ _ a2
  have hs := s0.nn (G := G) (n := (gS Gz 1000 67))
  have hv2 := a3.1
  omega
/-- one act is taken off -/
theorem RU.pop {G G' Gz : LG} {st : List (Int × Int × Int)} {e q c wv wg p : Int} (h : RU G Gz ((e, q, c) :: st) wv wg p) (eq : G' = gset G 1000 84 ((gS G 1000 84) - 1)) : RU G' Gz st (wv + po1 Gz e q) (wg + po1 Gz e q) (p + (if q = 2 then 1 else 0)) ∧ EVt Gz e q c ∧ ((gS G' a_actOn ((gS G' 1000 84)).toNat) = e ∧ (gS G' a_actPhase ((gS G' 1000 84)).toNat) = q ∧ (gS G' a_actFor ((gS G' 1000 84)).toNat) = c) := by
  have f : Fr [] [84] G G' := Fr.setF Fr.rf eq (by decide)
  obtain ⟨a1, a2, a3, a4, a5, a6, a7, a8, a9⟩ := h
  have e1 : potL Gz ((e, q, c) :: st) = po1 Gz e q + potL Gz st := rfl
  have e3 : nph ((e, q, c) :: st) = (if q = 2 then 1 else 0) + nph st := rfl
  have ea : (gS G' 1000 84) = (gS G 1000 84) - 1 := gsaE eq
  have ev : (gS G' 1000 79) = (gS G 1000 79) := f.atF (by decide) (by decide)
  have eg : (gS G' 1000 88) = (gS G 1000 88) := f.atF (by decide) (by decide)
  have el : (gS G' 1000 90) = (gS G 1000 90) := f.atF (by decide) (by decide)
  have es : s0 G' ((gS Gz 1000 67)) = s0 G ((gS Gz 1000 67)) := s0.cg (fun j => f.atA (by decide) (by decide))
  refine ⟨⟨?_, a2.2, ?_, ?_, ?_, by omega, by omega, by omega, by omega⟩, a2.1, ?_⟩
  · rw [ea]; exact AR.cg _ _ a1.2.2 (fun j _ _ => ⟨f.atA (by decide) (by decide), f.atA (by decide) (by decide), f.atA (by decide) (by decide)⟩)
  · unfold VA; rw [ev]; simp only [f.atA (n := a_left) (by decide) (by decide), f.atA (n := a_right) (by decide) (by decide)]; exact a3
  · rw [ev]; simp only [f.atA (n := a_state) (by decide) (by decide), f.atA (n := a_cellValue) (by decide) (by decide)]; exact a4
  · rw [ev, eg]; simp only [f.atA (n := a_give) (by decide) (by decide)]; exact a5
  · rw [ea, f.atA (n := a_actOn) (by decide) (by decide), f.atA (n := a_actPhase) (by decide) (by decide), f.atA (n := a_actFor) (by decide) (by decide)]; exact a1.2.1
/-- an act is put on -/
theorem RU.push {G G1 G2 G3 G4 Gz : LG} {st : List (Int × Int × Int)} {e q c wv wg p i : Int} (h : RU G Gz st wv wg p) (hi : i = (gS G 1000 84)) (hv : EVt Gz e q c) (h1 : G1 = gset G a_actOn (i).toNat e) (h2 : G2 = gset G1 a_actPhase (i).toNat q) (h3 : G3 = gset G2 a_actFor (i).toNat c) (h4 : G4 = gset G3 1000 84 (i + 1)) (hE : EX Gz) : RU G4 Gz ((e, q, c) :: st) (wv - po1 Gz e q) (wg - po1 Gz e q) (p - (if q = 2 then 1 else 0)) := by
  have f : Fr [a_actOn, a_actPhase, a_actFor] [84] G G4 := Fr.setF (Fr.setA (Fr.setA (Fr.setA Fr.rf h1 (by decide)) h2 (by decide)) h3 (by decide)) h4 (by decide)
  obtain ⟨a1, a2, a3, a4, a5, a6, a7, a8, a9⟩ := h
  have hl := a1.len hE _ _ a2
  have e1 : potL Gz ((e, q, c) :: st) = po1 Gz e q + potL Gz st := rfl
  have e3 : nph ((e, q, c) :: st) = (if q = 2 then 1 else 0) + nph st := rfl
  have ea : (gS G4 1000 84) = (gS G 1000 84) + 1 := by rw [gsaE h4, hi]
  have ev : (gS G4 1000 79) = (gS G 1000 79) := f.atF (by decide) (by decide)
  have eg : (gS G4 1000 88) = (gS G 1000 88) := f.atF (by decide) (by decide)
  have el : (gS G4 1000 90) = (gS G 1000 90) := f.atF (by decide) (by decide)
  have es : s0 G4 ((gS Gz 1000 67)) = s0 G ((gS Gz 1000 67)) := s0.cg (fun j => f.atA (by decide) (by decide))
  have u1 : ∀ j : Nat, gS G4 a_actOn j = if j = (i).toNat then e else gS G a_actOn j := fun j => by rw [gsnE h4 (by decide), gsnE h3 (by decide), gsnE h2 (by decide), g_upd h1]
  have u2 : ∀ j : Nat, gS G4 a_actPhase j = if j = (i).toNat then q else gS G a_actPhase j := fun j => by rw [gsnE h4 (by decide), gsnE h3 (by decide), g_upd h2, gsnE h1 (by decide)]
  have u3 : ∀ j : Nat, gS G4 a_actFor j = if j = (i).toNat then c else gS G a_actFor j := fun j => by rw [gsnE h4 (by decide), g_upd h3, gsnE h2 (by decide), gsnE h1 (by decide)]
  refine ⟨⟨by omega, ⟨?_, ?_, ?_⟩, ?_⟩, ⟨hv, a2⟩, ?_, ?_, ?_, by omega, by omega, by omega, by omega⟩
  · rw [u1, if_pos (by omega)]
  · rw [u2, if_pos (by omega)]
  · rw [u3, if_pos (by omega)]
  · rw [ea, show (gS G 1000 84) + 1 - 1 = (gS G 1000 84) by omega]
    exact AR.cg _ _ a1 (fun j j0 j1 => ⟨by rw [u1, if_neg (by omega)], by rw [u2, if_neg (by omega)], by rw [u3, if_neg (by omega)]⟩)
  · unfold VA; rw [ev]; simp only [f.atA (n := a_left) (by decide) (by decide), f.atA (n := a_right) (by decide) (by decide)]; exact a3
  · rw [ev]; simp only [f.atA (n := a_state) (by decide) (by decide), f.atA (n := a_cellValue) (by decide) (by decide)]; exact a4
  · rw [ev, eg]; simp only [f.atA (n := a_give) (by decide) (by decide)]; exact a5
/-- a cell is begun -/
theorem RU.beg {G G' Gz : LG} {st : List (Int × Int × Int)} {c wv wg p : Int} (h : RU G Gz st wv wg p) (hc : 0 ≤ c ∧ c < (gS Gz 1000 67)) (h0 : (gS G a_state (c).toNat) = 0) (eq : G' = gset G a_state (c).toNat 1) : RU G' Gz st (wv + 13) (wg + 13) (p + 1) := by
  have f : Fr [a_state] [] G G' := Fr.setA Fr.rf eq (by decide)
  obtain ⟨a1, a2, a3, a4, a5, a6, a7, a8, a9⟩ := h
  have ea : (gS G' 1000 84) = (gS G 1000 84) := f.atF (by decide) (by decide)
  have ev : (gS G' 1000 79) = (gS G 1000 79) := f.atF (by decide) (by decide)
  have eg : (gS G' 1000 88) = (gS G 1000 88) := f.atF (by decide) (by decide)
  have el : (gS G' 1000 90) = (gS G 1000 90) := f.atF (by decide) (by decide)
  have es := s0.beg (v := 1) (by decide) hc h0 (g_upd eq)
  refine ⟨?_, a2, ?_, fun x x0 x1 => ?_, ?_, by omega, by omega, by omega, by omega⟩
  · rw [ea]; exact AR.cg _ _ a1 (fun j _ _ => ⟨f.atA (by decide) (by decide), f.atA (by decide) (by decide), f.atA (by decide) (by decide)⟩)
  · unfold VA; rw [ev]; simp only [f.atA (n := a_left) (by decide) (by decide), f.atA (n := a_right) (by decide) (by decide)]; exact a3
  · rw [g_upd eq, f.atA (n := a_cellValue) (by decide) (by decide), ev]
    intro z
    split at z
    · omega
    · exact a4 x x0 x1 z
  · rw [ev, eg]; simp only [f.atA (n := a_give) (by decide) (by decide)]; exact a5
/-- a cell has no value -/
theorem RU.no {G G' Gz : LG} {st : List (Int × Int × Int)} {c wv wg p : Int} (h : RU G Gz st wv wg p) (c0 : 0 ≤ c) (eq : G' = gset G a_state (c).toNat 3) : RU G' Gz st wv wg p := by
  have f : Fr [a_state] [] G G' := Fr.setA Fr.rf eq (by decide)
  obtain ⟨a1, a2, a3, a4, a5, a6, a7, a8, a9⟩ := h
  have ea : (gS G' 1000 84) = (gS G 1000 84) := f.atF (by decide) (by decide)
  have ev : (gS G' 1000 79) = (gS G 1000 79) := f.atF (by decide) (by decide)
  have eg : (gS G' 1000 88) = (gS G 1000 88) := f.atF (by decide) (by decide)
  have el : (gS G' 1000 90) = (gS G 1000 90) := f.atF (by decide) (by decide)
  have es := s0.set (n := (gS Gz 1000 67)) (v := 3) (by decide) c0 (g_upd eq)
  refine ⟨?_, a2, ?_, fun x x0 x1 => ?_, ?_, by omega, by omega, by omega, by omega⟩
  · rw [ea]; exact AR.cg _ _ a1 (fun j _ _ => ⟨f.atA (by decide) (by decide), f.atA (by decide) (by decide), f.atA (by decide) (by decide)⟩)
  · unfold VA; rw [ev]; simp only [f.atA (n := a_left) (by decide) (by decide), f.atA (n := a_right) (by decide) (by decide)]; exact a3
  · rw [g_upd eq, f.atA (n := a_cellValue) (by decide) (by decide), ev]
    intro z
    split at z
    · omega
    · exact a4 x x0 x1 z
  · rw [ev, eg]; simp only [f.atA (n := a_give) (by decide) (by decide)]; exact a5
/-- a cell has its value -/
theorem RU.yes {G G1 G' Gz : LG} {st : List (Int × Int × Int)} {c v wv wg p : Int} (h : RU G Gz st wv wg p) (c0 : 0 ≤ c) (hv : 0 ≤ v ∧ v < (gS G 1000 79)) (e1 : G1 = gset G a_state (c).toNat 2) (e2 : G' = gset G1 a_cellValue (c).toNat v) : RU G' Gz st wv wg p := by
  have f : Fr [a_state, a_cellValue] [] G G' := Fr.setA (Fr.setA Fr.rf e1 (by decide)) e2 (by decide)
  obtain ⟨a1, a2, a3, a4, a5, a6, a7, a8, a9⟩ := h
  have ea : (gS G' 1000 84) = (gS G 1000 84) := f.atF (by decide) (by decide)
  have ev : (gS G' 1000 79) = (gS G 1000 79) := f.atF (by decide) (by decide)
  have eg : (gS G' 1000 88) = (gS G 1000 88) := f.atF (by decide) (by decide)
  have el : (gS G' 1000 90) = (gS G 1000 90) := f.atF (by decide) (by decide)
  have u1 : ∀ j : Nat, gS G' a_state j = if j = (c).toNat then 2 else gS G a_state j := fun j => by rw [gsnE e2 (by decide), g_upd e1]
  have u2 : ∀ j : Nat, gS G' a_cellValue j = if j = (c).toNat then v else gS G a_cellValue j := fun j => by rw [g_upd e2, gsnE e1 (by decide)]
  have es := s0.set (n := (gS Gz 1000 67)) (v := 2) (by decide) c0 u1
  refine ⟨?_, a2, ?_, fun x x0 x1 => ?_, ?_, by omega, by omega, by omega, by omega⟩
  · rw [ea]; exact AR.cg _ _ a1 (fun j _ _ => ⟨f.atA (by decide) (by decide), f.atA (by decide) (by decide), f.atA (by decide) (by decide)⟩)
  · unfold VA; rw [ev]; simp only [f.atA (n := a_left) (by decide) (by decide), f.atA (n := a_right) (by decide) (by decide)]; exact a3
  · rw [u1, u2, ev]
    intro z
    split at z
    · rename_i q; rw [if_pos q]; exact hv
    · rename_i q; rw [if_neg q]; exact a4 x x0 x1 z
  · rw [ev, eg]; simp only [f.atA (n := a_give) (by decide) (by decide)]; exact a5
/-- a value is given -/
theorem RU.give {G G1 G' Gz : LG} {st : List (Int × Int × Int)} {v i wv wg p : Int} (h : RU G Gz st wv wg p) (hi : i = (gS G 1000 88)) (hv : 0 ≤ v ∧ v < (gS G 1000 79)) (e1 : G1 = gset G a_give (i).toNat v) (e2 : G' = gset G1 1000 88 (i + 1)) : RU G' Gz st wv (wg - 1) p ∧ (gS G' 1000 88) = (gS G 1000 88) + 1 := by
  have f : Fr [a_give] [88] G G' := Fr.setF (Fr.setA Fr.rf e1 (by decide)) e2 (by decide)
  obtain ⟨a1, a2, a3, a4, a5, a6, a7, a8, a9⟩ := h
  have ea : (gS G' 1000 84) = (gS G 1000 84) := f.atF (by decide) (by decide)
  have ev : (gS G' 1000 79) = (gS G 1000 79) := f.atF (by decide) (by decide)
  have eg : (gS G' 1000 88) = (gS G 1000 88) + 1 := by rw [gsaE e2, hi]
  have el : (gS G' 1000 90) = (gS G 1000 90) := f.atF (by decide) (by decide)
  have es : s0 G' ((gS Gz 1000 67)) = s0 G ((gS Gz 1000 67)) := s0.cg (fun j => f.atA (by decide) (by decide))
  have u1 : ∀ j : Nat, gS G' a_give j = if j = (i).toNat then v else gS G a_give j := fun j => by rw [gsnE e2 (by decide), g_upd e1]
  refine ⟨⟨?_, a2, ?_, ?_, fun j j0 j1 => ?_, by omega, by omega, by omega, by omega⟩, eg⟩
  · rw [ea]; exact AR.cg _ _ a1 (fun j _ _ => ⟨f.atA (by decide) (by decide), f.atA (by decide) (by decide), f.atA (by decide) (by decide)⟩)
  · unfold VA; rw [ev]; simp only [f.atA (n := a_left) (by decide) (by decide), f.atA (n := a_right) (by decide) (by decide)]; exact a3
  · rw [ev]; simp only [f.atA (n := a_state) (by decide) (by decide), f.atA (n := a_cellValue) (by decide) (by decide)]; exact a4
  · rw [u1, ev]
    split
    · exact hv
    · exact a5 j j0 (by omega)
/-- some that were given are taken -/
theorem RU.take {G G' Gz : LG} {st : List (Int × Int × Int)} {k i wv wg p : Int} (h : RU G Gz st wv wg p) (hi : i = (gS G 1000 88) - k) (hk : 0 ≤ k ∧ k ≤ (gS G 1000 88)) (e1 : G' = gset G 1000 88 i) : RU G' Gz st wv (wg + k) p := by
  have f : Fr [] [88] G G' := Fr.setF Fr.rf e1 (by decide)
  obtain ⟨a1, a2, a3, a4, a5, a6, a7, a8, a9⟩ := h
  have ea : (gS G' 1000 84) = (gS G 1000 84) := f.atF (by decide) (by decide)
  have ev : (gS G' 1000 79) = (gS G 1000 79) := f.atF (by decide) (by decide)
  have eg : (gS G' 1000 88) = (gS G 1000 88) - k := by rw [gsaE e1, hi]
  have el : (gS G' 1000 90) = (gS G 1000 90) := f.atF (by decide) (by decide)
  have es : s0 G' ((gS Gz 1000 67)) = s0 G ((gS Gz 1000 67)) := s0.cg (fun j => f.atA (by decide) (by decide))
  refine ⟨?_, a2, ?_, ?_, fun j j0 j1 => ?_, by omega, by omega, by omega, by omega⟩
  · rw [ea]; exact AR.cg _ _ a1 (fun j _ _ => ⟨f.atA (by decide) (by decide), f.atA (by decide) (by decide), f.atA (by decide) (by decide)⟩)
  · unfold VA; rw [ev]; simp only [f.atA (n := a_left) (by decide) (by decide), f.atA (n := a_right) (by decide) (by decide)]; exact a3
  · rw [ev]; simp only [f.atA (n := a_state) (by decide) (by decide), f.atA (n := a_cellValue) (by decide) (by decide)]; exact a4
  · rw [f.atA (n := a_give) (by decide) (by decide), ev]; exact a5 j j0 (by omega)
/-- one that was given becomes another one -/
theorem RU.chg {G G' Gz : LG} {st : List (Int × Int × Int)} {v i wv wg p : Int} (h : RU G Gz st wv wg p) (hv : 0 ≤ v ∧ v < (gS G 1000 79)) (e1 : G' = gset G a_give (i).toNat v) : RU G' Gz st wv wg p := by
  have f : Fr [a_give] [] G G' := Fr.setA Fr.rf e1 (by decide)
  obtain ⟨a1, a2, a3, a4, a5, a6, a7, a8, a9⟩ := h
  have ea : (gS G' 1000 84) = (gS G 1000 84) := f.atF (by decide) (by decide)
  have ev : (gS G' 1000 79) = (gS G 1000 79) := f.atF (by decide) (by decide)
  have eg : (gS G' 1000 88) = (gS G 1000 88) := f.atF (by decide) (by decide)
  have el : (gS G' 1000 90) = (gS G 1000 90) := f.atF (by decide) (by decide)
  have es : s0 G' ((gS Gz 1000 67)) = s0 G ((gS Gz 1000 67)) := s0.cg (fun j => f.atA (by decide) (by decide))
  refine ⟨?_, a2, ?_, ?_, fun j j0 j1 => ?_, by omega, by omega, by omega, by omega⟩
  · rw [ea]; exact AR.cg _ _ a1 (fun j _ _ => ⟨f.atA (by decide) (by decide), f.atA (by decide) (by decide), f.atA (by decide) (by decide)⟩)
  · unfold VA; rw [ev]; simp only [f.atA (n := a_left) (by decide) (by decide), f.atA (n := a_right) (by decide) (by decide)]; exact a3
  · rw [ev]; simp only [f.atA (n := a_state) (by decide) (by decide), f.atA (n := a_cellValue) (by decide) (by decide)]; exact a4
  · rw [g_upd e1, ev]
    split
    · exact hv
    · exact a5 j j0 (by omega)
/-- a value is made -/
theorem RU.val {G G' Gz : LG} {st : List (Int × Int × Int)} {wv wg p : Int} {ns js : List Nat} (h : RU G Gz st wv wg p) (f : Fr ns js G G') (hn : ∀ n ∈ [a_state, a_cellValue, a_actOn, a_actPhase, a_actFor, a_give], n ∉ ns) (h0 : 1000 ∉ ns) (hj : ∀ j ∈ [84, 88, 90], j ∉ js) (ev : (gS G' 1000 79) = (gS G 1000 79) + 1) (hV : VA G') : RU G' Gz st (wv - 1) wg p := by
  obtain ⟨a1, a2, a3, a4, a5, a6, a7, a8, a9⟩ := h
  have ea : (gS G' 1000 84) = (gS G 1000 84) := f.atF h0 (hj 84 (by decide))
  have eg : (gS G' 1000 88) = (gS G 1000 88) := f.atF h0 (hj 88 (by decide))
  have el : (gS G' 1000 90) = (gS G 1000 90) := f.atF h0 (hj 90 (by decide))
  have es : s0 G' ((gS Gz 1000 67)) = s0 G ((gS Gz 1000 67)) := s0.cg (fun j => f.atA (hn _ (by decide)) (by decide))
  have hv := a3.1
  refine ⟨?_, a2, hV, fun c c0 c1 q => ?_, fun j j0 j1 => ?_, by omega, by omega, by omega, by omega⟩
  · rw [ea]; exact AR.cg _ _ a1 (fun j _ _ => ⟨f.atA (hn _ (by decide)) (by decide), f.atA (hn _ (by decide)) (by decide), f.atA (hn _ (by decide)) (by decide)⟩)
  · rw [f.atA (n := a_state) (hn _ (by decide)) (by decide)] at q
    rw [f.atA (n := a_cellValue) (hn _ (by decide)) (by decide)]
    have := a4 c c0 c1 q
    omega
  · rw [f.atA (n := a_give) (hn _ (by decide)) (by decide)]
    have := a5 j j0 (by omega)
    omega
/-- an entry of the log -/
theorem RU.log {G G1 G' Gz : LG} {st : List (Int × Int × Int)} {i v wv wg p : Int} (h : RU G Gz st wv wg p) (hi : i = (gS G 1000 90)) (e1 : G1 = gset G a_logOf (i).toNat v) (e2 : G' = gset G1 1000 90 (i + 1)) : RU G' Gz st wv wg (p - 1) := by
  have f : Fr [a_logOf] [90] G G' := Fr.setF (Fr.setA Fr.rf e1 (by decide)) e2 (by decide)
  obtain ⟨a1, a2, a3, a4, a5, a6, a7, a8, a9⟩ := h
  have ea : (gS G' 1000 84) = (gS G 1000 84) := f.atF (by decide) (by decide)
  have ev : (gS G' 1000 79) = (gS G 1000 79) := f.atF (by decide) (by decide)
  have eg : (gS G' 1000 88) = (gS G 1000 88) := f.atF (by decide) (by decide)
  have el : (gS G' 1000 90) = (gS G 1000 90) + 1 := by rw [gsaE e2, hi]
  have es : s0 G' ((gS Gz 1000 67)) = s0 G ((gS Gz 1000 67)) := s0.cg (fun j => f.atA (by decide) (by decide))
  refine ⟨?_, a2, ?_, ?_, ?_, by omega, by omega, by omega, by omega⟩
  · rw [ea]; exact AR.cg _ _ a1 (fun j _ _ => ⟨f.atA (by decide) (by decide), f.atA (by decide) (by decide), f.atA (by decide) (by decide)⟩)
  · unfold VA; rw [ev]; simp only [f.atA (n := a_left) (by decide) (by decide), f.atA (n := a_right) (by decide) (by decide)]; exact a3
  · rw [ev]; simp only [f.atA (n := a_state) (by decide) (by decide), f.atA (n := a_cellValue) (by decide) (by decide)]; exact a4
  · rw [ev, eg]; simp only [f.atA (n := a_give) (by decide) (by decide)]; exact a5
abbrev nRun : List Nat := [a_state, a_cellValue, a_left, a_right, a_number, a_count, a_actOn, a_actPhase, a_actFor, a_give, a_logOf]
abbrev jRun : List Nat := [79, 84, 88, 90]
