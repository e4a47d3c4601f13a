/-! LAYING: the works that wait, the tables that are there, each as a list with its top first -/
def WR (G Gz : LG) (S : Int → Prop) (N : Int) : List (Int × Int) → Int → Prop
  | [], y => y = 0
  | (n, p) :: st, y => 1 ≤ y ∧ (gS G a_workOn (y - 1).toNat) = n ∧ (gS G a_workPhase (y - 1).toNat) = p ∧ S n ∧ n ≤ N ∧ (p = 0 ∨ (p = 1 ∧ 1 ≤ (gS Gz a_nKind (n).toNat))) ∧ WR G Gz S N st (y - 1)
def PRC (G : LG) (N : Int) : List (Int × Int) → List Int → Prop
  | [], T => T = [N]
  | (n, p) :: st, T => (p = 0 ∧ PRC G N st (n :: T)) ∨ (p = 1 ∧ ∃ T2, ((((gS G a_nKind (n).toNat) = 1 ∨ (gS G a_nKind (n).toNat) = 3) ∧ T = (gS G a_nSecond (n).toNat) :: (gS G a_nFirst (n).toNat) :: T2) ∨ (((gS G a_nKind (n).toNat) = 2 ∨ 5 ≤ (gS G a_nKind (n).toNat)) ∧ T = (gS G a_nFirst (n).toNat) :: T2) ∨ ((gS G a_nKind (n).toNat) = 4 ∧ (T = (gS G a_nFirst (n).toNat) :: T2 ∨ T = (gS G a_nSecond (n).toNat) :: T2))) ∧ PRC G N st (n :: T2))
def TBR (G : LG) (E : Int) : List Int → Int → Prop
  | [], m => m = 0
  | n :: T, m => 1 ≤ m ∧ TGd G (m - 1) n E ∧ TBR G E T (m - 1)
def wsum (G : LG) : List (Int × Int) → Int
  | [] => 0
  | (n, p) :: st => (if p = 0 then 2 * (gS G a_nWeight (n).toNat) else 1) + wsum G st
def usum (G : LG) : List (Int × Int) → Int
  | [] => 0
  | (n, p) :: st => (if p = 0 then (gS G a_nWeight (n).toNat) else 0) + usum G st
theorem WR.len {G Gz : LG} {S : Int → Prop} {N : Int} (hS : ∀ m, S m → 1 ≤ (gS Gz a_nWeight (m).toNat)) : ∀ (st : List (Int × Int)) (y : Int), WR G Gz S N st y → y = st.length ∧ y ≤ wsum Gz st ∧ 0 ≤ usum Gz st := by
  intro st
  induction st with
  | nil => intro y h; have h2 : y = 0 := h; exact ⟨h2, by rw [h2]; exact Int.le_refl _, Int.le_refl _⟩
  | cons a st ih =>
    obtain ⟨n, p⟩ := a
    intro y h
    obtain ⟨h1, h2, h3, h4, h5, h6, h7⟩ := h
    obtain ⟨i1, i2, i3⟩ := ih _ h7
    have hw := hS n h4
    have e1 : wsum Gz ((n, p) :: st) = (if p = 0 then 2 * (gS Gz a_nWeight (n).toNat) else 1) + wsum Gz st := rfl
    have e2 : usum Gz ((n, p) :: st) = (if p = 0 then (gS Gz a_nWeight (n).toNat) else 0) + usum Gz st := rfl
    rw [e1, e2, List.length_cons]
    refine ⟨by omega, ?_, ?_⟩ <;> split <;> omega
theorem WR.pos {G Gz : LG} {S : Int → Prop} {N y : Int} {st : List (Int × Int)} (h : WR G Gz S N st y) (hy : 0 < y) : ∃ n p st2, st = (n, p) :: st2 ∧ ((gS G a_workOn (y - 1).toNat) = n ∧ (gS G a_workPhase (y - 1).toNat) = p) ∧ (S n ∧ n ≤ N) ∧ (p = 0 ∨ (p = 1 ∧ 1 ≤ (gS Gz a_nKind (n).toNat))) ∧ WR G Gz S N st2 (y - 1) := by
  cases st with
  | nil => have : y = 0 := h; omega
  | cons a st =>
    obtain ⟨n, p⟩ := a
    obtain ⟨h1, h2, h3, h4, h5, h6, h7⟩ := h
    exact ⟨n, p, st, rfl, ⟨h2, h3⟩, ⟨h4, h5⟩, h6, h7⟩
theorem WR.cg {G G' Gz : LG} {S : Int → Prop} {N : Int} : ∀ (st : List (Int × Int)) (y : Int), WR G Gz S N st y → (∀ j : Int, 0 ≤ j → j < y → (gS G' a_workOn (j).toNat) = (gS G a_workOn (j).toNat) ∧ (gS G' a_workPhase (j).toNat) = (gS G a_workPhase (j).toNat)) → WR G' Gz S N st y := by
  intro st
  induction st with
  | nil => intro y h _; exact h
  | cons a st ih =>
    obtain ⟨n, p⟩ := a
    intro y h he
    obtain ⟨h1, h2, h3, h4, h5, h6, h7⟩ := h
    have e := he (y - 1) (by omega) (by omega)
    exact ⟨h1, e.1.trans h2, e.2.trans h3, h4, h5, h6, ih _ h7 (fun j j0 j1 => he j j0 (by omega))⟩
/-- one more work -/
theorem WR.put {G G' Gz : LG} {S : Int → Prop} {N n p y : Int} {st : List (Int × Int)} (h : WR G Gz S N st y) (hy : 0 ≤ y) (h1 : ∀ j : Nat, gS G' a_workOn j = if j = (y).toNat then n else gS G a_workOn j) (h2 : ∀ j : Nat, gS G' a_workPhase j = if j = (y).toNat then p else gS G a_workPhase j) (hs : S n) (hn : n ≤ N) (hp : p = 0 ∨ (p = 1 ∧ 1 ≤ (gS Gz a_nKind (n).toNat))) : WR G' Gz S N ((n, p) :: st) (y + 1) := by
  refine ⟨by omega, ?_, ?_, hs, hn, hp, ?_⟩
  · rw [show y + 1 - 1 = y by omega, h1, if_pos rfl]
  · rw [show y + 1 - 1 = y by omega, h2, if_pos rfl]
  · rw [show y + 1 - 1 = y by omega]
    exact h.cg _ _ (fun j j0 j1 => ⟨by rw [h1, if_neg (by omega)], by rw [h2, if_neg (by omega)]⟩)
theorem PRC.len {G : LG} {N : Int} : ∀ (st : List (Int × Int)) (T : List Int), PRC G N st T → T.length ≤ st.length + 1 := by
  intro st
  induction st with
  | nil => intro T h; have h2 : T = [N] := h; rw [h2]; exact Nat.le_refl _
  | cons a st ih =>
    obtain ⟨n, p⟩ := a
    intro T h
    rcases h with ⟨-, h⟩ | ⟨-, T2, h, h3⟩
    · have := ih _ h; rw [List.length_cons] at this ⊢; omega
    · have h4 := ih _ h3
      rw [List.length_cons] at h4 ⊢
      rcases h with ⟨-, h⟩ | ⟨-, h⟩ | ⟨-, h | h⟩ <;> rw [h] <;> simp only [List.length_cons] <;> omega
theorem TBR.len {G : LG} {E : Int} : ∀ (T : List Int) (m : Int), TBR G E T m → m = T.length ∧ ∀ j : Int, 0 ≤ j → j < 10 * m → -1 ≤ (gS G a_table (j).toNat) ∧ (gS G a_table (j).toNat) < E := by
  intro T
  induction T with
  | nil => intro m h; have h2 : m = 0 := h; exact ⟨h2, fun j j0 j1 => by omega⟩
  | cons n T ih =>
    intro m h
    obtain ⟨h1, h2, h3⟩ := h
    obtain ⟨i1, i2⟩ := ih _ h3
    refine ⟨by rw [List.length_cons]; omega, fun j j0 j1 => ?_⟩
    by_cases hj : j < 10 * (m - 1)
    · exact i2 j j0 hj
    · have := (h2 (j - 10 * (m - 1)) (by omega) (by omega)).1
      rw [show 10 * (m - 1) + (j - 10 * (m - 1)) = j by omega] at this
      exact this
theorem TGd.cg {G G' : LG} {t n E E2 : Int} (h : TGd G t n E) (hE : E ≤ E2) (ht : ∀ k : Int, 0 ≤ k → k < 10 → (gS G' a_table (10 * t + k).toNat) = (gS G a_table (10 * t + k).toNat)) (hs : ∀ j : Nat, gS G' a_sValue j = gS G a_sValue j) : TGd G' t n E2 := fun k k0 k1 => by
  rw [ht k k0 k1, hs]
  have := h k k0 k1
  exact ⟨by omega, this.2⟩
theorem TBR.cg {G G' : LG} {E E2 : Int} (hE : E ≤ E2) (hs : ∀ j : Nat, gS G' a_sValue j = gS G a_sValue j) : ∀ (T : List Int) (m : Int), TBR G E T m → (∀ j : Int, 0 ≤ j → j < 10 * m → (gS G' a_table (j).toNat) = (gS G a_table (j).toNat)) → TBR G' E2 T m := by
  intro T
  induction T with
  | nil => intro m h _; exact h
  | cons n T ih =>
    intro m h ht
    obtain ⟨h1, h2, h3⟩ := h
    exact ⟨h1, h2.cg hE (fun k k0 k1 => ht _ (by omega) (by omega)) hs, ih _ h3 (fun j j0 j1 => ht j j0 (by omega))⟩
/-- what is there when a node is finished -/
theorem TBR.fin {G : LG} {E n m kd a b : Int} {T T2 : List Int} (h : TBR G E T m) (hT : ((kd = 1 ∨ kd = 3) ∧ T = b :: a :: T2) ∨ ((kd = 2 ∨ 5 ≤ kd) ∧ T = a :: T2) ∨ (kd = 4 ∧ (T = a :: T2 ∨ T = b :: T2))) :
    1 ≤ m ∧ (kd = 1 ∨ kd = 3 → 2 ≤ m ∧ TGd G (m - 2) a E ∧ TGd G (m - 1) b E ∧ TBR G E T2 (m - 2)) ∧ (¬ (kd = 1 ∨ kd = 3) → TBR G E T2 (m - 1)) ∧ (kd = 2 ∨ 5 ≤ kd → TGd G (m - 1) a E) ∧ (kd = 4 → TGd G (m - 1) a E ∨ TGd G (m - 1) b E) := by
  rcases hT with ⟨q, hT⟩ | ⟨q, hT⟩ | ⟨q, hT | hT⟩ <;> subst hT
  · obtain ⟨h1, h2, h3, h4, h5⟩ := h
    rw [show m - 1 - 1 = m - 2 by omega] at h4 h5
    exact ⟨h1, fun _ => ⟨by omega, h4, h2, h5⟩, fun z => absurd q z, fun z => by omega, fun z => by omega⟩
  · obtain ⟨h1, h2, h3⟩ := h
    exact ⟨h1, fun z => by omega, fun _ => h3, fun _ => h2, fun z => by omega⟩
  · obtain ⟨h1, h2, h3⟩ := h
    exact ⟨h1, fun z => by omega, fun _ => h3, fun z => by omega, fun _ => Or.inl h2⟩
  · obtain ⟨h1, h2, h3⟩ := h
    exact ⟨h1, fun z => by omega, fun _ => h3, fun z => by omega, fun _ => Or.inr h2⟩
theorem IN.zero {G : LG} (h : (gS G 1000 67) = 0) : IN G 0 0 := ⟨by omega, by omega, by omega, fun i i0 i1 => by omega, fun e e0 e1 => by omega, fun c c0 c1 => by omega⟩
/-- right nodes: what is known of them and of their parts -/
def RG (G : LG) (S : Int → Prop) : Prop := ∀ m : Int, S m → (0 ≤ m ∧ m < (gS G 1000 18)) ∧ DN G m ∧ ∀ k : Int, 0 ≤ k → k < nMany G m → S (nPart G m k)
theorem RG.p1 {G : LG} {S : Int → Prop} (h : RG G S) {m : Int} (hm : S m) (hk : 1 ≤ (gS G a_nKind (m).toNat)) : S ((gS G a_nFirst (m).toNat)) := (h m hm).2.2 0 (Int.le_refl _) (nMany.k.1 hk)
theorem RG.p2 {G : LG} {S : Int → Prop} (h : RG G S) {m : Int} (hm : S m) (hk : 1 ≤ (gS G a_nKind (m).toNat) ∧ (gS G a_nKind (m).toNat) ≤ 4) : S ((gS G a_nSecond (m).toNat)) := (h m hm).2.2 1 (by omega) (nMany.k.2.1 hk)
theorem RG.p3 {G : LG} {S : Int → Prop} (h : RG G S) {m : Int} (hm : S m) (hk : (gS G a_nKind (m).toNat) = 4) : S ((gS G a_nThird (m).toNat)) := (h m hm).2.2 2 (by omega) (nMany.k.2.2 hk)
theorem ND.agr {G G' : LG} (h : ND G) (ha : Agr ndA [18, 12] G G') : ND G' := by
  unfold ND
  rw [ha.f (j := 18) (by decide), ha.f (j := 12) (by decide)]
  simp only [ha.a (n := a_nKind) (by decide), ha.a (n := a_nFirst) (by decide), ha.a (n := a_nSecond) (by decide), ha.a (n := a_nThird) (by decide), ha.a (n := a_nWeight) (by decide), ha.a (n := a_versions) (by decide)]
  exact h
