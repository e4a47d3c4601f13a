/-! HOW MANY THINGS THERE CAN BE -/
/-- at most k whole numbers are so -/
def Cov (k : Nat) (P : Int → Prop) : Prop := ∃ l : List Int, l.length ≤ k ∧ ∀ t, P t → t ∈ l
theorem Cov.mono {a b : Nat} {P Q : Int → Prop} (h : Cov a P) (hab : a ≤ b) (hq : ∀ t, Q t → P t) : Cov b Q := h.elim fun l hl => ⟨l, Nat.le_trans hl.1 hab, fun t ht => hl.2 t (hq t ht)⟩
theorem Cov.or {a b : Nat} {P Q : Int → Prop} (h : Cov a P) (k : Cov b Q) : Cov (a + b) (fun t => P t ∨ Q t) := by
  obtain ⟨l, h1, h2⟩ := h
  obtain ⟨m, k1, k2⟩ := k
  refine ⟨l ++ m, ?_, fun t ht => ?_⟩
  · rw [List.length_append]; omega
  · rcases ht with ht | ht
    · exact List.mem_append_left _ (h2 t ht)
    · exact List.mem_append_right _ (k2 t ht)
theorem Cov.one {P : Int → Prop} (h : ∀ t s, P t → P s → t = s) : Cov 1 P := by
  by_cases e : ∃ t, P t
  · obtain ⟨t, ht⟩ := e
    exact ⟨[t], Nat.le_refl _, fun s hs => by rw [h s t hs ht]; exact List.mem_singleton.mpr rfl⟩
  · exact ⟨[], Nat.zero_le _, fun s hs => (e ⟨s, hs⟩).elim⟩
theorem Cov.list {α : Type} (V : List α) {m : Nat} {R : α → Int → Prop} (h : ∀ v ∈ V, Cov m (R v)) : Cov (V.length * m) (fun t => ∃ v ∈ V, R v t) := by
  induction V with
  | nil => exact ⟨[], Nat.zero_le _, fun t ht => by obtain ⟨v, hv, -⟩ := ht; exact absurd hv (List.not_mem_nil)⟩
  | cons v V ih =>
    have h1 := (h v List.mem_cons_self).or (ih (fun w hw => h w (List.mem_cons_of_mem _ hw)))
    refine h1.mono (by rw [List.length_cons, Nat.succ_mul]; omega) (fun t ht => ?_)
    obtain ⟨w, hw, hr⟩ := ht
    rcases List.mem_cons.mp hw with rfl | hw
    · exact Or.inl hr
    · exact Or.inr ⟨w, hw, hr⟩
theorem Cov.bind {k m : Nat} {Q : Int → Prop} {R : Int → Int → Prop} (h : Cov k Q) (hr : ∀ s, Cov m (R s)) : Cov (k * m) (fun t => ∃ s, Q s ∧ R s t) := by
  obtain ⟨l, h1, h2⟩ := h
  refine (Cov.list l (R := R) (fun s _ => hr s)).mono (Nat.mul_le_mul_right m h1) (fun t ht => ?_)
  obtain ⟨s, hs, hr⟩ := ht
  exact ⟨s, h2 s hs, hr⟩
theorem Cov.upto (k : Nat) : Cov k (fun t => 0 ≤ t ∧ t < (k : Int)) := ⟨(List.range k).map (fun (i : Nat) => (i : Int)), by rw [List.length_map, List.length_range]; exact Nat.le_refl _, fun t ht => List.mem_map.mpr ⟨t.toNat, List.mem_range.mpr (by omega), by omega⟩⟩
theorem pigeon : ∀ (T : Nat) (l : List Int), (∀ i : Nat, i < T → (i : Int) ∈ l) → T ≤ l.length := by
  intro T
  induction T with
  | zero => intro l _; exact Nat.zero_le _
  | succ T ih =>
    intro l h
    have h1 := ih (l.erase (T : Int)) (fun i hi => (List.mem_erase_of_ne (by omega)).mpr (h i (by omega)))
    have h2 := List.length_erase_of_mem (h T (Nat.lt_succ_self T))
    have h3 := List.length_pos_of_mem (h T (Nat.lt_succ_self T))
    omega
theorem Cov.le {k : Nat} {T : Int} (h : Cov k (fun t => 0 ≤ t ∧ t < T)) : T ≤ (k : Int) := by
  obtain ⟨l, h1, h2⟩ := h
  have h3 := pigeon T.toNat l (fun i hi => h2 _ ⟨by omega, by omega⟩)
  omega
/-- how many of the first n are so -/
def ctn (p : Nat → Bool) : Nat → Nat
  | 0 => 0
  | n + 1 => ctn p n + (if p n = true then 1 else 0)
theorem ctn.mono {p : Nat → Bool} {a b : Nat} (h : a ≤ b) : ctn p a ≤ ctn p b := by
  induction h with
  | refl => exact Nat.le_refl _
  | step _ ih => exact Nat.le_trans ih (Nat.le_add_right _ _)
theorem ctn.s {p : Nat → Bool} {n : Nat} (h : p n = true) : ctn p (n + 1) = ctn p n + 1 := by show ctn p n + (if p n = true then 1 else 0) = _; rw [if_pos h]
abbrev isS (G : LG) : Nat → Bool := fun n => decide ((gS G a_nKind n) = 2) || decide ((gS G a_nKind n) = 4)
abbrev isP (G : LG) : Nat → Bool := fun n => decide ((gS G a_nKind n) = 3)
abbrev isU (G : LG) : Nat → Bool := fun n => decide ((gS G a_nKind n) = 0)
abbrev isO (G : LG) : Nat → Bool := fun n => !decide ((gS G a_nKind n) = 2) && !decide ((gS G a_nKind n) = 4) && !decide ((gS G a_nKind n) = 3)
/-- what the first n nodes make at most, an APPLY A -/
def cst (G : LG) (A : Nat) : Nat → Nat
  | 0 => 0
  | n + 1 => cst G A n + (if (gS G a_nKind n) = 3 then A else if (gS G a_nKind n) = 2 ∨ (gS G a_nKind n) = 4 then 7 else 1)
theorem cst.eq (G : LG) (A : Nat) (n : Nat) : cst G A n = A * ctn (isP G) n + 7 * ctn (isS G) n + ctn (isO G) n ∧ ctn (isP G) n + ctn (isS G) n + ctn (isO G) n = n ∧ ctn (isU G) n ≤ ctn (isO G) n := by
  induction n with
  | zero => exact ⟨by simp [cst, ctn], rfl, Nat.le_refl _⟩
  | succ n ih =>
    obtain ⟨e1, e2, e3⟩ := ih
    unfold cst ctn
    rw [e1]
    by_cases h3 : (gS G a_nKind n) = 3
    · simp [isP, isS, isO, isU, h3, Nat.mul_add]
      omega
    · by_cases h2 : (gS G a_nKind n) = 2
      · simp [isP, isS, isO, isU, h2, Nat.mul_add]; omega
      · by_cases h4 : (gS G a_nKind n) = 4
        · simp [isP, isS, isO, isU, h4, Nat.mul_add]; omega
        · by_cases h0 : (gS G a_nKind n) = 0
          · simp [isP, isS, isO, isU, h0, Nat.mul_add]; omega
          · simp [isP, isS, isO, isU, h0, h2, h3, h4, Nat.mul_add]; omega
/-- no thing is twice in the table -/
abbrev UNQ (G : LG) : Prop := ∀ t s k a b c : Int, key G t k a b c → key G s k a b c → t = s
theorem idF.un {G : LG} (hu : UNQ G) {v : Int → Int} : ∀ (d : Nat) (n t s : Int) (e : Nat), idF G v d n t → idF G v e n s → t = s := by
  intro d
  induction d with
  | zero => intro n t s e h _; exact h.elim
  | succ d ih =>
    intro n t s e h k
    match e, k with
    | 0, k => exact k.elim
    | e + 1, k =>
      unfold idF at h k
      rcases h with ⟨h1, h2⟩ | ⟨h1, h2, h3⟩ | ⟨h1, h2, a, h3, h4⟩
      · rcases k with ⟨k1, k2⟩ | ⟨k1, k2, k3⟩ | ⟨k1, -⟩
        · exact hu _ _ _ _ _ _ h2 k2
        · exact (k1 h1).elim
        · exact (k1 h1).elim
      · rcases k with ⟨k1, k2⟩ | ⟨k1, k2, k3⟩ | ⟨k1, k2, -⟩
        · exact (h1 k1).elim
        · exact hu _ _ _ _ _ _ h3 k3
        · exact (k2 h2).elim
      · rcases k with ⟨k1, k2⟩ | ⟨k1, k2, k3⟩ | ⟨k1, k2, a2, k3, k4⟩
        · exact (h1 k1).elim
        · exact (h2 k2).elim
        · have ea := ih _ _ _ _ h3 k3
          subst ea
          rcases h4 with ⟨h4, h5⟩ | ⟨h4, b, h5, h6⟩
          · rcases k4 with ⟨k4, k5⟩ | ⟨k4, -⟩
            · exact hu _ _ _ _ _ _ h5 k5
            · omega
          · rcases k4 with ⟨k4, k5⟩ | ⟨k4, b2, k5, k6⟩
            · omega
            · have eb := ih _ _ _ _ h5 k5
              subst eb
              exact hu _ _ _ _ _ _ h6 k6
theorem idN.un {G : LG} (hu : UNQ G) {v : Int → Int} {n t s : Int} (h : idN G v n t) (k : idN G v n s) : t = s := by
  obtain ⟨d, h⟩ := h
  obtain ⟨e, k⟩ := k
  exact idF.un hu d n t s e h k
theorem skey.cov {G : LG} (hu : UNQ G) (v : Int → Int) (n : Int) : Cov 6 (skey G v n) := by
  refine (Cov.bind (m := 1) (Cov.upto 6) (fun k => Cov.one (P := fun t => ((¬ (gS G a_isGenerative (n).toNat) = 0 ∧ key G t 10 n k 0) ∨ ((gS G a_isGenerative (n).toNat) = 0 ∧ ∃ a b : Int, idN G v ((gS G a_nFirst (n).toNat)) a ∧ idN G v ((gS G a_nSecond (n).toNat)) b ∧ key G t 11 a b k))) (fun t s h k => ?_))).mono (Nat.le_refl _) (fun t ht => ?_)
  · rcases h with ⟨h1, h2⟩ | ⟨h1, a, b, h2, h3, h4⟩
    · rcases k with ⟨k1, k2⟩ | ⟨k1, -⟩
      · exact hu _ _ _ _ _ _ h2 k2
      · exact (h1 k1).elim
    · rcases k with ⟨k1, -⟩ | ⟨k1, a2, b2, k2, k3, k4⟩
      · exact (k1 h1).elim
      · have ea := idN.un hu h2 k2
        have eb := idN.un hu h3 k3
        subst ea eb
        exact hu _ _ _ _ _ _ h4 k4
  · obtain ⟨k, hk, q⟩ := ht
    exact ⟨k, hk, q⟩
theorem akey.cov {G : LG} (hu : UNQ G) (v : Int → Int) (n s : Int) : Cov 1 (akey G v n s) := by
  refine Cov.one (fun t r h k => ?_)
  rcases h with ⟨h1, h2⟩ | ⟨h1, a, h2, h3⟩
  · rcases k with ⟨k1, k2⟩ | ⟨k1, -⟩
    · exact hu _ _ _ _ _ _ h2 k2
    · exact (h1 k1).elim
  · rcases k with ⟨k1, -⟩ | ⟨k1, a2, k2, k3⟩
    · exact (k1 h1).elim
    · have ea := idN.un hu h2 k2
      subst ea
      exact hu _ _ _ _ _ _ h3 k3
theorem ckey.cov {G : LG} (hu : UNQ G) (n : Int) : Cov 6 (ckey G n) :=
  (Cov.bind (m := 1) (Cov.upto 6) (fun k => Cov.one (P := fun t => key G t 10 n k 0) (fun _ _ h k => hu _ _ _ _ _ _ h k))).mono (Nat.le_refl _) (fun _ ht => ht)
theorem idN.cov {G : LG} (hu : UNQ G) (v : Int → Int) (n : Int) : Cov 1 (idN G v n) := Cov.one (fun _ _ h k => idN.un hu h k)
theorem stN.cases {G : LG} {v : Int → Int} {n t : Int} (h : stN G v n t) : ((gS G a_nKind (n).toNat) = 1 ∧ (stN G v ((gS G a_nFirst (n).toNat)) t ∨ stN G v ((gS G a_nSecond (n).toNat)) t)) ∨ ((gS G a_nKind (n).toNat) = 2 ∧ (stN G v ((gS G a_nSecond (n).toNat)) t ∨ skey G v n t)) ∨
      ((gS G a_nKind (n).toNat) = 3 ∧ (stN G v ((gS G a_nSecond (n).toNat)) t ∨ ∃ s : Int, stN G v ((gS G a_nFirst (n).toNat)) s ∧ akey G v n s t)) ∨ ((gS G a_nKind (n).toNat) = 4 ∧ (stN G v ((gS G a_nFirst (n).toNat)) t ∨ stN G v ((gS G a_nSecond (n).toNat)) t ∨ ckey G n t)) ∨ (5 ≤ (gS G a_nKind (n).toNat) ∧ stN G v ((gS G a_nFirst (n).toNat)) t) := by
  obtain ⟨d, h⟩ := h
  match d, h with
  | 0, h => exact h.elim
  | d + 1, h =>
    unfold stF at h
    rcases h with ⟨q1, q2 | q2⟩ | ⟨q1, q2 | q2⟩ | ⟨q1, q2 | ⟨s, q2, q3⟩⟩ | ⟨q1, q2 | q2 | q2⟩ | ⟨q1, q2⟩
    · exact Or.inl ⟨q1, Or.inl ⟨d, q2⟩⟩
    · exact Or.inl ⟨q1, Or.inr ⟨d, q2⟩⟩
    · exact Or.inr (Or.inl ⟨q1, Or.inl ⟨d, q2⟩⟩)
    · exact Or.inr (Or.inl ⟨q1, Or.inr q2⟩)
    · exact Or.inr (Or.inr (Or.inl ⟨q1, Or.inl ⟨d, q2⟩⟩))
    · exact Or.inr (Or.inr (Or.inl ⟨q1, Or.inr ⟨s, ⟨d, q2⟩, q3⟩⟩))
    · exact Or.inr (Or.inr (Or.inr (Or.inl ⟨q1, Or.inl ⟨d, q2⟩⟩)))
    · exact Or.inr (Or.inr (Or.inr (Or.inl ⟨q1, Or.inr (Or.inl ⟨d, q2⟩)⟩)))
    · exact Or.inr (Or.inr (Or.inr (Or.inl ⟨q1, Or.inr (Or.inr q2)⟩)))
    · exact Or.inr (Or.inr (Or.inr (Or.inr ⟨q1, ⟨d, q2⟩⟩)))
/-- how many stamps a node may show, by its weight and by the nodes that make stamps -/
theorem stN.cov {G : LG} (hu : UNQ G) (hN : ND G) (v : Int → Int) : ∀ (M m : Nat), m < M → (m : Int) < (gS G 1000 18) → ∃ q : Nat, 2 * (q : Int) + 1 ≤ (gS G a_nWeight m) ∧ Cov (6 * q) (stN G v (m : Int)) ∧ ((gS G a_nWeight m) = 2 * (q : Int) + 1 → q ≤ ctn (isS G) (m + 1)) ∧ ((gS G a_nWeight m) ≤ 2 * (q : Int) + 2 → q ≤ 2 * ctn (isS G) (m + 1)) := by
  intro M
  induction M with
  | zero => intro m hm; exact absurd hm (Nat.not_lt_zero _)
  | succ M ih =>
    intro m hm hmN
    have hw := (hN.2 (m : Int) (by omega) hmN)
    simp only [Int.toNat_natCast] at hw
    obtain ⟨hk, hk0, hf, hs, ht, -, -, hw1, hwb, hwc, hwr, hwu⟩ := hw
    have tn : (m : Int).toNat = m := Int.toNat_natCast m
    by_cases k0 : (gS G a_nKind m) = 0
    · refine ⟨0, by rw [hwu k0]; decide, ⟨[], Nat.zero_le _, fun t h => ?_⟩, fun _ => Nat.zero_le _, fun _ => Nat.zero_le _⟩
      have h9 := h.cases; rw [tn] at h9
      rcases h9 with ⟨q, -⟩ | ⟨q, -⟩ | ⟨q, -⟩ | ⟨q, -⟩ | ⟨q, -⟩ <;> omega
    have hfa := hf (by omega)
    obtain ⟨qa, a1, a2, a3, a4⟩ := ih (gS G a_nFirst m).toNat (by omega) (by omega)
    have ea : (((gS G a_nFirst m).toNat : Nat) : Int) = (gS G a_nFirst m) := by omega
    rw [ea] at a2
    have ma := ctn.mono (p := isS G) (a := (gS G a_nFirst m).toNat + 1) (b := m) (by omega)
    have ms := ctn.mono (p := isS G) (a := m) (b := m + 1) (by omega)
    by_cases k5 : 5 ≤ (gS G a_nKind m)
    · have w5 := hwr k5
      refine ⟨qa, by omega, a2.mono (Nat.le_refl _) (fun t h => ?_), fun _ => by omega, fun _ => ?_⟩
      · have h9 := h.cases; rw [tn] at h9
        rcases h9 with ⟨q, -⟩ | ⟨q, -⟩ | ⟨q, -⟩ | ⟨q, -⟩ | ⟨-, q⟩ <;> first | exact q | omega
      · have := a3 (by omega); omega
    have hsb := hs (by omega)
    obtain ⟨qb, b1, b2, b3, b4⟩ := ih (gS G a_nSecond m).toNat (by omega) (by omega)
    have eb : (((gS G a_nSecond m).toNat : Nat) : Int) = (gS G a_nSecond m) := by omega
    rw [eb] at b2
    have mb := ctn.mono (p := isS G) (a := (gS G a_nSecond m).toNat + 1) (b := m) (by omega)
    by_cases k1 : (gS G a_nKind m) = 1
    · have w1 := hwb (by omega)
      refine ⟨qa + qb, by omega, (a2.or b2).mono (by omega) (fun t h => ?_), fun _ => by omega, fun _ => by omega⟩
      have h9 := h.cases; rw [tn] at h9
      rcases h9 with ⟨-, q⟩ | ⟨q, -⟩ | ⟨q, -⟩ | ⟨q, -⟩ | ⟨q, -⟩ <;> first | exact q | omega
    by_cases k2 : (gS G a_nKind m) = 2
    · have w2 := hwb (by omega)
      have hS := ctn.s (p := isS G) (n := m) (by simp [isS, k2])
      refine ⟨qb + 1, by omega, (b2.or (skey.cov hu v (m : Int))).mono (by omega) (fun t h => ?_), fun _ => ?_, fun _ => ?_⟩
      · have h9 := h.cases; rw [tn] at h9
        rcases h9 with ⟨q, -⟩ | ⟨-, q⟩ | ⟨q, -⟩ | ⟨q, -⟩ | ⟨q, -⟩ <;> first | exact q | omega
      · have := b3 (by omega); omega
      · have := b4 (by omega); omega
    by_cases k3 : (gS G a_nKind m) = 3
    · have w3 := hwb (by omega)
      refine ⟨qb + qa, by omega, (b2.or (Cov.bind a2 (fun s => akey.cov hu v (m : Int) s))).mono (by omega) (fun t h => ?_), fun _ => by omega, fun _ => by omega⟩
      have h9 := h.cases; rw [tn] at h9
      rcases h9 with ⟨q, -⟩ | ⟨q, -⟩ | ⟨-, q⟩ | ⟨q, -⟩ | ⟨q, -⟩ <;> first | exact q | omega
    · have k4 : (gS G a_nKind m) = 4 := by omega
      have w4 := hwc k4
      have ht4 := ht k4
      have hS := ctn.s (p := isS G) (n := m) (by simp [isS, k4])
      have hc := (hN.2 (gS G a_nThird m) ht4.1 (by omega)).2.2.2.2.2.2.2.1
      refine ⟨qa + qb + 1, by omega, (a2.or (b2.or (ckey.cov hu (m : Int)))).mono (by omega) (fun t h => ?_), fun _ => by omega, fun _ => ?_⟩
      · have h9 := h.cases; rw [tn] at h9
        rcases h9 with ⟨q, -⟩ | ⟨q, -⟩ | ⟨q, -⟩ | ⟨-, q⟩ | ⟨q, -⟩ <;> first | exact q | omega
      · have z1 := a3 (by omega); have z2 := b3 (by omega); omega
/-- what a node makes in one state of the versions -/
theorem mkN.cov {G : LG} (hu : UNQ G) (hN : ND G) (v : Int → Int) {A : Nat} (hA : 61 ≤ A ∨ (55 ≤ A ∧ ctn (isS G) (gS G 1000 18).toNat ≤ 4)) {m : Nat} (hm : (m : Int) < (gS G 1000 18)) : Cov (if (gS G a_nKind m) = 3 then A else if (gS G a_nKind m) = 2 ∨ (gS G a_nKind m) = 4 then 7 else 1) (mkN G v (m : Int)) := by
  have tn : (m : Int).toNat = m := Int.toNat_natCast m
  by_cases k3 : (gS G a_nKind m) = 3
  · rw [if_pos k3]
    have hw := (hN.2 (m : Int) (by omega) hm)
    simp only [Int.toNat_natCast] at hw
    obtain ⟨hk, hk0, hf, hs, ht, -, -, hw1, hwb, hwc, hwr, hwu⟩ := hw
    have hfa := hf (by omega)
    have hsb := hs (by omega)
    have w3 := hwb (by omega)
    have wb := (hN.2 (gS G a_nSecond m) hsb.1 (by omega)).2.2.2.2.2.2.2.1
    obtain ⟨q, q1, q2, q3, q4⟩ := stN.cov hu hN v ((gS G a_nFirst m).toNat + 1) (gS G a_nFirst m).toNat (by omega) (by omega)
    have ea : (((gS G a_nFirst m).toNat : Nat) : Int) = (gS G a_nFirst m) := by omega
    rw [ea] at q2
    have ms := ctn.mono (p := isS G) (a := (gS G a_nFirst m).toNat + 1) (b := (gS G 1000 18).toNat) (by omega)
    have hq : 1 + 6 * q ≤ A := by
      rcases hA with h | ⟨h, h2⟩
      · omega
      · by_cases h9 : q ≤ 9
        · omega
        · have := q4 (by omega); omega
    refine ((idN.cov hu v (m : Int)).or (Cov.bind q2 (fun s => akey.cov hu v (m : Int) s))).mono (by omega) (fun t h => ?_)
    unfold mkN at h; rw [tn] at h
    rcases h with h | ⟨h, -⟩ | ⟨-, h⟩ | ⟨h, -⟩
    · exact Or.inl h
    · omega
    · exact Or.inr h
    · omega
  · rw [if_neg k3]
    by_cases k2 : (gS G a_nKind m) = 2
    · rw [if_pos (Or.inl k2)]
      refine ((idN.cov hu v (m : Int)).or (skey.cov hu v (m : Int))).mono (by omega) (fun t h => ?_)
      unfold mkN at h; rw [tn] at h
      rcases h with h | ⟨-, h⟩ | ⟨h, -⟩ | ⟨h, -⟩
      · exact Or.inl h
      · exact Or.inr h
      · omega
      · omega
    · by_cases k4 : (gS G a_nKind m) = 4
      · rw [if_pos (Or.inr k4)]
        refine ((idN.cov hu v (m : Int)).or (ckey.cov hu (m : Int))).mono (by omega) (fun t h => ?_)
        unfold mkN at h; rw [tn] at h
        rcases h with h | ⟨h, -⟩ | ⟨h, -⟩ | ⟨-, h⟩
        · exact Or.inl h
        · omega
        · omega
        · exact Or.inr h
      · rw [if_neg (by omega)]
        refine (idN.cov hu v (m : Int)).mono (Nat.le_refl _) (fun t h => ?_)
        unfold mkN at h; rw [tn] at h
        rcases h with h | ⟨h, -⟩ | ⟨h, -⟩ | ⟨h, -⟩
        · exact h
        · omega
        · omega
        · omega
theorem mkN.all {G : LG} (hu : UNQ G) (hN : ND G) (v : Int → Int) {A : Nat} (hA : 61 ≤ A ∨ (55 ≤ A ∧ ctn (isS G) (gS G 1000 18).toNat ≤ 4)) : ∀ M : Nat, (M : Int) ≤ (gS G 1000 18) → Cov (cst G A M) (fun t => ∃ n : Int, (0 ≤ n ∧ n < (M : Int)) ∧ mkN G v n t) := by
  intro M
  induction M with
  | zero => intro _; exact ⟨[], Nat.zero_le _, fun t h => by obtain ⟨n, h, -⟩ := h; omega⟩
  | succ M ih =>
    intro hM
    refine ((ih (by omega)).or (mkN.cov hu hN v hA (m := M) (by omega))).mono (Nat.le_refl _) (fun t h => ?_)
    obtain ⟨n, h1, h2⟩ := h
    by_cases e : n = (M : Int)
    · subst e; exact Or.inr h2
    · exact Or.inl ⟨n, ⟨h1.1, by omega⟩, h2⟩
/-- of the state of the versions just that of the units which nodes name counts -/
theorem idF.ag {G : LG} (hN : ND G) {v w : Int → Int} (e : ∀ n : Int, 0 ≤ n → n < (gS G 1000 18) → (gS G a_nKind (n).toNat) = 0 → v (gS G a_nFirst (n).toNat) = w (gS G a_nFirst (n).toNat)) : ∀ (d : Nat) (n t : Int), 0 ≤ n → n < (gS G 1000 18) → idF G v d n t → idF G w d n t := by
  intro d
  induction d with
  | zero => intro n t _ _ h; exact h
  | succ d ih =>
    intro n t n0 n1 h
    have hf := (hN.2 n n0 n1).2.2.1
    have hs := (hN.2 n n0 n1).2.2.2.1
    have hk := (hN.2 n n0 n1).1
    unfold idF at h ⊢
    rcases h with ⟨h1, h2⟩ | ⟨h1, h2, h3⟩ | ⟨h1, h2, a, h3, h4⟩
    · refine Or.inl ⟨h1, ?_⟩
      have : verOf G w n = verOf G v n := by unfold verOf; rw [e n n0 n1 h1]
      rw [this]; exact h2
    · exact Or.inr (Or.inl ⟨h1, h2, h3⟩)
    · have hf' := hf (by omega)
      refine Or.inr (Or.inr ⟨h1, h2, a, ih _ _ hf'.1 (by omega) h3, ?_⟩)
      rcases h4 with h4 | ⟨h4, b, h5, h6⟩
      · exact Or.inl h4
      · have hs' := hs (by omega)
        exact Or.inr ⟨h4, b, ih _ _ hs'.1 (by omega) h5, h6⟩
theorem mkN.ag {G : LG} (hN : ND G) {v w : Int → Int} (e : ∀ n : Int, 0 ≤ n → n < (gS G 1000 18) → (gS G a_nKind (n).toNat) = 0 → v (gS G a_nFirst (n).toNat) = w (gS G a_nFirst (n).toNat)) {n t : Int} (n0 : 0 ≤ n) (n1 : n < (gS G 1000 18)) (h : mkN G v n t) : mkN G w n t := by
  have gi : ∀ {m s : Int}, 0 ≤ m → m < (gS G 1000 18) → idN G v m s → idN G w m s := fun m0 m1 h => h.elim fun d hd => ⟨d, idF.ag hN e d _ _ m0 m1 hd⟩
  have gs9 : ∀ {m s : Int}, 0 ≤ m → m < (gS G 1000 18) → 1 ≤ (gS G a_nKind (m).toNat) ∧ (gS G a_nKind (m).toNat) ≤ 4 → skey G v m s → skey G w m s := by
    intro m s m0 m1 hk h
    have hf := (hN.2 m m0 m1).2.2.1 (by omega)
    have hs := (hN.2 m m0 m1).2.2.2.1 hk
    obtain ⟨k, hk, q⟩ := h
    refine ⟨k, hk, ?_⟩
    rcases q with q | ⟨q1, a, b, q2, q3, q4⟩
    · exact Or.inl q
    · exact Or.inr ⟨q1, a, b, gi hf.1 (by omega) q2, gi hs.1 (by omega) q3, q4⟩
  have ga : ∀ {m s r : Int}, 0 ≤ m → m < (gS G 1000 18) → 1 ≤ (gS G a_nKind (m).toNat) ∧ (gS G a_nKind (m).toNat) ≤ 4 → akey G v m s r → akey G w m s r := by
    intro m s r m0 m1 hk h
    have hs := (hN.2 m m0 m1).2.2.2.1 hk
    rcases h with q | ⟨q1, a, q2, q3⟩
    · exact Or.inl q
    · exact Or.inr ⟨q1, a, gi hs.1 (by omega) q2, q3⟩
  have gt : ∀ (d : Nat) {m s : Int}, 0 ≤ m → m < (gS G 1000 18) → stF G v d m s → stF G w d m s := by
    intro d
    induction d with
    | zero => intro m s _ _ h; exact h
    | succ d ih =>
      intro m s m0 m1 h
      have hf := (hN.2 m m0 m1).2.2.1
      have hs := (hN.2 m m0 m1).2.2.2.1
      unfold stF at h ⊢
      rcases h with ⟨q1, q2 | q2⟩ | ⟨q1, q2 | q2⟩ | ⟨q1, q2 | ⟨r, q2, q3⟩⟩ | ⟨q1, q2 | q2 | q2⟩ | ⟨q1, q2⟩
      · have z := hf (by omega); exact Or.inl ⟨q1, Or.inl (ih z.1 (by omega) q2)⟩
      · have z := hs (by omega); exact Or.inl ⟨q1, Or.inr (ih z.1 (by omega) q2)⟩
      · have z := hs (by omega); exact Or.inr (Or.inl ⟨q1, Or.inl (ih z.1 (by omega) q2)⟩)
      · exact Or.inr (Or.inl ⟨q1, Or.inr (gs9 m0 m1 (by omega) q2)⟩)
      · have z := hs (by omega); exact Or.inr (Or.inr (Or.inl ⟨q1, Or.inl (ih z.1 (by omega) q2)⟩))
      · have z := hf (by omega); exact Or.inr (Or.inr (Or.inl ⟨q1, Or.inr ⟨r, ih z.1 (by omega) q2, ga m0 m1 (by omega) q3⟩⟩))
      · have z := hf (by omega); exact Or.inr (Or.inr (Or.inr (Or.inl ⟨q1, Or.inl (ih z.1 (by omega) q2)⟩)))
      · have z := hs (by omega); exact Or.inr (Or.inr (Or.inr (Or.inl ⟨q1, Or.inr (Or.inl (ih z.1 (by omega) q2))⟩)))
      · exact Or.inr (Or.inr (Or.inr (Or.inl ⟨q1, Or.inr (Or.inr q2)⟩)))
      · have z := hf (by omega); exact Or.inr (Or.inr (Or.inr (Or.inr ⟨q1, ih z.1 (by omega) q2⟩)))
  have hf := (hN.2 n n0 n1).2.2.1
  unfold mkN at h ⊢
  rcases h with h | ⟨h1, h2⟩ | ⟨h1, s, h2, h3⟩ | h
  · exact Or.inl (gi n0 n1 h)
  · exact Or.inr (Or.inl ⟨h1, gs9 n0 n1 (by omega) h2⟩)
  · have z := hf (by omega)
    exact Or.inr (Or.inr (Or.inl ⟨h1, s, h2.elim fun d hd => ⟨d, gt d z.1 (by omega) hd⟩, ga n0 n1 (by omega) h3⟩))
  · exact Or.inr (Or.inr (Or.inr h))
/-- the state of the versions, added up over some units -/
def vsum (us : List Int) (v : Int → Int) : Int := match us with
  | [] => 0
  | u :: us => v u + vsum us v
theorem vsum.b {us : List Int} {v : Int → Int} (h : ∀ u, 0 ≤ v u ∧ v u ≤ 4) : 0 ≤ vsum us v ∧ vsum us v ≤ 4 * us.length := by
  induction us with
  | nil => exact ⟨Int.le_refl _, Int.le_refl _⟩
  | cons u us ih => have h1 := h u; unfold vsum; rw [List.length_cons]; omega
theorem vsum.le {us : List Int} {v w : Int → Int} (h : ∀ u, v u ≤ w u) : vsum us v ≤ vsum us w := by
  induction us with
  | nil => exact Int.le_refl _
  | cons u us ih => have h1 := h u; unfold vsum; omega
theorem vsum.eq {us : List Int} {v w : Int → Int} (h : ∀ u, v u ≤ w u) (e : vsum us v = vsum us w) : ∀ u ∈ us, v u = w u := by
  induction us with
  | nil => intro u hu; exact absurd hu List.not_mem_nil
  | cons u us ih =>
    intro x hx
    have h1 := h u
    have h2 := vsum.le (us := us) h
    unfold vsum at e
    rcases List.mem_cons.mp hx with rfl | hx
    · omega
    · exact ih (by omega) x hx
theorem th_cov {G : LG} {Hs : List (Int → Int)} (h : TH G Hs) {A : Nat} (hA : 61 ≤ A ∨ (55 ≤ A ∧ ctn (isS G) (gS G 1000 18).toNat ≤ 4)) (us : List Int) (hus : ∀ v ∈ Hs, ∀ w ∈ Hs, (∀ u ∈ us, v u = w u) → ∀ n : Int, 0 ≤ n → n < (gS G 1000 18) → (gS G a_nKind (n).toNat) = 0 → v (gS G a_nFirst (n).toNat) = w (gS G a_nFirst (n).toNat)) : (gS G 1000 42) ≤ (((4 * us.length + 1) * cst G A (gS G 1000 18).toNat : Nat) : Int) := by
  obtain ⟨hCH, hun, hHI, hND, hcov⟩ := h
  have e18 : (((gS G 1000 18).toNat : Nat) : Int) = (gS G 1000 18) := by have := hND.1; omega
  refine Cov.le ((Cov.bind (k := 4 * us.length + 1) (m := cst G A (gS G 1000 18).toNat) (Cov.upto _) (R := fun k t => ∃ v ∈ Hs, vsum us v = k ∧ ∃ n : Int, (0 ≤ n ∧ n < (gS G 1000 18)) ∧ mkN G v n t) (fun k => ?_)).mono (Nat.le_refl _) (fun t ht => ?_))
  · by_cases e : ∃ v ∈ Hs, vsum us v = k
    · obtain ⟨v, hv, hs⟩ := e
      refine (mkN.all hun hND v hA (gS G 1000 18).toNat (by omega)).mono (Nat.le_refl _) (fun t ht => ?_)
      obtain ⟨w, hw, hs2, n, hn, hm⟩ := ht
      rw [e18]
      have hag : ∀ u ∈ us, w u = v u := by
        rcases hHI.2.1 v hv w hw with hl | hl
        · exact fun u hu => (vsum.eq hl (by rw [hs, hs2]) u hu).symm
        · exact vsum.eq hl (by rw [hs, hs2])
      exact ⟨n, hn, mkN.ag hND (hus w hw v hv hag) hn.1 hn.2 hm⟩
    · exact ⟨[], Nat.zero_le _, fun t ht => by obtain ⟨v, hv, hs, -⟩ := ht; exact (e ⟨v, hv, hs⟩).elim⟩
  · obtain ⟨v, hv, n, hn, hm⟩ := hcov t ht.1 ht.2
    have hb := vsum.b (us := us) (hHI.1 v hv)
    exact ⟨vsum us v, ⟨by omega, by omega⟩, v, hv, rfl, n, hn, hm⟩
/-- the units that the first n nodes name -/
def unl (G : LG) : Nat → List Int
  | 0 => []
  | n + 1 => if (gS G a_nKind n) = 0 then (gS G a_nFirst n) :: unl G n else unl G n
theorem unl.len (G : LG) (n : Nat) : (unl G n).length = ctn (isU G) n := by
  induction n with
  | zero => rfl
  | succ n ih =>
    unfold unl ctn
    by_cases h : (gS G a_nKind n) = 0
    · rw [if_pos h, if_pos (by simp [isU, h]), List.length_cons, ih]
    · rw [if_neg h, if_neg (by simp [isU, h]), ih, Nat.add_zero]
theorem unl.mem (G : LG) {n m : Nat} (hm : m < n) (h : (gS G a_nKind m) = 0) : (gS G a_nFirst m) ∈ unl G n := by
  induction n with
  | zero => exact absurd hm (Nat.not_lt_zero _)
  | succ n ih =>
    unfold unl
    by_cases e : m = n
    · subst e; rw [if_pos h]; exact List.mem_cons_self
    · have h1 := ih (by omega)
      split
      · exact List.mem_cons_of_mem _ h1
      · exact h1
theorem th_bound {G : LG} {Hs : List (Int → Int)} (h : TH G Hs) : (gS G 1000 42) ≤ 59999 := by
  have hND := h.2.2.2.1
  have hHI := h.2.2.1
  have h18 := hND.1
  obtain ⟨-, s2, s3⟩ := cst.eq G 61 (gS G 1000 18).toNat
  have hn : (gS G 1000 18).toNat ≤ 40 := by omega
  by_cases hU : ctn (isU G) (gS G 1000 18).toNat ≤ 7
  · have h1 := th_cov h (A := 61) (Or.inl (Nat.le_refl _)) (unl G (gS G 1000 18).toNat) (fun v _ w _ e n n0 n1 hk => e _ (unl.mem G (by omega) hk))
    rw [unl.len, (cst.eq G 61 _).1] at h1
    generalize ctn (isU G) (gS G 1000 18).toNat = u at *
    generalize ctn (isP G) (gS G 1000 18).toNat = p at *
    generalize ctn (isS G) (gS G 1000 18).toNat = s at *
    generalize ctn (isO G) (gS G 1000 18).toNat = o at *
    have hu : u = 0 ∨ u = 1 ∨ u = 2 ∨ u = 3 ∨ u = 4 ∨ u = 5 ∨ u = 6 ∨ u = 7 := by omega
    rcases hu with rfl | rfl | rfl | rfl | rfl | rfl | rfl | rfl <;> omega
  · have hus : ∀ v ∈ Hs, ∀ w ∈ Hs, (∀ u ∈ [(0 : Int), 1, 2, 3, 4, 5, 6, 7], v u = w u) → ∀ n : Int, 0 ≤ n → n < (gS G 1000 18) → (gS G a_nKind (n).toNat) = 0 → v (gS G a_nFirst (n).toNat) = w (gS G a_nFirst (n).toNat) := by
      intro v hv w hw e n n0 n1 hk
      have h9 := (hND.2 n n0 n1).2.1 hk
      by_cases h8 : 8 ≤ (gS G a_nFirst (n).toNat)
      · rw [hHI.2.2 v hv _ h8, hHI.2.2 w hw _ h8]
      · refine e _ ?_
        have : (gS G a_nFirst (n).toNat) = 0 ∨ (gS G a_nFirst (n).toNat) = 1 ∨ (gS G a_nFirst (n).toNat) = 2 ∨ (gS G a_nFirst (n).toNat) = 3 ∨ (gS G a_nFirst (n).toNat) = 4 ∨ (gS G a_nFirst (n).toNat) = 5 ∨ (gS G a_nFirst (n).toNat) = 6 ∨ (gS G a_nFirst (n).toNat) = 7 := by omega
        rcases this with q | q | q | q | q | q | q | q <;> rw [q] <;> simp
    by_cases hS : ctn (isS G) (gS G 1000 18).toNat ≤ 4
    · have h1 := th_cov h (A := 55) (Or.inr ⟨Nat.le_refl _, hS⟩) _ hus
      rw [(cst.eq G 55 _).1] at h1
      simp only [List.length_cons, List.length_nil] at h1
      omega
    · have h1 := th_cov h (A := 61) (Or.inl (Nat.le_refl _)) _ hus
      rw [(cst.eq G 61 _).1] at h1
      simp only [List.length_cons, List.length_nil] at h1
      omega
