/-! THE TABLE OF THINGS: a new one -/
theorem i_and_congr {x y z : Int} (h : Int32.ofInt x = Int32.ofInt y) : i_and x z = i_and y z := by unfold i_and; rw [h]
theorem rch_keep {G G' : LG} {T : Int} (hn : ∀ y : Int, 0 ≤ y → y < T → (gS G' a_thingNext (y).toNat) = (gS G a_thingNext (y).toNat)) (hb : ∀ y : Int, 0 ≤ y → y < T → (gS G a_thingNext (y).toNat) ≤ y) : ∀ (m : Nat) (k t : Int), k < T → Rch G m k t → Rch G' m k t := by
  intro m
  induction m with
  | zero => intro k t _ h; exact h
  | succ m ih =>
    intro k t hk h
    obtain ⟨h0, h1⟩ := h
    refine ⟨h0, ?_⟩
    rcases h1 with h1 | h1
    · exact Or.inl h1
    · rw [hn k h0 hk]
      have := hb k h0 hk
      exact Or.inr (ih _ _ (by omega) h1)
theorem thing_new {G G1 G2 G3 G4 G5 G6 G7 : LG} {k a b c p T : Int} {Hs : List (Int → Int)} {v : Int → Int} (hTH : TH G Hs) (hv : v ∈ Hs) (hA : ∀ G' : LG, TX G G' → ∀ t, key G' t k a b c → ∃ n : Int, (0 ≤ n ∧ n < (gS G' 1000 18)) ∧ mkN G' v n t) (hT : T = (gS G 1000 42)) (hp : p = hsh k a b c) (hp0 : 0 ≤ p ∧ p < 4096) (hno : ∀ t, ¬ key G t k a b c)
    (e1 : G1 = gset G a_thingKind (T).toNat k) (e2 : G2 = gset G1 a_thingA (T).toNat a) (e3 : G3 = gset G2 a_thingB (T).toNat b) (e4 : G4 = gset G3 a_thingC (T).toNat c) (e5 : G5 = gset G4 a_thingNext (T).toNat (gS G a_thingHead (p).toNat)) (e6 : G6 = gset G5 a_thingHead (p).toNat (T + 1)) (e7 : G7 = gset G6 1000 42 (T + 1)) :
    TH G7 Hs ∧ TX G G7 ∧ key G7 T k a b c ∧ (gS G7 1000 42) = T + 1 := by
  obtain ⟨⟨hc0, hc1, hc2, hc3⟩, hdis, hHI, hND, hcov⟩ := hTH
  have uK : ∀ y, gS G7 a_thingKind y = if y = (T).toNat then k else gS G a_thingKind y := fun y => by rw [gsnE e7 (by decide), gsnE e6 (by decide), gsnE e5 (by decide), gsnE e4 (by decide), gsnE e3 (by decide), gsnE e2 (by decide), g_upd e1]
  have uA : ∀ y, gS G7 a_thingA y = if y = (T).toNat then a else gS G a_thingA y := fun y => by rw [gsnE e7 (by decide), gsnE e6 (by decide), gsnE e5 (by decide), gsnE e4 (by decide), gsnE e3 (by decide), g_upd e2, gsnE e1 (by decide)]
  have uB : ∀ y, gS G7 a_thingB y = if y = (T).toNat then b else gS G a_thingB y := fun y => by rw [gsnE e7 (by decide), gsnE e6 (by decide), gsnE e5 (by decide), gsnE e4 (by decide), g_upd e3, gsnE e2 (by decide), gsnE e1 (by decide)]
  have uC : ∀ y, gS G7 a_thingC y = if y = (T).toNat then c else gS G a_thingC y := fun y => by rw [gsnE e7 (by decide), gsnE e6 (by decide), gsnE e5 (by decide), g_upd e4, gsnE e3 (by decide), gsnE e2 (by decide), gsnE e1 (by decide)]
  have uN : ∀ y, gS G7 a_thingNext y = if y = (T).toNat then gS G a_thingHead (p).toNat else gS G a_thingNext y := fun y => by rw [gsnE e7 (by decide), gsnE e6 (by decide), g_upd e5, gsnE e4 (by decide), gsnE e3 (by decide), gsnE e2 (by decide), gsnE e1 (by decide)]
  have uH : ∀ y, gS G7 a_thingHead y = if y = (p).toNat then T + 1 else gS G a_thingHead y := fun y => by rw [gsnE e7 (by decide), g_upd e6, gsnE e5 (by decide), gsnE e4 (by decide), gsnE e3 (by decide), gsnE e2 (by decide), gsnE e1 (by decide)]
  have uf : (gS G7 1000 42) = T + 1 := gsaE e7
  have un : (gS G7 1000 18) = (gS G 1000 18) := by rw [gsjE e7 (by decide), gsnE e6 (by decide), gsnE e5 (by decide), gsnE e4 (by decide), gsnE e3 (by decide), gsnE e2 (by decide), gsnE e1 (by decide)]
  have uu : (gS G7 1000 12) = (gS G 1000 12) := by rw [gsjE e7 (by decide), gsnE e6 (by decide), gsnE e5 (by decide), gsnE e4 (by decide), gsnE e3 (by decide), gsnE e2 (by decide), gsnE e1 (by decide)]
  have ud : ∀ n ∈ ndA, ∀ j, gS G7 n j = gS G n j := by
    intro n hn j
    have h0 : n ≠ 1000 ∧ n ≠ a_thingKind ∧ n ≠ a_thingA ∧ n ≠ a_thingB ∧ n ≠ a_thingC ∧ n ≠ a_thingNext ∧ n ≠ a_thingHead := by revert n; decide
    rw [gsnE e7 h0.1, gsnE e6 h0.2.2.2.2.2.2, gsnE e5 h0.2.2.2.2.2.1, gsnE e4 h0.2.2.2.2.1, gsnE e3 h0.2.2.2.1, gsnE e2 h0.2.2.1, gsnE e1 h0.2.1]
  have hTX : TX G G7 := ⟨by omega, un, uu, ud, fun t h0 h1 => ⟨g_ne uK (by omega), g_ne uA (by omega), g_ne uB (by omega), g_ne uC (by omega)⟩⟩
  have hk : key G7 T k a b c := ⟨⟨by omega, by omega⟩, g_at uK, g_at uA, g_at uB, g_at uC⟩
  have hkey : ∀ {t k' a' b' c' : Int}, key G7 t k' a' b' c' → (t = T ∧ k' = k ∧ a' = a ∧ b' = b ∧ c' = c) ∨ (t ≠ T ∧ key G t k' a' b' c') := by
    intro t k' a' b' c' q
    obtain ⟨⟨q0, q1⟩, q2, q3, q4, q5⟩ := q
    by_cases ht : t = T
    · subst ht
      rw [g_at uK] at q2; rw [g_at uA] at q3; rw [g_at uB] at q4; rw [g_at uC] at q5
      exact Or.inl ⟨rfl, q2.symm, q3.symm, q4.symm, q5.symm⟩
    · have hne : (t).toNat ≠ (T).toNat := by omega
      rw [g_ne uK hne] at q2; rw [g_ne uA hne] at q3; rw [g_ne uB hne] at q4; rw [g_ne uC hne] at q5
      exact Or.inr ⟨ht, ⟨q0, by omega⟩, q2, q3, q4, q5⟩
  have hkeep : ∀ (m : Nat) (k t : Int), k < T → Rch G m k t → Rch G7 m k t := rch_keep (T := T) (fun y h0 h1 => g_ne uN (by omega)) (fun y h0 h1 => (hc2 y h0 (by omega)).2)
  have hND7 : ND G7 := by
    have e : ∀ n ∈ ndA, ∀ j, gS G7 n j = gS G n j := ud
    unfold ND
    rw [un, uu]
    simp only [e a_nKind (by decide), e a_nFirst (by decide), e a_nSecond (by decide), e a_nThird (by decide), e a_nWeight (by decide), e a_versions (by decide)]
    exact hND
  refine ⟨⟨⟨by omega, fun q q0 q1 => ?_, fun t t0 t1 => ?_, fun t t0 t1 => ?_⟩, ?_, hHI, hND7, fun t t0 t1 => ?_⟩, hTX, hk, uf⟩
  · have h9 := hc1 q q0 q1
    rw [uH]
    split <;> omega
  · have h9 := hc1 p hp0.1 hp0.2
    by_cases ht : t = T
    · subst ht
      rw [g_at uN]
      omega
    · rw [g_ne uN (by omega)]
      exact hc2 t t0 (by omega)
  · by_cases ht : t = T
    · subst ht
      rw [g_at uK, g_at uA, g_at uB, g_at uC, ← hp, g_at uH]
      exact ⟨1, by omega, Or.inl (by omega)⟩
    · have hne : (t).toNat ≠ (T).toNat := by omega
      rw [g_ne uK hne, g_ne uA hne, g_ne uB hne, g_ne uC hne]
      obtain ⟨m, hm⟩ := hc3 t t0 (by omega)
      by_cases hq : (hsh ((gS G a_thingKind (t).toNat)) ((gS G a_thingA (t).toNat)) ((gS G a_thingB (t).toNat)) ((gS G a_thingC (t).toNat))).toNat = (p).toNat
      · have hl := hc1 p hp0.1 hp0.2
        rw [hq] at hm
        rw [hq, g_at uH]
        refine ⟨m + 1, by omega, Or.inr ?_⟩
        rw [show T + 1 - 1 = T by omega, g_at uN]
        exact hkeep _ _ _ (by omega) hm
      · rw [g_ne uH hq]
        have hr : 0 ≤ hsh ((gS G a_thingKind (t).toNat)) ((gS G a_thingA (t).toNat)) ((gS G a_thingB (t).toNat)) ((gS G a_thingC (t).toNat)) ∧ hsh ((gS G a_thingKind (t).toNat)) ((gS G a_thingA (t).toNat)) ((gS G a_thingB (t).toNat)) ((gS G a_thingC (t).toNat)) < 4096 := by unfold hsh; omega
        have hl := hc1 _ hr.1 hr.2
        exact ⟨m, hkeep _ _ _ (by omega) hm⟩
  · intro t s k' a' b' c' h1 h2
    rcases hkey h1 with ⟨rfl, rfl, rfl, rfl, rfl⟩ | ⟨n1, h1'⟩
    · rcases hkey h2 with ⟨rfl, -⟩ | ⟨-, h2'⟩
      · rfl
      · exact absurd h2' (hno _)
    · rcases hkey h2 with ⟨rfl, rfl, rfl, rfl, rfl⟩ | ⟨-, h2'⟩
      · exact absurd h1' (hno _)
      · exact hdis _ _ _ _ _ _ h1' h2'
  · by_cases ht : t = T
    · subst ht
      exact ⟨v, hv, hA G7 hTX t hk⟩
    · obtain ⟨w, hw, n, hn, hm⟩ := hcov t t0 (by omega)
      exact ⟨w, hw, n, by rw [un]; exact hn, hTX.mkN hm⟩
