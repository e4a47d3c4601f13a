/-! WHAT A PART OF faces DOES to the tables; so many full types at most, so many marks -/
def FE (G G' : LG) (Hs : List (Int → Int)) (c d : Int) : Prop := FU G' ∧ FX G G' ∧ TH G' Hs ∧ TX G G' ∧ (gS G' 1000 26) ≤ (gS G 1000 26) + c ∧ ((gS G 1000 35) ≤ (gS G' 1000 35) ∧ (gS G' 1000 35) ≤ (gS G 1000 35) + d)
abbrev feA : List Nat := [a_fKind, a_fA, a_fB, a_fSize, a_fNext, a_fHead, a_fMark, a_thingKind, a_thingA, a_thingB, a_thingC, a_thingNext, a_thingHead, a_nKind, a_nFirst, a_nSecond, a_nThird, a_nWeight, a_isGenerative, a_versions]
abbrev feJ : List Nat := [26, 35, 42, 18, 12]
theorem Agr.sub {ns js ns' js' : List Nat} {G G' : LG} (h : Agr ns js G G') (h1 : ∀ n ∈ ns', n ∈ ns) (h2 : ∀ j ∈ js', j ∈ js) : Agr ns' js' G G' := fun n j q => h n j (q.imp (h1 n) (fun z => ⟨z.1, h2 j z.2⟩))
theorem FE.rf {G : LG} {Hs : List (Int → Int)} (h1 : FU G) (h2 : TH G Hs) : FE G G Hs 0 0 := ⟨h1, FX.rf, h2, TX.rf, by omega, by omega⟩
theorem FE.agr {G G1 G2 : LG} {Hs : List (Int → Int)} {c d : Int} (h : FE G G1 Hs c d) (ha : Agr feA feJ G1 G2) : FE G G2 Hs c d := by
  obtain ⟨h1, h2, h3, h4, h5, h6⟩ := h
  have a1 : Agr tabA [26, 35] G1 G2 := ha.sub (by decide) (by decide)
  have a2 : Agr thA thJ G1 G2 := ha.sub (by decide) (by decide)
  exact ⟨h1.agr a1 (by rw [ha.f (j := 42) (by decide)]; exact Int.le_refl _), h2.trans (FX.agr a1), h3.agr a2, h4.trans (TX.agr a2), by rw [ha.f (j := 26) (by decide)]; exact h5, by rw [ha.f (j := 35) (by decide)]; exact h6⟩
theorem FE.fr {ns js : List Nat} {G G1 G2 : LG} {Hs : List (Int → Int)} {c d : Int} (h : FE G G1 Hs c d) (f : Fr ns js G1 G2) (h1 : ∀ n ∈ feA, n ∉ ns ∧ n ≠ 1000) (h2 : 1000 ∉ ns) (h3 : ∀ j ∈ feJ, j ∉ js) : FE G G2 Hs c d := h.agr (f.agr h1 h2 h3)
theorem FE.trans {G G1 G2 : LG} {Hs : List (Int → Int)} {c d c2 d2 c3 d3 : Int} (h : FE G G1 Hs c d) (k : FE G1 G2 Hs c2 d2) (hc : c + c2 ≤ c3) (hd : d + d2 ≤ d3) : FE G G2 Hs c3 d3 := ⟨k.1, h.2.1.trans k.2.1, k.2.2.1, h.2.2.2.1.trans k.2.2.2.1, by have := h.2.2.2.2.1; have := k.2.2.2.2.1; omega, by have := h.2.2.2.2.2; have := k.2.2.2.2.2; omega⟩
theorem FE.weak {G G1 : LG} {Hs : List (Int → Int)} {c d c3 d3 : Int} (h : FE G G1 Hs c d) (hc : c ≤ c3) (hd : d ≤ d3) : FE G G1 Hs c3 d3 := ⟨h.1, h.2.1, h.2.2.1, h.2.2.2.1, by have := h.2.2.2.2.1; omega, by have := h.2.2.2.2.2; omega⟩
/-- what only makes full types -/
theorem FE.full {ns js : List Nat} {G G1 : LG} {Hs : List (Int → Int)} {c : Int} (h1 : FU G1) (h2 : FX G G1) (h3 : TH G Hs) (hc : (gS G1 1000 26) ≤ (gS G 1000 26) + c) (f : Fr ns js G G1) (g1 : ∀ n ∈ thA, n ∉ ns ∧ n ≠ 1000) (g2 : 1000 ∉ ns) (g3 : ∀ j ∈ thJ, j ∉ js) (g4 : 35 ∉ js) : FE G G1 Hs c 0 := by
  have a2 : Agr thA thJ G G1 := f.agr g1 g2 g3
  have e : (gS G1 1000 35) = (gS G 1000 35) := f.atF g2 g4
  exact ⟨h1, h2, h3.agr a2, TX.agr a2, hc, by omega⟩
theorem FE.puts {G G1 : LG} {Hs : List (Int → Int)} {P : Int → Prop} {w t r : Int} (h : FU G1 ∧ FX G G1 ∧ TH G1 Hs ∧ TX G G1 ∧ (0 ≤ r ∧ r < (gS G1 1000 26)) ∧ (gS G1 1000 26) ≤ (gS G 1000 26) + pcost w ((gS G a_fSize (t).toNat)) ∧ (gS G1 1000 35) = (gS G 1000 35) + 1 ∧ PS G G1 P w t r) {c : Int} (hc : pcost w ((gS G a_fSize (t).toNat)) ≤ c) : FE G G1 Hs c 1 := ⟨h.1, h.2.1, h.2.2.1, h.2.2.2.1, by have := h.2.2.2.2.2.1; omega, by have := h.2.2.2.2.2.2.1; omega⟩
/-- one more bit -/
theorem bset {a z k : Int} {p : Int → Prop} (h : ∀ j : Int, 0 ≤ j → j < 32 → (bitI a j ↔ j < k ∧ p j)) (hk : 0 ≤ k ∧ k < 32) (hz : (¬ p k ∧ z = 0) ∨ (p k ∧ z = i_shl 1 k)) : ∀ j : Int, 0 ≤ j → j < 32 → (bitI (i_or a z) j ↔ j < k + 1 ∧ p j) := by
  intro j j0 j1
  rw [bitI_or j0 j1, h j j0 j1]
  rcases hz with ⟨q, e⟩ | ⟨q, e⟩
  · rw [e]
    constructor
    · intro z; exact z.elim (fun z => ⟨by omega, z.2⟩) (fun z => absurd z (bitI_0 j0 j1))
    · intro z
      by_cases hj : j = k
      · exact absurd (hj ▸ z.2) q
      · exact Or.inl ⟨by omega, z.2⟩
  · rw [e, bitI_shl hk.1 hk.2 j0 j1]
    constructor
    · intro z; exact z.elim (fun z => ⟨by omega, z.2⟩) (fun z => ⟨by omega, z ▸ q⟩)
    · intro z
      by_cases hj : j = k
      · exact Or.inr hj
      · exact Or.inl ⟨by omega, z.2⟩
/-- the solved ones of the names in a -/
def SO (G : LG) (P : Int → Prop) (a : Int) : Prop := ∀ j : Int, 0 ≤ j → j < 6 → bitI a j → (0 ≤ (gS G a_solved (j).toNat) ∧ (gS G a_solved (j).toNat) < (gS G 1000 26)) ∧ (gS G a_fSize ((gS G a_solved (j).toNat)).toNat) ≤ 200 ∧ okS G P ((gS G a_solved (j).toNat))
theorem SO.fx {G G' : LG} {P : Int → Prop} {a : Int} (h : SO G P a) (hx : FX G G') (hf : FU G) (e : ∀ j : Nat, gS G' a_solved j = gS G a_solved j) : SO G' P a := fun j j0 j1 q => by
  obtain ⟨⟨b, c⟩, d, f⟩ := h j j0 j1 q
  rw [e]
  exact ⟨⟨b, by have := hx.1; omega⟩, by rw [(hx.2 _ b c).2.2.2]; exact d, f.fx hx hf b c⟩
abbrev NF : Int → Prop := fun _ => False
theorem fl3 {a b c : Int} (ha : a = 0 ∨ a = 1) (hb : b = 0 ∨ b = 2) (hc : c = 0 ∨ c = 4) (h : i_and (a + b + c) 1 = 0) : a = 0 := by
  rcases ha with ha | ha
  · exact ha
  · exfalso
    subst ha
    rcases hb with hb | hb <;> rcases hc with hc | hc <;> subst hb <;> subst hc <;> revert h <;> decide +kernel
