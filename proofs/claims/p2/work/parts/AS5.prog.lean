/-! THE CLASS: what has been made grows -/
/-- cells that the making of types, expressions and versions lets alone -/
def spq (c : Nat) : Bool := (spc c || c == 323 || c == 324) && c != 202 && c != 203 && c != 501 && c != 517 && c != 521 && c != 522 && c != 523 && c != 524 && c != 525 && c != 527 && c != 530
theorem spq_n {n x : Nat} (hs : spq (cde n) = false) (hx : spq (cde x) = true) : x ≠ n := fun e => by rw [e, hs] at hx; exact absurd hx (by decide)
theorem HL_sq : ∀ h ∈ HL, spq (cde h.1) = true := by decide +kernel
theorem RLC.prog {a b : Nat} {G G' : LG} (h : RLC a b G) (hS : ∀ z, spq (cde z) = true → gS G' z = gS G z) (hK : gK G' = gK G) (hc : gc G' = gc G) (hs : gs G' = gs G) (h6 : E6 G') (h8 : E8 G') (h9 : E9 G') : RLC a b G' := by
  obtain ⟨h1, h2, h3, h4, h5, -, -, -, hd, ha⟩ := h
  have s4 := hS 327685 (by decide)
  refine ⟨fun x hx hx2 => ?_, h2.cg (fun z hz => hS z ?_) hK, h3.cg (hS 327684 (by decide)) hK, ?_, h5.cg (fun z hz => hS z ?_) hK, h6, h8, h9, ⟨fun x hx => ?_, ?_⟩, ?_⟩
  · rw [hK] at hx
    rw [hS x (by rcases hx2 with q | q <;> rw [q] <;> rfl), hK]; exact h1 x hx hx2
  · rcases hz with rfl | rfl | q
    · decide
    · decide
    · rw [q]; rfl
  · obtain ⟨q, L, a1, a2, a3, a4, a5⟩ := h4
    refine ⟨q, L, ?_⟩
    rw [s4, hK]
    refine ⟨a1, a2, a3, a4, fun j hj => ?_⟩
    rcases a2 with a2 | a2
    · rw [hS q (by rw [a2]; rfl)]; exact a5 j hj
    · omega
  · rcases hz with rfl | rfl | q
    · decide
    · decide
    · have q2 : cde z = 321 ∨ cde z = 322 ∨ cde z = 323 ∨ cde z = 324 ∨ cde z = 307 ∨ cde z = 315 := by omega
      rcases q2 with q | q | q | q | q | q <;> rw [q] <;> rfl
  · rw [hc] at hx; rw [hK]; exact hd.1 x hx
  · rw [s4, hK]; exact hd.2
  · have e : ∀ f, Sm f G' = Sm f G := fun f => by
      unfold Sm
      congr 1
      refine List.map_congr_left (fun m hm => ?_)
      unfold ln
      rw [hK, hS m.1 (HL_sq m hm)]
    unfold AC
    rw [hc, hs, e, e]; exact ha
theorem CI.prog {a b : Nat} {G : LG} {n j : Nat} {v : Int} (h : CI a b G) (hn : spq (cde n) = false) (hv : tv (cde n) (n % 1048576) j v) (h6 : E6 (gset G n j v)) (h8 : E8 (gset G n j v)) (h9 : E9 (gset G n j v)) : CI a b (gset G n j v) :=
  ⟨h.1.set hv, h.2.prog (fun z hz => by funext y; exact gset_ne _ _ (fun q => spq_n hn hz q.1)) rfl rfl rfl h6 h8 h9⟩
theorem E8.fr {G G' : LG} (h : E8 G) (hS : ∀ z, z = 327681 ∨ z = 327697 ∨ cde z = 202 ∨ cde z = 203 → gS G' z = gS G z) : E8 G' := by
  refine ⟨fun j k hj hk => ?_, ?_⟩
  · rw [hS (131072 + 64 * j + 2) (by rw [cde_v (by omega) (by omega)]; omega), hS (131072 + 64 * j + 3) (by rw [cde_v (by omega) (by omega)]; omega), hS 327681 (Or.inl rfl)]
    exact h.1 j k hj hk
  · rw [hS 327681 (Or.inl rfl), hS 327697 (Or.inr (Or.inl rfl))]; exact h.2
theorem E9.fr {G G' : LG} (h : E9 G) (hS : ∀ z, z = 327685 ∨ z = 327710 ∨ cde z = 100 ∨ cde z = 63 → gS G' z = gS G z) (hK : gK G' = gK G) (hu : gS G 327681 15 ≤ gS G' 327681 15) : E9 G' := by
  intro i hi
  rw [hS 327685 (Or.inl rfl)] at hi
  obtain ⟨pa, p1, p2, ⟨p3, p4⟩, p5, p6, p7, p8⟩ := h i hi
  have hn := hS (65536 + 64 * i) (Or.inr (Or.inr (Or.inl (by rw [cde_n (by omega) (by omega)]; omega))))
  have hp := hS pa (Or.inr (Or.inr (Or.inr p2)))
  refine ⟨pa, ?_⟩
  rw [hn, hp, hK, hS 327710 (Or.inr (Or.inl rfl))]
  exact ⟨p1, p2, ⟨p3, p4⟩, p5, p6, fun q => ⟨⟨(p7 q).1.1, Int.lt_of_lt_of_le (p7 q).1.2 hu⟩, (p7 q).2⟩, p8⟩
/-- beyond what counts, expressions' rows may be written -/
theorem E6.past {G : LG} {x j : Nat} {v : Int} (h : E6 G) (hx : x ≠ 327681) (hj : gS G 327681 12 ≤ (j : Int)) : E6 (gset G x j v) := by
  intro e h0 h1
  rw [gset_ne _ _ (fun q => hx q.1.symm)] at h1
  have f : ∀ (y i : Nat), (i : Int) < gS G 327681 12 → gS (gset G x j v) y i = gS G y i := fun y i hi => gset_ne _ _ (fun q => by omega)
  obtain ⟨b1, b2, b3, b4, b5, b6, b7, b8⟩ := h e h0 h1
  have c := b2
  rw [f 327701 e.toNat (by omega), f 327702 e.toNat (by omega), f 327703 e.toNat (by omega), f 327704 e.toNat (by omega), f 327705 e.toNat (by omega), f 327707 e.toNat (by omega)]
  refine ⟨b1, b2, b3, b4, b5, fun k => ?_, b7, b8.1, ?_⟩
  · have c := b2 k
    have s2 : (if gS G 327703 e.toNat < 0 then (0 : Int) else gS (gset G x j v) 327705 (gS G 327703 e.toNat).toNat) = (if gS G 327703 e.toNat < 0 then 0 else gS G 327705 (gS G 327703 e.toNat).toNat) := by
      split
      · rfl
      · exact f _ _ (by omega)
    have s3 : (if gS G 327704 e.toNat < 0 then (0 : Int) else gS (gset G x j v) 327705 (gS G 327704 e.toNat).toNat) = (if gS G 327704 e.toNat < 0 then 0 else gS G 327705 (gS G 327704 e.toNat).toNat) := by
      split
      · rfl
      · exact f _ _ (by omega)
    rw [f 327705 (gS G 327702 e.toNat).toNat (by omega), s2, s3]; exact b6 k
  · have h9 := b8.1
    rw [f 327705 (gS G 327707 e.toNat).toNat (by omega)]; exact b8.2
theorem CI.exprPut {a b : Nat} {G : LG} {x j : Nat} {v : Int} (h : CI a b G) (hx : (521 ≤ cde x ∧ cde x ≤ 525) ∨ cde x = 527) (hx2 : x < 1048576) (hj : gS G 327681 12 ≤ (j : Int)) (hv : tv (cde x) (x % 1048576) j v) : CI a b (gset G x j v) := by
  have hne : x ≠ 327681 := fun q => by rw [q] at hx; revert hx; decide
  have f : ∀ z, (cde z < 521 ∨ cde z = 526 ∨ 527 < cde z) → gS (gset G x j v) z = gS G z := fun z hz => by funext y; exact gset_ne _ _ (fun q => by rw [q.1] at hz; omega)
  refine h.prog ?_ hv (h.2.2.2.2.2.2.1.past hne hj) (h.2.2.2.2.2.2.2.1.fr (fun z hz => f z ?_)) (h.2.2.2.2.2.2.2.2.1.fr (fun z hz => f z ?_) rfl (by rw [f 327681 (by decide)]; exact Int.le_refl _))
  · have q : cde x = 521 ∨ cde x = 522 ∨ cde x = 523 ∨ cde x = 524 ∨ cde x = 525 ∨ cde x = 527 := by omega
    rcases q with q | q | q | q | q | q <;> rw [q] <;> rfl
  · rcases hz with rfl | rfl | q | q
    · decide
    · decide
    · omega
    · omega
  · rcases hz with rfl | rfl | q | q
    · decide
    · decide
    · omega
    · omega
/-- one expression more -/
theorem CI.exprEnd {a b : Nat} {G : LG} {c : Int} (h : CI a b G) (hc : gS G 327681 12 = c) (h0 : 0 ≤ c ∧ c < 120)
    (hb : (gS G 327701 c.toNat = 6 → 0 ≤ gS G 327702 c.toNat ∧ gS G 327702 c.toNat ≤ 9) ∧ (gS G 327701 c.toNat ≤ 4 → (0 ≤ gS G 327702 c.toNat ∧ gS G 327702 c.toNat < c) ∧ gS G 327703 c.toNat < c ∧ gS G 327704 c.toNat < c) ∧ (gS G 327701 c.toNat = 0 ∨ gS G 327701 c.toNat = 1 ∨ gS G 327701 c.toNat = 4 → 0 ≤ gS G 327703 c.toNat) ∧ (gS G 327701 c.toNat = 4 → 0 ≤ gS G 327704 c.toNat) ∧
      (5 ≤ gS G 327701 c.toNat → gS G 327703 c.toNat = -1 ∧ gS G 327704 c.toNat = -1 ∧ gS G 327705 c.toNat = 1) ∧ (gS G 327701 c.toNat ≤ 4 → gS G 327705 c.toNat = 1 + gS G 327705 (gS G 327702 c.toNat).toNat + (if gS G 327703 c.toNat < 0 then 0 else gS G 327705 (gS G 327703 c.toNat).toNat) + (if gS G 327704 c.toNat < 0 then 0 else gS G 327705 (gS G 327704 c.toNat).toNat)) ∧ (1 ≤ gS G 327705 c.toNat ∧ gS G 327705 c.toNat ≤ 12) ∧ (gS G 327707 c.toNat ≤ c ∧ gS G 327705 (gS G 327707 c.toNat).toNat = gS G 327705 c.toNat)) : CI a b (gset G 327681 12 (c + 1)) := by
  have f : ∀ z, z ≠ 327681 → gS (gset G 327681 12 (c + 1)) z = gS G z := fun z hz => by funext y; exact gset_ne _ _ (fun q => hz q.1)
  have g12 : gS (gset G 327681 12 (c + 1)) 327681 12 = c + 1 := gset_at _ _ _ _
  have g4 : gS (gset G 327681 12 (c + 1)) 327681 4 = gS G 327681 4 := gset_ne _ _ (fun q => absurd q.2 (by decide))
  have g15 : gS (gset G 327681 12 (c + 1)) 327681 15 = gS G 327681 15 := gset_ne _ _ (fun q => absurd q.2 (by decide))
  refine h.prog (by decide) (show 0 ≤ c + 1 ∧ c + 1 ≤ 120 by omega) (fun e e0 e1 => ?_) ⟨fun j k hj hk hv => ?_, ?_⟩ (h.2.2.2.2.2.2.2.2.1.fr (fun z hz => f z ?_) rfl (by rw [g15]; exact Int.le_refl _))
  · rw [g12] at e1
    rw [f 327701 (by decide), f 327702 (by decide), f 327703 (by decide), f 327704 (by decide), f 327705 (by decide), f 327707 (by decide)]
    by_cases w : e = c
    · rw [w]; exact hb
    · exact h.2.2.2.2.2.2.1 e e0 (by omega)
  · rw [f (131072 + 64 * j + 2) (by omega)] at hv ⊢
    rw [f (131072 + 64 * j + 3) (by omega), g12, g4]
    have h9 := h.2.2.2.2.2.2.2.1.1 j k hj hk hv
    omega
  · rw [g4, f 327697 (by decide)]; exact h.2.2.2.2.2.2.2.1.2
  · rcases hz with rfl | rfl | q | q
    · decide
    · decide
    · intro z9; rw [z9] at q; revert q; decide
    · intro z9; rw [z9] at q; revert q; decide
/-- the size of a type that does not count yet; one type more -/
theorem CI.typePut {a b : Nat} {G : LG} {j : Nat} {v : Int} (h : CI a b G) (hj : gS G 327681 4 ≤ (j : Int)) (hv : 0 ≤ v ∧ v ≤ 12) : CI a b (gset G 327697 j v) := by
  have f : ∀ z, z ≠ 327697 → gS (gset G 327697 j v) z = gS G z := fun z hz => by funext y; exact gset_ne _ _ (fun q => hz q.1)
  have fc : ∀ z, cde z ≠ 517 → z ≠ 327697 := fun z hz q => hz (by rw [q]; decide)
  refine h.prog (by decide) hv ?_ ⟨?_, fun t t0 t1 => ?_⟩ (h.2.2.2.2.2.2.2.2.1.fr (fun z hz => f z (fc z ?_)) rfl (by rw [f 327681 (by decide)]; exact Int.le_refl _))
  · intro e e0 e1
    rw [f 327681 (by decide)] at e1
    rw [f 327701 (by decide), f 327702 (by decide), f 327703 (by decide), f 327704 (by decide), f 327705 (by decide), f 327707 (by decide)]
    exact h.2.2.2.2.2.2.1 e e0 e1
  · intro j2 k hj2 hk
    rw [f (131072 + 64 * j2 + 2) (by omega), f (131072 + 64 * j2 + 3) (by omega), f 327681 (by decide)]
    exact h.2.2.2.2.2.2.2.1.1 j2 k hj2 hk
  · rw [f 327681 (by decide)] at t1
    rw [gset_ne _ _ (fun q => by have := q.2; omega)]
    exact h.2.2.2.2.2.2.2.1.2 t t0 t1
  · rcases hz with rfl | rfl | q | q
    · decide
    · decide
    · omega
    · omega
theorem CI.typeEnd {a b : Nat} {G : LG} {c : Int} (h : CI a b G) (hc : gS G 327681 4 = c) (h0 : 0 ≤ c ∧ c < 60) (hb : 1 ≤ gS G 327697 c.toNat) : CI a b (gset G 327681 4 (c + 1)) := by
  have f : ∀ z, z ≠ 327681 → gS (gset G 327681 4 (c + 1)) z = gS G z := fun z hz => by funext y; exact gset_ne _ _ (fun q => hz q.1)
  have g4 : gS (gset G 327681 4 (c + 1)) 327681 4 = c + 1 := gset_at _ _ _ _
  have g12 : gS (gset G 327681 4 (c + 1)) 327681 12 = gS G 327681 12 := gset_ne _ _ (fun q => absurd q.2 (by decide))
  have g15 : gS (gset G 327681 4 (c + 1)) 327681 15 = gS G 327681 15 := gset_ne _ _ (fun q => absurd q.2 (by decide))
  refine h.prog (by decide) (show 0 ≤ c + 1 ∧ c + 1 ≤ 60 by omega) (fun e e0 e1 => ?_) ⟨fun j k hj hk hv => ?_, fun t t0 t1 => ?_⟩ (h.2.2.2.2.2.2.2.2.1.fr (fun z hz => f z ?_) rfl (by rw [g15]; exact Int.le_refl _))
  · rw [g12] at e1
    rw [f 327701 (by decide), f 327702 (by decide), f 327703 (by decide), f 327704 (by decide), f 327705 (by decide), f 327707 (by decide)]
    exact h.2.2.2.2.2.2.1 e e0 e1
  · rw [f (131072 + 64 * j + 2) (by omega)] at hv ⊢
    rw [f (131072 + 64 * j + 3) (by omega), g12, g4]
    have h9 := h.2.2.2.2.2.2.2.1.1 j k hj hk hv
    omega
  · rw [g4] at t1
    rw [f 327697 (by decide)]
    by_cases w : t = c
    · rw [w]; exact hb
    · exact h.2.2.2.2.2.2.2.1.2 t t0 (by omega)
  · rcases hz with rfl | rfl | q | q
    · decide
    · decide
    · intro z9; rw [z9] at q; revert q; decide
    · intro z9; rw [z9] at q; revert q; decide
/-- one unit more; edits are told -/
theorem CI.progF {a b : Nat} {G : LG} {k : Nat} {v : Int} (h : CI a b G) (hk : k = 15 ∨ k = 17) (hv : tv 501 (327681 % 1048576) k v) (hu : k = 15 → gS G 327681 15 ≤ v) : CI a b (gset G 327681 k v) := by
  have f : ∀ z, z ≠ 327681 → gS (gset G 327681 k v) z = gS G z := fun z hz => by funext y; exact gset_ne _ _ (fun q => hz q.1)
  have g4 : gS (gset G 327681 k v) 327681 4 = gS G 327681 4 := gset_ne _ _ (fun q => by omega)
  have g12 : gS (gset G 327681 k v) 327681 12 = gS G 327681 12 := gset_ne _ _ (fun q => by omega)
  have g15 : gS G 327681 15 ≤ gS (gset G 327681 k v) 327681 15 := by
    rcases hk with rfl | rfl
    · rw [gset_at]; exact hu rfl
    · rw [gset_ne _ _ (fun q => absurd q.2 (by decide))]; exact Int.le_refl _
  refine h.prog (by decide) hv (fun e e0 e1 => ?_) ⟨fun j k hj hk hv => ?_, fun t t0 t1 => ?_⟩ (h.2.2.2.2.2.2.2.2.1.fr (fun z hz => f z ?_) rfl g15)
  · rw [g12] at e1
    rw [f 327701 (by decide), f 327702 (by decide), f 327703 (by decide), f 327704 (by decide), f 327705 (by decide), f 327707 (by decide)]
    exact h.2.2.2.2.2.2.1 e e0 e1
  · rw [f (131072 + 64 * j + 2) (by omega)] at hv ⊢
    rw [f (131072 + 64 * j + 3) (by omega), g12, g4]
    exact h.2.2.2.2.2.2.2.1.1 j k hj hk hv
  · rw [g4] at t1
    rw [f 327697 (by decide)]
    exact h.2.2.2.2.2.2.2.1.2 t t0 t1
  · rcases hz with rfl | rfl | q | q
    · decide
    · decide
    · intro z9; rw [z9] at q; revert q; decide
    · intro z9; rw [z9] at q; revert q; decide
theorem CI.verEnd {a b : Nat} {G : LG} {u : Nat} {c : Int} (h : CI a b G) (hc : gS G 327710 u = c) (h0 : 0 ≤ c ∧ c < 5) : CI a b (gset G 327710 u (c + 1)) := by
  have f : ∀ z, z ≠ 327710 → gS (gset G 327710 u (c + 1)) z = gS G z := fun z hz => by funext y; exact gset_ne _ _ (fun q => hz q.1)
  refine h.prog (by decide) (show 0 ≤ c + 1 ∧ c + 1 ≤ 5 by omega) (fun e e0 e1 => ?_) (h.2.2.2.2.2.2.2.1.fr (fun z hz => f z ?_)) (fun i hi => ?_)
  · rw [f 327681 (by decide)] at e1
    rw [f 327701 (by decide), f 327702 (by decide), f 327703 (by decide), f 327704 (by decide), f 327705 (by decide), f 327707 (by decide)]
    exact h.2.2.2.2.2.2.1 e e0 e1
  · rcases hz with rfl | rfl | q | q
    · decide
    · decide
    · intro z9; rw [z9] at q; revert q; decide
    · intro z9; rw [z9] at q; revert q; decide
  · rw [f 327685 (by decide)] at hi
    obtain ⟨pa, p1, p2, ⟨p3, p4⟩, p5, p6, p7, p8⟩ := h.2.2.2.2.2.2.2.2.1 i hi
    refine ⟨pa, ?_⟩
    rw [f (65536 + 64 * i) (by omega), f pa (fun q => by rw [q] at p2; revert p2; decide), f 327681 (by decide)]
    refine ⟨p1, p2, ⟨p3, p4⟩, p5, p6, fun q => ?_, p8⟩
    have h9 := p7 q
    by_cases w : (gS G (65536 + 64 * i) 3).toNat = u
    · rw [w, hc] at h9
      rw [w, gset_at]; exact ⟨h9.1, by omega, by omega, by omega⟩
    · rw [gset_ne _ _ (fun q => w q.2)]; exact h9
/-- units that are there have versions, the others none -/
def UCn (G : LG) : Prop := ∀ u : Nat, u < 8 → ((u : Int) < gS G 327681 15 → 1 ≤ gS G 327710 u) ∧ (gS G 327681 15 ≤ (u : Int) → gS G 327710 u = 0)
