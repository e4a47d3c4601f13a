/-! THE CLASS: values: cells' states -/
theorem HL_s7 : ∀ h ∈ HL, (cde h.1 != 307 && cde h.1 != 315) = true := by decide +kernel
/-- a cell's state, a result: no value beyond the rows -/
theorem CI.state {a b : Nat} {G : LG} {x o j : Nat} {v : Int} (h : CI a b G) (ho : isVl o) (hx : x = o - 13 ∨ x = o - 5) (hv : v < lenV G o) : CI a b (gset G x j v) := by
  have hcx : cde x = 307 ∨ cde x = 315 := by rcases ho with rfl | rfl <;> rcases hx with rfl | rfl <;> decide
  have key : ∀ k, (k = 196628 ∨ k = 196692) → (k - 13 = x ∨ k - 5 = x) → k = o := by
    intro k hk hz
    rcases ho with rfl | rfl <;> rcases hx with rfl | rfl <;> rcases hk with rfl | rfl <;> first | rfl | (exfalso; revert hz; decide)
  have hxv : x < 1048576 := by rcases ho with rfl | rfl <;> rcases hx with rfl | rfl <;> decide
  clear ho hx
  have f : ∀ z y, z ≠ x → gS (gset G x j v) z y = gS G z y := fun z y hz => gset_ne _ _ (fun q => hz q.1)
  have fc : ∀ z, cde z ≠ 307 → cde z ≠ 315 → z ≠ x := fun z y1 y2 q => by
    rw [q] at y1 y2
    rcases hcx with w | w
    · exact y1 w
    · exact y2 w
  have h2 : E2 (gset G x j v) := h.2.2.1.cg (fun z hz => by
    funext y
    refine f z y ?_
    rcases hz with z1 | z1 | z1
    · rw [z1]; exact fc _ (by decide) (by decide)
    · rw [z1]; exact fc _ (by decide) (by decide)
    · exact fc z (by rw [z1]; decide) (by rw [z1]; decide)) rfl
  have h3 : E3 (gset G x j v) := h.2.2.2.1.cg (by funext y; exact f _ y (fc _ (by decide) (by decide))) rfl
  have h5 : E5 (gset G x j v) := by
    intro k hk9
    obtain ⟨p0, p1, p2, p3, L0, L1, L2, L3, B, ⟨⟨a0, a1, a2, a3⟩, w⟩, ⟨b0, b1, b2, b3⟩, ⟨c0, c1, c2, c3⟩, ⟨⟨d0, d1, d2, d3, d4⟩, e⟩, g, i, l⟩ := h.2.2.2.2.2.1 k hk9
    have hck : cde k = 320 := by rcases hk9 with rfl | rfl <;> decide
    have n0 : p0 ≠ x := fc p0 (by rw [b0]; decide) (by rw [b0]; decide)
    have n1 : p1 ≠ x := fc p1 (by rw [b1]; decide) (by rw [b1]; decide)
    have nk : k ≠ x := fc k (by rw [hck]; decide) (by rw [hck]; decide)
    have hB : k = o → v < (B : Int) := fun q => by
      subst q
      unfold lenV at hv
      rw [a0, Int.toNat_natCast, c0] at hv
      rw [d1]; exact hv
    refine ⟨p0, p1, p2, p3, L0, L1, L2, L3, B, by rw [f k _ nk, f k _ nk, f k _ nk, f k _ nk]; exact ⟨⟨a0, a1, a2, a3⟩, w⟩, ⟨b0, b1, b2, b3⟩, ⟨c0, c1, c2, c3⟩, ⟨⟨d0, d1, d2, d3, d4⟩, by rw [f k _ nk]; exact e⟩, fun t t0 t1 => by rw [f p1 _ n1, f p0 _ n0]; exact g t t0 t1, fun s hs => ?_, fun s hs => ?_⟩
    · by_cases hz : k - 13 = x ∧ s = j
      · rw [hz.1, hz.2, gset_at]; exact hB (key k hk9 (Or.inl hz.1))
      · rw [gset_ne _ _ hz]; exact i s hs
    · by_cases hz : k - 5 = x ∧ s = j
      · rw [hz.1, hz.2, gset_at]; exact hB (key k hk9 (Or.inr hz.1))
      · rw [gset_ne _ _ hz]; exact l s hs
  refine ⟨h.1.set (by rcases hcx with q | q <;> rw [q] <;> exact True.intro), h.2.hold (fun z z1 z2 z3 z4 z5 z6 z7 => by funext y; exact f z y (fun q => z7 (by rw [q]; exact Or.inr hcx))) rfl rfl h2 h3 h5 ?_⟩
  have h9 := h.2.2.2.2.2.2.2.2.2.2
  have e := Sm_same (G := G) (G' := gset G x j v) rfl (fun m hm => f m.1 m.2 (fun q => by
    have h7 := HL_s7 m hm
    rw [q] at h7
    rcases hcx with w | w <;> rw [w] at h7 <;> exact absurd h7 (by decide)))
  exact ⟨by rw [e]; exact h9.1, by rw [e]; exact h9.2⟩
