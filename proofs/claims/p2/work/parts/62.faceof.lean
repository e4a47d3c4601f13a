theorem TB.agr {G G' : LG} (h : TB G) (ha : Agr [a_tKind, a_tFirst, a_tSecond, a_tWeight] [0] G G') : TB G' := by
  unfold TB
  rw [ha.f (j := 0) (by decide)]
  simp only [ha.a (n := a_tKind) (by decide), ha.a (n := a_tFirst) (by decide), ha.a (n := a_tSecond) (by decide), ha.a (n := a_tWeight) (by decide)]
  exact h
abbrev uvA : List Nat := [a_versions, a_typeOf, a_valueType, a_valueBy, a_valueFlags]
theorem UV.agr {G G' : LG} (h : UV G) (ha : Agr uvA [0, 6, 12] G G') : UV G' := by
  unfold UV
  rw [ha.f (j := 0) (by decide), ha.f (j := 6) (by decide), ha.f (j := 12) (by decide)]
  simp only [ha.a (n := a_versions) (by decide), ha.a (n := a_typeOf) (by decide), ha.a (n := a_valueType) (by decide), ha.a (n := a_valueBy) (by decide), ha.a (n := a_valueFlags) (by decide)]
  exact h
theorem RW.agr {G G' : LG} (h : RW G) (ha : Agr [a_raw, a_fKind, a_fA, a_fB, a_fSize] [0, 26] G G') (hf : FU G) : RW G' := by
  have hx : FX G G' := ⟨by rw [ha.f (j := 26) (by decide)]; exact Int.le_refl _, fun k _ _ => ⟨ha.a (n := a_fKind) (by decide) _, ha.a (n := a_fA) (by decide) _, ha.a (n := a_fB) (by decide) _, ha.a (n := a_fSize) (by decide) _⟩⟩
  exact h.fx hx hf (fun j => ha.a (n := a_raw) (by decide) _) (ha.f (by decide))
theorem nPart.fr {ns js : List Nat} {G G' : LG} (h : Fr ns js G G') (h1 : a_nFirst ∉ ns) (h2 : a_nSecond ∉ ns) (h3 : a_nThird ∉ ns) (n k : Int) : nPart G' n k = nPart G n k := by unfold nPart; rw [h.atA h1 (by decide), h.atA h2 (by decide), h.atA h3 (by decide)]
theorem nMany.fr {ns js : List Nat} {G G' : LG} (h : Fr ns js G G') (h1 : a_nKind ∉ ns) (n : Int) : nMany G' n = nMany G n := by unfold nMany; rw [h.atA h1 (by decide)]
theorem verC.fr {ns js : List Nat} {G G' : LG} (h : Fr ns js G G') (h1 : a_nFirst ∉ ns) (h2 : a_nSecond ∉ ns) (h3 : a_versions ∉ ns) (n : Int) : verC G' n = verC G n := by unfold verC; rw [h.atA h1 (by decide), h.atA h2 (by decide), h.atA h3 (by decide)]
theorem ncost.k {G : LG} {n : Int} : ((gS G a_nKind (n).toNat) = 0 → ncost G n = 370) ∧ ((gS G a_nKind (n).toNat) = 1 → ncost G n = 3168) ∧ ((gS G a_nKind (n).toNat) = 2 → ncost G n = 3174) ∧ ((gS G a_nKind (n).toNat) = 3 → ncost G n = 6368) ∧ ((gS G a_nKind (n).toNat) = 4 → ncost G n = 4007) := by
  unfold ncost
  refine ⟨fun q => if_pos q, fun q => ?_, fun q => ?_, fun q => ?_, fun q => ?_⟩ <;> rw [q] <;> rfl
theorem nMany.k {G : LG} {n : Int} : (1 ≤ (gS G a_nKind (n).toNat) → 0 < nMany G n) ∧ (1 ≤ (gS G a_nKind (n).toNat) ∧ (gS G a_nKind (n).toNat) ≤ 4 → 1 < nMany G n) ∧ ((gS G a_nKind (n).toNat) = 4 → 2 < nMany G n) := by
  unfold nMany
  refine ⟨fun q => ?_, fun q => ?_, fun q => ?_⟩ <;> split <;> (try split) <;> (try split) <;> omega
