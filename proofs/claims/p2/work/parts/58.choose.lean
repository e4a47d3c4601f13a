/-! CHOOSE: stamps for the names whose types differ -/
def BS (G : LG) (v : Int → Int) (n k : Int) : Prop := ∀ j : Int, 0 ≤ j → j < k → ¬ (gS G a_byStamp (j).toNat) = -1 → (0 ≤ (gS G a_byStamp (j).toNat) ∧ (gS G a_byStamp (j).toNat) < (gS G 1000 42)) ∧ stN G v n ((gS G a_byStamp (j).toNat))
theorem BS.fx {G G' : LG} {v : Int → Int} {n k : Int} (h : BS G v n k) (hx : TX G G') (e : ∀ j : Nat, gS G' a_byStamp j = gS G a_byStamp j) : BS G' v n k := fun j j0 j1 => by
  rw [e]
  intro q
  have := h j j0 j1 q
  exact ⟨by have := hx.1; omega, hx.stN this.2⟩
theorem BS.set {G G' : LG} {v : Int → Int} {n k x : Int} (h : BS G v n k) (hk : 0 ≤ k) (e : G' = gset G a_byStamp (k).toNat x) (hv : x = -1 ∨ ((0 ≤ x ∧ x < (gS G 1000 42)) ∧ stN G v n x)) : BS G' v n (k + 1) := fun j j0 j1 => by
  have f : Fr [a_byStamp] [] G G' := Fr.setA Fr.rf e (by decide)
  have ht : TX G G' := TX.agr (f.agr (by decide) (by decide) (by decide))
  by_cases hj : j = k
  · subst hj
    rw [g_at (g_upd e)]
    intro q
    rcases hv with hv | hv
    · exact absurd hv q
    · exact ⟨by have := ht.1; omega, ht.stN hv.2⟩
  · rw [g_ne (g_upd e) (by omega)]
    intro q
    have := h j j0 (by omega) q
    exact ⟨by have := ht.1; omega, ht.stN this.2⟩
theorem CK.st {G G1 : LG} {v : Int → Int} {n k t : Int} (hx : TX G G1) (hkd : (gS G a_nKind (n).toNat) = 4) (hk : 0 ≤ k ∧ k < 6) (ht : key G1 t 10 n k 0) : stN G1 v n t := stN.ck (by rw [hx.nd (n := a_nKind) (by decide)]; exact hkd) ⟨k, hk, ht⟩
theorem mkN.c {G G1 : LG} {v : Int → Int} {n k t : Int} (hx : TX G G1) (hn : 0 ≤ n ∧ n < (gS G 1000 18)) (hkd : (gS G a_nKind (n).toNat) = 4) (hk : 0 ≤ k ∧ k < 6) (ht : key G1 t 10 n k 0) : ∃ m : Int, (0 ≤ m ∧ m < (gS G1 1000 18)) ∧ mkN G1 v m t :=
  ⟨n, ⟨hn.1, by rw [hx.2.1]; exact hn.2⟩, Or.inr (Or.inr (Or.inr ⟨by rw [hx.nd (n := a_nKind) (by decide)]; exact hkd, k, hk, ht⟩))⟩
abbrev nCh : List Nat := [a_byStamp, a_sType, a_fKind, a_fA, a_fB, a_fSize, a_fNext, a_fHead, a_fMark, a_thingKind, a_thingA, a_thingB, a_thingC, a_thingNext, a_thingHead]
abbrev nCw : List Nat := [a_by, a_sValue, a_sFlags, a_sNumber, a_fKind, a_fA, a_fB, a_fSize, a_fNext, a_fHead, a_fMark, a_thingKind, a_thingA, a_thingB, a_thingC, a_thingNext, a_thingHead, a_stackOf, a_fMemo]
