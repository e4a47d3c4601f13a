/-! STACKS OF PARTS: a row of indices whose weights sum to z -/
def ssum (f : Nat → Int) : Nat → Int
  | 0 => 0
  | n + 1 => ssum f n + f n
theorem ssum_congr {f g : Nat → Int} : ∀ (n : Nat), (∀ j, j < n → f j = g j) → ssum f n = ssum g n := by
  intro n
  induction n with
  | zero => intro _; rfl
  | succ n ih => intro h; show ssum f n + f n = ssum g n + g n; rw [ih (fun j hj => h j (by omega)), h n (by omega)]
theorem ssum_ge {f : Nat → Int} : ∀ (n : Nat), (∀ j, j < n → 1 ≤ f j) → (n : Int) ≤ ssum f n := by
  intro n
  induction n with
  | zero => intro _; exact Int.le_refl _
  | succ n ih => intro h; show ((n + 1 : Nat) : Int) ≤ ssum f n + f n; have := ih (fun j hj => h j (by omega)); have := h n (by omega); omega
def Stk (G Gz : LG) (arr wt : Nat) (lim n z : Int) : Prop := 0 ≤ n ∧ (∀ j : Int, 0 ≤ j → j < n → 0 ≤ gS G arr (j).toNat ∧ gS G arr (j).toNat < lim) ∧ z = ssum (fun j => gS Gz wt (gS G arr j).toNat) n.toNat
theorem Stk.le {G Gz : LG} {arr wt : Nat} {lim n z : Int} (h : Stk G Gz arr wt lim n z) (hw : ∀ x : Int, 0 ≤ x → x < lim → 1 ≤ gS Gz wt (x).toNat) : 0 ≤ n ∧ n ≤ z := by
  obtain ⟨h0, h1, h2⟩ := h
  have h3 := ssum_ge (f := fun j => gS Gz wt (gS G arr j).toNat) n.toNat (fun j hj => by
    have h4 := h1 (j : Int) (by omega) (by omega)
    rw [Int.toNat_natCast] at h4
    exact hw _ h4.1 h4.2)
  omega
theorem Stk.pop {G G' Gz : LG} {arr wt : Nat} {lim n z : Int} (h : Stk G Gz arr wt lim n z) (hn : 0 < n) (hG : ∀ j, gS G' arr j = gS G arr j) : (0 ≤ gS G arr (n - 1).toNat ∧ gS G arr (n - 1).toNat < lim) ∧ Stk G' Gz arr wt lim (n - 1) (z - gS Gz wt (gS G arr (n - 1).toNat).toNat) := by
  obtain ⟨h0, h1, h2⟩ := h
  refine ⟨h1 _ (by omega) (by omega), by omega, fun j j0 j1 => by rw [hG]; exact h1 j j0 (by omega), ?_⟩
  have e : n.toNat = (n - 1).toNat + 1 := by omega
  rw [e] at h2
  have h3 : ssum (fun j => gS Gz wt (gS G' arr j).toNat) (n - 1).toNat = ssum (fun j => gS Gz wt (gS G arr j).toNat) (n - 1).toNat := ssum_congr _ (fun j _ => by rw [hG])
  have h4 : ssum (fun j => gS Gz wt (gS G arr j).toNat) ((n - 1).toNat + 1) = ssum (fun j => gS Gz wt (gS G arr j).toNat) (n - 1).toNat + gS Gz wt (gS G arr (n - 1).toNat).toNat := rfl
  rw [h3, h2, h4]
  omega
theorem Stk.push {G G' Gz : LG} {arr wt : Nat} {lim n z x : Int} (h : Stk G Gz arr wt lim n z) (hx : 0 ≤ x ∧ x < lim) (hG : ∀ j, gS G' arr j = if j = n.toNat then x else gS G arr j) : Stk G' Gz arr wt lim (n + 1) (z + gS Gz wt (x).toNat) := by
  obtain ⟨h0, h1, h2⟩ := h
  refine ⟨by omega, fun j j0 j1 => ?_, ?_⟩
  · rw [hG]
    split
    · exact hx
    · exact h1 j j0 (by omega)
  · have e : (n + 1).toNat = n.toNat + 1 := by omega
    rw [e]
    have h4 : ssum (fun j => gS Gz wt (gS G' arr j).toNat) (n.toNat + 1) = ssum (fun j => gS Gz wt (gS G' arr j).toNat) n.toNat + gS Gz wt (gS G' arr n.toNat).toNat := rfl
    have h3 : ssum (fun j => gS Gz wt (gS G' arr j).toNat) n.toNat = ssum (fun j => gS Gz wt (gS G arr j).toNat) n.toNat := ssum_congr _ (fun j hj => by rw [hG, if_neg (by omega)])
    rw [h4, h3, hG, if_pos rfl, h2]
theorem Stk.same {G G' Gz : LG} {arr wt : Nat} {lim n z : Int} (h : Stk G Gz arr wt lim n z) (hG : ∀ j, gS G' arr j = gS G arr j) : Stk G' Gz arr wt lim n z := by
  obtain ⟨h0, h1, h2⟩ := h
  refine ⟨h0, fun j j0 j1 => by rw [hG]; exact h1 j j0 j1, ?_⟩
  rw [h2]
  exact ssum_congr _ (fun j _ => by rw [hG])
theorem Stk.one {G Gz : LG} {arr wt : Nat} {lim x : Int} (hx : 0 ≤ x ∧ x < lim) (h : gS G arr (0 : Int).toNat = x) : Stk G Gz arr wt lim 1 (gS Gz wt (x).toNat) := by
  refine ⟨by omega, fun j j0 j1 => ?_, ?_⟩
  · have e : j = 0 := by omega
    subst e
    rw [h]
    exact hx
  · show _ = 0 + gS Gz wt (gS G arr 0).toNat
    rw [show gS G arr 0 = x from h]
    omega
theorem FU.setm {G G' : LG} {i : Int} (h : FU G) (e : G' = gset G a_fMark (i).toNat ((gS G 1000 35))) : FU G' := by
  have hfr : Fr [a_fMark] [] G G' := Fr.setA Fr.rf e (by decide)
  obtain ⟨k1, k2, k3, k4, k5⟩ := h
  unfold FU
  rw [hfr.atF (j := 26) (by decide) (by decide), hfr.atF (j := 35) (by decide) (by decide), hfr.atF (j := 42) (by decide) (by decide)]
  simp only [hfr.atA (n := a_fKind) (by decide) (by decide), hfr.atA (n := a_fA) (by decide) (by decide), hfr.atA (n := a_fB) (by decide) (by decide), hfr.atA (n := a_fSize) (by decide) (by decide), hfr.atA (n := a_fNext) (by decide) (by decide), hfr.atA (n := a_fHead) (by decide) (by decide)]
  refine ⟨k1, k2, k3, k4, fun k z0 z1 => ?_⟩
  obtain ⟨x1, x2, x3, x4, x5, x6, x7, x8, x9⟩ := k5 k z0 z1
  refine ⟨x1, x2, x3, x4, x5, x6, x7, ?_, x9⟩
  rw [g_upd e]
  split
  · omega
  · exact x8
theorem FU.bump {G G' : LG} (h : FU G) (ha : Agr tabA [26, 42] G G') (hm : (gS G 1000 35) ≤ (gS G' 1000 35)) : FU G' := by
  obtain ⟨k1, k2, k3, k4, k5⟩ := h
  unfold FU
  rw [ha.f (j := 26) (by decide), ha.f (j := 42) (by decide)]
  simp only [ha.a (n := a_fKind) (by decide), ha.a (n := a_fA) (by decide), ha.a (n := a_fB) (by decide), ha.a (n := a_fSize) (by decide), ha.a (n := a_fNext) (by decide), ha.a (n := a_fHead) (by decide), ha.a (n := a_fMark) (by decide)]
  refine ⟨k1, by omega, k3, k4, fun k z0 z1 => ?_⟩
  obtain ⟨x1, x2, x3, x4, x5, x6, x7, x8, x9⟩ := k5 k z0 z1
  exact ⟨x1, x2, x3, x4, x5, x6, x7, by omega, x9⟩
theorem FX.agf {ns js : List Nat} {G G' : LG} (h : Fr ns js G G') (h1 : ∀ n ∈ [a_fKind, a_fA, a_fB, a_fSize], n ∉ ns ∧ n ≠ 1000) (h2 : 1000 ∉ ns) (h3 : ∀ j ∈ [26], j ∉ js) : FX G G' := by
  have ha : Agr [a_fKind, a_fA, a_fB, a_fSize] [26] G G' := h.agr h1 h2 h3
  exact ⟨by rw [ha.f (j := 26) (by decide)]; exact Int.le_refl _, fun k _ _ => ⟨ha.a (n := a_fKind) (by decide) _, ha.a (n := a_fA) (by decide) _, ha.a (n := a_fB) (by decide) _, ha.a (n := a_fSize) (by decide) _⟩⟩
