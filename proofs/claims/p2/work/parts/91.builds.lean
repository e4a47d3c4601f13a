/-! WHAT A BUILD LEAVES -/
theorem BI.s {G G' : LG} (h : BI G) {n v : Int} (n0 : 0 ≤ n) (e : G' = gset G a_seenMany (n).toNat v) (hv : 0 ≤ v ∧ v ≤ 9900) : BI G' := by
  intro j j0 j1
  have h9 := h j j0 j1
  rw [show gS G' a_faceMany (j).toNat = gS G a_faceMany (j).toNat from gsnE e (by decide)]
  by_cases hj : j = n
  · subst hj
    rw [g_at (g_upd e)]
    exact ⟨hv, h9.2⟩
  · rw [g_ne (g_upd e) (by omega)]
    exact h9
theorem BI.f {G G' : LG} (h : BI G) {n v : Int} (n0 : 0 ≤ n) (e : G' = gset G a_faceMany (n).toNat v) (hv : 0 ≤ v ∧ v ≤ 3400) : BI G' := by
  intro j j0 j1
  have h9 := h j j0 j1
  rw [show gS G' a_seenMany (j).toNat = gS G a_seenMany (j).toNat from gsnE e (by decide)]
  by_cases hj : j = n
  · subst hj
    rw [g_at (g_upd e)]
    exact ⟨h9.1, hv⟩
  · rw [g_ne (g_upd e) (by omega)]
    exact h9
theorem FP.rs {G G' : LG} {Hs : List (Int → Int)} {vv : Int → Int} {u : Int} (h : FP G G' Hs vv u) (hN : ND G) : ∃ S : Int → Prop, (∀ m : Int, 0 ≤ m → m < (gS G' 1000 18) → bitL u m → S m) ∧ ∀ m : Int, S m → (0 ≤ m ∧ m < (gS G' 1000 18)) ∧ RS1 G' m ∧ ∀ k : Int, 0 ≤ k → k < nMany G' m → S (nPart G' m k) := by
  obtain ⟨h1, h2, h3, h4, a, ha, hd⟩ := h
  have en : (gS G' 1000 18) = (gS G 1000 18) := h3.2.1
  have h40 := hN.1
  refine ⟨fun m => (0 ≤ m ∧ m < (gS G' 1000 18)) ∧ bitL a m, fun m m0 m1 q => ⟨⟨m0, m1⟩, ha.1 m m0 (by omega) q⟩, fun m hm => ?_⟩
  obtain ⟨⟨m0, m1⟩, hb⟩ := hm
  have hf := hd m m0 (by omega) hb
  have e1 : nMany G' m = nMany G m := by unfold nMany; rw [h3.nd (n := a_nKind) (by decide)]
  have e2 : ∀ k, nPart G' m k = nPart G m k := fun k => by unfold nPart; rw [h3.nd (n := a_nFirst) (by decide), h3.nd (n := a_nSecond) (by decide), h3.nd (n := a_nThird) (by decide)]
  refine ⟨⟨m0, m1⟩, hf.rs1, fun k k0 k1 => ?_⟩
  have hp := hN.part (n := m) (k := k) m0 (by omega) k0 (by rw [← e1]; exact k1)
  refine ⟨by rw [e2]; omega, ?_⟩
  rw [e2]
  exact ha.2.1 m m0 (by omega) hb k k0 (by rw [← e1]; exact k1)
