/-! THE CLASS: the face of a unit -/
theorem FPo.size0 {P : Int → Prop} {S : Nat → Prop} {G G' : LG} {o p : Nat} (h : FPo P G o p) (kx : KX G G') (h3 : gS G' (o + 3) p = gS G (o + 3) p) (h4 : gS G' (o + 4) p = 0) : FPo P G' o p := by
  obtain ⟨q, L, a1, a2, a3, a4, a5⟩ := h
  exact ⟨q, L, h3.trans a1, a2, kx.k a3 (by decide), by rw [h4]; omega, fun j hj => by rw [h4] at hj; omega⟩
/-- the parts of the types that are made are small -/
abbrev SMP (P : Int → Prop) : Prop := ∀ x : Int, 0 ≤ x → x ≤ 7 → P x
theorem RPs.tr {P : Int → Prop} {a b : Nat} {G : LG} {q L : Nat} {n : Int} (hC : CI a b G) (hq : 393216 ≤ q % 1048576) (hk : gK G q = (1, L)) (hP : SMP P) (hn : n ≤ (L : Int)) : RPs P G q n := fun j hj => by
  have al : (gK G q).1 ≠ 0 := by rw [hk]; exact Nat.succ_ne_zero 0
  have h9 : 0 ≤ gS G q j ∧ gS G q j ≤ 7 := hC.1.v (c := 600) (j := j) (cde_t hq) al (by rw [hk]; show j < L; omega)
  exact ⟨al, hP _ h9.1 h9.2⟩
theorem TLP.zero {P : Int → Prop} {G : LG} {o k : Nat} (h : gS G (o + 2) k = 0) : TLP P G o k := RPs.zero (by omega)
theorem FIP.zero {P : Int → Prop} {G : LG} {o k : Nat} (h : gS G (o + 5) k = 0) : FIP P G o k := fun _ => RPs.zero (by omega)
/-- a face's place after a row was put at one -/
theorem FPa.put {P : Int → Prop} {S : Nat → Prop} {G G' : LG} {o r : Nat} {p n N : Int} (h : PRW G G' o p r n N) (hF : FPa P G o) (hr : 0 ≤ n → n ≤ N → RPs P G r n) (kx : KX G G') (wx : WX S G G') (hs : ∀ p2 : Nat, p2 < 16 → p2 ≠ p.toNat → ¬ S (o + 7 + p2)) : FPa P G' o := fun p2 hp2 => by
  by_cases e : p2 = p.toNat
  · exact h.all (hF p2 hp2) hr kx wx (Or.inl e)
  · exact h.all (hF p2 hp2) hr kx wx (Or.inr (hs p2 hp2 e))
/-- nothing of a face's rows has changed -/
theorem FPa.wx {P : Int → Prop} {S : Nat → Prop} {G G' : LG} {o : Nat} (h : FPa P G o) (kx : KX G G') (wx : WX S G G') (al : (gK G (o + 3)).1 ≠ 0 ∧ (gK G (o + 4)).1 ≠ 0) (h3 : ¬ S ((o + 3) % 1048576)) (h4 : ¬ S ((o + 4) % 1048576)) (hs : ∀ p, p < 16 → ¬ S (o + 7 + p)) : FPa P G' o := fun p hp => (h p hp).wo kx wx (hs p hp) h3 h4 al.1 al.2
/-- a value's row is put: it is as long as a part at least -/
theorem FSZ.put {G G' : LG} {o r : Nat} {k n N : Int} (h : FSZ G o) (hp : PRW G G' o (6 + k) r n N) (hn : 1 ≤ n ∧ n ≤ N) (hk : 0 ≤ k) (hv : ∀ j, j ≠ k.toNat → gS G' (o + 2) j = gS G (o + 2) j) (kx : KX G G') : FSZ G' o := by
  refine ⟨⟨kx.al h.1.1, kx.al h.1.2⟩, fun j hj h0 => ?_⟩
  by_cases e : j = k.toNat
  · have h9 := (hp.1 ⟨by omega, hn.2⟩).2
    rw [show 6 + j = (6 + k).toNat by omega, h9]; exact hn.1
  · rw [hv j e] at h0
    rw [(hp.2.2 (6 + j) (by omega)).2]
    exact h.2 j hj h0
theorem FSZ.zero {G : LG} {o : Nat} (h : FCA G o) (h0 : ∀ k : Nat, k < 10 → gS G (o + 2) k = 0) : FSZ G o := ⟨⟨by rw [h.1.2.2.1]; exact Nat.succ_ne_zero 0, by rw [h.1.2.2.2.2.1]; exact Nat.succ_ne_zero 0⟩, fun k hk h => absurd (h0 k hk) h⟩
