/-! THE CLASS: what nodes are, which stamps they may show, how many things there can be -/
section LKROW
variable {K : KD} {X : CX} {pc : Nat} {lv : List (Option LV)} {st : List LV} {G : LG}
/-- what is referred to is there -/
def LK (G : LG) : Prop := ∀ n j, (gK G n).1 ≠ 0 → j < lw_len (gK G n) → lw_st (gK G n).1 j = 2 → 0 ≤ gS G n j → (gK G (gS G n j).toNat).1 ≠ 0
theorem s_lk (kk : LK G → WP K X pc lv st G) : WP K X pc lv st G := by
  obtain ⟨p, l, e, R, s, m, args, below, meth, c, D, dT, ad0, G0, Q, base, sbase⟩ := X
  intro ho ad H locs ls hd he hs hl o1 o2
  refine kk (fun n j hk hj ht h0 => ?_) ho ad H locs ls hd he hs hl o1 o2
  have h := hd.2.2.1 n j hk hj
  rw [ht] at h
  exact h.2.2 (Nat.le_refl 2) h0
end LKROW
/-- a new object's slot is typed so: a link to a fixed name is there -/
theorem LK.at {G : LG} (h : LK G) {n j m : Nat} (al : (gK G n).1 ≠ 0) (hj : j < lw_len (gK G n)) (ht : lw_st (gK G n).1 j = 2) (e : gS G n j = (m : Int)) : (gK G m).1 ≠ 0 := by
  have h9 := h n j al hj ht (by omega)
  rw [e, Int.toNat_natCast] at h9; exact h9
/-- a face and all its rows are there -/
def FCA (G : LG) (o : Nat) : Prop := (gK G o = (9, 0) ∧ gK G (o + 1) = (1, 6) ∧ gK G (o + 2) = (1, 10) ∧ gK G (o + 3) = (4, 16) ∧ gK G (o + 4) = (1, 16) ∧ gK G (o + 5) = (2, 10) ∧ gK G (o + 6) = (1, 10)) ∧ ∀ p, p < 16 → ∃ q L : Nat, gS G (o + 3) p = (q : Int) ∧ q % 1048576 = o + 7 + p ∧ gK G q = (1, L) ∧ 4 ≤ L ∧ L ≤ 400
theorem LK.fc {a b : Nat} {G : LG} {o : Nat} (h : LK G) (hC : CI a b G) (ho : isFc o) (al : (gK G o).1 ≠ 0) : FCA G o := by
  have k0 : gK G o = (9, 0) := hC.1.k (c := 101) (by rw [cde_n (by omega) (by omega)]; omega) al
  have v0 : ∀ j : Nat, 1 ≤ j → j < 7 → gS G o j = ((o + j : Nat) : Int) := by
    intro j h1 h2
    have h9 := hC.1.v (c := 101) (j := j) (by rw [cde_n (by omega) (by omega)]; omega) al (by rw [k0]; show j < 7; exact h2)
    have h3 : j = 1 ∨ j = 2 ∨ j = 3 ∨ j = 4 ∨ j = 5 ∨ j = 6 := by omega
    have h8 : o % 1048576 = o := Nat.mod_eq_of_lt (by omega)
    rcases h3 with rfl | rfl | rfl | rfl | rfl | rfl <;> (rw [← h8] at h9 ⊢; simp only [Nat.mod_mod] at h9; exact h9)
  have a0 : ∀ j : Nat, 1 ≤ j → j < 7 → (gK G (o + j)).1 ≠ 0 := by
    intro j h1 h2
    refine h.at al (j := j) (by rw [k0]; show j < 7; exact h2) ?_ (v0 j h1 h2)
    rw [k0]
    have h3 : j = 1 ∨ j = 2 ∨ j = 3 ∨ j = 4 ∨ j = 5 ∨ j = 6 := by omega
    rcases h3 with rfl | rfl | rfl | rfl | rfl | rfl <;> rfl
  have k3 : gK G (o + 3) = (4, 16) := hC.1.k (c := 104) (by rw [cde_n (by omega) (by omega)]; omega) (a0 3 (by decide) (by decide))
  refine ⟨⟨k0, hC.1.k (c := 102) (by rw [cde_n (by omega) (by omega)]; omega) (a0 1 (by decide) (by decide)), hC.1.k (c := 103) (by rw [cde_n (by omega) (by omega)]; omega) (a0 2 (by decide) (by decide)), k3,
    hC.1.k (c := 105) (by rw [cde_n (by omega) (by omega)]; omega) (a0 4 (by decide) (by decide)), hC.1.k (c := 106) (by rw [cde_n (by omega) (by omega)]; omega) (a0 5 (by decide) (by decide)), hC.1.k (c := 107) (by rw [cde_n (by omega) (by omega)]; omega) (a0 6 (by decide) (by decide))⟩, fun p hp => ?_⟩
  have h9 : 0 ≤ gS G (o + 3) p ∧ gS G (o + 3) p % 1048576 = (((o + 3) % 1048576 + 4 + p : Nat) : Int) := hC.1.v (c := 104) (j := p) (by rw [cde_n (by omega) (by omega)]; omega) (a0 3 (by decide) (by decide)) (by rw [k3]; exact hp)
  have h8 : (gK G (gS G (o + 3) p).toNat).1 ≠ 0 := h (o + 3) p (a0 3 (by decide) (by decide)) (by rw [k3]; exact hp) (by rw [k3]; rfl) h9.1
  obtain ⟨L, e1, e2, e3⟩ := hC.1.kr (n := (gS G (o + 3) p).toNat) (by rw [cde_n (by omega) (by omega)]; omega) h8
  exact ⟨(gS G (o + 3) p).toNat, L, by omega, by omega, e1, e2, e3⟩
theorem FCA.kx {G G' : LG} {o : Nat} (h : FCA G o) (kx : KX G G') : gK G' o = (9, 0) ∧ gK G' (o + 1) = (1, 6) ∧ gK G' (o + 2) = (1, 10) ∧ gK G' (o + 3) = (4, 16) ∧ gK G' (o + 4) = (1, 16) ∧ gK G' (o + 5) = (2, 10) ∧ gK G' (o + 6) = (1, 10) :=
  ⟨kx.k h.1.1 (by decide), kx.k h.1.2.1 (by decide), kx.k h.1.2.2.1 (by decide), kx.k h.1.2.2.2.1 (by decide), kx.k h.1.2.2.2.2.1 (by decide), kx.k h.1.2.2.2.2.2.1 (by decide), kx.k h.1.2.2.2.2.2.2 (by decide)⟩
/-- an empty face: all that it shows is so -/
theorem FCA.empty {P : Int → Prop} {G : LG} {o : Nat} (h : FCA G o) (h0 : ∀ p, p < 16 → gS G (o + 4) p = 0) : FPa P G o := fun p hp => by
  obtain ⟨q, L, e1, e2, e3, e4, e5⟩ := h.2 p hp
  exact ⟨q, L, e1, e2, e3, by rw [h0 p hp]; omega, fun j hj => by rw [h0 p hp] at hj; omega⟩
/-- what a row put into a face's place leaves -/
theorem PRW.all {P : Int → Prop} {G G' : LG} {o r p2 : Nat} {p n N : Int} {S : Nat → Prop} (h : PRW G G' o p r n N) (hF : FPo P G o p2) (hr : 0 ≤ n → n ≤ N → RPs P G r n) (kx : KX G G') (wx : WX S G G') (hs : p2 = p.toNat ∨ ¬ S (o + 7 + p2)) : FPo P G' o p2 := by
  by_cases e : p2 = p.toNat
  · subst e
    by_cases hn : 0 ≤ n ∧ n ≤ N
    · exact h.fp hn (fun j hj => (hr hn.1 hn.2 j hj).2)
    · obtain ⟨q, L, a1, a2, a3, a4, a5⟩ := hF
      obtain ⟨z1, z2, z3⟩ := h.2.1 hn
      refine ⟨q, L, z1.trans a1, a2, kx.k a3 (by decide), by rw [z2]; exact a4, fun j hj => ?_⟩
      rw [z2] at hj
      rw [z3 q a2]; exact a5 j hj
  · exact hF.wx kx wx (hs.resolve_left e) (h.2.2 p2 e).1 (h.2.2 p2 e).2
/-- what a face shows at a place, as a row -/
theorem FPo.rps {P : Int → Prop} {G : LG} {o p q : Nat} {n : Int} (h : FPo P G o p) (hq : gS G (o + 3) p = (q : Int)) (hn : n = gS G (o + 4) p) : RPs P G q n := fun j hj => by
  obtain ⟨q9, L, a1, a2, a3, a4, a5⟩ := h
  have e : q9 = q := by omega
  subst e
  exact ⟨by rw [a3]; exact Nat.succ_ne_zero 0, a5 j (by omega)⟩
theorem i_and1 (x : Int) : i_and x 1 = 0 ∨ i_and x 1 = 1 := by
  unfold i_and
  have h : (Int32.ofInt x &&& Int32.ofInt 1).toInt = ((Int32.ofInt x &&& Int32.ofInt 1).toBitVec).toInt := rfl
  have e : (Int32.ofInt 1).toBitVec = 1#32 := rfl
  rw [h, Int32.toBitVec_and, e]
  have h1 : ((Int32.ofInt x).toBitVec &&& 1#32).toNat ≤ 1 := by
    rw [BitVec.toNat_and]
    exact Nat.and_le_right
  have h2 := BitVec.toInt_eq_toNat_cond ((Int32.ofInt x).toBitVec &&& 1#32)
  rw [if_pos (by omega)] at h2
  omega
