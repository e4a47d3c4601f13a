/-! THE CLASS: stamps made anew, places of rows one by one -/
/-- a face's row at a place: its parts, each by its own place, are so -/
def FPj (Q : Nat → Int → Prop) (G : LG) (o p : Nat) : Prop := ∃ q L : Nat, gS G (o + 3) p = (q : Int) ∧ q % 1048576 = o + 7 + p ∧ gK G q = (1, L) ∧ (0 ≤ gS G (o + 4) p ∧ gS G (o + 4) p ≤ (L : Int)) ∧ ∀ j : Nat, (j : Int) < gS G (o + 4) p → Q j (gS G q j)
theorem FPo.j {P : Int → Prop} {G : LG} {o p : Nat} (h : FPo P G o p) : FPj (fun _ => P) G o p := h
theorem FPj.o {P : Int → Prop} {G : LG} {o p : Nat} (h : FPj (fun _ => P) G o p) : FPo P G o p := h
theorem FPj.mono {Q Q' : Nat → Int → Prop} {G : LG} {o p : Nat} (h : FPj Q G o p) (hQ : ∀ (j : Nat) (x : Int), (j : Int) < gS G (o + 4) p → Q j x → Q' j x) : FPj Q' G o p := by
  obtain ⟨q, L, a1, a2, a3, a4, a5⟩ := h
  exact ⟨q, L, a1, a2, a3, a4, fun j hj => hQ _ _ hj (a5 j hj)⟩
theorem FPj.wx {Q : Nat → Int → Prop} {S : Nat → Prop} {G G' : LG} {o p : Nat} (h : FPj Q G o p) (kx : KX G G') (wx : WX S G G') (hs : ¬ S (o + 7 + p)) (hs3 : ¬ S ((o + 3) % 1048576)) (hs4 : ¬ S ((o + 4) % 1048576)) (al3 : (gK G (o + 3)).1 ≠ 0) (al4 : (gK G (o + 4)).1 ≠ 0) : FPj Q G' o p := by
  obtain ⟨q, L, a1, a2, a3, a4, a5⟩ := h
  refine ⟨q, L, (congrFun (wx _ al3 hs3) _).trans a1, a2, kx.k a3 (by decide), by rw [wx _ al4 hs4]; exact a4, fun j hj => ?_⟩
  rw [wx _ al4 hs4] at hj
  rw [wx q (kne a3 (by decide)) (by rw [a2]; exact hs)]
  exact a5 j hj
/-- one part of a row is written -/
theorem FPj.set {Q Q' : Nat → Int → Prop} {G G' : LG} {o p q i : Nat} {v : Int} (h : FPj Q G o p) (hq : gS G (o + 3) p = (q : Int)) (e : G' = gset G q i v) (hi : Q' i v) (hQ : ∀ j x, j ≠ i → Q j x → Q' j x) (h3 : o + 3 ≠ q) (h4 : o + 4 ≠ q) : FPj Q' G' o p := by
  obtain ⟨q2, L, a1, a2, a3, a4, a5⟩ := h
  have eq9 : q2 = q := by omega
  subst eq9
  refine ⟨q2, L, by rw [gset_o e h3]; exact a1, a2, by rw [e, gset_K]; exact a3, by rw [gset_o e h4]; exact a4, fun j hj => ?_⟩
  rw [gset_o e h4] at hj
  by_cases w : j = i
  · subst w; rw [e, gset_at]; exact hi
  · rw [e, gset_ne _ _ (fun z => w z.2)]; exact hQ _ _ w (a5 j hj)
theorem FPj.ne {Q : Nat → Int → Prop} {G G' : LG} {o p q i : Nat} {v : Int} (h : FPj Q G o p) (e : G' = gset G q i v) (hq : q % 1048576 ≠ o + 7 + p) (h3 : o + 3 ≠ q) (h4 : o + 4 ≠ q) : FPj Q G' o p := by
  obtain ⟨q2, L, a1, a2, a3, a4, a5⟩ := h
  have eq9 : q2 ≠ q := fun w => hq (by rw [← w]; exact a2)
  refine ⟨q2, L, by rw [gset_o e h3]; exact a1, a2, by rw [e, gset_K]; exact a3, by rw [gset_o e h4]; exact a4, fun j hj => ?_⟩
  rw [gset_o e h4] at hj
  rw [gset_o e eq9]; exact a5 j hj
/-- a stamp that the functor has been given anew -/
def RnC (G : LG) (v : Int → Int) (n : Nat) (x : Int) : Prop := 8 ≤ x → ∃ s : Int, stC G v (ptC G n 0) s ∧ akC G v n s (x - 8)
theorem TxC.rn {G G' : LG} {v : Int → Int} {n : Nat} {x : Int} (tx : TxC G G') (hN : NdC G) (hn : (n : Int) < nN G) (h2 : nkC G n = 2) (h : RnC G v n x) : RnC G' v n x := fun h8 => by
  obtain ⟨s, h3, h4⟩ := h h8
  have q0 := (hN.2 n hn).2.2.1 (by omega)
  refine ⟨s, ?_, (tx.ag hN).ak hn (by omega) h4⟩
  rw [(tx.1.2 n hn).2.2.2.2.2 0 (npt_0 (by omega))]; exact (tx.ag hN).st (by omega) h3
/-- so far the rows ahead of a place, and of the place's row the parts ahead of i, are made anew -/
def RsC (G0 G : LG) (v : Int → Int) (n : Nat) (p i : Int) : Prop := ∀ p2 : Nat, p2 < 16 → FPj (fun j x => if (p2 : Int) < p ∨ ((p2 : Int) = p ∧ (j : Int) < i) then RnC G v n x else PnC G0 v (ptC G0 n 0) x) G 68097 p2
/-- a bit more in a set of names -/
theorem bit_or {h n k : Int} (hn : 0 ≤ n ∧ n < 32) (hk : 0 ≤ k ∧ k < 32) (hb : ¬ i_and (i_shr (i_or h (i_shl 1 n)) k) 1 = 0) : k = n ∨ ¬ i_and (i_shr h k) 1 = 0 := by
  have h1 : bitI (i_or h (i_shl 1 n)) k := (i_and1 _).resolve_left hb
  rcases (bitI_or hk.1 hk.2).mp h1 with q | q
  · right; intro z
    have q1 : i_and (i_shr h k) 1 = 1 := q
    omega
  · left; exact (bitI_shl hn.1 hn.2 hk.1 hk.2).mp q
theorem bit_0 {k : Int} (hk : 0 ≤ k ∧ k < 32) : i_and (i_shr 0 k) 1 = 0 := (i_and1 _).resolve_right (fun q => bitI_0 hk.1 hk.2 q)
theorem rn_of {G G' : LG} {v : Int → Int} {n : Nat} {s t : Int} (tx : TxC G G') (hN : NdC G) (hn : (n : Int) < nN G) (h2 : nkC G n = 2) (hs : stC G v (ptC G n 0) s) (ha : akC G' v n s t) : RnC G' v n (8 + t) := fun _ => by
  have q0 := (hN.2 n hn).2.2.1 (by omega)
  refine ⟨s, ?_, by rw [show 8 + t - 8 = t by omega]; exact ha⟩
  rw [(tx.1.2 n hn).2.2.2.2.2 0 (npt_0 (by omega))]; exact (tx.ag hN).st (by omega) hs
theorem RsC.step {S : Nat → Prop} {G0 G1 G2 : LG} {v : Int → Int} {n : Nat} {p i : Int} (h : RsC G0 G1 v n p i) (kx : KX G1 G2) (wx : WX S G1 G2) (tx : TxC G1 G2) (hN : NdC G1) (hn : (n : Int) < nN G1) (h2 : nkC G1 n = 2) (al3 : (gK G1 68100).1 ≠ 0) (al4 : (gK G1 68101).1 ≠ 0) (hs : ∀ p2, p2 < 16 → ¬ S (68104 + p2)) (h3 : ¬ S 68100) (h4 : ¬ S 68101) : RsC G0 G2 v n p i := fun p2 hp2 => by
  refine ((h p2 hp2).wx kx wx (hs p2 hp2) h3 h4 al3 al4).mono (fun j x _ q => ?_)
  split
  · rename_i z; rw [if_pos z] at q; exact tx.rn hN hn h2 q
  · rename_i z; rw [if_neg z] at q; exact q
theorem RsC.put {G0 G2 G3 : LG} {v : Int → Int} {n q : Nat} {p i x : Int} (h : RsC G0 G2 v n p i) (hp : 0 ≤ p ∧ p < 16) (hi : 0 ≤ i) (hq : gS G2 68100 p.toNat = (q : Int)) (hqm : q % 1048576 = 68104 + p.toNat) (e : G3 = gset G2 q i.toNat x) (tx : TxC G2 G3) (hN : NdC G2) (hn : (n : Int) < nN G2) (h2 : nkC G2 n = 2) (hx : RnC G3 v n x) : RsC G0 G3 v n p (i + 1) := fun p2 hp2 => by
  have m1 : ∀ j y, (if (p2 : Int) < p ∨ ((p2 : Int) = p ∧ (j : Int) < i) then RnC G2 v n y else PnC G0 v (ptC G0 n 0) y) → ¬ ((p2 : Int) = p ∧ (j : Int) = i) → (if (p2 : Int) < p ∨ ((p2 : Int) = p ∧ (j : Int) < i + 1) then RnC G3 v n y else PnC G0 v (ptC G0 n 0) y) := fun j y z hj => by
    by_cases w : (p2 : Int) < p ∨ ((p2 : Int) = p ∧ (j : Int) < i)
    · rw [if_pos w] at z
      rw [if_pos (by omega)]; exact tx.rn hN hn h2 z
    · rw [if_neg w] at z
      rw [if_neg (by omega)]; exact z
  by_cases w : (p2 : Int) = p
  · have e2 : p2 = p.toNat := by omega
    subst e2
    refine (h p.toNat hp2).set hq e ?_ (fun j y hj z => m1 j y z (fun u => hj (by omega))) (by omega) (by omega)
    rw [if_pos (by omega)]; exact hx
  · refine ((h p2 hp2).ne e (by omega) (by omega) (by omega)).mono (fun j y _ z => m1 j y z (fun u => w u.1))
theorem RsC.get {G0 G : LG} {v : Int → Int} {n q : Nat} {p i : Int} (h : RsC G0 G v n p i) (hp : 0 ≤ p ∧ p < 16) (hi : 0 ≤ i ∧ i < gS G 68101 p.toNat) (hq : gS G 68100 p.toNat = (q : Int)) : PnC G0 v (ptC G0 n 0) (gS G q i.toNat) := by
  obtain ⟨q2, L, a1, a2, a3, a4, a5⟩ := h p.toNat (by omega)
  have e : q2 = q := by
    have a1' : gS G 68100 p.toNat = (q2 : Int) := a1
    omega
  subst e
  have h9 := a5 i.toNat (show ((i.toNat : Nat) : Int) < gS G 68101 p.toNat by omega)
  dsimp only at h9
  rw [if_neg (by omega)] at h9
  exact h9
theorem RsC.skip {G0 G : LG} {v : Int → Int} {n q : Nat} {p i : Int} (h : RsC G0 G v n p i) (hp : 0 ≤ p ∧ p < 16) (hi : 0 ≤ i) (hq : gS G 68100 p.toNat = (q : Int)) (hx : gS G q i.toNat < 8) : RsC G0 G v n p (i + 1) := fun p2 hp2 => by
  obtain ⟨q2, L, a1, a2, a3, a4, a5⟩ := h p2 hp2
  refine ⟨q2, L, a1, a2, a3, a4, fun j hj => ?_⟩
  have h9 := a5 j hj
  dsimp only at h9
  by_cases w : (p2 : Int) < p ∨ ((p2 : Int) = p ∧ (j : Int) < i)
  · rw [if_pos w] at h9
    dsimp only; rw [if_pos (by omega)]; exact h9
  · by_cases u : (p2 : Int) = p ∧ (j : Int) = i
    · dsimp only; rw [if_pos (by omega)]
      intro h8
      have e2 : p2 = p.toNat := by omega
      subst e2
      have e : q2 = q := by
        have a1' : gS G 68100 p.toNat = (q2 : Int) := a1
        omega
      subst e
      have e3 : j = i.toNat := by omega
      subst e3
      omega
    · rw [if_neg w] at h9
      dsimp only; rw [if_neg (by omega)]; exact h9
theorem RsC.next {G0 G : LG} {v : Int → Int} {n : Nat} {p i : Int} (h : RsC G0 G v n p i) (hp : 0 ≤ p ∧ p < 16) (hi : gS G 68101 p.toNat ≤ i) : RsC G0 G v n (p + 1) 0 := fun p2 hp2 => by
  refine (h p2 hp2).mono (fun j x hj q => ?_)
  have hj9 : (p2 : Int) = p → (j : Int) < i := fun w => by
    have e2 : p2 = p.toNat := by omega
    subst e2
    have hj' : (j : Int) < gS G 68101 p.toNat := hj
    omega
  by_cases w : (p2 : Int) < p ∨ ((p2 : Int) = p ∧ (j : Int) < i)
  · rw [if_pos w] at q
    rw [if_pos (by omega)]; exact q
  · rw [if_neg w] at q
    rw [if_neg (by omega)]; exact q
theorem RsC.done {G0 G : LG} {v : Int → Int} {n : Nat} {p : Int} (h : RsC G0 G v n p 0) (hp : 16 ≤ p) : FPa (RnC G v n) G 68097 := fun p2 hp2 => by
  refine FPj.o ((h p2 hp2).mono (fun j x _ q => ?_))
  rw [if_pos (by omega)] at q; exact q
theorem RsC.start {G0 G : LG} {v : Int → Int} {n : Nat} (h : FPa (PnC G0 v (ptC G0 n 0)) G 68097) : RsC G0 G v n 0 0 := fun p2 hp2 => by
  refine (h p2 hp2).j.mono (fun j x _ q => ?_)
  rw [if_neg (by omega)]; exact q
theorem RsC.len {G0 G : LG} {v : Int → Int} {n q L : Nat} {p i : Int} (h : RsC G0 G v n p i) (hp : 0 ≤ p ∧ p < 16) (hq : gS G 68100 p.toNat = (q : Int)) (hk : gK G q = (1, L)) : gS G 68101 p.toNat ≤ (L : Int) := by
  obtain ⟨q2, L2, a1, a2, a3, a4, a5⟩ := h p.toNat (by omega)
  have e : q2 = q := by
    have a1' : gS G 68100 p.toNat = (q2 : Int) := a1
    omega
  subst e
  rw [hk] at a3
  have e2 : L = L2 := congrArg Prod.snd a3
  subst e2
  exact a4.2
