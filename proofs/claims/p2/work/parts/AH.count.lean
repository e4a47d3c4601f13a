/-! THE CLASS: what nodes are, which stamps they may show, how many things there can be -/
abbrev nO (n : Nat) : Nat := 65536 + 64 * n
def nkC (G : LG) (n : Nat) : Int := gS G (65536 + 64 * n) 1
def nnC (G : LG) (n : Nat) : Int := gS G (65536 + 64 * n) 3
def ntC (G : LG) (n : Nat) : Int := gS G (65536 + 64 * n) 4
def ngC (G : LG) (n : Nat) : Int := gS G (65536 + 64 * n) 5
def nwC (G : LG) (n : Nat) : Int := gS G (65536 + 64 * n) 6
def ptC (G : LG) (n k : Nat) : Nat := ((gS G (gS G (65536 + 64 * n) 2).toNat k).toNat - 65536) / 64
def nN (G : LG) : Int := gS G 327685 2
/-- the table of things -/
def cnC (G : LG) : Int := gS G 327683 1
def tbC (G : LG) (t : Int) (i : Nat) : Int := gS G (gS G 327683 0).toNat (5 * t + i).toNat
def keyC (G : LG) (t k a b c : Int) : Prop := (0 ≤ t ∧ t < cnC G) ∧ tbC G t 0 = k ∧ tbC G t 1 = a ∧ tbC G t 2 = b ∧ tbC G t 3 = c
def curC (G : LG) : Int → Int := fun u => if gS G 327710 u.toNat = 0 then 0 else gS G 327710 u.toNat - 1
def slC (G : LG) (n : Nat) : Prop := nkC G n = 3 ∨ ¬ ngC G n = 0
def vrC (G : LG) (v : Int → Int) (n : Nat) : Int := if ntC G n < 0 then v (nnC G n) else ntC G n
def idCF (G : LG) (v : Int → Int) : Nat → Nat → Int → Prop
  | 0, _, _ => False
  | d + 1, n, t => (slC G n ∧ keyC G t 7 n 0 0) ∨ (¬ slC G n ∧ nkC G n = 6 ∧ keyC G t 6 (nnC G n) (vrC G v n) 0) ∨
      (¬ slC G n ∧ ¬ nkC G n = 6 ∧ ∃ a : Int, idCF G v d (ptC G n 0) a ∧ ((4 ≤ nkC G n ∧ keyC G t (nkC G n) a (nnC G n) (ntC G n)) ∨ (nkC G n < 4 ∧ ∃ b : Int, idCF G v d (ptC G n 1) b ∧ keyC G t (nkC G n) a b 0)))
def idC (G : LG) (v : Int → Int) (n : Nat) (t : Int) : Prop := ∃ d, idCF G v d n t
def skC (G : LG) (v : Int → Int) (n : Nat) (t : Int) : Prop := ∃ k : Int, (0 ≤ k ∧ k < 6) ∧ ((slC G n ∧ ∃ w : Int, idC G v n w ∧ keyC G t 8 w k 0) ∨ (¬ slC G n ∧ ∃ a b : Int, idC G v (ptC G n 0) a ∧ idC G v (ptC G n 1) b ∧ keyC G t 9 a b k))
def byC (G : LG) (v : Int → Int) (n : Nat) (w : Int) : Prop := (¬ ngC G n = 0 ∧ idC G v n w) ∨ (ngC G n = 0 ∧ idC G v (ptC G n 1) w)
def akC (G : LG) (v : Int → Int) (n : Nat) (s t : Int) : Prop := ∃ w : Int, byC G v n w ∧ keyC G t 10 w s 0
def stCF (G : LG) (v : Int → Int) : Nat → Nat → Int → Prop
  | 0, _, _ => False
  | d + 1, n, t => (nkC G n = 0 ∧ (stCF G v d (ptC G n 0) t ∨ stCF G v d (ptC G n 1) t)) ∨ (nkC G n = 1 ∧ (stCF G v d (ptC G n 1) t ∨ skC G v n t)) ∨
      (nkC G n = 2 ∧ (stCF G v d (ptC G n 1) t ∨ ∃ s : Int, stCF G v d (ptC G n 0) s ∧ akC G v n s t)) ∨ (nkC G n = 3 ∧ (stCF G v d (ptC G n 0) t ∨ skC G v n t)) ∨ ((nkC G n = 4 ∨ nkC G n = 5) ∧ stCF G v d (ptC G n 0) t)
def stC (G : LG) (v : Int → Int) (n : Nat) (t : Int) : Prop := ∃ d, stCF G v d n t
def mkC (G : LG) (v : Int → Int) (n : Nat) (t : Int) : Prop := idC G v n t ∨ ((nkC G n = 1 ∨ nkC G n = 3) ∧ skC G v n t) ∨ (nkC G n = 2 ∧ ∃ s : Int, stC G v (ptC G n 0) s ∧ akC G v n s t)
def hsC (k a b c : Int) : Int := i_and (i_xor (((k * 31 + a) * 1009 + b) * 1013 + c) (i_ushr (((k * 31 + a) * 1009 + b) * 1013 + c) 15)) 63
def RcC (G : LG) : Nat → Int → Int → Prop
  | 0, _, _ => False
  | m + 1, k, t => 0 ≤ k ∧ (k = t ∨ RcC G m (tbC G k 4) t)
def ChC (G : LG) : Prop := 0 ≤ cnC G ∧ (∀ p : Nat, p < 64 → -1 ≤ gS G 327688 p ∧ gS G 327688 p < cnC G) ∧ (∀ t : Int, 0 ≤ t → t < cnC G → -1 ≤ tbC G t 4 ∧ tbC G t 4 < t) ∧
  ∀ t : Int, 0 ≤ t → t < cnC G → ∃ m, RcC G m (gS G 327688 (hsC (tbC G t 0) (tbC G t 1) (tbC G t 2) (tbC G t 3)).toNat) t
def HiC (Hs : List (Int → Int)) : Prop := (∀ v ∈ Hs, ∀ u, 0 ≤ v u ∧ v u ≤ 4) ∧ (∀ v ∈ Hs, ∀ w ∈ Hs, (∀ u, v u ≤ w u) ∨ (∀ u, w u ≤ v u)) ∧ ∀ v ∈ Hs, ∀ u, 8 ≤ u → v u = 0
/-- nodes: their parts come ahead, their weights add up -/
def NdC (G : LG) : Prop := (0 ≤ nN G ∧ nN G ≤ 40) ∧ ∀ n : Nat, (n : Int) < nN G → (0 ≤ nkC G n ∧ nkC G n ≤ 6) ∧ (nkC G n = 6 → 0 ≤ nnC G n) ∧ (¬ nkC G n = 6 → ptC G n 0 < n) ∧ (nkC G n ≤ 3 → ptC G n 1 < n) ∧ (nkC G n = 3 → ptC G n 2 < n) ∧ (1 ≤ nwC G n ∧ nwC G n ≤ 24) ∧
  (nkC G n ≤ 2 → nwC G n = 1 + nwC G (ptC G n 0) + nwC G (ptC G n 1)) ∧ (nkC G n = 3 → nwC G n = 1 + nwC G (ptC G n 0) + nwC G (ptC G n 1) + nwC G (ptC G n 2)) ∧ (nkC G n = 4 ∨ nkC G n = 5 → nwC G n = 1 + nwC G (ptC G n 0)) ∧ (¬ ngC G n = 0 → nkC G n = 1 ∨ nkC G n = 2)
abbrev UqC (G : LG) : Prop := ∀ t s k a b c : Int, keyC G t k a b c → keyC G s k a b c → t = s
def ThC (G : LG) (Hs : List (Int → Int)) : Prop := ChC G ∧ UqC G ∧ HiC Hs ∧ NdC G ∧ ∀ t : Int, 0 ≤ t → t < cnC G → ∃ v ∈ Hs, ∃ n : Nat, (n : Int) < nN G ∧ mkC G v n t
/-- nodes are as they were -/
def NeC (G G' : LG) : Prop := nN G' = nN G ∧ ∀ n : Nat, (n : Int) < nN G → nkC G' n = nkC G n ∧ nnC G' n = nnC G n ∧ ntC G' n = ntC G n ∧ ngC G' n = ngC G n ∧ nwC G' n = nwC G n ∧ ∀ k, k < npt (nkC G n) → ptC G' n k = ptC G n k
def KmC (G G' : LG) : Prop := cnC G ≤ cnC G' ∧ ∀ t k a b c : Int, keyC G t k a b c → keyC G' t k a b c
/-- things have come to it, nodes and versions are as they were -/
def TxC (G G' : LG) : Prop := NeC G G' ∧ KmC G G' ∧ curC G' = curC G
theorem NeC.rf {G : LG} : NeC G G := ⟨rfl, fun _ _ => ⟨rfl, rfl, rfl, rfl, rfl, fun _ _ => rfl⟩⟩
theorem NeC.trans {G G1 G2 : LG} (h : NeC G G1) (k : NeC G1 G2) : NeC G G2 := by
  refine ⟨k.1.trans h.1, fun n hn => ?_⟩
  obtain ⟨a1, a2, a3, a4, a5, a6⟩ := h.2 n hn
  obtain ⟨b1, b2, b3, b4, b5, b6⟩ := k.2 n (by rw [h.1]; exact hn)
  exact ⟨b1.trans a1, b2.trans a2, b3.trans a3, b4.trans a4, b5.trans a5, fun j hj => (b6 j (by rw [a1]; exact hj)).trans (a6 j hj)⟩
theorem KmC.rf {G : LG} : KmC G G := ⟨Int.le_refl _, fun _ _ _ _ _ h => h⟩
theorem KmC.trans {G G1 G2 : LG} (h : KmC G G1) (k : KmC G1 G2) : KmC G G2 := ⟨Int.le_trans h.1 k.1, fun _ _ _ _ _ q => k.2 _ _ _ _ _ (h.2 _ _ _ _ _ q)⟩
theorem TxC.rf {G : LG} : TxC G G := ⟨NeC.rf, KmC.rf, rfl⟩
theorem TxC.trans {G G1 G2 : LG} (h : TxC G G1) (k : TxC G1 G2) : TxC G G2 := ⟨h.1.trans k.1, h.2.1.trans k.2.1, k.2.2.trans h.2.2⟩
theorem npt_0 {k : Int} (h : ¬ k = 6) : 0 < npt k := by unfold npt; (repeat' split) <;> omega
theorem npt_1 {k : Int} (h : k ≤ 3) : 1 < npt k := by unfold npt; (repeat' split) <;> omega
theorem npt_2 {k : Int} (h : k = 3) : 2 < npt k := by unfold npt; (repeat' split) <;> omega
theorem NdC.ne {G G' : LG} (h : NdC G) (e : NeC G G') : NdC G' := by
  refine ⟨by rw [e.1]; exact h.1, fun n hn => ?_⟩
  rw [e.1] at hn
  obtain ⟨a1, a2, a3, a4, a5, a6, a7, a8, a9, b1⟩ := h.2 n hn
  obtain ⟨e1, e2, e3, e4, e5, e6⟩ := e.2 n hn
  rw [e1, e2, e4, e5]
  have w : ∀ k, k < npt (nkC G n) → ptC G n k < n → ptC G' n k = ptC G n k ∧ nwC G' (ptC G' n k) = nwC G (ptC G n k) := fun k hk hl => by
    have z := e6 k hk
    exact ⟨z, by rw [z]; exact (e.2 (ptC G n k) (by omega)).2.2.2.2.1⟩
  refine ⟨a1, a2, fun q => ?_, fun q => ?_, fun q => ?_, a6, fun q => ?_, fun q => ?_, fun q => ?_, b1⟩
  · rw [(w 0 (npt_0 q) (a3 q)).1]; exact a3 q
  · rw [(w 1 (npt_1 q) (a4 q)).1]; exact a4 q
  · rw [(w 2 (npt_2 q) (a5 q)).1]; exact a5 q
  · rw [(w 0 (npt_0 (by omega)) (a3 (by omega))).2, (w 1 (npt_1 (by omega)) (a4 (by omega))).2]; exact a7 q
  · rw [(w 0 (npt_0 (by omega)) (a3 (by omega))).2, (w 1 (npt_1 (by omega)) (a4 (by omega))).2, (w 2 (npt_2 q) (a5 q)).2]; exact a8 q
  · rw [(w 0 (npt_0 (by omega)) (a3 (by omega))).2]; exact a9 q
/-- the units that nodes name have the same versions -/
def VaC (G : LG) (v w : Int → Int) : Prop := ∀ n : Nat, (n : Int) < nN G → nkC G n = 6 → v (nnC G n) = w (nnC G n)
theorem idCF.ag {G G' : LG} {v w : Int → Int} (hN : NdC G) (he : ∀ n : Nat, (n : Int) < nN G → nkC G' n = nkC G n ∧ nnC G' n = nnC G n ∧ ntC G' n = ntC G n ∧ ngC G' n = ngC G n ∧ ∀ k, k < npt (nkC G n) → ptC G' n k = ptC G n k) (hk : ∀ t k a b c : Int, keyC G t k a b c → keyC G' t k a b c) (hv : VaC G v w) : ∀ (d n : Nat) (t : Int), (n : Int) < nN G → idCF G v d n t → idCF G' w d n t := by
  intro d
  induction d with
  | zero => intro n t _ h; exact h
  | succ d ih =>
    intro n t hn h
    obtain ⟨e1, e2, e3, e4, e5⟩ := he n hn
    obtain ⟨b1, -, b3, b4, -⟩ := hN.2 n hn
    have es : slC G' n ↔ slC G n := by unfold slC; rw [e1, e4]
    unfold idCF at h ⊢
    rw [e1, e2, e3]
    rcases h with ⟨h1, h2⟩ | ⟨h1, h2, h3⟩ | ⟨h1, h2, a, h3, h4⟩
    · exact Or.inl ⟨es.mpr h1, hk _ _ _ _ _ h2⟩
    · refine Or.inr (Or.inl ⟨fun q => h1 (es.mp q), h2, ?_⟩)
      have ev : vrC G' w n = vrC G v n := by unfold vrC; rw [e2, e3, hv n hn h2]
      rw [ev]; exact hk _ _ _ _ _ h3
    · refine Or.inr (Or.inr ⟨fun q => h1 (es.mp q), h2, a, ?_, ?_⟩)
      · rw [e5 0 (npt_0 h2)]; exact ih _ _ (by have := b3 h2; omega) h3
      · rcases h4 with ⟨h4, h5⟩ | ⟨h4, b, h5, h6⟩
        · exact Or.inl ⟨h4, hk _ _ _ _ _ h5⟩
        · refine Or.inr ⟨h4, b, ?_, hk _ _ _ _ _ h6⟩
          rw [e5 1 (npt_1 (by omega))]; exact ih _ _ (by have := b4 (by omega); omega) h5
/-- what makes the ways to name things the same -/
def AgC (G G' : LG) (v w : Int → Int) : Prop := NdC G ∧ (∀ n : Nat, (n : Int) < nN G → nkC G' n = nkC G n ∧ nnC G' n = nnC G n ∧ ntC G' n = ntC G n ∧ ngC G' n = ngC G n ∧ ∀ k, k < npt (nkC G n) → ptC G' n k = ptC G n k) ∧ (∀ t k a b c : Int, keyC G t k a b c → keyC G' t k a b c) ∧ VaC G v w
theorem AgC.id {G G' : LG} {v w : Int → Int} (h : AgC G G' v w) {n : Nat} {t : Int} (hn : (n : Int) < nN G) (hi : idC G v n t) : idC G' w n t := hi.elim fun d hd => ⟨d, idCF.ag h.1 h.2.1 h.2.2.1 h.2.2.2 d n t hn hd⟩
theorem AgC.sk {G G' : LG} {v w : Int → Int} (h : AgC G G' v w) {n : Nat} {t : Int} (hn : (n : Int) < nN G) (h3 : nkC G n ≤ 3) (hi : skC G v n t) : skC G' w n t := by
  obtain ⟨k, hk, q⟩ := hi
  obtain ⟨e1, e2, e3, e4, e5⟩ := h.2.1 n hn
  obtain ⟨b1, -, b3, b4, -⟩ := h.1.2 n hn
  have es : slC G' n ↔ slC G n := by unfold slC; rw [e1, e4]
  refine ⟨k, hk, ?_⟩
  rcases q with ⟨q1, x, q2, q3⟩ | ⟨q1, a, b, q2, q3, q4⟩
  · exact Or.inl ⟨es.mpr q1, x, h.id hn q2, h.2.2.1 _ _ _ _ _ q3⟩
  · refine Or.inr ⟨fun z => q1 (es.mp z), a, b, ?_, ?_, h.2.2.1 _ _ _ _ _ q4⟩
    · rw [e5 0 (npt_0 (by omega))]; exact h.id (by have := b3 (by omega); omega) q2
    · rw [e5 1 (npt_1 h3)]; exact h.id (by have := b4 h3; omega) q3
theorem AgC.by {G G' : LG} {v w : Int → Int} (h : AgC G G' v w) {n : Nat} {t : Int} (hn : (n : Int) < nN G) (h3 : nkC G n ≤ 3) (hi : byC G v n t) : byC G' w n t := by
  obtain ⟨e1, e2, e3, e4, e5⟩ := h.2.1 n hn
  obtain ⟨b1, -, b3, b4, -⟩ := h.1.2 n hn
  unfold byC
  rw [e4]
  rcases hi with ⟨q1, q2⟩ | ⟨q1, q2⟩
  · exact Or.inl ⟨q1, h.id hn q2⟩
  · refine Or.inr ⟨q1, ?_⟩
    rw [e5 1 (npt_1 h3)]; exact h.id (by have := b4 h3; omega) q2
theorem AgC.ak {G G' : LG} {v w : Int → Int} (h : AgC G G' v w) {n : Nat} {s t : Int} (hn : (n : Int) < nN G) (h3 : nkC G n ≤ 3) (hi : akC G v n s t) : akC G' w n s t := by
  obtain ⟨x, q1, q2⟩ := hi
  exact ⟨x, h.by hn h3 q1, h.2.2.1 _ _ _ _ _ q2⟩
theorem AgC.stF {G G' : LG} {v w : Int → Int} (h : AgC G G' v w) : ∀ (d n : Nat) (t : Int), (n : Int) < nN G → stCF G v d n t → stCF G' w d n t := by
  intro d
  induction d with
  | zero => intro n t _ h; exact h
  | succ d ih =>
    intro n t hn hi
    obtain ⟨e1, e2, e3, e4, e5⟩ := h.2.1 n hn
    obtain ⟨b1, -, b3, b4, -⟩ := h.1.2 n hn
    have p0 : ∀ s, ¬ nkC G n = 6 → stCF G v d (ptC G n 0) s → stCF G' w d (ptC G' n 0) s := fun s q z => by
      rw [e5 0 (npt_0 q)]; exact ih _ _ (by have := b3 q; omega) z
    have p1 : ∀ s, nkC G n ≤ 3 → stCF G v d (ptC G n 1) s → stCF G' w d (ptC G' n 1) s := fun s q z => by
      rw [e5 1 (npt_1 q)]; exact ih _ _ (by have := b4 q; omega) z
    unfold stCF at hi ⊢
    rw [e1]
    rcases hi with ⟨q1, q2 | q2⟩ | ⟨q1, q2 | q2⟩ | ⟨q1, q2 | ⟨s, q2, q3⟩⟩ | ⟨q1, q2 | q2⟩ | ⟨q1, q2⟩
    · exact Or.inl ⟨q1, Or.inl (p0 _ (by omega) q2)⟩
    · exact Or.inl ⟨q1, Or.inr (p1 _ (by omega) q2)⟩
    · exact Or.inr (Or.inl ⟨q1, Or.inl (p1 _ (by omega) q2)⟩)
    · exact Or.inr (Or.inl ⟨q1, Or.inr (h.sk hn (by omega) q2)⟩)
    · exact Or.inr (Or.inr (Or.inl ⟨q1, Or.inl (p1 _ (by omega) q2)⟩))
    · exact Or.inr (Or.inr (Or.inl ⟨q1, Or.inr ⟨s, p0 _ (by omega) q2, h.ak hn (by omega) q3⟩⟩))
    · exact Or.inr (Or.inr (Or.inr (Or.inl ⟨q1, Or.inl (p0 _ (by omega) q2)⟩)))
    · exact Or.inr (Or.inr (Or.inr (Or.inl ⟨q1, Or.inr (h.sk hn (by omega) q2)⟩)))
    · exact Or.inr (Or.inr (Or.inr (Or.inr ⟨q1, p0 _ (by omega) q2⟩)))
theorem AgC.st {G G' : LG} {v w : Int → Int} (h : AgC G G' v w) {n : Nat} {t : Int} (hn : (n : Int) < nN G) (hi : stC G v n t) : stC G' w n t := hi.elim fun d hd => ⟨d, h.stF d n t hn hd⟩
theorem AgC.mk {G G' : LG} {v w : Int → Int} (h : AgC G G' v w) {n : Nat} {t : Int} (hn : (n : Int) < nN G) (hi : mkC G v n t) : mkC G' w n t := by
  obtain ⟨e1, e2, e3, e4, e5⟩ := h.2.1 n hn
  obtain ⟨b1, -, b3, b4, -⟩ := h.1.2 n hn
  unfold mkC
  rw [e1]
  rcases hi with q | ⟨q1, q2⟩ | ⟨q1, s, q2, q3⟩
  · exact Or.inl (h.id hn q)
  · exact Or.inr (Or.inl ⟨q1, h.sk hn (by omega) q2⟩)
  · refine Or.inr (Or.inr ⟨q1, s, ?_, h.ak hn (by omega) q3⟩)
    rw [e5 0 (npt_0 (by omega))]; exact h.st (by have := b3 (by omega); omega) q2
theorem TxC.ag {G G' : LG} {v : Int → Int} (h : TxC G G') (hN : NdC G) : AgC G G' v v :=
  ⟨hN, fun n hn => ⟨(h.1.2 n hn).1, (h.1.2 n hn).2.1, (h.1.2 n hn).2.2.1, (h.1.2 n hn).2.2.2.1, (h.1.2 n hn).2.2.2.2.2⟩, h.2.1.2, fun _ _ _ => rfl⟩
theorem NdC.va {G : LG} {v w : Int → Int} (h : NdC G) (hv : VaC G v w) : AgC G G v w := ⟨h, fun _ _ => ⟨rfl, rfl, rfl, rfl, fun _ _ => rfl⟩, fun _ _ _ _ _ q => q, hv⟩
/-! how many there can be -/
/-- at most k whole numbers are so -/
def CvC (k : Nat) (P : Int → Prop) : Prop := ∃ l : List Int, l.length ≤ k ∧ ∀ t, P t → t ∈ l
theorem CvC.mono {a b : Nat} {P Q : Int → Prop} (h : CvC a P) (hab : a ≤ b) (hq : ∀ t, Q t → P t) : CvC b Q := h.elim fun l hl => ⟨l, Nat.le_trans hl.1 hab, fun t ht => hl.2 t (hq t ht)⟩
theorem CvC.none {k : Nat} {P : Int → Prop} (h : ∀ t, ¬ P t) : CvC k P := ⟨[], Nat.zero_le _, fun t ht => (h t ht).elim⟩
theorem CvC.or {a b : Nat} {P Q : Int → Prop} (h : CvC a P) (k : CvC b Q) : CvC (a + b) (fun t => P t ∨ Q t) := by
  obtain ⟨l, h1, h2⟩ := h
  obtain ⟨m, k1, k2⟩ := k
  refine ⟨l ++ m, ?_, fun t ht => ?_⟩
  · rw [List.length_append]; omega
  · rcases ht with ht | ht
    · exact List.mem_append_left _ (h2 t ht)
    · exact List.mem_append_right _ (k2 t ht)
theorem CvC.one {P : Int → Prop} (h : ∀ t s, P t → P s → t = s) : CvC 1 P := by
  by_cases e : ∃ t, P t
  · obtain ⟨t, ht⟩ := e
    exact ⟨[t], Nat.le_refl _, fun s hs => by rw [h s t hs ht]; exact List.mem_singleton.mpr rfl⟩
  · exact ⟨[], Nat.zero_le _, fun s hs => (e ⟨s, hs⟩).elim⟩
theorem CvC.list {α : Type} (V : List α) {m : Nat} {R : α → Int → Prop} (h : ∀ v ∈ V, CvC m (R v)) : CvC (V.length * m) (fun t => ∃ v ∈ V, R v t) := by
  induction V with
  | nil => exact ⟨[], Nat.zero_le _, fun t ht => by obtain ⟨v, hv, -⟩ := ht; exact absurd hv (List.not_mem_nil)⟩
  | cons v V ih =>
    have h1 := (h v List.mem_cons_self).or (ih (fun w hw => h w (List.mem_cons_of_mem _ hw)))
    refine h1.mono (by rw [List.length_cons, Nat.succ_mul]; omega) (fun t ht => ?_)
    obtain ⟨w, hw, hr⟩ := ht
    rcases List.mem_cons.mp hw with rfl | hw
    · exact Or.inl hr
    · exact Or.inr ⟨w, hw, hr⟩
theorem CvC.bind {k m : Nat} {Q : Int → Prop} {R : Int → Int → Prop} (h : CvC k Q) (hr : ∀ s, CvC m (R s)) : CvC (k * m) (fun t => ∃ s, Q s ∧ R s t) := by
  obtain ⟨l, h1, h2⟩ := h
  refine (CvC.list l (R := R) (fun s _ => hr s)).mono (Nat.mul_le_mul_right m h1) (fun t ht => ?_)
  obtain ⟨s, hs, hr⟩ := ht
  exact ⟨s, h2 s hs, hr⟩
theorem CvC.upto (k : Nat) : CvC k (fun t => 0 ≤ t ∧ t < (k : Int)) := ⟨(List.range k).map (fun (i : Nat) => (i : Int)), by rw [List.length_map, List.length_range]; exact Nat.le_refl _, fun t ht => List.mem_map.mpr ⟨t.toNat, List.mem_range.mpr (by omega), by omega⟩⟩
theorem pigeonC : ∀ (T : Nat) (l : List Int), (∀ i : Nat, i < T → (i : Int) ∈ l) → T ≤ l.length := by
  intro T
  induction T with
  | zero => intro l _; exact Nat.zero_le _
  | succ T ih =>
    intro l h
    have h1 := ih (l.erase (T : Int)) (fun i hi => (List.mem_erase_of_ne (by omega)).mpr (h i (by omega)))
    have h2 := List.length_erase_of_mem (h T (Nat.lt_succ_self T))
    have h3 := List.length_pos_of_mem (h T (Nat.lt_succ_self T))
    omega
theorem CvC.le {k : Nat} {T : Int} (h : CvC k (fun t => 0 ≤ t ∧ t < T)) : T ≤ (k : Int) := by
  obtain ⟨l, h1, h2⟩ := h
  have h3 := pigeonC T.toNat l (fun i hi => h2 _ ⟨by omega, by omega⟩)
  omega
theorem idCF.un {G : LG} (hu : UqC G) {v : Int → Int} : ∀ (d n : Nat) (t s : Int) (e : Nat), idCF G v d n t → idCF G v e n s → t = s := by
  intro d
  induction d with
  | zero => intro n t s e h _; exact h.elim
  | succ d ih =>
    intro n t s e h k
    match e, k with
    | 0, k => exact k.elim
    | e + 1, k =>
      unfold idCF at h k
      rcases h with ⟨h1, h2⟩ | ⟨h1, h2, h3⟩ | ⟨h1, h2, a, h3, h4⟩
      · rcases k with ⟨k1, k2⟩ | ⟨k1, -⟩ | ⟨k1, -⟩
        · exact hu _ _ _ _ _ _ h2 k2
        · exact (k1 h1).elim
        · exact (k1 h1).elim
      · rcases k with ⟨k1, -⟩ | ⟨k1, k2, k3⟩ | ⟨k1, k2, -⟩
        · exact (h1 k1).elim
        · exact hu _ _ _ _ _ _ h3 k3
        · exact (k2 h2).elim
      · rcases k with ⟨k1, -⟩ | ⟨k1, k2, -⟩ | ⟨k1, k2, a2, k3, k4⟩
        · exact (h1 k1).elim
        · exact (h2 k2).elim
        · have ea := ih _ _ _ _ h3 k3
          subst ea
          rcases h4 with ⟨h4, h5⟩ | ⟨h4, b, h5, h6⟩
          · rcases k4 with ⟨k4, k5⟩ | ⟨k4, -⟩
            · exact hu _ _ _ _ _ _ h5 k5
            · omega
          · rcases k4 with ⟨k4, k5⟩ | ⟨k4, b2, k5, k6⟩
            · omega
            · have eb := ih _ _ _ _ h5 k5
              subst eb
              exact hu _ _ _ _ _ _ h6 k6
theorem idC.un {G : LG} (hu : UqC G) {v : Int → Int} {n : Nat} {t s : Int} (h : idC G v n t) (k : idC G v n s) : t = s := by
  obtain ⟨d, h⟩ := h
  obtain ⟨e, k⟩ := k
  exact idCF.un hu d n t s e h k
theorem idC.cov {G : LG} (hu : UqC G) (v : Int → Int) (n : Nat) : CvC 1 (idC G v n) := CvC.one (fun _ _ h k => idC.un hu h k)
theorem skC.cov {G : LG} (hu : UqC G) (v : Int → Int) (n : Nat) : CvC 6 (skC G v n) := by
  refine (CvC.bind (m := 1) (CvC.upto 6) (fun k => CvC.one (P := fun t => ((slC G n ∧ ∃ w : Int, idC G v n w ∧ keyC G t 8 w k 0) ∨ (¬ slC G n ∧ ∃ a b : Int, idC G v (ptC G n 0) a ∧ idC G v (ptC G n 1) b ∧ keyC G t 9 a b k))) (fun t s h k => ?_))).mono (Nat.le_refl _) (fun t ht => ?_)
  · rcases h with ⟨h1, x, h2, h3⟩ | ⟨h1, a, b, h2, h3, h4⟩
    · rcases k with ⟨k1, y, k2, k3⟩ | ⟨k1, -⟩
      · have e := idC.un hu h2 k2
        subst e
        exact hu _ _ _ _ _ _ h3 k3
      · exact (k1 h1).elim
    · rcases k with ⟨k1, -⟩ | ⟨k1, a2, b2, k2, k3, k4⟩
      · exact (h1 k1).elim
      · have ea := idC.un hu h2 k2
        have eb := idC.un hu h3 k3
        subst ea eb
        exact hu _ _ _ _ _ _ h4 k4
  · obtain ⟨k, hk, q⟩ := ht
    exact ⟨k, hk, q⟩
theorem byC.un {G : LG} (hu : UqC G) {v : Int → Int} {n : Nat} {t s : Int} (h : byC G v n t) (k : byC G v n s) : t = s := by
  rcases h with ⟨h1, h2⟩ | ⟨h1, h2⟩
  · rcases k with ⟨k1, k2⟩ | ⟨k1, k2⟩
    · exact idC.un hu h2 k2
    · exact (h1 k1).elim
  · rcases k with ⟨k1, k2⟩ | ⟨k1, k2⟩
    · exact (k1 h1).elim
    · exact idC.un hu h2 k2
theorem akC.cov {G : LG} (hu : UqC G) (v : Int → Int) (n : Nat) (s : Int) : CvC 1 (akC G v n s) := by
  refine CvC.one (fun t r h k => ?_)
  obtain ⟨x, h1, h2⟩ := h
  obtain ⟨y, k1, k2⟩ := k
  have e := byC.un hu h1 k1
  subst e
  exact hu _ _ _ _ _ _ h2 k2
theorem stC.cases {G : LG} {v : Int → Int} {n : Nat} {t : Int} (h : stC G v n t) : (nkC G n = 0 ∧ (stC G v (ptC G n 0) t ∨ stC G v (ptC G n 1) t)) ∨ (nkC G n = 1 ∧ (stC G v (ptC G n 1) t ∨ skC G v n t)) ∨
      (nkC G n = 2 ∧ (stC G v (ptC G n 1) t ∨ ∃ s : Int, stC G v (ptC G n 0) s ∧ akC G v n s t)) ∨ (nkC G n = 3 ∧ (stC G v (ptC G n 0) t ∨ skC G v n t)) ∨ ((nkC G n = 4 ∨ nkC G n = 5) ∧ stC G v (ptC G n 0) t) := by
  obtain ⟨d, h⟩ := h
  match d, h with
  | 0, h => exact h.elim
  | d + 1, h =>
    unfold stCF at h
    rcases h with ⟨q1, q2 | q2⟩ | ⟨q1, q2 | q2⟩ | ⟨q1, q2 | ⟨s, q2, q3⟩⟩ | ⟨q1, q2 | q2⟩ | ⟨q1, q2⟩
    · exact Or.inl ⟨q1, Or.inl ⟨d, q2⟩⟩
    · exact Or.inl ⟨q1, Or.inr ⟨d, q2⟩⟩
    · exact Or.inr (Or.inl ⟨q1, Or.inl ⟨d, q2⟩⟩)
    · exact Or.inr (Or.inl ⟨q1, Or.inr q2⟩)
    · exact Or.inr (Or.inr (Or.inl ⟨q1, Or.inl ⟨d, q2⟩⟩))
    · exact Or.inr (Or.inr (Or.inl ⟨q1, Or.inr ⟨s, ⟨d, q2⟩, q3⟩⟩))
    · exact Or.inr (Or.inr (Or.inr (Or.inl ⟨q1, Or.inl ⟨d, q2⟩⟩)))
    · exact Or.inr (Or.inr (Or.inr (Or.inl ⟨q1, Or.inr q2⟩)))
    · exact Or.inr (Or.inr (Or.inr (Or.inr ⟨q1, ⟨d, q2⟩⟩)))
/-- how many stamps a node may show, by its weight -/
theorem stC.cov {G : LG} (hu : UqC G) (hN : NdC G) (v : Int → Int) : ∀ (M m : Nat), m < M → (m : Int) < nN G → ∃ q : Nat, 2 * (q : Int) + 1 ≤ nwC G m ∧ CvC (6 * q) (stC G v m) := by
  intro M
  induction M with
  | zero => intro m hm; exact absurd hm (Nat.not_lt_zero _)
  | succ M ih =>
    intro m hm hmN
    obtain ⟨b1, -, b3, b4, b5, b6, b7, b8, b9, -⟩ := hN.2 m hmN
    by_cases k6 : nkC G m = 6
    · refine ⟨0, by omega, CvC.none (fun t h => ?_)⟩
      rcases h.cases with ⟨q, -⟩ | ⟨q, -⟩ | ⟨q, -⟩ | ⟨q, -⟩ | ⟨q, -⟩ <;> omega
    have p0 := b3 k6
    obtain ⟨qa, a1, a2⟩ := ih (ptC G m 0) (by omega) (by omega)
    by_cases k4 : nkC G m = 4 ∨ nkC G m = 5
    · have w9 := b9 k4
      refine ⟨qa, by omega, a2.mono (Nat.le_refl _) (fun t h => ?_)⟩
      rcases h.cases with ⟨q, -⟩ | ⟨q, -⟩ | ⟨q, -⟩ | ⟨q, -⟩ | ⟨-, q⟩ <;> first | exact q | omega
    have p1 := b4 (by omega)
    obtain ⟨qb, c1, c2⟩ := ih (ptC G m 1) (by omega) (by omega)
    by_cases k3 : nkC G m = 3
    · have w8 := b8 k3
      have wc := (hN.2 (ptC G m 2) (by have := b5 k3; omega)).2.2.2.2.2.1.1
      refine ⟨qa + 1, by omega, (a2.or (skC.cov hu v m)).mono (by omega) (fun t h => ?_)⟩
      rcases h.cases with ⟨q, -⟩ | ⟨q, -⟩ | ⟨q, -⟩ | ⟨-, q⟩ | ⟨q, -⟩ <;> first | exact q | omega
    have w7 := b7 (by omega)
    by_cases k0 : nkC G m = 0
    · refine ⟨qa + qb, by omega, (a2.or c2).mono (by omega) (fun t h => ?_)⟩
      rcases h.cases with ⟨-, q⟩ | ⟨q, -⟩ | ⟨q, -⟩ | ⟨q, -⟩ | ⟨q, -⟩ <;> first | exact q | omega
    by_cases k1 : nkC G m = 1
    · refine ⟨qb + 1, by omega, (c2.or (skC.cov hu v m)).mono (by omega) (fun t h => ?_)⟩
      rcases h.cases with ⟨q, -⟩ | ⟨-, q⟩ | ⟨q, -⟩ | ⟨q, -⟩ | ⟨q, -⟩ <;> first | exact q | omega
    · refine ⟨qb + qa, by omega, (c2.or (CvC.bind a2 (fun s => akC.cov hu v m s))).mono (by omega) (fun t h => ?_)⟩
      rcases h.cases with ⟨q, -⟩ | ⟨q, -⟩ | ⟨-, q⟩ | ⟨q, -⟩ | ⟨q, -⟩ <;> first | exact q | omega
/-- what a node makes in one state of the versions -/
theorem mkC.cov {G : LG} (hu : UqC G) (hN : NdC G) (v : Int → Int) {m : Nat} (hm : (m : Int) < nN G) : CvC 61 (mkC G v m) := by
  obtain ⟨b1, -, b3, b4, b5, b6, b7, b8, b9, -⟩ := hN.2 m hm
  by_cases k2 : nkC G m = 2
  · have w7 := b7 (by omega)
    have p0 := b3 (by omega)
    have p1 := b4 (by omega)
    have wb := (hN.2 (ptC G m 1) (by omega)).2.2.2.2.2.1.1
    obtain ⟨q, q1, q2⟩ := stC.cov hu hN v (ptC G m 0 + 1) (ptC G m 0) (by omega) (by omega)
    refine ((idC.cov hu v m).or (CvC.bind q2 (fun s => akC.cov hu v m s))).mono (by omega) (fun t h => ?_)
    rcases h with h | ⟨h, -⟩ | ⟨-, h⟩
    · exact Or.inl h
    · omega
    · exact Or.inr h
  · refine ((idC.cov hu v m).or (skC.cov hu v m)).mono (by decide) (fun t h => ?_)
    rcases h with h | ⟨-, h⟩ | ⟨h, -⟩
    · exact Or.inl h
    · exact Or.inr h
    · exact (k2 h).elim
theorem mkC.all {G : LG} (hu : UqC G) (hN : NdC G) (v : Int → Int) : ∀ M : Nat, (M : Int) ≤ nN G → CvC (61 * M) (fun t => ∃ n : Nat, n < M ∧ mkC G v n t) := by
  intro M
  induction M with
  | zero => intro _; exact CvC.none (fun t h => by obtain ⟨n, h, -⟩ := h; omega)
  | succ M ih =>
    intro hM
    refine ((ih (by omega)).or (mkC.cov hu hN v (m := M) (by omega))).mono (by omega) (fun t h => ?_)
    obtain ⟨n, h1, h2⟩ := h
    by_cases e : n = M
    · subst e; exact Or.inr h2
    · exact Or.inl ⟨n, by omega, h2⟩
def vsC (us : List Int) (v : Int → Int) : Int := match us with
  | [] => 0
  | u :: us => v u + vsC us v
theorem vsC.b {us : List Int} {v : Int → Int} (h : ∀ u, 0 ≤ v u ∧ v u ≤ 4) : 0 ≤ vsC us v ∧ vsC us v ≤ 4 * us.length := by
  induction us with
  | nil => exact ⟨Int.le_refl _, Int.le_refl _⟩
  | cons u us ih => have h1 := h u; unfold vsC; rw [List.length_cons]; omega
theorem vsC.le {us : List Int} {v w : Int → Int} (h : ∀ u, v u ≤ w u) : vsC us v ≤ vsC us w := by
  induction us with
  | nil => exact Int.le_refl _
  | cons u us ih => have h1 := h u; unfold vsC; omega
theorem vsC.eq {us : List Int} {v w : Int → Int} (h : ∀ u, v u ≤ w u) (e : vsC us v = vsC us w) : ∀ u ∈ us, v u = w u := by
  induction us with
  | nil => intro u hu; exact absurd hu List.not_mem_nil
  | cons u us ih =>
    intro x hx
    have h1 := h u
    have h2 := vsC.le (us := us) h
    unfold vsC at e
    rcases List.mem_cons.mp hx with rfl | hx
    · omega
    · exact ih (by omega) x hx
theorem thC_bound {G : LG} {Hs : List (Int → Int)} (h : ThC G Hs) : cnC G ≤ 80520 := by
  obtain ⟨hCH, hun, hHI, hND, hcov⟩ := h
  have hus : ∀ v ∈ Hs, ∀ w ∈ Hs, (∀ u ∈ [(0 : Int), 1, 2, 3, 4, 5, 6, 7], v u = w u) → VaC G v w := by
    intro v hv w hw e n hn hk
    have h9 := (hND.2 n hn).2.1 hk
    by_cases h8 : 8 ≤ nnC G n
    · rw [hHI.2.2 v hv _ h8, hHI.2.2 w hw _ h8]
    · refine e _ ?_
      have : nnC G n = 0 ∨ nnC G n = 1 ∨ nnC G n = 2 ∨ nnC G n = 3 ∨ nnC G n = 4 ∨ nnC G n = 5 ∨ nnC G n = 6 ∨ nnC G n = 7 := by omega
      rcases this with q | q | q | q | q | q | q | q <;> rw [q] <;> simp
  have h40 := hND.1
  have h1 : CvC (33 * (61 * 40)) (fun t => 0 ≤ t ∧ t < cnC G) := by
    refine (CvC.bind (k := 33) (m := 61 * 40) (CvC.upto _) (R := fun k t => ∃ v ∈ Hs, vsC [(0 : Int), 1, 2, 3, 4, 5, 6, 7] v = k ∧ ∃ n : Nat, (n : Int) < nN G ∧ mkC G v n t) (fun k => ?_)).mono (Nat.le_refl _) (fun t ht => ?_)
    · by_cases e : ∃ v ∈ Hs, vsC [(0 : Int), 1, 2, 3, 4, 5, 6, 7] v = k
      · obtain ⟨v, hv, hs⟩ := e
        refine (mkC.all hun hND v (nN G).toNat (by omega)).mono (by omega) (fun t ht => ?_)
        obtain ⟨w, hw, hs2, n, hn, hm⟩ := ht
        have hag : ∀ u ∈ [(0 : Int), 1, 2, 3, 4, 5, 6, 7], w u = v u := by
          rcases hHI.2.1 v hv w hw with hl | hl
          · exact fun u hu => (vsC.eq hl (by rw [hs, hs2]) u hu).symm
          · exact vsC.eq hl (by rw [hs, hs2])
        exact ⟨n, by omega, (hND.va (hus w hw v hv hag)).mk hn hm⟩
      · exact CvC.none (fun t ht => by obtain ⟨v, hv, hs, -⟩ := ht; exact e ⟨v, hv, hs⟩)
    · obtain ⟨v, hv, n, hn, hm⟩ := hcov t ht.1 ht.2
      have hb := vsC.b (us := [(0 : Int), 1, 2, 3, 4, 5, 6, 7]) (hHI.1 v hv)
      simp only [List.length_cons, List.length_nil] at hb
      exact ⟨_, ⟨hb.1, by omega⟩, v, hv, rfl, n, hn, hm⟩
  have := h1.le
  omega
