/-! SEAL: which names of the signature are given, stamps for them -/
def gvn (G : LG) (a b j : Int) : Prop := (gS G a_sType (6 * b + j).toNat) = -1 ∧ 0 ≤ (gS G a_sType (6 * a + j).toNat)
/-- what only makes things -/
theorem FE.thing {ns js : List Nat} {G G1 : LG} {Hs : List (Int → Int)} (hF : FU G) (hT : TH G1 Hs) (hX : TX G G1) (f : Fr ns js G G1) (g1 : ∀ n ∈ tabA, n ∉ ns ∧ n ≠ 1000) (g2 : 1000 ∉ ns) (g3 : ∀ j ∈ [26, 35], j ∉ js) : FE G G1 Hs 0 0 := by
  have a1 : Agr tabA [26, 35] G G1 := f.agr g1 g2 g3
  exact ⟨hF.agr a1 hX.1, FX.agr a1, hT, hX, by rw [a1.f (j := 26) (by decide)]; omega, by rw [a1.f (j := 35) (by decide)]; omega⟩
theorem stN.l1 {G : LG} {v : Int → Int} {n t : Int} (hk : (gS G a_nKind (n).toNat) = 1) (h : stN G v ((gS G a_nFirst (n).toNat)) t) : stN G v n t := h.elim fun d hd => ⟨d + 1, Or.inl ⟨hk, Or.inl hd⟩⟩
theorem stN.l2 {G : LG} {v : Int → Int} {n t : Int} (hk : (gS G a_nKind (n).toNat) = 1) (h : stN G v ((gS G a_nSecond (n).toNat)) t) : stN G v n t := h.elim fun d hd => ⟨d + 1, Or.inl ⟨hk, Or.inr hd⟩⟩
theorem stN.s2 {G : LG} {v : Int → Int} {n t : Int} (hk : (gS G a_nKind (n).toNat) = 2) (h : stN G v ((gS G a_nSecond (n).toNat)) t) : stN G v n t := h.elim fun d hd => ⟨d + 1, Or.inr (Or.inl ⟨hk, Or.inl hd⟩)⟩
theorem stN.sk {G : LG} {v : Int → Int} {n t : Int} (hk : (gS G a_nKind (n).toNat) = 2) (h : skey G v n t) : stN G v n t := ⟨1, Or.inr (Or.inl ⟨hk, Or.inr h⟩)⟩
theorem stN.a2 {G : LG} {v : Int → Int} {n t : Int} (hk : (gS G a_nKind (n).toNat) = 3) (h : stN G v ((gS G a_nSecond (n).toNat)) t) : stN G v n t := h.elim fun d hd => ⟨d + 1, Or.inr (Or.inr (Or.inl ⟨hk, Or.inl hd⟩))⟩
theorem stN.ak {G : LG} {v : Int → Int} {n s t : Int} (hk : (gS G a_nKind (n).toNat) = 3) (h : stN G v ((gS G a_nFirst (n).toNat)) s) (ha : akey G v n s t) : stN G v n t := h.elim fun d hd => ⟨d + 1, Or.inr (Or.inr (Or.inl ⟨hk, Or.inr ⟨s, hd, ha⟩⟩))⟩
theorem stN.c1 {G : LG} {v : Int → Int} {n t : Int} (hk : (gS G a_nKind (n).toNat) = 4) (h : stN G v ((gS G a_nFirst (n).toNat)) t) : stN G v n t := h.elim fun d hd => ⟨d + 1, Or.inr (Or.inr (Or.inr (Or.inl ⟨hk, Or.inl hd⟩)))⟩
theorem stN.c2 {G : LG} {v : Int → Int} {n t : Int} (hk : (gS G a_nKind (n).toNat) = 4) (h : stN G v ((gS G a_nSecond (n).toNat)) t) : stN G v n t := h.elim fun d hd => ⟨d + 1, Or.inr (Or.inr (Or.inr (Or.inl ⟨hk, Or.inr (Or.inl hd)⟩)))⟩
theorem stN.ck {G : LG} {v : Int → Int} {n t : Int} (hk : (gS G a_nKind (n).toNat) = 4) (h : ckey G n t) : stN G v n t := ⟨1, Or.inr (Or.inr (Or.inr (Or.inl ⟨hk, Or.inr (Or.inr h)⟩)))⟩
theorem stN.r {G : LG} {v : Int → Int} {n t : Int} (hk : 5 ≤ (gS G a_nKind (n).toNat)) (h : stN G v ((gS G a_nFirst (n).toNat)) t) : stN G v n t := h.elim fun d hd => ⟨d + 1, Or.inr (Or.inr (Or.inr (Or.inr ⟨hk, hd⟩)))⟩
theorem SK.gen {G G1 : LG} {v : Int → Int} {n k t : Int} (hx : TX G G1) (hg : ¬ (gS G a_isGenerative (n).toNat) = 0) (hk : 0 ≤ k ∧ k < 6) (ht : key G1 t 10 n k 0) : skey G1 v n t := ⟨k, hk, Or.inl ⟨by rw [hx.nd (n := a_isGenerative) (by decide)]; exact hg, ht⟩⟩
theorem SK.both {G G1 : LG} {v : Int → Int} {n k t x y : Int} (hx : TX G G1) (hg : (gS G a_isGenerative (n).toNat) = 0) (hk : 0 ≤ k ∧ k < 6) (h1 : idN G v ((gS G a_nFirst (n).toNat)) x) (h2 : idN G v ((gS G a_nSecond (n).toNat)) y) (ht : key G1 t 11 x y k) : skey G1 v n t :=
  ⟨k, hk, Or.inr ⟨by rw [hx.nd (n := a_isGenerative) (by decide)]; exact hg, x, y, by rw [hx.nd (n := a_nFirst) (by decide)]; exact hx.idN h1, by rw [hx.nd (n := a_nSecond) (by decide)]; exact hx.idN h2, ht⟩⟩
theorem mkN.s {G G1 : LG} {v : Int → Int} {n t : Int} (hx : TX G G1) (hn : 0 ≤ n ∧ n < (gS G 1000 18)) (hk : (gS G a_nKind (n).toNat) = 2) (h : skey G1 v n t) : ∃ m : Int, (0 ≤ m ∧ m < (gS G1 1000 18)) ∧ mkN G1 v m t :=
  ⟨n, ⟨hn.1, by rw [hx.2.1]; exact hn.2⟩, Or.inr (Or.inl ⟨by rw [hx.nd (n := a_nKind) (by decide)]; exact hk, h⟩)⟩
theorem full_st {G G2 : LG} {v : Int → Int} {n t r : Int} (hf : Fr nX12_full jX12_full G G2) (hp : FU G2 ∧ (0 ≤ r ∧ r < (gS G2 1000 26) ∧ (gS G2 1000 26) ≤ (gS G 1000 26) + 1) ∧ FX G G2 ∧ (∀ j : Int, 0 ≤ j → j < (gS G 1000 26) → (gS G2 a_fMark (j).toNat) = (gS G a_fMark (j).toNat)) ∧ (gS G2 a_fKind (r).toNat) = 2 ∧ (gS G2 a_fA (r).toNat) = t ∧ (gS G2 a_fB (r).toNat) = 0) (hs : stN G v n t) : (0 ≤ r ∧ r < (gS G2 1000 26)) ∧ (gS G2 a_fSize (r).toNat) = 1 ∧ okS G2 (stN G2 v n) r := by
  obtain ⟨f2, ⟨r0, r2, r3⟩, fx2, m2, q1, q2, -⟩ := hp
  have a2 : Agr thA thJ G G2 := hf.agr (by decide) (by decide) (by decide)
  refine ⟨⟨r0, r2⟩, (f2.2.2.2.2 r r0 r2).2.2.2.2.2.1 (by omega), okS.leaf (by omega) (fun _ => ?_)⟩
  rw [q2]
  exact (TX.agr a2).stN hs
/-- the names of m below k have stamps of n, the others none -/
def SG (G : LG) (v : Int → Int) (n m k : Int) : Prop := ∀ j : Int, 0 ≤ j → j < k → (bitI m j → (0 ≤ (gS G a_solved (j).toNat) ∧ (gS G a_solved (j).toNat) < (gS G 1000 26)) ∧ (gS G a_fSize ((gS G a_solved (j).toNat)).toNat) = 1 ∧ okS G (stN G v n) ((gS G a_solved (j).toNat))) ∧ (¬ bitI m j → (gS G a_solved (j).toNat) = -1)
theorem SG.set {G Gp G' : LG} {v : Int → Int} {n m k x : Int} (h : SG G v n m k) (hF : FU G) (hx : FX G Gp) (ht : TX G Gp) (hF2 : FU Gp) (hs : ∀ j : Nat, gS Gp a_solved j = gS G a_solved j) (hk : 0 ≤ k ∧ k < 6) (e : G' = gset Gp a_solved (k).toNat x)
    (hv : (bitI m k ∧ (0 ≤ x ∧ x < (gS Gp 1000 26)) ∧ (gS Gp a_fSize (x).toNat) = 1 ∧ okS Gp (stN Gp v n) x) ∨ (¬ bitI m k ∧ x = -1)) : SG G' v n m (k + 1) := by
  have f : Fr [a_solved] [] Gp G' := Fr.setA Fr.rf e (by decide)
  have hx2 : FX Gp G' := FX.agf f (by decide) (by decide) (by decide)
  have aT : Agr thA thJ Gp G' := f.agr (by decide) (by decide) (by decide)
  have ht2 : TX Gp G' := TX.agr aT
  have e26 : (gS G' 1000 26) = (gS Gp 1000 26) := f.atF (by decide) (by decide)
  intro j j0 j1
  by_cases hj : j = k
  · subst hj
    rw [g_at (g_upd e), e26]
    rcases hv with ⟨q, q1, q2, q3⟩ | ⟨q, q1⟩
    · exact ⟨fun _ => ⟨q1, by rw [(hx2.2 _ q1.1 q1.2).2.2.2]; exact q2, (q3.fx hx2 hF2 q1.1 q1.2).mono (fun t ht => ht2.stN ht)⟩, fun z => absurd q z⟩
    · exact ⟨fun z => absurd z q, fun _ => q1⟩
  · rw [g_ne (g_upd e) (by omega), hs, e26]
    obtain ⟨h1, h2⟩ := h j j0 (by omega)
    refine ⟨fun q => ?_, h2⟩
    obtain ⟨q1, q2, q3⟩ := h1 q
    have := hx.1
    exact ⟨⟨q1.1, by omega⟩, by rw [((hx.trans hx2).2 _ q1.1 q1.2).2.2.2]; exact q2, (q3.fx (hx.trans hx2) hF q1.1 q1.2).mono (fun t z => (ht.trans ht2).stN z)⟩
/-- the names that stand for types stand for what is no pair -/
def BZ (G : LG) : Prop := ∀ j : Int, 0 ≤ j → j < 6 → 0 ≤ (gS G a_by (j).toNat) → (gS G a_fSize ((gS G a_by (j).toNat)).toNat) = 1
theorem BZ.fx {G G' : LG} {P : Int → Prop} (h : BZ G) (hB : BY G P) (hx : FX G G') (e : ∀ j : Nat, gS G' a_by j = gS G a_by j) : BZ G' := fun j j0 j1 q => by
  rw [e] at q ⊢
  rw [(hx.2 _ q (hB j j0 j1).1.2).2.2.2]
  exact h j j0 j1 q
theorem SG.out {G G' : LG} {v : Int → Int} {n m : Int} (h : SG G v n m 6) (hF : FU G) (hf : Fr nX12_setsBy jX12_setsBy G G') (hp : ∀ j : Int, 0 ≤ j → j < 6 → (bitI m j → (gS G' a_by (j).toNat) = (gS G a_solved (j).toNat)) ∧ (¬ bitI m j → (gS G' a_by (j).toNat) = -1)) : SO G' (stN G v n) m ∧ BY G' (stN G v n) ∧ BZ G' := by
  have hx : FX G G' := FX.agf hf (by decide) (by decide) (by decide)
  have e26 : (gS G' 1000 26) = (gS G 1000 26) := hf.atF (by decide) (by decide)
  have hf0 := hF.f
  refine ⟨fun j j0 j1 q => ?_, fun j j0 j1 => ?_, fun j j0 j1 q => ?_⟩
  · rw [hf.atA (n := a_solved) (by decide) (by decide), e26]
    obtain ⟨q1, q2, q3⟩ := (h j j0 j1).1 q
    exact ⟨q1, by rw [(hx.2 _ q1.1 q1.2).2.2.2]; omega, q3.fx hx hF q1.1 q1.2⟩
  · by_cases q : bitI m j
    · rw [(hp j j0 j1).1 q, e26]
      obtain ⟨q1, q2, q3⟩ := (h j j0 j1).1 q
      exact ⟨⟨by omega, q1.2⟩, fun _ => q3.fx hx hF q1.1 q1.2⟩
    · rw [(hp j j0 j1).2 q]
      exact ⟨⟨by omega, by omega⟩, fun z => by omega⟩
  · by_cases z : bitI m j
    · rw [(hp j j0 j1).1 z] at q ⊢
      obtain ⟨q1, q2, q3⟩ := (h j j0 j1).1 z
      rw [(hx.2 _ q1.1 q1.2).2.2.2]
      exact q2
    · rw [(hp j j0 j1).2 z] at q
      omega
abbrev nSe : List Nat := [a_solved, a_by, a_fKind, a_fA, a_fB, a_fSize, a_fNext, a_fHead, a_fMark, a_thingKind, a_thingA, a_thingB, a_thingC, a_thingNext, a_thingHead, a_stackOf, a_fMemo]
abbrev nSt : List Nat := a_sType :: nSe
abbrev jSe : List Nat := [26, 42, 35, 36]
