/-! THE CLASS: the table of things -/
theorem i_and63 (x : Int) : 0 ≤ i_and x 63 ∧ i_and x 63 < 64 := by
  unfold i_and
  have h : (Int32.ofInt x &&& Int32.ofInt 63).toInt = ((Int32.ofInt x &&& Int32.ofInt 63).toBitVec).toInt := rfl
  have e : (Int32.ofInt 63).toBitVec = 63#32 := rfl
  rw [h, Int32.toBitVec_and, e]
  have h1 : ((Int32.ofInt x).toBitVec &&& 63#32).toNat ≤ 63 := by
    rw [BitVec.toNat_and]
    exact Nat.and_le_right
  have h2 := BitVec.toInt_eq_toNat_cond ((Int32.ofInt x).toBitVec &&& 63#32)
  rw [if_pos (by omega)] at h2
  omega
theorem hsC_b (k a b c : Int) : 0 ≤ hsC k a b c ∧ hsC k a b c < 64 := i_and63 _
theorem i_andC {x y z : Int} (h : Int32.ofInt x = Int32.ofInt y) : i_and x z = i_and y z := by unfold i_and; rw [h]
theorem i_xorC {x y z w : Int} (h : Int32.ofInt x = Int32.ofInt y) (h2 : z = w) : i_xor x z = i_xor y w := by subst h2; unfold i_xor; rw [h]
theorem i_ushrC {x y z : Int} (h : Int32.ofInt x = Int32.ofInt y) : i_ushr x z = i_ushr y z := by unfold i_ushr; rw [h]
/-- the hash of what is in the machine's words -/
theorem hsC_of {k a b c z z1 z2 z3 z4 z5 : Int} (h1 : Int32.ofInt z1 = Int32.ofInt (k * 31)) (h2 : Int32.ofInt z2 = Int32.ofInt (z1 + a)) (h3 : Int32.ofInt z3 = Int32.ofInt (z2 * 1009)) (h4 : Int32.ofInt z4 = Int32.ofInt (z3 + b)) (h5 : Int32.ofInt z5 = Int32.ofInt (z4 * 1013)) (h6 : Int32.ofInt z = Int32.ofInt (z5 + c)) : i_and (i_xor z (i_ushr z 15)) 63 = hsC k a b c := by
  have e : Int32.ofInt z = Int32.ofInt (((k * 31 + a) * 1009 + b) * 1013 + c) := by
    rw [h6, Int32.ofInt_add, h5, Int32.ofInt_mul, h4, Int32.ofInt_add, h3, Int32.ofInt_mul, h2, Int32.ofInt_add, h1]
    simp only [Int32.ofInt_add, Int32.ofInt_mul]
  unfold hsC
  rw [i_xorC e (i_ushrC e)]
theorem RcC.keep {G G' : LG} {T : Int} (hn : ∀ y : Int, 0 ≤ y → y < T → tbC G' y 4 = tbC G y 4) (hb : ∀ y : Int, 0 ≤ y → y < T → tbC G y 4 < y) : ∀ (m : Nat) (k t : Int), k < T → RcC G m k t → RcC G' m k t := by
  intro m
  induction m with
  | zero => intro k t _ h; exact h
  | succ m ih =>
    intro k t hk h
    obtain ⟨h0, h1⟩ := h
    refine ⟨h0, ?_⟩
    rcases h1 with h1 | h1
    · exact Or.inl h1
    · rw [hn k h0 hk]
      have := hb k h0 hk
      exact Or.inr (ih _ _ (by omega) h1)
theorem thC_new {G G' : LG} {k a b c : Int} {p : Nat} {Hs : List (Int → Int)} {v : Int → Int} (hTH : ThC G Hs) (hv : v ∈ Hs) (hA : ∀ G' : LG, TxC G G' → ∀ t, keyC G' t k a b c → ∃ n : Nat, (n : Int) < nN G' ∧ mkC G' v n t) (hno : ∀ t, ¬ keyC G t k a b c) (e1 : cnC G' = cnC G + 1) (e2 : ∀ (t : Int) (i : Nat), 0 ≤ t → t < cnC G → i < 5 → tbC G' t i = tbC G t i)
    (e3 : tbC G' (cnC G) 0 = k ∧ tbC G' (cnC G) 1 = a ∧ tbC G' (cnC G) 2 = b ∧ tbC G' (cnC G) 3 = c ∧ tbC G' (cnC G) 4 = gS G 327688 p) (e4 : ∀ q, gS G' 327688 q = if q = p then cnC G else gS G 327688 q) (hp : p = (hsC k a b c).toNat) (hNe : NeC G G') (hcur : curC G' = curC G) :
    ThC G' Hs ∧ TxC G G' ∧ keyC G' (cnC G) k a b c := by
  obtain ⟨⟨hc0, hc1, hc2, hc3⟩, hdis, hHI, hND, hcov⟩ := hTH
  have hp64 : p < 64 := by have := hsC_b k a b c; omega
  have hkm : ∀ t k a b c : Int, keyC G t k a b c → keyC G' t k a b c := by
    intro t k a b c ⟨⟨q0, q1⟩, q2, q3, q4, q5⟩
    exact ⟨⟨q0, by omega⟩, (e2 t 0 q0 q1 (by decide)).trans q2, (e2 t 1 q0 q1 (by decide)).trans q3, (e2 t 2 q0 q1 (by decide)).trans q4, (e2 t 3 q0 q1 (by decide)).trans q5⟩
  have hTX : TxC G G' := ⟨hNe, ⟨by omega, hkm⟩, hcur⟩
  have hk : keyC G' (cnC G) k a b c := ⟨⟨hc0, by omega⟩, e3.1, e3.2.1, e3.2.2.1, e3.2.2.2.1⟩
  have hkey : ∀ {t k' a' b' c' : Int}, keyC G' t k' a' b' c' → (t = cnC G ∧ k' = k ∧ a' = a ∧ b' = b ∧ c' = c) ∨ (t ≠ cnC G ∧ keyC G t k' a' b' c') := by
    intro t k' a' b' c' q
    obtain ⟨⟨q0, q1⟩, q2, q3, q4, q5⟩ := q
    by_cases ht : t = cnC G
    · subst ht
      exact Or.inl ⟨rfl, q2.symm.trans e3.1, q3.symm.trans e3.2.1, q4.symm.trans e3.2.2.1, q5.symm.trans e3.2.2.2.1⟩
    · have q1' : t < cnC G := by omega
      exact Or.inr ⟨ht, ⟨q0, q1'⟩, (e2 t 0 q0 q1' (by decide)).symm.trans q2, (e2 t 1 q0 q1' (by decide)).symm.trans q3, (e2 t 2 q0 q1' (by decide)).symm.trans q4, (e2 t 3 q0 q1' (by decide)).symm.trans q5⟩
  have hkeep : ∀ (m : Nat) (k t : Int), k < cnC G → RcC G m k t → RcC G' m k t := RcC.keep (fun y h0 h1 => e2 y 4 h0 h1 (by decide)) (fun y h0 h1 => (hc2 y h0 h1).2)
  refine ⟨⟨⟨by omega, fun q hq => ?_, fun t t0 t1 => ?_, fun t t0 t1 => ?_⟩, ?_, hHI, hND.ne hNe, fun t t0 t1 => ?_⟩, hTX, hk⟩
  · have h9 := hc1 q hq
    rw [e4]
    split <;> omega
  · have h9 := hc1 p hp64
    by_cases ht : t = cnC G
    · subst ht
      rw [e3.2.2.2.2]
      omega
    · rw [e2 t 4 t0 (by omega) (by decide)]
      exact hc2 t t0 (by omega)
  · by_cases ht : t = cnC G
    · subst ht
      rw [e3.1, e3.2.1, e3.2.2.1, e3.2.2.2.1, ← hp, e4, if_pos rfl]
      exact ⟨1, hc0, Or.inl rfl⟩
    · have t1' : t < cnC G := by omega
      rw [e2 t 0 t0 t1' (by decide), e2 t 1 t0 t1' (by decide), e2 t 2 t0 t1' (by decide), e2 t 3 t0 t1' (by decide)]
      obtain ⟨m, hm⟩ := hc3 t t0 t1'
      rw [e4]
      by_cases hq : (hsC (tbC G t 0) (tbC G t 1) (tbC G t 2) (tbC G t 3)).toNat = p
      · rw [if_pos hq]
        rw [hq] at hm
        have h9 := hc1 p hp64
        refine ⟨m + 1, hc0, Or.inr ?_⟩
        rw [e3.2.2.2.2]
        exact hkeep _ _ _ (by omega) hm
      · rw [if_neg hq]
        have hb := hsC_b (tbC G t 0) (tbC G t 1) (tbC G t 2) (tbC G t 3)
        have h9 := hc1 (hsC (tbC G t 0) (tbC G t 1) (tbC G t 2) (tbC G t 3)).toNat (by omega)
        exact ⟨m, hkeep _ _ _ (by omega) hm⟩
  · intro t s k' a' b' c' h1 h2
    rcases hkey h1 with ⟨rfl, rfl, rfl, rfl, rfl⟩ | ⟨n1, h1'⟩
    · rcases hkey h2 with ⟨rfl, -⟩ | ⟨-, h2'⟩
      · rfl
      · exact absurd h2' (hno _)
    · rcases hkey h2 with ⟨rfl, rfl, rfl, rfl, rfl⟩ | ⟨-, h2'⟩
      · exact absurd h1' (hno _)
      · exact hdis _ _ _ _ _ _ h1' h2'
  · by_cases ht : t = cnC G
    · subst ht
      exact ⟨v, hv, hA G' hTX _ hk⟩
    · obtain ⟨w, hw, n, hn, hm⟩ := hcov t t0 (by omega)
      exact ⟨w, hw, n, by rw [hNe.1]; exact hn, (hTX.ag hND).mk hn hm⟩
/-- cells of the table of things -/
theorem CI.thg {a b : Nat} {G : LG} (h : CI a b G) (al : (gK G 327683).1 ≠ 0) : ∃ q L : Nat, gS G 327683 0 = (q : Int) ∧ q % 1048576 = 327687 ∧ cde q = 507 ∧ gK G q = (1, L) ∧ (320 ≤ L ∧ L ≤ 810000 ∧ L % 5 = 0) ∧ (0 ≤ cnC G ∧ 5 * cnC G ≤ (L : Int)) ∧ (∀ t : Int, 0 ≤ t → t < cnC G → -1 ≤ tbC G t 4 ∧ tbC G t 4 < cnC G) ∧ (∀ h : Nat, h < 64 → gS G 327688 h < cnC G) ∧ (∀ (t : Int) (i : Nat), tbC G t i = gS G q (5 * t + i).toNat) := by
  obtain ⟨q, L, a1, a2, a3, a4, a5, a6, a7, a8⟩ := h.2.2.1
  have hk : gK G 327683 = (16, 0) := h.1.k (c := 503) (by decide) al
  have h3 : 0 ≤ gS G 327683 0 ∧ gS G 327683 0 % 1048576 = 327687 := h.1.v (c := 503) (j := 0) (by decide) al (by rw [hk]; exact Nat.le_of_ble_eq_true rfl)
  have h4 : 0 ≤ gS G 327683 1 ∧ gS G 327683 1 ≤ 200000 := h.1.v (c := 503) (j := 1) (by decide) al (by rw [hk]; exact Nat.le_of_ble_eq_true rfl)
  have e : ∀ (t : Int) (i : Nat), tbC G t i = gS G q (5 * t + i).toNat := fun t i => by unfold tbC; rw [a1, Int.toNat_natCast]
  exact ⟨q, L, a1, by omega, a2, a3, ⟨a4, a5⟩, ⟨h4.1, a6⟩, fun t t0 t1 => by rw [e]; exact a7 t t0 t1, a8, e⟩
/-- a place of the table beyond what is there -/
theorem CI.madeAt {a b : Nat} {G : LG} {q j : Nat} {v : Int} (h : CI a b G) (hq : gS G 327683 0 = (q : Int)) (hc : cde q = 507) (hj : 5 * cnC G ≤ (j : Int)) : CI a b (gset G q j v) := by
  obtain ⟨q2, L, a1, a2, a3, a4, a5, a6, a7, a8⟩ := h.2.2.1
  have e : q2 = q := by omega
  subst e
  have n3 : (327683 : Nat) ≠ q2 := fun z => by rw [← z] at hc; exact absurd hc (by decide)
  have n8 : (327688 : Nat) ≠ q2 := fun z => by rw [← z] at hc; exact absurd hc (by decide)
  refine ⟨h.1.set (by rw [hc]; exact True.intro), h.2.hold (fun z z1 z2 z3 z4 z5 z6 z7 => ?_) rfl rfl ?_ (h.2.2.2.1.cg (by funext y; exact gset_ne _ _ (fun w => by have := w.1; rw [← this] at hc; exact absurd hc (by decide))) rfl) (h.2.2.2.2.2.1.cg (fun z hz => by funext y; exact gset_ne _ _ (fun w => by rcases hz with z1 | z1 | z1 <;> (have := w.1; rw [← this] at hc; subst_vars; first | exact absurd hc (by decide) | omega))) rfl) ?_⟩
  · funext y; exact gset_ne _ _ (fun w => z5 (by rw [w.1]; exact hc))
  · refine ⟨q2, L, ?_⟩
    have f3 : ∀ y, gS (gset G q2 j v) 327683 y = gS G 327683 y := fun y => gset_ne _ _ (fun w => n3 w.1)
    have f8 : ∀ y, gS (gset G q2 j v) 327688 y = gS G 327688 y := fun y => gset_ne _ _ (fun w => n8 w.1)
    rw [f3, f3]
    refine ⟨a1, a2, a3, a4, a5, a6, fun t t0 t1 => ?_, fun p hp => by rw [f8]; exact a8 p hp⟩
    rw [gset_ne _ _ (fun w => by have h9 : cnC G = gS G 327683 1 := rfl; omega)]
    exact a7 t t0 t1
  · have h9 := h.2.2.2.2.2.2.2.2.2.2
    have e := Sm_same (G := G) (G' := gset G q2 j v) rfl (fun m hm => gset_ne _ _ (fun e => by
      have h8 := HL_sp m hm
      rw [e.1] at h8
      have h7 := HL_sh m hm
      have hm1 : m.1 < 1048576 := h7.1
      have h6 : cde m.1 = 507 := by rw [e.1]; exact hc
      unfold SH at h7
      rcases h7 with ⟨z1, ⟨z2, z3, z4⟩ | z2 | z2 | ⟨z2, z3⟩⟩
      · have := cde_n (x := m.1) (by omega) (by omega); omega
      · rw [z2.1] at h6; exact absurd h6 (by decide)
      · rw [z2.1] at h6; exact absurd h6 (by decide)
      · rcases z2 with z2 | z2 <;> (rw [z2] at h6; exact absurd h6 (by decide))))
    exact ⟨by rw [e]; exact h9.1, by rw [e]; exact h9.2⟩
/-- a new thing is counted, ahead in its chain -/
theorem CI.thing2 {a b : Nat} {G : LG} {q L p : Nat} (h : CI a b G) (hq : gS G 327683 0 = (q : Int)) (hk : gK G q = (1, L)) (hp : p < 64) (h0 : 0 ≤ cnC G) (hL : 5 * cnC G + 5 ≤ (L : Int)) (hn : cnC G < 200000) (h4 : -1 ≤ tbC G (cnC G) 4 ∧ tbC G (cnC G) 4 < cnC G) : CI a b (gset (gset G 327688 p (cnC G)) 327683 1 (cnC G + 1)) := by
  obtain ⟨q2, L2, a1, a2, a3, a4, a5, a6, a7, a8⟩ := h.2.2.1
  have e : q2 = q := by omega
  subst e
  rw [hk] at a3
  have eL : L = L2 := congrArg Prod.snd a3
  subst eL
  have n3 : q2 ≠ 327683 := fun z => by rw [z] at a2; exact absurd a2 (by decide)
  have n8 : q2 ≠ 327688 := fun z => by rw [z] at a2; exact absurd a2 (by decide)
  have f : ∀ z y, z ≠ 327683 → z ≠ 327688 → gS (gset (gset G 327688 p (cnC G)) 327683 1 (cnC G + 1)) z y = gS G z y := fun z y z1 z2 => by rw [gset_ne _ _ (fun w => z1 w.1), gset_ne _ _ (fun w => z2 w.1)]
  have f0 : gS (gset (gset G 327688 p (cnC G)) 327683 1 (cnC G + 1)) 327683 0 = gS G 327683 0 := by rw [gset_ne _ _ (fun w => absurd w.2 (by decide)), gset_ne _ _ (fun w => absurd w.1 (by decide))]
  have f1 : gS (gset (gset G 327688 p (cnC G)) 327683 1 (cnC G + 1)) 327683 1 = cnC G + 1 := gset_at _ _ _ _
  have hcn : cnC G = gS G 327683 1 := rfl
  refine ⟨(h.1.set (show tv (cde 327688) (327688 % 1048576) p (cnC G) from by rw [show cde 327688 = 508 by decide]; exact (show -1 ≤ cnC G ∧ cnC G ≤ 200000 by omega))).set (by rw [show cde 327683 = 503 by decide]; exact (show 0 ≤ cnC G + 1 ∧ cnC G + 1 ≤ 200000 by omega)), h.2.hold (fun z z1 z2 z3 z4 z5 z6 z7 => ?_) rfl rfl ?_ (h.2.2.2.1.cg (by funext y; exact f _ y (by decide) (by decide)) rfl) (h.2.2.2.2.2.1.cg (fun z hz => by funext y; exact f _ y (by rcases hz with z1 | z1 | z1; omega; omega; intro w; rw [w] at z1; exact absurd z1 (by decide)) (by rcases hz with z1 | z1 | z1; omega; omega; intro w; rw [w] at z1; exact absurd z1 (by decide))) rfl) ?_⟩
  · funext y; exact f z y z1 (fun w => z6 (by rw [w]; decide))
  · refine ⟨q2, L, ?_⟩
    rw [f0, f1]
    refine ⟨a1, a2, hk, a4, a5, by omega, fun t t0 t1 => ?_, fun x hx => ?_⟩
    · rw [f q2 _ n3 n8]
      by_cases ht : t = cnC G
      · subst ht
        have h9 : tbC G (cnC G) 4 = gS G q2 (5 * cnC G + 4).toNat := by unfold tbC; rw [a1, Int.toNat_natCast]; rfl
        rw [← h9]; omega
      · have h9 := a7 t t0 (by omega)
        omega
    · have h9 := a8 x hx
      rw [gset_ne _ _ (fun w => absurd w.1 (by decide))]
      by_cases hx2 : x = p
      · subst hx2; rw [gset_at]; omega
      · rw [gset_ne _ _ (fun w => hx2 w.2)]; omega
  · have h9 := h.2.2.2.2.2.2.2.2.2.2
    have e := Sm_same (G := G) (G' := gset (gset G 327688 p (cnC G)) 327683 1 (cnC G + 1)) rfl (fun m hm => by
      have h7 := HL_sh m hm
      unfold SH at h7
      by_cases w : m.1 = 327683
      · have w2 : m.2 = 0 := by rcases h7 with ⟨z1, ⟨z2, z3, z4⟩ | z2 | z2 | ⟨z2, z3⟩⟩ <;> omega
        rw [w, w2]; exact f0
      · exact f _ _ w (by rcases h7 with ⟨z1, ⟨z2, z3, z4⟩ | z2 | z2 | ⟨z2, z3⟩⟩ <;> omega))
    exact ⟨by rw [e]; exact h9.1, by rw [e]; exact h9.2⟩
/-- the table gives way to a longer one -/
theorem CI.growThings {a b : Nat} {G G' : LG} {q L M n : Nat} (h : CI a b G) (al : (gK G 327683).1 ≠ 0) (hq : gS G 327683 0 = (q : Int)) (hk : gK G q = (1, L)) (hL : 320 ≤ L) (hM : M = 2 * L ∧ M ≤ 810000) (hn : n = 327687 + 1048576 * (1 + gc G))
    (e1 : ∀ z, z ≠ n → z ≠ 327683 → gS G' z = gS G z) (e2 : gS G' 327683 0 = (n : Int)) (e3 : ∀ j, j ≠ 0 → gS G' 327683 j = gS G 327683 j) (e4 : gK G' = gK (gnew G n 1 M M (fun _ => 0))) (e5 : gc G' = gc G + 1) (e6 : gs G' = gs G + M) (e7 : ∀ j, j < L → gS G' n j = gS G q j) : CI a b G' := by
  have hcn : cde n = 507 := (cde_mod (y := 327687) (by omega) (by decide)).trans (by decide)
  have hn0 : (gK G n).1 = 0 := h.2.2.2.2.2.2.2.2.2.1.1 n (by omega)
  have hkn : gK G' n = (1, M) := by rw [e4]; exact gnew_K _ _ _ _ _ _
  have hT : TI G' := h.1.grow (x := 327683) (k := 0) (by omega) e4 (by rw [hcn]; exact ⟨M, rfl, by omega, by omega⟩) (fun r j v => by rw [hcn]; exact True.intro) (by rw [show cde 327683 = 503 by decide]; show 0 ≤ (n : Int) ∧ (n : Int) % 1048576 = 327687; omega) e1 e2 e3
  have hA : AC a b G' := h.2.2.2.2.2.2.2.2.2.2.grow HL_th al hq hk (by decide) (by omega) (by omega) (by omega) hn0 (by omega) e1 e2 e3 e4 e5 e6
  obtain ⟨q2, L2, a1, a2, a3, a4, a5, a6, a7, a8⟩ := h.2.2.1
  have e : q2 = q := by omega
  subst e
  rw [hk] at a3
  have eL : L = L2 := congrArg Prod.snd a3
  subst eL
  refine ⟨hT, h.2.grown (x := 327683) (Or.inl rfl) (by omega) (Or.inl hcn) e4 e5 e1 ⟨n, M, e2, hcn, hkn, by omega, by omega, by rw [e3 1 (by decide)]; omega, fun t t0 t1 => ?_, fun x hx => ?_⟩ (E3.cg (h.2.2.2.1.new hn0 (by omega)) (by rw [e1 327684 (by omega) (by decide), gnew_ne _ _ _ _ _ (by omega)]) e4) (E5.cg (h.2.2.2.2.2.1.new hn0 (by omega)) (fun z z1 => ?_) e4) hA⟩
  · rw [e3 1 (by decide)] at t1 ⊢
    rw [e7 _ (by omega)]; exact a7 t t0 t1
  · rw [e3 1 (by decide), e1 327688 (by omega) (by decide)]; exact a8 x hx
  · have zn : z ≠ n := fun w => by rw [w] at z1; rcases z1 with z1 | z1 | z1 <;> omega
    rw [e1 z zn (by rcases z1 with z1 | z1 | z1; omega; omega; intro w; rw [w] at z1; exact absurd z1 (by decide)), gnew_ne _ _ _ _ _ zn]
/-- what a world keeps where only cells so named have changed -/
theorem TxC.wx {a b : Nat} {S : Nat → Prop} {G G' : LG} (hC : CI a b G) (kx : KX G G') (wx : WX S G G') (a5 : (gK G 327685).1 ≠ 0) (aT : (gK G 327683).1 ≠ 0) (aV : (gK G 327710).1 ≠ 0) (hS : ¬ S 327683 ∧ ¬ S 327687 ∧ ¬ S 327685 ∧ ¬ S 327710 ∧ ¬ S 63) (hO : ∀ n : Nat, (n : Int) < nN G → ∀ j, 1 ≤ j → j ≤ 6 → gS G' (65536 + 64 * n) j = gS G (65536 + 64 * n) j) : TxC G G' ∧ cnC G' = cnC G ∧ (∀ t i, tbC G' t i = tbC G t i) := by
  have w3 : gS G' 327683 = gS G 327683 := wx _ aT hS.1
  have w5 : gS G' 327685 = gS G 327685 := wx _ a5 hS.2.2.1
  have w1 : gS G' 327710 = gS G 327710 := wx _ aV hS.2.2.2.1
  obtain ⟨q, L, c1, c2, c3, c4, -⟩ := hC.thg aT
  have wq : gS G' q = gS G q := wx _ (kne c4 (by decide)) (by rw [c2]; exact hS.2.1)
  have et : ∀ t i, tbC G' t i = tbC G t i := fun t i => by unfold tbC; rw [w3, c1, Int.toNat_natCast, wq]
  have ec : cnC G' = cnC G := by unfold cnC; rw [w3]
  refine ⟨⟨⟨by unfold nN; rw [w5], fun n hn => ?_⟩, ⟨by omega, fun t k a b c h => ?_⟩, by unfold curC; rw [w1]⟩, ec, et⟩
  · have o := hO n hn
    obtain ⟨pa, p1, p2, p3, p4, p5, -⟩ := hC.2.2.2.2.2.2.2.2.1 n hn
    refine ⟨o 1 (by decide) (by decide), o 3 (by decide) (by decide), o 4 (by decide) (by decide), o 5 (by decide) (by decide), o 6 (by decide) (by decide), fun k hk => ?_⟩
    unfold ptC
    rw [o 2 (by decide) (by decide), p1, Int.toNat_natCast]
    have hp : pa % 1048576 = 63 := by
      unfold cde at p2
      (repeat' split at p2) <;> omega
    rw [wx pa (kne p4 (by decide)) (by rw [hp]; exact hS.2.2.2.2)]
  · obtain ⟨q0, q1, q2, q3, q4⟩ := h
    exact ⟨by rw [ec]; exact q0, (et _ _).trans q1, (et _ _).trans q2, (et _ _).trans q3, (et _ _).trans q4⟩
theorem ThC.tx {G G' : LG} {Hs : List (Int → Int)} (h : ThC G Hs) (tx : TxC G G') (ec : cnC G' = cnC G) (et : ∀ t i, tbC G' t i = tbC G t i) (w8 : ∀ p, p < 64 → gS G' 327688 p = gS G 327688 p) : ThC G' Hs := by
  obtain ⟨⟨hc0, hc1, hc2, hc3⟩, hdis, hHI, hND, hcov⟩ := h
  have kb : ∀ t k a b c : Int, keyC G' t k a b c → keyC G t k a b c := fun t k a b c q => by
    obtain ⟨q0, q1, q2, q3, q4⟩ := q
    exact ⟨by rw [ec] at q0; exact q0, (et _ _).symm.trans q1, (et _ _).symm.trans q2, (et _ _).symm.trans q3, (et _ _).symm.trans q4⟩
  refine ⟨⟨by omega, fun p hp => by rw [w8 p hp, ec]; exact hc1 p hp, fun t t0 t1 => by rw [et]; exact hc2 t t0 (by omega), fun t t0 t1 => ?_⟩, fun t s k a b c h1 h2 => hdis _ _ _ _ _ _ (kb _ _ _ _ _ h1) (kb _ _ _ _ _ h2), hHI, hND.ne tx.1, fun t t0 t1 => ?_⟩
  · obtain ⟨m, hm⟩ := hc3 t t0 (by omega)
    rw [et, et, et, et]
    have hb := hsC_b (tbC G t 0) (tbC G t 1) (tbC G t 2) (tbC G t 3)
    rw [w8 _ (by omega)]
    have h9 := hc1 (hsC (tbC G t 0) (tbC G t 1) (tbC G t 2) (tbC G t 3)).toNat (by omega)
    exact ⟨m, RcC.keep (T := cnC G) (fun y _ _ => et y 4) (fun y h0 h1 => (hc2 y h0 h1).2) m _ _ (by omega) hm⟩
  · obtain ⟨v, hv, n, hn, hm⟩ := hcov t t0 (by omega)
    exact ⟨v, hv, n, by rw [tx.1.1]; exact hn, (tx.ag hND).mk hn hm⟩
theorem NeC.of {a b : Nat} {G G' : LG} (hC : CI a b G) (hN : NdC G) (hS : ∀ z, z ≠ 327683 → z ≠ 327688 → cde z ≠ 507 → gS G' z = gS G z) : NeC G G' ∧ curC G' = curC G := by
  have e5 := hS 327685 (by decide) (by decide) (by decide)
  have e1 := hS 327710 (by decide) (by decide) (by decide)
  refine ⟨⟨by unfold nN; rw [e5], fun n hn => ?_⟩, by unfold curC; rw [e1]⟩
  have h40 := hN.1
  have eo := hS (65536 + 64 * n) (by omega) (by omega) (by rw [cde_n (by omega) (by omega)]; omega)
  obtain ⟨pa, p1, p2, p3, p4, p5, -⟩ := hC.2.2.2.2.2.2.2.2.1 n hn
  unfold nkC nnC ntC ngC nwC ptC
  rw [eo]
  refine ⟨rfl, rfl, rfl, rfl, rfl, fun k hk => ?_⟩
  rw [p1, Int.toNat_natCast, hS pa (fun w => by rw [w] at p2; exact absurd p2 (by decide)) (fun w => by rw [w] at p2; exact absurd p2 (by decide)) (by rw [p2]; decide)]
