/-! THE CLASS: what holds rows that grow, one cell each -/
theorem E2.cg {G G' : LG} (h : E2 G) (hS : ∀ z, z = 327683 ∨ z = 327688 ∨ cde z = 507 → gS G' z = gS G z) (hK : gK G' = gK G) : E2 G' := by
  obtain ⟨q, L, a1, a2, a3⟩ := h
  have s1 := hS 327683 (Or.inl rfl)
  have s2 := hS 327688 (Or.inr (Or.inl rfl))
  have s3 := hS q (Or.inr (Or.inr a2))
  refine ⟨q, L, ?_⟩
  rw [s1, s2, s3, hK]; exact ⟨a1, a2, a3⟩
theorem E3.cg {G G' : LG} (h : E3 G) (hS : gS G' 327684 = gS G 327684) (hK : gK G' = gK G) : E3 G' := by
  obtain ⟨q, L, a1⟩ := h
  refine ⟨q, L, ?_⟩
  rw [hS, hK]; exact a1
theorem E5.cg {G G' : LG} (h : E5 G) (hS : ∀ z, z = 196628 ∨ z = 196692 ∨ ((321 ≤ cde z ∧ cde z ≤ 324) ∨ cde z = 307 ∨ cde z = 315) → gS G' z = gS G z) (hK : gK G' = gK G) : E5 G' := by
  intro k hk
  obtain ⟨q0, q1, q2, q3, L0, L1, L2, L3, B, a1, a2, a3⟩ := h k hk
  have s0 := hS k (by omega)
  have s1 := hS q0 (by omega)
  have s2 := hS q1 (by omega)
  have s3 := hS (k - 13) (Or.inr (Or.inr (Or.inr (Or.inl (by rcases hk with rfl | rfl <;> decide)))))
  have s4 := hS (k - 5) (Or.inr (Or.inr (Or.inr (Or.inr (by rcases hk with rfl | rfl <;> decide)))))
  refine ⟨q0, q1, q2, q3, L0, L1, L2, L3, B, ?_⟩
  rw [s0, s1, s2, s3, s4, hK]; exact ⟨a1, a2, a3⟩
theorem RLC.hold {a b a' b' : Nat} {G G' : LG} (h : RLC a' b' G) (hS : ∀ z, z ≠ 327683 → z ≠ 327684 → z ≠ 196628 → z ≠ 196692 → cde z ≠ 507 → cde z ≠ 508 → ¬ ((321 ≤ cde z ∧ cde z ≤ 324) ∨ cde z = 307 ∨ cde z = 315) → gS G' z = gS G z) (hK : gK G' = gK G) (hc : gc G' = gc G) (h2 : E2 G') (h3 : E3 G') (h5 : E5 G') (hA : AC a b G') : RLC a b G' := by
  obtain ⟨h1, -, -, h4, -, h6, h8, h9, hd, ha⟩ := h
  have hc9 : ∀ z, (cde z != 504 && cde z != 503 && cde z != 320 && cde z != 507 && cde z != 508 && cde z != 321 && cde z != 322 && cde z != 323 && cde z != 324 && cde z != 307 && cde z != 315) = true → gS G' z = gS G z := fun z hz => by
    simp only [Bool.and_eq_true, bne_iff_ne] at hz
    refine hS z (fun q => ?_) (fun q => ?_) (fun q => ?_) (fun q => ?_) (by omega) (by omega) (by omega)
    · subst q; exact hz.1.1.1.1.1.1.1.1.1.2 (by decide)
    · subst q; exact hz.1.1.1.1.1.1.1.1.1.1 (by decide)
    · subst q; exact hz.1.1.1.1.1.1.1.1.2 (by decide)
    · subst q; exact hz.1.1.1.1.1.1.1.1.2 (by decide)
  have s4 := hc9 327685 (by decide)
  have s5 := hc9 327681 (by decide)
  have s7 := hc9 327701 (by decide)
  have s8 := hc9 327702 (by decide)
  have s9 := hc9 327703 (by decide)
  have s10 := hc9 327704 (by decide)
  have s11 := hc9 327705 (by decide)
  have s12 := hc9 327707 (by decide)
  have s13 := hc9 327710 (by decide)
  refine ⟨fun x hx hx2 => ?_, h2, h3, ?_, h5, ?_, ⟨fun j k hj hk => ?_, ?_⟩, fun i hi => ?_, ?_, hA⟩
  · rw [hK] at hx
    rw [hc9 x (by rcases hx2 with q | q <;> rw [q] <;> rfl), hK]; exact h1 x hx hx2
  · obtain ⟨q, L, a1, a2, a3, a4, a5⟩ := h4
    refine ⟨q, L, ?_⟩
    rw [s4, hK]
    refine ⟨a1, a2, a3, a4, fun j hj => ?_⟩
    rcases a2 with a2 | a2
    · rw [hc9 q (by rw [a2]; rfl)]; exact a5 j hj
    · omega
  · unfold E6
    rw [s5, s7, s8, s9, s10, s11, s12]; exact h6
  · rw [hc9 (131072 + 64 * j + 2) (by rw [cde_v (by omega) (by omega), show (131072 + 64 * j + 2) % 64 = 2 by omega]; rfl), hc9 (131072 + 64 * j + 3) (by rw [cde_v (by omega) (by omega), show (131072 + 64 * j + 3) % 64 = 3 by omega]; rfl), s5]
    exact h8.1 j k hj hk
  · rw [s5, hc9 327697 (by decide)]; exact h8.2
  · have hi0 : (i : Int) < gS G 327685 2 := by rw [s4] at hi; exact hi
    obtain ⟨pa, a1, a2, a3⟩ := h9 i hi0
    have hi4 : cde (65536 + 64 * i) = 100 := by
      have h9 := a3.1.1
      rw [cde_n (by omega) (by omega)]; omega
    have so := hc9 (65536 + 64 * i) (by rw [hi4]; rfl)
    have sp := hc9 pa (by rw [a2]; rfl)
    refine ⟨pa, ?_⟩
    rw [so, sp, hK, s5, s13]; exact ⟨a1, a2, a3⟩
  · unfold DD
    rw [hK, hc, s4]; exact hd
theorem TI.grow {G G' : LG} {x k n t M : Nat} {d : Nat → Int} (h : TI G) (hxn : x ≠ n) (e4 : gK G' = gK (gnew G n t M M d)) (hk : tk (cde n) (t, M)) (hv : ∀ r j v, tv (cde n) r j v) (hx : tv (cde x) (x % 1048576) k (n : Int)) (e1 : ∀ z, z ≠ n → z ≠ x → gS G' z = gS G z) (e2 : gS G' x k = (n : Int)) (e3 : ∀ j, j ≠ k → gS G' x j = gS G x j) : TI G' := by
  intro z hz
  by_cases z1 : z = n
  · subst z1
    rw [e4, gnew_K]
    exact ⟨hk, fun j _ => hv _ _ _⟩
  · rw [e4, gnew_Kne _ _ _ _ _ z1] at hz ⊢
    refine ⟨(h z hz).1, fun j hj => ?_⟩
    by_cases z2 : z = x
    · subst z2
      by_cases j0 : j = k
      · subst j0; rw [e2]; exact hx
      · rw [e3 j j0]; exact (h z hz).2 j hj
    · rw [e1 z z1 z2]; exact (h z hz).2 j hj
theorem AC.grow {a b : Nat} {G G' : LG} {x k q t L n M : Nat} {d : Nat → Int} (h : AC a b G) (hm : (x, k) ∈ HL) (al : (gK G x).1 ≠ 0) (hq : gS G x k = (q : Int)) (hk : gK G q = (t, L)) (ht : t ≠ 0) (hL : 1 ≤ L) (hM : 2 * L ≤ M ∨ (x = 327684 ∧ L < 2412 ∧ 2412 ≤ M ∧ M ≤ 2412)) (hLM : L ≤ M) (hn0 : (gK G n).1 = 0) (hn2 : 1048576 ≤ n) (e1 : ∀ z, z ≠ n → z ≠ x → gS G' z = gS G z) (e2 : gS G' x k = (n : Int)) (e3 : ∀ j, j ≠ k → gS G' x j = gS G x j) (e4 : gK G' = gK (gnew G n t M M d)) (e5 : gc G' = gc G + 1) (e6 : gs G' = gs G + M) : AC a b G' := by
  have hA := h.hold (d := d) (k := t) hm al hq hk ht ht hL hM hLM hn0 hn2
  have hxs : x < 1048576 := (HL_sh _ hm).1
  have hxn : x ≠ n := by omega
  have e : ∀ f, Sm f G' = Sm f (gset (gnew G n t M M d) x k (n : Int)) := fun f => by
    unfold Sm
    congr 1
    refine List.map_congr_left (fun m hmm => ?_)
    have hm1 : m.1 ≠ n := fun q => by have := (HL_sh m hmm).1; omega
    have hv : gS G' m.1 m.2 = gS (gset (gnew G n t M M d) x k (n : Int)) m.1 m.2 := by
      by_cases hmx : m.1 = x
      · by_cases hm2 : m.2 = k
        · rw [hmx, hm2, e2, gset_at]
        · rw [hmx, e3 _ hm2, gset_ne _ _ (fun q => hm2 q.2), gnew_ne _ _ _ _ _ hxn]
      · rw [e1 m.1 hm1 hmx, gset_ne _ _ (fun q => hmx q.1), gnew_ne _ _ _ _ _ hm1]
    unfold ln
    rw [hv, e4, gset_K]
  unfold AC
  rw [e5, e6, e, e]
  exact hA
theorem HL_st : (327684, 3) ∈ HL := by decide +kernel
theorem HL_th : (327683, 0) ∈ HL := by decide +kernel
theorem HL_vl {x k : Nat} (hx : x = 196628 ∨ x = 196692) (hk : k < 4) : (x, k) ∈ HL := by
  have h : k = 0 ∨ k = 1 ∨ k = 2 ∨ k = 3 := by omega
  rcases hx with rfl | rfl <;> rcases h with rfl | rfl | rfl | rfl <;> decide +kernel
/-- .. the same with a longer row that one of these holds -/
theorem RLC.grown {a b : Nat} {G G' : LG} {x n t M : Nat} {d : Nat → Int} (h : RLC a b G) (hx : x = 327683 ∨ x = 327684 ∨ x = 196628 ∨ x = 196692) (hn : n / 1048576 = 1 + gc G) (hcn : cde n = 507 ∨ cde n = 510 ∨ (321 ≤ cde n ∧ cde n ≤ 324)) (e4 : gK G' = gK (gnew G n t M M d)) (e5 : gc G' = gc G + 1) (e1 : ∀ z, z ≠ n → z ≠ x → gS G' z = gS G z) (h2 : E2 G') (h3 : E3 G') (h5 : E5 G') (hA : AC a b G') : RLC a b G' := by
  have g1 := h.new (k := t) (L := M) (sl := M) (d := gS G' n) hn (by omega)
  refine g1.hold (fun z z1 z2 z3 z4 _ _ _ => ?_) (by rw [e4]; rfl) e5 h2 h3 h5 hA
  by_cases zn : z = n
  · subst zn; rw [gnew_at]
  · rw [gnew_ne _ _ _ _ _ zn]; exact e1 z zn (by omega)
theorem E2.new {G : LG} {n k L sl : Nat} {d : Nat → Int} (h : E2 G) (hn : (gK G n).1 = 0) (hn2 : 1048576 ≤ n) : E2 (gnew G n k L sl d) := by
  obtain ⟨q, M, a1, a2, a3, a4⟩ := h
  have hq : q ≠ n := fun z => by rw [z] at a3; rw [a3] at hn; exact n_10 hn
  refine ⟨q, M, ?_⟩
  rw [gnew_ne _ _ _ _ _ (show 327683 ≠ n by omega), gnew_ne _ _ _ _ _ (show 327688 ≠ n by omega), gnew_ne _ _ _ _ _ hq, gnew_Kne _ _ _ _ _ hq]; exact ⟨a1, a2, a3, a4⟩
theorem E3.new {G : LG} {n k L sl : Nat} {d : Nat → Int} (h : E3 G) (hn : (gK G n).1 = 0) (hn2 : 1048576 ≤ n) : E3 (gnew G n k L sl d) := by
  obtain ⟨q, M, a1, a2, a3, a4⟩ := h
  have hq : q ≠ n := fun z => by rw [z] at a3; rw [a3] at hn; exact n_10 hn
  refine ⟨q, M, ?_⟩
  rw [gnew_ne _ _ _ _ _ (show 327684 ≠ n by omega), gnew_Kne _ _ _ _ _ hq]; exact ⟨a1, a2, a3, a4⟩
theorem E5.new {G : LG} {n k L sl : Nat} {d : Nat → Int} (h : E5 G) (hn : (gK G n).1 = 0) (hn2 : 1048576 ≤ n) : E5 (gnew G n k L sl d) := by
  intro x hx
  obtain ⟨q0, q1, q2, q3, L0, L1, L2, L3, B, a1, a2, ⟨b0, b1, b2, b3⟩, a4⟩ := h x hx
  have c0 : q0 ≠ n := fun z => by rw [z] at b0; rw [b0] at hn; exact Nat.succ_ne_zero _ hn
  have c1 : q1 ≠ n := fun z => by rw [z] at b1; rw [b1] at hn; exact Nat.succ_ne_zero _ hn
  have c2 : q2 ≠ n := fun z => by rw [z] at b2; rw [b2] at hn; exact Nat.succ_ne_zero _ hn
  have c3 : q3 ≠ n := fun z => by rw [z] at b3; rw [b3] at hn; exact Nat.succ_ne_zero _ hn
  refine ⟨q0, q1, q2, q3, L0, L1, L2, L3, B, ?_⟩
  rw [gnew_ne _ _ _ _ _ (show x ≠ n by omega), gnew_ne _ _ _ _ _ (show x - 13 ≠ n by omega), gnew_ne _ _ _ _ _ (show x - 5 ≠ n by omega), gnew_ne _ _ _ _ _ c0, gnew_ne _ _ _ _ _ c1, gnew_Kne _ _ _ _ _ c0, gnew_Kne _ _ _ _ _ c1, gnew_Kne _ _ _ _ _ c2, gnew_Kne _ _ _ _ _ c3]; exact ⟨a1, a2, ⟨b0, b1, b2, b3⟩, a4⟩
/-- the stack of types gives way to a longer one -/
theorem CI.growStack {a b : Nat} {G G' : LG} {q L M n : Nat} (h : CI a b G) (al : (gK G 327684).1 ≠ 0) (hq : gS G 327684 3 = (q : Int)) (hk : gK G q = (1, L)) (hL : 64 ≤ L) (hM : 2 * L ≤ M ∨ (L < 2412 ∧ 2412 ≤ M)) (hM2 : L ≤ M ∧ M ≤ 2412 ∧ (M ≤ 2412 ∨ M = 2412)) (hn : n = 327690 + 1048576 * (1 + gc G)) (hc : gS G 327684 4 ≤ (M : Int))
    (e1 : ∀ z, z ≠ n → z ≠ 327684 → gS G' z = gS G z) (e2 : gS G' 327684 3 = (n : Int)) (e3 : ∀ j, j ≠ 3 → gS G' 327684 j = gS G 327684 j) (e4 : gK G' = gK (gnew G n 1 M M (fun _ => 0))) (e5 : gc G' = gc G + 1) (e6 : gs G' = gs G + M) : CI a b G' := by
  have hcn : cde n = 510 := (cde_mod (y := 327690) (by omega) (by decide)).trans (by decide)
  have hn0 : (gK G n).1 = 0 := h.2.2.2.2.2.2.2.2.2.1.1 n (by omega)
  have hkn : gK G' n = (1, M) := by rw [e4]; exact gnew_K _ _ _ _ _ _
  have hT : TI G' := h.1.grow (x := 327684) (k := 3) (by omega) e4 (by rw [hcn]; exact ⟨M, rfl, by omega, by omega⟩) (fun r j v => by rw [hcn]; exact True.intro) (by rw [show cde 327684 = 504 by decide]; show 0 ≤ (n : Int) ∧ (n : Int) % 1048576 = 327690; omega) e1 e2 e3
  have hA : AC a b G' := h.2.2.2.2.2.2.2.2.2.2.grow HL_st al hq hk (by decide) (by omega) (by omega) (by omega) hn0 (by omega) e1 e2 e3 e4 e5 e6
  have hz : ∀ z, cde z ≠ 510 → z ≠ 327684 → gS G' z = gS (gnew G n 1 M M (fun _ => 0)) z := fun z z1 z2 => by
    have zn : z ≠ n := fun q => z1 (by rw [q]; exact hcn)
    rw [e1 z zn z2, gnew_ne _ _ _ _ _ zn]
  refine ⟨hT, h.2.grown (x := 327684) (Or.inr (Or.inl rfl)) (by omega) (Or.inr (Or.inl hcn)) e4 e5 e1 (E2.cg (h.2.2.1.new hn0 (by omega)) (fun z z1 => hz z (by rcases z1 with rfl | rfl | q; decide; decide; omega) (by rcases z1 with rfl | rfl | q; decide; decide; exact fun e => by subst e; exact absurd q (by decide))) e4) ⟨n, M, e2, hcn, hkn, by omega, by omega, by rw [e3 4 (by decide)]; exact hc, hM2.2.2⟩ (E5.cg (h.2.2.2.2.2.1.new hn0 (by omega)) (fun z z1 => hz z (by rcases z1 with rfl | rfl | q; decide; decide; omega) (by rcases z1 with rfl | rfl | q; decide; decide; exact fun e => by subst e; exact absurd q (by decide))) e4) hA⟩
/-- a count on one of these -/
theorem CI.setH {a b : Nat} {G : LG} {x k : Nat} {v : Int} (h : CI a b G) (hx : (x = 327683 ∧ (k = 1 ∨ k = 2)) ∨ (x = 327684 ∧ k = 4) ∨ ((x = 196628 ∨ x = 196692) ∧ k = 4)) (hv : tv (cde x) (x % 1048576) k v) (h2 : E2 (gset G x k v)) (h3 : E3 (gset G x k v)) (h5 : E5 (gset G x k v)) : CI a b (gset G x k v) := by
  refine ⟨h.1.set hv, h.2.hold (fun z z1 z2 z3 z4 _ _ _ => ?_) rfl rfl h2 h3 h5 ?_⟩
  · funext y; exact gset_ne _ _ (fun e => by omega)
  · have h9 := h.2.2.2.2.2.2.2.2.2.2
    have e := Sm_same (G := G) (G' := gset G x k v) rfl (fun m hm => gset_ne _ _ (fun e => by
      have h8 := HL_sh m hm
      unfold SH at h8
      rcases h8 with ⟨z1, ⟨z2, z3, z4 | z4 | z4⟩ | z2 | z2 | ⟨z2, z3⟩⟩ <;> omega))
    exact ⟨by rw [e]; exact h9.1, by rw [e]; exact h9.2⟩
/-- how many parts are on the stack -/
theorem CI.top {a b : Nat} {G : LG} {q L : Nat} {v : Int} (h : CI a b G) (hq : gS G 327684 3 = (q : Int)) (hk : gK G q = (1, L)) (h0 : 0 ≤ v) (h1 : v ≤ (L : Int)) : CI a b (gset G 327684 4 v) := by
  obtain ⟨q2, L2, a1, a2, a3, a4, a5, a6, a7⟩ := h.2.2.2.1
  have e : q2 = q := by omega
  subst e
  rw [hk] at a3
  have e2 : L = L2 := congrArg Prod.snd a3
  subst e2
  refine h.setH (Or.inr (Or.inl ⟨rfl, rfl⟩)) (show 0 ≤ v ∧ v ≤ 2412 by omega) (h.2.2.1.cg (fun z hz => by funext y; exact gset_ne _ _ (fun e => by rcases hz with q | q | q; omega; omega; rw [e.1] at q; exact absurd q (by decide))) rfl) ⟨q2, L, ?_, a2, hk, a4, a5, ?_, a7⟩ (h.2.2.2.2.2.1.cg (fun z hz => by funext y; exact gset_ne _ _ (fun e => by rcases hz with q | q | q; omega; omega; rw [e.1] at q; exact absurd q (by decide))) rfl)
  · rw [gset_ne _ _ (fun e => absurd e.2 (by decide))]; exact hq
  · rw [gset_at]; exact h1
/-- the stack has room for so many -/
def LST (G : LG) (m : Int) : Prop := ∃ q L : Nat, gS G 327684 3 = (q : Int) ∧ gK G q = (1, L) ∧ m ≤ (L : Int)
theorem LST.le {G : LG} {m n : Int} (h : LST G m) (hn : n ≤ m) : LST G n := by
  obtain ⟨q, L, a1, a2, a3⟩ := h
  exact ⟨q, L, a1, a2, by omega⟩
