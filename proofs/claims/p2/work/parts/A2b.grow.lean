/-! THE CLASS: rows that grow -/
theorem tk_row {c M : Nat} (hc : 108 ≤ c ∧ c < 124) (h1 : 4 ≤ M) (h2 : M ≤ 400) : tk c (1, M) := by
  have h : c = 108 ∨ c = 109 ∨ c = 110 ∨ c = 111 ∨ c = 112 ∨ c = 113 ∨ c = 114 ∨ c = 115 ∨ c = 116 ∨ c = 117 ∨ c = 118 ∨ c = 119 ∨ c = 120 ∨ c = 121 ∨ c = 122 ∨ c = 123 := by omega
  rcases h with rfl | rfl | rfl | rfl | rfl | rfl | rfl | rfl | rfl | rfl | rfl | rfl | rfl | rfl | rfl | rfl <;> exact ⟨M, rfl, h1, h2⟩
theorem tv_row {c r j : Nat} {v : Int} (hc : 108 ≤ c ∧ c < 124) : tv c r j v := by
  have h : c = 108 ∨ c = 109 ∨ c = 110 ∨ c = 111 ∨ c = 112 ∨ c = 113 ∨ c = 114 ∨ c = 115 ∨ c = 116 ∨ c = 117 ∨ c = 118 ∨ c = 119 ∨ c = 120 ∨ c = 121 ∨ c = 122 ∨ c = 123 := by omega
  rcases h with rfl | rfl | rfl | rfl | rfl | rfl | rfl | rfl | rfl | rfl | rfl | rfl | rfl | rfl | rfl | rfl <;> exact True.intro
theorem spc_row {c : Nat} (hc : 108 ≤ c ∧ c < 124) : spc c = false := by
  have h : c = 108 ∨ c = 109 ∨ c = 110 ∨ c = 111 ∨ c = 112 ∨ c = 113 ∨ c = 114 ∨ c = 115 ∨ c = 116 ∨ c = 117 ∨ c = 118 ∨ c = 119 ∨ c = 120 ∨ c = 121 ∨ c = 122 ∨ c = 123 := by omega
  rcases h with rfl | rfl | rfl | rfl | rfl | rfl | rfl | rfl | rfl | rfl | rfl | rfl | rfl | rfl | rfl | rfl <;> rfl
/-- a face's row gives way to a longer one -/
theorem CI.growFace {a b : Nat} {G : LG} {o p q L M n : Nat} (h : CI a b G) (ho : 65537 ≤ o ∧ o ≤ 68097 ∧ o % 64 = 1) (hp : p < 16) (al : (gK G (o + 3)).1 ≠ 0) (hq : gS G (o + 3) p = (q : Int)) (hk : gK G q = (1, L)) (hL : 1 ≤ L) (hM : 2 * L ≤ M) (hM2 : 4 ≤ M ∧ M ≤ 400) (hn : n = o + 7 + p + 1048576 * (1 + gc G)) :
    CI a b (gset (gnew G n 1 M M (fun _ => 0)) (o + 3) p (n : Int)) := by
  have hcn : cde n = 108 + p := by rw [cde_n (by omega) (by omega)]; omega
  have hco : cde (o + 3) = 104 := by rw [cde_n (by omega) (by omega)]; omega
  have hnd : n / 1048576 = 1 + gc G := by omega
  have hn0 : (gK G n).1 = 0 := h.2.2.2.2.2.2.2.2.2.1.1 n (by omega)
  have ht : TI (gnew G n 1 M M (fun _ => 0)) := h.1.new (by rw [hcn]; exact tk_row (by omega) hM2.1 hM2.2) (fun j _ => by rw [hcn]; exact tv_row (by omega))
  refine ⟨ht.set (by rw [hco]; exact ⟨by omega, by omega⟩), (h.2.new (k := 1) (L := M) (sl := M) (d := fun _ => 0) hnd (by rw [hcn]; omega)).frA (fun x _ hx => ?_) rfl rfl ?_⟩
  · funext y
    exact gset_ne _ _ (fun e => hx (by rw [e.1]; exact hco))
  · have hm : (o + 3, p) ∈ HL := by
      have h9 := HL_face (i := (o - 65537) / 64) (p := p) (by omega) hp
      rw [show 65540 + 64 * ((o - 65537) / 64) = o + 3 by omega] at h9
      exact h9
    exact h.2.2.2.2.2.2.2.2.2.2.hold hm al hq hk (by decide) (by decide) hL (Or.inl hM) (by omega) hn0 (by omega)
theorem Sm_same {G G' : LG} (hK : gK G' = gK G) (h : ∀ m ∈ HL, gS G' m.1 m.2 = gS G m.1 m.2) (f : Nat × Nat → Nat → Nat) : Sm f G' = Sm f G := by
  unfold Sm
  congr 1
  refine List.map_congr_left (fun m hm => ?_)
  unfold ln
  rw [hK, h m hm]
/-- how many there are in a row that grows -/
theorem CI.rowCount {a b : Nat} {G : LG} {x : Nat} {v : Int} (h : CI a b G) (hx : cde x = 124 ∨ cde x = 126) (hv : tv (cde x) (x % 1048576) 1 v) (hL : ∀ q L : Nat, gS G x 0 = (q : Int) → gK G q = (1, L) → v ≤ (L : Int)) : CI a b (gset G x 1 v) := by
  refine ⟨h.1.set hv, h.2.frB (fun y _ _ y1 y2 => ?_) (fun y hy hy2 => ?_) rfl rfl ?_⟩
  · funext z
    exact gset_ne _ _ (fun e => by rcases hx with q | q; exact y1 (by rw [e.1]; exact q); exact y2 (by rw [e.1]; exact q))
  · obtain ⟨q, L, a1, a2, a3, a4, a5⟩ := h.2.1 y hy hy2
    refine ⟨q, L, by rw [gset_ne _ _ (fun e => absurd e.2 (by decide))]; exact a1, a2, a3, a4, ?_⟩
    by_cases e : y = x
    · subst e; rw [gset_at]; exact hL q L a1 a3
    · rw [gset_ne _ _ (fun q => e q.1)]; exact a5
  · have h9 := h.2.2.2.2.2.2.2.2.2.2
    have e := Sm_same (G := G) (G' := gset G x 1 v) rfl (fun m hm => gset_ne _ _ (fun e => by
      have h8 := HL_sh m hm
      unfold SH at h8
      obtain ⟨e1, e2⟩ := e
      have hc : cde m.1 = 124 ∨ cde m.1 = 126 := by rw [e1]; exact hx
      rcases h8 with ⟨z1, ⟨z2, z3, z4 | z4 | z4⟩ | z2 | z2 | ⟨z2, z3⟩⟩
      · have := cde_n (x := m.1) (by omega) (by omega); omega
      · omega
      · omega
      · omega
      · omega
      · have : cde m.1 = 320 := by rcases z2 with q | q <;> rw [q] <;> decide
        omega))
    exact ⟨by rw [e]; exact h9.1, by rw [e]; exact h9.2⟩
/-- a row of numbers gives way to a longer one -/
theorem CI.growRow {a b : Nat} {G G' : LG} {x q L M n : Nat} (h : CI a b G) (hx : (65536 ≤ x ∧ x < 68096 ∧ (x % 64 = 24 ∨ x % 64 = 26)) ∨ x = 68184) (al : (gK G x).1 ≠ 0) (hq : gS G x 0 = (q : Int)) (hk : gK G q = (1, L)) (hL : 16 ≤ L) (hM : 2 * L ≤ M) (hM2 : tk (cde (x + 1)) (1, M)) (hn : n = x + 1 + 1048576 * (1 + gc G)) (hc : gS G x 1 ≤ (M : Int))
    (e1 : ∀ z, z ≠ n → z ≠ x → gS G' z = gS G z) (e2 : gS G' x 0 = (n : Int)) (e3 : gS G' x 1 = gS G x 1) (e4 : gK G' = gK (gnew G n 1 M M (fun _ => 0))) (e5 : gc G' = gc G + 1) (e6 : gs G' = gs G + M) : CI a b G' := by
  have hcx : cde x = 124 ∨ cde x = 126 := by rcases hx with ⟨h1, h2, h3⟩ | rfl; (rw [cde_n (by omega) (by omega)]; omega); exact Or.inl (by decide)
  have hcn : cde n = cde (x + 1) := cde_mod (by omega) (by omega)
  have hcn2 : cde n = 125 ∨ cde n = 127 := by rw [hcn, cde_n (by omega) (by omega)]; omega
  have hn0 : (gK G n).1 = 0 := h.2.2.2.2.2.2.2.2.2.1.1 n (by omega)
  have hxn : x ≠ n := by omega
  have hkn : gK G' n = (1, M) := by rw [e4]; exact gnew_K _ _ _ _ _ _
  have hkz : ∀ z, z ≠ n → gK G' z = gK G z := fun z hz => by rw [e4]; exact gnew_Kne _ _ _ _ _ hz
  have hx9 : x % 1048576 = x := Nat.mod_eq_of_lt (by omega)
  have hT : TI G' := by
    intro z hz
    by_cases z1 : z = n
    · subst z1
      rw [hkn, hcn]
      refine ⟨hM2, fun j _ => ?_⟩
      rw [← hcn]
      rcases hcn2 with q | q <;> rw [q] <;> exact True.intro
    · rw [hkz z z1] at hz ⊢
      refine ⟨(h.1 z hz).1, fun j hj => ?_⟩
      by_cases z2 : z = x
      · subst z2
        have h9 := (h.1 z hz).2 j hj
        by_cases j0 : j = 0
        · subst j0
          rw [e2]
          rcases hcx with q | q
          · rw [q]; show 0 ≤ (n : Int) ∧ (n : Int) % 1048576 = ((z % 1048576 + 1 : Nat) : Int); omega
          · rw [q]; show 0 ≤ (n : Int) ∧ (n : Int) % 1048576 = ((z % 1048576 + 1 : Nat) : Int); omega
        · by_cases j1 : j = 1
          · subst j1; rw [e3]; exact h9
          · rcases hcx with q | q
            · rw [q]
              match j, j0, j1 with
              | j + 2, _, _ => exact True.intro
            · rw [q]
              match j, j0, j1 with
              | j + 2, _, _ => exact True.intro
      · rw [e1 z z1 z2]; exact (h.1 z hz).2 j hj
  have hm : (x, 0) ∈ HL := HL_row hx
  have hA : AC a b (gset (gnew G n 1 M M (fun _ => 0)) x 0 (n : Int)) := h.2.2.2.2.2.2.2.2.2.2.hold hm al hq hk (by decide) (by decide) (by omega) (Or.inl hM) (by omega) hn0 (by omega)
  have hA' : AC a b G' := by
    have e : ∀ f, Sm f G' = Sm f (gset (gnew G n 1 M M (fun _ => 0)) x 0 (n : Int)) := fun f => by
      unfold Sm
      congr 1
      refine List.map_congr_left (fun m hmm => ?_)
      have hm1 : m.1 ≠ n := fun q => by have := (HL_sh m hmm).1; omega
      have hv : gS G' m.1 m.2 = gS (gset (gnew G n 1 M M (fun _ => 0)) x 0 (n : Int)) m.1 m.2 := by
        by_cases hmx : m.1 = x
        · have hm2 : m.2 = 0 := by
            have h8 := HL_sh m hmm
            unfold SH at h8
            rcases h8 with ⟨z1, ⟨z2, z3, z4⟩ | z2 | z2 | ⟨z2, z3⟩⟩ <;> omega
          rw [hmx, hm2, e2, gset_at]
        · rw [e1 m.1 hm1 hmx, gset_ne _ _ (fun q => hmx q.1), gnew_ne _ _ _ _ _ hm1]
      unfold ln
      rw [hv, e4, gset_K]
    unfold AC
    rw [e5, e6, e, e]
    exact hA
  have g1 := h.2.new (k := 1) (L := M) (sl := M) (d := fun _ => 0) (n := n) (by omega) (by rcases hcn2 with q | q <;> rw [q] <;> decide)
  refine ⟨hT, g1.frB (fun z hz _ z1 z2 => ?_) (fun z hz hz2 => ?_) e4 e5 hA'⟩
  · have zx : z ≠ x := fun q => by rcases hcx with c | c; exact z1 (by rw [q]; exact c); exact z2 (by rw [q]; exact c)
    have zn : z ≠ n := fun q => by rw [q] at hz; rcases hcn2 with c | c <;> (rw [c] at hz; exact absurd hz (by decide))
    rw [e1 z zn zx, gnew_ne _ _ _ _ _ zn]
  · by_cases z1 : z = n
    · subst z1; rcases hcn2 with c | c <;> rcases hz2 with d | d <;> omega
    · rw [hkz z z1] at hz
      by_cases z2 : z = x
      · subst z2
        exact ⟨n, M, e2, by omega, hkn, by omega, by rw [e3]; exact hc⟩
      · obtain ⟨q9, L9, a1, a2, a3, a4, a5⟩ := h.2.1 z hz hz2
        have q9n : q9 ≠ n := fun e => by rw [e] at a3; rw [a3] at hn0; exact n_10 hn0
        exact ⟨q9, L9, by rw [e1 z z1 z2]; exact a1, a2, by rw [hkz q9 q9n]; exact a3, a4, by rw [e1 z z1 z2]; exact a5⟩
theorem CI.rowCountQ {a b : Nat} {G : LG} {x q L : Nat} {v : Int} (h : CI a b G) (hx : cde x = 124 ∨ cde x = 126) (hv : tv (cde x) (x % 1048576) 1 v) (hq : gS G x 0 = (q : Int)) (hk : gK G q = (1, L)) (hL : v ≤ (L : Int)) : CI a b (gset G x 1 v) :=
  h.rowCount hx hv (fun q2 L2 z1 z2 => by
    have e : q2 = q := by omega
    subst e
    rw [hk] at z2
    have e2 : L = L2 := congrArg Prod.snd z2
    subst e2
    exact hL)
