/-! THE CLASS: values: their rows grow -/
theorem cde_vl {o i n g : Nat} (ho : isVl o) (hi : i < 4) (hn : n = o + 1 + i + 1048576 * g) : cde n = 321 + i := by
  rw [cde_m (by omega) (by omega)]; omega
/-- the rows of values give way to longer ones, all four -/
theorem CI.growVals {a b : Nat} {G G' : LG} {o q0 q1 q2 q3 L M n0 n1 n2 n3 : Nat} (h : CI a b G) (ho : isVl o) (al : (gK G o).1 ≠ 0) (hq : gS G o 0 = (q0 : Int) ∧ gS G o 1 = (q1 : Int) ∧ gS G o 2 = (q2 : Int) ∧ gS G o 3 = (q3 : Int)) (hk : gK G q0 = (1, L) ∧ gK G q1 = (1, L) ∧ gK G q2 = (3, L) ∧ gK G q3 = (1, L)) (hL : 32 ≤ L) (hM : M = 2 * L ∧ M ≤ 8192)
    (hn0 : n0 = o + 1 + 1048576 * (1 + gc G)) (hn1 : n1 = o + 2 + 1048576 * (2 + gc G)) (hn2 : n2 = o + 3 + 1048576 * (3 + gc G)) (hn3 : n3 = o + 4 + 1048576 * (4 + gc G))
    (e1 : ∀ z, z ≠ n0 → z ≠ n1 → z ≠ n2 → z ≠ n3 → z ≠ o → gS G' z = gS G z) (e2 : gS G' o 0 = (n0 : Int) ∧ gS G' o 1 = (n1 : Int) ∧ gS G' o 2 = (n2 : Int) ∧ gS G' o 3 = (n3 : Int)) (e3 : gS G' o 4 = gS G o 4)
    (e4 : gK G' = gK (gnew (gnew (gnew (gnew G n0 1 M M (fun _ => 0)) n1 1 M M (fun _ => 0)) n2 3 M M (fun _ => 0)) n3 1 M M (fun _ => 0))) (e5 : gc G' = gc G + 4) (e6 : gs G' = gs G + M + M + M + M)
    (e7 : ∀ j, j < L → gS G' n0 j = gS G q0 j ∧ gS G' n1 j = gS G q1 j) (e8 : ∀ j, L ≤ j → j < M → gS G' n0 j = 0 ∧ gS G' n1 j = 0) : CI a b G' := by
  have ob : o < 1048576 := by omega
  have ob2 : 196608 ≤ o ∧ o < 262144 := by omega
  have hoH : HID (isVl o) := ho
  clear ho
  have hd := h.2.2.2.2.2.2.2.2.2.1.1
  have d0 := hd n0 (by omega)
  have d1 := hd n1 (by omega)
  have d2 := hd n2 (by omega)
  have d3 := hd n3 (by omega)
  have c0 : cde n0 = 321 := cde_vl (i := 0) (g := 1 + gc G) hoH (by decide) (by omega)
  have c1 : cde n1 = 322 := cde_vl (i := 1) (g := 2 + gc G) hoH (by decide) (by omega)
  have c2 : cde n2 = 323 := cde_vl (i := 2) (g := 3 + gc G) hoH (by decide) (by omega)
  have c3 : cde n3 = 324 := cde_vl (i := 3) (g := 4 + gc G) hoH (by decide) (by omega)
  have co : cde o = 320 := by rcases hoH with rfl | rfl <;> decide
  have ko : gK G o = (18, 0) := h.1.k (c := 320) co al
  have kz : ∀ z, z ≠ n0 → z ≠ n1 → z ≠ n2 → z ≠ n3 → gK G' z = gK G z := fun z z0 z1 z2 z3 => by
    rw [e4, gnew_Kne _ _ _ _ _ z3, gnew_Kne _ _ _ _ _ z2, gnew_Kne _ _ _ _ _ z1, gnew_Kne _ _ _ _ _ z0]
  have k0 : gK G' n0 = (1, M) := by rw [e4, gnew_Kne _ _ _ _ _ (by omega), gnew_Kne _ _ _ _ _ (by omega), gnew_Kne _ _ _ _ _ (by omega)]; exact gnew_K _ _ _ _ _ _
  have k1 : gK G' n1 = (1, M) := by rw [e4, gnew_Kne _ _ _ _ _ (by omega), gnew_Kne _ _ _ _ _ (by omega)]; exact gnew_K _ _ _ _ _ _
  have k2 : gK G' n2 = (3, M) := by rw [e4, gnew_Kne _ _ _ _ _ (by omega)]; exact gnew_K _ _ _ _ _ _
  have k3 : gK G' n3 = (1, M) := by rw [e4]; exact gnew_K _ _ _ _ _ _
  have alv : ∀ z t N, gK G z = (t, N) → t ≠ 0 → z ≠ n0 ∧ z ≠ n1 ∧ z ≠ n2 ∧ z ≠ n3 := fun z t N hz ht => ⟨fun q => by rw [q] at hz; rw [hz] at d0; exact ht d0, fun q => by rw [q] at hz; rw [hz] at d1; exact ht d1, fun q => by rw [q] at hz; rw [hz] at d2; exact ht d2, fun q => by rw [q] at hz; rw [hz] at d3; exact ht d3⟩
  -- cells are what their names say
  have hT : TI G' := by
    intro z hz
    by_cases y0 : z = n0
    · subst y0; rw [k0, c0]; exact ⟨⟨M, rfl, by omega, by omega⟩, fun j _ => True.intro⟩
    by_cases y1 : z = n1
    · subst y1; rw [k1, c1]; exact ⟨⟨M, rfl, by omega, by omega⟩, fun j _ => True.intro⟩
    by_cases y2 : z = n2
    · subst y2; rw [k2, c2]; exact ⟨⟨M, rfl, by omega, by omega⟩, fun j _ => True.intro⟩
    by_cases y3 : z = n3
    · subst y3; rw [k3, c3]; exact ⟨⟨M, rfl, by omega, by omega⟩, fun j _ => True.intro⟩
    rw [kz z y0 y1 y2 y3] at hz ⊢
    refine ⟨(h.1 z hz).1, fun j hj => ?_⟩
    by_cases y4 : z = o
    · subst y4
      have ho9 : z % 1048576 = z := Nat.mod_eq_of_lt (by omega)
      have hj9 : j < 5 := by rw [ko] at hj; exact hj
      rw [co]
      have hj5 : j = 0 ∨ j = 1 ∨ j = 2 ∨ j = 3 ∨ j = 4 := by omega
      rcases hj5 with rfl | rfl | rfl | rfl | rfl
      · rw [e2.1]; exact (show 0 ≤ (n0 : Int) ∧ (n0 : Int) % 1048576 = ((z % 1048576 + 1 : Nat) : Int) by omega)
      · rw [e2.2.1]; exact (show 0 ≤ (n1 : Int) ∧ (n1 : Int) % 1048576 = ((z % 1048576 + 2 : Nat) : Int) by omega)
      · rw [e2.2.2.1]; exact (show 0 ≤ (n2 : Int) ∧ (n2 : Int) % 1048576 = ((z % 1048576 + 3 : Nat) : Int) by omega)
      · rw [e2.2.2.2]; exact (show 0 ≤ (n3 : Int) ∧ (n3 : Int) % 1048576 = ((z % 1048576 + 4 : Nat) : Int) by omega)
      · rw [e3]
        have h9 := (h.1 z hz).2 4 hj
        rw [co] at h9; exact h9
    · rw [e1 z y0 y1 y2 y3 y4]; exact (h.1 z hz).2 j hj
  -- the room
  have hA : AC a b G' := by
    have x0 := h.2.2.2.2.2.2.2.2.2.2.hold (d := fun _ => 0) (k := 1) (HL_vl hoH (by decide : 0 < 4)) al hq.1 hk.1 (by decide) (by decide) (by omega) (Or.inl (show 2 * L ≤ M by omega)) (by omega) d0 (by omega)
    have x1 := x0.hold (d := fun _ => 0) (k := 1) (n := n1) (M := M) (HL_vl hoH (by decide : 1 < 4)) (by rw [gset_K, gnew_Kne _ _ _ _ _ (by omega)]; exact al) (q := q1) (by rw [gset_ne _ _ (fun w => absurd w.2 (by decide)), gnew_ne _ _ _ _ _ (by omega)]; exact hq.2.1) (by rw [gset_K, gnew_Kne _ _ _ _ _ (alv q1 _ _ hk.2.1 (by decide)).1]; exact hk.2.1) (by decide) (by decide) (by omega) (Or.inl (by omega)) (by omega) (by rw [gset_K, gnew_Kne _ _ _ _ _ (by omega)]; exact d1) (by omega)
    have x2 := x1.hold (d := fun _ => 0) (k := 3) (n := n2) (M := M) (HL_vl hoH (by decide : 2 < 4)) (by rw [gset_K, gnew_Kne _ _ _ _ _ (by omega), gset_K, gnew_Kne _ _ _ _ _ (by omega)]; exact al) (q := q2) (by rw [gset_ne _ _ (fun w => absurd w.2 (by decide)), gnew_ne _ _ _ _ _ (by omega), gset_ne _ _ (fun w => absurd w.2 (by decide)), gnew_ne _ _ _ _ _ (by omega)]; exact hq.2.2.1) (by rw [gset_K, gnew_Kne _ _ _ _ _ (alv q2 _ _ hk.2.2.1 (by decide)).2.1, gset_K, gnew_Kne _ _ _ _ _ (alv q2 _ _ hk.2.2.1 (by decide)).1]; exact hk.2.2.1) (by decide) (by decide) (by omega) (Or.inl (by omega)) (by omega) (by rw [gset_K, gnew_Kne _ _ _ _ _ (by omega), gset_K, gnew_Kne _ _ _ _ _ (by omega)]; exact d2) (by omega)
    have x3 := x2.hold (d := fun _ => 0) (k := 1) (n := n3) (M := M) (HL_vl hoH (by decide : 3 < 4)) (by rw [gset_K, gnew_Kne _ _ _ _ _ (by omega), gset_K, gnew_Kne _ _ _ _ _ (by omega), gset_K, gnew_Kne _ _ _ _ _ (by omega)]; exact al) (q := q3) (by rw [gset_ne _ _ (fun w => absurd w.2 (by decide)), gnew_ne _ _ _ _ _ (by omega), gset_ne _ _ (fun w => absurd w.2 (by decide)), gnew_ne _ _ _ _ _ (by omega), gset_ne _ _ (fun w => absurd w.2 (by decide)), gnew_ne _ _ _ _ _ (by omega)]; exact hq.2.2.2) (by rw [gset_K, gnew_Kne _ _ _ _ _ (alv q3 _ _ hk.2.2.2 (by decide)).2.2.1, gset_K, gnew_Kne _ _ _ _ _ (alv q3 _ _ hk.2.2.2 (by decide)).2.1, gset_K, gnew_Kne _ _ _ _ _ (alv q3 _ _ hk.2.2.2 (by decide)).1]; exact hk.2.2.2) (by decide) (by decide) (by omega) (Or.inl (by omega)) (by omega) (by rw [gset_K, gnew_Kne _ _ _ _ _ (by omega), gset_K, gnew_Kne _ _ _ _ _ (by omega), gset_K, gnew_Kne _ _ _ _ _ (by omega)]; exact d3) (by omega)
    have e : ∀ f, Sm f G' = Sm f _ := fun f => Sm_same (G := gset (gnew (gset (gnew (gset (gnew (gset (gnew G n0 1 M M (fun _ => 0)) o 0 (n0 : Int)) n1 1 M M (fun _ => 0)) o 1 (n1 : Int)) n2 3 M M (fun _ => 0)) o 2 (n2 : Int)) n3 1 M M (fun _ => 0)) o 3 (n3 : Int)) (G' := G') (by rw [e4]; rfl) (fun m hm => by
      have h7 := HL_sh m hm
      have hm0 : m.1 < 1048576 := h7.1
      have m0 : m.1 ≠ n0 := by omega
      have m1 : m.1 ≠ n1 := by omega
      have m2 : m.1 ≠ n2 := by omega
      have m3 : m.1 ≠ n3 := by omega
      by_cases w : m.1 = o
      · have w4 : m.2 < 4 := by
          unfold SH at h7
          rcases h7 with ⟨z1, ⟨z2, z3, z4⟩ | z2 | z2 | ⟨z2, z3⟩⟩ <;> omega
        have w5 : m.2 = 0 ∨ m.2 = 1 ∨ m.2 = 2 ∨ m.2 = 3 := by omega
        rw [w]
        rcases w5 with w5 | w5 | w5 | w5 <;> rw [w5]
        · rw [e2.1, gset_ne _ _ (fun q => absurd q.2 (by decide)), gnew_ne _ _ _ _ _ (by omega), gset_ne _ _ (fun q => absurd q.2 (by decide)), gnew_ne _ _ _ _ _ (by omega), gset_ne _ _ (fun q => absurd q.2 (by decide)), gnew_ne _ _ _ _ _ (by omega), gset_at]
        · rw [e2.2.1, gset_ne _ _ (fun q => absurd q.2 (by decide)), gnew_ne _ _ _ _ _ (by omega), gset_ne _ _ (fun q => absurd q.2 (by decide)), gnew_ne _ _ _ _ _ (by omega), gset_at]
        · rw [e2.2.2.1, gset_ne _ _ (fun q => absurd q.2 (by decide)), gnew_ne _ _ _ _ _ (by omega), gset_at]
        · rw [e2.2.2.2, gset_at]
      · rw [e1 m.1 m0 m1 m2 m3 w, gset_ne _ _ (fun q => w q.1), gnew_ne _ _ _ _ _ m3, gset_ne _ _ (fun q => w q.1), gnew_ne _ _ _ _ _ m2, gset_ne _ _ (fun q => w q.1), gnew_ne _ _ _ _ _ m1, gset_ne _ _ (fun q => w q.1), gnew_ne _ _ _ _ _ m0]) f
    refine ⟨?_, ?_⟩
    · rw [e, e6]; exact x3.1
    · rw [e, e5]; exact x3.2
  -- the rest
  have g0 := h.2.new (n := n0) (k := 1) (L := M) (sl := M) (d := gS G' n0) (by omega) (by omega)
  have g1 := g0.new (n := n1) (k := 1) (L := M) (sl := M) (d := gS G' n1) (by show n1 / 1048576 = 1 + (gc G + 1); omega) (by omega)
  have g2 := g1.new (n := n2) (k := 3) (L := M) (sl := M) (d := gS G' n2) (by show n2 / 1048576 = 1 + (gc G + 1 + 1); omega) (by omega)
  have g3 := g2.new (n := n3) (k := 1) (L := M) (sl := M) (d := gS G' n3) (by show n3 / 1048576 = 1 + (gc G + 1 + 1 + 1); omega) (by omega)
  have hz : ∀ z, z ≠ o → gS G' z = gS (gnew (gnew (gnew (gnew G n0 1 M M (gS G' n0)) n1 1 M M (gS G' n1)) n2 3 M M (gS G' n2)) n3 1 M M (gS G' n3)) z := fun z zo => by
    by_cases y3 : z = n3
    · subst y3; rw [gnew_at]
    rw [gnew_ne _ _ _ _ _ y3]
    by_cases y2 : z = n2
    · subst y2; rw [gnew_at]
    rw [gnew_ne _ _ _ _ _ y2]
    by_cases y1 : z = n1
    · subst y1; rw [gnew_at]
    rw [gnew_ne _ _ _ _ _ y1]
    by_cases y0 : z = n0
    · subst y0; rw [gnew_at]
    rw [gnew_ne _ _ _ _ _ y0]; exact e1 z y0 y1 y2 y3 zo
  refine ⟨hT, g3.hold (fun z z1 z2 z3 z4 _ _ _ => hz z (by rcases hoH with rfl | rfl; exact z3; exact z4)) (by rw [e4]; rfl) e5 (g3.2.1.cg (fun z hz9 => hz z (fun q => by rw [q, co] at hz9; omega)) (by rw [e4]; rfl)) (g3.2.2.1.cg (hz _ (by omega)) (by rw [e4]; rfl)) ?_ hA⟩
  intro k hk9
  obtain ⟨p0, p1, p2, p3, L0, L1, L2, L3, B, ⟨⟨a0, a1, a2, a3⟩, w⟩, b9, ⟨u0, u1, u2, u3⟩, ⟨⟨v0, v1, v2, v3, v4⟩, e⟩, g, i, l⟩ := h.2.2.2.2.2.1 k hk9
  obtain ⟨y0, y1, y2, y3⟩ := alv p0 _ _ u0 (by decide)
  obtain ⟨t0, t1, t2, t3⟩ := alv p1 _ _ u1 (by decide)
  obtain ⟨s0, s1, s2, s3⟩ := alv p2 _ _ u2 (by decide)
  obtain ⟨r0, r1, r2, r3⟩ := alv p3 _ _ u3 (by decide)
  have zA : gS G' (k - 13) = gS G (k - 13) := e1 _ (by omega) (by omega) (by omega) (by omega) (by omega)
  have zB : gS G' (k - 5) = gS G (k - 5) := e1 _ (by omega) (by omega) (by omega) (by omega) (by omega)
  by_cases hko : k = o
  · subst hko
    have ep0 : p0 = q0 := by omega
    have ep1 : p1 = q1 := by omega
    have eB : B = L := by
      rw [ep0, hk.1] at u0
      have := congrArg Prod.snd u0
      dsimp only at this
      omega
    refine ⟨n0, n1, n2, n3, M, M, M, M, M, ⟨e2, by omega, by omega, by omega, by omega⟩, ⟨c0, c1, c2, c3⟩, ⟨k0, k1, k2, k3⟩, ⟨⟨by omega, rfl, rfl, rfl, rfl⟩, by rw [e3]; omega⟩, fun t h0 h1 => ?_, fun s hs => ?_, fun s hs => ?_⟩
    · by_cases ht : t < (L : Int)
      · obtain ⟨f0, f1⟩ := e7 t.toNat (by omega)
        rw [f0, f1]
        have h9 := g t h0 (by omega)
        rw [ep0, ep1] at h9
        exact ⟨h9.1, fun q => by have h8 := h9.2 q; omega⟩
      · obtain ⟨f0, f1⟩ := e8 t.toNat (by omega) (by omega)
        rw [f0, f1]; omega
    · rw [zA]; have := i s hs; omega
    · rw [zB]; have := l s hs; omega
  · have zk : gS G' k = gS G k := e1 _ (by omega) (by omega) (by omega) (by omega) hko
    have z0 : gS G' p0 = gS G p0 := e1 _ y0 y1 y2 y3 (fun q => by rw [q, co] at b9; exact absurd b9.1 (by decide))
    have z1 : gS G' p1 = gS G p1 := e1 _ t0 t1 t2 t3 (fun q => by rw [q, co] at b9; exact absurd b9.2.1 (by decide))
    refine ⟨p0, p1, p2, p3, L0, L1, L2, L3, B, ?_⟩
    rw [zk, z0, z1, zA, zB, kz p0 y0 y1 y2 y3, kz p1 t0 t1 t2 t3, kz p2 s0 s1 s2 s3, kz p3 r0 r1 r2 r3]
    exact ⟨⟨⟨a0, a1, a2, a3⟩, w⟩, b9, ⟨u0, u1, u2, u3⟩, ⟨⟨v0, v1, v2, v3, v4⟩, e⟩, g, i, l⟩
theorem gnewKK {G H W : LG} {n k L sl n2 k2 L2 sl2 : Nat} {d d2 d3 : Nat → Int} (h : gK W = gK (gnew H n k L sl d)) : gK (gnew W n2 k2 L2 sl2 d2) = gK (gnew (gnew H n k L sl d3) n2 k2 L2 sl2 d2) := by
  funext z
  by_cases e : z = n2
  · subst e; rw [gnew_K, gnew_K]
  · rw [gnew_Kne _ _ _ _ _ e, gnew_Kne _ _ _ _ _ e, h]; rfl
