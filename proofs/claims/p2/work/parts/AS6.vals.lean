/-! THE CLASS: values -/
section MINL
variable {K : KD} {X : CX} {pc : Nat} {lv : List (Option LV)} {st : List LV} {G : LG}
theorem s_mminL {x y : Int} {idx : Nat} (hdg : decode K.2.1 pc = .ok (.invokestatic idx, 3)) (hlink : Cond.methodLink K.1 idx Lib.MathLoose.min_long.x ∈ WALL) (hcf : 1 ≤ cf X) (hw : (st.map (fun v => if v.1 = 1 then 2 else 1)).sum ≤ 8) (kk : ∀ z : Int, inL z → WP K X (pc + 3) lv ((1, z) :: st) G) : WP K X pc lv ((1, y) :: (1, x) :: st) G := by
  obtain ⟨p, l, e, R, s, m, args, below, meth, c, D, dT, ad0, G0, Q, base, sbase⟩ := X
  intro ho ad H locs ls hd he hs hl o1 o2
  have hts := ho.2.2.2.2.1
  have o9 := okv_t (okv_t o2)
  have hcf' : 1 ≤ R.frames := hcf
  have hloc := ho.2.2.2.2.2.2.2.2.2.2.2.1.2.2
  obtain ⟨hc1, hs1⟩ := room_new (a := 0) (b := 0) ho hd he hd.2.2.2.2.2.1 hd.2.2.2.2.2.2
  have k9 := kk _ (inL_toInt (if Int64.ofInt y < Int64.ofInt x then Int64.ofInt y else Int64.ofInt x)) ho ad H locs ls hd he hs hl o1 (okv_c (okv_l (inL_toInt _)) o9)
  have e9 : rv ad (1, (if Int64.ofInt y < Int64.ofInt x then Int64.ofInt y else Int64.ofInt x).toInt) = .long (if Int64.ofInt y < Int64.ofInt x then Int64.ofInt y else Int64.ofInt x) := congrArg Value.long (L_of _)
  rw [List.map_cons, e9] at k9
  intro T hT X'
  have hsz : (F0 m pc ls (.long (Int64.ofInt y) :: .long (Int64.ofInt x) :: st.map (rv ad))).locals.size = c.maxLocals := hl.1.trans ho.2.2.1.symm
  obtain ⟨vm', X2, st2⟩ := va_min_longV X' ho.1 ho.2.2.2.1 (hts _ hlink) (hts _ m_1743) (hts _ m_701) (hts _ m_38) (g := F0 m pc ls (.long (Int64.ofInt y) :: .long (Int64.ofInt x) :: st.map (rv ad))) rfl hsz (a := Int64.ofInt x) (b := Int64.ofInt y) (rest := st.map (rv ad)) rfl (by rw [ho.2.1]; exact hdg) hcf' (by show 2 * 0 + _ + 15 ≤ _; rw [cat_sum]; omega) hc1 hs1
  obtain ⟨t, a1, b1⟩ := k9 (T.setVm vm') hT X2
  exact ⟨t, st2 t a1, b1⟩
end MINL
def lenV (G : LG) (o : Nat) : Int := ((gK G (gS G o 0).toNat).2 : Nat)
def fsV (G : LG) (o : Nat) (v : Int) : Int := gS G (gS G o 0).toNat v.toNat
def snV (G : LG) (o : Nat) (v : Int) : Int := gS G (gS G o 1).toNat v.toNat
/-- the cells of the values -/
theorem CI.vals {a b : Nat} {G : LG} {o : Nat} (h : CI a b G) (ho : isVl o) (al : (gK G o).1 ≠ 0) : ∃ q0 q1 q2 q3 L : Nat, (gS G o 0 = (q0 : Int) ∧ gS G o 1 = (q1 : Int) ∧ gS G o 2 = (q2 : Int) ∧ gS G o 3 = (q3 : Int)) ∧ (q0 % 1048576 = o + 1 ∧ q1 % 1048576 = o + 2 ∧ q2 % 1048576 = o + 3 ∧ q3 % 1048576 = o + 4) ∧ (gK G q0 = (1, L) ∧ gK G q1 = (1, L) ∧ gK G q2 = (3, L) ∧ gK G q3 = (1, L)) ∧ (32 ≤ L ∧ L ≤ 8192) ∧ (0 ≤ gS G o 4 ∧ gS G o 4 ≤ (L : Int)) ∧ (∀ t : Int, 0 ≤ t → t < (L : Int) → -1 ≤ gS G q1 t.toNat ∧ (gS G q1 t.toNat ≠ -1 → (0 ≤ gS G q0 t.toNat ∧ gS G q0 t.toNat < (L : Int)) ∧ gS G q1 t.toNat < (L : Int))) ∧ (∀ s : Nat, s < 240 → gS G (o - 13) s < (L : Int)) ∧ (∀ s : Nat, s < 10 → gS G (o - 5) s < (L : Int)) ∧ lenV G o = (L : Int) := by
  obtain ⟨q0, q1, q2, q3, L0, L1, L2, L3, B, ⟨⟨a0, a1, a2, a3⟩, m0, m1, m2, m3⟩, b, ⟨c0, c1, c2, c3⟩, ⟨⟨d0, d1, d2, d3, d4⟩, e⟩, f, g, i⟩ := h.2.2.2.2.2.1 o ho
  subst d1 d2 d3 d4
  have hco : cde o = 320 := by rcases ho with rfl | rfl <;> decide
  have hk : gK G o = (18, 0) := h.1.k (c := 320) hco al
  have v4 : 0 ≤ gS G o 4 ∧ gS G o 4 ≤ 8192 := h.1.v (c := 320) (j := 4) hco al (by rw [hk]; exact Nat.le_of_ble_eq_true rfl)
  have hL : B ≤ 8192 := by
    obtain ⟨L, e1, e2, e3⟩ : ∃ L, gK G q0 = (1, L) ∧ 32 ≤ L ∧ L ≤ 8192 := h.1.k (c := 321) b.1 (kne c0 (by decide))
    rw [c0] at e1
    have := congrArg Prod.snd e1
    dsimp only at this
    omega
  exact ⟨q0, q1, q2, q3, B, ⟨a0, a1, a2, a3⟩, ⟨m0, m1, m2, m3⟩, ⟨c0, c1, c2, c3⟩, ⟨d0, hL⟩, ⟨v4.1, e⟩, f, g, i, by unfold lenV; rw [a0, Int.toNat_natCast, c0]⟩
/-- a pair of earlier values, or a number, is put at a place -/
theorem CI.valPut {a b : Nat} {G : LG} {o q0 q1 L : Nat} {c x y : Int} (h : CI a b G) (ho : isVl o) (hq0 : gS G o 0 = (q0 : Int)) (hq1 : gS G o 1 = (q1 : Int)) (hk : gK G q0 = (1, L)) (hk1 : gK G q1 = (1, L)) (hm0 : q0 % 1048576 = o + 1) (hm1 : q1 % 1048576 = o + 2) (hc : 0 ≤ c ∧ c < (L : Int)) (hxy : y = -1 ∨ ((0 ≤ x ∧ x < (L : Int)) ∧ 0 ≤ y ∧ y < (L : Int))) : CI a b (gset (gset G q0 c.toNat x) q1 c.toNat y) := by
  have hc0 : cde q0 = 321 := by rw [cde_m (by omega) (by omega)]; omega
  have hc1 : cde q1 = 322 := by rw [cde_m (by omega) (by omega)]; omega
  have hoo : ∀ k, k = 196628 ∨ k = 196692 → k ≠ q0 ∧ k ≠ q1 ∧ k - 13 ≠ q0 ∧ k - 13 ≠ q1 ∧ k - 5 ≠ q0 ∧ k - 5 ≠ q1 := fun k hk => by
    have z1 : ∀ z, cde z ≠ 321 → z ≠ q0 := fun z hz q => hz (by rw [q]; exact hc0)
    have z2 : ∀ z, cde z ≠ 322 → z ≠ q1 := fun z hz q => hz (by rw [q]; exact hc1)
    rcases hk with rfl | rfl <;> exact ⟨z1 _ (by decide), z2 _ (by decide), z1 _ (by decide), z2 _ (by decide), z1 _ (by decide), z2 _ (by decide)⟩
  have f : ∀ z j, z ≠ q0 → z ≠ q1 → gS (gset (gset G q0 c.toNat x) q1 c.toNat y) z j = gS G z j := fun z j z0 z1 => by rw [gset_ne _ _ (fun q => z1 q.1), gset_ne _ _ (fun q => z0 q.1)]
  refine ⟨(h.1.set (by rw [hc0]; exact True.intro)).set (by rw [hc1]; exact True.intro), h.2.hold (fun z z1 z2 z3 z4 z5 z6 z7 => ?_) rfl rfl (h.2.2.1.cg (fun z hz => by funext j; exact f z j (fun q => by rcases hz with z1 | z1 | z1; (rw [z1] at q; rw [← q] at hc0; exact absurd hc0 (by decide)); (rw [z1] at q; rw [← q] at hc0; exact absurd hc0 (by decide)); (rw [q, hc0] at z1; exact absurd z1 (by decide))) (fun q => by rcases hz with z1 | z1 | z1; (rw [z1] at q; rw [← q] at hc1; exact absurd hc1 (by decide)); (rw [z1] at q; rw [← q] at hc1; exact absurd hc1 (by decide)); (rw [q, hc1] at z1; exact absurd z1 (by decide)))) rfl) (h.2.2.2.1.cg (by funext j; exact f 327684 j (fun q => by rw [← q] at hc0; exact absurd hc0 (by decide)) (fun q => by rw [← q] at hc1; exact absurd hc1 (by decide))) rfl) ?_ ?_⟩
  · funext j; exact f z j (fun q => by rw [q] at z7; omega) (fun q => by rw [q] at z7; omega)
  · intro k hk9
    obtain ⟨p0, p1, p2, p3, L0, L1, L2, L3, B, ⟨⟨a0, a1, a2, a3⟩, w0, w1, w2, w3⟩, ⟨b0, b1, b2, b3⟩, ⟨c0, c1, c2, c3⟩, ⟨⟨d0, d1, d2, d3, d4⟩, e⟩, g, i, j⟩ := h.2.2.2.2.2.1 k hk9
    obtain ⟨o1, o2, o3, o4, o5, o6⟩ := hoo k hk9
    refine ⟨p0, p1, p2, p3, L0, L1, L2, L3, B, by rw [f k _ o1 o2, f k _ o1 o2, f k _ o1 o2, f k _ o1 o2]; exact ⟨⟨a0, a1, a2, a3⟩, w0, w1, w2, w3⟩, ⟨b0, b1, b2, b3⟩, ⟨c0, c1, c2, c3⟩, ⟨⟨d0, d1, d2, d3, d4⟩, by rw [f k _ o1 o2]; exact e⟩, fun t t0 t1 => ?_, fun s hs => by rw [f _ _ o3 o4]; exact i s hs, fun s hs => by rw [f _ _ o5 o6]; exact j s hs⟩
    have n01 : q0 ≠ q1 := fun q => by rw [q, hc1] at hc0; exact absurd hc0 (by decide)
    have m01 : p0 ≠ q1 := fun q => by rw [q, hc1] at b0; exact absurd b0 (by decide)
    have m10 : p1 ≠ q0 := fun q => by rw [q, hc0] at b1; exact absurd b1 (by decide)
    by_cases hko : k = o
    · subst hko
      have e0 : p0 = q0 := by omega
      have e1 : p1 = q1 := by omega
      subst e0 e1
      have eL : L0 = L := by rw [c0] at hk; exact congrArg Prod.snd hk
      subst eL
      by_cases ht : t = c
      · subst ht
        rw [gset_at, gset_ne _ _ (fun q => n01 q.1), gset_at]
        rcases hxy with rfl | hxy
        · exact ⟨Int.le_refl _, fun q => absurd rfl q⟩
        · exact ⟨by omega, fun _ => ⟨⟨hxy.1.1, by omega⟩, by omega⟩⟩
      · rw [gset_ne _ _ (fun q => by have := q.2; omega), gset_ne _ _ (fun q => m10 q.1), gset_ne _ _ (fun q => n01 q.1), gset_ne _ _ (fun q => by have := q.2; omega)]
        exact g t t0 t1
    · have h0 : p0 ≠ q0 := by omega
      have h1 : p1 ≠ q1 := by omega
      rw [gset_ne _ _ (fun q => h1 q.1), gset_ne _ _ (fun q => m10 q.1), f p0 _ h0 m01]
      exact g t t0 t1
  · have h9 := h.2.2.2.2.2.2.2.2.2.2
    have e := Sm_same (G := G) (G' := gset (gset G q0 c.toNat x) q1 c.toNat y) rfl (fun m hm => by
      have h7 := HL_sh m hm
      have hm1 : cde m.1 ≠ 321 ∧ cde m.1 ≠ 322 := by
        unfold SH at h7
        rcases h7 with ⟨z1, ⟨z2, z3, z4⟩ | z2 | z2 | ⟨z2, z3⟩⟩
        · have := cde_n (x := m.1) (by omega) (by omega); omega
        · rw [z2.1]; decide
        · rw [z2.1]; decide
        · rcases z2 with z2 | z2 <;> rw [z2] <;> decide
      exact f m.1 m.2 (fun q => hm1.1 (by rw [q]; exact hc0)) (fun q => hm1.2 (by rw [q]; exact hc1)))
    exact ⟨by rw [e]; exact h9.1, by rw [e]; exact h9.2⟩
/-- how many values there are -/
theorem CI.valCount {a b : Nat} {G : LG} {o q L : Nat} {v : Int} (h : CI a b G) (ho : isVl o) (hq : gS G o 0 = (q : Int)) (hk : gK G q = (1, L)) (hv : 0 ≤ v ∧ v ≤ (L : Int)) (hL : L ≤ 8192) : CI a b (gset G o 4 v) := by
  have hco : cde o = 320 := by rcases ho with rfl | rfl <;> decide
  refine h.setH (Or.inr (Or.inr ⟨ho, rfl⟩)) (by rw [hco]; exact (show 0 ≤ v ∧ v ≤ 8192 by omega)) (h.2.2.1.cg (fun z hz => by funext y; exact gset_ne _ _ (fun e => by rcases hz with q | q | q; omega; omega; (rw [e.1, hco] at q; exact absurd q (by decide)))) rfl) (h.2.2.2.1.cg (by funext y; exact gset_ne _ _ (fun e => by omega)) rfl) ?_
  intro k hk9
  obtain ⟨p0, p1, p2, p3, L0, L1, L2, L3, B, ⟨⟨a0, a1, a2, a3⟩, w⟩, ⟨b0, b1, b2, b3⟩, ⟨c0, c1, c2, c3⟩, ⟨⟨d0, d1, d2, d3, d4⟩, e⟩, g, i, j⟩ := h.2.2.2.2.2.1 k hk9
  have f : ∀ z y, y ≠ 4 ∨ z ≠ o → gS (gset G o 4 v) z y = gS G z y := fun z y hz => gset_ne _ _ (fun q => by omega)
  have n0 : p0 ≠ o := fun q => by rw [q, hco] at b0; exact absurd b0 (by decide)
  have n1 : p1 ≠ o := fun q => by rw [q, hco] at b1; exact absurd b1 (by decide)
  have nA : k - 13 ≠ o := by omega
  have nB : k - 5 ≠ o := by omega
  refine ⟨p0, p1, p2, p3, L0, L1, L2, L3, B, by rw [f k _ (Or.inl (by decide)), f k _ (Or.inl (by decide)), f k _ (Or.inl (by decide)), f k _ (Or.inl (by decide))]; exact ⟨⟨a0, a1, a2, a3⟩, w⟩, ⟨b0, b1, b2, b3⟩, ⟨c0, c1, c2, c3⟩, ⟨⟨d0, d1, d2, d3, d4⟩, ?_⟩, fun t t0 t1 => by rw [f p1 _ (Or.inr n1), f p0 _ (Or.inr n0)]; exact g t t0 t1, fun s hs => by rw [f _ _ (Or.inr nA)]; exact i s hs, fun s hs => by rw [f _ _ (Or.inr nB)]; exact j s hs⟩
  by_cases hko : k = o
  · subst hko
    rw [gset_at]
    have e0 : p0 = q := by omega
    subst e0
    rw [hk] at c0
    have := congrArg Prod.snd c0
    dsimp only at this
    omega
  · rw [gset_ne _ _ (fun q => hko q.1)]; exact e
/-- a cell's state, a result: no value beyond the rows -/
theorem CI.state {a b : Nat} {G : LG} {x o j : Nat} {v : Int} (h : CI a b G) (ho : isVl o) (hx : x = o - 13 ∨ x = o - 5) (hv : v < lenV G o) : CI a b (gset G x j v) := by
  have hcx : cde x = 307 ∨ cde x = 315 := by rcases ho with rfl | rfl <;> rcases hx with rfl | rfl <;> decide
  have f : ∀ z y, z ≠ x → gS (gset G x j v) z y = gS G z y := fun z y hz => gset_ne _ _ (fun q => hz q.1)
  refine ⟨h.1.set (by rcases hcx with q | q <;> rw [q] <;> exact True.intro), h.2.hold (fun z z1 z2 z3 z4 z5 z6 z7 => by funext y; exact f z y (fun q => z7 (by rw [q]; omega))) rfl rfl (h.2.2.1.cg (fun z hz => by funext y; exact f z y (fun q => by rcases hz with z1 | z1 | z1; omega; omega; (rw [q] at z1; omega))) rfl) (h.2.2.2.1.cg (by funext y; exact f _ y (by omega)) rfl) ?_ ?_⟩
  · intro k hk9
    obtain ⟨p0, p1, p2, p3, L0, L1, L2, L3, B, ⟨⟨a0, a1, a2, a3⟩, w⟩, ⟨b0, b1, b2, b3⟩, ⟨c0, c1, c2, c3⟩, ⟨⟨d0, d1, d2, d3, d4⟩, e⟩, g, i, l⟩ := h.2.2.2.2.2.1 k hk9
    have n0 : p0 ≠ x := fun q => by rw [q] at b0; omega
    have n1 : p1 ≠ x := fun q => by rw [q] at b1; omega
    have nk : k ≠ x := by omega
    have hB : k = o → v < (B : Int) := fun q => by
      subst q
      unfold lenV at hv
      rw [a0, Int.toNat_natCast, c0] at hv
      omega
    refine ⟨p0, p1, p2, p3, L0, L1, L2, L3, B, by rw [f k _ nk, f k _ nk, f k _ nk, f k _ nk]; exact ⟨⟨a0, a1, a2, a3⟩, w⟩, ⟨b0, b1, b2, b3⟩, ⟨c0, c1, c2, c3⟩, ⟨⟨d0, d1, d2, d3, d4⟩, by rw [f k _ nk]; exact e⟩, fun t t0 t1 => by rw [f p1 _ n1, f p0 _ n0]; exact g t t0 t1, fun s hs => ?_, fun s hs => ?_⟩
    · by_cases hz : k - 13 = x ∧ s = j
      · rw [hz.1, hz.2, gset_at]; exact hB (by omega)
      · rw [gset_ne _ _ hz]; exact i s hs
    · by_cases hz : k - 5 = x ∧ s = j
      · rw [hz.1, hz.2, gset_at]; exact hB (by omega)
      · rw [gset_ne _ _ hz]; exact l s hs
  · have h9 := h.2.2.2.2.2.2.2.2.2.2
    have e := Sm_same (G := G) (G' := gset G x j v) rfl (fun m hm => f m.1 m.2 (fun q => by
      have h7 := HL_sh m hm
      have hm1 : cde m.1 ≠ 307 ∧ cde m.1 ≠ 315 := by
        unfold SH at h7
        rcases h7 with ⟨z1, ⟨z2, z3, z4⟩ | z2 | z2 | ⟨z2, z3⟩⟩
        · have := cde_n (x := m.1) (by omega) (by omega); omega
        · rw [z2.1]; decide
        · rw [z2.1]; decide
        · rcases z2 with z2 | z2 <;> rw [z2] <;> decide
      rw [q] at hm1; omega))
    exact ⟨by rw [e]; exact h9.1, by rw [e]; exact h9.2⟩
theorem cde_vl {o i n g : Nat} (ho : isVl o) (hi : i < 4) (hn : n = o + 1 + i + 1048576 * g) : cde n = 321 + i := by
  rw [cde_m (by omega) (by omega)]; omega
/-- the rows of values give way to longer ones, all four -/
theorem CI.growVals {a b : Nat} {G G' : LG} {o q0 q1 q2 q3 L M n0 n1 n2 n3 : Nat} (h : CI a b G) (ho : isVl o) (al : (gK G o).1 ≠ 0) (hq : gS G o 0 = (q0 : Int) ∧ gS G o 1 = (q1 : Int) ∧ gS G o 2 = (q2 : Int) ∧ gS G o 3 = (q3 : Int)) (hk : gK G q0 = (1, L) ∧ gK G q1 = (1, L) ∧ gK G q2 = (3, L) ∧ gK G q3 = (1, L)) (hL : 32 ≤ L) (hM : M = 2 * L ∧ M ≤ 8192)
    (hn0 : n0 = o + 1 + 1048576 * (1 + gc G)) (hn1 : n1 = o + 2 + 1048576 * (2 + gc G)) (hn2 : n2 = o + 3 + 1048576 * (3 + gc G)) (hn3 : n3 = o + 4 + 1048576 * (4 + gc G))
    (e1 : ∀ z, z ≠ n0 → z ≠ n1 → z ≠ n2 → z ≠ n3 → z ≠ o → gS G' z = gS G z) (e2 : gS G' o 0 = (n0 : Int) ∧ gS G' o 1 = (n1 : Int) ∧ gS G' o 2 = (n2 : Int) ∧ gS G' o 3 = (n3 : Int)) (e3 : gS G' o 4 = gS G o 4)
    (e4 : gK G' = gK (gnew (gnew (gnew (gnew G n0 1 M M (fun _ => 0)) n1 1 M M (fun _ => 0)) n2 3 M M (fun _ => 0)) n3 1 M M (fun _ => 0))) (e5 : gc G' = gc G + 4) (e6 : gs G' = gs G + M + M + M + M)
    (e7 : ∀ j, j < L → gS G' n0 j = gS G q0 j ∧ gS G' n1 j = gS G q1 j) (e8 : ∀ j, L ≤ j → j < M → gS G' n0 j = 0 ∧ gS G' n1 j = 0) : CI a b G' := by
  have ob : o < 1048576 := by omega
  have hd := h.2.2.2.2.2.2.2.2.2.1.1
  have d0 := hd n0 (by omega)
  have d1 := hd n1 (by omega)
  have d2 := hd n2 (by omega)
  have d3 := hd n3 (by omega)
  have c0 : cde n0 = 321 := cde_vl (i := 0) (g := 1 + gc G) ho (by decide) (by omega)
  have c1 : cde n1 = 322 := cde_vl (i := 1) (g := 2 + gc G) ho (by decide) (by omega)
  have c2 : cde n2 = 323 := cde_vl (i := 2) (g := 3 + gc G) ho (by decide) (by omega)
  have c3 : cde n3 = 324 := cde_vl (i := 3) (g := 4 + gc G) ho (by decide) (by omega)
  have co : cde o = 320 := by rcases ho with rfl | rfl <;> decide
  have ko : gK G o = (18, 0) := h.1.k (c := 320) co al
  have kz : ∀ z, z ≠ n0 → z ≠ n1 → z ≠ n2 → z ≠ n3 → gK G' z = gK G z := fun z z0 z1 z2 z3 => by
    rw [e4, gnew_Kne _ _ _ _ _ z3, gnew_Kne _ _ _ _ _ z2, gnew_Kne _ _ _ _ _ z1, gnew_Kne _ _ _ _ _ z0]
  have k0 : gK G' n0 = (1, M) := by rw [e4, gnew_Kne _ _ _ _ _ (by omega), gnew_Kne _ _ _ _ _ (by omega), gnew_Kne _ _ _ _ _ (by omega)]; exact gnew_K _ _ _ _ _ _
  have k1 : gK G' n1 = (1, M) := by rw [e4, gnew_Kne _ _ _ _ _ (by omega), gnew_Kne _ _ _ _ _ (by omega)]; exact gnew_K _ _ _ _ _ _
  have k2 : gK G' n2 = (3, M) := by rw [e4, gnew_Kne _ _ _ _ _ (by omega)]; exact gnew_K _ _ _ _ _ _
  have k3 : gK G' n3 = (1, M) := by rw [e4]; exact gnew_K _ _ _ _ _ _
  have alv : ∀ z t N, gK G z = (t, N) → t ≠ 0 → z ≠ n0 ∧ z ≠ n1 ∧ z ≠ n2 ∧ z ≠ n3 := fun z t N hz ht => ⟨fun q => by rw [q] at hz; rw [hz] at d0; exact ht d0, fun q => by rw [q] at hz; rw [hz] at d1; exact ht d1, fun q => by rw [q] at hz; rw [hz] at d2; exact ht d2, fun q => by rw [q] at hz; rw [hz] at d3; exact ht d3⟩
  -- cells are what their names say
  have hT : TI G' := by
    intro z hz
    by_cases y0 : z = n0
    · subst y0; rw [k0, c0]; exact ⟨⟨M, rfl, by omega, by omega⟩, fun j _ => True.intro⟩
    by_cases y1 : z = n1
    · subst y1; rw [k1, c1]; exact ⟨⟨M, rfl, by omega, by omega⟩, fun j _ => True.intro⟩
    by_cases y2 : z = n2
    · subst y2; rw [k2, c2]; exact ⟨⟨M, rfl, by omega, by omega⟩, fun j _ => True.intro⟩
    by_cases y3 : z = n3
    · subst y3; rw [k3, c3]; exact ⟨⟨M, rfl, by omega, by omega⟩, fun j _ => True.intro⟩
    rw [kz z y0 y1 y2 y3] at hz ⊢
    refine ⟨(h.1 z hz).1, fun j hj => ?_⟩
    by_cases y4 : z = o
    · subst y4
      have ho9 : z % 1048576 = z := Nat.mod_eq_of_lt (by omega)
      have hj9 : j < 5 := by rw [ko] at hj; exact hj
      rw [co]
      have hj5 : j = 0 ∨ j = 1 ∨ j = 2 ∨ j = 3 ∨ j = 4 := by omega
      rcases hj5 with rfl | rfl | rfl | rfl | rfl
      · rw [e2.1]; exact (show 0 ≤ (n0 : Int) ∧ (n0 : Int) % 1048576 = ((z % 1048576 + 1 : Nat) : Int) by omega)
      · rw [e2.2.1]; exact (show 0 ≤ (n1 : Int) ∧ (n1 : Int) % 1048576 = ((z % 1048576 + 2 : Nat) : Int) by omega)
      · rw [e2.2.2.1]; exact (show 0 ≤ (n2 : Int) ∧ (n2 : Int) % 1048576 = ((z % 1048576 + 3 : Nat) : Int) by omega)
      · rw [e2.2.2.2]; exact (show 0 ≤ (n3 : Int) ∧ (n3 : Int) % 1048576 = ((z % 1048576 + 4 : Nat) : Int) by omega)
      · rw [e3]
        have h9 := (h.1 z hz).2 4 hj
        rw [co] at h9; exact h9
    · rw [e1 z y0 y1 y2 y3 y4]; exact (h.1 z hz).2 j hj
  -- the room
  have hA : AC a b G' := by
    have x0 := h.2.2.2.2.2.2.2.2.2.2.hold (d := fun _ => 0) (k := 1) (HL_vl ho (by decide : 0 < 4)) al hq.1 hk.1 (by decide) (by decide) (by omega) (Or.inl (show 2 * L ≤ M by omega)) (by omega) d0 (by omega)
    have x1 := x0.hold (d := fun _ => 0) (k := 1) (n := n1) (M := M) (HL_vl ho (by decide : 1 < 4)) (by rw [gset_K, gnew_Kne _ _ _ _ _ (by omega)]; exact al) (q := q1) (by rw [gset_ne _ _ (fun w => absurd w.2 (by decide)), gnew_ne _ _ _ _ _ (by omega)]; exact hq.2.1) (by rw [gset_K, gnew_Kne _ _ _ _ _ (alv q1 _ _ hk.2.1 (by decide)).1]; exact hk.2.1) (by decide) (by decide) (by omega) (Or.inl (by omega)) (by omega) (by rw [gset_K, gnew_Kne _ _ _ _ _ (by omega)]; exact d1) (by omega)
    have x2 := x1.hold (d := fun _ => 0) (k := 3) (n := n2) (M := M) (HL_vl ho (by decide : 2 < 4)) (by rw [gset_K, gnew_Kne _ _ _ _ _ (by omega), gset_K, gnew_Kne _ _ _ _ _ (by omega)]; exact al) (q := q2) (by rw [gset_ne _ _ (fun w => absurd w.2 (by decide)), gnew_ne _ _ _ _ _ (by omega), gset_ne _ _ (fun w => absurd w.2 (by decide)), gnew_ne _ _ _ _ _ (by omega)]; exact hq.2.2.1) (by rw [gset_K, gnew_Kne _ _ _ _ _ (alv q2 _ _ hk.2.2.1 (by decide)).2.1, gset_K, gnew_Kne _ _ _ _ _ (alv q2 _ _ hk.2.2.1 (by decide)).1]; exact hk.2.2.1) (by decide) (by decide) (by omega) (Or.inl (by omega)) (by omega) (by rw [gset_K, gnew_Kne _ _ _ _ _ (by omega), gset_K, gnew_Kne _ _ _ _ _ (by omega)]; exact d2) (by omega)
    have x3 := x2.hold (d := fun _ => 0) (k := 1) (n := n3) (M := M) (HL_vl ho (by decide : 3 < 4)) (by rw [gset_K, gnew_Kne _ _ _ _ _ (by omega), gset_K, gnew_Kne _ _ _ _ _ (by omega), gset_K, gnew_Kne _ _ _ _ _ (by omega)]; exact al) (q := q3) (by rw [gset_ne _ _ (fun w => absurd w.2 (by decide)), gnew_ne _ _ _ _ _ (by omega), gset_ne _ _ (fun w => absurd w.2 (by decide)), gnew_ne _ _ _ _ _ (by omega), gset_ne _ _ (fun w => absurd w.2 (by decide)), gnew_ne _ _ _ _ _ (by omega)]; exact hq.2.2.2) (by rw [gset_K, gnew_Kne _ _ _ _ _ (alv q3 _ _ hk.2.2.2 (by decide)).2.2.1, gset_K, gnew_Kne _ _ _ _ _ (alv q3 _ _ hk.2.2.2 (by decide)).2.1, gset_K, gnew_Kne _ _ _ _ _ (alv q3 _ _ hk.2.2.2 (by decide)).1]; exact hk.2.2.2) (by decide) (by decide) (by omega) (Or.inl (by omega)) (by omega) (by rw [gset_K, gnew_Kne _ _ _ _ _ (by omega), gset_K, gnew_Kne _ _ _ _ _ (by omega), gset_K, gnew_Kne _ _ _ _ _ (by omega)]; exact d3) (by omega)
    have e : ∀ f, Sm f G' = Sm f _ := fun f => Sm_same (G := gset (gnew (gset (gnew (gset (gnew (gset (gnew G n0 1 M M (fun _ => 0)) o 0 (n0 : Int)) n1 1 M M (fun _ => 0)) o 1 (n1 : Int)) n2 3 M M (fun _ => 0)) o 2 (n2 : Int)) n3 1 M M (fun _ => 0)) o 3 (n3 : Int)) (G' := G') (by rw [e4]; rfl) (fun m hm => by
      have h7 := HL_sh m hm
      have hm0 : m.1 < 1048576 := h7.1
      have m0 : m.1 ≠ n0 := by omega
      have m1 : m.1 ≠ n1 := by omega
      have m2 : m.1 ≠ n2 := by omega
      have m3 : m.1 ≠ n3 := by omega
      by_cases w : m.1 = o
      · have w4 : m.2 < 4 := by
          unfold SH at h7
          rcases h7 with ⟨z1, ⟨z2, z3, z4⟩ | z2 | z2 | ⟨z2, z3⟩⟩ <;> omega
        have w5 : m.2 = 0 ∨ m.2 = 1 ∨ m.2 = 2 ∨ m.2 = 3 := by omega
        rw [w]
        rcases w5 with w5 | w5 | w5 | w5 <;> rw [w5]
        · rw [e2.1, gset_ne _ _ (fun q => absurd q.2 (by decide)), gnew_ne _ _ _ _ _ (by omega), gset_ne _ _ (fun q => absurd q.2 (by decide)), gnew_ne _ _ _ _ _ (by omega), gset_ne _ _ (fun q => absurd q.2 (by decide)), gnew_ne _ _ _ _ _ (by omega), gset_at]
        · rw [e2.2.1, gset_ne _ _ (fun q => absurd q.2 (by decide)), gnew_ne _ _ _ _ _ (by omega), gset_ne _ _ (fun q => absurd q.2 (by decide)), gnew_ne _ _ _ _ _ (by omega), gset_at]
        · rw [e2.2.2.1, gset_ne _ _ (fun q => absurd q.2 (by decide)), gnew_ne _ _ _ _ _ (by omega), gset_at]
        · rw [e2.2.2.2, gset_at]
      · rw [e1 m.1 m0 m1 m2 m3 w, gset_ne _ _ (fun q => w q.1), gnew_ne _ _ _ _ _ m3, gset_ne _ _ (fun q => w q.1), gnew_ne _ _ _ _ _ m2, gset_ne _ _ (fun q => w q.1), gnew_ne _ _ _ _ _ m1, gset_ne _ _ (fun q => w q.1), gnew_ne _ _ _ _ _ m0]) f
    refine ⟨?_, ?_⟩
    · rw [e, e6]; exact x3.1
    · rw [e, e5]; exact x3.2
  -- the rest
  have g0 := h.2.new (n := n0) (k := 1) (L := M) (sl := M) (d := gS G' n0) (by omega) (by omega)
  have g1 := g0.new (n := n1) (k := 1) (L := M) (sl := M) (d := gS G' n1) (by show n1 / 1048576 = 1 + (gc G + 1); omega) (by omega)
  have g2 := g1.new (n := n2) (k := 3) (L := M) (sl := M) (d := gS G' n2) (by show n2 / 1048576 = 1 + (gc G + 1 + 1); omega) (by omega)
  have g3 := g2.new (n := n3) (k := 1) (L := M) (sl := M) (d := gS G' n3) (by show n3 / 1048576 = 1 + (gc G + 1 + 1 + 1); omega) (by omega)
  have hz : ∀ z, z ≠ o → gS G' z = gS (gnew (gnew (gnew (gnew G n0 1 M M (gS G' n0)) n1 1 M M (gS G' n1)) n2 3 M M (gS G' n2)) n3 1 M M (gS G' n3)) z := fun z zo => by
    by_cases y3 : z = n3
    · subst y3; rw [gnew_at]
    rw [gnew_ne _ _ _ _ _ y3]
    by_cases y2 : z = n2
    · subst y2; rw [gnew_at]
    rw [gnew_ne _ _ _ _ _ y2]
    by_cases y1 : z = n1
    · subst y1; rw [gnew_at]
    rw [gnew_ne _ _ _ _ _ y1]
    by_cases y0 : z = n0
    · subst y0; rw [gnew_at]
    rw [gnew_ne _ _ _ _ _ y0]; exact e1 z y0 y1 y2 y3 zo
  refine ⟨hT, g3.hold (fun z z1 z2 z3 z4 _ _ _ => hz z (by rcases ho with rfl | rfl; exact z3; exact z4)) (by rw [e4]; rfl) e5 (g3.2.1.cg (fun z hz9 => hz z (fun q => by rw [q, co] at hz9; omega)) (by rw [e4]; rfl)) (g3.2.2.1.cg (hz _ (by omega)) (by rw [e4]; rfl)) ?_ hA⟩
  intro k hk9
  obtain ⟨p0, p1, p2, p3, L0, L1, L2, L3, B, ⟨⟨a0, a1, a2, a3⟩, w⟩, b9, ⟨u0, u1, u2, u3⟩, ⟨⟨v0, v1, v2, v3, v4⟩, e⟩, g, i, l⟩ := h.2.2.2.2.2.1 k hk9
  obtain ⟨y0, y1, y2, y3⟩ := alv p0 _ _ u0 (by decide)
  obtain ⟨t0, t1, t2, t3⟩ := alv p1 _ _ u1 (by decide)
  obtain ⟨s0, s1, s2, s3⟩ := alv p2 _ _ u2 (by decide)
  obtain ⟨r0, r1, r2, r3⟩ := alv p3 _ _ u3 (by decide)
  have zA : gS G' (k - 13) = gS G (k - 13) := e1 _ (by omega) (by omega) (by omega) (by omega) (by omega)
  have zB : gS G' (k - 5) = gS G (k - 5) := e1 _ (by omega) (by omega) (by omega) (by omega) (by omega)
  by_cases hko : k = o
  · subst hko
    have ep0 : p0 = q0 := by omega
    have ep1 : p1 = q1 := by omega
    have eB : B = L := by
      rw [ep0, hk.1] at u0
      have := congrArg Prod.snd u0
      dsimp only at this
      omega
    refine ⟨n0, n1, n2, n3, M, M, M, M, M, ⟨e2, by omega, by omega, by omega, by omega⟩, ⟨c0, c1, c2, c3⟩, ⟨k0, k1, k2, k3⟩, ⟨⟨by omega, rfl, rfl, rfl, rfl⟩, by rw [e3]; omega⟩, fun t h0 h1 => ?_, fun s hs => ?_, fun s hs => ?_⟩
    · by_cases ht : t < (L : Int)
      · obtain ⟨f0, f1⟩ := e7 t.toNat (by omega)
        rw [f0, f1]
        have h9 := g t h0 (by omega)
        rw [ep0, ep1] at h9
        exact ⟨h9.1, fun q => by have h8 := h9.2 q; omega⟩
      · obtain ⟨f0, f1⟩ := e8 t.toNat (by omega) (by omega)
        rw [f0, f1]; omega
    · rw [zA]; have := i s hs; omega
    · rw [zB]; have := l s hs; omega
  · have zk : gS G' k = gS G k := e1 _ (by omega) (by omega) (by omega) (by omega) hko
    have z0 : gS G' p0 = gS G p0 := e1 _ y0 y1 y2 y3 (fun q => by rw [q, co] at b9; exact absurd b9.1 (by decide))
    have z1 : gS G' p1 = gS G p1 := e1 _ t0 t1 t2 t3 (fun q => by rw [q, co] at b9; exact absurd b9.2.1 (by decide))
    refine ⟨p0, p1, p2, p3, L0, L1, L2, L3, B, ?_⟩
    rw [zk, z0, z1, zA, zB, kz p0 y0 y1 y2 y3, kz p1 t0 t1 t2 t3, kz p2 s0 s1 s2 s3, kz p3 r0 r1 r2 r3]
    exact ⟨⟨⟨a0, a1, a2, a3⟩, w⟩, b9, ⟨u0, u1, u2, u3⟩, ⟨⟨v0, v1, v2, v3, v4⟩, e⟩, g, i, l⟩
theorem gnewKK {G H W : LG} {n k L sl n2 k2 L2 sl2 : Nat} {d d2 d3 : Nat → Int} (h : gK W = gK (gnew H n k L sl d)) : gK (gnew W n2 k2 L2 sl2 d2) = gK (gnew (gnew H n k L sl d3) n2 k2 L2 sl2 d2) := by
  funext z
  by_cases e : z = n2
  · subst e; rw [gnew_K, gnew_K]
  · rw [gnew_Kne _ _ _ _ _ e, gnew_Kne _ _ _ _ _ e, h]; rfl
