/-! THE CLASS: values -/
section MINL
variable {K : KD} {X : CX} {pc : Nat} {lv : List (Option LV)} {st : List LV} {G : LG}
theorem s_mminL {x y : Int} {idx : Nat} (hdg : decode K.2.1 pc = .ok (.invokestatic idx, 3)) (hlink : Cond.methodLink K.1 idx Lib.MathLoose.min_long.x ∈ WALL) (hcf : 1 ≤ cf X) (hw : (st.map (fun v => if v.1 = 1 then 2 else 1)).sum ≤ 8) (kk : ∀ z : Int, inL z → WP K X (pc + 3) lv ((1, z) :: st) G) : WP K X pc lv ((1, y) :: (1, x) :: st) G := by
  obtain ⟨p, l, e, R, s, m, args, below, meth, c, D, dT, ad0, G0, Q, base, sbase⟩ := X
  intro ho ad H locs ls hd he hs hl o1 o2
  have hts := ho.2.2.2.2.1
  have o9 := okv_t (okv_t o2)
  have hcf' : 1 ≤ R.frames := hcf
  have hloc := ho.2.2.2.2.2.2.2.2.2.2.2.1.2.2
  obtain ⟨hc1, hs1⟩ := room_new (a := 0) (b := 0) ho hd he hd.2.2.2.2.2.1 hd.2.2.2.2.2.2
  have k9 := kk _ (inL_toInt (if Int64.ofInt y < Int64.ofInt x then Int64.ofInt y else Int64.ofInt x)) ho ad H locs ls hd he hs hl o1 (okv_c (okv_l (inL_toInt _)) o9)
  have e9 : rv ad (1, (if Int64.ofInt y < Int64.ofInt x then Int64.ofInt y else Int64.ofInt x).toInt) = .long (if Int64.ofInt y < Int64.ofInt x then Int64.ofInt y else Int64.ofInt x) := congrArg Value.long (L_of _)
  rw [List.map_cons, e9] at k9
  intro T hT X'
  have hsz : (F0 m pc ls (.long (Int64.ofInt y) :: .long (Int64.ofInt x) :: st.map (rv ad))).locals.size = c.maxLocals := hl.1.trans ho.2.2.1.symm
  obtain ⟨vm', X2, st2⟩ := va_min_longV X' ho.1 ho.2.2.2.1 (hts _ hlink) (hts _ m_1743) (hts _ m_701) (hts _ m_38) (g := F0 m pc ls (.long (Int64.ofInt y) :: .long (Int64.ofInt x) :: st.map (rv ad))) rfl hsz (a := Int64.ofInt x) (b := Int64.ofInt y) (rest := st.map (rv ad)) rfl (by rw [ho.2.1]; exact hdg) hcf' (by show 2 * 0 + _ + 15 ≤ _; rw [cat_sum]; omega) hc1 hs1
  obtain ⟨t, a1, b1⟩ := k9 (T.setVm vm') hT X2
  exact ⟨t, st2 t a1, b1⟩
end MINL
def lenV (G : LG) (o : Nat) : Int := ((gK G (gS G o 0).toNat).2 : Nat)
def fsV (G : LG) (o : Nat) (v : Int) : Int := gS G (gS G o 0).toNat v.toNat
def snV (G : LG) (o : Nat) (v : Int) : Int := gS G (gS G o 1).toNat v.toNat
/-- the cells of the values -/
theorem CI.vals {a b : Nat} {G : LG} {o : Nat} (h : CI a b G) (ho : isVl o) (al : (gK G o).1 ≠ 0) : ∃ q0 q1 q2 q3 L : Nat, (gS G o 0 = (q0 : Int) ∧ gS G o 1 = (q1 : Int) ∧ gS G o 2 = (q2 : Int) ∧ gS G o 3 = (q3 : Int)) ∧ (q0 % 1048576 = o + 1 ∧ q1 % 1048576 = o + 2 ∧ q2 % 1048576 = o + 3 ∧ q3 % 1048576 = o + 4) ∧ (gK G q0 = (1, L) ∧ gK G q1 = (1, L) ∧ gK G q2 = (3, L) ∧ gK G q3 = (1, L)) ∧ (32 ≤ L ∧ L ≤ 8192) ∧ (0 ≤ gS G o 4 ∧ gS G o 4 ≤ (L : Int)) ∧ (∀ t : Int, 0 ≤ t → t < (L : Int) → -1 ≤ gS G q1 t.toNat ∧ (gS G q1 t.toNat ≠ -1 → (0 ≤ gS G q0 t.toNat ∧ gS G q0 t.toNat < (L : Int)) ∧ gS G q1 t.toNat < (L : Int))) ∧ (∀ s : Nat, s < 240 → gS G (o - 13) s < (L : Int)) ∧ (∀ s : Nat, s < 10 → gS G (o - 5) s < (L : Int)) ∧ lenV G o = (L : Int) := by
  obtain ⟨q0, q1, q2, q3, L0, L1, L2, L3, B, ⟨⟨a0, a1, a2, a3⟩, m0, m1, m2, m3⟩, b, ⟨c0, c1, c2, c3⟩, ⟨⟨d0, d1, d2, d3, d4⟩, e⟩, f, g, i⟩ := h.2.2.2.2.2.1 o ho
  subst d1 d2 d3 d4
  have hco : cde o = 320 := by rcases ho with rfl | rfl <;> decide
  have hk : gK G o = (18, 0) := h.1.k (c := 320) hco al
  have v4 : 0 ≤ gS G o 4 ∧ gS G o 4 ≤ 8192 := h.1.v (c := 320) (j := 4) hco al (by rw [hk]; exact Nat.le_of_ble_eq_true rfl)
  have hL : B ≤ 8192 := by
    obtain ⟨L, e1, e2, e3⟩ : ∃ L, gK G q0 = (1, L) ∧ 32 ≤ L ∧ L ≤ 8192 := h.1.k (c := 321) b.1 (kne c0 (by decide))
    rw [c0] at e1
    have := congrArg Prod.snd e1
    dsimp only at this
    omega
  exact ⟨q0, q1, q2, q3, B, ⟨a0, a1, a2, a3⟩, ⟨m0, m1, m2, m3⟩, ⟨c0, c1, c2, c3⟩, ⟨d0, hL⟩, ⟨v4.1, e⟩, f, g, i, by unfold lenV; rw [a0, Int.toNat_natCast, c0]⟩
/-- a pair of earlier values, or a number, is put at a place -/
theorem CI.valPut {a b : Nat} {G : LG} {o q0 q1 L : Nat} {c x y : Int} (h : CI a b G) (ho : isVl o) (hq0 : gS G o 0 = (q0 : Int)) (hq1 : gS G o 1 = (q1 : Int)) (hk : gK G q0 = (1, L)) (hk1 : gK G q1 = (1, L)) (hm0 : q0 % 1048576 = o + 1) (hm1 : q1 % 1048576 = o + 2) (hc : 0 ≤ c ∧ c < (L : Int)) (hxy : y = -1 ∨ ((0 ≤ x ∧ x < (L : Int)) ∧ 0 ≤ y ∧ y < (L : Int))) : CI a b (gset (gset G q0 c.toNat x) q1 c.toNat y) := by
  have hc0 : cde q0 = 321 := by rw [cde_m (by omega) (by omega)]; omega
  have hc1 : cde q1 = 322 := by rw [cde_m (by omega) (by omega)]; omega
  have hoo : ∀ k, k = 196628 ∨ k = 196692 → k ≠ q0 ∧ k ≠ q1 ∧ k - 13 ≠ q0 ∧ k - 13 ≠ q1 ∧ k - 5 ≠ q0 ∧ k - 5 ≠ q1 := fun k hk => by
    have z1 : ∀ z, cde z ≠ 321 → z ≠ q0 := fun z hz q => hz (by rw [q]; exact hc0)
    have z2 : ∀ z, cde z ≠ 322 → z ≠ q1 := fun z hz q => hz (by rw [q]; exact hc1)
    rcases hk with rfl | rfl <;> exact ⟨z1 _ (by decide), z2 _ (by decide), z1 _ (by decide), z2 _ (by decide), z1 _ (by decide), z2 _ (by decide)⟩
  have f : ∀ z j, z ≠ q0 → z ≠ q1 → gS (gset (gset G q0 c.toNat x) q1 c.toNat y) z j = gS G z j := fun z j z0 z1 => by rw [gset_ne _ _ (fun q => z1 q.1), gset_ne _ _ (fun q => z0 q.1)]
  refine ⟨(h.1.set (by rw [hc0]; exact True.intro)).set (by rw [hc1]; exact True.intro), h.2.hold (fun z z1 z2 z3 z4 z5 z6 z7 => ?_) rfl rfl (h.2.2.1.cg (fun z hz => by funext j; exact f z j (fun q => by rcases hz with z1 | z1 | z1; (rw [z1] at q; rw [← q] at hc0; exact absurd hc0 (by decide)); (rw [z1] at q; rw [← q] at hc0; exact absurd hc0 (by decide)); (rw [q, hc0] at z1; exact absurd z1 (by decide))) (fun q => by rcases hz with z1 | z1 | z1; (rw [z1] at q; rw [← q] at hc1; exact absurd hc1 (by decide)); (rw [z1] at q; rw [← q] at hc1; exact absurd hc1 (by decide)); (rw [q, hc1] at z1; exact absurd z1 (by decide)))) rfl) (h.2.2.2.1.cg (by funext j; exact f 327684 j (fun q => by rw [← q] at hc0; exact absurd hc0 (by decide)) (fun q => by rw [← q] at hc1; exact absurd hc1 (by decide))) rfl) ?_ ?_⟩
  · funext j; exact f z j (fun q => by rw [q] at z7; omega) (fun q => by rw [q] at z7; omega)
  · intro k hk9
    obtain ⟨p0, p1, p2, p3, L0, L1, L2, L3, B, ⟨⟨a0, a1, a2, a3⟩, w0, w1, w2, w3⟩, ⟨b0, b1, b2, b3⟩, ⟨c0, c1, c2, c3⟩, ⟨⟨d0, d1, d2, d3, d4⟩, e⟩, g, i, j⟩ := h.2.2.2.2.2.1 k hk9
    obtain ⟨o1, o2, o3, o4, o5, o6⟩ := hoo k hk9
    refine ⟨p0, p1, p2, p3, L0, L1, L2, L3, B, by rw [f k _ o1 o2, f k _ o1 o2, f k _ o1 o2, f k _ o1 o2]; exact ⟨⟨a0, a1, a2, a3⟩, w0, w1, w2, w3⟩, ⟨b0, b1, b2, b3⟩, ⟨c0, c1, c2, c3⟩, ⟨⟨d0, d1, d2, d3, d4⟩, by rw [f k _ o1 o2]; exact e⟩, fun t t0 t1 => ?_, fun s hs => by rw [f _ _ o3 o4]; exact i s hs, fun s hs => by rw [f _ _ o5 o6]; exact j s hs⟩
    have n01 : q0 ≠ q1 := fun q => by rw [q, hc1] at hc0; exact absurd hc0 (by decide)
    have m01 : p0 ≠ q1 := fun q => by rw [q, hc1] at b0; exact absurd b0 (by decide)
    have m10 : p1 ≠ q0 := fun q => by rw [q, hc0] at b1; exact absurd b1 (by decide)
    by_cases hko : k = o
    · subst hko
      have e0 : p0 = q0 := by omega
      have e1 : p1 = q1 := by omega
      subst e0 e1
      have eL : L0 = L := by rw [c0] at hk; exact congrArg Prod.snd hk
      subst eL
      by_cases ht : t = c
      · subst ht
        rw [gset_at, gset_ne _ _ (fun q => n01 q.1), gset_at]
        rcases hxy with rfl | hxy
        · exact ⟨Int.le_refl _, fun q => absurd rfl q⟩
        · exact ⟨by omega, fun _ => ⟨⟨hxy.1.1, by omega⟩, by omega⟩⟩
      · rw [gset_ne _ _ (fun q => by have := q.2; omega), gset_ne _ _ (fun q => m10 q.1), gset_ne _ _ (fun q => n01 q.1), gset_ne _ _ (fun q => by have := q.2; omega)]
        exact g t t0 t1
    · have h0 : p0 ≠ q0 := by omega
      have h1 : p1 ≠ q1 := by omega
      rw [gset_ne _ _ (fun q => h1 q.1), gset_ne _ _ (fun q => m10 q.1), f p0 _ h0 m01]
      exact g t t0 t1
  · have h9 := h.2.2.2.2.2.2.2.2.2.2
    have e := Sm_same (G := G) (G' := gset (gset G q0 c.toNat x) q1 c.toNat y) rfl (fun m hm => by
      have h7 := HL_sh m hm
      have hm1 : cde m.1 ≠ 321 ∧ cde m.1 ≠ 322 := by
        unfold SH at h7
        rcases h7 with ⟨z1, ⟨z2, z3, z4⟩ | z2 | z2 | ⟨z2, z3⟩⟩
        · have := cde_n (x := m.1) (by omega) (by omega); omega
        · rw [z2.1]; decide
        · rw [z2.1]; decide
        · rcases z2 with z2 | z2 <;> rw [z2] <;> decide
      exact f m.1 m.2 (fun q => hm1.1 (by rw [q]; exact hc0)) (fun q => hm1.2 (by rw [q]; exact hc1)))
    exact ⟨by rw [e]; exact h9.1, by rw [e]; exact h9.2⟩
/-- how many values there are -/
theorem CI.valCount {a b : Nat} {G : LG} {o q L : Nat} {v : Int} (h : CI a b G) (ho : isVl o) (hq : gS G o 0 = (q : Int)) (hk : gK G q = (1, L)) (hv : 0 ≤ v ∧ v ≤ (L : Int)) (hL : L ≤ 8192) : CI a b (gset G o 4 v) := by
  have hco : cde o = 320 := by rcases ho with rfl | rfl <;> decide
  refine h.setH (Or.inr (Or.inr ⟨ho, rfl⟩)) (by rw [hco]; exact (show 0 ≤ v ∧ v ≤ 8192 by omega)) (h.2.2.1.cg (fun z hz => by funext y; exact gset_ne _ _ (fun e => by rcases hz with q | q | q; omega; omega; (rw [e.1, hco] at q; exact absurd q (by decide)))) rfl) (h.2.2.2.1.cg (by funext y; exact gset_ne _ _ (fun e => by omega)) rfl) ?_
  intro k hk9
  obtain ⟨p0, p1, p2, p3, L0, L1, L2, L3, B, ⟨⟨a0, a1, a2, a3⟩, w⟩, ⟨b0, b1, b2, b3⟩, ⟨c0, c1, c2, c3⟩, ⟨⟨d0, d1, d2, d3, d4⟩, e⟩, g, i, j⟩ := h.2.2.2.2.2.1 k hk9
  have f : ∀ z y, y ≠ 4 ∨ z ≠ o → gS (gset G o 4 v) z y = gS G z y := fun z y hz => gset_ne _ _ (fun q => by omega)
  have n0 : p0 ≠ o := fun q => by rw [q, hco] at b0; exact absurd b0 (by decide)
  have n1 : p1 ≠ o := fun q => by rw [q, hco] at b1; exact absurd b1 (by decide)
  have nA : k - 13 ≠ o := by omega
  have nB : k - 5 ≠ o := by omega
  refine ⟨p0, p1, p2, p3, L0, L1, L2, L3, B, by rw [f k _ (Or.inl (by decide)), f k _ (Or.inl (by decide)), f k _ (Or.inl (by decide)), f k _ (Or.inl (by decide))]; exact ⟨⟨a0, a1, a2, a3⟩, w⟩, ⟨b0, b1, b2, b3⟩, ⟨c0, c1, c2, c3⟩, ⟨⟨d0, d1, d2, d3, d4⟩, ?_⟩, fun t t0 t1 => by rw [f p1 _ (Or.inr n1), f p0 _ (Or.inr n0)]; exact g t t0 t1, fun s hs => by rw [f _ _ (Or.inr nA)]; exact i s hs, fun s hs => by rw [f _ _ (Or.inr nB)]; exact j s hs⟩
  by_cases hko : k = o
  · subst hko
    rw [gset_at]
    have e0 : p0 = q := by omega
    subst e0
    rw [hk] at c0
    have := congrArg Prod.snd c0
    dsimp only at this
    omega
  · rw [gset_ne _ _ (fun q => hko q.1)]; exact e
