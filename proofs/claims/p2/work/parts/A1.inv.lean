/-! THE CLASS: what holds between its calls -/
/-- cells of which more holds than their types -/
def spc (c : Nat) : Bool := c == 63 || c == 100 || c == 104 || c == 124 || c == 126 || c == 202 || c == 203 || c == 307 || c == 315 || c == 320 || c == 321 || c == 322 || c == 501 || c == 503 || c == 504 || c == 505 || c == 506 || c == 507 || c == 508 || c == 517 || c == 521 || c == 522 || c == 523 || c == 524 || c == 525 || c == 527 || c == 530
/-- rows that grow: no more in them than there is room -/
def E1 (G : LG) : Prop := ∀ x, (gK G x).1 ≠ 0 → (cde x = 124 ∨ cde x = 126) → ∃ q L : Nat, gS G x 0 = (q : Int) ∧ q % 1048576 = x % 1048576 + 1 ∧ gK G q = (1, L) ∧ 16 ≤ L ∧ gS G x 1 ≤ (L : Int)
/-- things: the chains go on to things that are there -/
def E2 (G : LG) : Prop := ∃ q L : Nat, gS G 327683 0 = (q : Int) ∧ cde q = 507 ∧ gK G q = (1, L) ∧ 320 ≤ L ∧ (L ≤ 810000 ∧ L % 5 = 0) ∧ 5 * gS G 327683 1 ≤ (L : Int) ∧ (∀ t : Int, 0 ≤ t → t < gS G 327683 1 → -1 ≤ gS G q (5 * t + 4).toNat ∧ gS G q (5 * t + 4).toNat < gS G 327683 1) ∧ ∀ h : Nat, h < 64 → gS G 327688 h < gS G 327683 1
/-- the stack of expressions' types -/
def E3 (G : LG) : Prop := ∃ q L : Nat, gS G 327684 3 = (q : Int) ∧ cde q = 510 ∧ gK G q = (1, L) ∧ 64 ≤ L ∧ L ≤ 2412 ∧ gS G 327684 4 ≤ (L : Int) ∧ (L ≤ 2412 ∨ L = 2412)
/-- the list of nodes -/
def E4 (G : LG) : Prop := ∃ q L : Nat, gS G 327685 1 = (q : Int) ∧ (cde q = 506 ∨ gS G 327685 2 = 0) ∧ gK G q = (7, L) ∧ gS G 327685 2 ≤ (L : Int) ∧ ∀ j : Nat, (j : Int) < gS G 327685 2 → gS G q j = ((65536 + 64 * j : Nat) : Int)
/-- values -/
def E5 (G : LG) : Prop := ∀ k, k = 196628 ∨ k = 196692 → ∃ q0 q1 q2 q3 L0 L1 L2 L3 B : Nat, ((gS G k 0 = (q0 : Int) ∧ gS G k 1 = (q1 : Int) ∧ gS G k 2 = (q2 : Int) ∧ gS G k 3 = (q3 : Int)) ∧ q0 % 1048576 = k + 1 ∧ q1 % 1048576 = k + 2 ∧ q2 % 1048576 = k + 3 ∧ q3 % 1048576 = k + 4) ∧ (cde q0 = 321 ∧ cde q1 = 322 ∧ cde q2 = 323 ∧ cde q3 = 324) ∧ (gK G q0 = (1, L0) ∧ gK G q1 = (1, L1) ∧ gK G q2 = (3, L2) ∧ gK G q3 = (1, L3)) ∧ ((32 ≤ B ∧ B = L0 ∧ B = L1 ∧ B = L2 ∧ B = L3) ∧ gS G k 4 ≤ (B : Int)) ∧ (∀ t : Int, 0 ≤ t → t < (B : Int) → -1 ≤ gS G q1 t.toNat ∧ (gS G q1 t.toNat ≠ -1 → (0 ≤ gS G q0 t.toNat ∧ gS G q0 t.toNat < (B : Int)) ∧ gS G q1 t.toNat < (B : Int))) ∧ (∀ s : Nat, s < 240 → gS G (k - 13) s < (B : Int)) ∧ ∀ s : Nat, s < 10 → gS G (k - 5) s < (B : Int)
/-- expressions -/
def E6 (G : LG) : Prop := ∀ e : Int, 0 ≤ e → e < gS G 327681 12 → (gS G 327701 e.toNat = 6 → 0 ≤ gS G 327702 e.toNat ∧ gS G 327702 e.toNat ≤ 9) ∧ (gS G 327701 e.toNat ≤ 4 → (0 ≤ gS G 327702 e.toNat ∧ gS G 327702 e.toNat < e) ∧ gS G 327703 e.toNat < e ∧ gS G 327704 e.toNat < e) ∧ (gS G 327701 e.toNat = 0 ∨ gS G 327701 e.toNat = 1 ∨ gS G 327701 e.toNat = 4 → 0 ≤ gS G 327703 e.toNat) ∧ (gS G 327701 e.toNat = 4 → 0 ≤ gS G 327704 e.toNat) ∧
  (5 ≤ gS G 327701 e.toNat → gS G 327703 e.toNat = -1 ∧ gS G 327704 e.toNat = -1 ∧ gS G 327705 e.toNat = 1) ∧ (gS G 327701 e.toNat ≤ 4 → gS G 327705 e.toNat = 1 + gS G 327705 (gS G 327702 e.toNat).toNat + (if gS G 327703 e.toNat < 0 then 0 else gS G 327705 (gS G 327703 e.toNat).toNat) + (if gS G 327704 e.toNat < 0 then 0 else gS G 327705 (gS G 327704 e.toNat).toNat)) ∧ (1 ≤ gS G 327705 e.toNat ∧ gS G 327705 e.toNat ≤ 12) ∧ (gS G 327707 e.toNat ≤ e ∧ gS G 327705 (gS G 327707 e.toNat).toNat = gS G 327705 e.toNat)
/-- versions: a value's expression is there -/
def E8 (G : LG) : Prop := (∀ j k : Nat, j < 40 → k < 10 → gS G (131072 + 64 * j + 2) k ≠ -2 → gS G (131072 + 64 * j + 3) k < gS G 327681 12 ∧ gS G (131072 + 64 * j + 2) k < gS G 327681 4) ∧ ∀ t : Int, 0 ≤ t → t < gS G 327681 4 → 1 ≤ gS G 327697 t.toNat
/-- how many parts a node has, by its kind -/
def npt (k : Int) : Nat := if k = 6 then 0 else if k = 4 ∨ k = 5 then 1 else if k = 3 then 3 else 2
/-- nodes -/
def E9 (G : LG) : Prop := ∀ i : Nat, (i : Int) < gS G 327685 2 → ∃ pa : Nat, gS G (65536 + 64 * i) 2 = (pa : Int) ∧ cde pa = 63 ∧ (i < 40 ∧ gK G (65536 + 64 * i) = (13, 0)) ∧ gK G pa = (6, npt (gS G (65536 + 64 * i) 1)) ∧ (∀ k : Nat, k < npt (gS G (65536 + 64 * i) 1) → ∃ p : Nat, p < i ∧ gS G pa k = ((65536 + 64 * p : Nat) : Int)) ∧ (gS G (65536 + 64 * i) 1 = 6 → (gS G (65536 + 64 * i) 3 ≤ 7 ∧ gS G (65536 + 64 * i) 3 < gS G 327681 15) ∧ gS G (65536 + 64 * i) 4 < gS G 327710 (gS G (65536 + 64 * i) 3).toNat ∧ 1 ≤ gS G 327710 (gS G (65536 + 64 * i) 3).toNat ∧ gS G 327710 (gS G (65536 + 64 * i) 3).toNat ≤ 5) ∧ (gS G (65536 + 64 * i) 1 = 4 → 0 ≤ gS G (65536 + 64 * i) 4)
/-- what is not there yet -/
def DD (G : LG) : Prop := (∀ x, 1 + gc G ≤ x / 1048576 → (gK G x).1 = 0) ∧ ∀ i d : Nat, gS G 327685 2 ≤ (i : Int) → i < 40 → d < 64 → (gK G (65536 + 64 * i + d)).1 = 0
/-- what holds rows that grow -/
def HL : List (Nat × Nat) := (List.range 40).flatMap (fun i => (List.range 16).map (fun p => (65540 + 64 * i, p)) ++ [(65560 + 64 * i, 0), (65562 + 64 * i, 0)]) ++ ((List.range 16).map (fun p => (68100, p)) ++ [(68184, 0), (196628, 0), (196628, 1), (196628, 2), (196628, 3), (196692, 0), (196692, 1), (196692, 2), (196692, 3), (327683, 0), (327684, 3)])
def ln (G : LG) (h : Nat × Nat) : Nat := if (gK G h.1).1 = 0 then 0 else if gS G h.1 h.2 < 0 then 0 else if (gK G (gS G h.1 h.2).toNat).1 = 0 then 0 else (gK G (gS G h.1 h.2).toNat).2
/-- what a row of a length has cost at most: slots, cells (the stack of types ends at 2412) -/
def wS (h : Nat × Nat) (n : Nat) : Nat := 2 * n + (if h.1 = 327684 ∧ 2412 ≤ n then 4000 else 0)
def wC (h : Nat × Nat) (n : Nat) : Nat := Nat.log2 n + (if h.1 = 327684 ∧ 2412 ≤ n then 1 else 0)
def Sm (f : Nat × Nat → Nat → Nat) (G : LG) : Nat := (HL.map (fun h => f h (ln G h))).sum
/-- the room: what has grown has doubled -/
def AC (a b : Nat) (G : LG) : Prop := gs G ≤ a + Sm wS G ∧ gc G ≤ b + Sm wC G
def RLC (a b : Nat) (G : LG) : Prop := E1 G ∧ E2 G ∧ E3 G ∧ E4 G ∧ E5 G ∧ E6 G ∧ E8 G ∧ E9 G ∧ DD G ∧ AC a b G
def CI (a b : Nat) (G : LG) : Prop := TI G ∧ RLC a b G
def incr : List (Nat × Nat) → Bool
  | a :: b :: t => decide (16 * a.1 + a.2 < 16 * b.1 + b.2) && incr (b :: t)
  | _ => true
theorem incr_lt : ∀ (t : List (Nat × Nat)) (a : Nat × Nat), incr (a :: t) = true → ∀ x ∈ t, 16 * a.1 + a.2 < 16 * x.1 + x.2 := by
  intro t
  induction t with
  | nil => intro a _ x hx; exact absurd hx List.not_mem_nil
  | cons b t ih =>
    intro a h x hx
    unfold incr at h
    rw [Bool.and_eq_true, decide_eq_true_eq] at h
    rcases List.mem_cons.mp hx with rfl | hx
    · exact h.1
    · exact Nat.lt_trans h.1 (ih b h.2 x hx)
theorem incr_nd : ∀ (l : List (Nat × Nat)), incr l = true → l.Nodup := by
  intro l
  induction l with
  | nil => intro _; exact List.nodup_nil
  | cons a t ih =>
    intro h
    refine List.nodup_cons.mpr ⟨fun hm => absurd (incr_lt t a h a hm) (Nat.lt_irrefl _), ih ?_⟩
    match t, h with
    | [], _ => rfl
    | b :: t, h => unfold incr at h; rw [Bool.and_eq_true] at h; exact h.2
theorem HL_nd : HL.Nodup := incr_nd _ (by decide +kernel)
theorem HL_sp : ∀ h ∈ HL, spc (cde h.1) = true := by decide +kernel
theorem spc_n {n m : Nat} (h : spc (cde n) = false) (hm : spc (cde m) = true) : m ≠ n := fun q => by rw [q, h] at hm; exact absurd hm (by decide)
/-- the same but for cells of which no more holds, or that hold rows of faces -/
theorem RLC.frA {a b a' b' : Nat} {G G' : LG} (h : RLC a b G) (hS9 : ∀ x, spc (cde x) = true → cde x ≠ 104 → gS G' x = gS G x) (hK : gK G' = gK G) (hc : gc G' = gc G) (hA : AC a' b' G') : RLC a' b' G' := by
  have hS : ∀ x, (spc (cde x) && (cde x != 104)) = true → gS G' x = gS G x := fun x hx => by
    rw [Bool.and_eq_true, bne_iff_ne] at hx
    exact hS9 x hx.1 hx.2
  obtain ⟨h1, h2, h3, h4, h5, h6, h8, h9, hd, ha⟩ := h
  have s1 : ∀ x, cde x = 124 ∨ cde x = 126 → gS G' x = gS G x := fun x hx => hS x (by rcases hx with q | q <;> rw [q] <;> rfl)
  have s2 := hS 327683 (by decide)
  have s3 := hS 327684 (by decide)
  have s4 := hS 327685 (by decide)
  have s5 := hS 327681 (by decide)
  have s6 := hS 327688 (by decide)
  have s7 := hS 327701 (by decide)
  have s8 := hS 327702 (by decide)
  have s9 := hS 327703 (by decide)
  have s10 := hS 327704 (by decide)
  have s11 := hS 327705 (by decide)
  have s12 := hS 327707 (by decide)
  have s13 := hS 327710 (by decide)
  refine ⟨fun x hx hx2 => ?_, ?_, ?_, ?_, fun k hk => ?_, ?_, ⟨fun j k hj hk => ?_, ?_⟩, fun i hi => ?_, ?_, ?_⟩
  · rw [hK] at hx
    rw [s1 x hx2, hK]; exact h1 x hx hx2
  · obtain ⟨q, L, a1, a2, a3⟩ := h2
    have sq := hS q (by rw [a2]; rfl)
    refine ⟨q, L, ?_⟩
    rw [s2, s6, sq, hK]; exact ⟨a1, a2, a3⟩
  · obtain ⟨q, L, a1⟩ := h3
    refine ⟨q, L, ?_⟩
    rw [s3, hK]; exact a1
  · obtain ⟨q, L, a1, a2, a3, a4, a5⟩ := h4
    refine ⟨q, L, ?_⟩
    rw [s4, hK]
    refine ⟨a1, a2, a3, a4, fun j hj => ?_⟩
    rcases a2 with a2 | a2
    · rw [hS q (by rw [a2]; rfl)]; exact a5 j hj
    · omega
  · obtain ⟨q0, q1, q2, q3, L0, L1, L2, L3, B, a1, a2, a3⟩ := h5 k hk
    have sk := hS k (by rcases hk with rfl | rfl <;> decide)
    have sA := hS (k - 13) (by rcases hk with rfl | rfl <;> decide)
    have sB := hS (k - 5) (by rcases hk with rfl | rfl <;> decide)
    have t0 := hS q0 (by rw [a2.1]; rfl)
    have t1 := hS q1 (by rw [a2.2.1]; rfl)
    refine ⟨q0, q1, q2, q3, L0, L1, L2, L3, B, ?_⟩
    rw [sk, t0, t1, sA, sB, hK]; exact ⟨a1, a2, a3⟩
  · unfold E6
    rw [s5, s7, s8, s9, s10, s11, s12]; exact h6
  · rw [hS (131072 + 64 * j + 2) (by rw [cde_v (by omega) (by omega), show (131072 + 64 * j + 2) % 64 = 2 by omega]; rfl), hS (131072 + 64 * j + 3) (by rw [cde_v (by omega) (by omega), show (131072 + 64 * j + 3) % 64 = 3 by omega]; rfl), s5]
    exact h8.1 j k hj hk
  · rw [s5, hS 327697 (by decide)]; exact h8.2
  · have hi0 : (i : Int) < gS G 327685 2 := by rw [s4] at hi; exact hi
    obtain ⟨pa, a1, a2, a3⟩ := h9 i hi0
    have hi4 : cde (65536 + 64 * i) = 100 := by
      have h9 := a3.1.1
      rw [cde_n (by omega) (by omega)]; omega
    have so := hS (65536 + 64 * i) (by rw [hi4]; rfl)
    have sp := hS pa (by rw [a2]; rfl)
    refine ⟨pa, ?_⟩
    rw [so, sp, hK, s5, s13]; exact ⟨a1, a2, a3⟩
  · unfold DD
    rw [hK, hc, s4]; exact hd
  · exact hA
/-- .. or that hold rows that grow -/
theorem RLC.frB {a b a' b' : Nat} {G G' : LG} (h : RLC a b G) (hS9 : ∀ x, spc (cde x) = true → cde x ≠ 104 → cde x ≠ 124 → cde x ≠ 126 → gS G' x = gS G x) (hE1 : E1 G') (hK : gK G' = gK G) (hc : gc G' = gc G) (hA : AC a' b' G') : RLC a' b' G' := by
  have hS : ∀ x, (spc (cde x) && (cde x != 104) && (cde x != 124) && (cde x != 126)) = true → gS G' x = gS G x := fun x hx => by
    rw [Bool.and_eq_true, Bool.and_eq_true, Bool.and_eq_true, bne_iff_ne, bne_iff_ne, bne_iff_ne] at hx
    exact hS9 x hx.1.1.1 hx.1.1.2 hx.1.2 hx.2
  obtain ⟨h1, h2, h3, h4, h5, h6, h8, h9, hd, ha⟩ := h
  have s2 := hS 327683 (by decide)
  have s3 := hS 327684 (by decide)
  have s4 := hS 327685 (by decide)
  have s5 := hS 327681 (by decide)
  have s6 := hS 327688 (by decide)
  have s7 := hS 327701 (by decide)
  have s8 := hS 327702 (by decide)
  have s9 := hS 327703 (by decide)
  have s10 := hS 327704 (by decide)
  have s11 := hS 327705 (by decide)
  have s12 := hS 327707 (by decide)
  have s13 := hS 327710 (by decide)
  refine ⟨hE1, ?_, ?_, ?_, fun k hk => ?_, ?_, ⟨fun j k hj hk => ?_, ?_⟩, fun i hi => ?_, ?_, ?_⟩
  · obtain ⟨q, L, a1, a2, a3⟩ := h2
    have sq := hS q (by rw [a2]; rfl)
    refine ⟨q, L, ?_⟩
    rw [s2, s6, sq, hK]; exact ⟨a1, a2, a3⟩
  · obtain ⟨q, L, a1⟩ := h3
    refine ⟨q, L, ?_⟩
    rw [s3, hK]; exact a1
  · obtain ⟨q, L, a1, a2, a3, a4, a5⟩ := h4
    refine ⟨q, L, ?_⟩
    rw [s4, hK]
    refine ⟨a1, a2, a3, a4, fun j hj => ?_⟩
    rcases a2 with a2 | a2
    · rw [hS q (by rw [a2]; rfl)]; exact a5 j hj
    · omega
  · obtain ⟨q0, q1, q2, q3, L0, L1, L2, L3, B, a1, a2, a3⟩ := h5 k hk
    have sk := hS k (by rcases hk with rfl | rfl <;> decide)
    have sA := hS (k - 13) (by rcases hk with rfl | rfl <;> decide)
    have sB := hS (k - 5) (by rcases hk with rfl | rfl <;> decide)
    have t0 := hS q0 (by rw [a2.1]; rfl)
    have t1 := hS q1 (by rw [a2.2.1]; rfl)
    refine ⟨q0, q1, q2, q3, L0, L1, L2, L3, B, ?_⟩
    rw [sk, t0, t1, sA, sB, hK]; exact ⟨a1, a2, a3⟩
  · unfold E6
    rw [s5, s7, s8, s9, s10, s11, s12]; exact h6
  · rw [hS (131072 + 64 * j + 2) (by rw [cde_v (by omega) (by omega), show (131072 + 64 * j + 2) % 64 = 2 by omega]; rfl), hS (131072 + 64 * j + 3) (by rw [cde_v (by omega) (by omega), show (131072 + 64 * j + 3) % 64 = 3 by omega]; rfl), s5]
    exact h8.1 j k hj hk
  · rw [s5, hS 327697 (by decide)]; exact h8.2
  · have hi0 : (i : Int) < gS G 327685 2 := by rw [s4] at hi; exact hi
    obtain ⟨pa, a1, a2, a3⟩ := h9 i hi0
    have hi4 : cde (65536 + 64 * i) = 100 := by
      have h9 := a3.1.1
      rw [cde_n (by omega) (by omega)]; omega
    have so := hS (65536 + 64 * i) (by rw [hi4]; rfl)
    have sp := hS pa (by rw [a2]; rfl)
    refine ⟨pa, ?_⟩
    rw [so, sp, hK, s5, s13]; exact ⟨a1, a2, a3⟩
  · unfold DD
    rw [hK, hc, s4]; exact hd
  · exact hA
/-- the same but for cells of which no more holds -/
theorem RLC.fr {a b : Nat} {G G' : LG} (h : RLC a b G) (hS : ∀ x, spc (cde x) = true → gS G' x = gS G x) (hK : gK G' = gK G) (hc : gc G' = gc G) (hs : gs G' = gs G) : RLC a b G' := by
  have ha := h.2.2.2.2.2.2.2.2.2
  refine h.frA (fun x h1 _ => hS x h1) hK hc ?_
  have e : ∀ f, Sm f G' = Sm f G := fun f => by
    unfold Sm
    congr 1
    refine List.map_congr_left (fun h hh => ?_)
    unfold ln
    rw [hK, hS h.1 (HL_sp h hh)]
  unfold AC
  rw [hc, hs, e, e]; exact ha
theorem CI.set {a b : Nat} {G : LG} {n j : Nat} {v : Int} (h : CI a b G) (hs : spc (cde n) = false) (hv : tv (cde n) (n % 1048576) j v) : CI a b (gset G n j v) :=
  ⟨h.1.set hv, h.2.fr (fun x hx => by funext y; exact gset_ne _ _ (fun q => spc_n hs hx q.1)) rfl rfl rfl⟩
theorem CI.cpy {a b : Nat} {G : LG} {x i y j n : Nat} (h : CI a b G) (hs : spc (cde y) = false) (hv : ∀ z, j ≤ z → z < j + n → tv (cde y) (y % 1048576) z (gS G x (i + (z - j)))) : CI a b (gcpy G x i y j n) :=
  ⟨h.1.cpy hv, h.2.fr (fun z hz => gcpy_ne _ (spc_n hs hz)) rfl rfl rfl⟩
theorem sum_one {l : List (Nat × Nat)} (hl : l.Nodup) {u w : Nat × Nat → Nat} {m : Nat × Nat} (hm : m ∈ l) (h : ∀ x ∈ l, x ≠ m → u x = w x) : (l.map u).sum + w m = (l.map w).sum + u m := by
  induction l with
  | nil => exact absurd hm List.not_mem_nil
  | cons a l ih =>
    rw [List.map_cons, List.map_cons, List.sum_cons, List.sum_cons]
    obtain ⟨hn, hd⟩ := List.nodup_cons.mp hl
    by_cases e : a = m
    · subst e
      have h9 : l.map u = l.map w := List.map_congr_left (fun x hx => h x (List.mem_cons_of_mem _ hx) (fun q => hn (by rw [← q]; exact hx)))
      rw [h9]; omega
    · have h9 := ih hd ((List.mem_cons.mp hm).resolve_left (fun q => e q.symm)) (fun x hx => h x (List.mem_cons_of_mem _ hx))
      have h8 := h a List.mem_cons_self e
      omega
theorem sum_le {l : List (Nat × Nat)} {u w : Nat × Nat → Nat} (h : ∀ x ∈ l, u x ≤ w x) : (l.map u).sum ≤ (l.map w).sum := by
  induction l with
  | nil => exact Nat.le_refl _
  | cons a l ih =>
    rw [List.map_cons, List.map_cons, List.sum_cons, List.sum_cons]
    have h1 := h a List.mem_cons_self
    have h2 := ih (fun x hx => h x (List.mem_cons_of_mem _ hx))
    omega
theorem sum_one_le {l : List (Nat × Nat)} (hl : l.Nodup) {u w : Nat × Nat → Nat} {m : Nat × Nat} (hm : m ∈ l) (h : ∀ x ∈ l, x ≠ m → u x ≤ w x) : (l.map u).sum + w m ≤ (l.map w).sum + u m := by
  induction l with
  | nil => exact absurd hm List.not_mem_nil
  | cons a l ih =>
    rw [List.map_cons, List.map_cons, List.sum_cons, List.sum_cons]
    obtain ⟨hn, hd⟩ := List.nodup_cons.mp hl
    by_cases e : a = m
    · subst e
      have h9 : (l.map u).sum ≤ (l.map w).sum :=
         sum_le (fun x hx => h x (List.mem_cons_of_mem _ hx) (fun q => hn (by rw [← q]; exact hx)))
      omega
    · have h9 := ih hd ((List.mem_cons.mp hm).resolve_left (fun q => e q.symm)) (fun x hx => h x (List.mem_cons_of_mem _ hx))
      have h8 := h a List.mem_cons_self e
      omega
/-- the most that what is held may grow to -/
def cpp (h : Nat × Nat) : Nat := match cde h.1 with
  | 104 => 400
  | 124 => 19622
  | 126 => 6540
  | 503 => 810000
  | 504 => 2412
  | _ => 8192
