/-! LONGS: compared, and as sets of bits -/
section LONGS
variable {K : KD} {X : CX} {pc : Nat} {lv : List (Option LV)} {st : List LV} {G : LG}
theorem s_lcmp {x y : Int} (hdg : decode K.2.1 pc = .ok (.lcmp, 1)) (kk : ∀ z : Int, inR z → (z = -1 ∨ z = 0 ∨ z = 1) → (z = 0 ↔ x = y) → (0 < z ↔ y < x) → WP K X (pc + 1) lv ((0, z) :: st) G) : WP K X pc lv ((1, y) :: (1, x) :: st) G := by
  obtain ⟨p, l, e, R, s, m, args, below, meth, c, D, dT, ad0, G0, Q, base, sbase⟩ := X
  intro ho ad H locs ls hd he hs hl o1 o2
  have hy := okv_L (okv_h o2)
  have hx := okv_L (okv_h (okv_t o2))
  have h1 : (Int64.ofInt y < Int64.ofInt x) ↔ y < x := L_lt hy hx
  have h2 : (Int64.ofInt x = Int64.ofInt y) ↔ x = y := L_inj hx hy
  have hz : ∃ z : Int, inR z ∧ (z = -1 ∨ z = 0 ∨ z = 1) ∧ (z = 0 ↔ x = y) ∧ (0 < z ↔ y < x) ∧ Int32.ofInt z = lg_cmp (Int64.ofInt x) (Int64.ofInt y) := by
    unfold lg_cmp
    by_cases q1 : y < x
    · exact ⟨1, by omega, by omega, by omega, by omega, by rw [if_pos (h1.mpr q1)]; rfl⟩
    · by_cases q2 : x = y
      · exact ⟨0, by omega, by omega, by omega, by omega, by rw [if_neg (fun z => q1 (h1.mp z)), if_pos (h2.mpr q2)]; rfl⟩
      · exact ⟨-1, by omega, by omega, by omega, by omega, by rw [if_neg (fun z => q1 (h1.mp z)), if_neg (fun z => q2 (h2.mp z))]; rfl⟩
  obtain ⟨z, z1, z2, z3, z4, z5⟩ := hz
  have k9 := kk z z1 z2 z3 z4 ho ad H locs ls hd he hs hl o1 (okv_c (okv_i z1) (okv_t (okv_t o2)))
  have e9 : rv ad (0, z) = .int (lg_cmp (Int64.ofInt x) (Int64.ofInt y)) := congrArg Value.int z5
  rw [List.map_cons, e9] at k9
  exact W.lcmp ho.1 ho.2.1 hdg k9
end LONGS
def bitL (s k : Int) : Prop := l_and (l_shr s k) 1 = 1
theorem l_and63 {k : Int} (h0 : 0 ≤ k) (h1 : k < 64) : ((Int32.ofInt k).toInt64 &&& 63) = Int64.ofInt k := by
  have h : ∀ n : Fin 64, ((Int32.ofInt (n.val : Int)).toInt64 &&& 63) = Int64.ofInt (n.val : Int) := by decide
  have e : k = (((⟨k.toNat, by omega⟩ : Fin 64).val : Nat) : Int) := by show k = ((k.toNat : Nat) : Int); omega
  rw [e]
  exact h _
theorem l_smod {k : Int} (h0 : 0 ≤ k) (h1 : k < 64) : ((Int64.ofInt k).toBitVec.smod 64).toNat = k.toNat := by
  have h : ∀ n : Fin 64, ((Int64.ofInt (n.val : Int)).toBitVec.smod 64).toNat = n.val := by decide
  have e : k = (((⟨k.toNat, by omega⟩ : Fin 64).val : Nat) : Int) := by show k = ((k.toNat : Nat) : Int); omega
  have h2 := h ⟨k.toNat, by omega⟩
  rw [← e] at h2
  exact h2
def btL (s k : Int) : Bool := (Int64.ofInt s).toBitVec.getLsbD k.toNat
theorem bitL_iff {s k : Int} (h0 : 0 ≤ k) (h1 : k < 64) : bitL s k ↔ btL s k = true := by
  unfold bitL l_and l_shr btL
  rw [L_of, l_and63 h0 h1]
  have e1 : (Int64.ofInt s >>> Int64.ofInt k &&& Int64.ofInt 1).toInt = 1 ↔ (Int64.ofInt s >>> Int64.ofInt k &&& Int64.ofInt 1).toBitVec = 1#64 := by
    constructor
    · intro h
      have h2 : (Int64.ofInt s >>> Int64.ofInt k &&& Int64.ofInt 1) = 1 := Int64.toInt_inj.mp h
      rw [h2]; rfl
    · intro h
      have h2 : (Int64.ofInt s >>> Int64.ofInt k &&& Int64.ofInt 1) = 1 := Int64.toBitVec_inj.mp h
      rw [h2]; rfl
  rw [e1, Int64.toBitVec_and, Int64.toBitVec_shiftRight]
  have e2 : (Int64.ofInt 1).toBitVec = 1#64 := rfl
  rw [e2, BitVec.and_one_eq_setWidth_ofBool_getLsbD, BitVec.sshiftRight_eq']
  rw [l_smod h0 h1, BitVec.getLsbD_sshiftRight]
  simp only [Nat.add_zero]
  have hk : k.toNat < 64 := by omega
  simp only [hk, if_true]
  cases hb : (Int64.ofInt s).toBitVec.getLsbD k.toNat <;> simp
theorem btL_or {a b k : Int} : btL (l_or a b) k = (btL a k || btL b k) := by unfold btL l_or; rw [L_of, Int64.toBitVec_or, BitVec.getLsbD_or]
theorem btL_shl {j k : Int} (h0 : 0 ≤ j) (h1 : j < 64) (k0 : 0 ≤ k) (k1 : k < 64) : btL (l_shl 1 j) k = true ↔ k = j := by
  unfold btL l_shl
  rw [L_of, l_and63 h0 h1, Int64.toBitVec_shiftLeft, BitVec.shiftLeft_eq', l_smod h0 h1, BitVec.getLsbD_shiftLeft]
  have e : (Int64.ofInt 1).toBitVec = 1#64 := rfl
  rw [e, BitVec.getLsbD_one]
  simp only [Bool.and_eq_true, decide_eq_true_eq, Bool.not_eq_true', decide_eq_false_iff_not]
  omega
theorem bitL_or {a b k : Int} (h0 : 0 ≤ k) (h1 : k < 64) : bitL (l_or a b) k ↔ bitL a k ∨ bitL b k := by rw [bitL_iff h0 h1, bitL_iff h0 h1, bitL_iff h0 h1, btL_or, Bool.or_eq_true]
theorem bitL_shl {j k : Int} (h0 : 0 ≤ j) (h1 : j < 64) (k0 : 0 ≤ k) (k1 : k < 64) : bitL (l_shl 1 j) k ↔ k = j := by rw [bitL_iff k0 k1, btL_shl h0 h1 k0 k1]
/-! THE NODES OF WHICH SOME ARE MADE -/
/-- a is the set u with all parts -/
def RCH (G : LG) (u a : Int) : Prop := (∀ m : Int, 0 ≤ m → m < 64 → bitL u m → bitL a m) ∧ (∀ m : Int, 0 ≤ m → m < (gS G 1000 18) → bitL a m → ∀ k : Int, 0 ≤ k → k < nMany G m → bitL a (nPart G m k)) ∧
  ∀ S : Int → Prop, (∀ m : Int, 0 ≤ m → m < 64 → bitL u m → S m) → (∀ m : Int, 0 ≤ m → m < (gS G 1000 18) → S m → ∀ k : Int, 0 ≤ k → k < nMany G m → S (nPart G m k)) → ∀ m : Int, 0 ≤ m → m < 64 → bitL a m → S m
def RC1 (G : LG) (u a : Int) : Prop := (∀ m : Int, 0 ≤ m → m < 64 → bitL u m → bitL a m) ∧ ∀ S : Int → Prop, (∀ m : Int, 0 ≤ m → m < 64 → bitL u m → S m) → (∀ m : Int, 0 ≤ m → m < (gS G 1000 18) → S m → ∀ k : Int, 0 ≤ k → k < nMany G m → S (nPart G m k)) → ∀ m : Int, 0 ≤ m → m < 64 → bitL a m → S m
theorem RC1.add {G : LG} {u a n k : Int} (h : RC1 G u a) (hN : ND G) (hn : 0 ≤ n ∧ n < (gS G 1000 18)) (hb : bitL a n) (hk : 0 ≤ k ∧ k < nMany G n) : RC1 G u (l_or a (l_shl 1 (nPart G n k))) := by
  have hp := hN.part hn.1 hn.2 hk.1 hk.2
  have h4 := hN.1
  refine ⟨fun m m0 m1 q => (bitL_or m0 m1).mpr (Or.inl (h.1 m m0 m1 q)), fun S s1 s2 m m0 m1 q => ?_⟩
  rcases (bitL_or m0 m1).mp q with q | q
  · exact h.2 S s1 s2 m m0 m1 q
  · rw [(bitL_shl (by omega) (by omega) m0 m1).mp q]
    exact s2 n hn.1 hn.2 (h.2 S s1 s2 n hn.1 (by omega) hb) k hk.1 hk.2
/-- the parts of those above n are in it -/
def RC2 (G : LG) (a n : Int) : Prop := ∀ m : Int, n < m → m < (gS G 1000 18) → bitL a m → ∀ k : Int, 0 ≤ k → k < nMany G m → bitL a (nPart G m k)
theorem RC2.add {G : LG} {a n k : Int} (h : RC2 G a n) (hN : ND G) (hn : 0 ≤ n ∧ n < (gS G 1000 18)) (hk : 0 ≤ k ∧ k < nMany G n) : RC2 G (l_or a (l_shl 1 (nPart G n k))) n := by
  have hp := hN.part hn.1 hn.2 hk.1 hk.2
  have h4 := hN.1
  intro m m0 m1 q i i0 i1
  have hq := hN.part (n := m) (by omega) m1 i0 i1
  rcases (bitL_or (by omega) (by omega)).mp q with q | q
  · exact (bitL_or (by omega) (by omega)).mpr (Or.inl (h m m0 m1 q i i0 i1))
  · have := (bitL_shl (by omega) (by omega) (by omega) (by omega)).mp q
    omega
theorem bitL_addn {G : LG} {a n k : Int} (hN : ND G) (hn : 0 ≤ n ∧ n < (gS G 1000 18)) (hk : 0 ≤ k ∧ k < nMany G n) {m : Int} (m0 : 0 ≤ m) (m1 : m < 64) : bitL (l_or a (l_shl 1 (nPart G n k))) m ↔ bitL a m ∨ m = nPart G n k := by
  have hp := hN.part hn.1 hn.2 hk.1 hk.2
  have h4 := hN.1
  rw [bitL_or m0 m1, bitL_shl (by omega) (by omega) m0 m1]
