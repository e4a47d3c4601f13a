/-! BITS -/
theorem k_and31 {k : Int} (h0 : 0 ≤ k) (h1 : k < 32) : (Int32.ofInt k &&& 31) = Int32.ofInt k := by
  have h : ∀ n : Fin 32, (Int32.ofInt (n.val : Int) &&& 31) = Int32.ofInt (n.val : Int) := by decide
  have e : k = (((⟨k.toNat, by omega⟩ : Fin 32).val : Nat) : Int) := by show k = ((k.toNat : Nat) : Int); omega
  rw [e]
  exact h _
theorem k_smod {k : Int} (h0 : 0 ≤ k) (h1 : k < 32) : ((Int32.ofInt k).toBitVec.smod 32).toNat = k.toNat := by
  have h : ∀ n : Fin 32, ((Int32.ofInt (n.val : Int)).toBitVec.smod 32).toNat = n.val := by decide
  have e : k = (((⟨k.toNat, by omega⟩ : Fin 32).val : Nat) : Int) := by show k = ((k.toNat : Nat) : Int); omega
  have h2 := h ⟨k.toNat, by omega⟩
  rw [← e] at h2
  exact h2
def bt (s k : Int) : Bool := (Int32.ofInt s).toBitVec.getLsbD k.toNat
theorem bitI_iff {s k : Int} (h0 : 0 ≤ k) (h1 : k < 32) : bitI s k ↔ bt s k = true := by
  unfold bitI i_and i_shr bt
  rw [I_of, k_and31 h0 h1]
  have e1 : (Int32.ofInt s >>> Int32.ofInt k &&& Int32.ofInt 1).toInt = 1 ↔ (Int32.ofInt s >>> Int32.ofInt k &&& Int32.ofInt 1).toBitVec = 1#32 := by
    constructor
    · intro h
      have h2 : (Int32.ofInt s >>> Int32.ofInt k &&& Int32.ofInt 1) = 1 := Int32.toInt_inj.mp h
      rw [h2]; rfl
    · intro h
      have h2 : (Int32.ofInt s >>> Int32.ofInt k &&& Int32.ofInt 1) = 1 := Int32.toBitVec_inj.mp h
      rw [h2]; rfl
  rw [e1, Int32.toBitVec_and, Int32.toBitVec_shiftRight]
  have e2 : (Int32.ofInt 1).toBitVec = 1#32 := rfl
  rw [e2, BitVec.and_one_eq_setWidth_ofBool_getLsbD, BitVec.sshiftRight_eq'] 
  rw [k_smod h0 h1, BitVec.getLsbD_sshiftRight]
  have e3 : (Int32.ofInt s).toBitVec.getLsbD (k.toNat + 0) = (Int32.ofInt s).toBitVec.getLsbD k.toNat := by rw [Nat.add_zero]
  simp only [Nat.add_zero]
  have hk : k.toNat < 32 := by omega
  simp only [hk, if_true]
  cases hb : (Int32.ofInt s).toBitVec.getLsbD k.toNat <;> simp
theorem bt_or {a b k : Int} : bt (i_or a b) k = (bt a k || bt b k) := by unfold bt i_or; rw [I_of, Int32.toBitVec_or, BitVec.getLsbD_or]
theorem bt_and {a b k : Int} : bt (i_and a b) k = (bt a k && bt b k) := by unfold bt i_and; rw [I_of, Int32.toBitVec_and, BitVec.getLsbD_and]
theorem bt_not {a k : Int} (h0 : 0 ≤ k) (h1 : k < 32) : bt (i_xor a (-1)) k = !bt a k := by
  unfold bt i_xor
  rw [I_of, Int32.toBitVec_xor, BitVec.getLsbD_xor]
  have e : (Int32.ofInt (-1)).toBitVec = BitVec.allOnes 32 := by decide
  rw [e, BitVec.getLsbD_allOnes]
  have hk : k.toNat < 32 := by omega
  simp [hk]
theorem bt_0 {k : Int} : bt 0 k = false := by unfold bt; simp
theorem bt_shl {j k : Int} (h0 : 0 ≤ j) (h1 : j < 32) (k0 : 0 ≤ k) (k1 : k < 32) : bt (i_shl 1 j) k = true ↔ k = j := by
  unfold bt i_shl
  rw [I_of, k_and31 h0 h1, Int32.toBitVec_shiftLeft, BitVec.shiftLeft_eq', k_smod h0 h1, BitVec.getLsbD_shiftLeft]
  have e : (Int32.ofInt 1).toBitVec = 1#32 := rfl
  rw [e, BitVec.getLsbD_one]
  simp only [Bool.and_eq_true, decide_eq_true_eq, Bool.not_eq_true', decide_eq_false_iff_not]
  omega
theorem bt_zero {a : Int} (h : a = 0) (k : Int) : bt a k = false := by rw [h]; exact bt_0
theorem bitI_or {a b k : Int} (h0 : 0 ≤ k) (h1 : k < 32) : bitI (i_or a b) k ↔ bitI a k ∨ bitI b k := by rw [bitI_iff h0 h1, bitI_iff h0 h1, bitI_iff h0 h1, bt_or, Bool.or_eq_true]
theorem bitI_and {a b k : Int} (h0 : 0 ≤ k) (h1 : k < 32) : bitI (i_and a b) k ↔ bitI a k ∧ bitI b k := by rw [bitI_iff h0 h1, bitI_iff h0 h1, bitI_iff h0 h1, bt_and, Bool.and_eq_true]
theorem bitI_shl {j k : Int} (h0 : 0 ≤ j) (h1 : j < 32) (k0 : 0 ≤ k) (k1 : k < 32) : bitI (i_shl 1 j) k ↔ k = j := by rw [bitI_iff k0 k1, bt_shl h0 h1 k0 k1]
theorem bitI_0 {k : Int} (h0 : 0 ≤ k) (h1 : k < 32) : ¬ bitI 0 k := by rw [bitI_iff h0 h1, bt_0]; decide
/-- what is in a, but not in b, is nothing: all of a is in b -/
theorem bitI_sub {a b k : Int} (h : i_and a (i_xor b (-1)) = 0) (h0 : 0 ≤ k) (h1 : k < 32) (ha : bitI a k) : bitI b k := by
  rw [bitI_iff h0 h1] at ha ⊢
  have h9 := bt_zero h k
  rw [bt_and, bt_not h0 h1, ha, Bool.true_and] at h9
  simpa using h9
theorem bitI_ext {a : Int} (hr : inR a) (h : ∀ k : Int, 0 ≤ k → k < 32 → ¬ bitI a k) : a = 0 := by
  have e : (Int32.ofInt a) = 0 := by
    apply Int32.toBitVec_inj.mp
    apply BitVec.eq_of_getLsbD_eq
    intro i hi
    have h1 := h (i : Int) (by omega) (by omega)
    rw [bitI_iff (by omega) (by omega)] at h1
    unfold bt at h1
    simp only [Int.toNat_natCast, Bool.not_eq_true] at h1
    rw [h1]
    simp
  have e2 := congrArg Int32.toInt e
  rw [I_toInt hr] at e2
  exact e2
theorem bitI_nsub {a b : Int} (h : ¬ i_and a (i_xor b (-1)) = 0) : ∃ k : Int, (0 ≤ k ∧ k < 32) ∧ bitI a k ∧ ¬ bitI b k := by
  refine Classical.byContradiction fun q => h (bitI_ext (inR_toInt _) (fun k k0 k1 hk => q ⟨k, ⟨k0, k1⟩, ?_⟩))
  rw [bitI_iff k0 k1] at hk
  rw [bt_and, bt_not k0 k1] at hk
  rw [bitI_iff k0 k1, bitI_iff k0 k1]
  simpa using hk
