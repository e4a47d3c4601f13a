/-! what a fresh object answers: the number of the exception, by the order of the law's catches; 0 for an answer, which is 0 then -/
def sp_type (k f : Int32) : Int32 := if k < 0 ∨ 2 < k then 1 else if k = 2 ∧ (f < 0 ∨ 5 < f) then 1 else if k = 1 then 2 else 0
theorem sp_type_a {k f : Int32} (h : k < 0 ∨ 2 < k) : sp_type k f = 1 := if_pos h
theorem sp_type_b {k f : Int32} (h : ¬ (k < 0 ∨ 2 < k)) (h2 : k = 2 ∧ (f < 0 ∨ 5 < f)) : sp_type k f = 1 := (if_neg h).trans (if_pos h2)
theorem sp_type_c {k f : Int32} (h : ¬ (k < 0 ∨ 2 < k)) (h2 : ¬ (k = 2 ∧ (f < 0 ∨ 5 < f))) (h3 : k = 1) : sp_type k f = 2 := (if_neg h).trans ((if_neg h2).trans (if_pos h3))
theorem sp_type_d {k f : Int32} (h : ¬ (k < 0 ∨ 2 < k)) (h2 : ¬ (k = 2 ∧ (f < 0 ∨ 5 < f))) (h3 : ¬ k = 1) : sp_type k f = 0 := (if_neg h).trans ((if_neg h2).trans (if_neg h3))
def sp_leaf (b n : Int32) : Int32 := if ¬ b = 0 ∧ (n < 0 ∨ 9 < n) then 1 else 0
theorem sp_leaf_a {b n : Int32} (h : ¬ b = 0 ∧ (n < 0 ∨ 9 < n)) : sp_leaf b n = 1 := if_pos h
theorem sp_leaf_b {b n : Int32} (h : ¬ (¬ b = 0 ∧ (n < 0 ∨ 9 < n))) : sp_leaf b n = 0 := if_neg h
def sp_expr (k : Int32) : Int32 := if k < 0 ∨ 4 < k then 1 else 2
theorem sp_expr_a {k : Int32} (h : k < 0 ∨ 4 < k) : sp_expr k = 1 := if_pos h
theorem sp_expr_b {k : Int32} (h : ¬ (k < 0 ∨ 4 < k)) : sp_expr k = 2 := if_neg h
def sp_node (k : Int32) : Int32 := if k < 0 ∨ 2 < k then 1 else 2
theorem sp_node_a {k : Int32} (h : k < 0 ∨ 2 < k) : sp_node k = 1 := if_pos h
theorem sp_node_b {k : Int32} (h : ¬ (k < 0 ∨ 2 < k)) : sp_node k = 2 := if_neg h
def sp_res (k : Int32) : Int32 := if k < 0 ∨ 9 < k then 1 else 2
theorem sp_res_a {k : Int32} (h : k < 0 ∨ 9 < k) : sp_res k = 1 := if_pos h
theorem sp_res_b {k : Int32} (h : ¬ (k < 0 ∨ 9 < k)) : sp_res k = 2 := if_neg h
theorem i32_eq {a b : Int32} : a = b ↔ a.toInt = b.toInt := Int32.toInt_inj.symm
theorem i32_0 : (0 : Int32).toInt = 0 := by decide
theorem i32_1 : (1 : Int32).toInt = 1 := by decide
theorem i32_2 : (2 : Int32).toInt = 2 := by decide
theorem i32_3 : (3 : Int32).toInt = 3 := by decide
theorem i32_4 : (4 : Int32).toInt = 4 := by decide
theorem i32_5 : (5 : Int32).toInt = 5 := by decide
theorem i32_6 : (6 : Int32).toInt = 6 := by decide
theorem i32_7 : (7 : Int32).toInt = 7 := by decide
theorem i32_8 : (8 : Int32).toInt = 8 := by decide
theorem i32_9 : (9 : Int32).toInt = 9 := by decide
theorem i32_10 : (10 : Int32).toInt = 10 := by decide
theorem i32_m1 : (-1 : Int32).toInt = -1 := by decide
theorem k04 {k : Int32} (h : ¬ (k < 0 ∨ 4 < k)) : k = 0 ∨ k = 1 ∨ k = 2 ∨ k = 3 ∨ k = 4 := by
  simp only [i32_eq, Int32.lt_iff_toInt_lt, i32_0, i32_1, i32_2, i32_3, i32_4] at h ⊢
  omega
/-- what is known of the fields of a fresh reference: some numbers, and where some of its rows lie -/
def fmL (tm : Nat → Nat) : List (Nat × Value) := [(0, .int 0), (6, .int 0), (12, .int 0), (18, .int 0), (92, .int 0), (98, .int 0), (100, .int 0), (101, .int 0), (1, .ref (tm 0)), (2, .ref (tm 1)), (3, .ref (tm 2)), (4, .ref (tm 3)), (5, .ref (tm 4)), (7, .ref (tm 5)), (8, .ref (tm 6)), (9, .ref (tm 7)), (10, .ref (tm 8)), (11, .ref (tm 9)), (13, .ref (tm 10))]
def FM (fs : List Value) (tm : Nat → Nat) : Prop := fs.length = 109 ∧ ∀ q ∈ fmL tm, fs[q.1]? = some q.2
theorem FM.len {fs : List Value} {tm : Nat → Nat} (h : FM fs tm) : fs.length = 109 := h.1
theorem FM.at {fs : List Value} {tm : Nat → Nat} (h : FM fs tm) {j : Nat} {q : Nat × Value} (hq : (fmL tm)[j]? = some q) : fs[q.1]? = some q.2 := h.2 q (List.mem_of_getElem? hq)
theorem ls_len {fs : List Value} {k n : Nat} {v : Value} (h : fs.length = n) : (List.set fs k v).length = n := by rw [List.length_set]; exact h
theorem ls_lt {fs : List Value} {k n : Nat} (h : fs.length = n) (hk : k < n) : k < fs.length := by rw [h]; exact hk
theorem ls_self {fs : List Value} {k n : Nat} {v : Value} (h : fs.length = n) (hk : k < n) : (List.set fs k v)[k]? = some v := List.getElem?_set_self (by rw [h]; exact hk)
theorem ls_ne {fs : List Value} {k j : Nat} {v w : Value} (hne : k ≠ j) (h : fs[j]? = some w) : (List.set fs k v)[j]? = some w := by rw [List.getElem?_set_ne hne]; exact h
theorem FM.s25 {fs : List Value} {tm : Nat → Nat} {v : Value} (h : FM fs tm) : FM (List.set fs 25 v) tm := by
  refine ⟨ls_len h.1, fun q hq => ls_ne ?_ (h.2 q hq)⟩
  have h9 : ∀ q ∈ fmL tm, (25 : Nat) ≠ q.1 := by
    intro q hq
    simp only [fmL, List.mem_cons, List.not_mem_nil, or_false] at hq
    rcases hq with rfl | rfl | rfl | rfl | rfl | rfl | rfl | rfl | rfl | rfl | rfl | rfl | rfl | rfl | rfl | rfl | rfl | rfl | rfl <;> (dsimp only; decide)
  exact h9 q hq
