/-! THE CLASS: the finder's cells are there -/
def FNA (G : LG) : Prop := gK G 327682 = (11, 0) ∧ gK G 327681 = (14, 0) ∧ gK G 327683 = (16, 0) ∧ gK G 262144 = (10, 0) ∧ gK G 262208 = (10, 0) ∧ gK G 327684 = (17, 0) ∧ gK G 68097 = (9, 0) ∧ gK G 327691 = (1, 200) ∧ gK G 327692 = (1, 200) ∧ gK G 262145 = (4, 6) ∧ gK G 262146 = (1, 6) ∧ gK G 262148 = (4, 6) ∧ gK G 262149 = (1, 6) ∧ gK G 262209 = (4, 6) ∧ gK G 262210 = (1, 6) ∧ gK G 262212 = (4, 6) ∧ gK G 262213 = (1, 6) ∧ gK G 327710 = (1, 8) ∧ gK G 327685 = (8, 0) ∧ gK G 327688 = (1, 64)
set_option maxRecDepth 100000 in
theorem LK.fna {a b : Nat} {G : LG} (h : LK G) (hC : CI a b G) (al327682 : (gK G 327682).1 ≠ 0) : FNA G := by
  have k327682 : gK G 327682 = (11, 0) := hC.1.k (c := 502) (by decide) al327682
  have v327681 : gS G 327682 0 = ((327681 : Nat) : Int) := by have h9 : gS G 327682 0 = 327681 := hC.1.v (c := 502) (j := 0) (by decide) al327682 (by rw [k327682]; exact Nat.le_of_ble_eq_true rfl); omega
  have al327681 : (gK G 327681).1 ≠ 0 := h.at al327682 (j := 0) (by rw [k327682]; exact Nat.le_of_ble_eq_true rfl) (by rw [k327682]; rfl) v327681
  have k327681 : gK G 327681 = (14, 0) := hC.1.k (c := 501) (by decide) al327681
  have v327683 : gS G 327682 1 = ((327683 : Nat) : Int) := by have h9 : gS G 327682 1 = 327683 := hC.1.v (c := 502) (j := 1) (by decide) al327682 (by rw [k327682]; exact Nat.le_of_ble_eq_true rfl); omega
  have al327683 : (gK G 327683).1 ≠ 0 := h.at al327682 (j := 1) (by rw [k327682]; exact Nat.le_of_ble_eq_true rfl) (by rw [k327682]; rfl) v327683
  have k327683 : gK G 327683 = (16, 0) := hC.1.k (c := 503) (by decide) al327683
  have v262144 : gS G 327682 2 = ((262144 : Nat) : Int) := by have h9 : gS G 327682 2 = 262144 := hC.1.v (c := 502) (j := 2) (by decide) al327682 (by rw [k327682]; exact Nat.le_of_ble_eq_true rfl); omega
  have al262144 : (gK G 262144).1 ≠ 0 := h.at al327682 (j := 2) (by rw [k327682]; exact Nat.le_of_ble_eq_true rfl) (by rw [k327682]; rfl) v262144
  have k262144 : gK G 262144 = (10, 0) := hC.1.k (c := 400) (by decide) al262144
  have v262208 : gS G 327682 3 = ((262208 : Nat) : Int) := by have h9 : gS G 327682 3 = 262208 := hC.1.v (c := 502) (j := 3) (by decide) al327682 (by rw [k327682]; exact Nat.le_of_ble_eq_true rfl); omega
  have al262208 : (gK G 262208).1 ≠ 0 := h.at al327682 (j := 3) (by rw [k327682]; exact Nat.le_of_ble_eq_true rfl) (by rw [k327682]; rfl) v262208
  have k262208 : gK G 262208 = (10, 0) := hC.1.k (c := 400) (by decide) al262208
  have v327684 : gS G 327682 4 = ((327684 : Nat) : Int) := by have h9 : gS G 327682 4 = 327684 := hC.1.v (c := 502) (j := 4) (by decide) al327682 (by rw [k327682]; exact Nat.le_of_ble_eq_true rfl); omega
  have al327684 : (gK G 327684).1 ≠ 0 := h.at al327682 (j := 4) (by rw [k327682]; exact Nat.le_of_ble_eq_true rfl) (by rw [k327682]; rfl) v327684
  have k327684 : gK G 327684 = (17, 0) := hC.1.k (c := 504) (by decide) al327684
  have v68097 : gS G 327682 5 = ((68097 : Nat) : Int) := by have h9 : gS G 327682 5 = 68097 := hC.1.v (c := 502) (j := 5) (by decide) al327682 (by rw [k327682]; exact Nat.le_of_ble_eq_true rfl); omega
  have al68097 : (gK G 68097).1 ≠ 0 := h.at al327682 (j := 5) (by rw [k327682]; exact Nat.le_of_ble_eq_true rfl) (by rw [k327682]; rfl) v68097
  have k68097 : gK G 68097 = (9, 0) := hC.1.k (c := 101) (by decide) al68097
  have v327691 : gS G 327682 6 = ((327691 : Nat) : Int) := by have h9 : gS G 327682 6 = 327691 := hC.1.v (c := 502) (j := 6) (by decide) al327682 (by rw [k327682]; exact Nat.le_of_ble_eq_true rfl); omega
  have al327691 : (gK G 327691).1 ≠ 0 := h.at al327682 (j := 6) (by rw [k327682]; exact Nat.le_of_ble_eq_true rfl) (by rw [k327682]; rfl) v327691
  have k327691 : gK G 327691 = (1, 200) := hC.1.k (c := 511) (by decide) al327691
  have v327692 : gS G 327682 7 = ((327692 : Nat) : Int) := by have h9 : gS G 327682 7 = 327692 := hC.1.v (c := 502) (j := 7) (by decide) al327682 (by rw [k327682]; exact Nat.le_of_ble_eq_true rfl); omega
  have al327692 : (gK G 327692).1 ≠ 0 := h.at al327682 (j := 7) (by rw [k327682]; exact Nat.le_of_ble_eq_true rfl) (by rw [k327682]; rfl) v327692
  have k327692 : gK G 327692 = (1, 200) := hC.1.k (c := 512) (by decide) al327692
  have v262145 : gS G 262144 0 = ((262145 : Nat) : Int) := by have h9 : gS G 262144 0 = ((262144 % 1048576 + 1 : Nat) : Int) := hC.1.v (c := 400) (j := 0) (by decide) al262144 (by rw [k262144]; exact Nat.le_of_ble_eq_true rfl); omega
  have al262145 : (gK G 262145).1 ≠ 0 := h.at al262144 (j := 0) (by rw [k262144]; exact Nat.le_of_ble_eq_true rfl) (by rw [k262144]; rfl) v262145
  have k262145 : gK G 262145 = (4, 6) := hC.1.k (c := 401) (by decide) al262145
  have v262146 : gS G 262144 1 = ((262146 : Nat) : Int) := by have h9 : gS G 262144 1 = ((262144 % 1048576 + 2 : Nat) : Int) := hC.1.v (c := 400) (j := 1) (by decide) al262144 (by rw [k262144]; exact Nat.le_of_ble_eq_true rfl); omega
  have al262146 : (gK G 262146).1 ≠ 0 := h.at al262144 (j := 1) (by rw [k262144]; exact Nat.le_of_ble_eq_true rfl) (by rw [k262144]; rfl) v262146
  have k262146 : gK G 262146 = (1, 6) := hC.1.k (c := 402) (by decide) al262146
  have v262148 : gS G 262144 3 = ((262148 : Nat) : Int) := by have h9 : gS G 262144 3 = ((262144 % 1048576 + 4 : Nat) : Int) := hC.1.v (c := 400) (j := 3) (by decide) al262144 (by rw [k262144]; exact Nat.le_of_ble_eq_true rfl); omega
  have al262148 : (gK G 262148).1 ≠ 0 := h.at al262144 (j := 3) (by rw [k262144]; exact Nat.le_of_ble_eq_true rfl) (by rw [k262144]; rfl) v262148
  have k262148 : gK G 262148 = (4, 6) := hC.1.k (c := 404) (by decide) al262148
  have v262149 : gS G 262144 4 = ((262149 : Nat) : Int) := by have h9 : gS G 262144 4 = ((262144 % 1048576 + 5 : Nat) : Int) := hC.1.v (c := 400) (j := 4) (by decide) al262144 (by rw [k262144]; exact Nat.le_of_ble_eq_true rfl); omega
  have al262149 : (gK G 262149).1 ≠ 0 := h.at al262144 (j := 4) (by rw [k262144]; exact Nat.le_of_ble_eq_true rfl) (by rw [k262144]; rfl) v262149
  have k262149 : gK G 262149 = (1, 6) := hC.1.k (c := 405) (by decide) al262149
  have v262209 : gS G 262208 0 = ((262209 : Nat) : Int) := by have h9 : gS G 262208 0 = ((262208 % 1048576 + 1 : Nat) : Int) := hC.1.v (c := 400) (j := 0) (by decide) al262208 (by rw [k262208]; exact Nat.le_of_ble_eq_true rfl); omega
  have al262209 : (gK G 262209).1 ≠ 0 := h.at al262208 (j := 0) (by rw [k262208]; exact Nat.le_of_ble_eq_true rfl) (by rw [k262208]; rfl) v262209
  have k262209 : gK G 262209 = (4, 6) := hC.1.k (c := 401) (by decide) al262209
  have v262210 : gS G 262208 1 = ((262210 : Nat) : Int) := by have h9 : gS G 262208 1 = ((262208 % 1048576 + 2 : Nat) : Int) := hC.1.v (c := 400) (j := 1) (by decide) al262208 (by rw [k262208]; exact Nat.le_of_ble_eq_true rfl); omega
  have al262210 : (gK G 262210).1 ≠ 0 := h.at al262208 (j := 1) (by rw [k262208]; exact Nat.le_of_ble_eq_true rfl) (by rw [k262208]; rfl) v262210
  have k262210 : gK G 262210 = (1, 6) := hC.1.k (c := 402) (by decide) al262210
  have v262212 : gS G 262208 3 = ((262212 : Nat) : Int) := by have h9 : gS G 262208 3 = ((262208 % 1048576 + 4 : Nat) : Int) := hC.1.v (c := 400) (j := 3) (by decide) al262208 (by rw [k262208]; exact Nat.le_of_ble_eq_true rfl); omega
  have al262212 : (gK G 262212).1 ≠ 0 := h.at al262208 (j := 3) (by rw [k262208]; exact Nat.le_of_ble_eq_true rfl) (by rw [k262208]; rfl) v262212
  have k262212 : gK G 262212 = (4, 6) := hC.1.k (c := 404) (by decide) al262212
  have v262213 : gS G 262208 4 = ((262213 : Nat) : Int) := by have h9 : gS G 262208 4 = ((262208 % 1048576 + 5 : Nat) : Int) := hC.1.v (c := 400) (j := 4) (by decide) al262208 (by rw [k262208]; exact Nat.le_of_ble_eq_true rfl); omega
  have al262213 : (gK G 262213).1 ≠ 0 := h.at al262208 (j := 4) (by rw [k262208]; exact Nat.le_of_ble_eq_true rfl) (by rw [k262208]; rfl) v262213
  have k262213 : gK G 262213 = (1, 6) := hC.1.k (c := 405) (by decide) al262213
  have v327710 : gS G 327681 14 = ((327710 : Nat) : Int) := by have h9 : gS G 327681 14 = 327710 := hC.1.v (c := 501) (j := 14) (by decide) al327681 (by rw [k327681]; exact Nat.le_of_ble_eq_true rfl); omega
  have al327710 : (gK G 327710).1 ≠ 0 := h.at al327681 (j := 14) (by rw [k327681]; exact Nat.le_of_ble_eq_true rfl) (by rw [k327681]; rfl) v327710
  have k327710 : gK G 327710 = (1, 8) := hC.1.k (c := 530) (by decide) al327710
  have v327685 : gS G 327681 16 = ((327685 : Nat) : Int) := by have h9 : gS G 327681 16 = 327685 := hC.1.v (c := 501) (j := 16) (by decide) al327681 (by rw [k327681]; exact Nat.le_of_ble_eq_true rfl); omega
  have al327685 : (gK G 327685).1 ≠ 0 := h.at al327681 (j := 16) (by rw [k327681]; exact Nat.le_of_ble_eq_true rfl) (by rw [k327681]; rfl) v327685
  have k327685 : gK G 327685 = (8, 0) := hC.1.k (c := 505) (by decide) al327685
  have v327688 : gS G 327683 2 = ((327688 : Nat) : Int) := by have h9 : gS G 327683 2 = 327688 := hC.1.v (c := 503) (j := 2) (by decide) al327683 (by rw [k327683]; exact Nat.le_of_ble_eq_true rfl); omega
  have al327688 : (gK G 327688).1 ≠ 0 := h.at al327683 (j := 2) (by rw [k327683]; exact Nat.le_of_ble_eq_true rfl) (by rw [k327683]; rfl) v327688
  have k327688 : gK G 327688 = (1, 64) := hC.1.k (c := 508) (by decide) al327688
  exact ⟨k327682, k327681, k327683, k262144, k262208, k327684, k68097, k327691, k327692, k262145, k262146, k262148, k262149, k262209, k262210, k262212, k262213, k327710, k327685, k327688⟩
theorem FNA.kx {G G1 : LG} (h : FNA G) (kx : KX G G1) : FNA G1 := by
  obtain ⟨k327682, k327681, k327683, k262144, k262208, k327684, k68097, k327691, k327692, k262145, k262146, k262148, k262149, k262209, k262210, k262212, k262213, k327710, k327685, k327688⟩ := h
  exact ⟨kx.k k327682 (by decide), kx.k k327681 (by decide), kx.k k327683 (by decide), kx.k k262144 (by decide), kx.k k262208 (by decide), kx.k k327684 (by decide), kx.k k68097 (by decide), kx.k k327691 (by decide), kx.k k327692 (by decide), kx.k k262145 (by decide), kx.k k262146 (by decide), kx.k k262148 (by decide), kx.k k262149 (by decide), kx.k k262209 (by decide), kx.k k262210 (by decide), kx.k k262212 (by decide), kx.k k262213 (by decide), kx.k k327710 (by decide), kx.k k327685 (by decide), kx.k k327688 (by decide)⟩
theorem FNA.k327682 {G : LG} (h : FNA G) : gK G 327682 = (11, 0) := h.1
theorem FNA.k327681 {G : LG} (h : FNA G) : gK G 327681 = (14, 0) := h.2.1
theorem FNA.k327683 {G : LG} (h : FNA G) : gK G 327683 = (16, 0) := h.2.2.1
theorem FNA.k262144 {G : LG} (h : FNA G) : gK G 262144 = (10, 0) := h.2.2.2.1
theorem FNA.k262208 {G : LG} (h : FNA G) : gK G 262208 = (10, 0) := h.2.2.2.2.1
theorem FNA.k327684 {G : LG} (h : FNA G) : gK G 327684 = (17, 0) := h.2.2.2.2.2.1
theorem FNA.k68097 {G : LG} (h : FNA G) : gK G 68097 = (9, 0) := h.2.2.2.2.2.2.1
theorem FNA.k327691 {G : LG} (h : FNA G) : gK G 327691 = (1, 200) := h.2.2.2.2.2.2.2.1
theorem FNA.k327692 {G : LG} (h : FNA G) : gK G 327692 = (1, 200) := h.2.2.2.2.2.2.2.2.1
theorem FNA.k262145 {G : LG} (h : FNA G) : gK G 262145 = (4, 6) := h.2.2.2.2.2.2.2.2.2.1
theorem FNA.k262146 {G : LG} (h : FNA G) : gK G 262146 = (1, 6) := h.2.2.2.2.2.2.2.2.2.2.1
theorem FNA.k262148 {G : LG} (h : FNA G) : gK G 262148 = (4, 6) := h.2.2.2.2.2.2.2.2.2.2.2.1
theorem FNA.k262149 {G : LG} (h : FNA G) : gK G 262149 = (1, 6) := h.2.2.2.2.2.2.2.2.2.2.2.2.1
theorem FNA.k262209 {G : LG} (h : FNA G) : gK G 262209 = (4, 6) := h.2.2.2.2.2.2.2.2.2.2.2.2.2.1
theorem FNA.k262210 {G : LG} (h : FNA G) : gK G 262210 = (1, 6) := h.2.2.2.2.2.2.2.2.2.2.2.2.2.2.1
theorem FNA.k262212 {G : LG} (h : FNA G) : gK G 262212 = (4, 6) := h.2.2.2.2.2.2.2.2.2.2.2.2.2.2.2.1
theorem FNA.k262213 {G : LG} (h : FNA G) : gK G 262213 = (1, 6) := h.2.2.2.2.2.2.2.2.2.2.2.2.2.2.2.2.1
theorem FNA.k327710 {G : LG} (h : FNA G) : gK G 327710 = (1, 8) := h.2.2.2.2.2.2.2.2.2.2.2.2.2.2.2.2.2.1
theorem FNA.k327685 {G : LG} (h : FNA G) : gK G 327685 = (8, 0) := h.2.2.2.2.2.2.2.2.2.2.2.2.2.2.2.2.2.2.1
theorem FNA.k327688 {G : LG} (h : FNA G) : gK G 327688 = (1, 64) := h.2.2.2.2.2.2.2.2.2.2.2.2.2.2.2.2.2.2.2
