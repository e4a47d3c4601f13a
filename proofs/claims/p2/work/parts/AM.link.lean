/-! THE CLASS: the finder's cells are there -/
def FNA (G : LG) : Prop := gK G 327682 = (11, 0) ∧ gK G 327681 = (14, 0) ∧ gK G 327683 = (16, 0) ∧ gK G 262144 = (10, 0) ∧ gK G 262208 = (10, 0) ∧ gK G 327684 = (17, 0) ∧ gK G 68097 = (9, 0) ∧ gK G 327691 = (1, 200) ∧ gK G 327692 = (1, 200) ∧ gK G 262145 = (4, 6) ∧ gK G 262146 = (1, 6) ∧ gK G 262148 = (4, 6) ∧ gK G 262149 = (1, 6) ∧ gK G 262209 = (4, 6) ∧ gK G 262210 = (1, 6) ∧ gK G 262212 = (4, 6) ∧ gK G 262213 = (1, 6) ∧ gK G 327710 = (1, 8) ∧ gK G 327685 = (8, 0) ∧ gK G 327688 = (1, 64)
set_option maxRecDepth 100000 in
theorem LK.fna {a b : Nat} {G : LG} (h : LK G) (hC : CI a b G) (al327682 : (gK G 327682).1 ≠ 0) : FNA G := by
  have k327682 : gK G 327682 = (11, 0) := hC.1.k (c := 502) (by decide) al327682
  have v327681 : gS G 327682 0 = ((327681 : Nat) : Int) := by have h9 : gS G 327682 0 = 327681 := hC.1.v (c := 502) (j := 0) (by decide) al327682 (by rw [k327682]; exact Nat.le_of_ble_eq_true rfl); omega
  have al327681 : (gK G 327681).1 ≠ 0 := h.at al327682 (j := 0) (by rw [k327682]; exact Nat.le_of_ble_eq_true rfl) (by rw [k327682]; rfl) v327681
  have k327681 : gK G 327681 = (14, 0) := hC.1.k (c := 501) (by decide) al327681
  have v327683 : gS G 327682 1 = ((327683 : Nat) : Int) := by have h9 : gS G 327682 1 = 327683 := hC.1.v (c := 502) (j := 1) (by decide) al327682 (by rw [k327682]; exact Nat.le_of_ble_eq_true rfl); omega
  have al327683 : (gK G 327683).1 ≠ 0 := h.at al327682 (j := 1) (by rw [k327682]; exact Nat.le_of_ble_eq_true rfl) (by rw [k327682]; rfl) v327683
  have k327683 : gK G 327683 = (16, 0) := hC.1.k (c := 503) (by decide) al327683
  have v262144 : gS G 327682 2 = ((262144 : Nat) : Int) := by have h9 : gS G 327682 2 = 262144 := hC.1.v (c := 502) (j := 2) (by decide) al327682 (by rw [k327682]; exact Nat.le_of_ble_eq_true rfl); omega
  have al262144 : (gK G 262144).1 ≠ 0 := h.at al327682 (j := 2) (by rw [k327682]; exact Nat.le_of_ble_eq_true rfl) (by rw [k327682]; rfl) v262144
  have k262144 : gK G 262144 = (10, 0) := hC.1.k (c := 400) (by decide) al262144
  have v262208 : gS G 327682 3 = ((262208 : Nat) : Int) := by have h9 : gS G 327682 3 = 262208 := hC.1.v (c := 502) (j := 3) (by decide) al327682 (by rw [k327682]; exact Nat.le_of_ble_eq_true rfl); omega
  have al262208 : (gK G 262208).1 ≠ 0 := h.at al327682 (j := 3) (by rw [k327682]; exact Nat.le_of_ble_eq_true rfl) (by rw [k327682]; rfl) v262208
  have k262208 : gK G 262208 = (10, 0) := hC.1.k (c := 400) (by decide) al262208
  have v327684 : gS G 327682 4 = ((327684 : Nat) : Int) := by have h9 : gS G 327682 4 = 327684 := hC.1.v (c := 502) (j := 4) (by decide) al327682 (by rw [k327682]; exact Nat.le_of_ble_eq_true rfl); omega
  have al327684 : (gK G 327684).1 ≠ 0 := h.at al327682 (j := 4) (by rw [k327682]; exact Nat.le_of_ble_eq_true rfl) (by rw [k327682]; rfl) v327684
  have k327684 : gK G 327684 = (17, 0) := hC.1.k (c := 504) (by decide) al327684
  have v68097 : gS G 327682 5 = ((68097 : Nat) : Int) := by have h9 : gS G 327682 5 = 68097 := hC.1.v (c := 502) (j := 5) (by decide) al327682 (by rw [k327682]; exact Nat.le_of_ble_eq_true rfl); omega
  have al68097 : (gK G 68097).1 ≠ 0 := h.at al327682 (j := 5) (by rw [k327682]; exact Nat.le_of_ble_eq_true rfl) (by rw [k327682]; rfl) v68097
  have k68097 : gK G 68097 = (9, 0) := hC.1.k (c := 101) (by decide) al68097
  have v327691 : gS G 327682 6 = ((327691 : Nat) : Int) := by have h9 : gS G 327682 6 = 327691 := hC.1.v (c := 502) (j := 6) (by decide) al327682 (by rw [k327682]; exact Nat.le_of_ble_eq_true rfl); omega
  have al327691 : (gK G 327691).1 ≠ 0 := h.at al327682 (j := 6) (by rw [k327682]; exact Nat.le_of_ble_eq_true rfl) (by rw [k327682]; rfl) v327691
  have k327691 : gK G 327691 = (1, 200) := hC.1.k (c := 511) (by decide) al327691
  have v327692 : gS G 327682 7 = ((327692 : Nat) : Int) := by have h9 : gS G 327682 7 = 327692 := hC.1.v (c := 502) (j := 7) (by decide) al327682 (by rw [k327682]; exact Nat.le_of_ble_eq_true rfl); omega
  have al327692 : (gK G 327692).1 ≠ 0 := h.at al327682 (j := 7) (by rw [k327682]; exact Nat.le_of_ble_eq_true rfl) (by rw [k327682]; rfl) v327692
  have k327692 : gK G 327692 = (1, 200) := hC.1.k (c := 512) (by decide) al327692
  have v262145 : gS G 262144 0 = ((262145 : Nat) : Int) := by have h9 : gS G 262144 0 = ((262144 % 1048576 + 1 : Nat) : Int) := hC.1.v (c := 400) (j := 0) (by decide) al262144 (by rw [k262144]; exact Nat.le_of_ble_eq_true rfl); omega
  have al262145 : (gK G 262145).1 ≠ 0 := h.at al262144 (j := 0) (by rw [k262144]; exact Nat.le_of_ble_eq_true rfl) (by rw [k262144]; rfl) v262145
  have k262145 : gK G 262145 = (4, 6) := hC.1.k (c := 401) (by decide) al262145
  have v262146 : gS G 262144 1 = ((262146 : Nat) : Int) := by have h9 : gS G 262144 1 = ((262144 % 1048576 + 2 : Nat) : Int) := hC.1.v (c := 400) (j := 1) (by decide) al262144 (by rw [k262144]; exact Nat.le_of_ble_eq_true rfl); omega
  have al262146 : (gK G 262146).1 ≠ 0 := h.at al262144 (j := 1) (by rw [k262144]; exact Nat.le_of_ble_eq_true rfl) (by rw [k262144]; rfl) v262146
  have k262146 : gK G 262146 = (1, 6) := hC.1.k (c := 402) (by decide) al262146
  have v262148 : gS G 262144 3 = ((262148 : Nat) : Int) := by have h9 : gS G 262144 3 = ((262144 % 1048576 + 4 : Nat) : Int) := hC.1.v (c := 400) (j := 3) (by decide) al262144 (by rw [k262144]; exact Nat.le_of_ble_eq_true rfl); omega
  have al262148 : (gK G 262148).1 ≠ 0 := h.at al262144 (j := 3) (by rw [k262144]; exact Nat.le_of_ble_eq_true rfl) (by rw [k262144]; rfl) v262148
  have k262148 : gK G 262148 = (4, 6) := hC.1.k (c := 404) (by decide) al262148
  have v262149 : gS G 262144 4 = ((262149 : Nat) : Int) := by have h9 : gS G 262144 4 = ((262144 % 1048576 + 5 : Nat) : Int) := hC.1.v (c := 400) (j := 4) (by decide) al262144 (by rw [k262144]; exact Nat.le_of_ble_eq_true rfl); omega
  have al262149 : (gK G 262149).1 ≠ 0 := h.at al262144 (j := 4) (by rw [k262144]; exact Nat.le_of_ble_eq_true rfl) (by rw [k262144]; rfl) v262149
  have k262149 : gK G 262149 = (1, 6) := hC.1.k (c := 405) (by decide) al262149
  have v262209 : gS G 262208 0 = ((262209 : Nat) : Int) := by have h9 : gS G 262208 0 = ((262208 % 1048576 + 1 : Nat) : Int) := hC.1.v (c := 400) (j := 0) (by decide) al262208 (by rw [k262208]; exact Nat.le_of_ble_eq_true rfl); omega
  have al262209 : (gK G 262209).1 ≠ 0 := h.at al262208 (j := 0) (by rw [k262208]; exact Nat.le_of_ble_eq_true rfl) (by rw [k262208]; rfl) v262209
  have k262209 : gK G 262209 = (4, 6) := hC.1.k (c := 401) (by decide) al262209
  have v262210 : gS G 262208 1 = ((262210 : Nat) : Int) := by have h9 : gS G 262208 1 = ((262208 % 1048576 + 2 : Nat) : Int) := hC.1.v (c := 400) (j := 1) (by decide) al262208 (by rw [k262208]; exact Nat.le_of_ble_eq_true rfl); omega
  have al262210 : (gK G 262210).1 ≠ 0 := h.at al262208 (j := 1) (by rw [k262208]; exact Nat.le_of_ble_eq_true rfl) (by rw [k262208]; rfl) v262210
  have k262210 : gK G 262210 = (1, 6) := hC.1.k (c := 402) (by decide) al262210
  have v262212 : gS G 262208 3 = ((262212 : Nat) : Int) := by have h9 : gS G 262208 3 = ((262208 % 1048576 + 4 : Nat) : Int) := hC.1.v (c := 400) (j := 3) (by decide) al262208 (by rw [k262208]; exact Nat.le_of_ble_eq_true rfl); omega
  have al262212 : (gK G 262212).1 ≠ 0 := h.at al262208 (j := 3) (by rw [k262208]; exact Nat.le_of_ble_eq_true rfl) (by rw [k262208]; rfl) v262212
  have k262212 : gK G 262212 = (4, 6) := hC.1.k (c := 404) (by decide) al262212
  have v262213 : gS G 262208 4 = ((262213 : Nat) : Int) := by have h9 : gS G 262208 4 = ((262208 % 1048576 + 5 : Nat) : Int) := hC.1.v (c := 400) (j := 4) (by decide) al262208 (by rw [k262208]; exact Nat.le_of_ble_eq_true rfl); omega
  have al262213 : (gK G 262213).1 ≠ 0 := h.at al262208 (j := 4) (by rw [k262208]; exact Nat.le_of_ble_eq_true rfl) (by rw [k262208]; rfl) v262213
  have k262213 : gK G 262213 = (1, 6) := hC.1.k (c := 405) (by decide) al262213
  have v327710 : gS G 327681 14 = ((327710 : Nat) : Int) := by have h9 : gS G 327681 14 = 327710 := hC.1.v (c := 501) (j := 14) (by decide) al327681 (by rw [k327681]; exact Nat.le_of_ble_eq_true rfl); omega
  have al327710 : (gK G 327710).1 ≠ 0 := h.at al327681 (j := 14) (by rw [k327681]; exact Nat.le_of_ble_eq_true rfl) (by rw [k327681]; rfl) v327710
  have k327710 : gK G 327710 = (1, 8) := hC.1.k (c := 530) (by decide) al327710
  have v327685 : gS G 327681 16 = ((327685 : Nat) : Int) := by have h9 : gS G 327681 16 = 327685 := hC.1.v (c := 501) (j := 16) (by decide) al327681 (by rw [k327681]; exact Nat.le_of_ble_eq_true rfl); omega
  have al327685 : (gK G 327685).1 ≠ 0 := h.at al327681 (j := 16) (by rw [k327681]; exact Nat.le_of_ble_eq_true rfl) (by rw [k327681]; rfl) v327685
  have k327685 : gK G 327685 = (8, 0) := hC.1.k (c := 505) (by decide) al327685
  have v327688 : gS G 327683 2 = ((327688 : Nat) : Int) := by have h9 : gS G 327683 2 = 327688 := hC.1.v (c := 503) (j := 2) (by decide) al327683 (by rw [k327683]; exact Nat.le_of_ble_eq_true rfl); omega
  have al327688 : (gK G 327688).1 ≠ 0 := h.at al327683 (j := 2) (by rw [k327683]; exact Nat.le_of_ble_eq_true rfl) (by rw [k327683]; rfl) v327688
  have k327688 : gK G 327688 = (1, 64) := hC.1.k (c := 508) (by decide) al327688
  exact ⟨k327682, k327681, k327683, k262144, k262208, k327684, k68097, k327691, k327692, k262145, k262146, k262148, k262149, k262209, k262210, k262212, k262213, k327710, k327685, k327688⟩
theorem FNA.kx {G G1 : LG} (h : FNA G) (kx : KX G G1) : FNA G1 := by
  obtain ⟨k327682, k327681, k327683, k262144, k262208, k327684, k68097, k327691, k327692, k262145, k262146, k262148, k262149, k262209, k262210, k262212, k262213, k327710, k327685, k327688⟩ := h
  exact ⟨kx.k k327682 (by decide), kx.k k327681 (by decide), kx.k k327683 (by decide), kx.k k262144 (by decide), kx.k k262208 (by decide), kx.k k327684 (by decide), kx.k k68097 (by decide), kx.k k327691 (by decide), kx.k k327692 (by decide), kx.k k262145 (by decide), kx.k k262146 (by decide), kx.k k262148 (by decide), kx.k k262149 (by decide), kx.k k262209 (by decide), kx.k k262210 (by decide), kx.k k262212 (by decide), kx.k k262213 (by decide), kx.k k327710 (by decide), kx.k k327685 (by decide), kx.k k327688 (by decide)⟩
theorem FNA.k327682 {G : LG} (h : FNA G) : gK G 327682 = (11, 0) := h.1
theorem FNA.k327681 {G : LG} (h : FNA G) : gK G 327681 = (14, 0) := h.2.1
theorem FNA.k327683 {G : LG} (h : FNA G) : gK G 327683 = (16, 0) := h.2.2.1
theorem FNA.k262144 {G : LG} (h : FNA G) : gK G 262144 = (10, 0) := h.2.2.2.1
theorem FNA.k262208 {G : LG} (h : FNA G) : gK G 262208 = (10, 0) := h.2.2.2.2.1
theorem FNA.k327684 {G : LG} (h : FNA G) : gK G 327684 = (17, 0) := h.2.2.2.2.2.1
theorem FNA.k68097 {G : LG} (h : FNA G) : gK G 68097 = (9, 0) := h.2.2.2.2.2.2.1
theorem FNA.k327691 {G : LG} (h : FNA G) : gK G 327691 = (1, 200) := h.2.2.2.2.2.2.2.1
theorem FNA.k327692 {G : LG} (h : FNA G) : gK G 327692 = (1, 200) := h.2.2.2.2.2.2.2.2.1
theorem FNA.k262145 {G : LG} (h : FNA G) : gK G 262145 = (4, 6) := h.2.2.2.2.2.2.2.2.2.1
theorem FNA.k262146 {G : LG} (h : FNA G) : gK G 262146 = (1, 6) := h.2.2.2.2.2.2.2.2.2.2.1
theorem FNA.k262148 {G : LG} (h : FNA G) : gK G 262148 = (4, 6) := h.2.2.2.2.2.2.2.2.2.2.2.1
theorem FNA.k262149 {G : LG} (h : FNA G) : gK G 262149 = (1, 6) := h.2.2.2.2.2.2.2.2.2.2.2.2.1
theorem FNA.k262209 {G : LG} (h : FNA G) : gK G 262209 = (4, 6) := h.2.2.2.2.2.2.2.2.2.2.2.2.2.1
theorem FNA.k262210 {G : LG} (h : FNA G) : gK G 262210 = (1, 6) := h.2.2.2.2.2.2.2.2.2.2.2.2.2.2.1
theorem FNA.k262212 {G : LG} (h : FNA G) : gK G 262212 = (4, 6) := h.2.2.2.2.2.2.2.2.2.2.2.2.2.2.2.1
theorem FNA.k262213 {G : LG} (h : FNA G) : gK G 262213 = (1, 6) := h.2.2.2.2.2.2.2.2.2.2.2.2.2.2.2.2.1
theorem FNA.k327710 {G : LG} (h : FNA G) : gK G 327710 = (1, 8) := h.2.2.2.2.2.2.2.2.2.2.2.2.2.2.2.2.2.1
theorem FNA.k327685 {G : LG} (h : FNA G) : gK G 327685 = (8, 0) := h.2.2.2.2.2.2.2.2.2.2.2.2.2.2.2.2.2.2.1
theorem FNA.k327688 {G : LG} (h : FNA G) : gK G 327688 = (1, 64) := h.2.2.2.2.2.2.2.2.2.2.2.2.2.2.2.2.2.2.2

abbrev kX2_linkType : KD := (RX2, cX2_linkType, 6, (some .int), [])
def TX2_linkType : TR := fun as G Qr => ∃ (P : Int → Prop) (k : Int) (A B f : Nat) (a b : Nat), as = [(2, ((327682 : Nat) : Int)), (0, k), (2, ((A : Nat) : Int)), (2, ((B : Nat) : Int)), (2, ((f : Nat) : Int))] ∧ CI a b G ∧ (a ≤ 2840000 ∧ b ≤ 590000) ∧ (0 ≤ k ∧ k < 6) ∧ (isFc A) ∧ (isFc B) ∧ (isFc f) ∧ (A ≠ f ∧ B ≠ f) ∧ (∀ k : Nat, k < 6 → FIP P G 262144 k) ∧ (FPa P G f) ∧ (∀ k : Nat, k < 6 → gS G 262149 k ≤ 200) ∧ ∀ (r : Int) (G' : LG), CI a b G' → KX G G' → WX (fun x => x = 327691 ∨ (f + 1 ≤ x ∧ x ≤ f + 22)) G G' → (FPa P G' f) → Qr (.inl (some (0, r))) G'
set_option maxHeartbeats 4000000 in
set_option maxRecDepth 100000 in
theorem gX2_linkType : Good kX2_linkType yX2_linkType 3 TX2_linkType := by
  refine good_of (by decide) rfl rfl (fun as G Qr h => ?_) (fun X as G Qr hcf hR hT oa => ?_)
  · obtain ⟨P, k, A, B, f, a, b, rfl, -⟩ := h; exact Nat.le_of_ble_eq_true rfl
  obtain ⟨P, k, A, B, f, a, b, rfl, hC, hab, hk, hA, hB, hf, hne, hFI, hFf, hSZ, hQ⟩ := hT
  show WP kX2_linkType X 0 [some (2, ((327682 : Nat) : Int)), some (0, k), some (2, ((A : Nat) : Int)), some (2, ((B : Nat) : Int)), some (2, ((f : Nat) : Int)), none] [] G
  have hr_k : inR k := okv_R (oa _ (by simp))
  refine s_alvl 327682 (k := 0) rfl (fun alZ => ?_)
  refine s_alvl A (k := 2) rfl (fun alA => ?_)
  refine s_alvl B (k := 3) rfl (fun alB => ?_)
  refine s_alvl f (k := 4) rfl (fun alf => ?_)
  refine s_lk (fun hlk => ?_)
  have hfn := hlk.fna hC alZ
  obtain ⟨k327682, k327681, k327683, k262144, k262208, k327684, k68097, k327691, k327692, k262145, k262146, k262148, k262149, k262209, k262210, k262212, k262213, k327710, k327685, k327688⟩ := id hfn
  have hfA := hlk.fc hC hA alA
  obtain ⟨kA0, kA1, kA2, kA3, kA4, kA5, kA6⟩ := hfA.1
  have hfB := hlk.fc hC hB alB
  obtain ⟨kB0, kB1, kB2, kB3, kB4, kB5, kB6⟩ := hfB.1
  have hff := hlk.fc hC hf alf
  obtain ⟨kf0, kf1, kf2, kf3, kf4, kf5, kf6⟩ := hff.1
  refine s_aload_n dX2_linkType_0 rfl (Int.natCast_nonneg _) ?_
  have hv1 : gS G 327682 2 = ((262144 : Nat) : Int) := by have h9 : (gS G 327682 2) = 262144 := hC.1.v (j := 2) (by decide : cde 327682 = 502) (kne k327682 (by decide)) (by rw [k327682]; exact Nat.le_of_ble_eq_true rfl); omega
  refine s_getf (ci := 3) (k := 2) (C := RX2) (T := TX2) (N := 8) (n := 327682) (L := 0) (t := 2) dX2_linkType_1 rfl wi_70 m_577 (Nat.le_of_ble_eq_true rfl) rfl rfl k327682 hv1 ?_
  have hv2 : gS G 262144 4 = ((262149 : Nat) : Int) := by have h9 : (gS G 262144 4) = (((262144 % 1048576) + 5 : Nat) : Int) := hC.1.v (j := 4) (by decide : cde 262144 = 400) (kne k262144 (by decide)) (by rw [k262144]; exact Nat.le_of_ble_eq_true rfl); omega
  refine s_getf (ci := 2) (k := 4) (C := RX1) (T := TX1) (N := 5) (n := 262144) (L := 0) (t := 2) dX2_linkType_4 rfl wi_66 m_578 (Nat.le_of_ble_eq_true rfl) rfl rfl k262144 hv2 ?_
  refine s_iload_n dX2_linkType_7 rfl ?_
  have hv3 : 0 ≤ (gS G 262149 (k : Int).toNat) ∧ (gS G 262149 (k : Int).toNat) ≤ 201 := hC.1.v (j := (k : Int).toNat) (by decide : cde 262149 = 405) (kne k262149 (by decide)) (by rw [k262149]; show (k : Int).toNat < 6; omega)
  refine s_iald dX2_linkType_8 k262149 (by omega) (by omega) rfl ?_
  refine s_if_le (tgt := 39) dX2_linkType_9 (by decide) (fun c4 => ?_) (fun c4 => ?_)
  · -- 9 to 39
    refine s_aload_n dX2_linkType_39 rfl (Int.natCast_nonneg _) ?_
    refine s_iload_n dX2_linkType_40 rfl ?_
    refine s_callV (as := [(0, k)]) (rest := []) (n := A) (ci := 1) gX0_hasType dX2_linkType_41 m_1317 m_738 m_1472 m_711 m_65 ⟨by decide, by decide, show (parseMethodDescriptor yX0_hasType.desc).map (fun d => d.parameters.length) = some 1 from by decide +kernel⟩ (Nat.le_of_ble_eq_true rfl) (by rw [hcf]; exact Nat.le_of_ble_eq_true rfl) kA0 rfl rfl (Nat.le_of_ble_eq_true rfl) ⟨A, k, a, b, rfl, hC, hab, (by first | assumption | omega), (by first | assumption | omega), fun rr5 hp6 => ?_⟩
    show WP kX2_linkType X 44 [some (2, ((327682 : Nat) : Int)), some (0, k), some (2, ((A : Nat) : Int)), some (2, ((B : Nat) : Int)), some (2, ((f : Nat) : Int)), none] [(0, rr5)] G
    refine s_if_ne (tgt := 55) dX2_linkType_44 (by decide) (fun c7 => ?_) (fun c7 => ?_)
    · -- 44 to 55
      refine s_aload dX2_linkType_55 rfl (Int.natCast_nonneg _) ?_
      refine s_iload_n dX2_linkType_57 rfl ?_
      refine s_callV (as := [(0, k)]) (rest := []) (n := f) (ci := 1) gX0_putTypeHole dX2_linkType_58 m_1318 m_749 m_1482 m_711 m_76 ⟨by decide, by decide, show (parseMethodDescriptor yX0_putTypeHole.desc).map (fun d => d.parameters.length) = some 1 from by decide +kernel⟩ (Nat.le_of_ble_eq_true rfl) (by rw [hcf]; exact Nat.le_of_ble_eq_true rfl) kf0 rfl rfl (Nat.le_of_ble_eq_true rfl) ⟨f, k, a, b, rfl, hC, hab, (by first | assumption | omega), (by first | assumption | omega), fun G8 hCG8 hXG8 hfG8 hpG8 => ?_⟩
      have hFG8 : WX (fun x => x = 327691 ∨ (f + 1 ≤ x ∧ x ≤ f + 22)) G G8 := WX.trans WX.rf KX.rf (WX.mono hfG8 (fun x hx => by omega))
      have hFIG8 : ∀ k : Nat, k < 6 → FIP P G8 262144 k := fun k hk => FIP.sm (hFI k hk) hXG8 hfG8 (by show ¬ _; omega) (congrFun (hfG8 262149 (KX.al KX.rf (kne k262149 (by decide))) (by show ¬ _; omega)) k)
      have hFfG8 : FPa P G8 f := (hFf).wx hXG8 hfG8 ⟨KX.al KX.rf (kne kf3 (by decide)), KX.al KX.rf (kne kf4 (by decide))⟩ (by show ¬ _; omega) (by show ¬ _; omega) (fun p hp => by show ¬ _; omega)
      have hSZG8 : ∀ k : Nat, k < 6 → gS G8 262149 k ≤ 200 := fun k hk => by rw [hfG8 262149 (KX.al KX.rf (kne k262149 (by decide))) (by show ¬ _; omega)]; exact hSZ k hk
      show WP kX2_linkType X 61 [some (2, ((327682 : Nat) : Int)), some (0, k), some (2, ((A : Nat) : Int)), some (2, ((B : Nat) : Int)), some (2, ((f : Nat) : Int)), none] [] G8
      refine s_aload_n dX2_linkType_61 rfl (Int.natCast_nonneg _) ?_
      have hk10 : gK G8 (A) = (9, 0) := ((hXG8).k kA0 (by decide))
      refine s_alv (A) (by simp) (fun al11 => ?_)
      have hv12 : gS G8 A 1 = ((A + 1 : Nat) : Int) := by have h9 : (gS G8 A 1) = (((A % 1048576) + 1 : Nat) : Int) := hCG8.1.v (j := 1) (by rw [cde_n (by omega) (by omega)]; omega : cde A = 101) al11 (by rw [hk10]; exact Nat.le_of_ble_eq_true rfl); omega
      refine s_getf (ci := 1) (k := 1) (C := RX0) (T := TX0) (N := 7) (n := A) (L := 0) (t := 2) dX2_linkType_62 rfl wi_65 m_573 (Nat.le_of_ble_eq_true rfl) rfl rfl hk10 hv12 ?_
      refine s_iload_n dX2_linkType_65 rfl ?_
      have hk13 : gK G8 (A + 1) = (1, 6) := ((hXG8).k kA1 (by decide))
      refine s_iald dX2_linkType_66 hk13 (by omega) (by omega) rfl ?_
      refine s_iconst dX2_linkType_67 (by decide) ?_
      refine s_icmp_ne (tgt := 81) dX2_linkType_68 (by decide) (fun c14 => ?_) (fun c14 => ?_)
      · -- 68 to 81
        refine s_iconst dX2_linkType_81 (by decide) ?_
        exact s_iret hR dX2_linkType_82 rfl (hQ 0 G8 hCG8 hXG8 hFG8 hFfG8)
      · -- 68 to 71
        refine s_aload_n dX2_linkType_71 rfl (Int.natCast_nonneg _) ?_
        have hk15 : gK G8 (B) = (9, 0) := ((hXG8).k kB0 (by decide))
        refine s_alv (B) (by simp) (fun al16 => ?_)
        have hv17 : gS G8 B 1 = ((B + 1 : Nat) : Int) := by have h9 : (gS G8 B 1) = (((B % 1048576) + 1 : Nat) : Int) := hCG8.1.v (j := 1) (by rw [cde_n (by omega) (by omega)]; omega : cde B = 101) al16 (by rw [hk15]; exact Nat.le_of_ble_eq_true rfl); omega
        refine s_getf (ci := 1) (k := 1) (C := RX0) (T := TX0) (N := 7) (n := B) (L := 0) (t := 2) dX2_linkType_72 rfl wi_65 m_573 (Nat.le_of_ble_eq_true rfl) rfl rfl hk15 hv17 ?_
        refine s_iload_n dX2_linkType_75 rfl ?_
        have hk18 : gK G8 (B + 1) = (1, 6) := ((hXG8).k kB1 (by decide))
        refine s_iald dX2_linkType_76 hk18 (by omega) (by omega) rfl ?_
        refine s_iconst dX2_linkType_77 (by decide) ?_
        refine s_icmp_eq (tgt := 83) dX2_linkType_78 (by decide) (fun c19 => ?_) (fun c19 => ?_)
        · -- 78 to 83
          refine s_aload_n dX2_linkType_83 rfl (Int.natCast_nonneg _) ?_
          have hk20 : gK G8 (327682) = (11, 0) := ((hXG8).k k327682 (by decide))
          refine s_alv (327682) (by simp) (fun al21 => ?_)
          have hv22 : gS G8 327682 2 = ((262144 : Nat) : Int) := by have h9 : (gS G8 327682 2) = 262144 := hCG8.1.v (j := 2) (by decide : cde 327682 = 502) al21 (by rw [hk20]; exact Nat.le_of_ble_eq_true rfl); omega
          refine s_getf (ci := 3) (k := 2) (C := RX2) (T := TX2) (N := 8) (n := 327682) (L := 0) (t := 2) dX2_linkType_84 rfl wi_70 m_577 (Nat.le_of_ble_eq_true rfl) rfl rfl hk20 hv22 ?_
          refine s_aload_n dX2_linkType_87 rfl (Int.natCast_nonneg _) ?_
          have hv23 : gS G8 B 3 = ((B + 3 : Nat) : Int) := by have h9 : (gS G8 B 3) = (((B % 1048576) + 3 : Nat) : Int) := hCG8.1.v (j := 3) (by rw [cde_n (by omega) (by omega)]; omega : cde B = 101) al16 (by rw [hk15]; exact Nat.le_of_ble_eq_true rfl); omega
          refine s_getf (ci := 1) (k := 3) (C := RX0) (T := TX0) (N := 7) (n := B) (L := 0) (t := 2) dX2_linkType_88 rfl wi_65 m_574 (Nat.le_of_ble_eq_true rfl) rfl rfl hk15 hv23 ?_
          refine s_iload_n dX2_linkType_91 rfl ?_
          have hk24 : gK G8 (B + 3) = (4, 16) := ((hXG8).k kB3 (by decide))
          refine s_alv (B + 3) (by simp) (fun al25 => ?_)
          have hv27b : 0 ≤ (gS G8 (B + 3) (k : Int).toNat) ∧ (gS G8 (B + 3) (k : Int).toNat) % 1048576 = ((((B + 3) % 1048576) + 4 + ((k : Int).toNat) : Nat) : Int) := hCG8.1.v (j := (k : Int).toNat) (by rw [cde_n (by omega) (by omega)]; omega : cde (B + 3) = 104) al25 (by rw [hk24]; show (k : Int).toNat < 16; omega)
          obtain ⟨q26, hv27⟩ : ∃ q : Nat, gS G8 (B + 3) (k : Int).toNat = (q : Int) := ⟨(gS G8 (B + 3) (k : Int).toNat).toNat, by omega⟩
          rw [hv27] at hv27b
          refine s_aald4 dX2_linkType_92 hk24 (by omega) (by omega) hv27 ?_
          refine s_aload_n dX2_linkType_93 rfl (Int.natCast_nonneg _) ?_
          have hv28 : gS G8 B 4 = ((B + 4 : Nat) : Int) := by have h9 : (gS G8 B 4) = (((B % 1048576) + 4 : Nat) : Int) := hCG8.1.v (j := 4) (by rw [cde_n (by omega) (by omega)]; omega : cde B = 101) al16 (by rw [hk15]; exact Nat.le_of_ble_eq_true rfl); omega
          refine s_getf (ci := 1) (k := 4) (C := RX0) (T := TX0) (N := 7) (n := B) (L := 0) (t := 2) dX2_linkType_94 rfl wi_65 m_575 (Nat.le_of_ble_eq_true rfl) rfl rfl hk15 hv28 ?_
          refine s_iload_n dX2_linkType_97 rfl ?_
          have hk29 : gK G8 (B + 4) = (1, 16) := ((hXG8).k kB4 (by decide))
          refine s_alv (B + 4) (by simp) (fun al30 => ?_)
          have hv31 : 0 ≤ (gS G8 (B + 4) (k : Int).toNat) ∧ (gS G8 (B + 4) (k : Int).toNat) ≤ 200 := hCG8.1.v (j := (k : Int).toNat) (by rw [cde_n (by omega) (by omega)]; omega : cde (B + 4) = 105) al30 (by rw [hk29]; show (k : Int).toNat < 16; omega)
          refine s_iald dX2_linkType_98 hk29 (by omega) (by omega) rfl ?_
          refine s_aload_n dX2_linkType_99 rfl (Int.natCast_nonneg _) ?_
          have hv32 : gS G8 327682 6 = ((327691 : Nat) : Int) := by have h9 : (gS G8 327682 6) = 327691 := hCG8.1.v (j := 6) (by decide : cde 327682 = 502) al21 (by rw [hk20]; exact Nat.le_of_ble_eq_true rfl); omega
          refine s_getf (ci := 3) (k := 6) (C := RX2) (T := TX2) (N := 8) (n := 327682) (L := 0) (t := 2) dX2_linkType_100 rfl wi_70 m_582 (Nat.le_of_ble_eq_true rfl) rfl rfl hk20 hv32 ?_
          refine s_alv (q26) (by simp) (fun al33 => ?_)
          obtain ⟨L35, hk34, hL35a, hL35b⟩ := hCG8.1.kr (show 108 ≤ cde q26 ∧ cde q26 < 124 from by rw [cde_n (by omega) (by omega)]; omega) al33
          have hk36 : gK G8 (327691) = (1, 200) := ((hXG8).k k327691 (by decide))
          have hk39 : gK G8 (262144) = (10, 0) := ((hXG8).k k262144 (by decide))
          refine s_callV (as := [(2, ((q26 : Nat) : Int)), (0, gS G8 (B + 4) ((k : Int).toNat)), (2, ((327691 : Nat) : Int))]) (rest := []) (n := 262144) (ci := 2) gX1_put dX2_linkType_103 m_1319 m_918 m_1493 m_712 m_260 ⟨by decide, by decide, show (parseMethodDescriptor yX1_put.desc).map (fun d => d.parameters.length) = some 3 from by decide +kernel⟩ (Nat.le_of_ble_eq_true rfl) (by rw [hcf]; exact Nat.le_of_ble_eq_true rfl) hk39 rfl rfl (Nat.le_of_ble_eq_true rfl) ⟨262144, q26, L35, gS G8 (B + 4) ((k : Int).toNat), 327691, a, b, rfl, hCG8, hab, (by assumption), hk34, (by omega), hk36, (by exact FRW.s), (by omega), (by omega), (by omega), fun rr38 G37 hCG37 hXG37 hfG37 hpG37 => ?_⟩
          have hFG37 : WX (fun x => x = 327691 ∨ (f + 1 ≤ x ∧ x ≤ f + 22)) G G37 := WX.trans hFG8 hXG8 (WX.mono hfG37 (fun x hx => by omega))
          have hFIG37 : ∀ k : Nat, k < 6 → FIP P G37 262144 k := fun k hk => FIP.sm (hFIG8 k hk) hXG37 hfG37 (by show ¬ _; omega) (congrFun (hfG37 262149 (KX.al hXG8 (kne k262149 (by decide))) (by show ¬ _; omega)) k)
          have hFfG37 : FPa P G37 f := (hFfG8).wx hXG37 hfG37 ⟨KX.al hXG8 (kne kf3 (by decide)), KX.al hXG8 (kne kf4 (by decide))⟩ (by show ¬ _; omega) (by show ¬ _; omega) (fun p hp => by show ¬ _; omega)
          have hSZG37 : ∀ k : Nat, k < 6 → gS G37 262149 k ≤ 200 := fun k hk => by rw [hfG37 262149 (KX.al hXG8 (kne k262149 (by decide))) (by show ¬ _; omega)]; exact hSZG8 k hk
          show WP kX2_linkType X 106 [some (2, ((327682 : Nat) : Int)), some (0, k), some (2, ((A : Nat) : Int)), some (2, ((B : Nat) : Int)), some (2, ((f : Nat) : Int)), none] [(0, rr38)] G37
          refine s_istore dX2_linkType_106 (by decide) (lv' := [some (2, ((327682 : Nat) : Int)), some (0, k), some (2, ((A : Nat) : Int)), some (2, ((B : Nat) : Int)), some (2, ((f : Nat) : Int)), some (0, rr38)]) rfl ?_
          refine s_aload_n dX2_linkType_108 rfl (Int.natCast_nonneg _) ?_
          have hk40 : gK G37 (327682) = (11, 0) := ((hXG37).k hk20 (by decide))
          refine s_alv (327682) (by simp) (fun al41 => ?_)
          have hv42 : gS G37 327682 6 = ((327691 : Nat) : Int) := by have h9 : (gS G37 327682 6) = 327691 := hCG37.1.v (j := 6) (by decide : cde 327682 = 502) al41 (by rw [hk40]; exact Nat.le_of_ble_eq_true rfl); omega
          refine s_getf (ci := 3) (k := 6) (C := RX2) (T := TX2) (N := 8) (n := 327682) (L := 0) (t := 2) dX2_linkType_109 rfl wi_70 m_582 (Nat.le_of_ble_eq_true rfl) rfl rfl hk40 hv42 ?_
          refine s_iload dX2_linkType_112 rfl ?_
          refine s_aload_n dX2_linkType_114 rfl (Int.natCast_nonneg _) ?_
          have hv43 : gS G37 327682 2 = ((262144 : Nat) : Int) := by have h9 : (gS G37 327682 2) = 262144 := hCG37.1.v (j := 2) (by decide : cde 327682 = 502) al41 (by rw [hk40]; exact Nat.le_of_ble_eq_true rfl); omega
          refine s_getf (ci := 3) (k := 2) (C := RX2) (T := TX2) (N := 8) (n := 327682) (L := 0) (t := 2) dX2_linkType_115 rfl wi_70 m_577 (Nat.le_of_ble_eq_true rfl) rfl rfl hk40 hv43 ?_
          have hk44 : gK G37 (262144) = (10, 0) := ((hXG37).k hk39 (by decide))
          refine s_alv (262144) (by simp) (fun al45 => ?_)
          have hv46 : gS G37 262144 3 = ((262148 : Nat) : Int) := by have h9 : (gS G37 262144 3) = (((262144 % 1048576) + 4 : Nat) : Int) := hCG37.1.v (j := 3) (by decide : cde 262144 = 400) al45 (by rw [hk44]; exact Nat.le_of_ble_eq_true rfl); omega
          refine s_getf (ci := 2) (k := 3) (C := RX1) (T := TX1) (N := 5) (n := 262144) (L := 0) (t := 2) dX2_linkType_118 rfl wi_66 m_579 (Nat.le_of_ble_eq_true rfl) rfl rfl hk44 hv46 ?_
          refine s_iload_n dX2_linkType_121 rfl ?_
          have hk47 : gK G37 (262148) = (4, 6) := ((hXG37).k ((hXG8).k k262148 (by decide)) (by decide))
          refine s_alv (262148) (by simp) (fun al48 => ?_)
          have hv50b : (gS G37 262148 (k : Int).toNat) = (((262148 % 1048576) + 12 + ((k : Int).toNat) : Nat) : Int) := hCG37.1.v (j := (k : Int).toNat) (by decide : cde 262148 = 404) al48 (by rw [hk47]; show (k : Int).toNat < 6; omega)
          obtain ⟨q49, hv50⟩ : ∃ q : Nat, gS G37 262148 (k : Int).toNat = (q : Int) := ⟨(gS G37 262148 (k : Int).toNat).toNat, by omega⟩
          rw [hv50] at hv50b
          refine s_aald4 dX2_linkType_122 hk47 (by omega) (by omega) hv50 ?_
          refine s_aload_n dX2_linkType_123 rfl (Int.natCast_nonneg _) ?_
          have hv51 : gS G37 327682 2 = ((262144 : Nat) : Int) := by have h9 : (gS G37 327682 2) = 262144 := hCG37.1.v (j := 2) (by decide : cde 327682 = 502) al41 (by rw [hk40]; exact Nat.le_of_ble_eq_true rfl); omega
          refine s_getf (ci := 3) (k := 2) (C := RX2) (T := TX2) (N := 8) (n := 327682) (L := 0) (t := 2) dX2_linkType_124 rfl wi_70 m_577 (Nat.le_of_ble_eq_true rfl) rfl rfl hk40 hv51 ?_
          have hv52 : gS G37 262144 4 = ((262149 : Nat) : Int) := by have h9 : (gS G37 262144 4) = (((262144 % 1048576) + 5 : Nat) : Int) := hCG37.1.v (j := 4) (by decide : cde 262144 = 400) al45 (by rw [hk44]; exact Nat.le_of_ble_eq_true rfl); omega
          refine s_getf (ci := 2) (k := 4) (C := RX1) (T := TX1) (N := 5) (n := 262144) (L := 0) (t := 2) dX2_linkType_127 rfl wi_66 m_578 (Nat.le_of_ble_eq_true rfl) rfl rfl hk44 hv52 ?_
          refine s_iload_n dX2_linkType_130 rfl ?_
          have hk53 : gK G37 (262149) = (1, 6) := ((hXG37).k ((hXG8).k k262149 (by decide)) (by decide))
          refine s_alv (262149) (by simp) (fun al54 => ?_)
          have hv55 : 0 ≤ (gS G37 262149 (k : Int).toNat) ∧ (gS G37 262149 (k : Int).toNat) ≤ 201 := hCG37.1.v (j := (k : Int).toNat) (by decide : cde 262149 = 405) al54 (by rw [hk53]; show (k : Int).toNat < 6; omega)
          refine s_iald dX2_linkType_131 hk53 (by omega) (by omega) rfl ?_
          have hk56 : gK G37 (327691) = (1, 200) := ((hXG37).k hk36 (by decide))
          refine s_alv (q49) (by simp) (fun al57 => ?_)
          have hk58 := hCG37.1.kf (show (408 ≤ cde q49 ∧ cde q49 < 414) ∨ (416 ≤ cde q49 ∧ cde q49 < 422) from by rw [cde_f (by omega) (by omega)]; omega) al57
          refine s_callSN (own := RX2) rfl (by decide +kernel) (as := [(2, ((327691 : Nat) : Int)), (0, rr38), (2, ((q49 : Nat) : Int)), (0, gS G37 262149 ((k : Int).toNat))]) (rest := []) gX11_isSameRow dX2_linkType_132 m_1778 m_714 m_98 ⟨by decide, by decide, show (parseMethodDescriptor yX11_isSameRow.desc).map (fun d => d.parameters.length) = some 4 from by decide +kernel⟩ (Nat.le_of_ble_eq_true rfl) (by rw [hcf]; exact Nat.le_of_ble_eq_true rfl) rfl (Nat.le_of_ble_eq_true rfl) ⟨327691, 200, rr38, q49, 200, gS G37 262149 ((k : Int).toNat), rfl, hk56, (by first | assumption | omega), hk58, (by first | assumption | omega), fun rr59 hp60 => ?_⟩
          show WP kX2_linkType X 135 [some (2, ((327682 : Nat) : Int)), some (0, k), some (2, ((A : Nat) : Int)), some (2, ((B : Nat) : Int)), some (2, ((f : Nat) : Int)), some (0, rr38)] [(0, rr59)] G37
          refine s_if_eq (tgt := 142) dX2_linkType_135 (by decide) (fun c61 => ?_) (fun c61 => ?_)
          · -- 135 to 142
            refine s_iconst dX2_linkType_142 (by decide) ?_
            refine s_iload_n dX2_linkType_143 rfl ?_
            refine s_callSN (own := RX2) rfl (by decide +kernel) (as := [(0, 4), (0, k)]) (rest := []) gX11_typeMistake dX2_linkType_144 m_1783 m_714 m_125 ⟨by decide, by decide, show (parseMethodDescriptor yX11_typeMistake.desc).map (fun d => d.parameters.length) = some 2 from by decide +kernel⟩ (Nat.le_of_ble_eq_true rfl) (by rw [hcf]; exact Nat.le_of_ble_eq_true rfl) rfl (Nat.le_of_ble_eq_true rfl) ⟨4, k, rfl, (by first | assumption | omega), (by first | assumption | omega), fun rr62 hp63 => ?_⟩
            show WP kX2_linkType X 147 [some (2, ((327682 : Nat) : Int)), some (0, k), some (2, ((A : Nat) : Int)), some (2, ((B : Nat) : Int)), some (2, ((f : Nat) : Int)), some (0, rr38)] [(0, rr62)] G37
            exact s_iret hR dX2_linkType_147 rfl (hQ rr62 G37 hCG37 (KX.trans hXG8 hXG37) hFG37 hFfG37)
          · -- 135 to 138
            refine s_iconst dX2_linkType_138 (by decide) ?_
            refine s_goto (tgt := 147) dX2_linkType_139 (by decide) ?_
            exact s_iret hR dX2_linkType_147 rfl (hQ 0 G37 hCG37 (KX.trans hXG8 hXG37) hFG37 hFfG37)
        · -- 78 to 81
          refine s_iconst dX2_linkType_81 (by decide) ?_
          exact s_iret hR dX2_linkType_82 rfl (hQ 0 G8 hCG8 hXG8 hFG8 hFfG8)
    · -- 44 to 47
      refine s_aload_n dX2_linkType_47 rfl (Int.natCast_nonneg _) ?_
      refine s_iload_n dX2_linkType_48 rfl ?_
      refine s_callV (as := [(0, k)]) (rest := []) (n := B) (ci := 1) gX0_hasType dX2_linkType_49 m_1317 m_738 m_1472 m_711 m_65 ⟨by decide, by decide, show (parseMethodDescriptor yX0_hasType.desc).map (fun d => d.parameters.length) = some 1 from by decide +kernel⟩ (Nat.le_of_ble_eq_true rfl) (by rw [hcf]; exact Nat.le_of_ble_eq_true rfl) kB0 rfl rfl (Nat.le_of_ble_eq_true rfl) ⟨B, k, a, b, rfl, hC, hab, (by first | assumption | omega), (by first | assumption | omega), fun rr64 hp65 => ?_⟩
      show WP kX2_linkType X 52 [some (2, ((327682 : Nat) : Int)), some (0, k), some (2, ((A : Nat) : Int)), some (2, ((B : Nat) : Int)), some (2, ((f : Nat) : Int)), none] [(0, rr64)] G
      refine s_if_eq (tgt := 61) dX2_linkType_52 (by decide) (fun c66 => ?_) (fun c66 => ?_)
      · -- 52 to 61
        refine s_aload_n dX2_linkType_61 rfl (Int.natCast_nonneg _) ?_
        have hv67 : gS G A 1 = ((A + 1 : Nat) : Int) := by have h9 : (gS G A 1) = (((A % 1048576) + 1 : Nat) : Int) := hC.1.v (j := 1) (by rw [cde_n (by omega) (by omega)]; omega : cde A = 101) (kne kA0 (by decide)) (by rw [kA0]; exact Nat.le_of_ble_eq_true rfl); omega
        refine s_getf (ci := 1) (k := 1) (C := RX0) (T := TX0) (N := 7) (n := A) (L := 0) (t := 2) dX2_linkType_62 rfl wi_65 m_573 (Nat.le_of_ble_eq_true rfl) rfl rfl kA0 hv67 ?_
        refine s_iload_n dX2_linkType_65 rfl ?_
        refine s_iald dX2_linkType_66 kA1 (by omega) (by omega) rfl ?_
        refine s_iconst dX2_linkType_67 (by decide) ?_
        refine s_icmp_ne (tgt := 81) dX2_linkType_68 (by decide) (fun c68 => ?_) (fun c68 => ?_)
        · -- 68 to 81
          refine s_iconst dX2_linkType_81 (by decide) ?_
          exact s_iret hR dX2_linkType_82 rfl (hQ 0 G hC KX.rf WX.rf hFf)
        · -- 68 to 71
          refine s_aload_n dX2_linkType_71 rfl (Int.natCast_nonneg _) ?_
          have hv69 : gS G B 1 = ((B + 1 : Nat) : Int) := by have h9 : (gS G B 1) = (((B % 1048576) + 1 : Nat) : Int) := hC.1.v (j := 1) (by rw [cde_n (by omega) (by omega)]; omega : cde B = 101) (kne kB0 (by decide)) (by rw [kB0]; exact Nat.le_of_ble_eq_true rfl); omega
          refine s_getf (ci := 1) (k := 1) (C := RX0) (T := TX0) (N := 7) (n := B) (L := 0) (t := 2) dX2_linkType_72 rfl wi_65 m_573 (Nat.le_of_ble_eq_true rfl) rfl rfl kB0 hv69 ?_
          refine s_iload_n dX2_linkType_75 rfl ?_
          refine s_iald dX2_linkType_76 kB1 (by omega) (by omega) rfl ?_
          refine s_iconst dX2_linkType_77 (by decide) ?_
          refine s_icmp_eq (tgt := 83) dX2_linkType_78 (by decide) (fun c70 => ?_) (fun c70 => ?_)
          · -- 78 to 83
            refine s_aload_n dX2_linkType_83 rfl (Int.natCast_nonneg _) ?_
            have hv71 : gS G 327682 2 = ((262144 : Nat) : Int) := by have h9 : (gS G 327682 2) = 262144 := hC.1.v (j := 2) (by decide : cde 327682 = 502) (kne k327682 (by decide)) (by rw [k327682]; exact Nat.le_of_ble_eq_true rfl); omega
            refine s_getf (ci := 3) (k := 2) (C := RX2) (T := TX2) (N := 8) (n := 327682) (L := 0) (t := 2) dX2_linkType_84 rfl wi_70 m_577 (Nat.le_of_ble_eq_true rfl) rfl rfl k327682 hv71 ?_
            refine s_aload_n dX2_linkType_87 rfl (Int.natCast_nonneg _) ?_
            have hv72 : gS G B 3 = ((B + 3 : Nat) : Int) := by have h9 : (gS G B 3) = (((B % 1048576) + 3 : Nat) : Int) := hC.1.v (j := 3) (by rw [cde_n (by omega) (by omega)]; omega : cde B = 101) (kne kB0 (by decide)) (by rw [kB0]; exact Nat.le_of_ble_eq_true rfl); omega
            refine s_getf (ci := 1) (k := 3) (C := RX0) (T := TX0) (N := 7) (n := B) (L := 0) (t := 2) dX2_linkType_88 rfl wi_65 m_574 (Nat.le_of_ble_eq_true rfl) rfl rfl kB0 hv72 ?_
            refine s_iload_n dX2_linkType_91 rfl ?_
            have hv74b : 0 ≤ (gS G (B + 3) (k : Int).toNat) ∧ (gS G (B + 3) (k : Int).toNat) % 1048576 = ((((B + 3) % 1048576) + 4 + ((k : Int).toNat) : Nat) : Int) := hC.1.v (j := (k : Int).toNat) (by rw [cde_n (by omega) (by omega)]; omega : cde (B + 3) = 104) (kne kB3 (by decide)) (by rw [kB3]; show (k : Int).toNat < 16; omega)
            obtain ⟨q73, hv74⟩ : ∃ q : Nat, gS G (B + 3) (k : Int).toNat = (q : Int) := ⟨(gS G (B + 3) (k : Int).toNat).toNat, by omega⟩
            rw [hv74] at hv74b
            refine s_aald4 dX2_linkType_92 kB3 (by omega) (by omega) hv74 ?_
            refine s_aload_n dX2_linkType_93 rfl (Int.natCast_nonneg _) ?_
            have hv75 : gS G B 4 = ((B + 4 : Nat) : Int) := by have h9 : (gS G B 4) = (((B % 1048576) + 4 : Nat) : Int) := hC.1.v (j := 4) (by rw [cde_n (by omega) (by omega)]; omega : cde B = 101) (kne kB0 (by decide)) (by rw [kB0]; exact Nat.le_of_ble_eq_true rfl); omega
            refine s_getf (ci := 1) (k := 4) (C := RX0) (T := TX0) (N := 7) (n := B) (L := 0) (t := 2) dX2_linkType_94 rfl wi_65 m_575 (Nat.le_of_ble_eq_true rfl) rfl rfl kB0 hv75 ?_
            refine s_iload_n dX2_linkType_97 rfl ?_
            have hv76 : 0 ≤ (gS G (B + 4) (k : Int).toNat) ∧ (gS G (B + 4) (k : Int).toNat) ≤ 200 := hC.1.v (j := (k : Int).toNat) (by rw [cde_n (by omega) (by omega)]; omega : cde (B + 4) = 105) (kne kB4 (by decide)) (by rw [kB4]; show (k : Int).toNat < 16; omega)
            refine s_iald dX2_linkType_98 kB4 (by omega) (by omega) rfl ?_
            refine s_aload_n dX2_linkType_99 rfl (Int.natCast_nonneg _) ?_
            have hv77 : gS G 327682 6 = ((327691 : Nat) : Int) := by have h9 : (gS G 327682 6) = 327691 := hC.1.v (j := 6) (by decide : cde 327682 = 502) (kne k327682 (by decide)) (by rw [k327682]; exact Nat.le_of_ble_eq_true rfl); omega
            refine s_getf (ci := 3) (k := 6) (C := RX2) (T := TX2) (N := 8) (n := 327682) (L := 0) (t := 2) dX2_linkType_100 rfl wi_70 m_582 (Nat.le_of_ble_eq_true rfl) rfl rfl k327682 hv77 ?_
            refine s_alv (q73) (by simp) (fun al78 => ?_)
            obtain ⟨L80, hk79, hL80a, hL80b⟩ := hC.1.kr (show 108 ≤ cde q73 ∧ cde q73 < 124 from by rw [cde_n (by omega) (by omega)]; omega) al78
            refine s_callV (as := [(2, ((q73 : Nat) : Int)), (0, gS G (B + 4) ((k : Int).toNat)), (2, ((327691 : Nat) : Int))]) (rest := []) (n := 262144) (ci := 2) gX1_put dX2_linkType_103 m_1319 m_918 m_1493 m_712 m_260 ⟨by decide, by decide, show (parseMethodDescriptor yX1_put.desc).map (fun d => d.parameters.length) = some 3 from by decide +kernel⟩ (Nat.le_of_ble_eq_true rfl) (by rw [hcf]; exact Nat.le_of_ble_eq_true rfl) k262144 rfl rfl (Nat.le_of_ble_eq_true rfl) ⟨262144, q73, L80, gS G (B + 4) ((k : Int).toNat), 327691, a, b, rfl, hC, hab, (by assumption), hk79, (by omega), k327691, (by exact FRW.s), (by omega), (by omega), (by omega), fun rr82 G81 hCG81 hXG81 hfG81 hpG81 => ?_⟩
            have hFG81 : WX (fun x => x = 327691 ∨ (f + 1 ≤ x ∧ x ≤ f + 22)) G G81 := WX.trans WX.rf KX.rf (WX.mono hfG81 (fun x hx => by omega))
            have hFIG81 : ∀ k : Nat, k < 6 → FIP P G81 262144 k := fun k hk => FIP.sm (hFI k hk) hXG81 hfG81 (by show ¬ _; omega) (congrFun (hfG81 262149 (KX.al KX.rf (kne k262149 (by decide))) (by show ¬ _; omega)) k)
            have hFfG81 : FPa P G81 f := (hFf).wx hXG81 hfG81 ⟨KX.al KX.rf (kne kf3 (by decide)), KX.al KX.rf (kne kf4 (by decide))⟩ (by show ¬ _; omega) (by show ¬ _; omega) (fun p hp => by show ¬ _; omega)
            have hSZG81 : ∀ k : Nat, k < 6 → gS G81 262149 k ≤ 200 := fun k hk => by rw [hfG81 262149 (KX.al KX.rf (kne k262149 (by decide))) (by show ¬ _; omega)]; exact hSZ k hk
            show WP kX2_linkType X 106 [some (2, ((327682 : Nat) : Int)), some (0, k), some (2, ((A : Nat) : Int)), some (2, ((B : Nat) : Int)), some (2, ((f : Nat) : Int)), none] [(0, rr82)] G81
            refine s_istore dX2_linkType_106 (by decide) (lv' := [some (2, ((327682 : Nat) : Int)), some (0, k), some (2, ((A : Nat) : Int)), some (2, ((B : Nat) : Int)), some (2, ((f : Nat) : Int)), some (0, rr82)]) rfl ?_
            refine s_aload_n dX2_linkType_108 rfl (Int.natCast_nonneg _) ?_
            have hk83 : gK G81 (327682) = (11, 0) := ((hXG81).k k327682 (by decide))
            refine s_alv (327682) (by simp) (fun al84 => ?_)
            have hv85 : gS G81 327682 6 = ((327691 : Nat) : Int) := by have h9 : (gS G81 327682 6) = 327691 := hCG81.1.v (j := 6) (by decide : cde 327682 = 502) al84 (by rw [hk83]; exact Nat.le_of_ble_eq_true rfl); omega
            refine s_getf (ci := 3) (k := 6) (C := RX2) (T := TX2) (N := 8) (n := 327682) (L := 0) (t := 2) dX2_linkType_109 rfl wi_70 m_582 (Nat.le_of_ble_eq_true rfl) rfl rfl hk83 hv85 ?_
            refine s_iload dX2_linkType_112 rfl ?_
            refine s_aload_n dX2_linkType_114 rfl (Int.natCast_nonneg _) ?_
            have hv86 : gS G81 327682 2 = ((262144 : Nat) : Int) := by have h9 : (gS G81 327682 2) = 262144 := hCG81.1.v (j := 2) (by decide : cde 327682 = 502) al84 (by rw [hk83]; exact Nat.le_of_ble_eq_true rfl); omega
            refine s_getf (ci := 3) (k := 2) (C := RX2) (T := TX2) (N := 8) (n := 327682) (L := 0) (t := 2) dX2_linkType_115 rfl wi_70 m_577 (Nat.le_of_ble_eq_true rfl) rfl rfl hk83 hv86 ?_
            have hk87 : gK G81 (262144) = (10, 0) := ((hXG81).k k262144 (by decide))
            refine s_alv (262144) (by simp) (fun al88 => ?_)
            have hv89 : gS G81 262144 3 = ((262148 : Nat) : Int) := by have h9 : (gS G81 262144 3) = (((262144 % 1048576) + 4 : Nat) : Int) := hCG81.1.v (j := 3) (by decide : cde 262144 = 400) al88 (by rw [hk87]; exact Nat.le_of_ble_eq_true rfl); omega
            refine s_getf (ci := 2) (k := 3) (C := RX1) (T := TX1) (N := 5) (n := 262144) (L := 0) (t := 2) dX2_linkType_118 rfl wi_66 m_579 (Nat.le_of_ble_eq_true rfl) rfl rfl hk87 hv89 ?_
            refine s_iload_n dX2_linkType_121 rfl ?_
            have hk90 : gK G81 (262148) = (4, 6) := ((hXG81).k k262148 (by decide))
            refine s_alv (262148) (by simp) (fun al91 => ?_)
            have hv93b : (gS G81 262148 (k : Int).toNat) = (((262148 % 1048576) + 12 + ((k : Int).toNat) : Nat) : Int) := hCG81.1.v (j := (k : Int).toNat) (by decide : cde 262148 = 404) al91 (by rw [hk90]; show (k : Int).toNat < 6; omega)
            obtain ⟨q92, hv93⟩ : ∃ q : Nat, gS G81 262148 (k : Int).toNat = (q : Int) := ⟨(gS G81 262148 (k : Int).toNat).toNat, by omega⟩
            rw [hv93] at hv93b
            refine s_aald4 dX2_linkType_122 hk90 (by omega) (by omega) hv93 ?_
            refine s_aload_n dX2_linkType_123 rfl (Int.natCast_nonneg _) ?_
            have hv94 : gS G81 327682 2 = ((262144 : Nat) : Int) := by have h9 : (gS G81 327682 2) = 262144 := hCG81.1.v (j := 2) (by decide : cde 327682 = 502) al84 (by rw [hk83]; exact Nat.le_of_ble_eq_true rfl); omega
            refine s_getf (ci := 3) (k := 2) (C := RX2) (T := TX2) (N := 8) (n := 327682) (L := 0) (t := 2) dX2_linkType_124 rfl wi_70 m_577 (Nat.le_of_ble_eq_true rfl) rfl rfl hk83 hv94 ?_
            have hv95 : gS G81 262144 4 = ((262149 : Nat) : Int) := by have h9 : (gS G81 262144 4) = (((262144 % 1048576) + 5 : Nat) : Int) := hCG81.1.v (j := 4) (by decide : cde 262144 = 400) al88 (by rw [hk87]; exact Nat.le_of_ble_eq_true rfl); omega
            refine s_getf (ci := 2) (k := 4) (C := RX1) (T := TX1) (N := 5) (n := 262144) (L := 0) (t := 2) dX2_linkType_127 rfl wi_66 m_578 (Nat.le_of_ble_eq_true rfl) rfl rfl hk87 hv95 ?_
            refine s_iload_n dX2_linkType_130 rfl ?_
            have hk96 : gK G81 (262149) = (1, 6) := ((hXG81).k k262149 (by decide))
            refine s_alv (262149) (by simp) (fun al97 => ?_)
            have hv98 : 0 ≤ (gS G81 262149 (k : Int).toNat) ∧ (gS G81 262149 (k : Int).toNat) ≤ 201 := hCG81.1.v (j := (k : Int).toNat) (by decide : cde 262149 = 405) al97 (by rw [hk96]; show (k : Int).toNat < 6; omega)
            refine s_iald dX2_linkType_131 hk96 (by omega) (by omega) rfl ?_
            have hk99 : gK G81 (327691) = (1, 200) := ((hXG81).k k327691 (by decide))
            refine s_alv (q92) (by simp) (fun al100 => ?_)
            have hk101 := hCG81.1.kf (show (408 ≤ cde q92 ∧ cde q92 < 414) ∨ (416 ≤ cde q92 ∧ cde q92 < 422) from by rw [cde_f (by omega) (by omega)]; omega) al100
            refine s_callSN (own := RX2) rfl (by decide +kernel) (as := [(2, ((327691 : Nat) : Int)), (0, rr82), (2, ((q92 : Nat) : Int)), (0, gS G81 262149 ((k : Int).toNat))]) (rest := []) gX11_isSameRow dX2_linkType_132 m_1778 m_714 m_98 ⟨by decide, by decide, show (parseMethodDescriptor yX11_isSameRow.desc).map (fun d => d.parameters.length) = some 4 from by decide +kernel⟩ (Nat.le_of_ble_eq_true rfl) (by rw [hcf]; exact Nat.le_of_ble_eq_true rfl) rfl (Nat.le_of_ble_eq_true rfl) ⟨327691, 200, rr82, q92, 200, gS G81 262149 ((k : Int).toNat), rfl, hk99, (by first | assumption | omega), hk101, (by first | assumption | omega), fun rr102 hp103 => ?_⟩
            show WP kX2_linkType X 135 [some (2, ((327682 : Nat) : Int)), some (0, k), some (2, ((A : Nat) : Int)), some (2, ((B : Nat) : Int)), some (2, ((f : Nat) : Int)), some (0, rr82)] [(0, rr102)] G81
            refine s_if_eq (tgt := 142) dX2_linkType_135 (by decide) (fun c104 => ?_) (fun c104 => ?_)
            · -- 135 to 142
              refine s_iconst dX2_linkType_142 (by decide) ?_
              refine s_iload_n dX2_linkType_143 rfl ?_
              refine s_callSN (own := RX2) rfl (by decide +kernel) (as := [(0, 4), (0, k)]) (rest := []) gX11_typeMistake dX2_linkType_144 m_1783 m_714 m_125 ⟨by decide, by decide, show (parseMethodDescriptor yX11_typeMistake.desc).map (fun d => d.parameters.length) = some 2 from by decide +kernel⟩ (Nat.le_of_ble_eq_true rfl) (by rw [hcf]; exact Nat.le_of_ble_eq_true rfl) rfl (Nat.le_of_ble_eq_true rfl) ⟨4, k, rfl, (by first | assumption | omega), (by first | assumption | omega), fun rr105 hp106 => ?_⟩
              show WP kX2_linkType X 147 [some (2, ((327682 : Nat) : Int)), some (0, k), some (2, ((A : Nat) : Int)), some (2, ((B : Nat) : Int)), some (2, ((f : Nat) : Int)), some (0, rr82)] [(0, rr105)] G81
              exact s_iret hR dX2_linkType_147 rfl (hQ rr105 G81 hCG81 hXG81 hFG81 hFfG81)
            · -- 135 to 138
              refine s_iconst dX2_linkType_138 (by decide) ?_
              refine s_goto (tgt := 147) dX2_linkType_139 (by decide) ?_
              exact s_iret hR dX2_linkType_147 rfl (hQ 0 G81 hCG81 hXG81 hFG81 hFfG81)
          · -- 78 to 81
            refine s_iconst dX2_linkType_81 (by decide) ?_
            exact s_iret hR dX2_linkType_82 rfl (hQ 0 G hC KX.rf WX.rf hFf)
      · -- 52 to 55
        refine s_aload dX2_linkType_55 rfl (Int.natCast_nonneg _) ?_
        refine s_iload_n dX2_linkType_57 rfl ?_
        refine s_callV (as := [(0, k)]) (rest := []) (n := f) (ci := 1) gX0_putTypeHole dX2_linkType_58 m_1318 m_749 m_1482 m_711 m_76 ⟨by decide, by decide, show (parseMethodDescriptor yX0_putTypeHole.desc).map (fun d => d.parameters.length) = some 1 from by decide +kernel⟩ (Nat.le_of_ble_eq_true rfl) (by rw [hcf]; exact Nat.le_of_ble_eq_true rfl) kf0 rfl rfl (Nat.le_of_ble_eq_true rfl) ⟨f, k, a, b, rfl, hC, hab, (by first | assumption | omega), (by first | assumption | omega), fun G107 hCG107 hXG107 hfG107 hpG107 => ?_⟩
        have hFG107 : WX (fun x => x = 327691 ∨ (f + 1 ≤ x ∧ x ≤ f + 22)) G G107 := WX.trans WX.rf KX.rf (WX.mono hfG107 (fun x hx => by omega))
        have hFIG107 : ∀ k : Nat, k < 6 → FIP P G107 262144 k := fun k hk => FIP.sm (hFI k hk) hXG107 hfG107 (by show ¬ _; omega) (congrFun (hfG107 262149 (KX.al KX.rf (kne k262149 (by decide))) (by show ¬ _; omega)) k)
        have hFfG107 : FPa P G107 f := (hFf).wx hXG107 hfG107 ⟨KX.al KX.rf (kne kf3 (by decide)), KX.al KX.rf (kne kf4 (by decide))⟩ (by show ¬ _; omega) (by show ¬ _; omega) (fun p hp => by show ¬ _; omega)
        have hSZG107 : ∀ k : Nat, k < 6 → gS G107 262149 k ≤ 200 := fun k hk => by rw [hfG107 262149 (KX.al KX.rf (kne k262149 (by decide))) (by show ¬ _; omega)]; exact hSZ k hk
        show WP kX2_linkType X 61 [some (2, ((327682 : Nat) : Int)), some (0, k), some (2, ((A : Nat) : Int)), some (2, ((B : Nat) : Int)), some (2, ((f : Nat) : Int)), none] [] G107
        refine s_aload_n dX2_linkType_61 rfl (Int.natCast_nonneg _) ?_
        have hk109 : gK G107 (A) = (9, 0) := ((hXG107).k kA0 (by decide))
        refine s_alv (A) (by simp) (fun al110 => ?_)
        have hv111 : gS G107 A 1 = ((A + 1 : Nat) : Int) := by have h9 : (gS G107 A 1) = (((A % 1048576) + 1 : Nat) : Int) := hCG107.1.v (j := 1) (by rw [cde_n (by omega) (by omega)]; omega : cde A = 101) al110 (by rw [hk109]; exact Nat.le_of_ble_eq_true rfl); omega
        refine s_getf (ci := 1) (k := 1) (C := RX0) (T := TX0) (N := 7) (n := A) (L := 0) (t := 2) dX2_linkType_62 rfl wi_65 m_573 (Nat.le_of_ble_eq_true rfl) rfl rfl hk109 hv111 ?_
        refine s_iload_n dX2_linkType_65 rfl ?_
        have hk112 : gK G107 (A + 1) = (1, 6) := ((hXG107).k kA1 (by decide))
        refine s_iald dX2_linkType_66 hk112 (by omega) (by omega) rfl ?_
        refine s_iconst dX2_linkType_67 (by decide) ?_
        refine s_icmp_ne (tgt := 81) dX2_linkType_68 (by decide) (fun c113 => ?_) (fun c113 => ?_)
        · -- 68 to 81
          refine s_iconst dX2_linkType_81 (by decide) ?_
          exact s_iret hR dX2_linkType_82 rfl (hQ 0 G107 hCG107 hXG107 hFG107 hFfG107)
        · -- 68 to 71
          refine s_aload_n dX2_linkType_71 rfl (Int.natCast_nonneg _) ?_
          have hk114 : gK G107 (B) = (9, 0) := ((hXG107).k kB0 (by decide))
          refine s_alv (B) (by simp) (fun al115 => ?_)
          have hv116 : gS G107 B 1 = ((B + 1 : Nat) : Int) := by have h9 : (gS G107 B 1) = (((B % 1048576) + 1 : Nat) : Int) := hCG107.1.v (j := 1) (by rw [cde_n (by omega) (by omega)]; omega : cde B = 101) al115 (by rw [hk114]; exact Nat.le_of_ble_eq_true rfl); omega
          refine s_getf (ci := 1) (k := 1) (C := RX0) (T := TX0) (N := 7) (n := B) (L := 0) (t := 2) dX2_linkType_72 rfl wi_65 m_573 (Nat.le_of_ble_eq_true rfl) rfl rfl hk114 hv116 ?_
          refine s_iload_n dX2_linkType_75 rfl ?_
          have hk117 : gK G107 (B + 1) = (1, 6) := ((hXG107).k kB1 (by decide))
          refine s_iald dX2_linkType_76 hk117 (by omega) (by omega) rfl ?_
          refine s_iconst dX2_linkType_77 (by decide) ?_
          refine s_icmp_eq (tgt := 83) dX2_linkType_78 (by decide) (fun c118 => ?_) (fun c118 => ?_)
          · -- 78 to 83
            refine s_aload_n dX2_linkType_83 rfl (Int.natCast_nonneg _) ?_
            have hk119 : gK G107 (327682) = (11, 0) := ((hXG107).k k327682 (by decide))
            refine s_alv (327682) (by simp) (fun al120 => ?_)
            have hv121 : gS G107 327682 2 = ((262144 : Nat) : Int) := by have h9 : (gS G107 327682 2) = 262144 := hCG107.1.v (j := 2) (by decide : cde 327682 = 502) al120 (by rw [hk119]; exact Nat.le_of_ble_eq_true rfl); omega
            refine s_getf (ci := 3) (k := 2) (C := RX2) (T := TX2) (N := 8) (n := 327682) (L := 0) (t := 2) dX2_linkType_84 rfl wi_70 m_577 (Nat.le_of_ble_eq_true rfl) rfl rfl hk119 hv121 ?_
            refine s_aload_n dX2_linkType_87 rfl (Int.natCast_nonneg _) ?_
            have hv122 : gS G107 B 3 = ((B + 3 : Nat) : Int) := by have h9 : (gS G107 B 3) = (((B % 1048576) + 3 : Nat) : Int) := hCG107.1.v (j := 3) (by rw [cde_n (by omega) (by omega)]; omega : cde B = 101) al115 (by rw [hk114]; exact Nat.le_of_ble_eq_true rfl); omega
            refine s_getf (ci := 1) (k := 3) (C := RX0) (T := TX0) (N := 7) (n := B) (L := 0) (t := 2) dX2_linkType_88 rfl wi_65 m_574 (Nat.le_of_ble_eq_true rfl) rfl rfl hk114 hv122 ?_
            refine s_iload_n dX2_linkType_91 rfl ?_
            have hk123 : gK G107 (B + 3) = (4, 16) := ((hXG107).k kB3 (by decide))
            refine s_alv (B + 3) (by simp) (fun al124 => ?_)
            have hv126b : 0 ≤ (gS G107 (B + 3) (k : Int).toNat) ∧ (gS G107 (B + 3) (k : Int).toNat) % 1048576 = ((((B + 3) % 1048576) + 4 + ((k : Int).toNat) : Nat) : Int) := hCG107.1.v (j := (k : Int).toNat) (by rw [cde_n (by omega) (by omega)]; omega : cde (B + 3) = 104) al124 (by rw [hk123]; show (k : Int).toNat < 16; omega)
            obtain ⟨q125, hv126⟩ : ∃ q : Nat, gS G107 (B + 3) (k : Int).toNat = (q : Int) := ⟨(gS G107 (B + 3) (k : Int).toNat).toNat, by omega⟩
            rw [hv126] at hv126b
            refine s_aald4 dX2_linkType_92 hk123 (by omega) (by omega) hv126 ?_
            refine s_aload_n dX2_linkType_93 rfl (Int.natCast_nonneg _) ?_
            have hv127 : gS G107 B 4 = ((B + 4 : Nat) : Int) := by have h9 : (gS G107 B 4) = (((B % 1048576) + 4 : Nat) : Int) := hCG107.1.v (j := 4) (by rw [cde_n (by omega) (by omega)]; omega : cde B = 101) al115 (by rw [hk114]; exact Nat.le_of_ble_eq_true rfl); omega
            refine s_getf (ci := 1) (k := 4) (C := RX0) (T := TX0) (N := 7) (n := B) (L := 0) (t := 2) dX2_linkType_94 rfl wi_65 m_575 (Nat.le_of_ble_eq_true rfl) rfl rfl hk114 hv127 ?_
            refine s_iload_n dX2_linkType_97 rfl ?_
            have hk128 : gK G107 (B + 4) = (1, 16) := ((hXG107).k kB4 (by decide))
            refine s_alv (B + 4) (by simp) (fun al129 => ?_)
            have hv130 : 0 ≤ (gS G107 (B + 4) (k : Int).toNat) ∧ (gS G107 (B + 4) (k : Int).toNat) ≤ 200 := hCG107.1.v (j := (k : Int).toNat) (by rw [cde_n (by omega) (by omega)]; omega : cde (B + 4) = 105) al129 (by rw [hk128]; show (k : Int).toNat < 16; omega)
            refine s_iald dX2_linkType_98 hk128 (by omega) (by omega) rfl ?_
            refine s_aload_n dX2_linkType_99 rfl (Int.natCast_nonneg _) ?_
            have hv131 : gS G107 327682 6 = ((327691 : Nat) : Int) := by have h9 : (gS G107 327682 6) = 327691 := hCG107.1.v (j := 6) (by decide : cde 327682 = 502) al120 (by rw [hk119]; exact Nat.le_of_ble_eq_true rfl); omega
            refine s_getf (ci := 3) (k := 6) (C := RX2) (T := TX2) (N := 8) (n := 327682) (L := 0) (t := 2) dX2_linkType_100 rfl wi_70 m_582 (Nat.le_of_ble_eq_true rfl) rfl rfl hk119 hv131 ?_
            refine s_alv (q125) (by simp) (fun al132 => ?_)
            obtain ⟨L134, hk133, hL134a, hL134b⟩ := hCG107.1.kr (show 108 ≤ cde q125 ∧ cde q125 < 124 from by rw [cde_n (by omega) (by omega)]; omega) al132
            have hk135 : gK G107 (327691) = (1, 200) := ((hXG107).k k327691 (by decide))
            have hk138 : gK G107 (262144) = (10, 0) := ((hXG107).k k262144 (by decide))
            refine s_callV (as := [(2, ((q125 : Nat) : Int)), (0, gS G107 (B + 4) ((k : Int).toNat)), (2, ((327691 : Nat) : Int))]) (rest := []) (n := 262144) (ci := 2) gX1_put dX2_linkType_103 m_1319 m_918 m_1493 m_712 m_260 ⟨by decide, by decide, show (parseMethodDescriptor yX1_put.desc).map (fun d => d.parameters.length) = some 3 from by decide +kernel⟩ (Nat.le_of_ble_eq_true rfl) (by rw [hcf]; exact Nat.le_of_ble_eq_true rfl) hk138 rfl rfl (Nat.le_of_ble_eq_true rfl) ⟨262144, q125, L134, gS G107 (B + 4) ((k : Int).toNat), 327691, a, b, rfl, hCG107, hab, (by assumption), hk133, (by omega), hk135, (by exact FRW.s), (by omega), (by omega), (by omega), fun rr137 G136 hCG136 hXG136 hfG136 hpG136 => ?_⟩
            have hFG136 : WX (fun x => x = 327691 ∨ (f + 1 ≤ x ∧ x ≤ f + 22)) G G136 := WX.trans hFG107 hXG107 (WX.mono hfG136 (fun x hx => by omega))
            have hFIG136 : ∀ k : Nat, k < 6 → FIP P G136 262144 k := fun k hk => FIP.sm (hFIG107 k hk) hXG136 hfG136 (by show ¬ _; omega) (congrFun (hfG136 262149 (KX.al hXG107 (kne k262149 (by decide))) (by show ¬ _; omega)) k)
            have hFfG136 : FPa P G136 f := (hFfG107).wx hXG136 hfG136 ⟨KX.al hXG107 (kne kf3 (by decide)), KX.al hXG107 (kne kf4 (by decide))⟩ (by show ¬ _; omega) (by show ¬ _; omega) (fun p hp => by show ¬ _; omega)
            have hSZG136 : ∀ k : Nat, k < 6 → gS G136 262149 k ≤ 200 := fun k hk => by rw [hfG136 262149 (KX.al hXG107 (kne k262149 (by decide))) (by show ¬ _; omega)]; exact hSZG107 k hk
            show WP kX2_linkType X 106 [some (2, ((327682 : Nat) : Int)), some (0, k), some (2, ((A : Nat) : Int)), some (2, ((B : Nat) : Int)), some (2, ((f : Nat) : Int)), none] [(0, rr137)] G136
            refine s_istore dX2_linkType_106 (by decide) (lv' := [some (2, ((327682 : Nat) : Int)), some (0, k), some (2, ((A : Nat) : Int)), some (2, ((B : Nat) : Int)), some (2, ((f : Nat) : Int)), some (0, rr137)]) rfl ?_
            refine s_aload_n dX2_linkType_108 rfl (Int.natCast_nonneg _) ?_
            have hk139 : gK G136 (327682) = (11, 0) := ((hXG136).k hk119 (by decide))
            refine s_alv (327682) (by simp) (fun al140 => ?_)
            have hv141 : gS G136 327682 6 = ((327691 : Nat) : Int) := by have h9 : (gS G136 327682 6) = 327691 := hCG136.1.v (j := 6) (by decide : cde 327682 = 502) al140 (by rw [hk139]; exact Nat.le_of_ble_eq_true rfl); omega
            refine s_getf (ci := 3) (k := 6) (C := RX2) (T := TX2) (N := 8) (n := 327682) (L := 0) (t := 2) dX2_linkType_109 rfl wi_70 m_582 (Nat.le_of_ble_eq_true rfl) rfl rfl hk139 hv141 ?_
            refine s_iload dX2_linkType_112 rfl ?_
            refine s_aload_n dX2_linkType_114 rfl (Int.natCast_nonneg _) ?_
            have hv142 : gS G136 327682 2 = ((262144 : Nat) : Int) := by have h9 : (gS G136 327682 2) = 262144 := hCG136.1.v (j := 2) (by decide : cde 327682 = 502) al140 (by rw [hk139]; exact Nat.le_of_ble_eq_true rfl); omega
            refine s_getf (ci := 3) (k := 2) (C := RX2) (T := TX2) (N := 8) (n := 327682) (L := 0) (t := 2) dX2_linkType_115 rfl wi_70 m_577 (Nat.le_of_ble_eq_true rfl) rfl rfl hk139 hv142 ?_
            have hk143 : gK G136 (262144) = (10, 0) := ((hXG136).k hk138 (by decide))
            refine s_alv (262144) (by simp) (fun al144 => ?_)
            have hv145 : gS G136 262144 3 = ((262148 : Nat) : Int) := by have h9 : (gS G136 262144 3) = (((262144 % 1048576) + 4 : Nat) : Int) := hCG136.1.v (j := 3) (by decide : cde 262144 = 400) al144 (by rw [hk143]; exact Nat.le_of_ble_eq_true rfl); omega
            refine s_getf (ci := 2) (k := 3) (C := RX1) (T := TX1) (N := 5) (n := 262144) (L := 0) (t := 2) dX2_linkType_118 rfl wi_66 m_579 (Nat.le_of_ble_eq_true rfl) rfl rfl hk143 hv145 ?_
            refine s_iload_n dX2_linkType_121 rfl ?_
            have hk146 : gK G136 (262148) = (4, 6) := ((hXG136).k ((hXG107).k k262148 (by decide)) (by decide))
            refine s_alv (262148) (by simp) (fun al147 => ?_)
            have hv149b : (gS G136 262148 (k : Int).toNat) = (((262148 % 1048576) + 12 + ((k : Int).toNat) : Nat) : Int) := hCG136.1.v (j := (k : Int).toNat) (by decide : cde 262148 = 404) al147 (by rw [hk146]; show (k : Int).toNat < 6; omega)
            obtain ⟨q148, hv149⟩ : ∃ q : Nat, gS G136 262148 (k : Int).toNat = (q : Int) := ⟨(gS G136 262148 (k : Int).toNat).toNat, by omega⟩
            rw [hv149] at hv149b
            refine s_aald4 dX2_linkType_122 hk146 (by omega) (by omega) hv149 ?_
            refine s_aload_n dX2_linkType_123 rfl (Int.natCast_nonneg _) ?_
            have hv150 : gS G136 327682 2 = ((262144 : Nat) : Int) := by have h9 : (gS G136 327682 2) = 262144 := hCG136.1.v (j := 2) (by decide : cde 327682 = 502) al140 (by rw [hk139]; exact Nat.le_of_ble_eq_true rfl); omega
            refine s_getf (ci := 3) (k := 2) (C := RX2) (T := TX2) (N := 8) (n := 327682) (L := 0) (t := 2) dX2_linkType_124 rfl wi_70 m_577 (Nat.le_of_ble_eq_true rfl) rfl rfl hk139 hv150 ?_
            have hv151 : gS G136 262144 4 = ((262149 : Nat) : Int) := by have h9 : (gS G136 262144 4) = (((262144 % 1048576) + 5 : Nat) : Int) := hCG136.1.v (j := 4) (by decide : cde 262144 = 400) al144 (by rw [hk143]; exact Nat.le_of_ble_eq_true rfl); omega
            refine s_getf (ci := 2) (k := 4) (C := RX1) (T := TX1) (N := 5) (n := 262144) (L := 0) (t := 2) dX2_linkType_127 rfl wi_66 m_578 (Nat.le_of_ble_eq_true rfl) rfl rfl hk143 hv151 ?_
            refine s_iload_n dX2_linkType_130 rfl ?_
            have hk152 : gK G136 (262149) = (1, 6) := ((hXG136).k ((hXG107).k k262149 (by decide)) (by decide))
            refine s_alv (262149) (by simp) (fun al153 => ?_)
            have hv154 : 0 ≤ (gS G136 262149 (k : Int).toNat) ∧ (gS G136 262149 (k : Int).toNat) ≤ 201 := hCG136.1.v (j := (k : Int).toNat) (by decide : cde 262149 = 405) al153 (by rw [hk152]; show (k : Int).toNat < 6; omega)
            refine s_iald dX2_linkType_131 hk152 (by omega) (by omega) rfl ?_
            have hk155 : gK G136 (327691) = (1, 200) := ((hXG136).k hk135 (by decide))
            refine s_alv (q148) (by simp) (fun al156 => ?_)
            have hk157 := hCG136.1.kf (show (408 ≤ cde q148 ∧ cde q148 < 414) ∨ (416 ≤ cde q148 ∧ cde q148 < 422) from by rw [cde_f (by omega) (by omega)]; omega) al156
            refine s_callSN (own := RX2) rfl (by decide +kernel) (as := [(2, ((327691 : Nat) : Int)), (0, rr137), (2, ((q148 : Nat) : Int)), (0, gS G136 262149 ((k : Int).toNat))]) (rest := []) gX11_isSameRow dX2_linkType_132 m_1778 m_714 m_98 ⟨by decide, by decide, show (parseMethodDescriptor yX11_isSameRow.desc).map (fun d => d.parameters.length) = some 4 from by decide +kernel⟩ (Nat.le_of_ble_eq_true rfl) (by rw [hcf]; exact Nat.le_of_ble_eq_true rfl) rfl (Nat.le_of_ble_eq_true rfl) ⟨327691, 200, rr137, q148, 200, gS G136 262149 ((k : Int).toNat), rfl, hk155, (by first | assumption | omega), hk157, (by first | assumption | omega), fun rr158 hp159 => ?_⟩
            show WP kX2_linkType X 135 [some (2, ((327682 : Nat) : Int)), some (0, k), some (2, ((A : Nat) : Int)), some (2, ((B : Nat) : Int)), some (2, ((f : Nat) : Int)), some (0, rr137)] [(0, rr158)] G136
            refine s_if_eq (tgt := 142) dX2_linkType_135 (by decide) (fun c160 => ?_) (fun c160 => ?_)
            · -- 135 to 142
              refine s_iconst dX2_linkType_142 (by decide) ?_
              refine s_iload_n dX2_linkType_143 rfl ?_
              refine s_callSN (own := RX2) rfl (by decide +kernel) (as := [(0, 4), (0, k)]) (rest := []) gX11_typeMistake dX2_linkType_144 m_1783 m_714 m_125 ⟨by decide, by decide, show (parseMethodDescriptor yX11_typeMistake.desc).map (fun d => d.parameters.length) = some 2 from by decide +kernel⟩ (Nat.le_of_ble_eq_true rfl) (by rw [hcf]; exact Nat.le_of_ble_eq_true rfl) rfl (Nat.le_of_ble_eq_true rfl) ⟨4, k, rfl, (by first | assumption | omega), (by first | assumption | omega), fun rr161 hp162 => ?_⟩
              show WP kX2_linkType X 147 [some (2, ((327682 : Nat) : Int)), some (0, k), some (2, ((A : Nat) : Int)), some (2, ((B : Nat) : Int)), some (2, ((f : Nat) : Int)), some (0, rr137)] [(0, rr161)] G136
              exact s_iret hR dX2_linkType_147 rfl (hQ rr161 G136 hCG136 (KX.trans hXG107 hXG136) hFG136 hFfG136)
            · -- 135 to 138
              refine s_iconst dX2_linkType_138 (by decide) ?_
              refine s_goto (tgt := 147) dX2_linkType_139 (by decide) ?_
              exact s_iret hR dX2_linkType_147 rfl (hQ 0 G136 hCG136 (KX.trans hXG107 hXG136) hFG136 hFfG136)
          · -- 78 to 81
            refine s_iconst dX2_linkType_81 (by decide) ?_
            exact s_iret hR dX2_linkType_82 rfl (hQ 0 G107 hCG107 hXG107 hFG107 hFfG107)
  · -- 9 to 12
    have hs9 := hSZ k.toNat (by omega)
    refine s_aload dX2_linkType_12 rfl (Int.natCast_nonneg _) ?_
    refine s_iload_n dX2_linkType_14 rfl ?_
    refine s_aload_n dX2_linkType_15 rfl (Int.natCast_nonneg _) ?_
    have hv163 : gS G 327682 2 = ((262144 : Nat) : Int) := by have h9 : (gS G 327682 2) = 262144 := hC.1.v (j := 2) (by decide : cde 327682 = 502) (kne k327682 (by decide)) (by rw [k327682]; exact Nat.le_of_ble_eq_true rfl); omega
    refine s_getf (ci := 3) (k := 2) (C := RX2) (T := TX2) (N := 8) (n := 327682) (L := 0) (t := 2) dX2_linkType_16 rfl wi_70 m_577 (Nat.le_of_ble_eq_true rfl) rfl rfl k327682 hv163 ?_
    have hv164 : gS G 262144 3 = ((262148 : Nat) : Int) := by have h9 : (gS G 262144 3) = (((262144 % 1048576) + 4 : Nat) : Int) := hC.1.v (j := 3) (by decide : cde 262144 = 400) (kne k262144 (by decide)) (by rw [k262144]; exact Nat.le_of_ble_eq_true rfl); omega
    refine s_getf (ci := 2) (k := 3) (C := RX1) (T := TX1) (N := 5) (n := 262144) (L := 0) (t := 2) dX2_linkType_19 rfl wi_66 m_579 (Nat.le_of_ble_eq_true rfl) rfl rfl k262144 hv164 ?_
    refine s_iload_n dX2_linkType_22 rfl ?_
    have hv166b : (gS G 262148 (k : Int).toNat) = (((262148 % 1048576) + 12 + ((k : Int).toNat) : Nat) : Int) := hC.1.v (j := (k : Int).toNat) (by decide : cde 262148 = 404) (kne k262148 (by decide)) (by rw [k262148]; show (k : Int).toNat < 6; omega)
    obtain ⟨q165, hv166⟩ : ∃ q : Nat, gS G 262148 (k : Int).toNat = (q : Int) := ⟨(gS G 262148 (k : Int).toNat).toNat, by omega⟩
    rw [hv166] at hv166b
    refine s_aald4 dX2_linkType_23 k262148 (by omega) (by omega) hv166 ?_
    refine s_aload_n dX2_linkType_24 rfl (Int.natCast_nonneg _) ?_
    have hv167 : gS G 327682 2 = ((262144 : Nat) : Int) := by have h9 : (gS G 327682 2) = 262144 := hC.1.v (j := 2) (by decide : cde 327682 = 502) (kne k327682 (by decide)) (by rw [k327682]; exact Nat.le_of_ble_eq_true rfl); omega
    refine s_getf (ci := 3) (k := 2) (C := RX2) (T := TX2) (N := 8) (n := 327682) (L := 0) (t := 2) dX2_linkType_25 rfl wi_70 m_577 (Nat.le_of_ble_eq_true rfl) rfl rfl k327682 hv167 ?_
    have hv168 : gS G 262144 4 = ((262149 : Nat) : Int) := by have h9 : (gS G 262144 4) = (((262144 % 1048576) + 5 : Nat) : Int) := hC.1.v (j := 4) (by decide : cde 262144 = 400) (kne k262144 (by decide)) (by rw [k262144]; exact Nat.le_of_ble_eq_true rfl); omega
    refine s_getf (ci := 2) (k := 4) (C := RX1) (T := TX1) (N := 5) (n := 262144) (L := 0) (t := 2) dX2_linkType_28 rfl wi_66 m_578 (Nat.le_of_ble_eq_true rfl) rfl rfl k262144 hv168 ?_
    refine s_iload_n dX2_linkType_31 rfl ?_
    have hv169 : 0 ≤ (gS G 262149 (k : Int).toNat) ∧ (gS G 262149 (k : Int).toNat) ≤ 201 := hC.1.v (j := (k : Int).toNat) (by decide : cde 262149 = 405) (kne k262149 (by decide)) (by rw [k262149]; show (k : Int).toNat < 6; omega)
    refine s_iald dX2_linkType_32 k262149 (by omega) (by omega) rfl ?_
    refine s_alv (q165) (by simp) (fun al170 => ?_)
    have hk171 := hC.1.kf (show (408 ≤ cde q165 ∧ cde q165 < 414) ∨ (416 ≤ cde q165 ∧ cde q165 < 422) from by rw [cde_f (by omega) (by omega)]; omega) al170
    refine s_callV (as := [(0, k), (2, ((q165 : Nat) : Int)), (0, gS G 262149 ((k : Int).toNat))]) (rest := []) (n := f) (ci := 1) gX0_putType dX2_linkType_33 m_1316 m_748 m_1481 m_711 m_75 ⟨by decide, by decide, show (parseMethodDescriptor yX0_putType.desc).map (fun d => d.parameters.length) = some 3 from by decide +kernel⟩ (Nat.le_of_ble_eq_true rfl) (by rw [hcf]; exact Nat.le_of_ble_eq_true rfl) kf0 rfl rfl (Nat.le_of_ble_eq_true rfl) ⟨f, k, q165, 200, gS G 262149 ((k : Int).toNat), a, b, rfl, hC, hab, (by first | assumption | omega), (by first | assumption | omega), hk171, (by first | assumption | omega), (by first | assumption | omega), (by first | assumption | omega), fun G172 hCG172 hXG172 hfG172 hpG172 => ?_⟩
    have hFG172 : WX (fun x => x = 327691 ∨ (f + 1 ≤ x ∧ x ≤ f + 22)) G G172 := WX.trans WX.rf KX.rf (WX.mono hfG172 (fun x hx => by omega))
    have hFIG172 : ∀ k : Nat, k < 6 → FIP P G172 262144 k := fun k hk => FIP.sm (hFI k hk) hXG172 hfG172 (by show ¬ _; omega) (congrFun (hfG172 262149 (KX.al KX.rf (kne k262149 (by decide))) (by show ¬ _; omega)) k)
    have hFfG172 : FPa P G172 f := FPa.put hpG172 hFf (fun _ z => RPs.at (hFI (k : Int).toNat (by omega) (by omega)) (by omega)) hXG172 hfG172 (fun p hp hn => by show ¬ _; omega)
    have hSZG172 : ∀ k : Nat, k < 6 → gS G172 262149 k ≤ 200 := fun k hk => by rw [hfG172 262149 (KX.al KX.rf (kne k262149 (by decide))) (by show ¬ _; omega)]; exact hSZ k hk
    show WP kX2_linkType X 36 [some (2, ((327682 : Nat) : Int)), some (0, k), some (2, ((A : Nat) : Int)), some (2, ((B : Nat) : Int)), some (2, ((f : Nat) : Int)), none] [] G172
    refine s_goto (tgt := 61) dX2_linkType_36 (by decide) ?_
    refine s_aload_n dX2_linkType_61 rfl (Int.natCast_nonneg _) ?_
    have hk174 : gK G172 (A) = (9, 0) := ((hXG172).k kA0 (by decide))
    refine s_alv (A) (by simp) (fun al175 => ?_)
    have hv176 : gS G172 A 1 = ((A + 1 : Nat) : Int) := by have h9 : (gS G172 A 1) = (((A % 1048576) + 1 : Nat) : Int) := hCG172.1.v (j := 1) (by rw [cde_n (by omega) (by omega)]; omega : cde A = 101) al175 (by rw [hk174]; exact Nat.le_of_ble_eq_true rfl); omega
    refine s_getf (ci := 1) (k := 1) (C := RX0) (T := TX0) (N := 7) (n := A) (L := 0) (t := 2) dX2_linkType_62 rfl wi_65 m_573 (Nat.le_of_ble_eq_true rfl) rfl rfl hk174 hv176 ?_
    refine s_iload_n dX2_linkType_65 rfl ?_
    have hk177 : gK G172 (A + 1) = (1, 6) := ((hXG172).k kA1 (by decide))
    refine s_iald dX2_linkType_66 hk177 (by omega) (by omega) rfl ?_
    refine s_iconst dX2_linkType_67 (by decide) ?_
    refine s_icmp_ne (tgt := 81) dX2_linkType_68 (by decide) (fun c178 => ?_) (fun c178 => ?_)
    · -- 68 to 81
      refine s_iconst dX2_linkType_81 (by decide) ?_
      exact s_iret hR dX2_linkType_82 rfl (hQ 0 G172 hCG172 hXG172 hFG172 hFfG172)
    · -- 68 to 71
      refine s_aload_n dX2_linkType_71 rfl (Int.natCast_nonneg _) ?_
      have hk179 : gK G172 (B) = (9, 0) := ((hXG172).k kB0 (by decide))
      refine s_alv (B) (by simp) (fun al180 => ?_)
      have hv181 : gS G172 B 1 = ((B + 1 : Nat) : Int) := by have h9 : (gS G172 B 1) = (((B % 1048576) + 1 : Nat) : Int) := hCG172.1.v (j := 1) (by rw [cde_n (by omega) (by omega)]; omega : cde B = 101) al180 (by rw [hk179]; exact Nat.le_of_ble_eq_true rfl); omega
      refine s_getf (ci := 1) (k := 1) (C := RX0) (T := TX0) (N := 7) (n := B) (L := 0) (t := 2) dX2_linkType_72 rfl wi_65 m_573 (Nat.le_of_ble_eq_true rfl) rfl rfl hk179 hv181 ?_
      refine s_iload_n dX2_linkType_75 rfl ?_
      have hk182 : gK G172 (B + 1) = (1, 6) := ((hXG172).k kB1 (by decide))
      refine s_iald dX2_linkType_76 hk182 (by omega) (by omega) rfl ?_
      refine s_iconst dX2_linkType_77 (by decide) ?_
      refine s_icmp_eq (tgt := 83) dX2_linkType_78 (by decide) (fun c183 => ?_) (fun c183 => ?_)
      · -- 78 to 83
        refine s_aload_n dX2_linkType_83 rfl (Int.natCast_nonneg _) ?_
        have hk184 : gK G172 (327682) = (11, 0) := ((hXG172).k k327682 (by decide))
        refine s_alv (327682) (by simp) (fun al185 => ?_)
        have hv186 : gS G172 327682 2 = ((262144 : Nat) : Int) := by have h9 : (gS G172 327682 2) = 262144 := hCG172.1.v (j := 2) (by decide : cde 327682 = 502) al185 (by rw [hk184]; exact Nat.le_of_ble_eq_true rfl); omega
        refine s_getf (ci := 3) (k := 2) (C := RX2) (T := TX2) (N := 8) (n := 327682) (L := 0) (t := 2) dX2_linkType_84 rfl wi_70 m_577 (Nat.le_of_ble_eq_true rfl) rfl rfl hk184 hv186 ?_
        refine s_aload_n dX2_linkType_87 rfl (Int.natCast_nonneg _) ?_
        have hv187 : gS G172 B 3 = ((B + 3 : Nat) : Int) := by have h9 : (gS G172 B 3) = (((B % 1048576) + 3 : Nat) : Int) := hCG172.1.v (j := 3) (by rw [cde_n (by omega) (by omega)]; omega : cde B = 101) al180 (by rw [hk179]; exact Nat.le_of_ble_eq_true rfl); omega
        refine s_getf (ci := 1) (k := 3) (C := RX0) (T := TX0) (N := 7) (n := B) (L := 0) (t := 2) dX2_linkType_88 rfl wi_65 m_574 (Nat.le_of_ble_eq_true rfl) rfl rfl hk179 hv187 ?_
        refine s_iload_n dX2_linkType_91 rfl ?_
        have hk188 : gK G172 (B + 3) = (4, 16) := ((hXG172).k kB3 (by decide))
        refine s_alv (B + 3) (by simp) (fun al189 => ?_)
        have hv191b : 0 ≤ (gS G172 (B + 3) (k : Int).toNat) ∧ (gS G172 (B + 3) (k : Int).toNat) % 1048576 = ((((B + 3) % 1048576) + 4 + ((k : Int).toNat) : Nat) : Int) := hCG172.1.v (j := (k : Int).toNat) (by rw [cde_n (by omega) (by omega)]; omega : cde (B + 3) = 104) al189 (by rw [hk188]; show (k : Int).toNat < 16; omega)
        obtain ⟨q190, hv191⟩ : ∃ q : Nat, gS G172 (B + 3) (k : Int).toNat = (q : Int) := ⟨(gS G172 (B + 3) (k : Int).toNat).toNat, by omega⟩
        rw [hv191] at hv191b
        refine s_aald4 dX2_linkType_92 hk188 (by omega) (by omega) hv191 ?_
        refine s_aload_n dX2_linkType_93 rfl (Int.natCast_nonneg _) ?_
        have hv192 : gS G172 B 4 = ((B + 4 : Nat) : Int) := by have h9 : (gS G172 B 4) = (((B % 1048576) + 4 : Nat) : Int) := hCG172.1.v (j := 4) (by rw [cde_n (by omega) (by omega)]; omega : cde B = 101) al180 (by rw [hk179]; exact Nat.le_of_ble_eq_true rfl); omega
        refine s_getf (ci := 1) (k := 4) (C := RX0) (T := TX0) (N := 7) (n := B) (L := 0) (t := 2) dX2_linkType_94 rfl wi_65 m_575 (Nat.le_of_ble_eq_true rfl) rfl rfl hk179 hv192 ?_
        refine s_iload_n dX2_linkType_97 rfl ?_
        have hk193 : gK G172 (B + 4) = (1, 16) := ((hXG172).k kB4 (by decide))
        refine s_alv (B + 4) (by simp) (fun al194 => ?_)
        have hv195 : 0 ≤ (gS G172 (B + 4) (k : Int).toNat) ∧ (gS G172 (B + 4) (k : Int).toNat) ≤ 200 := hCG172.1.v (j := (k : Int).toNat) (by rw [cde_n (by omega) (by omega)]; omega : cde (B + 4) = 105) al194 (by rw [hk193]; show (k : Int).toNat < 16; omega)
        refine s_iald dX2_linkType_98 hk193 (by omega) (by omega) rfl ?_
        refine s_aload_n dX2_linkType_99 rfl (Int.natCast_nonneg _) ?_
        have hv196 : gS G172 327682 6 = ((327691 : Nat) : Int) := by have h9 : (gS G172 327682 6) = 327691 := hCG172.1.v (j := 6) (by decide : cde 327682 = 502) al185 (by rw [hk184]; exact Nat.le_of_ble_eq_true rfl); omega
        refine s_getf (ci := 3) (k := 6) (C := RX2) (T := TX2) (N := 8) (n := 327682) (L := 0) (t := 2) dX2_linkType_100 rfl wi_70 m_582 (Nat.le_of_ble_eq_true rfl) rfl rfl hk184 hv196 ?_
        refine s_alv (q190) (by simp) (fun al197 => ?_)
        obtain ⟨L199, hk198, hL199a, hL199b⟩ := hCG172.1.kr (show 108 ≤ cde q190 ∧ cde q190 < 124 from by rw [cde_n (by omega) (by omega)]; omega) al197
        have hk200 : gK G172 (327691) = (1, 200) := ((hXG172).k k327691 (by decide))
        have hk203 : gK G172 (262144) = (10, 0) := ((hXG172).k k262144 (by decide))
        refine s_callV (as := [(2, ((q190 : Nat) : Int)), (0, gS G172 (B + 4) ((k : Int).toNat)), (2, ((327691 : Nat) : Int))]) (rest := []) (n := 262144) (ci := 2) gX1_put dX2_linkType_103 m_1319 m_918 m_1493 m_712 m_260 ⟨by decide, by decide, show (parseMethodDescriptor yX1_put.desc).map (fun d => d.parameters.length) = some 3 from by decide +kernel⟩ (Nat.le_of_ble_eq_true rfl) (by rw [hcf]; exact Nat.le_of_ble_eq_true rfl) hk203 rfl rfl (Nat.le_of_ble_eq_true rfl) ⟨262144, q190, L199, gS G172 (B + 4) ((k : Int).toNat), 327691, a, b, rfl, hCG172, hab, (by assumption), hk198, (by omega), hk200, (by exact FRW.s), (by omega), (by omega), (by omega), fun rr202 G201 hCG201 hXG201 hfG201 hpG201 => ?_⟩
        have hFG201 : WX (fun x => x = 327691 ∨ (f + 1 ≤ x ∧ x ≤ f + 22)) G G201 := WX.trans hFG172 hXG172 (WX.mono hfG201 (fun x hx => by omega))
        have hFIG201 : ∀ k : Nat, k < 6 → FIP P G201 262144 k := fun k hk => FIP.sm (hFIG172 k hk) hXG201 hfG201 (by show ¬ _; omega) (congrFun (hfG201 262149 (KX.al hXG172 (kne k262149 (by decide))) (by show ¬ _; omega)) k)
        have hFfG201 : FPa P G201 f := (hFfG172).wx hXG201 hfG201 ⟨KX.al hXG172 (kne kf3 (by decide)), KX.al hXG172 (kne kf4 (by decide))⟩ (by show ¬ _; omega) (by show ¬ _; omega) (fun p hp => by show ¬ _; omega)
        have hSZG201 : ∀ k : Nat, k < 6 → gS G201 262149 k ≤ 200 := fun k hk => by rw [hfG201 262149 (KX.al hXG172 (kne k262149 (by decide))) (by show ¬ _; omega)]; exact hSZG172 k hk
        show WP kX2_linkType X 106 [some (2, ((327682 : Nat) : Int)), some (0, k), some (2, ((A : Nat) : Int)), some (2, ((B : Nat) : Int)), some (2, ((f : Nat) : Int)), none] [(0, rr202)] G201
        refine s_istore dX2_linkType_106 (by decide) (lv' := [some (2, ((327682 : Nat) : Int)), some (0, k), some (2, ((A : Nat) : Int)), some (2, ((B : Nat) : Int)), some (2, ((f : Nat) : Int)), some (0, rr202)]) rfl ?_
        refine s_aload_n dX2_linkType_108 rfl (Int.natCast_nonneg _) ?_
        have hk204 : gK G201 (327682) = (11, 0) := ((hXG201).k hk184 (by decide))
        refine s_alv (327682) (by simp) (fun al205 => ?_)
        have hv206 : gS G201 327682 6 = ((327691 : Nat) : Int) := by have h9 : (gS G201 327682 6) = 327691 := hCG201.1.v (j := 6) (by decide : cde 327682 = 502) al205 (by rw [hk204]; exact Nat.le_of_ble_eq_true rfl); omega
        refine s_getf (ci := 3) (k := 6) (C := RX2) (T := TX2) (N := 8) (n := 327682) (L := 0) (t := 2) dX2_linkType_109 rfl wi_70 m_582 (Nat.le_of_ble_eq_true rfl) rfl rfl hk204 hv206 ?_
        refine s_iload dX2_linkType_112 rfl ?_
        refine s_aload_n dX2_linkType_114 rfl (Int.natCast_nonneg _) ?_
        have hv207 : gS G201 327682 2 = ((262144 : Nat) : Int) := by have h9 : (gS G201 327682 2) = 262144 := hCG201.1.v (j := 2) (by decide : cde 327682 = 502) al205 (by rw [hk204]; exact Nat.le_of_ble_eq_true rfl); omega
        refine s_getf (ci := 3) (k := 2) (C := RX2) (T := TX2) (N := 8) (n := 327682) (L := 0) (t := 2) dX2_linkType_115 rfl wi_70 m_577 (Nat.le_of_ble_eq_true rfl) rfl rfl hk204 hv207 ?_
        have hk208 : gK G201 (262144) = (10, 0) := ((hXG201).k hk203 (by decide))
        refine s_alv (262144) (by simp) (fun al209 => ?_)
        have hv210 : gS G201 262144 3 = ((262148 : Nat) : Int) := by have h9 : (gS G201 262144 3) = (((262144 % 1048576) + 4 : Nat) : Int) := hCG201.1.v (j := 3) (by decide : cde 262144 = 400) al209 (by rw [hk208]; exact Nat.le_of_ble_eq_true rfl); omega
        refine s_getf (ci := 2) (k := 3) (C := RX1) (T := TX1) (N := 5) (n := 262144) (L := 0) (t := 2) dX2_linkType_118 rfl wi_66 m_579 (Nat.le_of_ble_eq_true rfl) rfl rfl hk208 hv210 ?_
        refine s_iload_n dX2_linkType_121 rfl ?_
        have hk211 : gK G201 (262148) = (4, 6) := ((hXG201).k ((hXG172).k k262148 (by decide)) (by decide))
        refine s_alv (262148) (by simp) (fun al212 => ?_)
        have hv214b : (gS G201 262148 (k : Int).toNat) = (((262148 % 1048576) + 12 + ((k : Int).toNat) : Nat) : Int) := hCG201.1.v (j := (k : Int).toNat) (by decide : cde 262148 = 404) al212 (by rw [hk211]; show (k : Int).toNat < 6; omega)
        obtain ⟨q213, hv214⟩ : ∃ q : Nat, gS G201 262148 (k : Int).toNat = (q : Int) := ⟨(gS G201 262148 (k : Int).toNat).toNat, by omega⟩
        rw [hv214] at hv214b
        refine s_aald4 dX2_linkType_122 hk211 (by omega) (by omega) hv214 ?_
        refine s_aload_n dX2_linkType_123 rfl (Int.natCast_nonneg _) ?_
        have hv215 : gS G201 327682 2 = ((262144 : Nat) : Int) := by have h9 : (gS G201 327682 2) = 262144 := hCG201.1.v (j := 2) (by decide : cde 327682 = 502) al205 (by rw [hk204]; exact Nat.le_of_ble_eq_true rfl); omega
        refine s_getf (ci := 3) (k := 2) (C := RX2) (T := TX2) (N := 8) (n := 327682) (L := 0) (t := 2) dX2_linkType_124 rfl wi_70 m_577 (Nat.le_of_ble_eq_true rfl) rfl rfl hk204 hv215 ?_
        have hv216 : gS G201 262144 4 = ((262149 : Nat) : Int) := by have h9 : (gS G201 262144 4) = (((262144 % 1048576) + 5 : Nat) : Int) := hCG201.1.v (j := 4) (by decide : cde 262144 = 400) al209 (by rw [hk208]; exact Nat.le_of_ble_eq_true rfl); omega
        refine s_getf (ci := 2) (k := 4) (C := RX1) (T := TX1) (N := 5) (n := 262144) (L := 0) (t := 2) dX2_linkType_127 rfl wi_66 m_578 (Nat.le_of_ble_eq_true rfl) rfl rfl hk208 hv216 ?_
        refine s_iload_n dX2_linkType_130 rfl ?_
        have hk217 : gK G201 (262149) = (1, 6) := ((hXG201).k ((hXG172).k k262149 (by decide)) (by decide))
        refine s_alv (262149) (by simp) (fun al218 => ?_)
        have hv219 : 0 ≤ (gS G201 262149 (k : Int).toNat) ∧ (gS G201 262149 (k : Int).toNat) ≤ 201 := hCG201.1.v (j := (k : Int).toNat) (by decide : cde 262149 = 405) al218 (by rw [hk217]; show (k : Int).toNat < 6; omega)
        refine s_iald dX2_linkType_131 hk217 (by omega) (by omega) rfl ?_
        have hk220 : gK G201 (327691) = (1, 200) := ((hXG201).k hk200 (by decide))
        refine s_alv (q213) (by simp) (fun al221 => ?_)
        have hk222 := hCG201.1.kf (show (408 ≤ cde q213 ∧ cde q213 < 414) ∨ (416 ≤ cde q213 ∧ cde q213 < 422) from by rw [cde_f (by omega) (by omega)]; omega) al221
        refine s_callSN (own := RX2) rfl (by decide +kernel) (as := [(2, ((327691 : Nat) : Int)), (0, rr202), (2, ((q213 : Nat) : Int)), (0, gS G201 262149 ((k : Int).toNat))]) (rest := []) gX11_isSameRow dX2_linkType_132 m_1778 m_714 m_98 ⟨by decide, by decide, show (parseMethodDescriptor yX11_isSameRow.desc).map (fun d => d.parameters.length) = some 4 from by decide +kernel⟩ (Nat.le_of_ble_eq_true rfl) (by rw [hcf]; exact Nat.le_of_ble_eq_true rfl) rfl (Nat.le_of_ble_eq_true rfl) ⟨327691, 200, rr202, q213, 200, gS G201 262149 ((k : Int).toNat), rfl, hk220, (by first | assumption | omega), hk222, (by first | assumption | omega), fun rr223 hp224 => ?_⟩
        show WP kX2_linkType X 135 [some (2, ((327682 : Nat) : Int)), some (0, k), some (2, ((A : Nat) : Int)), some (2, ((B : Nat) : Int)), some (2, ((f : Nat) : Int)), some (0, rr202)] [(0, rr223)] G201
        refine s_if_eq (tgt := 142) dX2_linkType_135 (by decide) (fun c225 => ?_) (fun c225 => ?_)
        · -- 135 to 142
          refine s_iconst dX2_linkType_142 (by decide) ?_
          refine s_iload_n dX2_linkType_143 rfl ?_
          refine s_callSN (own := RX2) rfl (by decide +kernel) (as := [(0, 4), (0, k)]) (rest := []) gX11_typeMistake dX2_linkType_144 m_1783 m_714 m_125 ⟨by decide, by decide, show (parseMethodDescriptor yX11_typeMistake.desc).map (fun d => d.parameters.length) = some 2 from by decide +kernel⟩ (Nat.le_of_ble_eq_true rfl) (by rw [hcf]; exact Nat.le_of_ble_eq_true rfl) rfl (Nat.le_of_ble_eq_true rfl) ⟨4, k, rfl, (by first | assumption | omega), (by first | assumption | omega), fun rr226 hp227 => ?_⟩
          show WP kX2_linkType X 147 [some (2, ((327682 : Nat) : Int)), some (0, k), some (2, ((A : Nat) : Int)), some (2, ((B : Nat) : Int)), some (2, ((f : Nat) : Int)), some (0, rr202)] [(0, rr226)] G201
          exact s_iret hR dX2_linkType_147 rfl (hQ rr226 G201 hCG201 (KX.trans hXG172 hXG201) hFG201 hFfG201)
        · -- 135 to 138
          refine s_iconst dX2_linkType_138 (by decide) ?_
          refine s_goto (tgt := 147) dX2_linkType_139 (by decide) ?_
          exact s_iret hR dX2_linkType_147 rfl (hQ 0 G201 hCG201 (KX.trans hXG172 hXG201) hFG201 hFfG201)
      · -- 78 to 81
        refine s_iconst dX2_linkType_81 (by decide) ?_
        exact s_iret hR dX2_linkType_82 rfl (hQ 0 G172 hCG172 hXG172 hFG172 hFfG172)

abbrev kX2_linkOne : KD := (RX2, cX2_linkOne, 5, (some .int), [])
def TX2_linkOne : TR := fun as G Qr => ∃ (P : Int → Prop) (k : Int) (A f : Nat) (a b : Nat), as = [(2, ((327682 : Nat) : Int)), (0, k), (2, ((A : Nat) : Int)), (2, ((f : Nat) : Int))] ∧ CI a b G ∧ (a ≤ 2840000 ∧ b ≤ 590000) ∧ (0 ≤ k ∧ k < 10) ∧ (isFc A) ∧ (isFc f) ∧ (A ≠ f) ∧ (∀ k : Nat, k < 6 → FIP P G 262144 k) ∧ (FPa P G A) ∧ (FPa P G f) ∧ ∀ (r : Int) (G' : LG), CI a b G' → KX G G' → WX (fun x => x = 327691 ∨ (f + 1 ≤ x ∧ x ≤ f + 22)) G G' → (FPa P G' f) → Qr (.inl (some (0, r))) G'
set_option maxHeartbeats 4000000 in
set_option maxRecDepth 100000 in
theorem gX2_linkOne : Good kX2_linkOne yX2_linkOne 3 TX2_linkOne := by
  refine good_of (by decide) rfl rfl (fun as G Qr h => ?_) (fun X as G Qr hcf hR hT oa => ?_)
  · obtain ⟨P, k, A, f, a, b, rfl, -⟩ := h; exact Nat.le_of_ble_eq_true rfl
  obtain ⟨P, k, A, f, a, b, rfl, hC, hab, hk, hA, hf, hne, hFI, hFA, hFf, hQ⟩ := hT
  show WP kX2_linkOne X 0 [some (2, ((327682 : Nat) : Int)), some (0, k), some (2, ((A : Nat) : Int)), some (2, ((f : Nat) : Int)), none] [] G
  have hr_k : inR k := okv_R (oa _ (by simp))
  refine s_alvl 327682 (k := 0) rfl (fun alZ => ?_)
  refine s_alvl A (k := 2) rfl (fun alA => ?_)
  refine s_alvl f (k := 3) rfl (fun alf => ?_)
  refine s_lk (fun hlk => ?_)
  have hfn := hlk.fna hC alZ
  obtain ⟨k327682, k327681, k327683, k262144, k262208, k327684, k68097, k327691, k327692, k262145, k262146, k262148, k262149, k262209, k262210, k262212, k262213, k327710, k327685, k327688⟩ := id hfn
  have hfA := hlk.fc hC hA alA
  obtain ⟨kA0, kA1, kA2, kA3, kA4, kA5, kA6⟩ := hfA.1
  have hff := hlk.fc hC hf alf
  obtain ⟨kf0, kf1, kf2, kf3, kf4, kf5, kf6⟩ := hff.1
  refine s_aload_n dX2_linkOne_0 rfl (Int.natCast_nonneg _) ?_
  have hv1 : gS G 327682 2 = ((262144 : Nat) : Int) := by have h9 : (gS G 327682 2) = 262144 := hC.1.v (j := 2) (by decide : cde 327682 = 502) (kne k327682 (by decide)) (by rw [k327682]; exact Nat.le_of_ble_eq_true rfl); omega
  refine s_getf (ci := 3) (k := 2) (C := RX2) (T := TX2) (N := 8) (n := 327682) (L := 0) (t := 2) dX2_linkOne_1 rfl wi_70 m_577 (Nat.le_of_ble_eq_true rfl) rfl rfl k327682 hv1 ?_
  refine s_aload_n dX2_linkOne_4 rfl (Int.natCast_nonneg _) ?_
  have hv2 : gS G A 3 = ((A + 3 : Nat) : Int) := by have h9 : (gS G A 3) = (((A % 1048576) + 3 : Nat) : Int) := hC.1.v (j := 3) (by rw [cde_n (by omega) (by omega)]; omega : cde A = 101) (kne kA0 (by decide)) (by rw [kA0]; exact Nat.le_of_ble_eq_true rfl); omega
  refine s_getf (ci := 1) (k := 3) (C := RX0) (T := TX0) (N := 7) (n := A) (L := 0) (t := 2) dX2_linkOne_5 rfl wi_65 m_574 (Nat.le_of_ble_eq_true rfl) rfl rfl kA0 hv2 ?_
  refine s_bipush dX2_linkOne_8 rfl (by decide) ?_
  refine s_iload_n dX2_linkOne_10 rfl ?_
  refine s_iadd dX2_linkOne_11 (by omega) ?_
  have hv4b : 0 ≤ (gS G (A + 3) (6 + k : Int).toNat) ∧ (gS G (A + 3) (6 + k : Int).toNat) % 1048576 = ((((A + 3) % 1048576) + 4 + ((6 + k : Int).toNat) : Nat) : Int) := hC.1.v (j := (6 + k : Int).toNat) (by rw [cde_n (by omega) (by omega)]; omega : cde (A + 3) = 104) (kne kA3 (by decide)) (by rw [kA3]; show (6 + k : Int).toNat < 16; omega)
  obtain ⟨q3, hv4⟩ : ∃ q : Nat, gS G (A + 3) (6 + k : Int).toNat = (q : Int) := ⟨(gS G (A + 3) (6 + k : Int).toNat).toNat, by omega⟩
  rw [hv4] at hv4b
  refine s_aald4 dX2_linkOne_12 kA3 (by omega) (by omega) hv4 ?_
  refine s_aload_n dX2_linkOne_13 rfl (Int.natCast_nonneg _) ?_
  have hv5 : gS G A 4 = ((A + 4 : Nat) : Int) := by have h9 : (gS G A 4) = (((A % 1048576) + 4 : Nat) : Int) := hC.1.v (j := 4) (by rw [cde_n (by omega) (by omega)]; omega : cde A = 101) (kne kA0 (by decide)) (by rw [kA0]; exact Nat.le_of_ble_eq_true rfl); omega
  refine s_getf (ci := 1) (k := 4) (C := RX0) (T := TX0) (N := 7) (n := A) (L := 0) (t := 2) dX2_linkOne_14 rfl wi_65 m_575 (Nat.le_of_ble_eq_true rfl) rfl rfl kA0 hv5 ?_
  refine s_bipush dX2_linkOne_17 rfl (by decide) ?_
  refine s_iload_n dX2_linkOne_19 rfl ?_
  refine s_iadd dX2_linkOne_20 (by omega) ?_
  have hv6 : 0 ≤ (gS G (A + 4) (6 + k : Int).toNat) ∧ (gS G (A + 4) (6 + k : Int).toNat) ≤ 200 := hC.1.v (j := (6 + k : Int).toNat) (by rw [cde_n (by omega) (by omega)]; omega : cde (A + 4) = 105) (kne kA4 (by decide)) (by rw [kA4]; show (6 + k : Int).toNat < 16; omega)
  refine s_iald dX2_linkOne_21 kA4 (by omega) (by omega) rfl ?_
  refine s_aload_n dX2_linkOne_22 rfl (Int.natCast_nonneg _) ?_
  have hv7 : gS G 327682 6 = ((327691 : Nat) : Int) := by have h9 : (gS G 327682 6) = 327691 := hC.1.v (j := 6) (by decide : cde 327682 = 502) (kne k327682 (by decide)) (by rw [k327682]; exact Nat.le_of_ble_eq_true rfl); omega
  refine s_getf (ci := 3) (k := 6) (C := RX2) (T := TX2) (N := 8) (n := 327682) (L := 0) (t := 2) dX2_linkOne_23 rfl wi_70 m_582 (Nat.le_of_ble_eq_true rfl) rfl rfl k327682 hv7 ?_
  refine s_alv (q3) (by simp) (fun al8 => ?_)
  obtain ⟨L10, hk9, hL10a, hL10b⟩ := hC.1.kr (show 108 ≤ cde q3 ∧ cde q3 < 124 from by rw [cde_n (by omega) (by omega)]; omega) al8
  refine s_callV (as := [(2, ((q3 : Nat) : Int)), (0, gS G (A + 4) ((6 + k : Int).toNat)), (2, ((327691 : Nat) : Int))]) (rest := []) (n := 262144) (ci := 2) gX1_put dX2_linkOne_26 m_1319 m_918 m_1493 m_712 m_260 ⟨by decide, by decide, show (parseMethodDescriptor yX1_put.desc).map (fun d => d.parameters.length) = some 3 from by decide +kernel⟩ (Nat.le_of_ble_eq_true rfl) (by rw [hcf]; exact Nat.le_of_ble_eq_true rfl) k262144 rfl rfl (Nat.le_of_ble_eq_true rfl) ⟨262144, q3, L10, gS G (A + 4) ((6 + k : Int).toNat), 327691, a, b, rfl, hC, hab, (by assumption), hk9, (by omega), k327691, (by exact FRW.s), (by omega), (by omega), (by omega), fun rr12 G11 hCG11 hXG11 hfG11 hpG11 => ?_⟩
  have hFG11 : WX (fun x => x = 327691 ∨ (f + 1 ≤ x ∧ x ≤ f + 22)) G G11 := WX.trans WX.rf KX.rf (WX.mono hfG11 (fun x hx => by omega))
  have hFIG11 : ∀ k : Nat, k < 6 → FIP P G11 262144 k := fun k hk => FIP.sm (hFI k hk) hXG11 hfG11 (by show ¬ _; omega) (congrFun (hfG11 262149 (KX.al KX.rf (kne k262149 (by decide))) (by show ¬ _; omega)) k)
  have hFAG11 : FPa P G11 A := (hFA).wx hXG11 hfG11 ⟨KX.al KX.rf (kne kA3 (by decide)), KX.al KX.rf (kne kA4 (by decide))⟩ (by show ¬ _; omega) (by show ¬ _; omega) (fun p hp => by show ¬ _; omega)
  have hFfG11 : FPa P G11 f := (hFf).wx hXG11 hfG11 ⟨KX.al KX.rf (kne kf3 (by decide)), KX.al KX.rf (kne kf4 (by decide))⟩ (by show ¬ _; omega) (by show ¬ _; omega) (fun p hp => by show ¬ _; omega)
  show WP kX2_linkOne X 29 [some (2, ((327682 : Nat) : Int)), some (0, k), some (2, ((A : Nat) : Int)), some (2, ((f : Nat) : Int)), none] [(0, rr12)] G11
  refine s_istore dX2_linkOne_29 (by decide) (lv' := [some (2, ((327682 : Nat) : Int)), some (0, k), some (2, ((A : Nat) : Int)), some (2, ((f : Nat) : Int)), some (0, rr12)]) rfl ?_
  refine s_iload dX2_linkOne_31 rfl ?_
  refine s_sipush dX2_linkOne_33 rfl (by decide) ?_
  refine s_icmp_le (tgt := 46) dX2_linkOne_36 (by decide) (fun c13 => ?_) (fun c13 => ?_)
  · -- 36 to 46
    refine s_aload_n dX2_linkOne_46 rfl (Int.natCast_nonneg _) ?_
    refine s_iload_n dX2_linkOne_47 rfl ?_
    refine s_aload_n dX2_linkOne_48 rfl (Int.natCast_nonneg _) ?_
    have hk14 : gK G11 (A) = (9, 0) := ((hXG11).k kA0 (by decide))
    refine s_alv (A) (by simp) (fun al15 => ?_)
    have hv16 : gS G11 A 2 = ((A + 2 : Nat) : Int) := by have h9 : (gS G11 A 2) = (((A % 1048576) + 2 : Nat) : Int) := hCG11.1.v (j := 2) (by rw [cde_n (by omega) (by omega)]; omega : cde A = 101) al15 (by rw [hk14]; exact Nat.le_of_ble_eq_true rfl); omega
    refine s_getf (ci := 1) (k := 2) (C := RX0) (T := TX0) (N := 7) (n := A) (L := 0) (t := 2) dX2_linkOne_49 rfl wi_65 m_576 (Nat.le_of_ble_eq_true rfl) rfl rfl hk14 hv16 ?_
    refine s_iload_n dX2_linkOne_52 rfl ?_
    have hk17 : gK G11 (A + 2) = (1, 10) := ((hXG11).k kA2 (by decide))
    refine s_iald dX2_linkOne_53 hk17 (by omega) (by omega) rfl ?_
    refine s_aload_n dX2_linkOne_54 rfl (Int.natCast_nonneg _) ?_
    have hk18 : gK G11 (327682) = (11, 0) := ((hXG11).k k327682 (by decide))
    refine s_alv (327682) (by simp) (fun al19 => ?_)
    have hv20 : gS G11 327682 6 = ((327691 : Nat) : Int) := by have h9 : (gS G11 327682 6) = 327691 := hCG11.1.v (j := 6) (by decide : cde 327682 = 502) al19 (by rw [hk18]; exact Nat.le_of_ble_eq_true rfl); omega
    refine s_getf (ci := 3) (k := 6) (C := RX2) (T := TX2) (N := 8) (n := 327682) (L := 0) (t := 2) dX2_linkOne_55 rfl wi_70 m_582 (Nat.le_of_ble_eq_true rfl) rfl rfl hk18 hv20 ?_
    refine s_iload dX2_linkOne_58 rfl ?_
    have hk21 : gK G11 (327691) = (1, 200) := ((hXG11).k k327691 (by decide))
    have hk24 : gK G11 (f) = (9, 0) := ((hXG11).k kf0 (by decide))
    refine s_callV (as := [(0, k), (0, gS G11 (A + 2) ((k : Int).toNat)), (2, ((327691 : Nat) : Int)), (0, rr12)]) (rest := []) (n := f) (ci := 1) gX0_putValue dX2_linkOne_60 m_1320 m_750 m_1483 m_711 m_77 ⟨by decide, by decide, show (parseMethodDescriptor yX0_putValue.desc).map (fun d => d.parameters.length) = some 4 from by decide +kernel⟩ (Nat.le_of_ble_eq_true rfl) (by rw [hcf]; exact Nat.le_of_ble_eq_true rfl) hk24 rfl rfl (Nat.le_of_ble_eq_true rfl) ⟨f, k, gS G11 (A + 2) ((k : Int).toNat), 327691, 200, rr12, a, b, rfl, hCG11, hab, (by first | assumption | omega), (by first | assumption | omega), hk21, (by first | assumption | omega), (by first | assumption | omega), (by first | assumption | omega), fun G22 hCG22 hXG22 hfG22 hpG22 => ?_⟩
    have hFG22 : WX (fun x => x = 327691 ∨ (f + 1 ≤ x ∧ x ≤ f + 22)) G G22 := WX.trans hFG11 hXG11 (WX.mono hfG22 (fun x hx => by omega))
    have hFIG22 : ∀ k : Nat, k < 6 → FIP P G22 262144 k := fun k hk => FIP.sm (hFIG11 k hk) hXG22 hfG22 (by show ¬ _; omega) (congrFun (hfG22 262149 (KX.al hXG11 (kne k262149 (by decide))) (by show ¬ _; omega)) k)
    have hFAG22 : FPa P G22 A := (hFAG11).wx hXG22 hfG22 ⟨KX.al hXG11 (kne kA3 (by decide)), KX.al hXG11 (kne kA4 (by decide))⟩ (by show ¬ _; omega) (by show ¬ _; omega) (fun p hp => by show ¬ _; omega)
    have hFfG22 : FPa P G22 f := FPa.put hpG22.1 hFfG11 (fun _ _ => hpG11.2 P ((hFA (6 + k : Int).toNat (by omega)).rps hv4 rfl) hFI (by omega)) hXG22 hfG22 (fun p hp hn => by show ¬ _; omega)
    show WP kX2_linkOne X 63 [some (2, ((327682 : Nat) : Int)), some (0, k), some (2, ((A : Nat) : Int)), some (2, ((f : Nat) : Int)), some (0, rr12)] [] G22
    refine s_aload_n dX2_linkOne_63 rfl (Int.natCast_nonneg _) ?_
    refine s_iload_n dX2_linkOne_64 rfl ?_
    refine s_aload_n dX2_linkOne_65 rfl (Int.natCast_nonneg _) ?_
    refine s_iload_n dX2_linkOne_66 rfl ?_
    have hk27 : gK G22 (f) = (9, 0) := ((hXG22).k hk24 (by decide))
    refine s_callV (as := [(0, k), (2, ((A : Nat) : Int)), (0, k)]) (rest := []) (n := f) (ci := 1) gX0_putNumberOf dX2_linkOne_67 m_1321 m_745 m_1478 m_711 m_72 ⟨by decide, by decide, show (parseMethodDescriptor yX0_putNumberOf.desc).map (fun d => d.parameters.length) = some 3 from by decide +kernel⟩ (Nat.le_of_ble_eq_true rfl) (by rw [hcf]; exact Nat.le_of_ble_eq_true rfl) hk27 rfl rfl (Nat.le_of_ble_eq_true rfl) ⟨f, k, A, k, a, b, rfl, hCG22, hab, (by first | assumption | omega), (by first | assumption | omega), (by first | assumption | omega), (by first | assumption | omega), fun G25 hCG25 hXG25 hfG25 hpG25 => ?_⟩
    have hFG25 : WX (fun x => x = 327691 ∨ (f + 1 ≤ x ∧ x ≤ f + 22)) G G25 := WX.trans hFG22 (KX.trans hXG11 hXG22) (WX.mono hfG25 (fun x hx => by omega))
    have hFIG25 : ∀ k : Nat, k < 6 → FIP P G25 262144 k := fun k hk => FIP.sm (hFIG22 k hk) hXG25 hfG25 (by show ¬ _; omega) (congrFun (hfG25 262149 (KX.al (KX.trans hXG11 hXG22) (kne k262149 (by decide))) (by show ¬ _; omega)) k)
    have hFAG25 : FPa P G25 A := (hFAG22).wx hXG25 hfG25 ⟨KX.al (KX.trans hXG11 hXG22) (kne kA3 (by decide)), KX.al (KX.trans hXG11 hXG22) (kne kA4 (by decide))⟩ (by show ¬ _; omega) (by show ¬ _; omega) (fun p hp => by show ¬ _; omega)
    have hFfG25 : FPa P G25 f := (hFfG22).wx hXG25 hfG25 ⟨KX.al (KX.trans hXG11 hXG22) (kne kf3 (by decide)), KX.al (KX.trans hXG11 hXG22) (kne kf4 (by decide))⟩ (by show ¬ _; omega) (by show ¬ _; omega) (fun p hp => by show ¬ _; omega)
    show WP kX2_linkOne X 70 [some (2, ((327682 : Nat) : Int)), some (0, k), some (2, ((A : Nat) : Int)), some (2, ((f : Nat) : Int)), some (0, rr12)] [] G25
    refine s_iconst dX2_linkOne_70 (by decide) ?_
    exact s_iret hR dX2_linkOne_71 rfl (hQ 0 G25 hCG25 (KX.trans (KX.trans hXG11 hXG22) hXG25) hFG25 hFfG25)
  · -- 36 to 39
    refine s_bipush dX2_linkOne_39 rfl (by decide) ?_
    refine s_iload_n dX2_linkOne_41 rfl ?_
    refine s_callSN (own := RX2) rfl (by decide +kernel) (as := [(0, 7), (0, k)]) (rest := []) gX11_valueMistake dX2_linkOne_42 m_1784 m_714 m_129 ⟨by decide, by decide, show (parseMethodDescriptor yX11_valueMistake.desc).map (fun d => d.parameters.length) = some 2 from by decide +kernel⟩ (Nat.le_of_ble_eq_true rfl) (by rw [hcf]; exact Nat.le_of_ble_eq_true rfl) rfl (Nat.le_of_ble_eq_true rfl) ⟨7, k, rfl, (by first | assumption | omega), (by first | assumption | omega), fun rr28 hp29 => ?_⟩
    show WP kX2_linkOne X 45 [some (2, ((327682 : Nat) : Int)), some (0, k), some (2, ((A : Nat) : Int)), some (2, ((f : Nat) : Int)), some (0, rr12)] [(0, rr28)] G11
    exact s_iret hR dX2_linkOne_45 rfl (hQ rr28 G11 hCG11 hXG11 hFG11 hFfG11)

abbrev kX2_linkBoth : KD := (RX2, cX2_linkBoth, 9, (some .int), [])
def TX2_linkBoth : TR := fun as G Qr => ∃ (P : Int → Prop) (k : Int) (A B f : Nat) (a b : Nat), as = [(2, ((327682 : Nat) : Int)), (0, k), (2, ((A : Nat) : Int)), (2, ((B : Nat) : Int)), (2, ((f : Nat) : Int))] ∧ CI a b G ∧ (a ≤ 2840000 ∧ b ≤ 590000) ∧ (0 ≤ k ∧ k < 10) ∧ (isFc A) ∧ (isFc B) ∧ (isFc f) ∧ (A ≠ f ∧ B ≠ f) ∧ (∀ k : Nat, k < 6 → FIP P G 262144 k) ∧ (FPa P G A) ∧ (FPa P G B) ∧ (FPa P G f) ∧ ∀ (r : Int) (G' : LG), CI a b G' → KX G G' → WX (fun x => x = 327691 ∨ x = 327692 ∨ (f + 1 ≤ x ∧ x ≤ f + 22)) G G' → (FPa P G' f) → Qr (.inl (some (0, r))) G'
set_option maxHeartbeats 4000000 in
set_option maxRecDepth 100000 in
theorem gX2_linkBoth : Good kX2_linkBoth yX2_linkBoth 3 TX2_linkBoth := by
  refine good_of (by decide) rfl rfl (fun as G Qr h => ?_) (fun X as G Qr hcf hR hT oa => ?_)
  · obtain ⟨P, k, A, B, f, a, b, rfl, -⟩ := h; exact Nat.le_of_ble_eq_true rfl
  obtain ⟨P, k, A, B, f, a, b, rfl, hC, hab, hk, hA, hB, hf, hne, hFI, hFA, hFB, hFf, hQ⟩ := hT
  show WP kX2_linkBoth X 0 [some (2, ((327682 : Nat) : Int)), some (0, k), some (2, ((A : Nat) : Int)), some (2, ((B : Nat) : Int)), some (2, ((f : Nat) : Int)), none, none, none, none] [] G
  have hr_k : inR k := okv_R (oa _ (by simp))
  refine s_alvl 327682 (k := 0) rfl (fun alZ => ?_)
  refine s_alvl A (k := 2) rfl (fun alA => ?_)
  refine s_alvl B (k := 3) rfl (fun alB => ?_)
  refine s_alvl f (k := 4) rfl (fun alf => ?_)
  refine s_lk (fun hlk => ?_)
  have hfn := hlk.fna hC alZ
  obtain ⟨k327682, k327681, k327683, k262144, k262208, k327684, k68097, k327691, k327692, k262145, k262146, k262148, k262149, k262209, k262210, k262212, k262213, k327710, k327685, k327688⟩ := id hfn
  have hfA := hlk.fc hC hA alA
  obtain ⟨kA0, kA1, kA2, kA3, kA4, kA5, kA6⟩ := hfA.1
  have hfB := hlk.fc hC hB alB
  obtain ⟨kB0, kB1, kB2, kB3, kB4, kB5, kB6⟩ := hfB.1
  have hff := hlk.fc hC hf alf
  obtain ⟨kf0, kf1, kf2, kf3, kf4, kf5, kf6⟩ := hff.1
  refine s_aload_n dX2_linkBoth_0 rfl (Int.natCast_nonneg _) ?_
  have hv1 : gS G 327682 2 = ((262144 : Nat) : Int) := by have h9 : (gS G 327682 2) = 262144 := hC.1.v (j := 2) (by decide : cde 327682 = 502) (kne k327682 (by decide)) (by rw [k327682]; exact Nat.le_of_ble_eq_true rfl); omega
  refine s_getf (ci := 3) (k := 2) (C := RX2) (T := TX2) (N := 8) (n := 327682) (L := 0) (t := 2) dX2_linkBoth_1 rfl wi_70 m_577 (Nat.le_of_ble_eq_true rfl) rfl rfl k327682 hv1 ?_
  refine s_aload_n dX2_linkBoth_4 rfl (Int.natCast_nonneg _) ?_
  have hv2 : gS G A 3 = ((A + 3 : Nat) : Int) := by have h9 : (gS G A 3) = (((A % 1048576) + 3 : Nat) : Int) := hC.1.v (j := 3) (by rw [cde_n (by omega) (by omega)]; omega : cde A = 101) (kne kA0 (by decide)) (by rw [kA0]; exact Nat.le_of_ble_eq_true rfl); omega
  refine s_getf (ci := 1) (k := 3) (C := RX0) (T := TX0) (N := 7) (n := A) (L := 0) (t := 2) dX2_linkBoth_5 rfl wi_65 m_574 (Nat.le_of_ble_eq_true rfl) rfl rfl kA0 hv2 ?_
  refine s_bipush dX2_linkBoth_8 rfl (by decide) ?_
  refine s_iload_n dX2_linkBoth_10 rfl ?_
  refine s_iadd dX2_linkBoth_11 (by omega) ?_
  have hv4b : 0 ≤ (gS G (A + 3) (6 + k : Int).toNat) ∧ (gS G (A + 3) (6 + k : Int).toNat) % 1048576 = ((((A + 3) % 1048576) + 4 + ((6 + k : Int).toNat) : Nat) : Int) := hC.1.v (j := (6 + k : Int).toNat) (by rw [cde_n (by omega) (by omega)]; omega : cde (A + 3) = 104) (kne kA3 (by decide)) (by rw [kA3]; show (6 + k : Int).toNat < 16; omega)
  obtain ⟨q3, hv4⟩ : ∃ q : Nat, gS G (A + 3) (6 + k : Int).toNat = (q : Int) := ⟨(gS G (A + 3) (6 + k : Int).toNat).toNat, by omega⟩
  rw [hv4] at hv4b
  refine s_aald4 dX2_linkBoth_12 kA3 (by omega) (by omega) hv4 ?_
  refine s_aload_n dX2_linkBoth_13 rfl (Int.natCast_nonneg _) ?_
  have hv5 : gS G A 4 = ((A + 4 : Nat) : Int) := by have h9 : (gS G A 4) = (((A % 1048576) + 4 : Nat) : Int) := hC.1.v (j := 4) (by rw [cde_n (by omega) (by omega)]; omega : cde A = 101) (kne kA0 (by decide)) (by rw [kA0]; exact Nat.le_of_ble_eq_true rfl); omega
  refine s_getf (ci := 1) (k := 4) (C := RX0) (T := TX0) (N := 7) (n := A) (L := 0) (t := 2) dX2_linkBoth_14 rfl wi_65 m_575 (Nat.le_of_ble_eq_true rfl) rfl rfl kA0 hv5 ?_
  refine s_bipush dX2_linkBoth_17 rfl (by decide) ?_
  refine s_iload_n dX2_linkBoth_19 rfl ?_
  refine s_iadd dX2_linkBoth_20 (by omega) ?_
  have hv6 : 0 ≤ (gS G (A + 4) (6 + k : Int).toNat) ∧ (gS G (A + 4) (6 + k : Int).toNat) ≤ 200 := hC.1.v (j := (6 + k : Int).toNat) (by rw [cde_n (by omega) (by omega)]; omega : cde (A + 4) = 105) (kne kA4 (by decide)) (by rw [kA4]; show (6 + k : Int).toNat < 16; omega)
  refine s_iald dX2_linkBoth_21 kA4 (by omega) (by omega) rfl ?_
  refine s_aload_n dX2_linkBoth_22 rfl (Int.natCast_nonneg _) ?_
  have hv7 : gS G 327682 6 = ((327691 : Nat) : Int) := by have h9 : (gS G 327682 6) = 327691 := hC.1.v (j := 6) (by decide : cde 327682 = 502) (kne k327682 (by decide)) (by rw [k327682]; exact Nat.le_of_ble_eq_true rfl); omega
  refine s_getf (ci := 3) (k := 6) (C := RX2) (T := TX2) (N := 8) (n := 327682) (L := 0) (t := 2) dX2_linkBoth_23 rfl wi_70 m_582 (Nat.le_of_ble_eq_true rfl) rfl rfl k327682 hv7 ?_
  refine s_alv (q3) (by simp) (fun al8 => ?_)
  obtain ⟨L10, hk9, hL10a, hL10b⟩ := hC.1.kr (show 108 ≤ cde q3 ∧ cde q3 < 124 from by rw [cde_n (by omega) (by omega)]; omega) al8
  refine s_callV (as := [(2, ((q3 : Nat) : Int)), (0, gS G (A + 4) ((6 + k : Int).toNat)), (2, ((327691 : Nat) : Int))]) (rest := []) (n := 262144) (ci := 2) gX1_put dX2_linkBoth_26 m_1319 m_918 m_1493 m_712 m_260 ⟨by decide, by decide, show (parseMethodDescriptor yX1_put.desc).map (fun d => d.parameters.length) = some 3 from by decide +kernel⟩ (Nat.le_of_ble_eq_true rfl) (by rw [hcf]; exact Nat.le_of_ble_eq_true rfl) k262144 rfl rfl (Nat.le_of_ble_eq_true rfl) ⟨262144, q3, L10, gS G (A + 4) ((6 + k : Int).toNat), 327691, a, b, rfl, hC, hab, (by assumption), hk9, (by omega), k327691, (by exact FRW.s), (by omega), (by omega), (by omega), fun rr12 G11 hCG11 hXG11 hfG11 hpG11 => ?_⟩
  have hFG11 : WX (fun x => x = 327691 ∨ x = 327692 ∨ (f + 1 ≤ x ∧ x ≤ f + 22)) G G11 := WX.trans WX.rf KX.rf (WX.mono hfG11 (fun x hx => by omega))
  have hFIG11 : ∀ k : Nat, k < 6 → FIP P G11 262144 k := fun k hk => FIP.sm (hFI k hk) hXG11 hfG11 (by show ¬ _; omega) (congrFun (hfG11 262149 (KX.al KX.rf (kne k262149 (by decide))) (by show ¬ _; omega)) k)
  have hFAG11 : FPa P G11 A := (hFA).wx hXG11 hfG11 ⟨KX.al KX.rf (kne kA3 (by decide)), KX.al KX.rf (kne kA4 (by decide))⟩ (by show ¬ _; omega) (by show ¬ _; omega) (fun p hp => by show ¬ _; omega)
  have hFBG11 : FPa P G11 B := (hFB).wx hXG11 hfG11 ⟨KX.al KX.rf (kne kB3 (by decide)), KX.al KX.rf (kne kB4 (by decide))⟩ (by show ¬ _; omega) (by show ¬ _; omega) (fun p hp => by show ¬ _; omega)
  have hFfG11 : FPa P G11 f := (hFf).wx hXG11 hfG11 ⟨KX.al KX.rf (kne kf3 (by decide)), KX.al KX.rf (kne kf4 (by decide))⟩ (by show ¬ _; omega) (by show ¬ _; omega) (fun p hp => by show ¬ _; omega)
  show WP kX2_linkBoth X 29 [some (2, ((327682 : Nat) : Int)), some (0, k), some (2, ((A : Nat) : Int)), some (2, ((B : Nat) : Int)), some (2, ((f : Nat) : Int)), none, none, none, none] [(0, rr12)] G11
  refine s_istore dX2_linkBoth_29 (by decide) (lv' := [some (2, ((327682 : Nat) : Int)), some (0, k), some (2, ((A : Nat) : Int)), some (2, ((B : Nat) : Int)), some (2, ((f : Nat) : Int)), some (0, rr12), none, none, none]) rfl ?_
  refine s_aload_n dX2_linkBoth_31 rfl (Int.natCast_nonneg _) ?_
  have hk13 : gK G11 (327682) = (11, 0) := ((hXG11).k k327682 (by decide))
  refine s_alv (327682) (by simp) (fun al14 => ?_)
  have hv15 : gS G11 327682 2 = ((262144 : Nat) : Int) := by have h9 : (gS G11 327682 2) = 262144 := hCG11.1.v (j := 2) (by decide : cde 327682 = 502) al14 (by rw [hk13]; exact Nat.le_of_ble_eq_true rfl); omega
  refine s_getf (ci := 3) (k := 2) (C := RX2) (T := TX2) (N := 8) (n := 327682) (L := 0) (t := 2) dX2_linkBoth_32 rfl wi_70 m_577 (Nat.le_of_ble_eq_true rfl) rfl rfl hk13 hv15 ?_
  refine s_aload_n dX2_linkBoth_35 rfl (Int.natCast_nonneg _) ?_
  have hk16 : gK G11 (B) = (9, 0) := ((hXG11).k kB0 (by decide))
  refine s_alv (B) (by simp) (fun al17 => ?_)
  have hv18 : gS G11 B 3 = ((B + 3 : Nat) : Int) := by have h9 : (gS G11 B 3) = (((B % 1048576) + 3 : Nat) : Int) := hCG11.1.v (j := 3) (by rw [cde_n (by omega) (by omega)]; omega : cde B = 101) al17 (by rw [hk16]; exact Nat.le_of_ble_eq_true rfl); omega
  refine s_getf (ci := 1) (k := 3) (C := RX0) (T := TX0) (N := 7) (n := B) (L := 0) (t := 2) dX2_linkBoth_36 rfl wi_65 m_574 (Nat.le_of_ble_eq_true rfl) rfl rfl hk16 hv18 ?_
  refine s_bipush dX2_linkBoth_39 rfl (by decide) ?_
  refine s_iload_n dX2_linkBoth_41 rfl ?_
  refine s_iadd dX2_linkBoth_42 (by omega) ?_
  have hk19 : gK G11 (B + 3) = (4, 16) := ((hXG11).k kB3 (by decide))
  refine s_alv (B + 3) (by simp) (fun al20 => ?_)
  have hv22b : 0 ≤ (gS G11 (B + 3) (6 + k : Int).toNat) ∧ (gS G11 (B + 3) (6 + k : Int).toNat) % 1048576 = ((((B + 3) % 1048576) + 4 + ((6 + k : Int).toNat) : Nat) : Int) := hCG11.1.v (j := (6 + k : Int).toNat) (by rw [cde_n (by omega) (by omega)]; omega : cde (B + 3) = 104) al20 (by rw [hk19]; show (6 + k : Int).toNat < 16; omega)
  obtain ⟨q21, hv22⟩ : ∃ q : Nat, gS G11 (B + 3) (6 + k : Int).toNat = (q : Int) := ⟨(gS G11 (B + 3) (6 + k : Int).toNat).toNat, by omega⟩
  rw [hv22] at hv22b
  refine s_aald4 dX2_linkBoth_43 hk19 (by omega) (by omega) hv22 ?_
  refine s_aload_n dX2_linkBoth_44 rfl (Int.natCast_nonneg _) ?_
  have hv23 : gS G11 B 4 = ((B + 4 : Nat) : Int) := by have h9 : (gS G11 B 4) = (((B % 1048576) + 4 : Nat) : Int) := hCG11.1.v (j := 4) (by rw [cde_n (by omega) (by omega)]; omega : cde B = 101) al17 (by rw [hk16]; exact Nat.le_of_ble_eq_true rfl); omega
  refine s_getf (ci := 1) (k := 4) (C := RX0) (T := TX0) (N := 7) (n := B) (L := 0) (t := 2) dX2_linkBoth_45 rfl wi_65 m_575 (Nat.le_of_ble_eq_true rfl) rfl rfl hk16 hv23 ?_
  refine s_bipush dX2_linkBoth_48 rfl (by decide) ?_
  refine s_iload_n dX2_linkBoth_50 rfl ?_
  refine s_iadd dX2_linkBoth_51 (by omega) ?_
  have hk24 : gK G11 (B + 4) = (1, 16) := ((hXG11).k kB4 (by decide))
  refine s_alv (B + 4) (by simp) (fun al25 => ?_)
  have hv26 : 0 ≤ (gS G11 (B + 4) (6 + k : Int).toNat) ∧ (gS G11 (B + 4) (6 + k : Int).toNat) ≤ 200 := hCG11.1.v (j := (6 + k : Int).toNat) (by rw [cde_n (by omega) (by omega)]; omega : cde (B + 4) = 105) al25 (by rw [hk24]; show (6 + k : Int).toNat < 16; omega)
  refine s_iald dX2_linkBoth_52 hk24 (by omega) (by omega) rfl ?_
  refine s_aload_n dX2_linkBoth_53 rfl (Int.natCast_nonneg _) ?_
  have hv27 : gS G11 327682 7 = ((327692 : Nat) : Int) := by have h9 : (gS G11 327682 7) = 327692 := hCG11.1.v (j := 7) (by decide : cde 327682 = 502) al14 (by rw [hk13]; exact Nat.le_of_ble_eq_true rfl); omega
  refine s_getf (ci := 3) (k := 7) (C := RX2) (T := TX2) (N := 8) (n := 327682) (L := 0) (t := 2) dX2_linkBoth_54 rfl wi_70 m_583 (Nat.le_of_ble_eq_true rfl) rfl rfl hk13 hv27 ?_
  refine s_alv (q21) (by simp) (fun al28 => ?_)
  obtain ⟨L30, hk29, hL30a, hL30b⟩ := hCG11.1.kr (show 108 ≤ cde q21 ∧ cde q21 < 124 from by rw [cde_n (by omega) (by omega)]; omega) al28
  have hk31 : gK G11 (327692) = (1, 200) := ((hXG11).k k327692 (by decide))
  have hk34 : gK G11 (262144) = (10, 0) := ((hXG11).k k262144 (by decide))
  refine s_callV (as := [(2, ((q21 : Nat) : Int)), (0, gS G11 (B + 4) ((6 + k : Int).toNat)), (2, ((327692 : Nat) : Int))]) (rest := []) (n := 262144) (ci := 2) gX1_put dX2_linkBoth_57 m_1319 m_918 m_1493 m_712 m_260 ⟨by decide, by decide, show (parseMethodDescriptor yX1_put.desc).map (fun d => d.parameters.length) = some 3 from by decide +kernel⟩ (Nat.le_of_ble_eq_true rfl) (by rw [hcf]; exact Nat.le_of_ble_eq_true rfl) hk34 rfl rfl (Nat.le_of_ble_eq_true rfl) ⟨262144, q21, L30, gS G11 (B + 4) ((6 + k : Int).toNat), 327692, a, b, rfl, hCG11, hab, (by assumption), hk29, (by omega), hk31, (by exact FRW.o), (by omega), (by omega), (by omega), fun rr33 G32 hCG32 hXG32 hfG32 hpG32 => ?_⟩
  have hFG32 : WX (fun x => x = 327691 ∨ x = 327692 ∨ (f + 1 ≤ x ∧ x ≤ f + 22)) G G32 := WX.trans hFG11 hXG11 (WX.mono hfG32 (fun x hx => by omega))
  have hFIG32 : ∀ k : Nat, k < 6 → FIP P G32 262144 k := fun k hk => FIP.sm (hFIG11 k hk) hXG32 hfG32 (by show ¬ _; omega) (congrFun (hfG32 262149 (KX.al hXG11 (kne k262149 (by decide))) (by show ¬ _; omega)) k)
  have hFAG32 : FPa P G32 A := (hFAG11).wx hXG32 hfG32 ⟨KX.al hXG11 (kne kA3 (by decide)), KX.al hXG11 (kne kA4 (by decide))⟩ (by show ¬ _; omega) (by show ¬ _; omega) (fun p hp => by show ¬ _; omega)
  have hFBG32 : FPa P G32 B := (hFBG11).wx hXG32 hfG32 ⟨KX.al hXG11 (kne kB3 (by decide)), KX.al hXG11 (kne kB4 (by decide))⟩ (by show ¬ _; omega) (by show ¬ _; omega) (fun p hp => by show ¬ _; omega)
  have hFfG32 : FPa P G32 f := (hFfG11).wx hXG32 hfG32 ⟨KX.al hXG11 (kne kf3 (by decide)), KX.al hXG11 (kne kf4 (by decide))⟩ (by show ¬ _; omega) (by show ¬ _; omega) (fun p hp => by show ¬ _; omega)
  show WP kX2_linkBoth X 60 [some (2, ((327682 : Nat) : Int)), some (0, k), some (2, ((A : Nat) : Int)), some (2, ((B : Nat) : Int)), some (2, ((f : Nat) : Int)), some (0, rr12), none, none, none] [(0, rr33)] G32
  refine s_istore dX2_linkBoth_60 (by decide) (lv' := [some (2, ((327682 : Nat) : Int)), some (0, k), some (2, ((A : Nat) : Int)), some (2, ((B : Nat) : Int)), some (2, ((f : Nat) : Int)), some (0, rr12), some (0, rr33), none, none]) rfl ?_
  refine s_iload dX2_linkBoth_62 rfl ?_
  refine s_sipush dX2_linkBoth_64 rfl (by decide) ?_
  refine s_icmp_gt (tgt := 78) dX2_linkBoth_67 (by decide) (fun c35 => ?_) (fun c35 => ?_)
  · -- 67 to 78
    refine s_bipush dX2_linkBoth_78 rfl (by decide) ?_
    refine s_iload_n dX2_linkBoth_80 rfl ?_
    refine s_callSN (own := RX2) rfl (by decide +kernel) (as := [(0, 7), (0, k)]) (rest := []) gX11_valueMistake dX2_linkBoth_81 m_1784 m_714 m_129 ⟨by decide, by decide, show (parseMethodDescriptor yX11_valueMistake.desc).map (fun d => d.parameters.length) = some 2 from by decide +kernel⟩ (Nat.le_of_ble_eq_true rfl) (by rw [hcf]; exact Nat.le_of_ble_eq_true rfl) rfl (Nat.le_of_ble_eq_true rfl) ⟨7, k, rfl, (by first | assumption | omega), (by first | assumption | omega), fun rr36 hp37 => ?_⟩
    show WP kX2_linkBoth X 84 [some (2, ((327682 : Nat) : Int)), some (0, k), some (2, ((A : Nat) : Int)), some (2, ((B : Nat) : Int)), some (2, ((f : Nat) : Int)), some (0, rr12), some (0, rr33), none, none] [(0, rr36)] G32
    exact s_iret hR dX2_linkBoth_84 rfl (hQ rr36 G32 hCG32 (KX.trans hXG11 hXG32) hFG32 hFfG32)
  · -- 67 to 70
    refine s_iload dX2_linkBoth_70 rfl ?_
    refine s_sipush dX2_linkBoth_72 rfl (by decide) ?_
    refine s_icmp_le (tgt := 85) dX2_linkBoth_75 (by decide) (fun c38 => ?_) (fun c38 => ?_)
    · -- 75 to 85
      refine s_aload_n dX2_linkBoth_85 rfl (Int.natCast_nonneg _) ?_
      refine s_iload_n dX2_linkBoth_86 rfl ?_
      have hk41 : gK G32 (A) = (9, 0) := ((hXG32).k ((hXG11).k kA0 (by decide)) (by decide))
      refine s_callV (as := [(0, k)]) (rest := []) (n := A) (ci := 1) gX0_isValueHole dX2_linkBoth_87 m_1322 m_743 m_1476 m_711 m_70 ⟨by decide, by decide, show (parseMethodDescriptor yX0_isValueHole.desc).map (fun d => d.parameters.length) = some 1 from by decide +kernel⟩ (Nat.le_of_ble_eq_true rfl) (by rw [hcf]; exact Nat.le_of_ble_eq_true rfl) hk41 rfl rfl (Nat.le_of_ble_eq_true rfl) ⟨A, k, a, b, rfl, hCG32, hab, (by first | assumption | omega), (by first | assumption | omega), fun rr39 hp40 => ?_⟩
      show WP kX2_linkBoth X 90 [some (2, ((327682 : Nat) : Int)), some (0, k), some (2, ((A : Nat) : Int)), some (2, ((B : Nat) : Int)), some (2, ((f : Nat) : Int)), some (0, rr12), some (0, rr33), none, none] [(0, rr39)] G32
      refine s_if_ne (tgt := 107) dX2_linkBoth_90 (by decide) (fun c42 => ?_) (fun c42 => ?_)
      · -- 90 to 107
        refine s_aload_n dX2_linkBoth_107 rfl (Int.natCast_nonneg _) ?_
        have hk43 : gK G32 (327682) = (11, 0) := ((hXG32).k hk13 (by decide))
        refine s_alv (327682) (by simp) (fun al44 => ?_)
        have hv45 : gS G32 327682 6 = ((327691 : Nat) : Int) := by have h9 : (gS G32 327682 6) = 327691 := hCG32.1.v (j := 6) (by decide : cde 327682 = 502) al44 (by rw [hk43]; exact Nat.le_of_ble_eq_true rfl); omega
        refine s_getf (ci := 3) (k := 6) (C := RX2) (T := TX2) (N := 8) (n := 327682) (L := 0) (t := 2) dX2_linkBoth_108 rfl wi_70 m_582 (Nat.le_of_ble_eq_true rfl) rfl rfl hk43 hv45 ?_
        refine s_iload dX2_linkBoth_111 rfl ?_
        refine s_aload_n dX2_linkBoth_113 rfl (Int.natCast_nonneg _) ?_
        have hv46 : gS G32 327682 7 = ((327692 : Nat) : Int) := by have h9 : (gS G32 327682 7) = 327692 := hCG32.1.v (j := 7) (by decide : cde 327682 = 502) al44 (by rw [hk43]; exact Nat.le_of_ble_eq_true rfl); omega
        refine s_getf (ci := 3) (k := 7) (C := RX2) (T := TX2) (N := 8) (n := 327682) (L := 0) (t := 2) dX2_linkBoth_114 rfl wi_70 m_583 (Nat.le_of_ble_eq_true rfl) rfl rfl hk43 hv46 ?_
        refine s_iload dX2_linkBoth_117 rfl ?_
        have hk47 : gK G32 (327691) = (1, 200) := ((hXG32).k ((hXG11).k k327691 (by decide)) (by decide))
        have hk48 : gK G32 (327692) = (1, 200) := ((hXG32).k hk31 (by decide))
        refine s_callSN (own := RX2) rfl (by decide +kernel) (as := [(2, ((327691 : Nat) : Int)), (0, rr12), (2, ((327692 : Nat) : Int)), (0, rr33)]) (rest := []) gX11_isSameRow dX2_linkBoth_119 m_1778 m_714 m_98 ⟨by decide, by decide, show (parseMethodDescriptor yX11_isSameRow.desc).map (fun d => d.parameters.length) = some 4 from by decide +kernel⟩ (Nat.le_of_ble_eq_true rfl) (by rw [hcf]; exact Nat.le_of_ble_eq_true rfl) rfl (Nat.le_of_ble_eq_true rfl) ⟨327691, 200, rr12, 327692, 200, rr33, rfl, hk47, (by first | assumption | omega), hk48, (by first | assumption | omega), fun rr49 hp50 => ?_⟩
        show WP kX2_linkBoth X 122 [some (2, ((327682 : Nat) : Int)), some (0, k), some (2, ((A : Nat) : Int)), some (2, ((B : Nat) : Int)), some (2, ((f : Nat) : Int)), some (0, rr12), some (0, rr33), none, none] [(0, rr49)] G32
        refine s_if_ne (tgt := 131) dX2_linkBoth_122 (by decide) (fun c51 => ?_) (fun c51 => ?_)
        · -- 122 to 131
          refine s_aload_n dX2_linkBoth_131 rfl (Int.natCast_nonneg _) ?_
          refine s_iload_n dX2_linkBoth_132 rfl ?_
          refine s_callV (as := [(0, k)]) (rest := []) (n := A) (ci := 1) gX0_isValueHole dX2_linkBoth_133 m_1322 m_743 m_1476 m_711 m_70 ⟨by decide, by decide, show (parseMethodDescriptor yX0_isValueHole.desc).map (fun d => d.parameters.length) = some 1 from by decide +kernel⟩ (Nat.le_of_ble_eq_true rfl) (by rw [hcf]; exact Nat.le_of_ble_eq_true rfl) hk41 rfl rfl (Nat.le_of_ble_eq_true rfl) ⟨A, k, a, b, rfl, hCG32, hab, (by first | assumption | omega), (by first | assumption | omega), fun rr52 hp53 => ?_⟩
          show WP kX2_linkBoth X 136 [some (2, ((327682 : Nat) : Int)), some (0, k), some (2, ((A : Nat) : Int)), some (2, ((B : Nat) : Int)), some (2, ((f : Nat) : Int)), some (0, rr12), some (0, rr33), none, none] [(0, rr52)] G32
          refine s_if_eq (tgt := 178) dX2_linkBoth_136 (by decide) (fun c54 => ?_) (fun c54 => ?_)
          · -- 136 to 178
            refine s_aload_n dX2_linkBoth_178 rfl (Int.natCast_nonneg _) ?_
            refine s_iload_n dX2_linkBoth_179 rfl ?_
            refine s_callV (as := [(0, k)]) (rest := []) (n := A) (ci := 1) gX0_isValueHole dX2_linkBoth_180 m_1322 m_743 m_1476 m_711 m_70 ⟨by decide, by decide, show (parseMethodDescriptor yX0_isValueHole.desc).map (fun d => d.parameters.length) = some 1 from by decide +kernel⟩ (Nat.le_of_ble_eq_true rfl) (by rw [hcf]; exact Nat.le_of_ble_eq_true rfl) hk41 rfl rfl (Nat.le_of_ble_eq_true rfl) ⟨A, k, a, b, rfl, hCG32, hab, (by first | assumption | omega), (by first | assumption | omega), fun rr55 hp56 => ?_⟩
            show WP kX2_linkBoth X 183 [some (2, ((327682 : Nat) : Int)), some (0, k), some (2, ((A : Nat) : Int)), some (2, ((B : Nat) : Int)), some (2, ((f : Nat) : Int)), some (0, rr12), some (0, rr33), none, none] [(0, rr55)] G32
            refine s_if_eq (tgt := 190) dX2_linkBoth_183 (by decide) (fun c57 => ?_) (fun c57 => ?_)
            · -- 183 to 190
              refine s_aload_n dX2_linkBoth_190 rfl (Int.natCast_nonneg _) ?_
              refine s_astore (Int.natCast_nonneg _) dX2_linkBoth_191 (by decide) (lv' := [some (2, ((327682 : Nat) : Int)), some (0, k), some (2, ((A : Nat) : Int)), some (2, ((B : Nat) : Int)), some (2, ((f : Nat) : Int)), some (0, rr12), some (0, rr33), some (2, ((A : Nat) : Int)), none]) rfl ?_
              refine s_aload_n dX2_linkBoth_193 rfl (Int.natCast_nonneg _) ?_
              refine s_iload_n dX2_linkBoth_194 rfl ?_
              refine s_callV (as := [(0, k)]) (rest := []) (n := A) (ci := 1) gX0_isValueHole dX2_linkBoth_195 m_1322 m_743 m_1476 m_711 m_70 ⟨by decide, by decide, show (parseMethodDescriptor yX0_isValueHole.desc).map (fun d => d.parameters.length) = some 1 from by decide +kernel⟩ (Nat.le_of_ble_eq_true rfl) (by rw [hcf]; exact Nat.le_of_ble_eq_true rfl) hk41 rfl rfl (Nat.le_of_ble_eq_true rfl) ⟨A, k, a, b, rfl, hCG32, hab, (by first | assumption | omega), (by first | assumption | omega), fun rr58 hp59 => ?_⟩
              show WP kX2_linkBoth X 198 [some (2, ((327682 : Nat) : Int)), some (0, k), some (2, ((A : Nat) : Int)), some (2, ((B : Nat) : Int)), some (2, ((f : Nat) : Int)), some (0, rr12), some (0, rr33), some (2, ((A : Nat) : Int)), none] [(0, rr58)] G32
              refine s_if_eq (tgt := 205) dX2_linkBoth_198 (by decide) (fun c60 => ?_) (fun c60 => ?_)
              · -- 198 to 205
                refine s_aload_n dX2_linkBoth_205 rfl (Int.natCast_nonneg _) ?_
                refine s_astore (Int.natCast_nonneg _) dX2_linkBoth_206 (by decide) (lv' := [some (2, ((327682 : Nat) : Int)), some (0, k), some (2, ((A : Nat) : Int)), some (2, ((B : Nat) : Int)), some (2, ((f : Nat) : Int)), some (0, rr12), some (0, rr33), some (2, ((A : Nat) : Int)), some (2, ((B : Nat) : Int))]) rfl ?_
                refine s_aload dX2_linkBoth_208 rfl (Int.natCast_nonneg _) ?_
                refine s_iload_n dX2_linkBoth_210 rfl ?_
                refine s_callV (as := [(0, k)]) (rest := []) (n := A) (ci := 1) gX0_isGhost dX2_linkBoth_211 m_1323 m_741 m_1474 m_711 m_68 ⟨by decide, by decide, show (parseMethodDescriptor yX0_isGhost.desc).map (fun d => d.parameters.length) = some 1 from by decide +kernel⟩ (Nat.le_of_ble_eq_true rfl) (by rw [hcf]; exact Nat.le_of_ble_eq_true rfl) hk41 rfl rfl (Nat.le_of_ble_eq_true rfl) ⟨A, k, a, b, rfl, hCG32, hab, (by first | assumption | omega), (by first | assumption | omega), fun rr61 hp62 => ?_⟩
                show WP kX2_linkBoth X 214 [some (2, ((327682 : Nat) : Int)), some (0, k), some (2, ((A : Nat) : Int)), some (2, ((B : Nat) : Int)), some (2, ((f : Nat) : Int)), some (0, rr12), some (0, rr33), some (2, ((A : Nat) : Int)), some (2, ((B : Nat) : Int))] [(0, rr61)] G32
                refine s_if_eq (tgt := 233) dX2_linkBoth_214 (by decide) (fun c63 => ?_) (fun c63 => ?_)
                · -- 214 to 233
                  refine s_aload dX2_linkBoth_233 rfl (Int.natCast_nonneg _) ?_
                  refine s_iload_n dX2_linkBoth_235 rfl ?_
                  refine s_aload dX2_linkBoth_236 rfl (Int.natCast_nonneg _) ?_
                  refine s_alv (A) (by simp) (fun al64 => ?_)
                  have hv65 : gS G32 A 2 = ((A + 2 : Nat) : Int) := by have h9 : (gS G32 A 2) = (((A % 1048576) + 2 : Nat) : Int) := hCG32.1.v (j := 2) (by rw [cde_n (by omega) (by omega)]; omega : cde A = 101) al64 (by rw [hk41]; exact Nat.le_of_ble_eq_true rfl); omega
                  refine s_getf (ci := 1) (k := 2) (C := RX0) (T := TX0) (N := 7) (n := A) (L := 0) (t := 2) dX2_linkBoth_238 rfl wi_65 m_576 (Nat.le_of_ble_eq_true rfl) rfl rfl hk41 hv65 ?_
                  refine s_iload_n dX2_linkBoth_241 rfl ?_
                  have hk66 : gK G32 (A + 2) = (1, 10) := ((hXG32).k ((hXG11).k kA2 (by decide)) (by decide))
                  refine s_iald dX2_linkBoth_242 hk66 (by omega) (by omega) rfl ?_
                  refine s_aload_n dX2_linkBoth_243 rfl (Int.natCast_nonneg _) ?_
                  have hv67 : gS G32 327682 6 = ((327691 : Nat) : Int) := by have h9 : (gS G32 327682 6) = 327691 := hCG32.1.v (j := 6) (by decide : cde 327682 = 502) al44 (by rw [hk43]; exact Nat.le_of_ble_eq_true rfl); omega
                  refine s_getf (ci := 3) (k := 6) (C := RX2) (T := TX2) (N := 8) (n := 327682) (L := 0) (t := 2) dX2_linkBoth_244 rfl wi_70 m_582 (Nat.le_of_ble_eq_true rfl) rfl rfl hk43 hv67 ?_
                  refine s_iload dX2_linkBoth_247 rfl ?_
                  have hk70 : gK G32 (f) = (9, 0) := ((hXG32).k ((hXG11).k kf0 (by decide)) (by decide))
                  refine s_callV (as := [(0, k), (0, gS G32 (A + 2) ((k : Int).toNat)), (2, ((327691 : Nat) : Int)), (0, rr12)]) (rest := []) (n := f) (ci := 1) gX0_putValue dX2_linkBoth_249 m_1320 m_750 m_1483 m_711 m_77 ⟨by decide, by decide, show (parseMethodDescriptor yX0_putValue.desc).map (fun d => d.parameters.length) = some 4 from by decide +kernel⟩ (Nat.le_of_ble_eq_true rfl) (by rw [hcf]; exact Nat.le_of_ble_eq_true rfl) hk70 rfl rfl (Nat.le_of_ble_eq_true rfl) ⟨f, k, gS G32 (A + 2) ((k : Int).toNat), 327691, 200, rr12, a, b, rfl, hCG32, hab, (by first | assumption | omega), (by first | assumption | omega), hk47, (by first | assumption | omega), (by first | assumption | omega), (by first | assumption | omega), fun G68 hCG68 hXG68 hfG68 hpG68 => ?_⟩
                  have hFG68 : WX (fun x => x = 327691 ∨ x = 327692 ∨ (f + 1 ≤ x ∧ x ≤ f + 22)) G G68 := WX.trans hFG32 (KX.trans hXG11 hXG32) (WX.mono hfG68 (fun x hx => by omega))
                  have hFIG68 : ∀ k : Nat, k < 6 → FIP P G68 262144 k := fun k hk => FIP.sm (hFIG32 k hk) hXG68 hfG68 (by show ¬ _; omega) (congrFun (hfG68 262149 (KX.al (KX.trans hXG11 hXG32) (kne k262149 (by decide))) (by show ¬ _; omega)) k)
                  have hFAG68 : FPa P G68 A := (hFAG32).wx hXG68 hfG68 ⟨KX.al (KX.trans hXG11 hXG32) (kne kA3 (by decide)), KX.al (KX.trans hXG11 hXG32) (kne kA4 (by decide))⟩ (by show ¬ _; omega) (by show ¬ _; omega) (fun p hp => by show ¬ _; omega)
                  have hFBG68 : FPa P G68 B := (hFBG32).wx hXG68 hfG68 ⟨KX.al (KX.trans hXG11 hXG32) (kne kB3 (by decide)), KX.al (KX.trans hXG11 hXG32) (kne kB4 (by decide))⟩ (by show ¬ _; omega) (by show ¬ _; omega) (fun p hp => by show ¬ _; omega)
                  have hFfG68 : FPa P G68 f := FPa.put hpG68.1 hFfG32 (fun _ _ => (hpG11.2 P ((hFA (6 + k : Int).toNat (by omega)).rps hv4 rfl) hFI (by omega)).wx hXG32 hfG32 (by show ¬ _; omega)) hXG68 hfG68 (fun p hp hn => by show ¬ _; omega)
                  show WP kX2_linkBoth X 252 [some (2, ((327682 : Nat) : Int)), some (0, k), some (2, ((A : Nat) : Int)), some (2, ((B : Nat) : Int)), some (2, ((f : Nat) : Int)), some (0, rr12), some (0, rr33), some (2, ((A : Nat) : Int)), some (2, ((B : Nat) : Int))] [] G68
                  refine s_aload dX2_linkBoth_252 rfl (Int.natCast_nonneg _) ?_
                  refine s_iload_n dX2_linkBoth_254 rfl ?_
                  refine s_aload dX2_linkBoth_255 rfl (Int.natCast_nonneg _) ?_
                  refine s_iload_n dX2_linkBoth_257 rfl ?_
                  have hk73 : gK G68 (f) = (9, 0) := ((hXG68).k hk70 (by decide))
                  refine s_callV (as := [(0, k), (2, ((A : Nat) : Int)), (0, k)]) (rest := []) (n := f) (ci := 1) gX0_putNumberOf dX2_linkBoth_258 m_1321 m_745 m_1478 m_711 m_72 ⟨by decide, by decide, show (parseMethodDescriptor yX0_putNumberOf.desc).map (fun d => d.parameters.length) = some 3 from by decide +kernel⟩ (Nat.le_of_ble_eq_true rfl) (by rw [hcf]; exact Nat.le_of_ble_eq_true rfl) hk73 rfl rfl (Nat.le_of_ble_eq_true rfl) ⟨f, k, A, k, a, b, rfl, hCG68, hab, (by first | assumption | omega), (by first | assumption | omega), (by first | assumption | omega), (by first | assumption | omega), fun G71 hCG71 hXG71 hfG71 hpG71 => ?_⟩
                  have hFG71 : WX (fun x => x = 327691 ∨ x = 327692 ∨ (f + 1 ≤ x ∧ x ≤ f + 22)) G G71 := WX.trans hFG68 (KX.trans (KX.trans hXG11 hXG32) hXG68) (WX.mono hfG71 (fun x hx => by omega))
                  have hFIG71 : ∀ k : Nat, k < 6 → FIP P G71 262144 k := fun k hk => FIP.sm (hFIG68 k hk) hXG71 hfG71 (by show ¬ _; omega) (congrFun (hfG71 262149 (KX.al (KX.trans (KX.trans hXG11 hXG32) hXG68) (kne k262149 (by decide))) (by show ¬ _; omega)) k)
                  have hFAG71 : FPa P G71 A := (hFAG68).wx hXG71 hfG71 ⟨KX.al (KX.trans (KX.trans hXG11 hXG32) hXG68) (kne kA3 (by decide)), KX.al (KX.trans (KX.trans hXG11 hXG32) hXG68) (kne kA4 (by decide))⟩ (by show ¬ _; omega) (by show ¬ _; omega) (fun p hp => by show ¬ _; omega)
                  have hFBG71 : FPa P G71 B := (hFBG68).wx hXG71 hfG71 ⟨KX.al (KX.trans (KX.trans hXG11 hXG32) hXG68) (kne kB3 (by decide)), KX.al (KX.trans (KX.trans hXG11 hXG32) hXG68) (kne kB4 (by decide))⟩ (by show ¬ _; omega) (by show ¬ _; omega) (fun p hp => by show ¬ _; omega)
                  have hFfG71 : FPa P G71 f := (hFfG68).wx hXG71 hfG71 ⟨KX.al (KX.trans (KX.trans hXG11 hXG32) hXG68) (kne kf3 (by decide)), KX.al (KX.trans (KX.trans hXG11 hXG32) hXG68) (kne kf4 (by decide))⟩ (by show ¬ _; omega) (by show ¬ _; omega) (fun p hp => by show ¬ _; omega)
                  show WP kX2_linkBoth X 261 [some (2, ((327682 : Nat) : Int)), some (0, k), some (2, ((A : Nat) : Int)), some (2, ((B : Nat) : Int)), some (2, ((f : Nat) : Int)), some (0, rr12), some (0, rr33), some (2, ((A : Nat) : Int)), some (2, ((B : Nat) : Int))] [] G71
                  refine s_iconst dX2_linkBoth_261 (by decide) ?_
                  exact s_iret hR dX2_linkBoth_262 rfl (hQ 0 G71 hCG71 (KX.trans (KX.trans (KX.trans hXG11 hXG32) hXG68) hXG71) hFG71 hFfG71)
                · -- 214 to 217
                  refine s_aload dX2_linkBoth_217 rfl (Int.natCast_nonneg _) ?_
                  refine s_iload_n dX2_linkBoth_219 rfl ?_
                  have hk76 : gK G32 (B) = (9, 0) := ((hXG32).k hk16 (by decide))
                  refine s_callV (as := [(0, k)]) (rest := []) (n := B) (ci := 1) gX0_isGhost dX2_linkBoth_220 m_1323 m_741 m_1474 m_711 m_68 ⟨by decide, by decide, show (parseMethodDescriptor yX0_isGhost.desc).map (fun d => d.parameters.length) = some 1 from by decide +kernel⟩ (Nat.le_of_ble_eq_true rfl) (by rw [hcf]; exact Nat.le_of_ble_eq_true rfl) hk76 rfl rfl (Nat.le_of_ble_eq_true rfl) ⟨B, k, a, b, rfl, hCG32, hab, (by first | assumption | omega), (by first | assumption | omega), fun rr74 hp75 => ?_⟩
                  show WP kX2_linkBoth X 223 [some (2, ((327682 : Nat) : Int)), some (0, k), some (2, ((A : Nat) : Int)), some (2, ((B : Nat) : Int)), some (2, ((f : Nat) : Int)), some (0, rr12), some (0, rr33), some (2, ((A : Nat) : Int)), some (2, ((B : Nat) : Int))] [(0, rr74)] G32
                  refine s_if_ne (tgt := 233) dX2_linkBoth_223 (by decide) (fun c77 => ?_) (fun c77 => ?_)
                  · -- 223 to 233
                    refine s_aload dX2_linkBoth_233 rfl (Int.natCast_nonneg _) ?_
                    refine s_iload_n dX2_linkBoth_235 rfl ?_
                    refine s_aload dX2_linkBoth_236 rfl (Int.natCast_nonneg _) ?_
                    refine s_alv (A) (by simp) (fun al78 => ?_)
                    have hv79 : gS G32 A 2 = ((A + 2 : Nat) : Int) := by have h9 : (gS G32 A 2) = (((A % 1048576) + 2 : Nat) : Int) := hCG32.1.v (j := 2) (by rw [cde_n (by omega) (by omega)]; omega : cde A = 101) al78 (by rw [hk41]; exact Nat.le_of_ble_eq_true rfl); omega
                    refine s_getf (ci := 1) (k := 2) (C := RX0) (T := TX0) (N := 7) (n := A) (L := 0) (t := 2) dX2_linkBoth_238 rfl wi_65 m_576 (Nat.le_of_ble_eq_true rfl) rfl rfl hk41 hv79 ?_
                    refine s_iload_n dX2_linkBoth_241 rfl ?_
                    have hk80 : gK G32 (A + 2) = (1, 10) := ((hXG32).k ((hXG11).k kA2 (by decide)) (by decide))
                    refine s_iald dX2_linkBoth_242 hk80 (by omega) (by omega) rfl ?_
                    refine s_aload_n dX2_linkBoth_243 rfl (Int.natCast_nonneg _) ?_
                    have hv81 : gS G32 327682 6 = ((327691 : Nat) : Int) := by have h9 : (gS G32 327682 6) = 327691 := hCG32.1.v (j := 6) (by decide : cde 327682 = 502) al44 (by rw [hk43]; exact Nat.le_of_ble_eq_true rfl); omega
                    refine s_getf (ci := 3) (k := 6) (C := RX2) (T := TX2) (N := 8) (n := 327682) (L := 0) (t := 2) dX2_linkBoth_244 rfl wi_70 m_582 (Nat.le_of_ble_eq_true rfl) rfl rfl hk43 hv81 ?_
                    refine s_iload dX2_linkBoth_247 rfl ?_
                    have hk84 : gK G32 (f) = (9, 0) := ((hXG32).k ((hXG11).k kf0 (by decide)) (by decide))
                    refine s_callV (as := [(0, k), (0, gS G32 (A + 2) ((k : Int).toNat)), (2, ((327691 : Nat) : Int)), (0, rr12)]) (rest := []) (n := f) (ci := 1) gX0_putValue dX2_linkBoth_249 m_1320 m_750 m_1483 m_711 m_77 ⟨by decide, by decide, show (parseMethodDescriptor yX0_putValue.desc).map (fun d => d.parameters.length) = some 4 from by decide +kernel⟩ (Nat.le_of_ble_eq_true rfl) (by rw [hcf]; exact Nat.le_of_ble_eq_true rfl) hk84 rfl rfl (Nat.le_of_ble_eq_true rfl) ⟨f, k, gS G32 (A + 2) ((k : Int).toNat), 327691, 200, rr12, a, b, rfl, hCG32, hab, (by first | assumption | omega), (by first | assumption | omega), hk47, (by first | assumption | omega), (by first | assumption | omega), (by first | assumption | omega), fun G82 hCG82 hXG82 hfG82 hpG82 => ?_⟩
                    have hFG82 : WX (fun x => x = 327691 ∨ x = 327692 ∨ (f + 1 ≤ x ∧ x ≤ f + 22)) G G82 := WX.trans hFG32 (KX.trans hXG11 hXG32) (WX.mono hfG82 (fun x hx => by omega))
                    have hFIG82 : ∀ k : Nat, k < 6 → FIP P G82 262144 k := fun k hk => FIP.sm (hFIG32 k hk) hXG82 hfG82 (by show ¬ _; omega) (congrFun (hfG82 262149 (KX.al (KX.trans hXG11 hXG32) (kne k262149 (by decide))) (by show ¬ _; omega)) k)
                    have hFAG82 : FPa P G82 A := (hFAG32).wx hXG82 hfG82 ⟨KX.al (KX.trans hXG11 hXG32) (kne kA3 (by decide)), KX.al (KX.trans hXG11 hXG32) (kne kA4 (by decide))⟩ (by show ¬ _; omega) (by show ¬ _; omega) (fun p hp => by show ¬ _; omega)
                    have hFBG82 : FPa P G82 B := (hFBG32).wx hXG82 hfG82 ⟨KX.al (KX.trans hXG11 hXG32) (kne kB3 (by decide)), KX.al (KX.trans hXG11 hXG32) (kne kB4 (by decide))⟩ (by show ¬ _; omega) (by show ¬ _; omega) (fun p hp => by show ¬ _; omega)
                    have hFfG82 : FPa P G82 f := FPa.put hpG82.1 hFfG32 (fun _ _ => (hpG11.2 P ((hFA (6 + k : Int).toNat (by omega)).rps hv4 rfl) hFI (by omega)).wx hXG32 hfG32 (by show ¬ _; omega)) hXG82 hfG82 (fun p hp hn => by show ¬ _; omega)
                    show WP kX2_linkBoth X 252 [some (2, ((327682 : Nat) : Int)), some (0, k), some (2, ((A : Nat) : Int)), some (2, ((B : Nat) : Int)), some (2, ((f : Nat) : Int)), some (0, rr12), some (0, rr33), some (2, ((A : Nat) : Int)), some (2, ((B : Nat) : Int))] [] G82
                    refine s_aload dX2_linkBoth_252 rfl (Int.natCast_nonneg _) ?_
                    refine s_iload_n dX2_linkBoth_254 rfl ?_
                    refine s_aload dX2_linkBoth_255 rfl (Int.natCast_nonneg _) ?_
                    refine s_iload_n dX2_linkBoth_257 rfl ?_
                    have hk87 : gK G82 (f) = (9, 0) := ((hXG82).k hk84 (by decide))
                    refine s_callV (as := [(0, k), (2, ((A : Nat) : Int)), (0, k)]) (rest := []) (n := f) (ci := 1) gX0_putNumberOf dX2_linkBoth_258 m_1321 m_745 m_1478 m_711 m_72 ⟨by decide, by decide, show (parseMethodDescriptor yX0_putNumberOf.desc).map (fun d => d.parameters.length) = some 3 from by decide +kernel⟩ (Nat.le_of_ble_eq_true rfl) (by rw [hcf]; exact Nat.le_of_ble_eq_true rfl) hk87 rfl rfl (Nat.le_of_ble_eq_true rfl) ⟨f, k, A, k, a, b, rfl, hCG82, hab, (by first | assumption | omega), (by first | assumption | omega), (by first | assumption | omega), (by first | assumption | omega), fun G85 hCG85 hXG85 hfG85 hpG85 => ?_⟩
                    have hFG85 : WX (fun x => x = 327691 ∨ x = 327692 ∨ (f + 1 ≤ x ∧ x ≤ f + 22)) G G85 := WX.trans hFG82 (KX.trans (KX.trans hXG11 hXG32) hXG82) (WX.mono hfG85 (fun x hx => by omega))
                    have hFIG85 : ∀ k : Nat, k < 6 → FIP P G85 262144 k := fun k hk => FIP.sm (hFIG82 k hk) hXG85 hfG85 (by show ¬ _; omega) (congrFun (hfG85 262149 (KX.al (KX.trans (KX.trans hXG11 hXG32) hXG82) (kne k262149 (by decide))) (by show ¬ _; omega)) k)
                    have hFAG85 : FPa P G85 A := (hFAG82).wx hXG85 hfG85 ⟨KX.al (KX.trans (KX.trans hXG11 hXG32) hXG82) (kne kA3 (by decide)), KX.al (KX.trans (KX.trans hXG11 hXG32) hXG82) (kne kA4 (by decide))⟩ (by show ¬ _; omega) (by show ¬ _; omega) (fun p hp => by show ¬ _; omega)
                    have hFBG85 : FPa P G85 B := (hFBG82).wx hXG85 hfG85 ⟨KX.al (KX.trans (KX.trans hXG11 hXG32) hXG82) (kne kB3 (by decide)), KX.al (KX.trans (KX.trans hXG11 hXG32) hXG82) (kne kB4 (by decide))⟩ (by show ¬ _; omega) (by show ¬ _; omega) (fun p hp => by show ¬ _; omega)
                    have hFfG85 : FPa P G85 f := (hFfG82).wx hXG85 hfG85 ⟨KX.al (KX.trans (KX.trans hXG11 hXG32) hXG82) (kne kf3 (by decide)), KX.al (KX.trans (KX.trans hXG11 hXG32) hXG82) (kne kf4 (by decide))⟩ (by show ¬ _; omega) (by show ¬ _; omega) (fun p hp => by show ¬ _; omega)
                    show WP kX2_linkBoth X 261 [some (2, ((327682 : Nat) : Int)), some (0, k), some (2, ((A : Nat) : Int)), some (2, ((B : Nat) : Int)), some (2, ((f : Nat) : Int)), some (0, rr12), some (0, rr33), some (2, ((A : Nat) : Int)), some (2, ((B : Nat) : Int))] [] G85
                    refine s_iconst dX2_linkBoth_261 (by decide) ?_
                    exact s_iret hR dX2_linkBoth_262 rfl (hQ 0 G85 hCG85 (KX.trans (KX.trans (KX.trans hXG11 hXG32) hXG82) hXG85) hFG85 hFfG85)
                  · -- 223 to 226
                    refine s_bipush dX2_linkBoth_226 rfl (by decide) ?_
                    refine s_iload_n dX2_linkBoth_228 rfl ?_
                    refine s_callSN (own := RX2) rfl (by decide +kernel) (as := [(0, 6), (0, k)]) (rest := []) gX11_valueMistake dX2_linkBoth_229 m_1784 m_714 m_129 ⟨by decide, by decide, show (parseMethodDescriptor yX11_valueMistake.desc).map (fun d => d.parameters.length) = some 2 from by decide +kernel⟩ (Nat.le_of_ble_eq_true rfl) (by rw [hcf]; exact Nat.le_of_ble_eq_true rfl) rfl (Nat.le_of_ble_eq_true rfl) ⟨6, k, rfl, (by first | assumption | omega), (by first | assumption | omega), fun rr88 hp89 => ?_⟩
                    show WP kX2_linkBoth X 232 [some (2, ((327682 : Nat) : Int)), some (0, k), some (2, ((A : Nat) : Int)), some (2, ((B : Nat) : Int)), some (2, ((f : Nat) : Int)), some (0, rr12), some (0, rr33), some (2, ((A : Nat) : Int)), some (2, ((B : Nat) : Int))] [(0, rr88)] G32
                    exact s_iret hR dX2_linkBoth_232 rfl (hQ rr88 G32 hCG32 (KX.trans hXG11 hXG32) hFG32 hFfG32)
              · -- 198 to 201
                refine s_aload_n dX2_linkBoth_201 rfl (Int.natCast_nonneg _) ?_
                refine s_goto (tgt := 206) dX2_linkBoth_202 (by decide) ?_
                refine s_astore (Int.natCast_nonneg _) dX2_linkBoth_206 (by decide) (lv' := [some (2, ((327682 : Nat) : Int)), some (0, k), some (2, ((A : Nat) : Int)), some (2, ((B : Nat) : Int)), some (2, ((f : Nat) : Int)), some (0, rr12), some (0, rr33), some (2, ((A : Nat) : Int)), some (2, ((A : Nat) : Int))]) rfl ?_
                refine s_aload dX2_linkBoth_208 rfl (Int.natCast_nonneg _) ?_
                refine s_iload_n dX2_linkBoth_210 rfl ?_
                refine s_callV (as := [(0, k)]) (rest := []) (n := A) (ci := 1) gX0_isGhost dX2_linkBoth_211 m_1323 m_741 m_1474 m_711 m_68 ⟨by decide, by decide, show (parseMethodDescriptor yX0_isGhost.desc).map (fun d => d.parameters.length) = some 1 from by decide +kernel⟩ (Nat.le_of_ble_eq_true rfl) (by rw [hcf]; exact Nat.le_of_ble_eq_true rfl) hk41 rfl rfl (Nat.le_of_ble_eq_true rfl) ⟨A, k, a, b, rfl, hCG32, hab, (by first | assumption | omega), (by first | assumption | omega), fun rr90 hp91 => ?_⟩
                show WP kX2_linkBoth X 214 [some (2, ((327682 : Nat) : Int)), some (0, k), some (2, ((A : Nat) : Int)), some (2, ((B : Nat) : Int)), some (2, ((f : Nat) : Int)), some (0, rr12), some (0, rr33), some (2, ((A : Nat) : Int)), some (2, ((A : Nat) : Int))] [(0, rr90)] G32
                refine s_if_eq (tgt := 233) dX2_linkBoth_214 (by decide) (fun c92 => ?_) (fun c92 => ?_)
                · -- 214 to 233
                  refine s_aload dX2_linkBoth_233 rfl (Int.natCast_nonneg _) ?_
                  refine s_iload_n dX2_linkBoth_235 rfl ?_
                  refine s_aload dX2_linkBoth_236 rfl (Int.natCast_nonneg _) ?_
                  refine s_alv (A) (by simp) (fun al93 => ?_)
                  have hv94 : gS G32 A 2 = ((A + 2 : Nat) : Int) := by have h9 : (gS G32 A 2) = (((A % 1048576) + 2 : Nat) : Int) := hCG32.1.v (j := 2) (by rw [cde_n (by omega) (by omega)]; omega : cde A = 101) al93 (by rw [hk41]; exact Nat.le_of_ble_eq_true rfl); omega
                  refine s_getf (ci := 1) (k := 2) (C := RX0) (T := TX0) (N := 7) (n := A) (L := 0) (t := 2) dX2_linkBoth_238 rfl wi_65 m_576 (Nat.le_of_ble_eq_true rfl) rfl rfl hk41 hv94 ?_
                  refine s_iload_n dX2_linkBoth_241 rfl ?_
                  have hk95 : gK G32 (A + 2) = (1, 10) := ((hXG32).k ((hXG11).k kA2 (by decide)) (by decide))
                  refine s_iald dX2_linkBoth_242 hk95 (by omega) (by omega) rfl ?_
                  refine s_aload_n dX2_linkBoth_243 rfl (Int.natCast_nonneg _) ?_
                  have hv96 : gS G32 327682 6 = ((327691 : Nat) : Int) := by have h9 : (gS G32 327682 6) = 327691 := hCG32.1.v (j := 6) (by decide : cde 327682 = 502) al44 (by rw [hk43]; exact Nat.le_of_ble_eq_true rfl); omega
                  refine s_getf (ci := 3) (k := 6) (C := RX2) (T := TX2) (N := 8) (n := 327682) (L := 0) (t := 2) dX2_linkBoth_244 rfl wi_70 m_582 (Nat.le_of_ble_eq_true rfl) rfl rfl hk43 hv96 ?_
                  refine s_iload dX2_linkBoth_247 rfl ?_
                  have hk99 : gK G32 (f) = (9, 0) := ((hXG32).k ((hXG11).k kf0 (by decide)) (by decide))
                  refine s_callV (as := [(0, k), (0, gS G32 (A + 2) ((k : Int).toNat)), (2, ((327691 : Nat) : Int)), (0, rr12)]) (rest := []) (n := f) (ci := 1) gX0_putValue dX2_linkBoth_249 m_1320 m_750 m_1483 m_711 m_77 ⟨by decide, by decide, show (parseMethodDescriptor yX0_putValue.desc).map (fun d => d.parameters.length) = some 4 from by decide +kernel⟩ (Nat.le_of_ble_eq_true rfl) (by rw [hcf]; exact Nat.le_of_ble_eq_true rfl) hk99 rfl rfl (Nat.le_of_ble_eq_true rfl) ⟨f, k, gS G32 (A + 2) ((k : Int).toNat), 327691, 200, rr12, a, b, rfl, hCG32, hab, (by first | assumption | omega), (by first | assumption | omega), hk47, (by first | assumption | omega), (by first | assumption | omega), (by first | assumption | omega), fun G97 hCG97 hXG97 hfG97 hpG97 => ?_⟩
                  have hFG97 : WX (fun x => x = 327691 ∨ x = 327692 ∨ (f + 1 ≤ x ∧ x ≤ f + 22)) G G97 := WX.trans hFG32 (KX.trans hXG11 hXG32) (WX.mono hfG97 (fun x hx => by omega))
                  have hFIG97 : ∀ k : Nat, k < 6 → FIP P G97 262144 k := fun k hk => FIP.sm (hFIG32 k hk) hXG97 hfG97 (by show ¬ _; omega) (congrFun (hfG97 262149 (KX.al (KX.trans hXG11 hXG32) (kne k262149 (by decide))) (by show ¬ _; omega)) k)
                  have hFAG97 : FPa P G97 A := (hFAG32).wx hXG97 hfG97 ⟨KX.al (KX.trans hXG11 hXG32) (kne kA3 (by decide)), KX.al (KX.trans hXG11 hXG32) (kne kA4 (by decide))⟩ (by show ¬ _; omega) (by show ¬ _; omega) (fun p hp => by show ¬ _; omega)
                  have hFBG97 : FPa P G97 B := (hFBG32).wx hXG97 hfG97 ⟨KX.al (KX.trans hXG11 hXG32) (kne kB3 (by decide)), KX.al (KX.trans hXG11 hXG32) (kne kB4 (by decide))⟩ (by show ¬ _; omega) (by show ¬ _; omega) (fun p hp => by show ¬ _; omega)
                  have hFfG97 : FPa P G97 f := FPa.put hpG97.1 hFfG32 (fun _ _ => (hpG11.2 P ((hFA (6 + k : Int).toNat (by omega)).rps hv4 rfl) hFI (by omega)).wx hXG32 hfG32 (by show ¬ _; omega)) hXG97 hfG97 (fun p hp hn => by show ¬ _; omega)
                  show WP kX2_linkBoth X 252 [some (2, ((327682 : Nat) : Int)), some (0, k), some (2, ((A : Nat) : Int)), some (2, ((B : Nat) : Int)), some (2, ((f : Nat) : Int)), some (0, rr12), some (0, rr33), some (2, ((A : Nat) : Int)), some (2, ((A : Nat) : Int))] [] G97
                  refine s_aload dX2_linkBoth_252 rfl (Int.natCast_nonneg _) ?_
                  refine s_iload_n dX2_linkBoth_254 rfl ?_
                  refine s_aload dX2_linkBoth_255 rfl (Int.natCast_nonneg _) ?_
                  refine s_iload_n dX2_linkBoth_257 rfl ?_
                  have hk102 : gK G97 (f) = (9, 0) := ((hXG97).k hk99 (by decide))
                  refine s_callV (as := [(0, k), (2, ((A : Nat) : Int)), (0, k)]) (rest := []) (n := f) (ci := 1) gX0_putNumberOf dX2_linkBoth_258 m_1321 m_745 m_1478 m_711 m_72 ⟨by decide, by decide, show (parseMethodDescriptor yX0_putNumberOf.desc).map (fun d => d.parameters.length) = some 3 from by decide +kernel⟩ (Nat.le_of_ble_eq_true rfl) (by rw [hcf]; exact Nat.le_of_ble_eq_true rfl) hk102 rfl rfl (Nat.le_of_ble_eq_true rfl) ⟨f, k, A, k, a, b, rfl, hCG97, hab, (by first | assumption | omega), (by first | assumption | omega), (by first | assumption | omega), (by first | assumption | omega), fun G100 hCG100 hXG100 hfG100 hpG100 => ?_⟩
                  have hFG100 : WX (fun x => x = 327691 ∨ x = 327692 ∨ (f + 1 ≤ x ∧ x ≤ f + 22)) G G100 := WX.trans hFG97 (KX.trans (KX.trans hXG11 hXG32) hXG97) (WX.mono hfG100 (fun x hx => by omega))
                  have hFIG100 : ∀ k : Nat, k < 6 → FIP P G100 262144 k := fun k hk => FIP.sm (hFIG97 k hk) hXG100 hfG100 (by show ¬ _; omega) (congrFun (hfG100 262149 (KX.al (KX.trans (KX.trans hXG11 hXG32) hXG97) (kne k262149 (by decide))) (by show ¬ _; omega)) k)
                  have hFAG100 : FPa P G100 A := (hFAG97).wx hXG100 hfG100 ⟨KX.al (KX.trans (KX.trans hXG11 hXG32) hXG97) (kne kA3 (by decide)), KX.al (KX.trans (KX.trans hXG11 hXG32) hXG97) (kne kA4 (by decide))⟩ (by show ¬ _; omega) (by show ¬ _; omega) (fun p hp => by show ¬ _; omega)
                  have hFBG100 : FPa P G100 B := (hFBG97).wx hXG100 hfG100 ⟨KX.al (KX.trans (KX.trans hXG11 hXG32) hXG97) (kne kB3 (by decide)), KX.al (KX.trans (KX.trans hXG11 hXG32) hXG97) (kne kB4 (by decide))⟩ (by show ¬ _; omega) (by show ¬ _; omega) (fun p hp => by show ¬ _; omega)
                  have hFfG100 : FPa P G100 f := (hFfG97).wx hXG100 hfG100 ⟨KX.al (KX.trans (KX.trans hXG11 hXG32) hXG97) (kne kf3 (by decide)), KX.al (KX.trans (KX.trans hXG11 hXG32) hXG97) (kne kf4 (by decide))⟩ (by show ¬ _; omega) (by show ¬ _; omega) (fun p hp => by show ¬ _; omega)
                  show WP kX2_linkBoth X 261 [some (2, ((327682 : Nat) : Int)), some (0, k), some (2, ((A : Nat) : Int)), some (2, ((B : Nat) : Int)), some (2, ((f : Nat) : Int)), some (0, rr12), some (0, rr33), some (2, ((A : Nat) : Int)), some (2, ((A : Nat) : Int))] [] G100
                  refine s_iconst dX2_linkBoth_261 (by decide) ?_
                  exact s_iret hR dX2_linkBoth_262 rfl (hQ 0 G100 hCG100 (KX.trans (KX.trans (KX.trans hXG11 hXG32) hXG97) hXG100) hFG100 hFfG100)
                · -- 214 to 217
                  refine s_aload dX2_linkBoth_217 rfl (Int.natCast_nonneg _) ?_
                  refine s_iload_n dX2_linkBoth_219 rfl ?_
                  refine s_callV (as := [(0, k)]) (rest := []) (n := A) (ci := 1) gX0_isGhost dX2_linkBoth_220 m_1323 m_741 m_1474 m_711 m_68 ⟨by decide, by decide, show (parseMethodDescriptor yX0_isGhost.desc).map (fun d => d.parameters.length) = some 1 from by decide +kernel⟩ (Nat.le_of_ble_eq_true rfl) (by rw [hcf]; exact Nat.le_of_ble_eq_true rfl) hk41 rfl rfl (Nat.le_of_ble_eq_true rfl) ⟨A, k, a, b, rfl, hCG32, hab, (by first | assumption | omega), (by first | assumption | omega), fun rr103 hp104 => ?_⟩
                  show WP kX2_linkBoth X 223 [some (2, ((327682 : Nat) : Int)), some (0, k), some (2, ((A : Nat) : Int)), some (2, ((B : Nat) : Int)), some (2, ((f : Nat) : Int)), some (0, rr12), some (0, rr33), some (2, ((A : Nat) : Int)), some (2, ((A : Nat) : Int))] [(0, rr103)] G32
                  refine s_if_ne (tgt := 233) dX2_linkBoth_223 (by decide) (fun c105 => ?_) (fun c105 => ?_)
                  · -- 223 to 233
                    refine s_aload dX2_linkBoth_233 rfl (Int.natCast_nonneg _) ?_
                    refine s_iload_n dX2_linkBoth_235 rfl ?_
                    refine s_aload dX2_linkBoth_236 rfl (Int.natCast_nonneg _) ?_
                    refine s_alv (A) (by simp) (fun al106 => ?_)
                    have hv107 : gS G32 A 2 = ((A + 2 : Nat) : Int) := by have h9 : (gS G32 A 2) = (((A % 1048576) + 2 : Nat) : Int) := hCG32.1.v (j := 2) (by rw [cde_n (by omega) (by omega)]; omega : cde A = 101) al106 (by rw [hk41]; exact Nat.le_of_ble_eq_true rfl); omega
                    refine s_getf (ci := 1) (k := 2) (C := RX0) (T := TX0) (N := 7) (n := A) (L := 0) (t := 2) dX2_linkBoth_238 rfl wi_65 m_576 (Nat.le_of_ble_eq_true rfl) rfl rfl hk41 hv107 ?_
                    refine s_iload_n dX2_linkBoth_241 rfl ?_
                    have hk108 : gK G32 (A + 2) = (1, 10) := ((hXG32).k ((hXG11).k kA2 (by decide)) (by decide))
                    refine s_iald dX2_linkBoth_242 hk108 (by omega) (by omega) rfl ?_
                    refine s_aload_n dX2_linkBoth_243 rfl (Int.natCast_nonneg _) ?_
                    have hv109 : gS G32 327682 6 = ((327691 : Nat) : Int) := by have h9 : (gS G32 327682 6) = 327691 := hCG32.1.v (j := 6) (by decide : cde 327682 = 502) al44 (by rw [hk43]; exact Nat.le_of_ble_eq_true rfl); omega
                    refine s_getf (ci := 3) (k := 6) (C := RX2) (T := TX2) (N := 8) (n := 327682) (L := 0) (t := 2) dX2_linkBoth_244 rfl wi_70 m_582 (Nat.le_of_ble_eq_true rfl) rfl rfl hk43 hv109 ?_
                    refine s_iload dX2_linkBoth_247 rfl ?_
                    have hk112 : gK G32 (f) = (9, 0) := ((hXG32).k ((hXG11).k kf0 (by decide)) (by decide))
                    refine s_callV (as := [(0, k), (0, gS G32 (A + 2) ((k : Int).toNat)), (2, ((327691 : Nat) : Int)), (0, rr12)]) (rest := []) (n := f) (ci := 1) gX0_putValue dX2_linkBoth_249 m_1320 m_750 m_1483 m_711 m_77 ⟨by decide, by decide, show (parseMethodDescriptor yX0_putValue.desc).map (fun d => d.parameters.length) = some 4 from by decide +kernel⟩ (Nat.le_of_ble_eq_true rfl) (by rw [hcf]; exact Nat.le_of_ble_eq_true rfl) hk112 rfl rfl (Nat.le_of_ble_eq_true rfl) ⟨f, k, gS G32 (A + 2) ((k : Int).toNat), 327691, 200, rr12, a, b, rfl, hCG32, hab, (by first | assumption | omega), (by first | assumption | omega), hk47, (by first | assumption | omega), (by first | assumption | omega), (by first | assumption | omega), fun G110 hCG110 hXG110 hfG110 hpG110 => ?_⟩
                    have hFG110 : WX (fun x => x = 327691 ∨ x = 327692 ∨ (f + 1 ≤ x ∧ x ≤ f + 22)) G G110 := WX.trans hFG32 (KX.trans hXG11 hXG32) (WX.mono hfG110 (fun x hx => by omega))
                    have hFIG110 : ∀ k : Nat, k < 6 → FIP P G110 262144 k := fun k hk => FIP.sm (hFIG32 k hk) hXG110 hfG110 (by show ¬ _; omega) (congrFun (hfG110 262149 (KX.al (KX.trans hXG11 hXG32) (kne k262149 (by decide))) (by show ¬ _; omega)) k)
                    have hFAG110 : FPa P G110 A := (hFAG32).wx hXG110 hfG110 ⟨KX.al (KX.trans hXG11 hXG32) (kne kA3 (by decide)), KX.al (KX.trans hXG11 hXG32) (kne kA4 (by decide))⟩ (by show ¬ _; omega) (by show ¬ _; omega) (fun p hp => by show ¬ _; omega)
                    have hFBG110 : FPa P G110 B := (hFBG32).wx hXG110 hfG110 ⟨KX.al (KX.trans hXG11 hXG32) (kne kB3 (by decide)), KX.al (KX.trans hXG11 hXG32) (kne kB4 (by decide))⟩ (by show ¬ _; omega) (by show ¬ _; omega) (fun p hp => by show ¬ _; omega)
                    have hFfG110 : FPa P G110 f := FPa.put hpG110.1 hFfG32 (fun _ _ => (hpG11.2 P ((hFA (6 + k : Int).toNat (by omega)).rps hv4 rfl) hFI (by omega)).wx hXG32 hfG32 (by show ¬ _; omega)) hXG110 hfG110 (fun p hp hn => by show ¬ _; omega)
                    show WP kX2_linkBoth X 252 [some (2, ((327682 : Nat) : Int)), some (0, k), some (2, ((A : Nat) : Int)), some (2, ((B : Nat) : Int)), some (2, ((f : Nat) : Int)), some (0, rr12), some (0, rr33), some (2, ((A : Nat) : Int)), some (2, ((A : Nat) : Int))] [] G110
                    refine s_aload dX2_linkBoth_252 rfl (Int.natCast_nonneg _) ?_
                    refine s_iload_n dX2_linkBoth_254 rfl ?_
                    refine s_aload dX2_linkBoth_255 rfl (Int.natCast_nonneg _) ?_
                    refine s_iload_n dX2_linkBoth_257 rfl ?_
                    have hk115 : gK G110 (f) = (9, 0) := ((hXG110).k hk112 (by decide))
                    refine s_callV (as := [(0, k), (2, ((A : Nat) : Int)), (0, k)]) (rest := []) (n := f) (ci := 1) gX0_putNumberOf dX2_linkBoth_258 m_1321 m_745 m_1478 m_711 m_72 ⟨by decide, by decide, show (parseMethodDescriptor yX0_putNumberOf.desc).map (fun d => d.parameters.length) = some 3 from by decide +kernel⟩ (Nat.le_of_ble_eq_true rfl) (by rw [hcf]; exact Nat.le_of_ble_eq_true rfl) hk115 rfl rfl (Nat.le_of_ble_eq_true rfl) ⟨f, k, A, k, a, b, rfl, hCG110, hab, (by first | assumption | omega), (by first | assumption | omega), (by first | assumption | omega), (by first | assumption | omega), fun G113 hCG113 hXG113 hfG113 hpG113 => ?_⟩
                    have hFG113 : WX (fun x => x = 327691 ∨ x = 327692 ∨ (f + 1 ≤ x ∧ x ≤ f + 22)) G G113 := WX.trans hFG110 (KX.trans (KX.trans hXG11 hXG32) hXG110) (WX.mono hfG113 (fun x hx => by omega))
                    have hFIG113 : ∀ k : Nat, k < 6 → FIP P G113 262144 k := fun k hk => FIP.sm (hFIG110 k hk) hXG113 hfG113 (by show ¬ _; omega) (congrFun (hfG113 262149 (KX.al (KX.trans (KX.trans hXG11 hXG32) hXG110) (kne k262149 (by decide))) (by show ¬ _; omega)) k)
                    have hFAG113 : FPa P G113 A := (hFAG110).wx hXG113 hfG113 ⟨KX.al (KX.trans (KX.trans hXG11 hXG32) hXG110) (kne kA3 (by decide)), KX.al (KX.trans (KX.trans hXG11 hXG32) hXG110) (kne kA4 (by decide))⟩ (by show ¬ _; omega) (by show ¬ _; omega) (fun p hp => by show ¬ _; omega)
                    have hFBG113 : FPa P G113 B := (hFBG110).wx hXG113 hfG113 ⟨KX.al (KX.trans (KX.trans hXG11 hXG32) hXG110) (kne kB3 (by decide)), KX.al (KX.trans (KX.trans hXG11 hXG32) hXG110) (kne kB4 (by decide))⟩ (by show ¬ _; omega) (by show ¬ _; omega) (fun p hp => by show ¬ _; omega)
                    have hFfG113 : FPa P G113 f := (hFfG110).wx hXG113 hfG113 ⟨KX.al (KX.trans (KX.trans hXG11 hXG32) hXG110) (kne kf3 (by decide)), KX.al (KX.trans (KX.trans hXG11 hXG32) hXG110) (kne kf4 (by decide))⟩ (by show ¬ _; omega) (by show ¬ _; omega) (fun p hp => by show ¬ _; omega)
                    show WP kX2_linkBoth X 261 [some (2, ((327682 : Nat) : Int)), some (0, k), some (2, ((A : Nat) : Int)), some (2, ((B : Nat) : Int)), some (2, ((f : Nat) : Int)), some (0, rr12), some (0, rr33), some (2, ((A : Nat) : Int)), some (2, ((A : Nat) : Int))] [] G113
                    refine s_iconst dX2_linkBoth_261 (by decide) ?_
                    exact s_iret hR dX2_linkBoth_262 rfl (hQ 0 G113 hCG113 (KX.trans (KX.trans (KX.trans hXG11 hXG32) hXG110) hXG113) hFG113 hFfG113)
                  · -- 223 to 226
                    refine s_bipush dX2_linkBoth_226 rfl (by decide) ?_
                    refine s_iload_n dX2_linkBoth_228 rfl ?_
                    refine s_callSN (own := RX2) rfl (by decide +kernel) (as := [(0, 6), (0, k)]) (rest := []) gX11_valueMistake dX2_linkBoth_229 m_1784 m_714 m_129 ⟨by decide, by decide, show (parseMethodDescriptor yX11_valueMistake.desc).map (fun d => d.parameters.length) = some 2 from by decide +kernel⟩ (Nat.le_of_ble_eq_true rfl) (by rw [hcf]; exact Nat.le_of_ble_eq_true rfl) rfl (Nat.le_of_ble_eq_true rfl) ⟨6, k, rfl, (by first | assumption | omega), (by first | assumption | omega), fun rr116 hp117 => ?_⟩
                    show WP kX2_linkBoth X 232 [some (2, ((327682 : Nat) : Int)), some (0, k), some (2, ((A : Nat) : Int)), some (2, ((B : Nat) : Int)), some (2, ((f : Nat) : Int)), some (0, rr12), some (0, rr33), some (2, ((A : Nat) : Int)), some (2, ((A : Nat) : Int))] [(0, rr116)] G32
                    exact s_iret hR dX2_linkBoth_232 rfl (hQ rr116 G32 hCG32 (KX.trans hXG11 hXG32) hFG32 hFfG32)
            · -- 183 to 186
              refine s_aload_n dX2_linkBoth_186 rfl (Int.natCast_nonneg _) ?_
              refine s_goto (tgt := 191) dX2_linkBoth_187 (by decide) ?_
              refine s_astore (Int.natCast_nonneg _) dX2_linkBoth_191 (by decide) (lv' := [some (2, ((327682 : Nat) : Int)), some (0, k), some (2, ((A : Nat) : Int)), some (2, ((B : Nat) : Int)), some (2, ((f : Nat) : Int)), some (0, rr12), some (0, rr33), some (2, ((B : Nat) : Int)), none]) rfl ?_
              refine s_aload_n dX2_linkBoth_193 rfl (Int.natCast_nonneg _) ?_
              refine s_iload_n dX2_linkBoth_194 rfl ?_
              refine s_callV (as := [(0, k)]) (rest := []) (n := A) (ci := 1) gX0_isValueHole dX2_linkBoth_195 m_1322 m_743 m_1476 m_711 m_70 ⟨by decide, by decide, show (parseMethodDescriptor yX0_isValueHole.desc).map (fun d => d.parameters.length) = some 1 from by decide +kernel⟩ (Nat.le_of_ble_eq_true rfl) (by rw [hcf]; exact Nat.le_of_ble_eq_true rfl) hk41 rfl rfl (Nat.le_of_ble_eq_true rfl) ⟨A, k, a, b, rfl, hCG32, hab, (by first | assumption | omega), (by first | assumption | omega), fun rr118 hp119 => ?_⟩
              show WP kX2_linkBoth X 198 [some (2, ((327682 : Nat) : Int)), some (0, k), some (2, ((A : Nat) : Int)), some (2, ((B : Nat) : Int)), some (2, ((f : Nat) : Int)), some (0, rr12), some (0, rr33), some (2, ((B : Nat) : Int)), none] [(0, rr118)] G32
              refine s_if_eq (tgt := 205) dX2_linkBoth_198 (by decide) (fun c120 => ?_) (fun c120 => ?_)
              · -- 198 to 205
                refine s_aload_n dX2_linkBoth_205 rfl (Int.natCast_nonneg _) ?_
                refine s_astore (Int.natCast_nonneg _) dX2_linkBoth_206 (by decide) (lv' := [some (2, ((327682 : Nat) : Int)), some (0, k), some (2, ((A : Nat) : Int)), some (2, ((B : Nat) : Int)), some (2, ((f : Nat) : Int)), some (0, rr12), some (0, rr33), some (2, ((B : Nat) : Int)), some (2, ((B : Nat) : Int))]) rfl ?_
                refine s_aload dX2_linkBoth_208 rfl (Int.natCast_nonneg _) ?_
                refine s_iload_n dX2_linkBoth_210 rfl ?_
                have hk123 : gK G32 (B) = (9, 0) := ((hXG32).k hk16 (by decide))
                refine s_callV (as := [(0, k)]) (rest := []) (n := B) (ci := 1) gX0_isGhost dX2_linkBoth_211 m_1323 m_741 m_1474 m_711 m_68 ⟨by decide, by decide, show (parseMethodDescriptor yX0_isGhost.desc).map (fun d => d.parameters.length) = some 1 from by decide +kernel⟩ (Nat.le_of_ble_eq_true rfl) (by rw [hcf]; exact Nat.le_of_ble_eq_true rfl) hk123 rfl rfl (Nat.le_of_ble_eq_true rfl) ⟨B, k, a, b, rfl, hCG32, hab, (by first | assumption | omega), (by first | assumption | omega), fun rr121 hp122 => ?_⟩
                show WP kX2_linkBoth X 214 [some (2, ((327682 : Nat) : Int)), some (0, k), some (2, ((A : Nat) : Int)), some (2, ((B : Nat) : Int)), some (2, ((f : Nat) : Int)), some (0, rr12), some (0, rr33), some (2, ((B : Nat) : Int)), some (2, ((B : Nat) : Int))] [(0, rr121)] G32
                refine s_if_eq (tgt := 233) dX2_linkBoth_214 (by decide) (fun c124 => ?_) (fun c124 => ?_)
                · -- 214 to 233
                  refine s_aload dX2_linkBoth_233 rfl (Int.natCast_nonneg _) ?_
                  refine s_iload_n dX2_linkBoth_235 rfl ?_
                  refine s_aload dX2_linkBoth_236 rfl (Int.natCast_nonneg _) ?_
                  refine s_alv (B) (by simp) (fun al125 => ?_)
                  have hv126 : gS G32 B 2 = ((B + 2 : Nat) : Int) := by have h9 : (gS G32 B 2) = (((B % 1048576) + 2 : Nat) : Int) := hCG32.1.v (j := 2) (by rw [cde_n (by omega) (by omega)]; omega : cde B = 101) al125 (by rw [hk123]; exact Nat.le_of_ble_eq_true rfl); omega
                  refine s_getf (ci := 1) (k := 2) (C := RX0) (T := TX0) (N := 7) (n := B) (L := 0) (t := 2) dX2_linkBoth_238 rfl wi_65 m_576 (Nat.le_of_ble_eq_true rfl) rfl rfl hk123 hv126 ?_
                  refine s_iload_n dX2_linkBoth_241 rfl ?_
                  have hk127 : gK G32 (B + 2) = (1, 10) := ((hXG32).k ((hXG11).k kB2 (by decide)) (by decide))
                  refine s_iald dX2_linkBoth_242 hk127 (by omega) (by omega) rfl ?_
                  refine s_aload_n dX2_linkBoth_243 rfl (Int.natCast_nonneg _) ?_
                  have hv128 : gS G32 327682 6 = ((327691 : Nat) : Int) := by have h9 : (gS G32 327682 6) = 327691 := hCG32.1.v (j := 6) (by decide : cde 327682 = 502) al44 (by rw [hk43]; exact Nat.le_of_ble_eq_true rfl); omega
                  refine s_getf (ci := 3) (k := 6) (C := RX2) (T := TX2) (N := 8) (n := 327682) (L := 0) (t := 2) dX2_linkBoth_244 rfl wi_70 m_582 (Nat.le_of_ble_eq_true rfl) rfl rfl hk43 hv128 ?_
                  refine s_iload dX2_linkBoth_247 rfl ?_
                  have hk131 : gK G32 (f) = (9, 0) := ((hXG32).k ((hXG11).k kf0 (by decide)) (by decide))
                  refine s_callV (as := [(0, k), (0, gS G32 (B + 2) ((k : Int).toNat)), (2, ((327691 : Nat) : Int)), (0, rr12)]) (rest := []) (n := f) (ci := 1) gX0_putValue dX2_linkBoth_249 m_1320 m_750 m_1483 m_711 m_77 ⟨by decide, by decide, show (parseMethodDescriptor yX0_putValue.desc).map (fun d => d.parameters.length) = some 4 from by decide +kernel⟩ (Nat.le_of_ble_eq_true rfl) (by rw [hcf]; exact Nat.le_of_ble_eq_true rfl) hk131 rfl rfl (Nat.le_of_ble_eq_true rfl) ⟨f, k, gS G32 (B + 2) ((k : Int).toNat), 327691, 200, rr12, a, b, rfl, hCG32, hab, (by first | assumption | omega), (by first | assumption | omega), hk47, (by first | assumption | omega), (by first | assumption | omega), (by first | assumption | omega), fun G129 hCG129 hXG129 hfG129 hpG129 => ?_⟩
                  have hFG129 : WX (fun x => x = 327691 ∨ x = 327692 ∨ (f + 1 ≤ x ∧ x ≤ f + 22)) G G129 := WX.trans hFG32 (KX.trans hXG11 hXG32) (WX.mono hfG129 (fun x hx => by omega))
                  have hFIG129 : ∀ k : Nat, k < 6 → FIP P G129 262144 k := fun k hk => FIP.sm (hFIG32 k hk) hXG129 hfG129 (by show ¬ _; omega) (congrFun (hfG129 262149 (KX.al (KX.trans hXG11 hXG32) (kne k262149 (by decide))) (by show ¬ _; omega)) k)
                  have hFAG129 : FPa P G129 A := (hFAG32).wx hXG129 hfG129 ⟨KX.al (KX.trans hXG11 hXG32) (kne kA3 (by decide)), KX.al (KX.trans hXG11 hXG32) (kne kA4 (by decide))⟩ (by show ¬ _; omega) (by show ¬ _; omega) (fun p hp => by show ¬ _; omega)
                  have hFBG129 : FPa P G129 B := (hFBG32).wx hXG129 hfG129 ⟨KX.al (KX.trans hXG11 hXG32) (kne kB3 (by decide)), KX.al (KX.trans hXG11 hXG32) (kne kB4 (by decide))⟩ (by show ¬ _; omega) (by show ¬ _; omega) (fun p hp => by show ¬ _; omega)
                  have hFfG129 : FPa P G129 f := FPa.put hpG129.1 hFfG32 (fun _ _ => (hpG11.2 P ((hFA (6 + k : Int).toNat (by omega)).rps hv4 rfl) hFI (by omega)).wx hXG32 hfG32 (by show ¬ _; omega)) hXG129 hfG129 (fun p hp hn => by show ¬ _; omega)
                  show WP kX2_linkBoth X 252 [some (2, ((327682 : Nat) : Int)), some (0, k), some (2, ((A : Nat) : Int)), some (2, ((B : Nat) : Int)), some (2, ((f : Nat) : Int)), some (0, rr12), some (0, rr33), some (2, ((B : Nat) : Int)), some (2, ((B : Nat) : Int))] [] G129
                  refine s_aload dX2_linkBoth_252 rfl (Int.natCast_nonneg _) ?_
                  refine s_iload_n dX2_linkBoth_254 rfl ?_
                  refine s_aload dX2_linkBoth_255 rfl (Int.natCast_nonneg _) ?_
                  refine s_iload_n dX2_linkBoth_257 rfl ?_
                  have hk134 : gK G129 (f) = (9, 0) := ((hXG129).k hk131 (by decide))
                  refine s_callV (as := [(0, k), (2, ((B : Nat) : Int)), (0, k)]) (rest := []) (n := f) (ci := 1) gX0_putNumberOf dX2_linkBoth_258 m_1321 m_745 m_1478 m_711 m_72 ⟨by decide, by decide, show (parseMethodDescriptor yX0_putNumberOf.desc).map (fun d => d.parameters.length) = some 3 from by decide +kernel⟩ (Nat.le_of_ble_eq_true rfl) (by rw [hcf]; exact Nat.le_of_ble_eq_true rfl) hk134 rfl rfl (Nat.le_of_ble_eq_true rfl) ⟨f, k, B, k, a, b, rfl, hCG129, hab, (by first | assumption | omega), (by first | assumption | omega), (by first | assumption | omega), (by first | assumption | omega), fun G132 hCG132 hXG132 hfG132 hpG132 => ?_⟩
                  have hFG132 : WX (fun x => x = 327691 ∨ x = 327692 ∨ (f + 1 ≤ x ∧ x ≤ f + 22)) G G132 := WX.trans hFG129 (KX.trans (KX.trans hXG11 hXG32) hXG129) (WX.mono hfG132 (fun x hx => by omega))
                  have hFIG132 : ∀ k : Nat, k < 6 → FIP P G132 262144 k := fun k hk => FIP.sm (hFIG129 k hk) hXG132 hfG132 (by show ¬ _; omega) (congrFun (hfG132 262149 (KX.al (KX.trans (KX.trans hXG11 hXG32) hXG129) (kne k262149 (by decide))) (by show ¬ _; omega)) k)
                  have hFAG132 : FPa P G132 A := (hFAG129).wx hXG132 hfG132 ⟨KX.al (KX.trans (KX.trans hXG11 hXG32) hXG129) (kne kA3 (by decide)), KX.al (KX.trans (KX.trans hXG11 hXG32) hXG129) (kne kA4 (by decide))⟩ (by show ¬ _; omega) (by show ¬ _; omega) (fun p hp => by show ¬ _; omega)
                  have hFBG132 : FPa P G132 B := (hFBG129).wx hXG132 hfG132 ⟨KX.al (KX.trans (KX.trans hXG11 hXG32) hXG129) (kne kB3 (by decide)), KX.al (KX.trans (KX.trans hXG11 hXG32) hXG129) (kne kB4 (by decide))⟩ (by show ¬ _; omega) (by show ¬ _; omega) (fun p hp => by show ¬ _; omega)
                  have hFfG132 : FPa P G132 f := (hFfG129).wx hXG132 hfG132 ⟨KX.al (KX.trans (KX.trans hXG11 hXG32) hXG129) (kne kf3 (by decide)), KX.al (KX.trans (KX.trans hXG11 hXG32) hXG129) (kne kf4 (by decide))⟩ (by show ¬ _; omega) (by show ¬ _; omega) (fun p hp => by show ¬ _; omega)
                  show WP kX2_linkBoth X 261 [some (2, ((327682 : Nat) : Int)), some (0, k), some (2, ((A : Nat) : Int)), some (2, ((B : Nat) : Int)), some (2, ((f : Nat) : Int)), some (0, rr12), some (0, rr33), some (2, ((B : Nat) : Int)), some (2, ((B : Nat) : Int))] [] G132
                  refine s_iconst dX2_linkBoth_261 (by decide) ?_
                  exact s_iret hR dX2_linkBoth_262 rfl (hQ 0 G132 hCG132 (KX.trans (KX.trans (KX.trans hXG11 hXG32) hXG129) hXG132) hFG132 hFfG132)
                · -- 214 to 217
                  refine s_aload dX2_linkBoth_217 rfl (Int.natCast_nonneg _) ?_
                  refine s_iload_n dX2_linkBoth_219 rfl ?_
                  refine s_callV (as := [(0, k)]) (rest := []) (n := B) (ci := 1) gX0_isGhost dX2_linkBoth_220 m_1323 m_741 m_1474 m_711 m_68 ⟨by decide, by decide, show (parseMethodDescriptor yX0_isGhost.desc).map (fun d => d.parameters.length) = some 1 from by decide +kernel⟩ (Nat.le_of_ble_eq_true rfl) (by rw [hcf]; exact Nat.le_of_ble_eq_true rfl) hk123 rfl rfl (Nat.le_of_ble_eq_true rfl) ⟨B, k, a, b, rfl, hCG32, hab, (by first | assumption | omega), (by first | assumption | omega), fun rr135 hp136 => ?_⟩
                  show WP kX2_linkBoth X 223 [some (2, ((327682 : Nat) : Int)), some (0, k), some (2, ((A : Nat) : Int)), some (2, ((B : Nat) : Int)), some (2, ((f : Nat) : Int)), some (0, rr12), some (0, rr33), some (2, ((B : Nat) : Int)), some (2, ((B : Nat) : Int))] [(0, rr135)] G32
                  refine s_if_ne (tgt := 233) dX2_linkBoth_223 (by decide) (fun c137 => ?_) (fun c137 => ?_)
                  · -- 223 to 233
                    refine s_aload dX2_linkBoth_233 rfl (Int.natCast_nonneg _) ?_
                    refine s_iload_n dX2_linkBoth_235 rfl ?_
                    refine s_aload dX2_linkBoth_236 rfl (Int.natCast_nonneg _) ?_
                    refine s_alv (B) (by simp) (fun al138 => ?_)
                    have hv139 : gS G32 B 2 = ((B + 2 : Nat) : Int) := by have h9 : (gS G32 B 2) = (((B % 1048576) + 2 : Nat) : Int) := hCG32.1.v (j := 2) (by rw [cde_n (by omega) (by omega)]; omega : cde B = 101) al138 (by rw [hk123]; exact Nat.le_of_ble_eq_true rfl); omega
                    refine s_getf (ci := 1) (k := 2) (C := RX0) (T := TX0) (N := 7) (n := B) (L := 0) (t := 2) dX2_linkBoth_238 rfl wi_65 m_576 (Nat.le_of_ble_eq_true rfl) rfl rfl hk123 hv139 ?_
                    refine s_iload_n dX2_linkBoth_241 rfl ?_
                    have hk140 : gK G32 (B + 2) = (1, 10) := ((hXG32).k ((hXG11).k kB2 (by decide)) (by decide))
                    refine s_iald dX2_linkBoth_242 hk140 (by omega) (by omega) rfl ?_
                    refine s_aload_n dX2_linkBoth_243 rfl (Int.natCast_nonneg _) ?_
                    have hv141 : gS G32 327682 6 = ((327691 : Nat) : Int) := by have h9 : (gS G32 327682 6) = 327691 := hCG32.1.v (j := 6) (by decide : cde 327682 = 502) al44 (by rw [hk43]; exact Nat.le_of_ble_eq_true rfl); omega
                    refine s_getf (ci := 3) (k := 6) (C := RX2) (T := TX2) (N := 8) (n := 327682) (L := 0) (t := 2) dX2_linkBoth_244 rfl wi_70 m_582 (Nat.le_of_ble_eq_true rfl) rfl rfl hk43 hv141 ?_
                    refine s_iload dX2_linkBoth_247 rfl ?_
                    have hk144 : gK G32 (f) = (9, 0) := ((hXG32).k ((hXG11).k kf0 (by decide)) (by decide))
                    refine s_callV (as := [(0, k), (0, gS G32 (B + 2) ((k : Int).toNat)), (2, ((327691 : Nat) : Int)), (0, rr12)]) (rest := []) (n := f) (ci := 1) gX0_putValue dX2_linkBoth_249 m_1320 m_750 m_1483 m_711 m_77 ⟨by decide, by decide, show (parseMethodDescriptor yX0_putValue.desc).map (fun d => d.parameters.length) = some 4 from by decide +kernel⟩ (Nat.le_of_ble_eq_true rfl) (by rw [hcf]; exact Nat.le_of_ble_eq_true rfl) hk144 rfl rfl (Nat.le_of_ble_eq_true rfl) ⟨f, k, gS G32 (B + 2) ((k : Int).toNat), 327691, 200, rr12, a, b, rfl, hCG32, hab, (by first | assumption | omega), (by first | assumption | omega), hk47, (by first | assumption | omega), (by first | assumption | omega), (by first | assumption | omega), fun G142 hCG142 hXG142 hfG142 hpG142 => ?_⟩
                    have hFG142 : WX (fun x => x = 327691 ∨ x = 327692 ∨ (f + 1 ≤ x ∧ x ≤ f + 22)) G G142 := WX.trans hFG32 (KX.trans hXG11 hXG32) (WX.mono hfG142 (fun x hx => by omega))
                    have hFIG142 : ∀ k : Nat, k < 6 → FIP P G142 262144 k := fun k hk => FIP.sm (hFIG32 k hk) hXG142 hfG142 (by show ¬ _; omega) (congrFun (hfG142 262149 (KX.al (KX.trans hXG11 hXG32) (kne k262149 (by decide))) (by show ¬ _; omega)) k)
                    have hFAG142 : FPa P G142 A := (hFAG32).wx hXG142 hfG142 ⟨KX.al (KX.trans hXG11 hXG32) (kne kA3 (by decide)), KX.al (KX.trans hXG11 hXG32) (kne kA4 (by decide))⟩ (by show ¬ _; omega) (by show ¬ _; omega) (fun p hp => by show ¬ _; omega)
                    have hFBG142 : FPa P G142 B := (hFBG32).wx hXG142 hfG142 ⟨KX.al (KX.trans hXG11 hXG32) (kne kB3 (by decide)), KX.al (KX.trans hXG11 hXG32) (kne kB4 (by decide))⟩ (by show ¬ _; omega) (by show ¬ _; omega) (fun p hp => by show ¬ _; omega)
                    have hFfG142 : FPa P G142 f := FPa.put hpG142.1 hFfG32 (fun _ _ => (hpG11.2 P ((hFA (6 + k : Int).toNat (by omega)).rps hv4 rfl) hFI (by omega)).wx hXG32 hfG32 (by show ¬ _; omega)) hXG142 hfG142 (fun p hp hn => by show ¬ _; omega)
                    show WP kX2_linkBoth X 252 [some (2, ((327682 : Nat) : Int)), some (0, k), some (2, ((A : Nat) : Int)), some (2, ((B : Nat) : Int)), some (2, ((f : Nat) : Int)), some (0, rr12), some (0, rr33), some (2, ((B : Nat) : Int)), some (2, ((B : Nat) : Int))] [] G142
                    refine s_aload dX2_linkBoth_252 rfl (Int.natCast_nonneg _) ?_
                    refine s_iload_n dX2_linkBoth_254 rfl ?_
                    refine s_aload dX2_linkBoth_255 rfl (Int.natCast_nonneg _) ?_
                    refine s_iload_n dX2_linkBoth_257 rfl ?_
                    have hk147 : gK G142 (f) = (9, 0) := ((hXG142).k hk144 (by decide))
                    refine s_callV (as := [(0, k), (2, ((B : Nat) : Int)), (0, k)]) (rest := []) (n := f) (ci := 1) gX0_putNumberOf dX2_linkBoth_258 m_1321 m_745 m_1478 m_711 m_72 ⟨by decide, by decide, show (parseMethodDescriptor yX0_putNumberOf.desc).map (fun d => d.parameters.length) = some 3 from by decide +kernel⟩ (Nat.le_of_ble_eq_true rfl) (by rw [hcf]; exact Nat.le_of_ble_eq_true rfl) hk147 rfl rfl (Nat.le_of_ble_eq_true rfl) ⟨f, k, B, k, a, b, rfl, hCG142, hab, (by first | assumption | omega), (by first | assumption | omega), (by first | assumption | omega), (by first | assumption | omega), fun G145 hCG145 hXG145 hfG145 hpG145 => ?_⟩
                    have hFG145 : WX (fun x => x = 327691 ∨ x = 327692 ∨ (f + 1 ≤ x ∧ x ≤ f + 22)) G G145 := WX.trans hFG142 (KX.trans (KX.trans hXG11 hXG32) hXG142) (WX.mono hfG145 (fun x hx => by omega))
                    have hFIG145 : ∀ k : Nat, k < 6 → FIP P G145 262144 k := fun k hk => FIP.sm (hFIG142 k hk) hXG145 hfG145 (by show ¬ _; omega) (congrFun (hfG145 262149 (KX.al (KX.trans (KX.trans hXG11 hXG32) hXG142) (kne k262149 (by decide))) (by show ¬ _; omega)) k)
                    have hFAG145 : FPa P G145 A := (hFAG142).wx hXG145 hfG145 ⟨KX.al (KX.trans (KX.trans hXG11 hXG32) hXG142) (kne kA3 (by decide)), KX.al (KX.trans (KX.trans hXG11 hXG32) hXG142) (kne kA4 (by decide))⟩ (by show ¬ _; omega) (by show ¬ _; omega) (fun p hp => by show ¬ _; omega)
                    have hFBG145 : FPa P G145 B := (hFBG142).wx hXG145 hfG145 ⟨KX.al (KX.trans (KX.trans hXG11 hXG32) hXG142) (kne kB3 (by decide)), KX.al (KX.trans (KX.trans hXG11 hXG32) hXG142) (kne kB4 (by decide))⟩ (by show ¬ _; omega) (by show ¬ _; omega) (fun p hp => by show ¬ _; omega)
                    have hFfG145 : FPa P G145 f := (hFfG142).wx hXG145 hfG145 ⟨KX.al (KX.trans (KX.trans hXG11 hXG32) hXG142) (kne kf3 (by decide)), KX.al (KX.trans (KX.trans hXG11 hXG32) hXG142) (kne kf4 (by decide))⟩ (by show ¬ _; omega) (by show ¬ _; omega) (fun p hp => by show ¬ _; omega)
                    show WP kX2_linkBoth X 261 [some (2, ((327682 : Nat) : Int)), some (0, k), some (2, ((A : Nat) : Int)), some (2, ((B : Nat) : Int)), some (2, ((f : Nat) : Int)), some (0, rr12), some (0, rr33), some (2, ((B : Nat) : Int)), some (2, ((B : Nat) : Int))] [] G145
                    refine s_iconst dX2_linkBoth_261 (by decide) ?_
                    exact s_iret hR dX2_linkBoth_262 rfl (hQ 0 G145 hCG145 (KX.trans (KX.trans (KX.trans hXG11 hXG32) hXG142) hXG145) hFG145 hFfG145)
                  · -- 223 to 226
                    refine s_bipush dX2_linkBoth_226 rfl (by decide) ?_
                    refine s_iload_n dX2_linkBoth_228 rfl ?_
                    refine s_callSN (own := RX2) rfl (by decide +kernel) (as := [(0, 6), (0, k)]) (rest := []) gX11_valueMistake dX2_linkBoth_229 m_1784 m_714 m_129 ⟨by decide, by decide, show (parseMethodDescriptor yX11_valueMistake.desc).map (fun d => d.parameters.length) = some 2 from by decide +kernel⟩ (Nat.le_of_ble_eq_true rfl) (by rw [hcf]; exact Nat.le_of_ble_eq_true rfl) rfl (Nat.le_of_ble_eq_true rfl) ⟨6, k, rfl, (by first | assumption | omega), (by first | assumption | omega), fun rr148 hp149 => ?_⟩
                    show WP kX2_linkBoth X 232 [some (2, ((327682 : Nat) : Int)), some (0, k), some (2, ((A : Nat) : Int)), some (2, ((B : Nat) : Int)), some (2, ((f : Nat) : Int)), some (0, rr12), some (0, rr33), some (2, ((B : Nat) : Int)), some (2, ((B : Nat) : Int))] [(0, rr148)] G32
                    exact s_iret hR dX2_linkBoth_232 rfl (hQ rr148 G32 hCG32 (KX.trans hXG11 hXG32) hFG32 hFfG32)
              · -- 198 to 201
                refine s_aload_n dX2_linkBoth_201 rfl (Int.natCast_nonneg _) ?_
                refine s_goto (tgt := 206) dX2_linkBoth_202 (by decide) ?_
                refine s_astore (Int.natCast_nonneg _) dX2_linkBoth_206 (by decide) (lv' := [some (2, ((327682 : Nat) : Int)), some (0, k), some (2, ((A : Nat) : Int)), some (2, ((B : Nat) : Int)), some (2, ((f : Nat) : Int)), some (0, rr12), some (0, rr33), some (2, ((B : Nat) : Int)), some (2, ((A : Nat) : Int))]) rfl ?_
                refine s_aload dX2_linkBoth_208 rfl (Int.natCast_nonneg _) ?_
                refine s_iload_n dX2_linkBoth_210 rfl ?_
                have hk152 : gK G32 (B) = (9, 0) := ((hXG32).k hk16 (by decide))
                refine s_callV (as := [(0, k)]) (rest := []) (n := B) (ci := 1) gX0_isGhost dX2_linkBoth_211 m_1323 m_741 m_1474 m_711 m_68 ⟨by decide, by decide, show (parseMethodDescriptor yX0_isGhost.desc).map (fun d => d.parameters.length) = some 1 from by decide +kernel⟩ (Nat.le_of_ble_eq_true rfl) (by rw [hcf]; exact Nat.le_of_ble_eq_true rfl) hk152 rfl rfl (Nat.le_of_ble_eq_true rfl) ⟨B, k, a, b, rfl, hCG32, hab, (by first | assumption | omega), (by first | assumption | omega), fun rr150 hp151 => ?_⟩
                show WP kX2_linkBoth X 214 [some (2, ((327682 : Nat) : Int)), some (0, k), some (2, ((A : Nat) : Int)), some (2, ((B : Nat) : Int)), some (2, ((f : Nat) : Int)), some (0, rr12), some (0, rr33), some (2, ((B : Nat) : Int)), some (2, ((A : Nat) : Int))] [(0, rr150)] G32
                refine s_if_eq (tgt := 233) dX2_linkBoth_214 (by decide) (fun c153 => ?_) (fun c153 => ?_)
                · -- 214 to 233
                  refine s_aload dX2_linkBoth_233 rfl (Int.natCast_nonneg _) ?_
                  refine s_iload_n dX2_linkBoth_235 rfl ?_
                  refine s_aload dX2_linkBoth_236 rfl (Int.natCast_nonneg _) ?_
                  refine s_alv (B) (by simp) (fun al154 => ?_)
                  have hv155 : gS G32 B 2 = ((B + 2 : Nat) : Int) := by have h9 : (gS G32 B 2) = (((B % 1048576) + 2 : Nat) : Int) := hCG32.1.v (j := 2) (by rw [cde_n (by omega) (by omega)]; omega : cde B = 101) al154 (by rw [hk152]; exact Nat.le_of_ble_eq_true rfl); omega
                  refine s_getf (ci := 1) (k := 2) (C := RX0) (T := TX0) (N := 7) (n := B) (L := 0) (t := 2) dX2_linkBoth_238 rfl wi_65 m_576 (Nat.le_of_ble_eq_true rfl) rfl rfl hk152 hv155 ?_
                  refine s_iload_n dX2_linkBoth_241 rfl ?_
                  have hk156 : gK G32 (B + 2) = (1, 10) := ((hXG32).k ((hXG11).k kB2 (by decide)) (by decide))
                  refine s_iald dX2_linkBoth_242 hk156 (by omega) (by omega) rfl ?_
                  refine s_aload_n dX2_linkBoth_243 rfl (Int.natCast_nonneg _) ?_
                  have hv157 : gS G32 327682 6 = ((327691 : Nat) : Int) := by have h9 : (gS G32 327682 6) = 327691 := hCG32.1.v (j := 6) (by decide : cde 327682 = 502) al44 (by rw [hk43]; exact Nat.le_of_ble_eq_true rfl); omega
                  refine s_getf (ci := 3) (k := 6) (C := RX2) (T := TX2) (N := 8) (n := 327682) (L := 0) (t := 2) dX2_linkBoth_244 rfl wi_70 m_582 (Nat.le_of_ble_eq_true rfl) rfl rfl hk43 hv157 ?_
                  refine s_iload dX2_linkBoth_247 rfl ?_
                  have hk160 : gK G32 (f) = (9, 0) := ((hXG32).k ((hXG11).k kf0 (by decide)) (by decide))
                  refine s_callV (as := [(0, k), (0, gS G32 (B + 2) ((k : Int).toNat)), (2, ((327691 : Nat) : Int)), (0, rr12)]) (rest := []) (n := f) (ci := 1) gX0_putValue dX2_linkBoth_249 m_1320 m_750 m_1483 m_711 m_77 ⟨by decide, by decide, show (parseMethodDescriptor yX0_putValue.desc).map (fun d => d.parameters.length) = some 4 from by decide +kernel⟩ (Nat.le_of_ble_eq_true rfl) (by rw [hcf]; exact Nat.le_of_ble_eq_true rfl) hk160 rfl rfl (Nat.le_of_ble_eq_true rfl) ⟨f, k, gS G32 (B + 2) ((k : Int).toNat), 327691, 200, rr12, a, b, rfl, hCG32, hab, (by first | assumption | omega), (by first | assumption | omega), hk47, (by first | assumption | omega), (by first | assumption | omega), (by first | assumption | omega), fun G158 hCG158 hXG158 hfG158 hpG158 => ?_⟩
                  have hFG158 : WX (fun x => x = 327691 ∨ x = 327692 ∨ (f + 1 ≤ x ∧ x ≤ f + 22)) G G158 := WX.trans hFG32 (KX.trans hXG11 hXG32) (WX.mono hfG158 (fun x hx => by omega))
                  have hFIG158 : ∀ k : Nat, k < 6 → FIP P G158 262144 k := fun k hk => FIP.sm (hFIG32 k hk) hXG158 hfG158 (by show ¬ _; omega) (congrFun (hfG158 262149 (KX.al (KX.trans hXG11 hXG32) (kne k262149 (by decide))) (by show ¬ _; omega)) k)
                  have hFAG158 : FPa P G158 A := (hFAG32).wx hXG158 hfG158 ⟨KX.al (KX.trans hXG11 hXG32) (kne kA3 (by decide)), KX.al (KX.trans hXG11 hXG32) (kne kA4 (by decide))⟩ (by show ¬ _; omega) (by show ¬ _; omega) (fun p hp => by show ¬ _; omega)
                  have hFBG158 : FPa P G158 B := (hFBG32).wx hXG158 hfG158 ⟨KX.al (KX.trans hXG11 hXG32) (kne kB3 (by decide)), KX.al (KX.trans hXG11 hXG32) (kne kB4 (by decide))⟩ (by show ¬ _; omega) (by show ¬ _; omega) (fun p hp => by show ¬ _; omega)
                  have hFfG158 : FPa P G158 f := FPa.put hpG158.1 hFfG32 (fun _ _ => (hpG11.2 P ((hFA (6 + k : Int).toNat (by omega)).rps hv4 rfl) hFI (by omega)).wx hXG32 hfG32 (by show ¬ _; omega)) hXG158 hfG158 (fun p hp hn => by show ¬ _; omega)
                  show WP kX2_linkBoth X 252 [some (2, ((327682 : Nat) : Int)), some (0, k), some (2, ((A : Nat) : Int)), some (2, ((B : Nat) : Int)), some (2, ((f : Nat) : Int)), some (0, rr12), some (0, rr33), some (2, ((B : Nat) : Int)), some (2, ((A : Nat) : Int))] [] G158
                  refine s_aload dX2_linkBoth_252 rfl (Int.natCast_nonneg _) ?_
                  refine s_iload_n dX2_linkBoth_254 rfl ?_
                  refine s_aload dX2_linkBoth_255 rfl (Int.natCast_nonneg _) ?_
                  refine s_iload_n dX2_linkBoth_257 rfl ?_
                  have hk163 : gK G158 (f) = (9, 0) := ((hXG158).k hk160 (by decide))
                  refine s_callV (as := [(0, k), (2, ((B : Nat) : Int)), (0, k)]) (rest := []) (n := f) (ci := 1) gX0_putNumberOf dX2_linkBoth_258 m_1321 m_745 m_1478 m_711 m_72 ⟨by decide, by decide, show (parseMethodDescriptor yX0_putNumberOf.desc).map (fun d => d.parameters.length) = some 3 from by decide +kernel⟩ (Nat.le_of_ble_eq_true rfl) (by rw [hcf]; exact Nat.le_of_ble_eq_true rfl) hk163 rfl rfl (Nat.le_of_ble_eq_true rfl) ⟨f, k, B, k, a, b, rfl, hCG158, hab, (by first | assumption | omega), (by first | assumption | omega), (by first | assumption | omega), (by first | assumption | omega), fun G161 hCG161 hXG161 hfG161 hpG161 => ?_⟩
                  have hFG161 : WX (fun x => x = 327691 ∨ x = 327692 ∨ (f + 1 ≤ x ∧ x ≤ f + 22)) G G161 := WX.trans hFG158 (KX.trans (KX.trans hXG11 hXG32) hXG158) (WX.mono hfG161 (fun x hx => by omega))
                  have hFIG161 : ∀ k : Nat, k < 6 → FIP P G161 262144 k := fun k hk => FIP.sm (hFIG158 k hk) hXG161 hfG161 (by show ¬ _; omega) (congrFun (hfG161 262149 (KX.al (KX.trans (KX.trans hXG11 hXG32) hXG158) (kne k262149 (by decide))) (by show ¬ _; omega)) k)
                  have hFAG161 : FPa P G161 A := (hFAG158).wx hXG161 hfG161 ⟨KX.al (KX.trans (KX.trans hXG11 hXG32) hXG158) (kne kA3 (by decide)), KX.al (KX.trans (KX.trans hXG11 hXG32) hXG158) (kne kA4 (by decide))⟩ (by show ¬ _; omega) (by show ¬ _; omega) (fun p hp => by show ¬ _; omega)
                  have hFBG161 : FPa P G161 B := (hFBG158).wx hXG161 hfG161 ⟨KX.al (KX.trans (KX.trans hXG11 hXG32) hXG158) (kne kB3 (by decide)), KX.al (KX.trans (KX.trans hXG11 hXG32) hXG158) (kne kB4 (by decide))⟩ (by show ¬ _; omega) (by show ¬ _; omega) (fun p hp => by show ¬ _; omega)
                  have hFfG161 : FPa P G161 f := (hFfG158).wx hXG161 hfG161 ⟨KX.al (KX.trans (KX.trans hXG11 hXG32) hXG158) (kne kf3 (by decide)), KX.al (KX.trans (KX.trans hXG11 hXG32) hXG158) (kne kf4 (by decide))⟩ (by show ¬ _; omega) (by show ¬ _; omega) (fun p hp => by show ¬ _; omega)
                  show WP kX2_linkBoth X 261 [some (2, ((327682 : Nat) : Int)), some (0, k), some (2, ((A : Nat) : Int)), some (2, ((B : Nat) : Int)), some (2, ((f : Nat) : Int)), some (0, rr12), some (0, rr33), some (2, ((B : Nat) : Int)), some (2, ((A : Nat) : Int))] [] G161
                  refine s_iconst dX2_linkBoth_261 (by decide) ?_
                  exact s_iret hR dX2_linkBoth_262 rfl (hQ 0 G161 hCG161 (KX.trans (KX.trans (KX.trans hXG11 hXG32) hXG158) hXG161) hFG161 hFfG161)
                · -- 214 to 217
                  refine s_aload dX2_linkBoth_217 rfl (Int.natCast_nonneg _) ?_
                  refine s_iload_n dX2_linkBoth_219 rfl ?_
                  refine s_callV (as := [(0, k)]) (rest := []) (n := A) (ci := 1) gX0_isGhost dX2_linkBoth_220 m_1323 m_741 m_1474 m_711 m_68 ⟨by decide, by decide, show (parseMethodDescriptor yX0_isGhost.desc).map (fun d => d.parameters.length) = some 1 from by decide +kernel⟩ (Nat.le_of_ble_eq_true rfl) (by rw [hcf]; exact Nat.le_of_ble_eq_true rfl) hk41 rfl rfl (Nat.le_of_ble_eq_true rfl) ⟨A, k, a, b, rfl, hCG32, hab, (by first | assumption | omega), (by first | assumption | omega), fun rr164 hp165 => ?_⟩
                  show WP kX2_linkBoth X 223 [some (2, ((327682 : Nat) : Int)), some (0, k), some (2, ((A : Nat) : Int)), some (2, ((B : Nat) : Int)), some (2, ((f : Nat) : Int)), some (0, rr12), some (0, rr33), some (2, ((B : Nat) : Int)), some (2, ((A : Nat) : Int))] [(0, rr164)] G32
                  refine s_if_ne (tgt := 233) dX2_linkBoth_223 (by decide) (fun c166 => ?_) (fun c166 => ?_)
                  · -- 223 to 233
                    refine s_aload dX2_linkBoth_233 rfl (Int.natCast_nonneg _) ?_
                    refine s_iload_n dX2_linkBoth_235 rfl ?_
                    refine s_aload dX2_linkBoth_236 rfl (Int.natCast_nonneg _) ?_
                    refine s_alv (B) (by simp) (fun al167 => ?_)
                    have hv168 : gS G32 B 2 = ((B + 2 : Nat) : Int) := by have h9 : (gS G32 B 2) = (((B % 1048576) + 2 : Nat) : Int) := hCG32.1.v (j := 2) (by rw [cde_n (by omega) (by omega)]; omega : cde B = 101) al167 (by rw [hk152]; exact Nat.le_of_ble_eq_true rfl); omega
                    refine s_getf (ci := 1) (k := 2) (C := RX0) (T := TX0) (N := 7) (n := B) (L := 0) (t := 2) dX2_linkBoth_238 rfl wi_65 m_576 (Nat.le_of_ble_eq_true rfl) rfl rfl hk152 hv168 ?_
                    refine s_iload_n dX2_linkBoth_241 rfl ?_
                    have hk169 : gK G32 (B + 2) = (1, 10) := ((hXG32).k ((hXG11).k kB2 (by decide)) (by decide))
                    refine s_iald dX2_linkBoth_242 hk169 (by omega) (by omega) rfl ?_
                    refine s_aload_n dX2_linkBoth_243 rfl (Int.natCast_nonneg _) ?_
                    have hv170 : gS G32 327682 6 = ((327691 : Nat) : Int) := by have h9 : (gS G32 327682 6) = 327691 := hCG32.1.v (j := 6) (by decide : cde 327682 = 502) al44 (by rw [hk43]; exact Nat.le_of_ble_eq_true rfl); omega
                    refine s_getf (ci := 3) (k := 6) (C := RX2) (T := TX2) (N := 8) (n := 327682) (L := 0) (t := 2) dX2_linkBoth_244 rfl wi_70 m_582 (Nat.le_of_ble_eq_true rfl) rfl rfl hk43 hv170 ?_
                    refine s_iload dX2_linkBoth_247 rfl ?_
                    have hk173 : gK G32 (f) = (9, 0) := ((hXG32).k ((hXG11).k kf0 (by decide)) (by decide))
                    refine s_callV (as := [(0, k), (0, gS G32 (B + 2) ((k : Int).toNat)), (2, ((327691 : Nat) : Int)), (0, rr12)]) (rest := []) (n := f) (ci := 1) gX0_putValue dX2_linkBoth_249 m_1320 m_750 m_1483 m_711 m_77 ⟨by decide, by decide, show (parseMethodDescriptor yX0_putValue.desc).map (fun d => d.parameters.length) = some 4 from by decide +kernel⟩ (Nat.le_of_ble_eq_true rfl) (by rw [hcf]; exact Nat.le_of_ble_eq_true rfl) hk173 rfl rfl (Nat.le_of_ble_eq_true rfl) ⟨f, k, gS G32 (B + 2) ((k : Int).toNat), 327691, 200, rr12, a, b, rfl, hCG32, hab, (by first | assumption | omega), (by first | assumption | omega), hk47, (by first | assumption | omega), (by first | assumption | omega), (by first | assumption | omega), fun G171 hCG171 hXG171 hfG171 hpG171 => ?_⟩
                    have hFG171 : WX (fun x => x = 327691 ∨ x = 327692 ∨ (f + 1 ≤ x ∧ x ≤ f + 22)) G G171 := WX.trans hFG32 (KX.trans hXG11 hXG32) (WX.mono hfG171 (fun x hx => by omega))
                    have hFIG171 : ∀ k : Nat, k < 6 → FIP P G171 262144 k := fun k hk => FIP.sm (hFIG32 k hk) hXG171 hfG171 (by show ¬ _; omega) (congrFun (hfG171 262149 (KX.al (KX.trans hXG11 hXG32) (kne k262149 (by decide))) (by show ¬ _; omega)) k)
                    have hFAG171 : FPa P G171 A := (hFAG32).wx hXG171 hfG171 ⟨KX.al (KX.trans hXG11 hXG32) (kne kA3 (by decide)), KX.al (KX.trans hXG11 hXG32) (kne kA4 (by decide))⟩ (by show ¬ _; omega) (by show ¬ _; omega) (fun p hp => by show ¬ _; omega)
                    have hFBG171 : FPa P G171 B := (hFBG32).wx hXG171 hfG171 ⟨KX.al (KX.trans hXG11 hXG32) (kne kB3 (by decide)), KX.al (KX.trans hXG11 hXG32) (kne kB4 (by decide))⟩ (by show ¬ _; omega) (by show ¬ _; omega) (fun p hp => by show ¬ _; omega)
                    have hFfG171 : FPa P G171 f := FPa.put hpG171.1 hFfG32 (fun _ _ => (hpG11.2 P ((hFA (6 + k : Int).toNat (by omega)).rps hv4 rfl) hFI (by omega)).wx hXG32 hfG32 (by show ¬ _; omega)) hXG171 hfG171 (fun p hp hn => by show ¬ _; omega)
                    show WP kX2_linkBoth X 252 [some (2, ((327682 : Nat) : Int)), some (0, k), some (2, ((A : Nat) : Int)), some (2, ((B : Nat) : Int)), some (2, ((f : Nat) : Int)), some (0, rr12), some (0, rr33), some (2, ((B : Nat) : Int)), some (2, ((A : Nat) : Int))] [] G171
                    refine s_aload dX2_linkBoth_252 rfl (Int.natCast_nonneg _) ?_
                    refine s_iload_n dX2_linkBoth_254 rfl ?_
                    refine s_aload dX2_linkBoth_255 rfl (Int.natCast_nonneg _) ?_
                    refine s_iload_n dX2_linkBoth_257 rfl ?_
                    have hk176 : gK G171 (f) = (9, 0) := ((hXG171).k hk173 (by decide))
                    refine s_callV (as := [(0, k), (2, ((B : Nat) : Int)), (0, k)]) (rest := []) (n := f) (ci := 1) gX0_putNumberOf dX2_linkBoth_258 m_1321 m_745 m_1478 m_711 m_72 ⟨by decide, by decide, show (parseMethodDescriptor yX0_putNumberOf.desc).map (fun d => d.parameters.length) = some 3 from by decide +kernel⟩ (Nat.le_of_ble_eq_true rfl) (by rw [hcf]; exact Nat.le_of_ble_eq_true rfl) hk176 rfl rfl (Nat.le_of_ble_eq_true rfl) ⟨f, k, B, k, a, b, rfl, hCG171, hab, (by first | assumption | omega), (by first | assumption | omega), (by first | assumption | omega), (by first | assumption | omega), fun G174 hCG174 hXG174 hfG174 hpG174 => ?_⟩
                    have hFG174 : WX (fun x => x = 327691 ∨ x = 327692 ∨ (f + 1 ≤ x ∧ x ≤ f + 22)) G G174 := WX.trans hFG171 (KX.trans (KX.trans hXG11 hXG32) hXG171) (WX.mono hfG174 (fun x hx => by omega))
                    have hFIG174 : ∀ k : Nat, k < 6 → FIP P G174 262144 k := fun k hk => FIP.sm (hFIG171 k hk) hXG174 hfG174 (by show ¬ _; omega) (congrFun (hfG174 262149 (KX.al (KX.trans (KX.trans hXG11 hXG32) hXG171) (kne k262149 (by decide))) (by show ¬ _; omega)) k)
                    have hFAG174 : FPa P G174 A := (hFAG171).wx hXG174 hfG174 ⟨KX.al (KX.trans (KX.trans hXG11 hXG32) hXG171) (kne kA3 (by decide)), KX.al (KX.trans (KX.trans hXG11 hXG32) hXG171) (kne kA4 (by decide))⟩ (by show ¬ _; omega) (by show ¬ _; omega) (fun p hp => by show ¬ _; omega)
                    have hFBG174 : FPa P G174 B := (hFBG171).wx hXG174 hfG174 ⟨KX.al (KX.trans (KX.trans hXG11 hXG32) hXG171) (kne kB3 (by decide)), KX.al (KX.trans (KX.trans hXG11 hXG32) hXG171) (kne kB4 (by decide))⟩ (by show ¬ _; omega) (by show ¬ _; omega) (fun p hp => by show ¬ _; omega)
                    have hFfG174 : FPa P G174 f := (hFfG171).wx hXG174 hfG174 ⟨KX.al (KX.trans (KX.trans hXG11 hXG32) hXG171) (kne kf3 (by decide)), KX.al (KX.trans (KX.trans hXG11 hXG32) hXG171) (kne kf4 (by decide))⟩ (by show ¬ _; omega) (by show ¬ _; omega) (fun p hp => by show ¬ _; omega)
                    show WP kX2_linkBoth X 261 [some (2, ((327682 : Nat) : Int)), some (0, k), some (2, ((A : Nat) : Int)), some (2, ((B : Nat) : Int)), some (2, ((f : Nat) : Int)), some (0, rr12), some (0, rr33), some (2, ((B : Nat) : Int)), some (2, ((A : Nat) : Int))] [] G174
                    refine s_iconst dX2_linkBoth_261 (by decide) ?_
                    exact s_iret hR dX2_linkBoth_262 rfl (hQ 0 G174 hCG174 (KX.trans (KX.trans (KX.trans hXG11 hXG32) hXG171) hXG174) hFG174 hFfG174)
                  · -- 223 to 226
                    refine s_bipush dX2_linkBoth_226 rfl (by decide) ?_
                    refine s_iload_n dX2_linkBoth_228 rfl ?_
                    refine s_callSN (own := RX2) rfl (by decide +kernel) (as := [(0, 6), (0, k)]) (rest := []) gX11_valueMistake dX2_linkBoth_229 m_1784 m_714 m_129 ⟨by decide, by decide, show (parseMethodDescriptor yX11_valueMistake.desc).map (fun d => d.parameters.length) = some 2 from by decide +kernel⟩ (Nat.le_of_ble_eq_true rfl) (by rw [hcf]; exact Nat.le_of_ble_eq_true rfl) rfl (Nat.le_of_ble_eq_true rfl) ⟨6, k, rfl, (by first | assumption | omega), (by first | assumption | omega), fun rr177 hp178 => ?_⟩
                    show WP kX2_linkBoth X 232 [some (2, ((327682 : Nat) : Int)), some (0, k), some (2, ((A : Nat) : Int)), some (2, ((B : Nat) : Int)), some (2, ((f : Nat) : Int)), some (0, rr12), some (0, rr33), some (2, ((B : Nat) : Int)), some (2, ((A : Nat) : Int))] [(0, rr177)] G32
                    exact s_iret hR dX2_linkBoth_232 rfl (hQ rr177 G32 hCG32 (KX.trans hXG11 hXG32) hFG32 hFfG32)
          · -- 136 to 139
            refine s_aload_n dX2_linkBoth_139 rfl (Int.natCast_nonneg _) ?_
            refine s_iload_n dX2_linkBoth_140 rfl ?_
            have hk181 : gK G32 (B) = (9, 0) := ((hXG32).k hk16 (by decide))
            refine s_callV (as := [(0, k)]) (rest := []) (n := B) (ci := 1) gX0_isValueHole dX2_linkBoth_141 m_1322 m_743 m_1476 m_711 m_70 ⟨by decide, by decide, show (parseMethodDescriptor yX0_isValueHole.desc).map (fun d => d.parameters.length) = some 1 from by decide +kernel⟩ (Nat.le_of_ble_eq_true rfl) (by rw [hcf]; exact Nat.le_of_ble_eq_true rfl) hk181 rfl rfl (Nat.le_of_ble_eq_true rfl) ⟨B, k, a, b, rfl, hCG32, hab, (by first | assumption | omega), (by first | assumption | omega), fun rr179 hp180 => ?_⟩
            show WP kX2_linkBoth X 144 [some (2, ((327682 : Nat) : Int)), some (0, k), some (2, ((A : Nat) : Int)), some (2, ((B : Nat) : Int)), some (2, ((f : Nat) : Int)), some (0, rr12), some (0, rr33), none, none] [(0, rr179)] G32
            refine s_if_eq (tgt := 178) dX2_linkBoth_144 (by decide) (fun c182 => ?_) (fun c182 => ?_)
            · -- 144 to 178
              refine s_aload_n dX2_linkBoth_178 rfl (Int.natCast_nonneg _) ?_
              refine s_iload_n dX2_linkBoth_179 rfl ?_
              refine s_callV (as := [(0, k)]) (rest := []) (n := A) (ci := 1) gX0_isValueHole dX2_linkBoth_180 m_1322 m_743 m_1476 m_711 m_70 ⟨by decide, by decide, show (parseMethodDescriptor yX0_isValueHole.desc).map (fun d => d.parameters.length) = some 1 from by decide +kernel⟩ (Nat.le_of_ble_eq_true rfl) (by rw [hcf]; exact Nat.le_of_ble_eq_true rfl) hk41 rfl rfl (Nat.le_of_ble_eq_true rfl) ⟨A, k, a, b, rfl, hCG32, hab, (by first | assumption | omega), (by first | assumption | omega), fun rr183 hp184 => ?_⟩
              show WP kX2_linkBoth X 183 [some (2, ((327682 : Nat) : Int)), some (0, k), some (2, ((A : Nat) : Int)), some (2, ((B : Nat) : Int)), some (2, ((f : Nat) : Int)), some (0, rr12), some (0, rr33), none, none] [(0, rr183)] G32
              refine s_if_eq (tgt := 190) dX2_linkBoth_183 (by decide) (fun c185 => ?_) (fun c185 => ?_)
              · -- 183 to 190
                refine s_aload_n dX2_linkBoth_190 rfl (Int.natCast_nonneg _) ?_
                refine s_astore (Int.natCast_nonneg _) dX2_linkBoth_191 (by decide) (lv' := [some (2, ((327682 : Nat) : Int)), some (0, k), some (2, ((A : Nat) : Int)), some (2, ((B : Nat) : Int)), some (2, ((f : Nat) : Int)), some (0, rr12), some (0, rr33), some (2, ((A : Nat) : Int)), none]) rfl ?_
                refine s_aload_n dX2_linkBoth_193 rfl (Int.natCast_nonneg _) ?_
                refine s_iload_n dX2_linkBoth_194 rfl ?_
                refine s_callV (as := [(0, k)]) (rest := []) (n := A) (ci := 1) gX0_isValueHole dX2_linkBoth_195 m_1322 m_743 m_1476 m_711 m_70 ⟨by decide, by decide, show (parseMethodDescriptor yX0_isValueHole.desc).map (fun d => d.parameters.length) = some 1 from by decide +kernel⟩ (Nat.le_of_ble_eq_true rfl) (by rw [hcf]; exact Nat.le_of_ble_eq_true rfl) hk41 rfl rfl (Nat.le_of_ble_eq_true rfl) ⟨A, k, a, b, rfl, hCG32, hab, (by first | assumption | omega), (by first | assumption | omega), fun rr186 hp187 => ?_⟩
                show WP kX2_linkBoth X 198 [some (2, ((327682 : Nat) : Int)), some (0, k), some (2, ((A : Nat) : Int)), some (2, ((B : Nat) : Int)), some (2, ((f : Nat) : Int)), some (0, rr12), some (0, rr33), some (2, ((A : Nat) : Int)), none] [(0, rr186)] G32
                refine s_if_eq (tgt := 205) dX2_linkBoth_198 (by decide) (fun c188 => ?_) (fun c188 => ?_)
                · -- 198 to 205
                  refine s_aload_n dX2_linkBoth_205 rfl (Int.natCast_nonneg _) ?_
                  refine s_astore (Int.natCast_nonneg _) dX2_linkBoth_206 (by decide) (lv' := [some (2, ((327682 : Nat) : Int)), some (0, k), some (2, ((A : Nat) : Int)), some (2, ((B : Nat) : Int)), some (2, ((f : Nat) : Int)), some (0, rr12), some (0, rr33), some (2, ((A : Nat) : Int)), some (2, ((B : Nat) : Int))]) rfl ?_
                  refine s_aload dX2_linkBoth_208 rfl (Int.natCast_nonneg _) ?_
                  refine s_iload_n dX2_linkBoth_210 rfl ?_
                  refine s_callV (as := [(0, k)]) (rest := []) (n := A) (ci := 1) gX0_isGhost dX2_linkBoth_211 m_1323 m_741 m_1474 m_711 m_68 ⟨by decide, by decide, show (parseMethodDescriptor yX0_isGhost.desc).map (fun d => d.parameters.length) = some 1 from by decide +kernel⟩ (Nat.le_of_ble_eq_true rfl) (by rw [hcf]; exact Nat.le_of_ble_eq_true rfl) hk41 rfl rfl (Nat.le_of_ble_eq_true rfl) ⟨A, k, a, b, rfl, hCG32, hab, (by first | assumption | omega), (by first | assumption | omega), fun rr189 hp190 => ?_⟩
                  show WP kX2_linkBoth X 214 [some (2, ((327682 : Nat) : Int)), some (0, k), some (2, ((A : Nat) : Int)), some (2, ((B : Nat) : Int)), some (2, ((f : Nat) : Int)), some (0, rr12), some (0, rr33), some (2, ((A : Nat) : Int)), some (2, ((B : Nat) : Int))] [(0, rr189)] G32
                  refine s_if_eq (tgt := 233) dX2_linkBoth_214 (by decide) (fun c191 => ?_) (fun c191 => ?_)
                  · -- 214 to 233
                    refine s_aload dX2_linkBoth_233 rfl (Int.natCast_nonneg _) ?_
                    refine s_iload_n dX2_linkBoth_235 rfl ?_
                    refine s_aload dX2_linkBoth_236 rfl (Int.natCast_nonneg _) ?_
                    refine s_alv (A) (by simp) (fun al192 => ?_)
                    have hv193 : gS G32 A 2 = ((A + 2 : Nat) : Int) := by have h9 : (gS G32 A 2) = (((A % 1048576) + 2 : Nat) : Int) := hCG32.1.v (j := 2) (by rw [cde_n (by omega) (by omega)]; omega : cde A = 101) al192 (by rw [hk41]; exact Nat.le_of_ble_eq_true rfl); omega
                    refine s_getf (ci := 1) (k := 2) (C := RX0) (T := TX0) (N := 7) (n := A) (L := 0) (t := 2) dX2_linkBoth_238 rfl wi_65 m_576 (Nat.le_of_ble_eq_true rfl) rfl rfl hk41 hv193 ?_
                    refine s_iload_n dX2_linkBoth_241 rfl ?_
                    have hk194 : gK G32 (A + 2) = (1, 10) := ((hXG32).k ((hXG11).k kA2 (by decide)) (by decide))
                    refine s_iald dX2_linkBoth_242 hk194 (by omega) (by omega) rfl ?_
                    refine s_aload_n dX2_linkBoth_243 rfl (Int.natCast_nonneg _) ?_
                    have hv195 : gS G32 327682 6 = ((327691 : Nat) : Int) := by have h9 : (gS G32 327682 6) = 327691 := hCG32.1.v (j := 6) (by decide : cde 327682 = 502) al44 (by rw [hk43]; exact Nat.le_of_ble_eq_true rfl); omega
                    refine s_getf (ci := 3) (k := 6) (C := RX2) (T := TX2) (N := 8) (n := 327682) (L := 0) (t := 2) dX2_linkBoth_244 rfl wi_70 m_582 (Nat.le_of_ble_eq_true rfl) rfl rfl hk43 hv195 ?_
                    refine s_iload dX2_linkBoth_247 rfl ?_
                    have hk198 : gK G32 (f) = (9, 0) := ((hXG32).k ((hXG11).k kf0 (by decide)) (by decide))
                    refine s_callV (as := [(0, k), (0, gS G32 (A + 2) ((k : Int).toNat)), (2, ((327691 : Nat) : Int)), (0, rr12)]) (rest := []) (n := f) (ci := 1) gX0_putValue dX2_linkBoth_249 m_1320 m_750 m_1483 m_711 m_77 ⟨by decide, by decide, show (parseMethodDescriptor yX0_putValue.desc).map (fun d => d.parameters.length) = some 4 from by decide +kernel⟩ (Nat.le_of_ble_eq_true rfl) (by rw [hcf]; exact Nat.le_of_ble_eq_true rfl) hk198 rfl rfl (Nat.le_of_ble_eq_true rfl) ⟨f, k, gS G32 (A + 2) ((k : Int).toNat), 327691, 200, rr12, a, b, rfl, hCG32, hab, (by first | assumption | omega), (by first | assumption | omega), hk47, (by first | assumption | omega), (by first | assumption | omega), (by first | assumption | omega), fun G196 hCG196 hXG196 hfG196 hpG196 => ?_⟩
                    have hFG196 : WX (fun x => x = 327691 ∨ x = 327692 ∨ (f + 1 ≤ x ∧ x ≤ f + 22)) G G196 := WX.trans hFG32 (KX.trans hXG11 hXG32) (WX.mono hfG196 (fun x hx => by omega))
                    have hFIG196 : ∀ k : Nat, k < 6 → FIP P G196 262144 k := fun k hk => FIP.sm (hFIG32 k hk) hXG196 hfG196 (by show ¬ _; omega) (congrFun (hfG196 262149 (KX.al (KX.trans hXG11 hXG32) (kne k262149 (by decide))) (by show ¬ _; omega)) k)
                    have hFAG196 : FPa P G196 A := (hFAG32).wx hXG196 hfG196 ⟨KX.al (KX.trans hXG11 hXG32) (kne kA3 (by decide)), KX.al (KX.trans hXG11 hXG32) (kne kA4 (by decide))⟩ (by show ¬ _; omega) (by show ¬ _; omega) (fun p hp => by show ¬ _; omega)
                    have hFBG196 : FPa P G196 B := (hFBG32).wx hXG196 hfG196 ⟨KX.al (KX.trans hXG11 hXG32) (kne kB3 (by decide)), KX.al (KX.trans hXG11 hXG32) (kne kB4 (by decide))⟩ (by show ¬ _; omega) (by show ¬ _; omega) (fun p hp => by show ¬ _; omega)
                    have hFfG196 : FPa P G196 f := FPa.put hpG196.1 hFfG32 (fun _ _ => (hpG11.2 P ((hFA (6 + k : Int).toNat (by omega)).rps hv4 rfl) hFI (by omega)).wx hXG32 hfG32 (by show ¬ _; omega)) hXG196 hfG196 (fun p hp hn => by show ¬ _; omega)
                    show WP kX2_linkBoth X 252 [some (2, ((327682 : Nat) : Int)), some (0, k), some (2, ((A : Nat) : Int)), some (2, ((B : Nat) : Int)), some (2, ((f : Nat) : Int)), some (0, rr12), some (0, rr33), some (2, ((A : Nat) : Int)), some (2, ((B : Nat) : Int))] [] G196
                    refine s_aload dX2_linkBoth_252 rfl (Int.natCast_nonneg _) ?_
                    refine s_iload_n dX2_linkBoth_254 rfl ?_
                    refine s_aload dX2_linkBoth_255 rfl (Int.natCast_nonneg _) ?_
                    refine s_iload_n dX2_linkBoth_257 rfl ?_
                    have hk201 : gK G196 (f) = (9, 0) := ((hXG196).k hk198 (by decide))
                    refine s_callV (as := [(0, k), (2, ((A : Nat) : Int)), (0, k)]) (rest := []) (n := f) (ci := 1) gX0_putNumberOf dX2_linkBoth_258 m_1321 m_745 m_1478 m_711 m_72 ⟨by decide, by decide, show (parseMethodDescriptor yX0_putNumberOf.desc).map (fun d => d.parameters.length) = some 3 from by decide +kernel⟩ (Nat.le_of_ble_eq_true rfl) (by rw [hcf]; exact Nat.le_of_ble_eq_true rfl) hk201 rfl rfl (Nat.le_of_ble_eq_true rfl) ⟨f, k, A, k, a, b, rfl, hCG196, hab, (by first | assumption | omega), (by first | assumption | omega), (by first | assumption | omega), (by first | assumption | omega), fun G199 hCG199 hXG199 hfG199 hpG199 => ?_⟩
                    have hFG199 : WX (fun x => x = 327691 ∨ x = 327692 ∨ (f + 1 ≤ x ∧ x ≤ f + 22)) G G199 := WX.trans hFG196 (KX.trans (KX.trans hXG11 hXG32) hXG196) (WX.mono hfG199 (fun x hx => by omega))
                    have hFIG199 : ∀ k : Nat, k < 6 → FIP P G199 262144 k := fun k hk => FIP.sm (hFIG196 k hk) hXG199 hfG199 (by show ¬ _; omega) (congrFun (hfG199 262149 (KX.al (KX.trans (KX.trans hXG11 hXG32) hXG196) (kne k262149 (by decide))) (by show ¬ _; omega)) k)
                    have hFAG199 : FPa P G199 A := (hFAG196).wx hXG199 hfG199 ⟨KX.al (KX.trans (KX.trans hXG11 hXG32) hXG196) (kne kA3 (by decide)), KX.al (KX.trans (KX.trans hXG11 hXG32) hXG196) (kne kA4 (by decide))⟩ (by show ¬ _; omega) (by show ¬ _; omega) (fun p hp => by show ¬ _; omega)
                    have hFBG199 : FPa P G199 B := (hFBG196).wx hXG199 hfG199 ⟨KX.al (KX.trans (KX.trans hXG11 hXG32) hXG196) (kne kB3 (by decide)), KX.al (KX.trans (KX.trans hXG11 hXG32) hXG196) (kne kB4 (by decide))⟩ (by show ¬ _; omega) (by show ¬ _; omega) (fun p hp => by show ¬ _; omega)
                    have hFfG199 : FPa P G199 f := (hFfG196).wx hXG199 hfG199 ⟨KX.al (KX.trans (KX.trans hXG11 hXG32) hXG196) (kne kf3 (by decide)), KX.al (KX.trans (KX.trans hXG11 hXG32) hXG196) (kne kf4 (by decide))⟩ (by show ¬ _; omega) (by show ¬ _; omega) (fun p hp => by show ¬ _; omega)
                    show WP kX2_linkBoth X 261 [some (2, ((327682 : Nat) : Int)), some (0, k), some (2, ((A : Nat) : Int)), some (2, ((B : Nat) : Int)), some (2, ((f : Nat) : Int)), some (0, rr12), some (0, rr33), some (2, ((A : Nat) : Int)), some (2, ((B : Nat) : Int))] [] G199
                    refine s_iconst dX2_linkBoth_261 (by decide) ?_
                    exact s_iret hR dX2_linkBoth_262 rfl (hQ 0 G199 hCG199 (KX.trans (KX.trans (KX.trans hXG11 hXG32) hXG196) hXG199) hFG199 hFfG199)
                  · -- 214 to 217
                    refine s_aload dX2_linkBoth_217 rfl (Int.natCast_nonneg _) ?_
                    refine s_iload_n dX2_linkBoth_219 rfl ?_
                    refine s_callV (as := [(0, k)]) (rest := []) (n := B) (ci := 1) gX0_isGhost dX2_linkBoth_220 m_1323 m_741 m_1474 m_711 m_68 ⟨by decide, by decide, show (parseMethodDescriptor yX0_isGhost.desc).map (fun d => d.parameters.length) = some 1 from by decide +kernel⟩ (Nat.le_of_ble_eq_true rfl) (by rw [hcf]; exact Nat.le_of_ble_eq_true rfl) hk181 rfl rfl (Nat.le_of_ble_eq_true rfl) ⟨B, k, a, b, rfl, hCG32, hab, (by first | assumption | omega), (by first | assumption | omega), fun rr202 hp203 => ?_⟩
                    show WP kX2_linkBoth X 223 [some (2, ((327682 : Nat) : Int)), some (0, k), some (2, ((A : Nat) : Int)), some (2, ((B : Nat) : Int)), some (2, ((f : Nat) : Int)), some (0, rr12), some (0, rr33), some (2, ((A : Nat) : Int)), some (2, ((B : Nat) : Int))] [(0, rr202)] G32
                    refine s_if_ne (tgt := 233) dX2_linkBoth_223 (by decide) (fun c204 => ?_) (fun c204 => ?_)
                    · -- 223 to 233
                      refine s_aload dX2_linkBoth_233 rfl (Int.natCast_nonneg _) ?_
                      refine s_iload_n dX2_linkBoth_235 rfl ?_
                      refine s_aload dX2_linkBoth_236 rfl (Int.natCast_nonneg _) ?_
                      refine s_alv (A) (by simp) (fun al205 => ?_)
                      have hv206 : gS G32 A 2 = ((A + 2 : Nat) : Int) := by have h9 : (gS G32 A 2) = (((A % 1048576) + 2 : Nat) : Int) := hCG32.1.v (j := 2) (by rw [cde_n (by omega) (by omega)]; omega : cde A = 101) al205 (by rw [hk41]; exact Nat.le_of_ble_eq_true rfl); omega
                      refine s_getf (ci := 1) (k := 2) (C := RX0) (T := TX0) (N := 7) (n := A) (L := 0) (t := 2) dX2_linkBoth_238 rfl wi_65 m_576 (Nat.le_of_ble_eq_true rfl) rfl rfl hk41 hv206 ?_
                      refine s_iload_n dX2_linkBoth_241 rfl ?_
                      have hk207 : gK G32 (A + 2) = (1, 10) := ((hXG32).k ((hXG11).k kA2 (by decide)) (by decide))
                      refine s_iald dX2_linkBoth_242 hk207 (by omega) (by omega) rfl ?_
                      refine s_aload_n dX2_linkBoth_243 rfl (Int.natCast_nonneg _) ?_
                      have hv208 : gS G32 327682 6 = ((327691 : Nat) : Int) := by have h9 : (gS G32 327682 6) = 327691 := hCG32.1.v (j := 6) (by decide : cde 327682 = 502) al44 (by rw [hk43]; exact Nat.le_of_ble_eq_true rfl); omega
                      refine s_getf (ci := 3) (k := 6) (C := RX2) (T := TX2) (N := 8) (n := 327682) (L := 0) (t := 2) dX2_linkBoth_244 rfl wi_70 m_582 (Nat.le_of_ble_eq_true rfl) rfl rfl hk43 hv208 ?_
                      refine s_iload dX2_linkBoth_247 rfl ?_
                      have hk211 : gK G32 (f) = (9, 0) := ((hXG32).k ((hXG11).k kf0 (by decide)) (by decide))
                      refine s_callV (as := [(0, k), (0, gS G32 (A + 2) ((k : Int).toNat)), (2, ((327691 : Nat) : Int)), (0, rr12)]) (rest := []) (n := f) (ci := 1) gX0_putValue dX2_linkBoth_249 m_1320 m_750 m_1483 m_711 m_77 ⟨by decide, by decide, show (parseMethodDescriptor yX0_putValue.desc).map (fun d => d.parameters.length) = some 4 from by decide +kernel⟩ (Nat.le_of_ble_eq_true rfl) (by rw [hcf]; exact Nat.le_of_ble_eq_true rfl) hk211 rfl rfl (Nat.le_of_ble_eq_true rfl) ⟨f, k, gS G32 (A + 2) ((k : Int).toNat), 327691, 200, rr12, a, b, rfl, hCG32, hab, (by first | assumption | omega), (by first | assumption | omega), hk47, (by first | assumption | omega), (by first | assumption | omega), (by first | assumption | omega), fun G209 hCG209 hXG209 hfG209 hpG209 => ?_⟩
                      have hFG209 : WX (fun x => x = 327691 ∨ x = 327692 ∨ (f + 1 ≤ x ∧ x ≤ f + 22)) G G209 := WX.trans hFG32 (KX.trans hXG11 hXG32) (WX.mono hfG209 (fun x hx => by omega))
                      have hFIG209 : ∀ k : Nat, k < 6 → FIP P G209 262144 k := fun k hk => FIP.sm (hFIG32 k hk) hXG209 hfG209 (by show ¬ _; omega) (congrFun (hfG209 262149 (KX.al (KX.trans hXG11 hXG32) (kne k262149 (by decide))) (by show ¬ _; omega)) k)
                      have hFAG209 : FPa P G209 A := (hFAG32).wx hXG209 hfG209 ⟨KX.al (KX.trans hXG11 hXG32) (kne kA3 (by decide)), KX.al (KX.trans hXG11 hXG32) (kne kA4 (by decide))⟩ (by show ¬ _; omega) (by show ¬ _; omega) (fun p hp => by show ¬ _; omega)
                      have hFBG209 : FPa P G209 B := (hFBG32).wx hXG209 hfG209 ⟨KX.al (KX.trans hXG11 hXG32) (kne kB3 (by decide)), KX.al (KX.trans hXG11 hXG32) (kne kB4 (by decide))⟩ (by show ¬ _; omega) (by show ¬ _; omega) (fun p hp => by show ¬ _; omega)
                      have hFfG209 : FPa P G209 f := FPa.put hpG209.1 hFfG32 (fun _ _ => (hpG11.2 P ((hFA (6 + k : Int).toNat (by omega)).rps hv4 rfl) hFI (by omega)).wx hXG32 hfG32 (by show ¬ _; omega)) hXG209 hfG209 (fun p hp hn => by show ¬ _; omega)
                      show WP kX2_linkBoth X 252 [some (2, ((327682 : Nat) : Int)), some (0, k), some (2, ((A : Nat) : Int)), some (2, ((B : Nat) : Int)), some (2, ((f : Nat) : Int)), some (0, rr12), some (0, rr33), some (2, ((A : Nat) : Int)), some (2, ((B : Nat) : Int))] [] G209
                      refine s_aload dX2_linkBoth_252 rfl (Int.natCast_nonneg _) ?_
                      refine s_iload_n dX2_linkBoth_254 rfl ?_
                      refine s_aload dX2_linkBoth_255 rfl (Int.natCast_nonneg _) ?_
                      refine s_iload_n dX2_linkBoth_257 rfl ?_
                      have hk214 : gK G209 (f) = (9, 0) := ((hXG209).k hk211 (by decide))
                      refine s_callV (as := [(0, k), (2, ((A : Nat) : Int)), (0, k)]) (rest := []) (n := f) (ci := 1) gX0_putNumberOf dX2_linkBoth_258 m_1321 m_745 m_1478 m_711 m_72 ⟨by decide, by decide, show (parseMethodDescriptor yX0_putNumberOf.desc).map (fun d => d.parameters.length) = some 3 from by decide +kernel⟩ (Nat.le_of_ble_eq_true rfl) (by rw [hcf]; exact Nat.le_of_ble_eq_true rfl) hk214 rfl rfl (Nat.le_of_ble_eq_true rfl) ⟨f, k, A, k, a, b, rfl, hCG209, hab, (by first | assumption | omega), (by first | assumption | omega), (by first | assumption | omega), (by first | assumption | omega), fun G212 hCG212 hXG212 hfG212 hpG212 => ?_⟩
                      have hFG212 : WX (fun x => x = 327691 ∨ x = 327692 ∨ (f + 1 ≤ x ∧ x ≤ f + 22)) G G212 := WX.trans hFG209 (KX.trans (KX.trans hXG11 hXG32) hXG209) (WX.mono hfG212 (fun x hx => by omega))
                      have hFIG212 : ∀ k : Nat, k < 6 → FIP P G212 262144 k := fun k hk => FIP.sm (hFIG209 k hk) hXG212 hfG212 (by show ¬ _; omega) (congrFun (hfG212 262149 (KX.al (KX.trans (KX.trans hXG11 hXG32) hXG209) (kne k262149 (by decide))) (by show ¬ _; omega)) k)
                      have hFAG212 : FPa P G212 A := (hFAG209).wx hXG212 hfG212 ⟨KX.al (KX.trans (KX.trans hXG11 hXG32) hXG209) (kne kA3 (by decide)), KX.al (KX.trans (KX.trans hXG11 hXG32) hXG209) (kne kA4 (by decide))⟩ (by show ¬ _; omega) (by show ¬ _; omega) (fun p hp => by show ¬ _; omega)
                      have hFBG212 : FPa P G212 B := (hFBG209).wx hXG212 hfG212 ⟨KX.al (KX.trans (KX.trans hXG11 hXG32) hXG209) (kne kB3 (by decide)), KX.al (KX.trans (KX.trans hXG11 hXG32) hXG209) (kne kB4 (by decide))⟩ (by show ¬ _; omega) (by show ¬ _; omega) (fun p hp => by show ¬ _; omega)
                      have hFfG212 : FPa P G212 f := (hFfG209).wx hXG212 hfG212 ⟨KX.al (KX.trans (KX.trans hXG11 hXG32) hXG209) (kne kf3 (by decide)), KX.al (KX.trans (KX.trans hXG11 hXG32) hXG209) (kne kf4 (by decide))⟩ (by show ¬ _; omega) (by show ¬ _; omega) (fun p hp => by show ¬ _; omega)
                      show WP kX2_linkBoth X 261 [some (2, ((327682 : Nat) : Int)), some (0, k), some (2, ((A : Nat) : Int)), some (2, ((B : Nat) : Int)), some (2, ((f : Nat) : Int)), some (0, rr12), some (0, rr33), some (2, ((A : Nat) : Int)), some (2, ((B : Nat) : Int))] [] G212
                      refine s_iconst dX2_linkBoth_261 (by decide) ?_
                      exact s_iret hR dX2_linkBoth_262 rfl (hQ 0 G212 hCG212 (KX.trans (KX.trans (KX.trans hXG11 hXG32) hXG209) hXG212) hFG212 hFfG212)
                    · -- 223 to 226
                      refine s_bipush dX2_linkBoth_226 rfl (by decide) ?_
                      refine s_iload_n dX2_linkBoth_228 rfl ?_
                      refine s_callSN (own := RX2) rfl (by decide +kernel) (as := [(0, 6), (0, k)]) (rest := []) gX11_valueMistake dX2_linkBoth_229 m_1784 m_714 m_129 ⟨by decide, by decide, show (parseMethodDescriptor yX11_valueMistake.desc).map (fun d => d.parameters.length) = some 2 from by decide +kernel⟩ (Nat.le_of_ble_eq_true rfl) (by rw [hcf]; exact Nat.le_of_ble_eq_true rfl) rfl (Nat.le_of_ble_eq_true rfl) ⟨6, k, rfl, (by first | assumption | omega), (by first | assumption | omega), fun rr215 hp216 => ?_⟩
                      show WP kX2_linkBoth X 232 [some (2, ((327682 : Nat) : Int)), some (0, k), some (2, ((A : Nat) : Int)), some (2, ((B : Nat) : Int)), some (2, ((f : Nat) : Int)), some (0, rr12), some (0, rr33), some (2, ((A : Nat) : Int)), some (2, ((B : Nat) : Int))] [(0, rr215)] G32
                      exact s_iret hR dX2_linkBoth_232 rfl (hQ rr215 G32 hCG32 (KX.trans hXG11 hXG32) hFG32 hFfG32)
                · -- 198 to 201
                  refine s_aload_n dX2_linkBoth_201 rfl (Int.natCast_nonneg _) ?_
                  refine s_goto (tgt := 206) dX2_linkBoth_202 (by decide) ?_
                  refine s_astore (Int.natCast_nonneg _) dX2_linkBoth_206 (by decide) (lv' := [some (2, ((327682 : Nat) : Int)), some (0, k), some (2, ((A : Nat) : Int)), some (2, ((B : Nat) : Int)), some (2, ((f : Nat) : Int)), some (0, rr12), some (0, rr33), some (2, ((A : Nat) : Int)), some (2, ((A : Nat) : Int))]) rfl ?_
                  refine s_aload dX2_linkBoth_208 rfl (Int.natCast_nonneg _) ?_
                  refine s_iload_n dX2_linkBoth_210 rfl ?_
                  refine s_callV (as := [(0, k)]) (rest := []) (n := A) (ci := 1) gX0_isGhost dX2_linkBoth_211 m_1323 m_741 m_1474 m_711 m_68 ⟨by decide, by decide, show (parseMethodDescriptor yX0_isGhost.desc).map (fun d => d.parameters.length) = some 1 from by decide +kernel⟩ (Nat.le_of_ble_eq_true rfl) (by rw [hcf]; exact Nat.le_of_ble_eq_true rfl) hk41 rfl rfl (Nat.le_of_ble_eq_true rfl) ⟨A, k, a, b, rfl, hCG32, hab, (by first | assumption | omega), (by first | assumption | omega), fun rr217 hp218 => ?_⟩
                  show WP kX2_linkBoth X 214 [some (2, ((327682 : Nat) : Int)), some (0, k), some (2, ((A : Nat) : Int)), some (2, ((B : Nat) : Int)), some (2, ((f : Nat) : Int)), some (0, rr12), some (0, rr33), some (2, ((A : Nat) : Int)), some (2, ((A : Nat) : Int))] [(0, rr217)] G32
                  refine s_if_eq (tgt := 233) dX2_linkBoth_214 (by decide) (fun c219 => ?_) (fun c219 => ?_)
                  · -- 214 to 233
                    refine s_aload dX2_linkBoth_233 rfl (Int.natCast_nonneg _) ?_
                    refine s_iload_n dX2_linkBoth_235 rfl ?_
                    refine s_aload dX2_linkBoth_236 rfl (Int.natCast_nonneg _) ?_
                    refine s_alv (A) (by simp) (fun al220 => ?_)
                    have hv221 : gS G32 A 2 = ((A + 2 : Nat) : Int) := by have h9 : (gS G32 A 2) = (((A % 1048576) + 2 : Nat) : Int) := hCG32.1.v (j := 2) (by rw [cde_n (by omega) (by omega)]; omega : cde A = 101) al220 (by rw [hk41]; exact Nat.le_of_ble_eq_true rfl); omega
                    refine s_getf (ci := 1) (k := 2) (C := RX0) (T := TX0) (N := 7) (n := A) (L := 0) (t := 2) dX2_linkBoth_238 rfl wi_65 m_576 (Nat.le_of_ble_eq_true rfl) rfl rfl hk41 hv221 ?_
                    refine s_iload_n dX2_linkBoth_241 rfl ?_
                    have hk222 : gK G32 (A + 2) = (1, 10) := ((hXG32).k ((hXG11).k kA2 (by decide)) (by decide))
                    refine s_iald dX2_linkBoth_242 hk222 (by omega) (by omega) rfl ?_
                    refine s_aload_n dX2_linkBoth_243 rfl (Int.natCast_nonneg _) ?_
                    have hv223 : gS G32 327682 6 = ((327691 : Nat) : Int) := by have h9 : (gS G32 327682 6) = 327691 := hCG32.1.v (j := 6) (by decide : cde 327682 = 502) al44 (by rw [hk43]; exact Nat.le_of_ble_eq_true rfl); omega
                    refine s_getf (ci := 3) (k := 6) (C := RX2) (T := TX2) (N := 8) (n := 327682) (L := 0) (t := 2) dX2_linkBoth_244 rfl wi_70 m_582 (Nat.le_of_ble_eq_true rfl) rfl rfl hk43 hv223 ?_
                    refine s_iload dX2_linkBoth_247 rfl ?_
                    have hk226 : gK G32 (f) = (9, 0) := ((hXG32).k ((hXG11).k kf0 (by decide)) (by decide))
                    refine s_callV (as := [(0, k), (0, gS G32 (A + 2) ((k : Int).toNat)), (2, ((327691 : Nat) : Int)), (0, rr12)]) (rest := []) (n := f) (ci := 1) gX0_putValue dX2_linkBoth_249 m_1320 m_750 m_1483 m_711 m_77 ⟨by decide, by decide, show (parseMethodDescriptor yX0_putValue.desc).map (fun d => d.parameters.length) = some 4 from by decide +kernel⟩ (Nat.le_of_ble_eq_true rfl) (by rw [hcf]; exact Nat.le_of_ble_eq_true rfl) hk226 rfl rfl (Nat.le_of_ble_eq_true rfl) ⟨f, k, gS G32 (A + 2) ((k : Int).toNat), 327691, 200, rr12, a, b, rfl, hCG32, hab, (by first | assumption | omega), (by first | assumption | omega), hk47, (by first | assumption | omega), (by first | assumption | omega), (by first | assumption | omega), fun G224 hCG224 hXG224 hfG224 hpG224 => ?_⟩
                    have hFG224 : WX (fun x => x = 327691 ∨ x = 327692 ∨ (f + 1 ≤ x ∧ x ≤ f + 22)) G G224 := WX.trans hFG32 (KX.trans hXG11 hXG32) (WX.mono hfG224 (fun x hx => by omega))
                    have hFIG224 : ∀ k : Nat, k < 6 → FIP P G224 262144 k := fun k hk => FIP.sm (hFIG32 k hk) hXG224 hfG224 (by show ¬ _; omega) (congrFun (hfG224 262149 (KX.al (KX.trans hXG11 hXG32) (kne k262149 (by decide))) (by show ¬ _; omega)) k)
                    have hFAG224 : FPa P G224 A := (hFAG32).wx hXG224 hfG224 ⟨KX.al (KX.trans hXG11 hXG32) (kne kA3 (by decide)), KX.al (KX.trans hXG11 hXG32) (kne kA4 (by decide))⟩ (by show ¬ _; omega) (by show ¬ _; omega) (fun p hp => by show ¬ _; omega)
                    have hFBG224 : FPa P G224 B := (hFBG32).wx hXG224 hfG224 ⟨KX.al (KX.trans hXG11 hXG32) (kne kB3 (by decide)), KX.al (KX.trans hXG11 hXG32) (kne kB4 (by decide))⟩ (by show ¬ _; omega) (by show ¬ _; omega) (fun p hp => by show ¬ _; omega)
                    have hFfG224 : FPa P G224 f := FPa.put hpG224.1 hFfG32 (fun _ _ => (hpG11.2 P ((hFA (6 + k : Int).toNat (by omega)).rps hv4 rfl) hFI (by omega)).wx hXG32 hfG32 (by show ¬ _; omega)) hXG224 hfG224 (fun p hp hn => by show ¬ _; omega)
                    show WP kX2_linkBoth X 252 [some (2, ((327682 : Nat) : Int)), some (0, k), some (2, ((A : Nat) : Int)), some (2, ((B : Nat) : Int)), some (2, ((f : Nat) : Int)), some (0, rr12), some (0, rr33), some (2, ((A : Nat) : Int)), some (2, ((A : Nat) : Int))] [] G224
                    refine s_aload dX2_linkBoth_252 rfl (Int.natCast_nonneg _) ?_
                    refine s_iload_n dX2_linkBoth_254 rfl ?_
                    refine s_aload dX2_linkBoth_255 rfl (Int.natCast_nonneg _) ?_
                    refine s_iload_n dX2_linkBoth_257 rfl ?_
                    have hk229 : gK G224 (f) = (9, 0) := ((hXG224).k hk226 (by decide))
                    refine s_callV (as := [(0, k), (2, ((A : Nat) : Int)), (0, k)]) (rest := []) (n := f) (ci := 1) gX0_putNumberOf dX2_linkBoth_258 m_1321 m_745 m_1478 m_711 m_72 ⟨by decide, by decide, show (parseMethodDescriptor yX0_putNumberOf.desc).map (fun d => d.parameters.length) = some 3 from by decide +kernel⟩ (Nat.le_of_ble_eq_true rfl) (by rw [hcf]; exact Nat.le_of_ble_eq_true rfl) hk229 rfl rfl (Nat.le_of_ble_eq_true rfl) ⟨f, k, A, k, a, b, rfl, hCG224, hab, (by first | assumption | omega), (by first | assumption | omega), (by first | assumption | omega), (by first | assumption | omega), fun G227 hCG227 hXG227 hfG227 hpG227 => ?_⟩
                    have hFG227 : WX (fun x => x = 327691 ∨ x = 327692 ∨ (f + 1 ≤ x ∧ x ≤ f + 22)) G G227 := WX.trans hFG224 (KX.trans (KX.trans hXG11 hXG32) hXG224) (WX.mono hfG227 (fun x hx => by omega))
                    have hFIG227 : ∀ k : Nat, k < 6 → FIP P G227 262144 k := fun k hk => FIP.sm (hFIG224 k hk) hXG227 hfG227 (by show ¬ _; omega) (congrFun (hfG227 262149 (KX.al (KX.trans (KX.trans hXG11 hXG32) hXG224) (kne k262149 (by decide))) (by show ¬ _; omega)) k)
                    have hFAG227 : FPa P G227 A := (hFAG224).wx hXG227 hfG227 ⟨KX.al (KX.trans (KX.trans hXG11 hXG32) hXG224) (kne kA3 (by decide)), KX.al (KX.trans (KX.trans hXG11 hXG32) hXG224) (kne kA4 (by decide))⟩ (by show ¬ _; omega) (by show ¬ _; omega) (fun p hp => by show ¬ _; omega)
                    have hFBG227 : FPa P G227 B := (hFBG224).wx hXG227 hfG227 ⟨KX.al (KX.trans (KX.trans hXG11 hXG32) hXG224) (kne kB3 (by decide)), KX.al (KX.trans (KX.trans hXG11 hXG32) hXG224) (kne kB4 (by decide))⟩ (by show ¬ _; omega) (by show ¬ _; omega) (fun p hp => by show ¬ _; omega)
                    have hFfG227 : FPa P G227 f := (hFfG224).wx hXG227 hfG227 ⟨KX.al (KX.trans (KX.trans hXG11 hXG32) hXG224) (kne kf3 (by decide)), KX.al (KX.trans (KX.trans hXG11 hXG32) hXG224) (kne kf4 (by decide))⟩ (by show ¬ _; omega) (by show ¬ _; omega) (fun p hp => by show ¬ _; omega)
                    show WP kX2_linkBoth X 261 [some (2, ((327682 : Nat) : Int)), some (0, k), some (2, ((A : Nat) : Int)), some (2, ((B : Nat) : Int)), some (2, ((f : Nat) : Int)), some (0, rr12), some (0, rr33), some (2, ((A : Nat) : Int)), some (2, ((A : Nat) : Int))] [] G227
                    refine s_iconst dX2_linkBoth_261 (by decide) ?_
                    exact s_iret hR dX2_linkBoth_262 rfl (hQ 0 G227 hCG227 (KX.trans (KX.trans (KX.trans hXG11 hXG32) hXG224) hXG227) hFG227 hFfG227)
                  · -- 214 to 217
                    refine s_aload dX2_linkBoth_217 rfl (Int.natCast_nonneg _) ?_
                    refine s_iload_n dX2_linkBoth_219 rfl ?_
                    refine s_callV (as := [(0, k)]) (rest := []) (n := A) (ci := 1) gX0_isGhost dX2_linkBoth_220 m_1323 m_741 m_1474 m_711 m_68 ⟨by decide, by decide, show (parseMethodDescriptor yX0_isGhost.desc).map (fun d => d.parameters.length) = some 1 from by decide +kernel⟩ (Nat.le_of_ble_eq_true rfl) (by rw [hcf]; exact Nat.le_of_ble_eq_true rfl) hk41 rfl rfl (Nat.le_of_ble_eq_true rfl) ⟨A, k, a, b, rfl, hCG32, hab, (by first | assumption | omega), (by first | assumption | omega), fun rr230 hp231 => ?_⟩
                    show WP kX2_linkBoth X 223 [some (2, ((327682 : Nat) : Int)), some (0, k), some (2, ((A : Nat) : Int)), some (2, ((B : Nat) : Int)), some (2, ((f : Nat) : Int)), some (0, rr12), some (0, rr33), some (2, ((A : Nat) : Int)), some (2, ((A : Nat) : Int))] [(0, rr230)] G32
                    refine s_if_ne (tgt := 233) dX2_linkBoth_223 (by decide) (fun c232 => ?_) (fun c232 => ?_)
                    · -- 223 to 233
                      refine s_aload dX2_linkBoth_233 rfl (Int.natCast_nonneg _) ?_
                      refine s_iload_n dX2_linkBoth_235 rfl ?_
                      refine s_aload dX2_linkBoth_236 rfl (Int.natCast_nonneg _) ?_
                      refine s_alv (A) (by simp) (fun al233 => ?_)
                      have hv234 : gS G32 A 2 = ((A + 2 : Nat) : Int) := by have h9 : (gS G32 A 2) = (((A % 1048576) + 2 : Nat) : Int) := hCG32.1.v (j := 2) (by rw [cde_n (by omega) (by omega)]; omega : cde A = 101) al233 (by rw [hk41]; exact Nat.le_of_ble_eq_true rfl); omega
                      refine s_getf (ci := 1) (k := 2) (C := RX0) (T := TX0) (N := 7) (n := A) (L := 0) (t := 2) dX2_linkBoth_238 rfl wi_65 m_576 (Nat.le_of_ble_eq_true rfl) rfl rfl hk41 hv234 ?_
                      refine s_iload_n dX2_linkBoth_241 rfl ?_
                      have hk235 : gK G32 (A + 2) = (1, 10) := ((hXG32).k ((hXG11).k kA2 (by decide)) (by decide))
                      refine s_iald dX2_linkBoth_242 hk235 (by omega) (by omega) rfl ?_
                      refine s_aload_n dX2_linkBoth_243 rfl (Int.natCast_nonneg _) ?_
                      have hv236 : gS G32 327682 6 = ((327691 : Nat) : Int) := by have h9 : (gS G32 327682 6) = 327691 := hCG32.1.v (j := 6) (by decide : cde 327682 = 502) al44 (by rw [hk43]; exact Nat.le_of_ble_eq_true rfl); omega
                      refine s_getf (ci := 3) (k := 6) (C := RX2) (T := TX2) (N := 8) (n := 327682) (L := 0) (t := 2) dX2_linkBoth_244 rfl wi_70 m_582 (Nat.le_of_ble_eq_true rfl) rfl rfl hk43 hv236 ?_
                      refine s_iload dX2_linkBoth_247 rfl ?_
                      have hk239 : gK G32 (f) = (9, 0) := ((hXG32).k ((hXG11).k kf0 (by decide)) (by decide))
                      refine s_callV (as := [(0, k), (0, gS G32 (A + 2) ((k : Int).toNat)), (2, ((327691 : Nat) : Int)), (0, rr12)]) (rest := []) (n := f) (ci := 1) gX0_putValue dX2_linkBoth_249 m_1320 m_750 m_1483 m_711 m_77 ⟨by decide, by decide, show (parseMethodDescriptor yX0_putValue.desc).map (fun d => d.parameters.length) = some 4 from by decide +kernel⟩ (Nat.le_of_ble_eq_true rfl) (by rw [hcf]; exact Nat.le_of_ble_eq_true rfl) hk239 rfl rfl (Nat.le_of_ble_eq_true rfl) ⟨f, k, gS G32 (A + 2) ((k : Int).toNat), 327691, 200, rr12, a, b, rfl, hCG32, hab, (by first | assumption | omega), (by first | assumption | omega), hk47, (by first | assumption | omega), (by first | assumption | omega), (by first | assumption | omega), fun G237 hCG237 hXG237 hfG237 hpG237 => ?_⟩
                      have hFG237 : WX (fun x => x = 327691 ∨ x = 327692 ∨ (f + 1 ≤ x ∧ x ≤ f + 22)) G G237 := WX.trans hFG32 (KX.trans hXG11 hXG32) (WX.mono hfG237 (fun x hx => by omega))
                      have hFIG237 : ∀ k : Nat, k < 6 → FIP P G237 262144 k := fun k hk => FIP.sm (hFIG32 k hk) hXG237 hfG237 (by show ¬ _; omega) (congrFun (hfG237 262149 (KX.al (KX.trans hXG11 hXG32) (kne k262149 (by decide))) (by show ¬ _; omega)) k)
                      have hFAG237 : FPa P G237 A := (hFAG32).wx hXG237 hfG237 ⟨KX.al (KX.trans hXG11 hXG32) (kne kA3 (by decide)), KX.al (KX.trans hXG11 hXG32) (kne kA4 (by decide))⟩ (by show ¬ _; omega) (by show ¬ _; omega) (fun p hp => by show ¬ _; omega)
                      have hFBG237 : FPa P G237 B := (hFBG32).wx hXG237 hfG237 ⟨KX.al (KX.trans hXG11 hXG32) (kne kB3 (by decide)), KX.al (KX.trans hXG11 hXG32) (kne kB4 (by decide))⟩ (by show ¬ _; omega) (by show ¬ _; omega) (fun p hp => by show ¬ _; omega)
                      have hFfG237 : FPa P G237 f := FPa.put hpG237.1 hFfG32 (fun _ _ => (hpG11.2 P ((hFA (6 + k : Int).toNat (by omega)).rps hv4 rfl) hFI (by omega)).wx hXG32 hfG32 (by show ¬ _; omega)) hXG237 hfG237 (fun p hp hn => by show ¬ _; omega)
                      show WP kX2_linkBoth X 252 [some (2, ((327682 : Nat) : Int)), some (0, k), some (2, ((A : Nat) : Int)), some (2, ((B : Nat) : Int)), some (2, ((f : Nat) : Int)), some (0, rr12), some (0, rr33), some (2, ((A : Nat) : Int)), some (2, ((A : Nat) : Int))] [] G237
                      refine s_aload dX2_linkBoth_252 rfl (Int.natCast_nonneg _) ?_
                      refine s_iload_n dX2_linkBoth_254 rfl ?_
                      refine s_aload dX2_linkBoth_255 rfl (Int.natCast_nonneg _) ?_
                      refine s_iload_n dX2_linkBoth_257 rfl ?_
                      have hk242 : gK G237 (f) = (9, 0) := ((hXG237).k hk239 (by decide))
                      refine s_callV (as := [(0, k), (2, ((A : Nat) : Int)), (0, k)]) (rest := []) (n := f) (ci := 1) gX0_putNumberOf dX2_linkBoth_258 m_1321 m_745 m_1478 m_711 m_72 ⟨by decide, by decide, show (parseMethodDescriptor yX0_putNumberOf.desc).map (fun d => d.parameters.length) = some 3 from by decide +kernel⟩ (Nat.le_of_ble_eq_true rfl) (by rw [hcf]; exact Nat.le_of_ble_eq_true rfl) hk242 rfl rfl (Nat.le_of_ble_eq_true rfl) ⟨f, k, A, k, a, b, rfl, hCG237, hab, (by first | assumption | omega), (by first | assumption | omega), (by first | assumption | omega), (by first | assumption | omega), fun G240 hCG240 hXG240 hfG240 hpG240 => ?_⟩
                      have hFG240 : WX (fun x => x = 327691 ∨ x = 327692 ∨ (f + 1 ≤ x ∧ x ≤ f + 22)) G G240 := WX.trans hFG237 (KX.trans (KX.trans hXG11 hXG32) hXG237) (WX.mono hfG240 (fun x hx => by omega))
                      have hFIG240 : ∀ k : Nat, k < 6 → FIP P G240 262144 k := fun k hk => FIP.sm (hFIG237 k hk) hXG240 hfG240 (by show ¬ _; omega) (congrFun (hfG240 262149 (KX.al (KX.trans (KX.trans hXG11 hXG32) hXG237) (kne k262149 (by decide))) (by show ¬ _; omega)) k)
                      have hFAG240 : FPa P G240 A := (hFAG237).wx hXG240 hfG240 ⟨KX.al (KX.trans (KX.trans hXG11 hXG32) hXG237) (kne kA3 (by decide)), KX.al (KX.trans (KX.trans hXG11 hXG32) hXG237) (kne kA4 (by decide))⟩ (by show ¬ _; omega) (by show ¬ _; omega) (fun p hp => by show ¬ _; omega)
                      have hFBG240 : FPa P G240 B := (hFBG237).wx hXG240 hfG240 ⟨KX.al (KX.trans (KX.trans hXG11 hXG32) hXG237) (kne kB3 (by decide)), KX.al (KX.trans (KX.trans hXG11 hXG32) hXG237) (kne kB4 (by decide))⟩ (by show ¬ _; omega) (by show ¬ _; omega) (fun p hp => by show ¬ _; omega)
                      have hFfG240 : FPa P G240 f := (hFfG237).wx hXG240 hfG240 ⟨KX.al (KX.trans (KX.trans hXG11 hXG32) hXG237) (kne kf3 (by decide)), KX.al (KX.trans (KX.trans hXG11 hXG32) hXG237) (kne kf4 (by decide))⟩ (by show ¬ _; omega) (by show ¬ _; omega) (fun p hp => by show ¬ _; omega)
                      show WP kX2_linkBoth X 261 [some (2, ((327682 : Nat) : Int)), some (0, k), some (2, ((A : Nat) : Int)), some (2, ((B : Nat) : Int)), some (2, ((f : Nat) : Int)), some (0, rr12), some (0, rr33), some (2, ((A : Nat) : Int)), some (2, ((A : Nat) : Int))] [] G240
                      refine s_iconst dX2_linkBoth_261 (by decide) ?_
                      exact s_iret hR dX2_linkBoth_262 rfl (hQ 0 G240 hCG240 (KX.trans (KX.trans (KX.trans hXG11 hXG32) hXG237) hXG240) hFG240 hFfG240)
                    · -- 223 to 226
                      refine s_bipush dX2_linkBoth_226 rfl (by decide) ?_
                      refine s_iload_n dX2_linkBoth_228 rfl ?_
                      refine s_callSN (own := RX2) rfl (by decide +kernel) (as := [(0, 6), (0, k)]) (rest := []) gX11_valueMistake dX2_linkBoth_229 m_1784 m_714 m_129 ⟨by decide, by decide, show (parseMethodDescriptor yX11_valueMistake.desc).map (fun d => d.parameters.length) = some 2 from by decide +kernel⟩ (Nat.le_of_ble_eq_true rfl) (by rw [hcf]; exact Nat.le_of_ble_eq_true rfl) rfl (Nat.le_of_ble_eq_true rfl) ⟨6, k, rfl, (by first | assumption | omega), (by first | assumption | omega), fun rr243 hp244 => ?_⟩
                      show WP kX2_linkBoth X 232 [some (2, ((327682 : Nat) : Int)), some (0, k), some (2, ((A : Nat) : Int)), some (2, ((B : Nat) : Int)), some (2, ((f : Nat) : Int)), some (0, rr12), some (0, rr33), some (2, ((A : Nat) : Int)), some (2, ((A : Nat) : Int))] [(0, rr243)] G32
                      exact s_iret hR dX2_linkBoth_232 rfl (hQ rr243 G32 hCG32 (KX.trans hXG11 hXG32) hFG32 hFfG32)
              · -- 183 to 186
                refine s_aload_n dX2_linkBoth_186 rfl (Int.natCast_nonneg _) ?_
                refine s_goto (tgt := 191) dX2_linkBoth_187 (by decide) ?_
                refine s_astore (Int.natCast_nonneg _) dX2_linkBoth_191 (by decide) (lv' := [some (2, ((327682 : Nat) : Int)), some (0, k), some (2, ((A : Nat) : Int)), some (2, ((B : Nat) : Int)), some (2, ((f : Nat) : Int)), some (0, rr12), some (0, rr33), some (2, ((B : Nat) : Int)), none]) rfl ?_
                refine s_aload_n dX2_linkBoth_193 rfl (Int.natCast_nonneg _) ?_
                refine s_iload_n dX2_linkBoth_194 rfl ?_
                refine s_callV (as := [(0, k)]) (rest := []) (n := A) (ci := 1) gX0_isValueHole dX2_linkBoth_195 m_1322 m_743 m_1476 m_711 m_70 ⟨by decide, by decide, show (parseMethodDescriptor yX0_isValueHole.desc).map (fun d => d.parameters.length) = some 1 from by decide +kernel⟩ (Nat.le_of_ble_eq_true rfl) (by rw [hcf]; exact Nat.le_of_ble_eq_true rfl) hk41 rfl rfl (Nat.le_of_ble_eq_true rfl) ⟨A, k, a, b, rfl, hCG32, hab, (by first | assumption | omega), (by first | assumption | omega), fun rr245 hp246 => ?_⟩
                show WP kX2_linkBoth X 198 [some (2, ((327682 : Nat) : Int)), some (0, k), some (2, ((A : Nat) : Int)), some (2, ((B : Nat) : Int)), some (2, ((f : Nat) : Int)), some (0, rr12), some (0, rr33), some (2, ((B : Nat) : Int)), none] [(0, rr245)] G32
                refine s_if_eq (tgt := 205) dX2_linkBoth_198 (by decide) (fun c247 => ?_) (fun c247 => ?_)
                · -- 198 to 205
                  refine s_aload_n dX2_linkBoth_205 rfl (Int.natCast_nonneg _) ?_
                  refine s_astore (Int.natCast_nonneg _) dX2_linkBoth_206 (by decide) (lv' := [some (2, ((327682 : Nat) : Int)), some (0, k), some (2, ((A : Nat) : Int)), some (2, ((B : Nat) : Int)), some (2, ((f : Nat) : Int)), some (0, rr12), some (0, rr33), some (2, ((B : Nat) : Int)), some (2, ((B : Nat) : Int))]) rfl ?_
                  refine s_aload dX2_linkBoth_208 rfl (Int.natCast_nonneg _) ?_
                  refine s_iload_n dX2_linkBoth_210 rfl ?_
                  refine s_callV (as := [(0, k)]) (rest := []) (n := B) (ci := 1) gX0_isGhost dX2_linkBoth_211 m_1323 m_741 m_1474 m_711 m_68 ⟨by decide, by decide, show (parseMethodDescriptor yX0_isGhost.desc).map (fun d => d.parameters.length) = some 1 from by decide +kernel⟩ (Nat.le_of_ble_eq_true rfl) (by rw [hcf]; exact Nat.le_of_ble_eq_true rfl) hk181 rfl rfl (Nat.le_of_ble_eq_true rfl) ⟨B, k, a, b, rfl, hCG32, hab, (by first | assumption | omega), (by first | assumption | omega), fun rr248 hp249 => ?_⟩
                  show WP kX2_linkBoth X 214 [some (2, ((327682 : Nat) : Int)), some (0, k), some (2, ((A : Nat) : Int)), some (2, ((B : Nat) : Int)), some (2, ((f : Nat) : Int)), some (0, rr12), some (0, rr33), some (2, ((B : Nat) : Int)), some (2, ((B : Nat) : Int))] [(0, rr248)] G32
                  refine s_if_eq (tgt := 233) dX2_linkBoth_214 (by decide) (fun c250 => ?_) (fun c250 => ?_)
                  · -- 214 to 233
                    refine s_aload dX2_linkBoth_233 rfl (Int.natCast_nonneg _) ?_
                    refine s_iload_n dX2_linkBoth_235 rfl ?_
                    refine s_aload dX2_linkBoth_236 rfl (Int.natCast_nonneg _) ?_
                    refine s_alv (B) (by simp) (fun al251 => ?_)
                    have hv252 : gS G32 B 2 = ((B + 2 : Nat) : Int) := by have h9 : (gS G32 B 2) = (((B % 1048576) + 2 : Nat) : Int) := hCG32.1.v (j := 2) (by rw [cde_n (by omega) (by omega)]; omega : cde B = 101) al251 (by rw [hk181]; exact Nat.le_of_ble_eq_true rfl); omega
                    refine s_getf (ci := 1) (k := 2) (C := RX0) (T := TX0) (N := 7) (n := B) (L := 0) (t := 2) dX2_linkBoth_238 rfl wi_65 m_576 (Nat.le_of_ble_eq_true rfl) rfl rfl hk181 hv252 ?_
                    refine s_iload_n dX2_linkBoth_241 rfl ?_
                    have hk253 : gK G32 (B + 2) = (1, 10) := ((hXG32).k ((hXG11).k kB2 (by decide)) (by decide))
                    refine s_iald dX2_linkBoth_242 hk253 (by omega) (by omega) rfl ?_
                    refine s_aload_n dX2_linkBoth_243 rfl (Int.natCast_nonneg _) ?_
                    have hv254 : gS G32 327682 6 = ((327691 : Nat) : Int) := by have h9 : (gS G32 327682 6) = 327691 := hCG32.1.v (j := 6) (by decide : cde 327682 = 502) al44 (by rw [hk43]; exact Nat.le_of_ble_eq_true rfl); omega
                    refine s_getf (ci := 3) (k := 6) (C := RX2) (T := TX2) (N := 8) (n := 327682) (L := 0) (t := 2) dX2_linkBoth_244 rfl wi_70 m_582 (Nat.le_of_ble_eq_true rfl) rfl rfl hk43 hv254 ?_
                    refine s_iload dX2_linkBoth_247 rfl ?_
                    have hk257 : gK G32 (f) = (9, 0) := ((hXG32).k ((hXG11).k kf0 (by decide)) (by decide))
                    refine s_callV (as := [(0, k), (0, gS G32 (B + 2) ((k : Int).toNat)), (2, ((327691 : Nat) : Int)), (0, rr12)]) (rest := []) (n := f) (ci := 1) gX0_putValue dX2_linkBoth_249 m_1320 m_750 m_1483 m_711 m_77 ⟨by decide, by decide, show (parseMethodDescriptor yX0_putValue.desc).map (fun d => d.parameters.length) = some 4 from by decide +kernel⟩ (Nat.le_of_ble_eq_true rfl) (by rw [hcf]; exact Nat.le_of_ble_eq_true rfl) hk257 rfl rfl (Nat.le_of_ble_eq_true rfl) ⟨f, k, gS G32 (B + 2) ((k : Int).toNat), 327691, 200, rr12, a, b, rfl, hCG32, hab, (by first | assumption | omega), (by first | assumption | omega), hk47, (by first | assumption | omega), (by first | assumption | omega), (by first | assumption | omega), fun G255 hCG255 hXG255 hfG255 hpG255 => ?_⟩
                    have hFG255 : WX (fun x => x = 327691 ∨ x = 327692 ∨ (f + 1 ≤ x ∧ x ≤ f + 22)) G G255 := WX.trans hFG32 (KX.trans hXG11 hXG32) (WX.mono hfG255 (fun x hx => by omega))
                    have hFIG255 : ∀ k : Nat, k < 6 → FIP P G255 262144 k := fun k hk => FIP.sm (hFIG32 k hk) hXG255 hfG255 (by show ¬ _; omega) (congrFun (hfG255 262149 (KX.al (KX.trans hXG11 hXG32) (kne k262149 (by decide))) (by show ¬ _; omega)) k)
                    have hFAG255 : FPa P G255 A := (hFAG32).wx hXG255 hfG255 ⟨KX.al (KX.trans hXG11 hXG32) (kne kA3 (by decide)), KX.al (KX.trans hXG11 hXG32) (kne kA4 (by decide))⟩ (by show ¬ _; omega) (by show ¬ _; omega) (fun p hp => by show ¬ _; omega)
                    have hFBG255 : FPa P G255 B := (hFBG32).wx hXG255 hfG255 ⟨KX.al (KX.trans hXG11 hXG32) (kne kB3 (by decide)), KX.al (KX.trans hXG11 hXG32) (kne kB4 (by decide))⟩ (by show ¬ _; omega) (by show ¬ _; omega) (fun p hp => by show ¬ _; omega)
                    have hFfG255 : FPa P G255 f := FPa.put hpG255.1 hFfG32 (fun _ _ => (hpG11.2 P ((hFA (6 + k : Int).toNat (by omega)).rps hv4 rfl) hFI (by omega)).wx hXG32 hfG32 (by show ¬ _; omega)) hXG255 hfG255 (fun p hp hn => by show ¬ _; omega)
                    show WP kX2_linkBoth X 252 [some (2, ((327682 : Nat) : Int)), some (0, k), some (2, ((A : Nat) : Int)), some (2, ((B : Nat) : Int)), some (2, ((f : Nat) : Int)), some (0, rr12), some (0, rr33), some (2, ((B : Nat) : Int)), some (2, ((B : Nat) : Int))] [] G255
                    refine s_aload dX2_linkBoth_252 rfl (Int.natCast_nonneg _) ?_
                    refine s_iload_n dX2_linkBoth_254 rfl ?_
                    refine s_aload dX2_linkBoth_255 rfl (Int.natCast_nonneg _) ?_
                    refine s_iload_n dX2_linkBoth_257 rfl ?_
                    have hk260 : gK G255 (f) = (9, 0) := ((hXG255).k hk257 (by decide))
                    refine s_callV (as := [(0, k), (2, ((B : Nat) : Int)), (0, k)]) (rest := []) (n := f) (ci := 1) gX0_putNumberOf dX2_linkBoth_258 m_1321 m_745 m_1478 m_711 m_72 ⟨by decide, by decide, show (parseMethodDescriptor yX0_putNumberOf.desc).map (fun d => d.parameters.length) = some 3 from by decide +kernel⟩ (Nat.le_of_ble_eq_true rfl) (by rw [hcf]; exact Nat.le_of_ble_eq_true rfl) hk260 rfl rfl (Nat.le_of_ble_eq_true rfl) ⟨f, k, B, k, a, b, rfl, hCG255, hab, (by first | assumption | omega), (by first | assumption | omega), (by first | assumption | omega), (by first | assumption | omega), fun G258 hCG258 hXG258 hfG258 hpG258 => ?_⟩
                    have hFG258 : WX (fun x => x = 327691 ∨ x = 327692 ∨ (f + 1 ≤ x ∧ x ≤ f + 22)) G G258 := WX.trans hFG255 (KX.trans (KX.trans hXG11 hXG32) hXG255) (WX.mono hfG258 (fun x hx => by omega))
                    have hFIG258 : ∀ k : Nat, k < 6 → FIP P G258 262144 k := fun k hk => FIP.sm (hFIG255 k hk) hXG258 hfG258 (by show ¬ _; omega) (congrFun (hfG258 262149 (KX.al (KX.trans (KX.trans hXG11 hXG32) hXG255) (kne k262149 (by decide))) (by show ¬ _; omega)) k)
                    have hFAG258 : FPa P G258 A := (hFAG255).wx hXG258 hfG258 ⟨KX.al (KX.trans (KX.trans hXG11 hXG32) hXG255) (kne kA3 (by decide)), KX.al (KX.trans (KX.trans hXG11 hXG32) hXG255) (kne kA4 (by decide))⟩ (by show ¬ _; omega) (by show ¬ _; omega) (fun p hp => by show ¬ _; omega)
                    have hFBG258 : FPa P G258 B := (hFBG255).wx hXG258 hfG258 ⟨KX.al (KX.trans (KX.trans hXG11 hXG32) hXG255) (kne kB3 (by decide)), KX.al (KX.trans (KX.trans hXG11 hXG32) hXG255) (kne kB4 (by decide))⟩ (by show ¬ _; omega) (by show ¬ _; omega) (fun p hp => by show ¬ _; omega)
                    have hFfG258 : FPa P G258 f := (hFfG255).wx hXG258 hfG258 ⟨KX.al (KX.trans (KX.trans hXG11 hXG32) hXG255) (kne kf3 (by decide)), KX.al (KX.trans (KX.trans hXG11 hXG32) hXG255) (kne kf4 (by decide))⟩ (by show ¬ _; omega) (by show ¬ _; omega) (fun p hp => by show ¬ _; omega)
                    show WP kX2_linkBoth X 261 [some (2, ((327682 : Nat) : Int)), some (0, k), some (2, ((A : Nat) : Int)), some (2, ((B : Nat) : Int)), some (2, ((f : Nat) : Int)), some (0, rr12), some (0, rr33), some (2, ((B : Nat) : Int)), some (2, ((B : Nat) : Int))] [] G258
                    refine s_iconst dX2_linkBoth_261 (by decide) ?_
                    exact s_iret hR dX2_linkBoth_262 rfl (hQ 0 G258 hCG258 (KX.trans (KX.trans (KX.trans hXG11 hXG32) hXG255) hXG258) hFG258 hFfG258)
                  · -- 214 to 217
                    refine s_aload dX2_linkBoth_217 rfl (Int.natCast_nonneg _) ?_
                    refine s_iload_n dX2_linkBoth_219 rfl ?_
                    refine s_callV (as := [(0, k)]) (rest := []) (n := B) (ci := 1) gX0_isGhost dX2_linkBoth_220 m_1323 m_741 m_1474 m_711 m_68 ⟨by decide, by decide, show (parseMethodDescriptor yX0_isGhost.desc).map (fun d => d.parameters.length) = some 1 from by decide +kernel⟩ (Nat.le_of_ble_eq_true rfl) (by rw [hcf]; exact Nat.le_of_ble_eq_true rfl) hk181 rfl rfl (Nat.le_of_ble_eq_true rfl) ⟨B, k, a, b, rfl, hCG32, hab, (by first | assumption | omega), (by first | assumption | omega), fun rr261 hp262 => ?_⟩
                    show WP kX2_linkBoth X 223 [some (2, ((327682 : Nat) : Int)), some (0, k), some (2, ((A : Nat) : Int)), some (2, ((B : Nat) : Int)), some (2, ((f : Nat) : Int)), some (0, rr12), some (0, rr33), some (2, ((B : Nat) : Int)), some (2, ((B : Nat) : Int))] [(0, rr261)] G32
                    refine s_if_ne (tgt := 233) dX2_linkBoth_223 (by decide) (fun c263 => ?_) (fun c263 => ?_)
                    · -- 223 to 233
                      refine s_aload dX2_linkBoth_233 rfl (Int.natCast_nonneg _) ?_
                      refine s_iload_n dX2_linkBoth_235 rfl ?_
                      refine s_aload dX2_linkBoth_236 rfl (Int.natCast_nonneg _) ?_
                      refine s_alv (B) (by simp) (fun al264 => ?_)
                      have hv265 : gS G32 B 2 = ((B + 2 : Nat) : Int) := by have h9 : (gS G32 B 2) = (((B % 1048576) + 2 : Nat) : Int) := hCG32.1.v (j := 2) (by rw [cde_n (by omega) (by omega)]; omega : cde B = 101) al264 (by rw [hk181]; exact Nat.le_of_ble_eq_true rfl); omega
                      refine s_getf (ci := 1) (k := 2) (C := RX0) (T := TX0) (N := 7) (n := B) (L := 0) (t := 2) dX2_linkBoth_238 rfl wi_65 m_576 (Nat.le_of_ble_eq_true rfl) rfl rfl hk181 hv265 ?_
                      refine s_iload_n dX2_linkBoth_241 rfl ?_
                      have hk266 : gK G32 (B + 2) = (1, 10) := ((hXG32).k ((hXG11).k kB2 (by decide)) (by decide))
                      refine s_iald dX2_linkBoth_242 hk266 (by omega) (by omega) rfl ?_
                      refine s_aload_n dX2_linkBoth_243 rfl (Int.natCast_nonneg _) ?_
                      have hv267 : gS G32 327682 6 = ((327691 : Nat) : Int) := by have h9 : (gS G32 327682 6) = 327691 := hCG32.1.v (j := 6) (by decide : cde 327682 = 502) al44 (by rw [hk43]; exact Nat.le_of_ble_eq_true rfl); omega
                      refine s_getf (ci := 3) (k := 6) (C := RX2) (T := TX2) (N := 8) (n := 327682) (L := 0) (t := 2) dX2_linkBoth_244 rfl wi_70 m_582 (Nat.le_of_ble_eq_true rfl) rfl rfl hk43 hv267 ?_
                      refine s_iload dX2_linkBoth_247 rfl ?_
                      have hk270 : gK G32 (f) = (9, 0) := ((hXG32).k ((hXG11).k kf0 (by decide)) (by decide))
                      refine s_callV (as := [(0, k), (0, gS G32 (B + 2) ((k : Int).toNat)), (2, ((327691 : Nat) : Int)), (0, rr12)]) (rest := []) (n := f) (ci := 1) gX0_putValue dX2_linkBoth_249 m_1320 m_750 m_1483 m_711 m_77 ⟨by decide, by decide, show (parseMethodDescriptor yX0_putValue.desc).map (fun d => d.parameters.length) = some 4 from by decide +kernel⟩ (Nat.le_of_ble_eq_true rfl) (by rw [hcf]; exact Nat.le_of_ble_eq_true rfl) hk270 rfl rfl (Nat.le_of_ble_eq_true rfl) ⟨f, k, gS G32 (B + 2) ((k : Int).toNat), 327691, 200, rr12, a, b, rfl, hCG32, hab, (by first | assumption | omega), (by first | assumption | omega), hk47, (by first | assumption | omega), (by first | assumption | omega), (by first | assumption | omega), fun G268 hCG268 hXG268 hfG268 hpG268 => ?_⟩
                      have hFG268 : WX (fun x => x = 327691 ∨ x = 327692 ∨ (f + 1 ≤ x ∧ x ≤ f + 22)) G G268 := WX.trans hFG32 (KX.trans hXG11 hXG32) (WX.mono hfG268 (fun x hx => by omega))
                      have hFIG268 : ∀ k : Nat, k < 6 → FIP P G268 262144 k := fun k hk => FIP.sm (hFIG32 k hk) hXG268 hfG268 (by show ¬ _; omega) (congrFun (hfG268 262149 (KX.al (KX.trans hXG11 hXG32) (kne k262149 (by decide))) (by show ¬ _; omega)) k)
                      have hFAG268 : FPa P G268 A := (hFAG32).wx hXG268 hfG268 ⟨KX.al (KX.trans hXG11 hXG32) (kne kA3 (by decide)), KX.al (KX.trans hXG11 hXG32) (kne kA4 (by decide))⟩ (by show ¬ _; omega) (by show ¬ _; omega) (fun p hp => by show ¬ _; omega)
                      have hFBG268 : FPa P G268 B := (hFBG32).wx hXG268 hfG268 ⟨KX.al (KX.trans hXG11 hXG32) (kne kB3 (by decide)), KX.al (KX.trans hXG11 hXG32) (kne kB4 (by decide))⟩ (by show ¬ _; omega) (by show ¬ _; omega) (fun p hp => by show ¬ _; omega)
                      have hFfG268 : FPa P G268 f := FPa.put hpG268.1 hFfG32 (fun _ _ => (hpG11.2 P ((hFA (6 + k : Int).toNat (by omega)).rps hv4 rfl) hFI (by omega)).wx hXG32 hfG32 (by show ¬ _; omega)) hXG268 hfG268 (fun p hp hn => by show ¬ _; omega)
                      show WP kX2_linkBoth X 252 [some (2, ((327682 : Nat) : Int)), some (0, k), some (2, ((A : Nat) : Int)), some (2, ((B : Nat) : Int)), some (2, ((f : Nat) : Int)), some (0, rr12), some (0, rr33), some (2, ((B : Nat) : Int)), some (2, ((B : Nat) : Int))] [] G268
                      refine s_aload dX2_linkBoth_252 rfl (Int.natCast_nonneg _) ?_
                      refine s_iload_n dX2_linkBoth_254 rfl ?_
                      refine s_aload dX2_linkBoth_255 rfl (Int.natCast_nonneg _) ?_
                      refine s_iload_n dX2_linkBoth_257 rfl ?_
                      have hk273 : gK G268 (f) = (9, 0) := ((hXG268).k hk270 (by decide))
                      refine s_callV (as := [(0, k), (2, ((B : Nat) : Int)), (0, k)]) (rest := []) (n := f) (ci := 1) gX0_putNumberOf dX2_linkBoth_258 m_1321 m_745 m_1478 m_711 m_72 ⟨by decide, by decide, show (parseMethodDescriptor yX0_putNumberOf.desc).map (fun d => d.parameters.length) = some 3 from by decide +kernel⟩ (Nat.le_of_ble_eq_true rfl) (by rw [hcf]; exact Nat.le_of_ble_eq_true rfl) hk273 rfl rfl (Nat.le_of_ble_eq_true rfl) ⟨f, k, B, k, a, b, rfl, hCG268, hab, (by first | assumption | omega), (by first | assumption | omega), (by first | assumption | omega), (by first | assumption | omega), fun G271 hCG271 hXG271 hfG271 hpG271 => ?_⟩
                      have hFG271 : WX (fun x => x = 327691 ∨ x = 327692 ∨ (f + 1 ≤ x ∧ x ≤ f + 22)) G G271 := WX.trans hFG268 (KX.trans (KX.trans hXG11 hXG32) hXG268) (WX.mono hfG271 (fun x hx => by omega))
                      have hFIG271 : ∀ k : Nat, k < 6 → FIP P G271 262144 k := fun k hk => FIP.sm (hFIG268 k hk) hXG271 hfG271 (by show ¬ _; omega) (congrFun (hfG271 262149 (KX.al (KX.trans (KX.trans hXG11 hXG32) hXG268) (kne k262149 (by decide))) (by show ¬ _; omega)) k)
                      have hFAG271 : FPa P G271 A := (hFAG268).wx hXG271 hfG271 ⟨KX.al (KX.trans (KX.trans hXG11 hXG32) hXG268) (kne kA3 (by decide)), KX.al (KX.trans (KX.trans hXG11 hXG32) hXG268) (kne kA4 (by decide))⟩ (by show ¬ _; omega) (by show ¬ _; omega) (fun p hp => by show ¬ _; omega)
                      have hFBG271 : FPa P G271 B := (hFBG268).wx hXG271 hfG271 ⟨KX.al (KX.trans (KX.trans hXG11 hXG32) hXG268) (kne kB3 (by decide)), KX.al (KX.trans (KX.trans hXG11 hXG32) hXG268) (kne kB4 (by decide))⟩ (by show ¬ _; omega) (by show ¬ _; omega) (fun p hp => by show ¬ _; omega)
                      have hFfG271 : FPa P G271 f := (hFfG268).wx hXG271 hfG271 ⟨KX.al (KX.trans (KX.trans hXG11 hXG32) hXG268) (kne kf3 (by decide)), KX.al (KX.trans (KX.trans hXG11 hXG32) hXG268) (kne kf4 (by decide))⟩ (by show ¬ _; omega) (by show ¬ _; omega) (fun p hp => by show ¬ _; omega)
                      show WP kX2_linkBoth X 261 [some (2, ((327682 : Nat) : Int)), some (0, k), some (2, ((A : Nat) : Int)), some (2, ((B : Nat) : Int)), some (2, ((f : Nat) : Int)), some (0, rr12), some (0, rr33), some (2, ((B : Nat) : Int)), some (2, ((B : Nat) : Int))] [] G271
                      refine s_iconst dX2_linkBoth_261 (by decide) ?_
                      exact s_iret hR dX2_linkBoth_262 rfl (hQ 0 G271 hCG271 (KX.trans (KX.trans (KX.trans hXG11 hXG32) hXG268) hXG271) hFG271 hFfG271)
                    · -- 223 to 226
                      refine s_bipush dX2_linkBoth_226 rfl (by decide) ?_
                      refine s_iload_n dX2_linkBoth_228 rfl ?_
                      refine s_callSN (own := RX2) rfl (by decide +kernel) (as := [(0, 6), (0, k)]) (rest := []) gX11_valueMistake dX2_linkBoth_229 m_1784 m_714 m_129 ⟨by decide, by decide, show (parseMethodDescriptor yX11_valueMistake.desc).map (fun d => d.parameters.length) = some 2 from by decide +kernel⟩ (Nat.le_of_ble_eq_true rfl) (by rw [hcf]; exact Nat.le_of_ble_eq_true rfl) rfl (Nat.le_of_ble_eq_true rfl) ⟨6, k, rfl, (by first | assumption | omega), (by first | assumption | omega), fun rr274 hp275 => ?_⟩
                      show WP kX2_linkBoth X 232 [some (2, ((327682 : Nat) : Int)), some (0, k), some (2, ((A : Nat) : Int)), some (2, ((B : Nat) : Int)), some (2, ((f : Nat) : Int)), some (0, rr12), some (0, rr33), some (2, ((B : Nat) : Int)), some (2, ((B : Nat) : Int))] [(0, rr274)] G32
                      exact s_iret hR dX2_linkBoth_232 rfl (hQ rr274 G32 hCG32 (KX.trans hXG11 hXG32) hFG32 hFfG32)
                · -- 198 to 201
                  refine s_aload_n dX2_linkBoth_201 rfl (Int.natCast_nonneg _) ?_
                  refine s_goto (tgt := 206) dX2_linkBoth_202 (by decide) ?_
                  refine s_astore (Int.natCast_nonneg _) dX2_linkBoth_206 (by decide) (lv' := [some (2, ((327682 : Nat) : Int)), some (0, k), some (2, ((A : Nat) : Int)), some (2, ((B : Nat) : Int)), some (2, ((f : Nat) : Int)), some (0, rr12), some (0, rr33), some (2, ((B : Nat) : Int)), some (2, ((A : Nat) : Int))]) rfl ?_
                  refine s_aload dX2_linkBoth_208 rfl (Int.natCast_nonneg _) ?_
                  refine s_iload_n dX2_linkBoth_210 rfl ?_
                  refine s_callV (as := [(0, k)]) (rest := []) (n := B) (ci := 1) gX0_isGhost dX2_linkBoth_211 m_1323 m_741 m_1474 m_711 m_68 ⟨by decide, by decide, show (parseMethodDescriptor yX0_isGhost.desc).map (fun d => d.parameters.length) = some 1 from by decide +kernel⟩ (Nat.le_of_ble_eq_true rfl) (by rw [hcf]; exact Nat.le_of_ble_eq_true rfl) hk181 rfl rfl (Nat.le_of_ble_eq_true rfl) ⟨B, k, a, b, rfl, hCG32, hab, (by first | assumption | omega), (by first | assumption | omega), fun rr276 hp277 => ?_⟩
                  show WP kX2_linkBoth X 214 [some (2, ((327682 : Nat) : Int)), some (0, k), some (2, ((A : Nat) : Int)), some (2, ((B : Nat) : Int)), some (2, ((f : Nat) : Int)), some (0, rr12), some (0, rr33), some (2, ((B : Nat) : Int)), some (2, ((A : Nat) : Int))] [(0, rr276)] G32
                  refine s_if_eq (tgt := 233) dX2_linkBoth_214 (by decide) (fun c278 => ?_) (fun c278 => ?_)
                  · -- 214 to 233
                    refine s_aload dX2_linkBoth_233 rfl (Int.natCast_nonneg _) ?_
                    refine s_iload_n dX2_linkBoth_235 rfl ?_
                    refine s_aload dX2_linkBoth_236 rfl (Int.natCast_nonneg _) ?_
                    refine s_alv (B) (by simp) (fun al279 => ?_)
                    have hv280 : gS G32 B 2 = ((B + 2 : Nat) : Int) := by have h9 : (gS G32 B 2) = (((B % 1048576) + 2 : Nat) : Int) := hCG32.1.v (j := 2) (by rw [cde_n (by omega) (by omega)]; omega : cde B = 101) al279 (by rw [hk181]; exact Nat.le_of_ble_eq_true rfl); omega
                    refine s_getf (ci := 1) (k := 2) (C := RX0) (T := TX0) (N := 7) (n := B) (L := 0) (t := 2) dX2_linkBoth_238 rfl wi_65 m_576 (Nat.le_of_ble_eq_true rfl) rfl rfl hk181 hv280 ?_
                    refine s_iload_n dX2_linkBoth_241 rfl ?_
                    have hk281 : gK G32 (B + 2) = (1, 10) := ((hXG32).k ((hXG11).k kB2 (by decide)) (by decide))
                    refine s_iald dX2_linkBoth_242 hk281 (by omega) (by omega) rfl ?_
                    refine s_aload_n dX2_linkBoth_243 rfl (Int.natCast_nonneg _) ?_
                    have hv282 : gS G32 327682 6 = ((327691 : Nat) : Int) := by have h9 : (gS G32 327682 6) = 327691 := hCG32.1.v (j := 6) (by decide : cde 327682 = 502) al44 (by rw [hk43]; exact Nat.le_of_ble_eq_true rfl); omega
                    refine s_getf (ci := 3) (k := 6) (C := RX2) (T := TX2) (N := 8) (n := 327682) (L := 0) (t := 2) dX2_linkBoth_244 rfl wi_70 m_582 (Nat.le_of_ble_eq_true rfl) rfl rfl hk43 hv282 ?_
                    refine s_iload dX2_linkBoth_247 rfl ?_
                    have hk285 : gK G32 (f) = (9, 0) := ((hXG32).k ((hXG11).k kf0 (by decide)) (by decide))
                    refine s_callV (as := [(0, k), (0, gS G32 (B + 2) ((k : Int).toNat)), (2, ((327691 : Nat) : Int)), (0, rr12)]) (rest := []) (n := f) (ci := 1) gX0_putValue dX2_linkBoth_249 m_1320 m_750 m_1483 m_711 m_77 ⟨by decide, by decide, show (parseMethodDescriptor yX0_putValue.desc).map (fun d => d.parameters.length) = some 4 from by decide +kernel⟩ (Nat.le_of_ble_eq_true rfl) (by rw [hcf]; exact Nat.le_of_ble_eq_true rfl) hk285 rfl rfl (Nat.le_of_ble_eq_true rfl) ⟨f, k, gS G32 (B + 2) ((k : Int).toNat), 327691, 200, rr12, a, b, rfl, hCG32, hab, (by first | assumption | omega), (by first | assumption | omega), hk47, (by first | assumption | omega), (by first | assumption | omega), (by first | assumption | omega), fun G283 hCG283 hXG283 hfG283 hpG283 => ?_⟩
                    have hFG283 : WX (fun x => x = 327691 ∨ x = 327692 ∨ (f + 1 ≤ x ∧ x ≤ f + 22)) G G283 := WX.trans hFG32 (KX.trans hXG11 hXG32) (WX.mono hfG283 (fun x hx => by omega))
                    have hFIG283 : ∀ k : Nat, k < 6 → FIP P G283 262144 k := fun k hk => FIP.sm (hFIG32 k hk) hXG283 hfG283 (by show ¬ _; omega) (congrFun (hfG283 262149 (KX.al (KX.trans hXG11 hXG32) (kne k262149 (by decide))) (by show ¬ _; omega)) k)
                    have hFAG283 : FPa P G283 A := (hFAG32).wx hXG283 hfG283 ⟨KX.al (KX.trans hXG11 hXG32) (kne kA3 (by decide)), KX.al (KX.trans hXG11 hXG32) (kne kA4 (by decide))⟩ (by show ¬ _; omega) (by show ¬ _; omega) (fun p hp => by show ¬ _; omega)
                    have hFBG283 : FPa P G283 B := (hFBG32).wx hXG283 hfG283 ⟨KX.al (KX.trans hXG11 hXG32) (kne kB3 (by decide)), KX.al (KX.trans hXG11 hXG32) (kne kB4 (by decide))⟩ (by show ¬ _; omega) (by show ¬ _; omega) (fun p hp => by show ¬ _; omega)
                    have hFfG283 : FPa P G283 f := FPa.put hpG283.1 hFfG32 (fun _ _ => (hpG11.2 P ((hFA (6 + k : Int).toNat (by omega)).rps hv4 rfl) hFI (by omega)).wx hXG32 hfG32 (by show ¬ _; omega)) hXG283 hfG283 (fun p hp hn => by show ¬ _; omega)
                    show WP kX2_linkBoth X 252 [some (2, ((327682 : Nat) : Int)), some (0, k), some (2, ((A : Nat) : Int)), some (2, ((B : Nat) : Int)), some (2, ((f : Nat) : Int)), some (0, rr12), some (0, rr33), some (2, ((B : Nat) : Int)), some (2, ((A : Nat) : Int))] [] G283
                    refine s_aload dX2_linkBoth_252 rfl (Int.natCast_nonneg _) ?_
                    refine s_iload_n dX2_linkBoth_254 rfl ?_
                    refine s_aload dX2_linkBoth_255 rfl (Int.natCast_nonneg _) ?_
                    refine s_iload_n dX2_linkBoth_257 rfl ?_
                    have hk288 : gK G283 (f) = (9, 0) := ((hXG283).k hk285 (by decide))
                    refine s_callV (as := [(0, k), (2, ((B : Nat) : Int)), (0, k)]) (rest := []) (n := f) (ci := 1) gX0_putNumberOf dX2_linkBoth_258 m_1321 m_745 m_1478 m_711 m_72 ⟨by decide, by decide, show (parseMethodDescriptor yX0_putNumberOf.desc).map (fun d => d.parameters.length) = some 3 from by decide +kernel⟩ (Nat.le_of_ble_eq_true rfl) (by rw [hcf]; exact Nat.le_of_ble_eq_true rfl) hk288 rfl rfl (Nat.le_of_ble_eq_true rfl) ⟨f, k, B, k, a, b, rfl, hCG283, hab, (by first | assumption | omega), (by first | assumption | omega), (by first | assumption | omega), (by first | assumption | omega), fun G286 hCG286 hXG286 hfG286 hpG286 => ?_⟩
                    have hFG286 : WX (fun x => x = 327691 ∨ x = 327692 ∨ (f + 1 ≤ x ∧ x ≤ f + 22)) G G286 := WX.trans hFG283 (KX.trans (KX.trans hXG11 hXG32) hXG283) (WX.mono hfG286 (fun x hx => by omega))
                    have hFIG286 : ∀ k : Nat, k < 6 → FIP P G286 262144 k := fun k hk => FIP.sm (hFIG283 k hk) hXG286 hfG286 (by show ¬ _; omega) (congrFun (hfG286 262149 (KX.al (KX.trans (KX.trans hXG11 hXG32) hXG283) (kne k262149 (by decide))) (by show ¬ _; omega)) k)
                    have hFAG286 : FPa P G286 A := (hFAG283).wx hXG286 hfG286 ⟨KX.al (KX.trans (KX.trans hXG11 hXG32) hXG283) (kne kA3 (by decide)), KX.al (KX.trans (KX.trans hXG11 hXG32) hXG283) (kne kA4 (by decide))⟩ (by show ¬ _; omega) (by show ¬ _; omega) (fun p hp => by show ¬ _; omega)
                    have hFBG286 : FPa P G286 B := (hFBG283).wx hXG286 hfG286 ⟨KX.al (KX.trans (KX.trans hXG11 hXG32) hXG283) (kne kB3 (by decide)), KX.al (KX.trans (KX.trans hXG11 hXG32) hXG283) (kne kB4 (by decide))⟩ (by show ¬ _; omega) (by show ¬ _; omega) (fun p hp => by show ¬ _; omega)
                    have hFfG286 : FPa P G286 f := (hFfG283).wx hXG286 hfG286 ⟨KX.al (KX.trans (KX.trans hXG11 hXG32) hXG283) (kne kf3 (by decide)), KX.al (KX.trans (KX.trans hXG11 hXG32) hXG283) (kne kf4 (by decide))⟩ (by show ¬ _; omega) (by show ¬ _; omega) (fun p hp => by show ¬ _; omega)
                    show WP kX2_linkBoth X 261 [some (2, ((327682 : Nat) : Int)), some (0, k), some (2, ((A : Nat) : Int)), some (2, ((B : Nat) : Int)), some (2, ((f : Nat) : Int)), some (0, rr12), some (0, rr33), some (2, ((B : Nat) : Int)), some (2, ((A : Nat) : Int))] [] G286
                    refine s_iconst dX2_linkBoth_261 (by decide) ?_
                    exact s_iret hR dX2_linkBoth_262 rfl (hQ 0 G286 hCG286 (KX.trans (KX.trans (KX.trans hXG11 hXG32) hXG283) hXG286) hFG286 hFfG286)
                  · -- 214 to 217
                    refine s_aload dX2_linkBoth_217 rfl (Int.natCast_nonneg _) ?_
                    refine s_iload_n dX2_linkBoth_219 rfl ?_
                    refine s_callV (as := [(0, k)]) (rest := []) (n := A) (ci := 1) gX0_isGhost dX2_linkBoth_220 m_1323 m_741 m_1474 m_711 m_68 ⟨by decide, by decide, show (parseMethodDescriptor yX0_isGhost.desc).map (fun d => d.parameters.length) = some 1 from by decide +kernel⟩ (Nat.le_of_ble_eq_true rfl) (by rw [hcf]; exact Nat.le_of_ble_eq_true rfl) hk41 rfl rfl (Nat.le_of_ble_eq_true rfl) ⟨A, k, a, b, rfl, hCG32, hab, (by first | assumption | omega), (by first | assumption | omega), fun rr289 hp290 => ?_⟩
                    show WP kX2_linkBoth X 223 [some (2, ((327682 : Nat) : Int)), some (0, k), some (2, ((A : Nat) : Int)), some (2, ((B : Nat) : Int)), some (2, ((f : Nat) : Int)), some (0, rr12), some (0, rr33), some (2, ((B : Nat) : Int)), some (2, ((A : Nat) : Int))] [(0, rr289)] G32
                    refine s_if_ne (tgt := 233) dX2_linkBoth_223 (by decide) (fun c291 => ?_) (fun c291 => ?_)
                    · -- 223 to 233
                      refine s_aload dX2_linkBoth_233 rfl (Int.natCast_nonneg _) ?_
                      refine s_iload_n dX2_linkBoth_235 rfl ?_
                      refine s_aload dX2_linkBoth_236 rfl (Int.natCast_nonneg _) ?_
                      refine s_alv (B) (by simp) (fun al292 => ?_)
                      have hv293 : gS G32 B 2 = ((B + 2 : Nat) : Int) := by have h9 : (gS G32 B 2) = (((B % 1048576) + 2 : Nat) : Int) := hCG32.1.v (j := 2) (by rw [cde_n (by omega) (by omega)]; omega : cde B = 101) al292 (by rw [hk181]; exact Nat.le_of_ble_eq_true rfl); omega
                      refine s_getf (ci := 1) (k := 2) (C := RX0) (T := TX0) (N := 7) (n := B) (L := 0) (t := 2) dX2_linkBoth_238 rfl wi_65 m_576 (Nat.le_of_ble_eq_true rfl) rfl rfl hk181 hv293 ?_
                      refine s_iload_n dX2_linkBoth_241 rfl ?_
                      have hk294 : gK G32 (B + 2) = (1, 10) := ((hXG32).k ((hXG11).k kB2 (by decide)) (by decide))
                      refine s_iald dX2_linkBoth_242 hk294 (by omega) (by omega) rfl ?_
                      refine s_aload_n dX2_linkBoth_243 rfl (Int.natCast_nonneg _) ?_
                      have hv295 : gS G32 327682 6 = ((327691 : Nat) : Int) := by have h9 : (gS G32 327682 6) = 327691 := hCG32.1.v (j := 6) (by decide : cde 327682 = 502) al44 (by rw [hk43]; exact Nat.le_of_ble_eq_true rfl); omega
                      refine s_getf (ci := 3) (k := 6) (C := RX2) (T := TX2) (N := 8) (n := 327682) (L := 0) (t := 2) dX2_linkBoth_244 rfl wi_70 m_582 (Nat.le_of_ble_eq_true rfl) rfl rfl hk43 hv295 ?_
                      refine s_iload dX2_linkBoth_247 rfl ?_
                      have hk298 : gK G32 (f) = (9, 0) := ((hXG32).k ((hXG11).k kf0 (by decide)) (by decide))
                      refine s_callV (as := [(0, k), (0, gS G32 (B + 2) ((k : Int).toNat)), (2, ((327691 : Nat) : Int)), (0, rr12)]) (rest := []) (n := f) (ci := 1) gX0_putValue dX2_linkBoth_249 m_1320 m_750 m_1483 m_711 m_77 ⟨by decide, by decide, show (parseMethodDescriptor yX0_putValue.desc).map (fun d => d.parameters.length) = some 4 from by decide +kernel⟩ (Nat.le_of_ble_eq_true rfl) (by rw [hcf]; exact Nat.le_of_ble_eq_true rfl) hk298 rfl rfl (Nat.le_of_ble_eq_true rfl) ⟨f, k, gS G32 (B + 2) ((k : Int).toNat), 327691, 200, rr12, a, b, rfl, hCG32, hab, (by first | assumption | omega), (by first | assumption | omega), hk47, (by first | assumption | omega), (by first | assumption | omega), (by first | assumption | omega), fun G296 hCG296 hXG296 hfG296 hpG296 => ?_⟩
                      have hFG296 : WX (fun x => x = 327691 ∨ x = 327692 ∨ (f + 1 ≤ x ∧ x ≤ f + 22)) G G296 := WX.trans hFG32 (KX.trans hXG11 hXG32) (WX.mono hfG296 (fun x hx => by omega))
                      have hFIG296 : ∀ k : Nat, k < 6 → FIP P G296 262144 k := fun k hk => FIP.sm (hFIG32 k hk) hXG296 hfG296 (by show ¬ _; omega) (congrFun (hfG296 262149 (KX.al (KX.trans hXG11 hXG32) (kne k262149 (by decide))) (by show ¬ _; omega)) k)
                      have hFAG296 : FPa P G296 A := (hFAG32).wx hXG296 hfG296 ⟨KX.al (KX.trans hXG11 hXG32) (kne kA3 (by decide)), KX.al (KX.trans hXG11 hXG32) (kne kA4 (by decide))⟩ (by show ¬ _; omega) (by show ¬ _; omega) (fun p hp => by show ¬ _; omega)
                      have hFBG296 : FPa P G296 B := (hFBG32).wx hXG296 hfG296 ⟨KX.al (KX.trans hXG11 hXG32) (kne kB3 (by decide)), KX.al (KX.trans hXG11 hXG32) (kne kB4 (by decide))⟩ (by show ¬ _; omega) (by show ¬ _; omega) (fun p hp => by show ¬ _; omega)
                      have hFfG296 : FPa P G296 f := FPa.put hpG296.1 hFfG32 (fun _ _ => (hpG11.2 P ((hFA (6 + k : Int).toNat (by omega)).rps hv4 rfl) hFI (by omega)).wx hXG32 hfG32 (by show ¬ _; omega)) hXG296 hfG296 (fun p hp hn => by show ¬ _; omega)
                      show WP kX2_linkBoth X 252 [some (2, ((327682 : Nat) : Int)), some (0, k), some (2, ((A : Nat) : Int)), some (2, ((B : Nat) : Int)), some (2, ((f : Nat) : Int)), some (0, rr12), some (0, rr33), some (2, ((B : Nat) : Int)), some (2, ((A : Nat) : Int))] [] G296
                      refine s_aload dX2_linkBoth_252 rfl (Int.natCast_nonneg _) ?_
                      refine s_iload_n dX2_linkBoth_254 rfl ?_
                      refine s_aload dX2_linkBoth_255 rfl (Int.natCast_nonneg _) ?_
                      refine s_iload_n dX2_linkBoth_257 rfl ?_
                      have hk301 : gK G296 (f) = (9, 0) := ((hXG296).k hk298 (by decide))
                      refine s_callV (as := [(0, k), (2, ((B : Nat) : Int)), (0, k)]) (rest := []) (n := f) (ci := 1) gX0_putNumberOf dX2_linkBoth_258 m_1321 m_745 m_1478 m_711 m_72 ⟨by decide, by decide, show (parseMethodDescriptor yX0_putNumberOf.desc).map (fun d => d.parameters.length) = some 3 from by decide +kernel⟩ (Nat.le_of_ble_eq_true rfl) (by rw [hcf]; exact Nat.le_of_ble_eq_true rfl) hk301 rfl rfl (Nat.le_of_ble_eq_true rfl) ⟨f, k, B, k, a, b, rfl, hCG296, hab, (by first | assumption | omega), (by first | assumption | omega), (by first | assumption | omega), (by first | assumption | omega), fun G299 hCG299 hXG299 hfG299 hpG299 => ?_⟩
                      have hFG299 : WX (fun x => x = 327691 ∨ x = 327692 ∨ (f + 1 ≤ x ∧ x ≤ f + 22)) G G299 := WX.trans hFG296 (KX.trans (KX.trans hXG11 hXG32) hXG296) (WX.mono hfG299 (fun x hx => by omega))
                      have hFIG299 : ∀ k : Nat, k < 6 → FIP P G299 262144 k := fun k hk => FIP.sm (hFIG296 k hk) hXG299 hfG299 (by show ¬ _; omega) (congrFun (hfG299 262149 (KX.al (KX.trans (KX.trans hXG11 hXG32) hXG296) (kne k262149 (by decide))) (by show ¬ _; omega)) k)
                      have hFAG299 : FPa P G299 A := (hFAG296).wx hXG299 hfG299 ⟨KX.al (KX.trans (KX.trans hXG11 hXG32) hXG296) (kne kA3 (by decide)), KX.al (KX.trans (KX.trans hXG11 hXG32) hXG296) (kne kA4 (by decide))⟩ (by show ¬ _; omega) (by show ¬ _; omega) (fun p hp => by show ¬ _; omega)
                      have hFBG299 : FPa P G299 B := (hFBG296).wx hXG299 hfG299 ⟨KX.al (KX.trans (KX.trans hXG11 hXG32) hXG296) (kne kB3 (by decide)), KX.al (KX.trans (KX.trans hXG11 hXG32) hXG296) (kne kB4 (by decide))⟩ (by show ¬ _; omega) (by show ¬ _; omega) (fun p hp => by show ¬ _; omega)
                      have hFfG299 : FPa P G299 f := (hFfG296).wx hXG299 hfG299 ⟨KX.al (KX.trans (KX.trans hXG11 hXG32) hXG296) (kne kf3 (by decide)), KX.al (KX.trans (KX.trans hXG11 hXG32) hXG296) (kne kf4 (by decide))⟩ (by show ¬ _; omega) (by show ¬ _; omega) (fun p hp => by show ¬ _; omega)
                      show WP kX2_linkBoth X 261 [some (2, ((327682 : Nat) : Int)), some (0, k), some (2, ((A : Nat) : Int)), some (2, ((B : Nat) : Int)), some (2, ((f : Nat) : Int)), some (0, rr12), some (0, rr33), some (2, ((B : Nat) : Int)), some (2, ((A : Nat) : Int))] [] G299
                      refine s_iconst dX2_linkBoth_261 (by decide) ?_
                      exact s_iret hR dX2_linkBoth_262 rfl (hQ 0 G299 hCG299 (KX.trans (KX.trans (KX.trans hXG11 hXG32) hXG296) hXG299) hFG299 hFfG299)
                    · -- 223 to 226
                      refine s_bipush dX2_linkBoth_226 rfl (by decide) ?_
                      refine s_iload_n dX2_linkBoth_228 rfl ?_
                      refine s_callSN (own := RX2) rfl (by decide +kernel) (as := [(0, 6), (0, k)]) (rest := []) gX11_valueMistake dX2_linkBoth_229 m_1784 m_714 m_129 ⟨by decide, by decide, show (parseMethodDescriptor yX11_valueMistake.desc).map (fun d => d.parameters.length) = some 2 from by decide +kernel⟩ (Nat.le_of_ble_eq_true rfl) (by rw [hcf]; exact Nat.le_of_ble_eq_true rfl) rfl (Nat.le_of_ble_eq_true rfl) ⟨6, k, rfl, (by first | assumption | omega), (by first | assumption | omega), fun rr302 hp303 => ?_⟩
                      show WP kX2_linkBoth X 232 [some (2, ((327682 : Nat) : Int)), some (0, k), some (2, ((A : Nat) : Int)), some (2, ((B : Nat) : Int)), some (2, ((f : Nat) : Int)), some (0, rr12), some (0, rr33), some (2, ((B : Nat) : Int)), some (2, ((A : Nat) : Int))] [(0, rr302)] G32
                      exact s_iret hR dX2_linkBoth_232 rfl (hQ rr302 G32 hCG32 (KX.trans hXG11 hXG32) hFG32 hFfG32)
            · -- 144 to 147
              refine s_aload dX2_linkBoth_147 rfl (Int.natCast_nonneg _) ?_
              refine s_iload_n dX2_linkBoth_149 rfl ?_
              refine s_iconst dX2_linkBoth_150 (by decide) ?_
              refine s_aload_n dX2_linkBoth_151 rfl (Int.natCast_nonneg _) ?_
              refine s_alv (A) (by simp) (fun al304 => ?_)
              have hv305 : gS G32 A 2 = ((A + 2 : Nat) : Int) := by have h9 : (gS G32 A 2) = (((A % 1048576) + 2 : Nat) : Int) := hCG32.1.v (j := 2) (by rw [cde_n (by omega) (by omega)]; omega : cde A = 101) al304 (by rw [hk41]; exact Nat.le_of_ble_eq_true rfl); omega
              refine s_getf (ci := 1) (k := 2) (C := RX0) (T := TX0) (N := 7) (n := A) (L := 0) (t := 2) dX2_linkBoth_152 rfl wi_65 m_576 (Nat.le_of_ble_eq_true rfl) rfl rfl hk41 hv305 ?_
              refine s_iload_n dX2_linkBoth_155 rfl ?_
              have hk306 : gK G32 (A + 2) = (1, 10) := ((hXG32).k ((hXG11).k kA2 (by decide)) (by decide))
              refine s_iald dX2_linkBoth_156 hk306 (by omega) (by omega) rfl ?_
              refine s_aload_n dX2_linkBoth_157 rfl (Int.natCast_nonneg _) ?_
              refine s_alv (B) (by simp) (fun al307 => ?_)
              have hv308 : gS G32 B 2 = ((B + 2 : Nat) : Int) := by have h9 : (gS G32 B 2) = (((B % 1048576) + 2 : Nat) : Int) := hCG32.1.v (j := 2) (by rw [cde_n (by omega) (by omega)]; omega : cde B = 101) al307 (by rw [hk181]; exact Nat.le_of_ble_eq_true rfl); omega
              refine s_getf (ci := 1) (k := 2) (C := RX0) (T := TX0) (N := 7) (n := B) (L := 0) (t := 2) dX2_linkBoth_158 rfl wi_65 m_576 (Nat.le_of_ble_eq_true rfl) rfl rfl hk181 hv308 ?_
              refine s_iload_n dX2_linkBoth_161 rfl ?_
              have hk309 : gK G32 (B + 2) = (1, 10) := ((hXG32).k ((hXG11).k kB2 (by decide)) (by decide))
              refine s_iald dX2_linkBoth_162 hk309 (by omega) (by omega) rfl ?_
              refine s_iand dX2_linkBoth_163 ?_
              refine s_iconst dX2_linkBoth_164 (by decide) ?_
              refine s_iand dX2_linkBoth_165 ?_
              refine s_ior dX2_linkBoth_166 ?_
              refine s_aload_n dX2_linkBoth_167 rfl (Int.natCast_nonneg _) ?_
              have hv310 : gS G32 327682 6 = ((327691 : Nat) : Int) := by have h9 : (gS G32 327682 6) = 327691 := hCG32.1.v (j := 6) (by decide : cde 327682 = 502) al44 (by rw [hk43]; exact Nat.le_of_ble_eq_true rfl); omega
              refine s_getf (ci := 3) (k := 6) (C := RX2) (T := TX2) (N := 8) (n := 327682) (L := 0) (t := 2) dX2_linkBoth_168 rfl wi_70 m_582 (Nat.le_of_ble_eq_true rfl) rfl rfl hk43 hv310 ?_
              refine s_iload dX2_linkBoth_171 rfl ?_
              have hk313 : gK G32 (f) = (9, 0) := ((hXG32).k ((hXG11).k kf0 (by decide)) (by decide))
              refine s_callV (as := [(0, k), (0, i_or 1 (i_and (i_and (gS G32 (A + 2) ((k : Int).toNat)) (gS G32 (B + 2) ((k : Int).toNat))) 4)), (2, ((327691 : Nat) : Int)), (0, rr12)]) (rest := []) (n := f) (ci := 1) gX0_putValue dX2_linkBoth_173 m_1320 m_750 m_1483 m_711 m_77 ⟨by decide, by decide, show (parseMethodDescriptor yX0_putValue.desc).map (fun d => d.parameters.length) = some 4 from by decide +kernel⟩ (Nat.le_of_ble_eq_true rfl) (by rw [hcf]; exact Nat.le_of_ble_eq_true rfl) hk313 rfl rfl (Nat.le_of_ble_eq_true rfl) ⟨f, k, i_or 1 (i_and (i_and (gS G32 (A + 2) ((k : Int).toNat)) (gS G32 (B + 2) ((k : Int).toNat))) 4), 327691, 200, rr12, a, b, rfl, hCG32, hab, (by first | assumption | omega), (by first | assumption | omega), hk47, (by first | assumption | omega), (by first | assumption | omega), (by first | assumption | omega), fun G311 hCG311 hXG311 hfG311 hpG311 => ?_⟩
              have hFG311 : WX (fun x => x = 327691 ∨ x = 327692 ∨ (f + 1 ≤ x ∧ x ≤ f + 22)) G G311 := WX.trans hFG32 (KX.trans hXG11 hXG32) (WX.mono hfG311 (fun x hx => by omega))
              have hFIG311 : ∀ k : Nat, k < 6 → FIP P G311 262144 k := fun k hk => FIP.sm (hFIG32 k hk) hXG311 hfG311 (by show ¬ _; omega) (congrFun (hfG311 262149 (KX.al (KX.trans hXG11 hXG32) (kne k262149 (by decide))) (by show ¬ _; omega)) k)
              have hFAG311 : FPa P G311 A := (hFAG32).wx hXG311 hfG311 ⟨KX.al (KX.trans hXG11 hXG32) (kne kA3 (by decide)), KX.al (KX.trans hXG11 hXG32) (kne kA4 (by decide))⟩ (by show ¬ _; omega) (by show ¬ _; omega) (fun p hp => by show ¬ _; omega)
              have hFBG311 : FPa P G311 B := (hFBG32).wx hXG311 hfG311 ⟨KX.al (KX.trans hXG11 hXG32) (kne kB3 (by decide)), KX.al (KX.trans hXG11 hXG32) (kne kB4 (by decide))⟩ (by show ¬ _; omega) (by show ¬ _; omega) (fun p hp => by show ¬ _; omega)
              have hFfG311 : FPa P G311 f := FPa.put hpG311.1 hFfG32 (fun _ _ => (hpG11.2 P ((hFA (6 + k : Int).toNat (by omega)).rps hv4 rfl) hFI (by omega)).wx hXG32 hfG32 (by show ¬ _; omega)) hXG311 hfG311 (fun p hp hn => by show ¬ _; omega)
              show WP kX2_linkBoth X 176 [some (2, ((327682 : Nat) : Int)), some (0, k), some (2, ((A : Nat) : Int)), some (2, ((B : Nat) : Int)), some (2, ((f : Nat) : Int)), some (0, rr12), some (0, rr33), none, none] [] G311
              refine s_iconst dX2_linkBoth_176 (by decide) ?_
              exact s_iret hR dX2_linkBoth_177 rfl (hQ 0 G311 hCG311 (KX.trans (KX.trans hXG11 hXG32) hXG311) hFG311 hFfG311)
        · -- 122 to 125
          refine s_iconst dX2_linkBoth_125 (by decide) ?_
          refine s_iload_n dX2_linkBoth_126 rfl ?_
          refine s_callSN (own := RX2) rfl (by decide +kernel) (as := [(0, 2), (0, k)]) (rest := []) gX11_valueMistake dX2_linkBoth_127 m_1784 m_714 m_129 ⟨by decide, by decide, show (parseMethodDescriptor yX11_valueMistake.desc).map (fun d => d.parameters.length) = some 2 from by decide +kernel⟩ (Nat.le_of_ble_eq_true rfl) (by rw [hcf]; exact Nat.le_of_ble_eq_true rfl) rfl (Nat.le_of_ble_eq_true rfl) ⟨2, k, rfl, (by first | assumption | omega), (by first | assumption | omega), fun rr314 hp315 => ?_⟩
          show WP kX2_linkBoth X 130 [some (2, ((327682 : Nat) : Int)), some (0, k), some (2, ((A : Nat) : Int)), some (2, ((B : Nat) : Int)), some (2, ((f : Nat) : Int)), some (0, rr12), some (0, rr33), none, none] [(0, rr314)] G32
          exact s_iret hR dX2_linkBoth_130 rfl (hQ rr314 G32 hCG32 (KX.trans hXG11 hXG32) hFG32 hFfG32)
      · -- 90 to 93
        refine s_aload_n dX2_linkBoth_93 rfl (Int.natCast_nonneg _) ?_
        refine s_iload_n dX2_linkBoth_94 rfl ?_
        have hk318 : gK G32 (B) = (9, 0) := ((hXG32).k hk16 (by decide))
        refine s_callV (as := [(0, k)]) (rest := []) (n := B) (ci := 1) gX0_isValueHole dX2_linkBoth_95 m_1322 m_743 m_1476 m_711 m_70 ⟨by decide, by decide, show (parseMethodDescriptor yX0_isValueHole.desc).map (fun d => d.parameters.length) = some 1 from by decide +kernel⟩ (Nat.le_of_ble_eq_true rfl) (by rw [hcf]; exact Nat.le_of_ble_eq_true rfl) hk318 rfl rfl (Nat.le_of_ble_eq_true rfl) ⟨B, k, a, b, rfl, hCG32, hab, (by first | assumption | omega), (by first | assumption | omega), fun rr316 hp317 => ?_⟩
        show WP kX2_linkBoth X 98 [some (2, ((327682 : Nat) : Int)), some (0, k), some (2, ((A : Nat) : Int)), some (2, ((B : Nat) : Int)), some (2, ((f : Nat) : Int)), some (0, rr12), some (0, rr33), none, none] [(0, rr316)] G32
        refine s_if_ne (tgt := 107) dX2_linkBoth_98 (by decide) (fun c319 => ?_) (fun c319 => ?_)
        · -- 98 to 107
          refine s_aload_n dX2_linkBoth_107 rfl (Int.natCast_nonneg _) ?_
          have hk320 : gK G32 (327682) = (11, 0) := ((hXG32).k hk13 (by decide))
          refine s_alv (327682) (by simp) (fun al321 => ?_)
          have hv322 : gS G32 327682 6 = ((327691 : Nat) : Int) := by have h9 : (gS G32 327682 6) = 327691 := hCG32.1.v (j := 6) (by decide : cde 327682 = 502) al321 (by rw [hk320]; exact Nat.le_of_ble_eq_true rfl); omega
          refine s_getf (ci := 3) (k := 6) (C := RX2) (T := TX2) (N := 8) (n := 327682) (L := 0) (t := 2) dX2_linkBoth_108 rfl wi_70 m_582 (Nat.le_of_ble_eq_true rfl) rfl rfl hk320 hv322 ?_
          refine s_iload dX2_linkBoth_111 rfl ?_
          refine s_aload_n dX2_linkBoth_113 rfl (Int.natCast_nonneg _) ?_
          have hv323 : gS G32 327682 7 = ((327692 : Nat) : Int) := by have h9 : (gS G32 327682 7) = 327692 := hCG32.1.v (j := 7) (by decide : cde 327682 = 502) al321 (by rw [hk320]; exact Nat.le_of_ble_eq_true rfl); omega
          refine s_getf (ci := 3) (k := 7) (C := RX2) (T := TX2) (N := 8) (n := 327682) (L := 0) (t := 2) dX2_linkBoth_114 rfl wi_70 m_583 (Nat.le_of_ble_eq_true rfl) rfl rfl hk320 hv323 ?_
          refine s_iload dX2_linkBoth_117 rfl ?_
          have hk324 : gK G32 (327691) = (1, 200) := ((hXG32).k ((hXG11).k k327691 (by decide)) (by decide))
          have hk325 : gK G32 (327692) = (1, 200) := ((hXG32).k hk31 (by decide))
          refine s_callSN (own := RX2) rfl (by decide +kernel) (as := [(2, ((327691 : Nat) : Int)), (0, rr12), (2, ((327692 : Nat) : Int)), (0, rr33)]) (rest := []) gX11_isSameRow dX2_linkBoth_119 m_1778 m_714 m_98 ⟨by decide, by decide, show (parseMethodDescriptor yX11_isSameRow.desc).map (fun d => d.parameters.length) = some 4 from by decide +kernel⟩ (Nat.le_of_ble_eq_true rfl) (by rw [hcf]; exact Nat.le_of_ble_eq_true rfl) rfl (Nat.le_of_ble_eq_true rfl) ⟨327691, 200, rr12, 327692, 200, rr33, rfl, hk324, (by first | assumption | omega), hk325, (by first | assumption | omega), fun rr326 hp327 => ?_⟩
          show WP kX2_linkBoth X 122 [some (2, ((327682 : Nat) : Int)), some (0, k), some (2, ((A : Nat) : Int)), some (2, ((B : Nat) : Int)), some (2, ((f : Nat) : Int)), some (0, rr12), some (0, rr33), none, none] [(0, rr326)] G32
          refine s_if_ne (tgt := 131) dX2_linkBoth_122 (by decide) (fun c328 => ?_) (fun c328 => ?_)
          · -- 122 to 131
            refine s_aload_n dX2_linkBoth_131 rfl (Int.natCast_nonneg _) ?_
            refine s_iload_n dX2_linkBoth_132 rfl ?_
            refine s_callV (as := [(0, k)]) (rest := []) (n := A) (ci := 1) gX0_isValueHole dX2_linkBoth_133 m_1322 m_743 m_1476 m_711 m_70 ⟨by decide, by decide, show (parseMethodDescriptor yX0_isValueHole.desc).map (fun d => d.parameters.length) = some 1 from by decide +kernel⟩ (Nat.le_of_ble_eq_true rfl) (by rw [hcf]; exact Nat.le_of_ble_eq_true rfl) hk41 rfl rfl (Nat.le_of_ble_eq_true rfl) ⟨A, k, a, b, rfl, hCG32, hab, (by first | assumption | omega), (by first | assumption | omega), fun rr329 hp330 => ?_⟩
            show WP kX2_linkBoth X 136 [some (2, ((327682 : Nat) : Int)), some (0, k), some (2, ((A : Nat) : Int)), some (2, ((B : Nat) : Int)), some (2, ((f : Nat) : Int)), some (0, rr12), some (0, rr33), none, none] [(0, rr329)] G32
            refine s_if_eq (tgt := 178) dX2_linkBoth_136 (by decide) (fun c331 => ?_) (fun c331 => ?_)
            · -- 136 to 178
              refine s_aload_n dX2_linkBoth_178 rfl (Int.natCast_nonneg _) ?_
              refine s_iload_n dX2_linkBoth_179 rfl ?_
              refine s_callV (as := [(0, k)]) (rest := []) (n := A) (ci := 1) gX0_isValueHole dX2_linkBoth_180 m_1322 m_743 m_1476 m_711 m_70 ⟨by decide, by decide, show (parseMethodDescriptor yX0_isValueHole.desc).map (fun d => d.parameters.length) = some 1 from by decide +kernel⟩ (Nat.le_of_ble_eq_true rfl) (by rw [hcf]; exact Nat.le_of_ble_eq_true rfl) hk41 rfl rfl (Nat.le_of_ble_eq_true rfl) ⟨A, k, a, b, rfl, hCG32, hab, (by first | assumption | omega), (by first | assumption | omega), fun rr332 hp333 => ?_⟩
              show WP kX2_linkBoth X 183 [some (2, ((327682 : Nat) : Int)), some (0, k), some (2, ((A : Nat) : Int)), some (2, ((B : Nat) : Int)), some (2, ((f : Nat) : Int)), some (0, rr12), some (0, rr33), none, none] [(0, rr332)] G32
              refine s_if_eq (tgt := 190) dX2_linkBoth_183 (by decide) (fun c334 => ?_) (fun c334 => ?_)
              · -- 183 to 190
                refine s_aload_n dX2_linkBoth_190 rfl (Int.natCast_nonneg _) ?_
                refine s_astore (Int.natCast_nonneg _) dX2_linkBoth_191 (by decide) (lv' := [some (2, ((327682 : Nat) : Int)), some (0, k), some (2, ((A : Nat) : Int)), some (2, ((B : Nat) : Int)), some (2, ((f : Nat) : Int)), some (0, rr12), some (0, rr33), some (2, ((A : Nat) : Int)), none]) rfl ?_
                refine s_aload_n dX2_linkBoth_193 rfl (Int.natCast_nonneg _) ?_
                refine s_iload_n dX2_linkBoth_194 rfl ?_
                refine s_callV (as := [(0, k)]) (rest := []) (n := A) (ci := 1) gX0_isValueHole dX2_linkBoth_195 m_1322 m_743 m_1476 m_711 m_70 ⟨by decide, by decide, show (parseMethodDescriptor yX0_isValueHole.desc).map (fun d => d.parameters.length) = some 1 from by decide +kernel⟩ (Nat.le_of_ble_eq_true rfl) (by rw [hcf]; exact Nat.le_of_ble_eq_true rfl) hk41 rfl rfl (Nat.le_of_ble_eq_true rfl) ⟨A, k, a, b, rfl, hCG32, hab, (by first | assumption | omega), (by first | assumption | omega), fun rr335 hp336 => ?_⟩
                show WP kX2_linkBoth X 198 [some (2, ((327682 : Nat) : Int)), some (0, k), some (2, ((A : Nat) : Int)), some (2, ((B : Nat) : Int)), some (2, ((f : Nat) : Int)), some (0, rr12), some (0, rr33), some (2, ((A : Nat) : Int)), none] [(0, rr335)] G32
                refine s_if_eq (tgt := 205) dX2_linkBoth_198 (by decide) (fun c337 => ?_) (fun c337 => ?_)
                · -- 198 to 205
                  refine s_aload_n dX2_linkBoth_205 rfl (Int.natCast_nonneg _) ?_
                  refine s_astore (Int.natCast_nonneg _) dX2_linkBoth_206 (by decide) (lv' := [some (2, ((327682 : Nat) : Int)), some (0, k), some (2, ((A : Nat) : Int)), some (2, ((B : Nat) : Int)), some (2, ((f : Nat) : Int)), some (0, rr12), some (0, rr33), some (2, ((A : Nat) : Int)), some (2, ((B : Nat) : Int))]) rfl ?_
                  refine s_aload dX2_linkBoth_208 rfl (Int.natCast_nonneg _) ?_
                  refine s_iload_n dX2_linkBoth_210 rfl ?_
                  refine s_callV (as := [(0, k)]) (rest := []) (n := A) (ci := 1) gX0_isGhost dX2_linkBoth_211 m_1323 m_741 m_1474 m_711 m_68 ⟨by decide, by decide, show (parseMethodDescriptor yX0_isGhost.desc).map (fun d => d.parameters.length) = some 1 from by decide +kernel⟩ (Nat.le_of_ble_eq_true rfl) (by rw [hcf]; exact Nat.le_of_ble_eq_true rfl) hk41 rfl rfl (Nat.le_of_ble_eq_true rfl) ⟨A, k, a, b, rfl, hCG32, hab, (by first | assumption | omega), (by first | assumption | omega), fun rr338 hp339 => ?_⟩
                  show WP kX2_linkBoth X 214 [some (2, ((327682 : Nat) : Int)), some (0, k), some (2, ((A : Nat) : Int)), some (2, ((B : Nat) : Int)), some (2, ((f : Nat) : Int)), some (0, rr12), some (0, rr33), some (2, ((A : Nat) : Int)), some (2, ((B : Nat) : Int))] [(0, rr338)] G32
                  refine s_if_eq (tgt := 233) dX2_linkBoth_214 (by decide) (fun c340 => ?_) (fun c340 => ?_)
                  · -- 214 to 233
                    refine s_aload dX2_linkBoth_233 rfl (Int.natCast_nonneg _) ?_
                    refine s_iload_n dX2_linkBoth_235 rfl ?_
                    refine s_aload dX2_linkBoth_236 rfl (Int.natCast_nonneg _) ?_
                    refine s_alv (A) (by simp) (fun al341 => ?_)
                    have hv342 : gS G32 A 2 = ((A + 2 : Nat) : Int) := by have h9 : (gS G32 A 2) = (((A % 1048576) + 2 : Nat) : Int) := hCG32.1.v (j := 2) (by rw [cde_n (by omega) (by omega)]; omega : cde A = 101) al341 (by rw [hk41]; exact Nat.le_of_ble_eq_true rfl); omega
                    refine s_getf (ci := 1) (k := 2) (C := RX0) (T := TX0) (N := 7) (n := A) (L := 0) (t := 2) dX2_linkBoth_238 rfl wi_65 m_576 (Nat.le_of_ble_eq_true rfl) rfl rfl hk41 hv342 ?_
                    refine s_iload_n dX2_linkBoth_241 rfl ?_
                    have hk343 : gK G32 (A + 2) = (1, 10) := ((hXG32).k ((hXG11).k kA2 (by decide)) (by decide))
                    refine s_iald dX2_linkBoth_242 hk343 (by omega) (by omega) rfl ?_
                    refine s_aload_n dX2_linkBoth_243 rfl (Int.natCast_nonneg _) ?_
                    have hv344 : gS G32 327682 6 = ((327691 : Nat) : Int) := by have h9 : (gS G32 327682 6) = 327691 := hCG32.1.v (j := 6) (by decide : cde 327682 = 502) al321 (by rw [hk320]; exact Nat.le_of_ble_eq_true rfl); omega
                    refine s_getf (ci := 3) (k := 6) (C := RX2) (T := TX2) (N := 8) (n := 327682) (L := 0) (t := 2) dX2_linkBoth_244 rfl wi_70 m_582 (Nat.le_of_ble_eq_true rfl) rfl rfl hk320 hv344 ?_
                    refine s_iload dX2_linkBoth_247 rfl ?_
                    have hk347 : gK G32 (f) = (9, 0) := ((hXG32).k ((hXG11).k kf0 (by decide)) (by decide))
                    refine s_callV (as := [(0, k), (0, gS G32 (A + 2) ((k : Int).toNat)), (2, ((327691 : Nat) : Int)), (0, rr12)]) (rest := []) (n := f) (ci := 1) gX0_putValue dX2_linkBoth_249 m_1320 m_750 m_1483 m_711 m_77 ⟨by decide, by decide, show (parseMethodDescriptor yX0_putValue.desc).map (fun d => d.parameters.length) = some 4 from by decide +kernel⟩ (Nat.le_of_ble_eq_true rfl) (by rw [hcf]; exact Nat.le_of_ble_eq_true rfl) hk347 rfl rfl (Nat.le_of_ble_eq_true rfl) ⟨f, k, gS G32 (A + 2) ((k : Int).toNat), 327691, 200, rr12, a, b, rfl, hCG32, hab, (by first | assumption | omega), (by first | assumption | omega), hk324, (by first | assumption | omega), (by first | assumption | omega), (by first | assumption | omega), fun G345 hCG345 hXG345 hfG345 hpG345 => ?_⟩
                    have hFG345 : WX (fun x => x = 327691 ∨ x = 327692 ∨ (f + 1 ≤ x ∧ x ≤ f + 22)) G G345 := WX.trans hFG32 (KX.trans hXG11 hXG32) (WX.mono hfG345 (fun x hx => by omega))
                    have hFIG345 : ∀ k : Nat, k < 6 → FIP P G345 262144 k := fun k hk => FIP.sm (hFIG32 k hk) hXG345 hfG345 (by show ¬ _; omega) (congrFun (hfG345 262149 (KX.al (KX.trans hXG11 hXG32) (kne k262149 (by decide))) (by show ¬ _; omega)) k)
                    have hFAG345 : FPa P G345 A := (hFAG32).wx hXG345 hfG345 ⟨KX.al (KX.trans hXG11 hXG32) (kne kA3 (by decide)), KX.al (KX.trans hXG11 hXG32) (kne kA4 (by decide))⟩ (by show ¬ _; omega) (by show ¬ _; omega) (fun p hp => by show ¬ _; omega)
                    have hFBG345 : FPa P G345 B := (hFBG32).wx hXG345 hfG345 ⟨KX.al (KX.trans hXG11 hXG32) (kne kB3 (by decide)), KX.al (KX.trans hXG11 hXG32) (kne kB4 (by decide))⟩ (by show ¬ _; omega) (by show ¬ _; omega) (fun p hp => by show ¬ _; omega)
                    have hFfG345 : FPa P G345 f := FPa.put hpG345.1 hFfG32 (fun _ _ => (hpG11.2 P ((hFA (6 + k : Int).toNat (by omega)).rps hv4 rfl) hFI (by omega)).wx hXG32 hfG32 (by show ¬ _; omega)) hXG345 hfG345 (fun p hp hn => by show ¬ _; omega)
                    show WP kX2_linkBoth X 252 [some (2, ((327682 : Nat) : Int)), some (0, k), some (2, ((A : Nat) : Int)), some (2, ((B : Nat) : Int)), some (2, ((f : Nat) : Int)), some (0, rr12), some (0, rr33), some (2, ((A : Nat) : Int)), some (2, ((B : Nat) : Int))] [] G345
                    refine s_aload dX2_linkBoth_252 rfl (Int.natCast_nonneg _) ?_
                    refine s_iload_n dX2_linkBoth_254 rfl ?_
                    refine s_aload dX2_linkBoth_255 rfl (Int.natCast_nonneg _) ?_
                    refine s_iload_n dX2_linkBoth_257 rfl ?_
                    have hk350 : gK G345 (f) = (9, 0) := ((hXG345).k hk347 (by decide))
                    refine s_callV (as := [(0, k), (2, ((A : Nat) : Int)), (0, k)]) (rest := []) (n := f) (ci := 1) gX0_putNumberOf dX2_linkBoth_258 m_1321 m_745 m_1478 m_711 m_72 ⟨by decide, by decide, show (parseMethodDescriptor yX0_putNumberOf.desc).map (fun d => d.parameters.length) = some 3 from by decide +kernel⟩ (Nat.le_of_ble_eq_true rfl) (by rw [hcf]; exact Nat.le_of_ble_eq_true rfl) hk350 rfl rfl (Nat.le_of_ble_eq_true rfl) ⟨f, k, A, k, a, b, rfl, hCG345, hab, (by first | assumption | omega), (by first | assumption | omega), (by first | assumption | omega), (by first | assumption | omega), fun G348 hCG348 hXG348 hfG348 hpG348 => ?_⟩
                    have hFG348 : WX (fun x => x = 327691 ∨ x = 327692 ∨ (f + 1 ≤ x ∧ x ≤ f + 22)) G G348 := WX.trans hFG345 (KX.trans (KX.trans hXG11 hXG32) hXG345) (WX.mono hfG348 (fun x hx => by omega))
                    have hFIG348 : ∀ k : Nat, k < 6 → FIP P G348 262144 k := fun k hk => FIP.sm (hFIG345 k hk) hXG348 hfG348 (by show ¬ _; omega) (congrFun (hfG348 262149 (KX.al (KX.trans (KX.trans hXG11 hXG32) hXG345) (kne k262149 (by decide))) (by show ¬ _; omega)) k)
                    have hFAG348 : FPa P G348 A := (hFAG345).wx hXG348 hfG348 ⟨KX.al (KX.trans (KX.trans hXG11 hXG32) hXG345) (kne kA3 (by decide)), KX.al (KX.trans (KX.trans hXG11 hXG32) hXG345) (kne kA4 (by decide))⟩ (by show ¬ _; omega) (by show ¬ _; omega) (fun p hp => by show ¬ _; omega)
                    have hFBG348 : FPa P G348 B := (hFBG345).wx hXG348 hfG348 ⟨KX.al (KX.trans (KX.trans hXG11 hXG32) hXG345) (kne kB3 (by decide)), KX.al (KX.trans (KX.trans hXG11 hXG32) hXG345) (kne kB4 (by decide))⟩ (by show ¬ _; omega) (by show ¬ _; omega) (fun p hp => by show ¬ _; omega)
                    have hFfG348 : FPa P G348 f := (hFfG345).wx hXG348 hfG348 ⟨KX.al (KX.trans (KX.trans hXG11 hXG32) hXG345) (kne kf3 (by decide)), KX.al (KX.trans (KX.trans hXG11 hXG32) hXG345) (kne kf4 (by decide))⟩ (by show ¬ _; omega) (by show ¬ _; omega) (fun p hp => by show ¬ _; omega)
                    show WP kX2_linkBoth X 261 [some (2, ((327682 : Nat) : Int)), some (0, k), some (2, ((A : Nat) : Int)), some (2, ((B : Nat) : Int)), some (2, ((f : Nat) : Int)), some (0, rr12), some (0, rr33), some (2, ((A : Nat) : Int)), some (2, ((B : Nat) : Int))] [] G348
                    refine s_iconst dX2_linkBoth_261 (by decide) ?_
                    exact s_iret hR dX2_linkBoth_262 rfl (hQ 0 G348 hCG348 (KX.trans (KX.trans (KX.trans hXG11 hXG32) hXG345) hXG348) hFG348 hFfG348)
                  · -- 214 to 217
                    refine s_aload dX2_linkBoth_217 rfl (Int.natCast_nonneg _) ?_
                    refine s_iload_n dX2_linkBoth_219 rfl ?_
                    refine s_callV (as := [(0, k)]) (rest := []) (n := B) (ci := 1) gX0_isGhost dX2_linkBoth_220 m_1323 m_741 m_1474 m_711 m_68 ⟨by decide, by decide, show (parseMethodDescriptor yX0_isGhost.desc).map (fun d => d.parameters.length) = some 1 from by decide +kernel⟩ (Nat.le_of_ble_eq_true rfl) (by rw [hcf]; exact Nat.le_of_ble_eq_true rfl) hk318 rfl rfl (Nat.le_of_ble_eq_true rfl) ⟨B, k, a, b, rfl, hCG32, hab, (by first | assumption | omega), (by first | assumption | omega), fun rr351 hp352 => ?_⟩
                    show WP kX2_linkBoth X 223 [some (2, ((327682 : Nat) : Int)), some (0, k), some (2, ((A : Nat) : Int)), some (2, ((B : Nat) : Int)), some (2, ((f : Nat) : Int)), some (0, rr12), some (0, rr33), some (2, ((A : Nat) : Int)), some (2, ((B : Nat) : Int))] [(0, rr351)] G32
                    refine s_if_ne (tgt := 233) dX2_linkBoth_223 (by decide) (fun c353 => ?_) (fun c353 => ?_)
                    · -- 223 to 233
                      refine s_aload dX2_linkBoth_233 rfl (Int.natCast_nonneg _) ?_
                      refine s_iload_n dX2_linkBoth_235 rfl ?_
                      refine s_aload dX2_linkBoth_236 rfl (Int.natCast_nonneg _) ?_
                      refine s_alv (A) (by simp) (fun al354 => ?_)
                      have hv355 : gS G32 A 2 = ((A + 2 : Nat) : Int) := by have h9 : (gS G32 A 2) = (((A % 1048576) + 2 : Nat) : Int) := hCG32.1.v (j := 2) (by rw [cde_n (by omega) (by omega)]; omega : cde A = 101) al354 (by rw [hk41]; exact Nat.le_of_ble_eq_true rfl); omega
                      refine s_getf (ci := 1) (k := 2) (C := RX0) (T := TX0) (N := 7) (n := A) (L := 0) (t := 2) dX2_linkBoth_238 rfl wi_65 m_576 (Nat.le_of_ble_eq_true rfl) rfl rfl hk41 hv355 ?_
                      refine s_iload_n dX2_linkBoth_241 rfl ?_
                      have hk356 : gK G32 (A + 2) = (1, 10) := ((hXG32).k ((hXG11).k kA2 (by decide)) (by decide))
                      refine s_iald dX2_linkBoth_242 hk356 (by omega) (by omega) rfl ?_
                      refine s_aload_n dX2_linkBoth_243 rfl (Int.natCast_nonneg _) ?_
                      have hv357 : gS G32 327682 6 = ((327691 : Nat) : Int) := by have h9 : (gS G32 327682 6) = 327691 := hCG32.1.v (j := 6) (by decide : cde 327682 = 502) al321 (by rw [hk320]; exact Nat.le_of_ble_eq_true rfl); omega
                      refine s_getf (ci := 3) (k := 6) (C := RX2) (T := TX2) (N := 8) (n := 327682) (L := 0) (t := 2) dX2_linkBoth_244 rfl wi_70 m_582 (Nat.le_of_ble_eq_true rfl) rfl rfl hk320 hv357 ?_
                      refine s_iload dX2_linkBoth_247 rfl ?_
                      have hk360 : gK G32 (f) = (9, 0) := ((hXG32).k ((hXG11).k kf0 (by decide)) (by decide))
                      refine s_callV (as := [(0, k), (0, gS G32 (A + 2) ((k : Int).toNat)), (2, ((327691 : Nat) : Int)), (0, rr12)]) (rest := []) (n := f) (ci := 1) gX0_putValue dX2_linkBoth_249 m_1320 m_750 m_1483 m_711 m_77 ⟨by decide, by decide, show (parseMethodDescriptor yX0_putValue.desc).map (fun d => d.parameters.length) = some 4 from by decide +kernel⟩ (Nat.le_of_ble_eq_true rfl) (by rw [hcf]; exact Nat.le_of_ble_eq_true rfl) hk360 rfl rfl (Nat.le_of_ble_eq_true rfl) ⟨f, k, gS G32 (A + 2) ((k : Int).toNat), 327691, 200, rr12, a, b, rfl, hCG32, hab, (by first | assumption | omega), (by first | assumption | omega), hk324, (by first | assumption | omega), (by first | assumption | omega), (by first | assumption | omega), fun G358 hCG358 hXG358 hfG358 hpG358 => ?_⟩
                      have hFG358 : WX (fun x => x = 327691 ∨ x = 327692 ∨ (f + 1 ≤ x ∧ x ≤ f + 22)) G G358 := WX.trans hFG32 (KX.trans hXG11 hXG32) (WX.mono hfG358 (fun x hx => by omega))
                      have hFIG358 : ∀ k : Nat, k < 6 → FIP P G358 262144 k := fun k hk => FIP.sm (hFIG32 k hk) hXG358 hfG358 (by show ¬ _; omega) (congrFun (hfG358 262149 (KX.al (KX.trans hXG11 hXG32) (kne k262149 (by decide))) (by show ¬ _; omega)) k)
                      have hFAG358 : FPa P G358 A := (hFAG32).wx hXG358 hfG358 ⟨KX.al (KX.trans hXG11 hXG32) (kne kA3 (by decide)), KX.al (KX.trans hXG11 hXG32) (kne kA4 (by decide))⟩ (by show ¬ _; omega) (by show ¬ _; omega) (fun p hp => by show ¬ _; omega)
                      have hFBG358 : FPa P G358 B := (hFBG32).wx hXG358 hfG358 ⟨KX.al (KX.trans hXG11 hXG32) (kne kB3 (by decide)), KX.al (KX.trans hXG11 hXG32) (kne kB4 (by decide))⟩ (by show ¬ _; omega) (by show ¬ _; omega) (fun p hp => by show ¬ _; omega)
                      have hFfG358 : FPa P G358 f := FPa.put hpG358.1 hFfG32 (fun _ _ => (hpG11.2 P ((hFA (6 + k : Int).toNat (by omega)).rps hv4 rfl) hFI (by omega)).wx hXG32 hfG32 (by show ¬ _; omega)) hXG358 hfG358 (fun p hp hn => by show ¬ _; omega)
                      show WP kX2_linkBoth X 252 [some (2, ((327682 : Nat) : Int)), some (0, k), some (2, ((A : Nat) : Int)), some (2, ((B : Nat) : Int)), some (2, ((f : Nat) : Int)), some (0, rr12), some (0, rr33), some (2, ((A : Nat) : Int)), some (2, ((B : Nat) : Int))] [] G358
                      refine s_aload dX2_linkBoth_252 rfl (Int.natCast_nonneg _) ?_
                      refine s_iload_n dX2_linkBoth_254 rfl ?_
                      refine s_aload dX2_linkBoth_255 rfl (Int.natCast_nonneg _) ?_
                      refine s_iload_n dX2_linkBoth_257 rfl ?_
                      have hk363 : gK G358 (f) = (9, 0) := ((hXG358).k hk360 (by decide))
                      refine s_callV (as := [(0, k), (2, ((A : Nat) : Int)), (0, k)]) (rest := []) (n := f) (ci := 1) gX0_putNumberOf dX2_linkBoth_258 m_1321 m_745 m_1478 m_711 m_72 ⟨by decide, by decide, show (parseMethodDescriptor yX0_putNumberOf.desc).map (fun d => d.parameters.length) = some 3 from by decide +kernel⟩ (Nat.le_of_ble_eq_true rfl) (by rw [hcf]; exact Nat.le_of_ble_eq_true rfl) hk363 rfl rfl (Nat.le_of_ble_eq_true rfl) ⟨f, k, A, k, a, b, rfl, hCG358, hab, (by first | assumption | omega), (by first | assumption | omega), (by first | assumption | omega), (by first | assumption | omega), fun G361 hCG361 hXG361 hfG361 hpG361 => ?_⟩
                      have hFG361 : WX (fun x => x = 327691 ∨ x = 327692 ∨ (f + 1 ≤ x ∧ x ≤ f + 22)) G G361 := WX.trans hFG358 (KX.trans (KX.trans hXG11 hXG32) hXG358) (WX.mono hfG361 (fun x hx => by omega))
                      have hFIG361 : ∀ k : Nat, k < 6 → FIP P G361 262144 k := fun k hk => FIP.sm (hFIG358 k hk) hXG361 hfG361 (by show ¬ _; omega) (congrFun (hfG361 262149 (KX.al (KX.trans (KX.trans hXG11 hXG32) hXG358) (kne k262149 (by decide))) (by show ¬ _; omega)) k)
                      have hFAG361 : FPa P G361 A := (hFAG358).wx hXG361 hfG361 ⟨KX.al (KX.trans (KX.trans hXG11 hXG32) hXG358) (kne kA3 (by decide)), KX.al (KX.trans (KX.trans hXG11 hXG32) hXG358) (kne kA4 (by decide))⟩ (by show ¬ _; omega) (by show ¬ _; omega) (fun p hp => by show ¬ _; omega)
                      have hFBG361 : FPa P G361 B := (hFBG358).wx hXG361 hfG361 ⟨KX.al (KX.trans (KX.trans hXG11 hXG32) hXG358) (kne kB3 (by decide)), KX.al (KX.trans (KX.trans hXG11 hXG32) hXG358) (kne kB4 (by decide))⟩ (by show ¬ _; omega) (by show ¬ _; omega) (fun p hp => by show ¬ _; omega)
                      have hFfG361 : FPa P G361 f := (hFfG358).wx hXG361 hfG361 ⟨KX.al (KX.trans (KX.trans hXG11 hXG32) hXG358) (kne kf3 (by decide)), KX.al (KX.trans (KX.trans hXG11 hXG32) hXG358) (kne kf4 (by decide))⟩ (by show ¬ _; omega) (by show ¬ _; omega) (fun p hp => by show ¬ _; omega)
                      show WP kX2_linkBoth X 261 [some (2, ((327682 : Nat) : Int)), some (0, k), some (2, ((A : Nat) : Int)), some (2, ((B : Nat) : Int)), some (2, ((f : Nat) : Int)), some (0, rr12), some (0, rr33), some (2, ((A : Nat) : Int)), some (2, ((B : Nat) : Int))] [] G361
                      refine s_iconst dX2_linkBoth_261 (by decide) ?_
                      exact s_iret hR dX2_linkBoth_262 rfl (hQ 0 G361 hCG361 (KX.trans (KX.trans (KX.trans hXG11 hXG32) hXG358) hXG361) hFG361 hFfG361)
                    · -- 223 to 226
                      refine s_bipush dX2_linkBoth_226 rfl (by decide) ?_
                      refine s_iload_n dX2_linkBoth_228 rfl ?_
                      refine s_callSN (own := RX2) rfl (by decide +kernel) (as := [(0, 6), (0, k)]) (rest := []) gX11_valueMistake dX2_linkBoth_229 m_1784 m_714 m_129 ⟨by decide, by decide, show (parseMethodDescriptor yX11_valueMistake.desc).map (fun d => d.parameters.length) = some 2 from by decide +kernel⟩ (Nat.le_of_ble_eq_true rfl) (by rw [hcf]; exact Nat.le_of_ble_eq_true rfl) rfl (Nat.le_of_ble_eq_true rfl) ⟨6, k, rfl, (by first | assumption | omega), (by first | assumption | omega), fun rr364 hp365 => ?_⟩
                      show WP kX2_linkBoth X 232 [some (2, ((327682 : Nat) : Int)), some (0, k), some (2, ((A : Nat) : Int)), some (2, ((B : Nat) : Int)), some (2, ((f : Nat) : Int)), some (0, rr12), some (0, rr33), some (2, ((A : Nat) : Int)), some (2, ((B : Nat) : Int))] [(0, rr364)] G32
                      exact s_iret hR dX2_linkBoth_232 rfl (hQ rr364 G32 hCG32 (KX.trans hXG11 hXG32) hFG32 hFfG32)
                · -- 198 to 201
                  refine s_aload_n dX2_linkBoth_201 rfl (Int.natCast_nonneg _) ?_
                  refine s_goto (tgt := 206) dX2_linkBoth_202 (by decide) ?_
                  refine s_astore (Int.natCast_nonneg _) dX2_linkBoth_206 (by decide) (lv' := [some (2, ((327682 : Nat) : Int)), some (0, k), some (2, ((A : Nat) : Int)), some (2, ((B : Nat) : Int)), some (2, ((f : Nat) : Int)), some (0, rr12), some (0, rr33), some (2, ((A : Nat) : Int)), some (2, ((A : Nat) : Int))]) rfl ?_
                  refine s_aload dX2_linkBoth_208 rfl (Int.natCast_nonneg _) ?_
                  refine s_iload_n dX2_linkBoth_210 rfl ?_
                  refine s_callV (as := [(0, k)]) (rest := []) (n := A) (ci := 1) gX0_isGhost dX2_linkBoth_211 m_1323 m_741 m_1474 m_711 m_68 ⟨by decide, by decide, show (parseMethodDescriptor yX0_isGhost.desc).map (fun d => d.parameters.length) = some 1 from by decide +kernel⟩ (Nat.le_of_ble_eq_true rfl) (by rw [hcf]; exact Nat.le_of_ble_eq_true rfl) hk41 rfl rfl (Nat.le_of_ble_eq_true rfl) ⟨A, k, a, b, rfl, hCG32, hab, (by first | assumption | omega), (by first | assumption | omega), fun rr366 hp367 => ?_⟩
                  show WP kX2_linkBoth X 214 [some (2, ((327682 : Nat) : Int)), some (0, k), some (2, ((A : Nat) : Int)), some (2, ((B : Nat) : Int)), some (2, ((f : Nat) : Int)), some (0, rr12), some (0, rr33), some (2, ((A : Nat) : Int)), some (2, ((A : Nat) : Int))] [(0, rr366)] G32
                  refine s_if_eq (tgt := 233) dX2_linkBoth_214 (by decide) (fun c368 => ?_) (fun c368 => ?_)
                  · -- 214 to 233
                    refine s_aload dX2_linkBoth_233 rfl (Int.natCast_nonneg _) ?_
                    refine s_iload_n dX2_linkBoth_235 rfl ?_
                    refine s_aload dX2_linkBoth_236 rfl (Int.natCast_nonneg _) ?_
                    refine s_alv (A) (by simp) (fun al369 => ?_)
                    have hv370 : gS G32 A 2 = ((A + 2 : Nat) : Int) := by have h9 : (gS G32 A 2) = (((A % 1048576) + 2 : Nat) : Int) := hCG32.1.v (j := 2) (by rw [cde_n (by omega) (by omega)]; omega : cde A = 101) al369 (by rw [hk41]; exact Nat.le_of_ble_eq_true rfl); omega
                    refine s_getf (ci := 1) (k := 2) (C := RX0) (T := TX0) (N := 7) (n := A) (L := 0) (t := 2) dX2_linkBoth_238 rfl wi_65 m_576 (Nat.le_of_ble_eq_true rfl) rfl rfl hk41 hv370 ?_
                    refine s_iload_n dX2_linkBoth_241 rfl ?_
                    have hk371 : gK G32 (A + 2) = (1, 10) := ((hXG32).k ((hXG11).k kA2 (by decide)) (by decide))
                    refine s_iald dX2_linkBoth_242 hk371 (by omega) (by omega) rfl ?_
                    refine s_aload_n dX2_linkBoth_243 rfl (Int.natCast_nonneg _) ?_
                    have hv372 : gS G32 327682 6 = ((327691 : Nat) : Int) := by have h9 : (gS G32 327682 6) = 327691 := hCG32.1.v (j := 6) (by decide : cde 327682 = 502) al321 (by rw [hk320]; exact Nat.le_of_ble_eq_true rfl); omega
                    refine s_getf (ci := 3) (k := 6) (C := RX2) (T := TX2) (N := 8) (n := 327682) (L := 0) (t := 2) dX2_linkBoth_244 rfl wi_70 m_582 (Nat.le_of_ble_eq_true rfl) rfl rfl hk320 hv372 ?_
                    refine s_iload dX2_linkBoth_247 rfl ?_
                    have hk375 : gK G32 (f) = (9, 0) := ((hXG32).k ((hXG11).k kf0 (by decide)) (by decide))
                    refine s_callV (as := [(0, k), (0, gS G32 (A + 2) ((k : Int).toNat)), (2, ((327691 : Nat) : Int)), (0, rr12)]) (rest := []) (n := f) (ci := 1) gX0_putValue dX2_linkBoth_249 m_1320 m_750 m_1483 m_711 m_77 ⟨by decide, by decide, show (parseMethodDescriptor yX0_putValue.desc).map (fun d => d.parameters.length) = some 4 from by decide +kernel⟩ (Nat.le_of_ble_eq_true rfl) (by rw [hcf]; exact Nat.le_of_ble_eq_true rfl) hk375 rfl rfl (Nat.le_of_ble_eq_true rfl) ⟨f, k, gS G32 (A + 2) ((k : Int).toNat), 327691, 200, rr12, a, b, rfl, hCG32, hab, (by first | assumption | omega), (by first | assumption | omega), hk324, (by first | assumption | omega), (by first | assumption | omega), (by first | assumption | omega), fun G373 hCG373 hXG373 hfG373 hpG373 => ?_⟩
                    have hFG373 : WX (fun x => x = 327691 ∨ x = 327692 ∨ (f + 1 ≤ x ∧ x ≤ f + 22)) G G373 := WX.trans hFG32 (KX.trans hXG11 hXG32) (WX.mono hfG373 (fun x hx => by omega))
                    have hFIG373 : ∀ k : Nat, k < 6 → FIP P G373 262144 k := fun k hk => FIP.sm (hFIG32 k hk) hXG373 hfG373 (by show ¬ _; omega) (congrFun (hfG373 262149 (KX.al (KX.trans hXG11 hXG32) (kne k262149 (by decide))) (by show ¬ _; omega)) k)
                    have hFAG373 : FPa P G373 A := (hFAG32).wx hXG373 hfG373 ⟨KX.al (KX.trans hXG11 hXG32) (kne kA3 (by decide)), KX.al (KX.trans hXG11 hXG32) (kne kA4 (by decide))⟩ (by show ¬ _; omega) (by show ¬ _; omega) (fun p hp => by show ¬ _; omega)
                    have hFBG373 : FPa P G373 B := (hFBG32).wx hXG373 hfG373 ⟨KX.al (KX.trans hXG11 hXG32) (kne kB3 (by decide)), KX.al (KX.trans hXG11 hXG32) (kne kB4 (by decide))⟩ (by show ¬ _; omega) (by show ¬ _; omega) (fun p hp => by show ¬ _; omega)
                    have hFfG373 : FPa P G373 f := FPa.put hpG373.1 hFfG32 (fun _ _ => (hpG11.2 P ((hFA (6 + k : Int).toNat (by omega)).rps hv4 rfl) hFI (by omega)).wx hXG32 hfG32 (by show ¬ _; omega)) hXG373 hfG373 (fun p hp hn => by show ¬ _; omega)
                    show WP kX2_linkBoth X 252 [some (2, ((327682 : Nat) : Int)), some (0, k), some (2, ((A : Nat) : Int)), some (2, ((B : Nat) : Int)), some (2, ((f : Nat) : Int)), some (0, rr12), some (0, rr33), some (2, ((A : Nat) : Int)), some (2, ((A : Nat) : Int))] [] G373
                    refine s_aload dX2_linkBoth_252 rfl (Int.natCast_nonneg _) ?_
                    refine s_iload_n dX2_linkBoth_254 rfl ?_
                    refine s_aload dX2_linkBoth_255 rfl (Int.natCast_nonneg _) ?_
                    refine s_iload_n dX2_linkBoth_257 rfl ?_
                    have hk378 : gK G373 (f) = (9, 0) := ((hXG373).k hk375 (by decide))
                    refine s_callV (as := [(0, k), (2, ((A : Nat) : Int)), (0, k)]) (rest := []) (n := f) (ci := 1) gX0_putNumberOf dX2_linkBoth_258 m_1321 m_745 m_1478 m_711 m_72 ⟨by decide, by decide, show (parseMethodDescriptor yX0_putNumberOf.desc).map (fun d => d.parameters.length) = some 3 from by decide +kernel⟩ (Nat.le_of_ble_eq_true rfl) (by rw [hcf]; exact Nat.le_of_ble_eq_true rfl) hk378 rfl rfl (Nat.le_of_ble_eq_true rfl) ⟨f, k, A, k, a, b, rfl, hCG373, hab, (by first | assumption | omega), (by first | assumption | omega), (by first | assumption | omega), (by first | assumption | omega), fun G376 hCG376 hXG376 hfG376 hpG376 => ?_⟩
                    have hFG376 : WX (fun x => x = 327691 ∨ x = 327692 ∨ (f + 1 ≤ x ∧ x ≤ f + 22)) G G376 := WX.trans hFG373 (KX.trans (KX.trans hXG11 hXG32) hXG373) (WX.mono hfG376 (fun x hx => by omega))
                    have hFIG376 : ∀ k : Nat, k < 6 → FIP P G376 262144 k := fun k hk => FIP.sm (hFIG373 k hk) hXG376 hfG376 (by show ¬ _; omega) (congrFun (hfG376 262149 (KX.al (KX.trans (KX.trans hXG11 hXG32) hXG373) (kne k262149 (by decide))) (by show ¬ _; omega)) k)
                    have hFAG376 : FPa P G376 A := (hFAG373).wx hXG376 hfG376 ⟨KX.al (KX.trans (KX.trans hXG11 hXG32) hXG373) (kne kA3 (by decide)), KX.al (KX.trans (KX.trans hXG11 hXG32) hXG373) (kne kA4 (by decide))⟩ (by show ¬ _; omega) (by show ¬ _; omega) (fun p hp => by show ¬ _; omega)
                    have hFBG376 : FPa P G376 B := (hFBG373).wx hXG376 hfG376 ⟨KX.al (KX.trans (KX.trans hXG11 hXG32) hXG373) (kne kB3 (by decide)), KX.al (KX.trans (KX.trans hXG11 hXG32) hXG373) (kne kB4 (by decide))⟩ (by show ¬ _; omega) (by show ¬ _; omega) (fun p hp => by show ¬ _; omega)
                    have hFfG376 : FPa P G376 f := (hFfG373).wx hXG376 hfG376 ⟨KX.al (KX.trans (KX.trans hXG11 hXG32) hXG373) (kne kf3 (by decide)), KX.al (KX.trans (KX.trans hXG11 hXG32) hXG373) (kne kf4 (by decide))⟩ (by show ¬ _; omega) (by show ¬ _; omega) (fun p hp => by show ¬ _; omega)
                    show WP kX2_linkBoth X 261 [some (2, ((327682 : Nat) : Int)), some (0, k), some (2, ((A : Nat) : Int)), some (2, ((B : Nat) : Int)), some (2, ((f : Nat) : Int)), some (0, rr12), some (0, rr33), some (2, ((A : Nat) : Int)), some (2, ((A : Nat) : Int))] [] G376
                    refine s_iconst dX2_linkBoth_261 (by decide) ?_
                    exact s_iret hR dX2_linkBoth_262 rfl (hQ 0 G376 hCG376 (KX.trans (KX.trans (KX.trans hXG11 hXG32) hXG373) hXG376) hFG376 hFfG376)
                  · -- 214 to 217
                    refine s_aload dX2_linkBoth_217 rfl (Int.natCast_nonneg _) ?_
                    refine s_iload_n dX2_linkBoth_219 rfl ?_
                    refine s_callV (as := [(0, k)]) (rest := []) (n := A) (ci := 1) gX0_isGhost dX2_linkBoth_220 m_1323 m_741 m_1474 m_711 m_68 ⟨by decide, by decide, show (parseMethodDescriptor yX0_isGhost.desc).map (fun d => d.parameters.length) = some 1 from by decide +kernel⟩ (Nat.le_of_ble_eq_true rfl) (by rw [hcf]; exact Nat.le_of_ble_eq_true rfl) hk41 rfl rfl (Nat.le_of_ble_eq_true rfl) ⟨A, k, a, b, rfl, hCG32, hab, (by first | assumption | omega), (by first | assumption | omega), fun rr379 hp380 => ?_⟩
                    show WP kX2_linkBoth X 223 [some (2, ((327682 : Nat) : Int)), some (0, k), some (2, ((A : Nat) : Int)), some (2, ((B : Nat) : Int)), some (2, ((f : Nat) : Int)), some (0, rr12), some (0, rr33), some (2, ((A : Nat) : Int)), some (2, ((A : Nat) : Int))] [(0, rr379)] G32
                    refine s_if_ne (tgt := 233) dX2_linkBoth_223 (by decide) (fun c381 => ?_) (fun c381 => ?_)
                    · -- 223 to 233
                      refine s_aload dX2_linkBoth_233 rfl (Int.natCast_nonneg _) ?_
                      refine s_iload_n dX2_linkBoth_235 rfl ?_
                      refine s_aload dX2_linkBoth_236 rfl (Int.natCast_nonneg _) ?_
                      refine s_alv (A) (by simp) (fun al382 => ?_)
                      have hv383 : gS G32 A 2 = ((A + 2 : Nat) : Int) := by have h9 : (gS G32 A 2) = (((A % 1048576) + 2 : Nat) : Int) := hCG32.1.v (j := 2) (by rw [cde_n (by omega) (by omega)]; omega : cde A = 101) al382 (by rw [hk41]; exact Nat.le_of_ble_eq_true rfl); omega
                      refine s_getf (ci := 1) (k := 2) (C := RX0) (T := TX0) (N := 7) (n := A) (L := 0) (t := 2) dX2_linkBoth_238 rfl wi_65 m_576 (Nat.le_of_ble_eq_true rfl) rfl rfl hk41 hv383 ?_
                      refine s_iload_n dX2_linkBoth_241 rfl ?_
                      have hk384 : gK G32 (A + 2) = (1, 10) := ((hXG32).k ((hXG11).k kA2 (by decide)) (by decide))
                      refine s_iald dX2_linkBoth_242 hk384 (by omega) (by omega) rfl ?_
                      refine s_aload_n dX2_linkBoth_243 rfl (Int.natCast_nonneg _) ?_
                      have hv385 : gS G32 327682 6 = ((327691 : Nat) : Int) := by have h9 : (gS G32 327682 6) = 327691 := hCG32.1.v (j := 6) (by decide : cde 327682 = 502) al321 (by rw [hk320]; exact Nat.le_of_ble_eq_true rfl); omega
                      refine s_getf (ci := 3) (k := 6) (C := RX2) (T := TX2) (N := 8) (n := 327682) (L := 0) (t := 2) dX2_linkBoth_244 rfl wi_70 m_582 (Nat.le_of_ble_eq_true rfl) rfl rfl hk320 hv385 ?_
                      refine s_iload dX2_linkBoth_247 rfl ?_
                      have hk388 : gK G32 (f) = (9, 0) := ((hXG32).k ((hXG11).k kf0 (by decide)) (by decide))
                      refine s_callV (as := [(0, k), (0, gS G32 (A + 2) ((k : Int).toNat)), (2, ((327691 : Nat) : Int)), (0, rr12)]) (rest := []) (n := f) (ci := 1) gX0_putValue dX2_linkBoth_249 m_1320 m_750 m_1483 m_711 m_77 ⟨by decide, by decide, show (parseMethodDescriptor yX0_putValue.desc).map (fun d => d.parameters.length) = some 4 from by decide +kernel⟩ (Nat.le_of_ble_eq_true rfl) (by rw [hcf]; exact Nat.le_of_ble_eq_true rfl) hk388 rfl rfl (Nat.le_of_ble_eq_true rfl) ⟨f, k, gS G32 (A + 2) ((k : Int).toNat), 327691, 200, rr12, a, b, rfl, hCG32, hab, (by first | assumption | omega), (by first | assumption | omega), hk324, (by first | assumption | omega), (by first | assumption | omega), (by first | assumption | omega), fun G386 hCG386 hXG386 hfG386 hpG386 => ?_⟩
                      have hFG386 : WX (fun x => x = 327691 ∨ x = 327692 ∨ (f + 1 ≤ x ∧ x ≤ f + 22)) G G386 := WX.trans hFG32 (KX.trans hXG11 hXG32) (WX.mono hfG386 (fun x hx => by omega))
                      have hFIG386 : ∀ k : Nat, k < 6 → FIP P G386 262144 k := fun k hk => FIP.sm (hFIG32 k hk) hXG386 hfG386 (by show ¬ _; omega) (congrFun (hfG386 262149 (KX.al (KX.trans hXG11 hXG32) (kne k262149 (by decide))) (by show ¬ _; omega)) k)
                      have hFAG386 : FPa P G386 A := (hFAG32).wx hXG386 hfG386 ⟨KX.al (KX.trans hXG11 hXG32) (kne kA3 (by decide)), KX.al (KX.trans hXG11 hXG32) (kne kA4 (by decide))⟩ (by show ¬ _; omega) (by show ¬ _; omega) (fun p hp => by show ¬ _; omega)
                      have hFBG386 : FPa P G386 B := (hFBG32).wx hXG386 hfG386 ⟨KX.al (KX.trans hXG11 hXG32) (kne kB3 (by decide)), KX.al (KX.trans hXG11 hXG32) (kne kB4 (by decide))⟩ (by show ¬ _; omega) (by show ¬ _; omega) (fun p hp => by show ¬ _; omega)
                      have hFfG386 : FPa P G386 f := FPa.put hpG386.1 hFfG32 (fun _ _ => (hpG11.2 P ((hFA (6 + k : Int).toNat (by omega)).rps hv4 rfl) hFI (by omega)).wx hXG32 hfG32 (by show ¬ _; omega)) hXG386 hfG386 (fun p hp hn => by show ¬ _; omega)
                      show WP kX2_linkBoth X 252 [some (2, ((327682 : Nat) : Int)), some (0, k), some (2, ((A : Nat) : Int)), some (2, ((B : Nat) : Int)), some (2, ((f : Nat) : Int)), some (0, rr12), some (0, rr33), some (2, ((A : Nat) : Int)), some (2, ((A : Nat) : Int))] [] G386
                      refine s_aload dX2_linkBoth_252 rfl (Int.natCast_nonneg _) ?_
                      refine s_iload_n dX2_linkBoth_254 rfl ?_
                      refine s_aload dX2_linkBoth_255 rfl (Int.natCast_nonneg _) ?_
                      refine s_iload_n dX2_linkBoth_257 rfl ?_
                      have hk391 : gK G386 (f) = (9, 0) := ((hXG386).k hk388 (by decide))
                      refine s_callV (as := [(0, k), (2, ((A : Nat) : Int)), (0, k)]) (rest := []) (n := f) (ci := 1) gX0_putNumberOf dX2_linkBoth_258 m_1321 m_745 m_1478 m_711 m_72 ⟨by decide, by decide, show (parseMethodDescriptor yX0_putNumberOf.desc).map (fun d => d.parameters.length) = some 3 from by decide +kernel⟩ (Nat.le_of_ble_eq_true rfl) (by rw [hcf]; exact Nat.le_of_ble_eq_true rfl) hk391 rfl rfl (Nat.le_of_ble_eq_true rfl) ⟨f, k, A, k, a, b, rfl, hCG386, hab, (by first | assumption | omega), (by first | assumption | omega), (by first | assumption | omega), (by first | assumption | omega), fun G389 hCG389 hXG389 hfG389 hpG389 => ?_⟩
                      have hFG389 : WX (fun x => x = 327691 ∨ x = 327692 ∨ (f + 1 ≤ x ∧ x ≤ f + 22)) G G389 := WX.trans hFG386 (KX.trans (KX.trans hXG11 hXG32) hXG386) (WX.mono hfG389 (fun x hx => by omega))
                      have hFIG389 : ∀ k : Nat, k < 6 → FIP P G389 262144 k := fun k hk => FIP.sm (hFIG386 k hk) hXG389 hfG389 (by show ¬ _; omega) (congrFun (hfG389 262149 (KX.al (KX.trans (KX.trans hXG11 hXG32) hXG386) (kne k262149 (by decide))) (by show ¬ _; omega)) k)
                      have hFAG389 : FPa P G389 A := (hFAG386).wx hXG389 hfG389 ⟨KX.al (KX.trans (KX.trans hXG11 hXG32) hXG386) (kne kA3 (by decide)), KX.al (KX.trans (KX.trans hXG11 hXG32) hXG386) (kne kA4 (by decide))⟩ (by show ¬ _; omega) (by show ¬ _; omega) (fun p hp => by show ¬ _; omega)
                      have hFBG389 : FPa P G389 B := (hFBG386).wx hXG389 hfG389 ⟨KX.al (KX.trans (KX.trans hXG11 hXG32) hXG386) (kne kB3 (by decide)), KX.al (KX.trans (KX.trans hXG11 hXG32) hXG386) (kne kB4 (by decide))⟩ (by show ¬ _; omega) (by show ¬ _; omega) (fun p hp => by show ¬ _; omega)
                      have hFfG389 : FPa P G389 f := (hFfG386).wx hXG389 hfG389 ⟨KX.al (KX.trans (KX.trans hXG11 hXG32) hXG386) (kne kf3 (by decide)), KX.al (KX.trans (KX.trans hXG11 hXG32) hXG386) (kne kf4 (by decide))⟩ (by show ¬ _; omega) (by show ¬ _; omega) (fun p hp => by show ¬ _; omega)
                      show WP kX2_linkBoth X 261 [some (2, ((327682 : Nat) : Int)), some (0, k), some (2, ((A : Nat) : Int)), some (2, ((B : Nat) : Int)), some (2, ((f : Nat) : Int)), some (0, rr12), some (0, rr33), some (2, ((A : Nat) : Int)), some (2, ((A : Nat) : Int))] [] G389
                      refine s_iconst dX2_linkBoth_261 (by decide) ?_
                      exact s_iret hR dX2_linkBoth_262 rfl (hQ 0 G389 hCG389 (KX.trans (KX.trans (KX.trans hXG11 hXG32) hXG386) hXG389) hFG389 hFfG389)
                    · -- 223 to 226
                      refine s_bipush dX2_linkBoth_226 rfl (by decide) ?_
                      refine s_iload_n dX2_linkBoth_228 rfl ?_
                      refine s_callSN (own := RX2) rfl (by decide +kernel) (as := [(0, 6), (0, k)]) (rest := []) gX11_valueMistake dX2_linkBoth_229 m_1784 m_714 m_129 ⟨by decide, by decide, show (parseMethodDescriptor yX11_valueMistake.desc).map (fun d => d.parameters.length) = some 2 from by decide +kernel⟩ (Nat.le_of_ble_eq_true rfl) (by rw [hcf]; exact Nat.le_of_ble_eq_true rfl) rfl (Nat.le_of_ble_eq_true rfl) ⟨6, k, rfl, (by first | assumption | omega), (by first | assumption | omega), fun rr392 hp393 => ?_⟩
                      show WP kX2_linkBoth X 232 [some (2, ((327682 : Nat) : Int)), some (0, k), some (2, ((A : Nat) : Int)), some (2, ((B : Nat) : Int)), some (2, ((f : Nat) : Int)), some (0, rr12), some (0, rr33), some (2, ((A : Nat) : Int)), some (2, ((A : Nat) : Int))] [(0, rr392)] G32
                      exact s_iret hR dX2_linkBoth_232 rfl (hQ rr392 G32 hCG32 (KX.trans hXG11 hXG32) hFG32 hFfG32)
              · -- 183 to 186
                refine s_aload_n dX2_linkBoth_186 rfl (Int.natCast_nonneg _) ?_
                refine s_goto (tgt := 191) dX2_linkBoth_187 (by decide) ?_
                refine s_astore (Int.natCast_nonneg _) dX2_linkBoth_191 (by decide) (lv' := [some (2, ((327682 : Nat) : Int)), some (0, k), some (2, ((A : Nat) : Int)), some (2, ((B : Nat) : Int)), some (2, ((f : Nat) : Int)), some (0, rr12), some (0, rr33), some (2, ((B : Nat) : Int)), none]) rfl ?_
                refine s_aload_n dX2_linkBoth_193 rfl (Int.natCast_nonneg _) ?_
                refine s_iload_n dX2_linkBoth_194 rfl ?_
                refine s_callV (as := [(0, k)]) (rest := []) (n := A) (ci := 1) gX0_isValueHole dX2_linkBoth_195 m_1322 m_743 m_1476 m_711 m_70 ⟨by decide, by decide, show (parseMethodDescriptor yX0_isValueHole.desc).map (fun d => d.parameters.length) = some 1 from by decide +kernel⟩ (Nat.le_of_ble_eq_true rfl) (by rw [hcf]; exact Nat.le_of_ble_eq_true rfl) hk41 rfl rfl (Nat.le_of_ble_eq_true rfl) ⟨A, k, a, b, rfl, hCG32, hab, (by first | assumption | omega), (by first | assumption | omega), fun rr394 hp395 => ?_⟩
                show WP kX2_linkBoth X 198 [some (2, ((327682 : Nat) : Int)), some (0, k), some (2, ((A : Nat) : Int)), some (2, ((B : Nat) : Int)), some (2, ((f : Nat) : Int)), some (0, rr12), some (0, rr33), some (2, ((B : Nat) : Int)), none] [(0, rr394)] G32
                refine s_if_eq (tgt := 205) dX2_linkBoth_198 (by decide) (fun c396 => ?_) (fun c396 => ?_)
                · -- 198 to 205
                  refine s_aload_n dX2_linkBoth_205 rfl (Int.natCast_nonneg _) ?_
                  refine s_astore (Int.natCast_nonneg _) dX2_linkBoth_206 (by decide) (lv' := [some (2, ((327682 : Nat) : Int)), some (0, k), some (2, ((A : Nat) : Int)), some (2, ((B : Nat) : Int)), some (2, ((f : Nat) : Int)), some (0, rr12), some (0, rr33), some (2, ((B : Nat) : Int)), some (2, ((B : Nat) : Int))]) rfl ?_
                  refine s_aload dX2_linkBoth_208 rfl (Int.natCast_nonneg _) ?_
                  refine s_iload_n dX2_linkBoth_210 rfl ?_
                  refine s_callV (as := [(0, k)]) (rest := []) (n := B) (ci := 1) gX0_isGhost dX2_linkBoth_211 m_1323 m_741 m_1474 m_711 m_68 ⟨by decide, by decide, show (parseMethodDescriptor yX0_isGhost.desc).map (fun d => d.parameters.length) = some 1 from by decide +kernel⟩ (Nat.le_of_ble_eq_true rfl) (by rw [hcf]; exact Nat.le_of_ble_eq_true rfl) hk318 rfl rfl (Nat.le_of_ble_eq_true rfl) ⟨B, k, a, b, rfl, hCG32, hab, (by first | assumption | omega), (by first | assumption | omega), fun rr397 hp398 => ?_⟩
                  show WP kX2_linkBoth X 214 [some (2, ((327682 : Nat) : Int)), some (0, k), some (2, ((A : Nat) : Int)), some (2, ((B : Nat) : Int)), some (2, ((f : Nat) : Int)), some (0, rr12), some (0, rr33), some (2, ((B : Nat) : Int)), some (2, ((B : Nat) : Int))] [(0, rr397)] G32
                  refine s_if_eq (tgt := 233) dX2_linkBoth_214 (by decide) (fun c399 => ?_) (fun c399 => ?_)
                  · -- 214 to 233
                    refine s_aload dX2_linkBoth_233 rfl (Int.natCast_nonneg _) ?_
                    refine s_iload_n dX2_linkBoth_235 rfl ?_
                    refine s_aload dX2_linkBoth_236 rfl (Int.natCast_nonneg _) ?_
                    refine s_alv (B) (by simp) (fun al400 => ?_)
                    have hv401 : gS G32 B 2 = ((B + 2 : Nat) : Int) := by have h9 : (gS G32 B 2) = (((B % 1048576) + 2 : Nat) : Int) := hCG32.1.v (j := 2) (by rw [cde_n (by omega) (by omega)]; omega : cde B = 101) al400 (by rw [hk318]; exact Nat.le_of_ble_eq_true rfl); omega
                    refine s_getf (ci := 1) (k := 2) (C := RX0) (T := TX0) (N := 7) (n := B) (L := 0) (t := 2) dX2_linkBoth_238 rfl wi_65 m_576 (Nat.le_of_ble_eq_true rfl) rfl rfl hk318 hv401 ?_
                    refine s_iload_n dX2_linkBoth_241 rfl ?_
                    have hk402 : gK G32 (B + 2) = (1, 10) := ((hXG32).k ((hXG11).k kB2 (by decide)) (by decide))
                    refine s_iald dX2_linkBoth_242 hk402 (by omega) (by omega) rfl ?_
                    refine s_aload_n dX2_linkBoth_243 rfl (Int.natCast_nonneg _) ?_
                    have hv403 : gS G32 327682 6 = ((327691 : Nat) : Int) := by have h9 : (gS G32 327682 6) = 327691 := hCG32.1.v (j := 6) (by decide : cde 327682 = 502) al321 (by rw [hk320]; exact Nat.le_of_ble_eq_true rfl); omega
                    refine s_getf (ci := 3) (k := 6) (C := RX2) (T := TX2) (N := 8) (n := 327682) (L := 0) (t := 2) dX2_linkBoth_244 rfl wi_70 m_582 (Nat.le_of_ble_eq_true rfl) rfl rfl hk320 hv403 ?_
                    refine s_iload dX2_linkBoth_247 rfl ?_
                    have hk406 : gK G32 (f) = (9, 0) := ((hXG32).k ((hXG11).k kf0 (by decide)) (by decide))
                    refine s_callV (as := [(0, k), (0, gS G32 (B + 2) ((k : Int).toNat)), (2, ((327691 : Nat) : Int)), (0, rr12)]) (rest := []) (n := f) (ci := 1) gX0_putValue dX2_linkBoth_249 m_1320 m_750 m_1483 m_711 m_77 ⟨by decide, by decide, show (parseMethodDescriptor yX0_putValue.desc).map (fun d => d.parameters.length) = some 4 from by decide +kernel⟩ (Nat.le_of_ble_eq_true rfl) (by rw [hcf]; exact Nat.le_of_ble_eq_true rfl) hk406 rfl rfl (Nat.le_of_ble_eq_true rfl) ⟨f, k, gS G32 (B + 2) ((k : Int).toNat), 327691, 200, rr12, a, b, rfl, hCG32, hab, (by first | assumption | omega), (by first | assumption | omega), hk324, (by first | assumption | omega), (by first | assumption | omega), (by first | assumption | omega), fun G404 hCG404 hXG404 hfG404 hpG404 => ?_⟩
                    have hFG404 : WX (fun x => x = 327691 ∨ x = 327692 ∨ (f + 1 ≤ x ∧ x ≤ f + 22)) G G404 := WX.trans hFG32 (KX.trans hXG11 hXG32) (WX.mono hfG404 (fun x hx => by omega))
                    have hFIG404 : ∀ k : Nat, k < 6 → FIP P G404 262144 k := fun k hk => FIP.sm (hFIG32 k hk) hXG404 hfG404 (by show ¬ _; omega) (congrFun (hfG404 262149 (KX.al (KX.trans hXG11 hXG32) (kne k262149 (by decide))) (by show ¬ _; omega)) k)
                    have hFAG404 : FPa P G404 A := (hFAG32).wx hXG404 hfG404 ⟨KX.al (KX.trans hXG11 hXG32) (kne kA3 (by decide)), KX.al (KX.trans hXG11 hXG32) (kne kA4 (by decide))⟩ (by show ¬ _; omega) (by show ¬ _; omega) (fun p hp => by show ¬ _; omega)
                    have hFBG404 : FPa P G404 B := (hFBG32).wx hXG404 hfG404 ⟨KX.al (KX.trans hXG11 hXG32) (kne kB3 (by decide)), KX.al (KX.trans hXG11 hXG32) (kne kB4 (by decide))⟩ (by show ¬ _; omega) (by show ¬ _; omega) (fun p hp => by show ¬ _; omega)
                    have hFfG404 : FPa P G404 f := FPa.put hpG404.1 hFfG32 (fun _ _ => (hpG11.2 P ((hFA (6 + k : Int).toNat (by omega)).rps hv4 rfl) hFI (by omega)).wx hXG32 hfG32 (by show ¬ _; omega)) hXG404 hfG404 (fun p hp hn => by show ¬ _; omega)
                    show WP kX2_linkBoth X 252 [some (2, ((327682 : Nat) : Int)), some (0, k), some (2, ((A : Nat) : Int)), some (2, ((B : Nat) : Int)), some (2, ((f : Nat) : Int)), some (0, rr12), some (0, rr33), some (2, ((B : Nat) : Int)), some (2, ((B : Nat) : Int))] [] G404
                    refine s_aload dX2_linkBoth_252 rfl (Int.natCast_nonneg _) ?_
                    refine s_iload_n dX2_linkBoth_254 rfl ?_
                    refine s_aload dX2_linkBoth_255 rfl (Int.natCast_nonneg _) ?_
                    refine s_iload_n dX2_linkBoth_257 rfl ?_
                    have hk409 : gK G404 (f) = (9, 0) := ((hXG404).k hk406 (by decide))
                    refine s_callV (as := [(0, k), (2, ((B : Nat) : Int)), (0, k)]) (rest := []) (n := f) (ci := 1) gX0_putNumberOf dX2_linkBoth_258 m_1321 m_745 m_1478 m_711 m_72 ⟨by decide, by decide, show (parseMethodDescriptor yX0_putNumberOf.desc).map (fun d => d.parameters.length) = some 3 from by decide +kernel⟩ (Nat.le_of_ble_eq_true rfl) (by rw [hcf]; exact Nat.le_of_ble_eq_true rfl) hk409 rfl rfl (Nat.le_of_ble_eq_true rfl) ⟨f, k, B, k, a, b, rfl, hCG404, hab, (by first | assumption | omega), (by first | assumption | omega), (by first | assumption | omega), (by first | assumption | omega), fun G407 hCG407 hXG407 hfG407 hpG407 => ?_⟩
                    have hFG407 : WX (fun x => x = 327691 ∨ x = 327692 ∨ (f + 1 ≤ x ∧ x ≤ f + 22)) G G407 := WX.trans hFG404 (KX.trans (KX.trans hXG11 hXG32) hXG404) (WX.mono hfG407 (fun x hx => by omega))
                    have hFIG407 : ∀ k : Nat, k < 6 → FIP P G407 262144 k := fun k hk => FIP.sm (hFIG404 k hk) hXG407 hfG407 (by show ¬ _; omega) (congrFun (hfG407 262149 (KX.al (KX.trans (KX.trans hXG11 hXG32) hXG404) (kne k262149 (by decide))) (by show ¬ _; omega)) k)
                    have hFAG407 : FPa P G407 A := (hFAG404).wx hXG407 hfG407 ⟨KX.al (KX.trans (KX.trans hXG11 hXG32) hXG404) (kne kA3 (by decide)), KX.al (KX.trans (KX.trans hXG11 hXG32) hXG404) (kne kA4 (by decide))⟩ (by show ¬ _; omega) (by show ¬ _; omega) (fun p hp => by show ¬ _; omega)
                    have hFBG407 : FPa P G407 B := (hFBG404).wx hXG407 hfG407 ⟨KX.al (KX.trans (KX.trans hXG11 hXG32) hXG404) (kne kB3 (by decide)), KX.al (KX.trans (KX.trans hXG11 hXG32) hXG404) (kne kB4 (by decide))⟩ (by show ¬ _; omega) (by show ¬ _; omega) (fun p hp => by show ¬ _; omega)
                    have hFfG407 : FPa P G407 f := (hFfG404).wx hXG407 hfG407 ⟨KX.al (KX.trans (KX.trans hXG11 hXG32) hXG404) (kne kf3 (by decide)), KX.al (KX.trans (KX.trans hXG11 hXG32) hXG404) (kne kf4 (by decide))⟩ (by show ¬ _; omega) (by show ¬ _; omega) (fun p hp => by show ¬ _; omega)
                    show WP kX2_linkBoth X 261 [some (2, ((327682 : Nat) : Int)), some (0, k), some (2, ((A : Nat) : Int)), some (2, ((B : Nat) : Int)), some (2, ((f : Nat) : Int)), some (0, rr12), some (0, rr33), some (2, ((B : Nat) : Int)), some (2, ((B : Nat) : Int))] [] G407
                    refine s_iconst dX2_linkBoth_261 (by decide) ?_
                    exact s_iret hR dX2_linkBoth_262 rfl (hQ 0 G407 hCG407 (KX.trans (KX.trans (KX.trans hXG11 hXG32) hXG404) hXG407) hFG407 hFfG407)
                  · -- 214 to 217
                    refine s_aload dX2_linkBoth_217 rfl (Int.natCast_nonneg _) ?_
                    refine s_iload_n dX2_linkBoth_219 rfl ?_
                    refine s_callV (as := [(0, k)]) (rest := []) (n := B) (ci := 1) gX0_isGhost dX2_linkBoth_220 m_1323 m_741 m_1474 m_711 m_68 ⟨by decide, by decide, show (parseMethodDescriptor yX0_isGhost.desc).map (fun d => d.parameters.length) = some 1 from by decide +kernel⟩ (Nat.le_of_ble_eq_true rfl) (by rw [hcf]; exact Nat.le_of_ble_eq_true rfl) hk318 rfl rfl (Nat.le_of_ble_eq_true rfl) ⟨B, k, a, b, rfl, hCG32, hab, (by first | assumption | omega), (by first | assumption | omega), fun rr410 hp411 => ?_⟩
                    show WP kX2_linkBoth X 223 [some (2, ((327682 : Nat) : Int)), some (0, k), some (2, ((A : Nat) : Int)), some (2, ((B : Nat) : Int)), some (2, ((f : Nat) : Int)), some (0, rr12), some (0, rr33), some (2, ((B : Nat) : Int)), some (2, ((B : Nat) : Int))] [(0, rr410)] G32
                    refine s_if_ne (tgt := 233) dX2_linkBoth_223 (by decide) (fun c412 => ?_) (fun c412 => ?_)
                    · -- 223 to 233
                      refine s_aload dX2_linkBoth_233 rfl (Int.natCast_nonneg _) ?_
                      refine s_iload_n dX2_linkBoth_235 rfl ?_
                      refine s_aload dX2_linkBoth_236 rfl (Int.natCast_nonneg _) ?_
                      refine s_alv (B) (by simp) (fun al413 => ?_)
                      have hv414 : gS G32 B 2 = ((B + 2 : Nat) : Int) := by have h9 : (gS G32 B 2) = (((B % 1048576) + 2 : Nat) : Int) := hCG32.1.v (j := 2) (by rw [cde_n (by omega) (by omega)]; omega : cde B = 101) al413 (by rw [hk318]; exact Nat.le_of_ble_eq_true rfl); omega
                      refine s_getf (ci := 1) (k := 2) (C := RX0) (T := TX0) (N := 7) (n := B) (L := 0) (t := 2) dX2_linkBoth_238 rfl wi_65 m_576 (Nat.le_of_ble_eq_true rfl) rfl rfl hk318 hv414 ?_
                      refine s_iload_n dX2_linkBoth_241 rfl ?_
                      have hk415 : gK G32 (B + 2) = (1, 10) := ((hXG32).k ((hXG11).k kB2 (by decide)) (by decide))
                      refine s_iald dX2_linkBoth_242 hk415 (by omega) (by omega) rfl ?_
                      refine s_aload_n dX2_linkBoth_243 rfl (Int.natCast_nonneg _) ?_
                      have hv416 : gS G32 327682 6 = ((327691 : Nat) : Int) := by have h9 : (gS G32 327682 6) = 327691 := hCG32.1.v (j := 6) (by decide : cde 327682 = 502) al321 (by rw [hk320]; exact Nat.le_of_ble_eq_true rfl); omega
                      refine s_getf (ci := 3) (k := 6) (C := RX2) (T := TX2) (N := 8) (n := 327682) (L := 0) (t := 2) dX2_linkBoth_244 rfl wi_70 m_582 (Nat.le_of_ble_eq_true rfl) rfl rfl hk320 hv416 ?_
                      refine s_iload dX2_linkBoth_247 rfl ?_
                      have hk419 : gK G32 (f) = (9, 0) := ((hXG32).k ((hXG11).k kf0 (by decide)) (by decide))
                      refine s_callV (as := [(0, k), (0, gS G32 (B + 2) ((k : Int).toNat)), (2, ((327691 : Nat) : Int)), (0, rr12)]) (rest := []) (n := f) (ci := 1) gX0_putValue dX2_linkBoth_249 m_1320 m_750 m_1483 m_711 m_77 ⟨by decide, by decide, show (parseMethodDescriptor yX0_putValue.desc).map (fun d => d.parameters.length) = some 4 from by decide +kernel⟩ (Nat.le_of_ble_eq_true rfl) (by rw [hcf]; exact Nat.le_of_ble_eq_true rfl) hk419 rfl rfl (Nat.le_of_ble_eq_true rfl) ⟨f, k, gS G32 (B + 2) ((k : Int).toNat), 327691, 200, rr12, a, b, rfl, hCG32, hab, (by first | assumption | omega), (by first | assumption | omega), hk324, (by first | assumption | omega), (by first | assumption | omega), (by first | assumption | omega), fun G417 hCG417 hXG417 hfG417 hpG417 => ?_⟩
                      have hFG417 : WX (fun x => x = 327691 ∨ x = 327692 ∨ (f + 1 ≤ x ∧ x ≤ f + 22)) G G417 := WX.trans hFG32 (KX.trans hXG11 hXG32) (WX.mono hfG417 (fun x hx => by omega))
                      have hFIG417 : ∀ k : Nat, k < 6 → FIP P G417 262144 k := fun k hk => FIP.sm (hFIG32 k hk) hXG417 hfG417 (by show ¬ _; omega) (congrFun (hfG417 262149 (KX.al (KX.trans hXG11 hXG32) (kne k262149 (by decide))) (by show ¬ _; omega)) k)
                      have hFAG417 : FPa P G417 A := (hFAG32).wx hXG417 hfG417 ⟨KX.al (KX.trans hXG11 hXG32) (kne kA3 (by decide)), KX.al (KX.trans hXG11 hXG32) (kne kA4 (by decide))⟩ (by show ¬ _; omega) (by show ¬ _; omega) (fun p hp => by show ¬ _; omega)
                      have hFBG417 : FPa P G417 B := (hFBG32).wx hXG417 hfG417 ⟨KX.al (KX.trans hXG11 hXG32) (kne kB3 (by decide)), KX.al (KX.trans hXG11 hXG32) (kne kB4 (by decide))⟩ (by show ¬ _; omega) (by show ¬ _; omega) (fun p hp => by show ¬ _; omega)
                      have hFfG417 : FPa P G417 f := FPa.put hpG417.1 hFfG32 (fun _ _ => (hpG11.2 P ((hFA (6 + k : Int).toNat (by omega)).rps hv4 rfl) hFI (by omega)).wx hXG32 hfG32 (by show ¬ _; omega)) hXG417 hfG417 (fun p hp hn => by show ¬ _; omega)
                      show WP kX2_linkBoth X 252 [some (2, ((327682 : Nat) : Int)), some (0, k), some (2, ((A : Nat) : Int)), some (2, ((B : Nat) : Int)), some (2, ((f : Nat) : Int)), some (0, rr12), some (0, rr33), some (2, ((B : Nat) : Int)), some (2, ((B : Nat) : Int))] [] G417
                      refine s_aload dX2_linkBoth_252 rfl (Int.natCast_nonneg _) ?_
                      refine s_iload_n dX2_linkBoth_254 rfl ?_
                      refine s_aload dX2_linkBoth_255 rfl (Int.natCast_nonneg _) ?_
                      refine s_iload_n dX2_linkBoth_257 rfl ?_
                      have hk422 : gK G417 (f) = (9, 0) := ((hXG417).k hk419 (by decide))
                      refine s_callV (as := [(0, k), (2, ((B : Nat) : Int)), (0, k)]) (rest := []) (n := f) (ci := 1) gX0_putNumberOf dX2_linkBoth_258 m_1321 m_745 m_1478 m_711 m_72 ⟨by decide, by decide, show (parseMethodDescriptor yX0_putNumberOf.desc).map (fun d => d.parameters.length) = some 3 from by decide +kernel⟩ (Nat.le_of_ble_eq_true rfl) (by rw [hcf]; exact Nat.le_of_ble_eq_true rfl) hk422 rfl rfl (Nat.le_of_ble_eq_true rfl) ⟨f, k, B, k, a, b, rfl, hCG417, hab, (by first | assumption | omega), (by first | assumption | omega), (by first | assumption | omega), (by first | assumption | omega), fun G420 hCG420 hXG420 hfG420 hpG420 => ?_⟩
                      have hFG420 : WX (fun x => x = 327691 ∨ x = 327692 ∨ (f + 1 ≤ x ∧ x ≤ f + 22)) G G420 := WX.trans hFG417 (KX.trans (KX.trans hXG11 hXG32) hXG417) (WX.mono hfG420 (fun x hx => by omega))
                      have hFIG420 : ∀ k : Nat, k < 6 → FIP P G420 262144 k := fun k hk => FIP.sm (hFIG417 k hk) hXG420 hfG420 (by show ¬ _; omega) (congrFun (hfG420 262149 (KX.al (KX.trans (KX.trans hXG11 hXG32) hXG417) (kne k262149 (by decide))) (by show ¬ _; omega)) k)
                      have hFAG420 : FPa P G420 A := (hFAG417).wx hXG420 hfG420 ⟨KX.al (KX.trans (KX.trans hXG11 hXG32) hXG417) (kne kA3 (by decide)), KX.al (KX.trans (KX.trans hXG11 hXG32) hXG417) (kne kA4 (by decide))⟩ (by show ¬ _; omega) (by show ¬ _; omega) (fun p hp => by show ¬ _; omega)
                      have hFBG420 : FPa P G420 B := (hFBG417).wx hXG420 hfG420 ⟨KX.al (KX.trans (KX.trans hXG11 hXG32) hXG417) (kne kB3 (by decide)), KX.al (KX.trans (KX.trans hXG11 hXG32) hXG417) (kne kB4 (by decide))⟩ (by show ¬ _; omega) (by show ¬ _; omega) (fun p hp => by show ¬ _; omega)
                      have hFfG420 : FPa P G420 f := (hFfG417).wx hXG420 hfG420 ⟨KX.al (KX.trans (KX.trans hXG11 hXG32) hXG417) (kne kf3 (by decide)), KX.al (KX.trans (KX.trans hXG11 hXG32) hXG417) (kne kf4 (by decide))⟩ (by show ¬ _; omega) (by show ¬ _; omega) (fun p hp => by show ¬ _; omega)
                      show WP kX2_linkBoth X 261 [some (2, ((327682 : Nat) : Int)), some (0, k), some (2, ((A : Nat) : Int)), some (2, ((B : Nat) : Int)), some (2, ((f : Nat) : Int)), some (0, rr12), some (0, rr33), some (2, ((B : Nat) : Int)), some (2, ((B : Nat) : Int))] [] G420
                      refine s_iconst dX2_linkBoth_261 (by decide) ?_
                      exact s_iret hR dX2_linkBoth_262 rfl (hQ 0 G420 hCG420 (KX.trans (KX.trans (KX.trans hXG11 hXG32) hXG417) hXG420) hFG420 hFfG420)
                    · -- 223 to 226
                      refine s_bipush dX2_linkBoth_226 rfl (by decide) ?_
                      refine s_iload_n dX2_linkBoth_228 rfl ?_
                      refine s_callSN (own := RX2) rfl (by decide +kernel) (as := [(0, 6), (0, k)]) (rest := []) gX11_valueMistake dX2_linkBoth_229 m_1784 m_714 m_129 ⟨by decide, by decide, show (parseMethodDescriptor yX11_valueMistake.desc).map (fun d => d.parameters.length) = some 2 from by decide +kernel⟩ (Nat.le_of_ble_eq_true rfl) (by rw [hcf]; exact Nat.le_of_ble_eq_true rfl) rfl (Nat.le_of_ble_eq_true rfl) ⟨6, k, rfl, (by first | assumption | omega), (by first | assumption | omega), fun rr423 hp424 => ?_⟩
                      show WP kX2_linkBoth X 232 [some (2, ((327682 : Nat) : Int)), some (0, k), some (2, ((A : Nat) : Int)), some (2, ((B : Nat) : Int)), some (2, ((f : Nat) : Int)), some (0, rr12), some (0, rr33), some (2, ((B : Nat) : Int)), some (2, ((B : Nat) : Int))] [(0, rr423)] G32
                      exact s_iret hR dX2_linkBoth_232 rfl (hQ rr423 G32 hCG32 (KX.trans hXG11 hXG32) hFG32 hFfG32)
                · -- 198 to 201
                  refine s_aload_n dX2_linkBoth_201 rfl (Int.natCast_nonneg _) ?_
                  refine s_goto (tgt := 206) dX2_linkBoth_202 (by decide) ?_
                  refine s_astore (Int.natCast_nonneg _) dX2_linkBoth_206 (by decide) (lv' := [some (2, ((327682 : Nat) : Int)), some (0, k), some (2, ((A : Nat) : Int)), some (2, ((B : Nat) : Int)), some (2, ((f : Nat) : Int)), some (0, rr12), some (0, rr33), some (2, ((B : Nat) : Int)), some (2, ((A : Nat) : Int))]) rfl ?_
                  refine s_aload dX2_linkBoth_208 rfl (Int.natCast_nonneg _) ?_
                  refine s_iload_n dX2_linkBoth_210 rfl ?_
                  refine s_callV (as := [(0, k)]) (rest := []) (n := B) (ci := 1) gX0_isGhost dX2_linkBoth_211 m_1323 m_741 m_1474 m_711 m_68 ⟨by decide, by decide, show (parseMethodDescriptor yX0_isGhost.desc).map (fun d => d.parameters.length) = some 1 from by decide +kernel⟩ (Nat.le_of_ble_eq_true rfl) (by rw [hcf]; exact Nat.le_of_ble_eq_true rfl) hk318 rfl rfl (Nat.le_of_ble_eq_true rfl) ⟨B, k, a, b, rfl, hCG32, hab, (by first | assumption | omega), (by first | assumption | omega), fun rr425 hp426 => ?_⟩
                  show WP kX2_linkBoth X 214 [some (2, ((327682 : Nat) : Int)), some (0, k), some (2, ((A : Nat) : Int)), some (2, ((B : Nat) : Int)), some (2, ((f : Nat) : Int)), some (0, rr12), some (0, rr33), some (2, ((B : Nat) : Int)), some (2, ((A : Nat) : Int))] [(0, rr425)] G32
                  refine s_if_eq (tgt := 233) dX2_linkBoth_214 (by decide) (fun c427 => ?_) (fun c427 => ?_)
                  · -- 214 to 233
                    refine s_aload dX2_linkBoth_233 rfl (Int.natCast_nonneg _) ?_
                    refine s_iload_n dX2_linkBoth_235 rfl ?_
                    refine s_aload dX2_linkBoth_236 rfl (Int.natCast_nonneg _) ?_
                    refine s_alv (B) (by simp) (fun al428 => ?_)
                    have hv429 : gS G32 B 2 = ((B + 2 : Nat) : Int) := by have h9 : (gS G32 B 2) = (((B % 1048576) + 2 : Nat) : Int) := hCG32.1.v (j := 2) (by rw [cde_n (by omega) (by omega)]; omega : cde B = 101) al428 (by rw [hk318]; exact Nat.le_of_ble_eq_true rfl); omega
                    refine s_getf (ci := 1) (k := 2) (C := RX0) (T := TX0) (N := 7) (n := B) (L := 0) (t := 2) dX2_linkBoth_238 rfl wi_65 m_576 (Nat.le_of_ble_eq_true rfl) rfl rfl hk318 hv429 ?_
                    refine s_iload_n dX2_linkBoth_241 rfl ?_
                    have hk430 : gK G32 (B + 2) = (1, 10) := ((hXG32).k ((hXG11).k kB2 (by decide)) (by decide))
                    refine s_iald dX2_linkBoth_242 hk430 (by omega) (by omega) rfl ?_
                    refine s_aload_n dX2_linkBoth_243 rfl (Int.natCast_nonneg _) ?_
                    have hv431 : gS G32 327682 6 = ((327691 : Nat) : Int) := by have h9 : (gS G32 327682 6) = 327691 := hCG32.1.v (j := 6) (by decide : cde 327682 = 502) al321 (by rw [hk320]; exact Nat.le_of_ble_eq_true rfl); omega
                    refine s_getf (ci := 3) (k := 6) (C := RX2) (T := TX2) (N := 8) (n := 327682) (L := 0) (t := 2) dX2_linkBoth_244 rfl wi_70 m_582 (Nat.le_of_ble_eq_true rfl) rfl rfl hk320 hv431 ?_
                    refine s_iload dX2_linkBoth_247 rfl ?_
                    have hk434 : gK G32 (f) = (9, 0) := ((hXG32).k ((hXG11).k kf0 (by decide)) (by decide))
                    refine s_callV (as := [(0, k), (0, gS G32 (B + 2) ((k : Int).toNat)), (2, ((327691 : Nat) : Int)), (0, rr12)]) (rest := []) (n := f) (ci := 1) gX0_putValue dX2_linkBoth_249 m_1320 m_750 m_1483 m_711 m_77 ⟨by decide, by decide, show (parseMethodDescriptor yX0_putValue.desc).map (fun d => d.parameters.length) = some 4 from by decide +kernel⟩ (Nat.le_of_ble_eq_true rfl) (by rw [hcf]; exact Nat.le_of_ble_eq_true rfl) hk434 rfl rfl (Nat.le_of_ble_eq_true rfl) ⟨f, k, gS G32 (B + 2) ((k : Int).toNat), 327691, 200, rr12, a, b, rfl, hCG32, hab, (by first | assumption | omega), (by first | assumption | omega), hk324, (by first | assumption | omega), (by first | assumption | omega), (by first | assumption | omega), fun G432 hCG432 hXG432 hfG432 hpG432 => ?_⟩
                    have hFG432 : WX (fun x => x = 327691 ∨ x = 327692 ∨ (f + 1 ≤ x ∧ x ≤ f + 22)) G G432 := WX.trans hFG32 (KX.trans hXG11 hXG32) (WX.mono hfG432 (fun x hx => by omega))
                    have hFIG432 : ∀ k : Nat, k < 6 → FIP P G432 262144 k := fun k hk => FIP.sm (hFIG32 k hk) hXG432 hfG432 (by show ¬ _; omega) (congrFun (hfG432 262149 (KX.al (KX.trans hXG11 hXG32) (kne k262149 (by decide))) (by show ¬ _; omega)) k)
                    have hFAG432 : FPa P G432 A := (hFAG32).wx hXG432 hfG432 ⟨KX.al (KX.trans hXG11 hXG32) (kne kA3 (by decide)), KX.al (KX.trans hXG11 hXG32) (kne kA4 (by decide))⟩ (by show ¬ _; omega) (by show ¬ _; omega) (fun p hp => by show ¬ _; omega)
                    have hFBG432 : FPa P G432 B := (hFBG32).wx hXG432 hfG432 ⟨KX.al (KX.trans hXG11 hXG32) (kne kB3 (by decide)), KX.al (KX.trans hXG11 hXG32) (kne kB4 (by decide))⟩ (by show ¬ _; omega) (by show ¬ _; omega) (fun p hp => by show ¬ _; omega)
                    have hFfG432 : FPa P G432 f := FPa.put hpG432.1 hFfG32 (fun _ _ => (hpG11.2 P ((hFA (6 + k : Int).toNat (by omega)).rps hv4 rfl) hFI (by omega)).wx hXG32 hfG32 (by show ¬ _; omega)) hXG432 hfG432 (fun p hp hn => by show ¬ _; omega)
                    show WP kX2_linkBoth X 252 [some (2, ((327682 : Nat) : Int)), some (0, k), some (2, ((A : Nat) : Int)), some (2, ((B : Nat) : Int)), some (2, ((f : Nat) : Int)), some (0, rr12), some (0, rr33), some (2, ((B : Nat) : Int)), some (2, ((A : Nat) : Int))] [] G432
                    refine s_aload dX2_linkBoth_252 rfl (Int.natCast_nonneg _) ?_
                    refine s_iload_n dX2_linkBoth_254 rfl ?_
                    refine s_aload dX2_linkBoth_255 rfl (Int.natCast_nonneg _) ?_
                    refine s_iload_n dX2_linkBoth_257 rfl ?_
                    have hk437 : gK G432 (f) = (9, 0) := ((hXG432).k hk434 (by decide))
                    refine s_callV (as := [(0, k), (2, ((B : Nat) : Int)), (0, k)]) (rest := []) (n := f) (ci := 1) gX0_putNumberOf dX2_linkBoth_258 m_1321 m_745 m_1478 m_711 m_72 ⟨by decide, by decide, show (parseMethodDescriptor yX0_putNumberOf.desc).map (fun d => d.parameters.length) = some 3 from by decide +kernel⟩ (Nat.le_of_ble_eq_true rfl) (by rw [hcf]; exact Nat.le_of_ble_eq_true rfl) hk437 rfl rfl (Nat.le_of_ble_eq_true rfl) ⟨f, k, B, k, a, b, rfl, hCG432, hab, (by first | assumption | omega), (by first | assumption | omega), (by first | assumption | omega), (by first | assumption | omega), fun G435 hCG435 hXG435 hfG435 hpG435 => ?_⟩
                    have hFG435 : WX (fun x => x = 327691 ∨ x = 327692 ∨ (f + 1 ≤ x ∧ x ≤ f + 22)) G G435 := WX.trans hFG432 (KX.trans (KX.trans hXG11 hXG32) hXG432) (WX.mono hfG435 (fun x hx => by omega))
                    have hFIG435 : ∀ k : Nat, k < 6 → FIP P G435 262144 k := fun k hk => FIP.sm (hFIG432 k hk) hXG435 hfG435 (by show ¬ _; omega) (congrFun (hfG435 262149 (KX.al (KX.trans (KX.trans hXG11 hXG32) hXG432) (kne k262149 (by decide))) (by show ¬ _; omega)) k)
                    have hFAG435 : FPa P G435 A := (hFAG432).wx hXG435 hfG435 ⟨KX.al (KX.trans (KX.trans hXG11 hXG32) hXG432) (kne kA3 (by decide)), KX.al (KX.trans (KX.trans hXG11 hXG32) hXG432) (kne kA4 (by decide))⟩ (by show ¬ _; omega) (by show ¬ _; omega) (fun p hp => by show ¬ _; omega)
                    have hFBG435 : FPa P G435 B := (hFBG432).wx hXG435 hfG435 ⟨KX.al (KX.trans (KX.trans hXG11 hXG32) hXG432) (kne kB3 (by decide)), KX.al (KX.trans (KX.trans hXG11 hXG32) hXG432) (kne kB4 (by decide))⟩ (by show ¬ _; omega) (by show ¬ _; omega) (fun p hp => by show ¬ _; omega)
                    have hFfG435 : FPa P G435 f := (hFfG432).wx hXG435 hfG435 ⟨KX.al (KX.trans (KX.trans hXG11 hXG32) hXG432) (kne kf3 (by decide)), KX.al (KX.trans (KX.trans hXG11 hXG32) hXG432) (kne kf4 (by decide))⟩ (by show ¬ _; omega) (by show ¬ _; omega) (fun p hp => by show ¬ _; omega)
                    show WP kX2_linkBoth X 261 [some (2, ((327682 : Nat) : Int)), some (0, k), some (2, ((A : Nat) : Int)), some (2, ((B : Nat) : Int)), some (2, ((f : Nat) : Int)), some (0, rr12), some (0, rr33), some (2, ((B : Nat) : Int)), some (2, ((A : Nat) : Int))] [] G435
                    refine s_iconst dX2_linkBoth_261 (by decide) ?_
                    exact s_iret hR dX2_linkBoth_262 rfl (hQ 0 G435 hCG435 (KX.trans (KX.trans (KX.trans hXG11 hXG32) hXG432) hXG435) hFG435 hFfG435)
                  · -- 214 to 217
                    refine s_aload dX2_linkBoth_217 rfl (Int.natCast_nonneg _) ?_
                    refine s_iload_n dX2_linkBoth_219 rfl ?_
                    refine s_callV (as := [(0, k)]) (rest := []) (n := A) (ci := 1) gX0_isGhost dX2_linkBoth_220 m_1323 m_741 m_1474 m_711 m_68 ⟨by decide, by decide, show (parseMethodDescriptor yX0_isGhost.desc).map (fun d => d.parameters.length) = some 1 from by decide +kernel⟩ (Nat.le_of_ble_eq_true rfl) (by rw [hcf]; exact Nat.le_of_ble_eq_true rfl) hk41 rfl rfl (Nat.le_of_ble_eq_true rfl) ⟨A, k, a, b, rfl, hCG32, hab, (by first | assumption | omega), (by first | assumption | omega), fun rr438 hp439 => ?_⟩
                    show WP kX2_linkBoth X 223 [some (2, ((327682 : Nat) : Int)), some (0, k), some (2, ((A : Nat) : Int)), some (2, ((B : Nat) : Int)), some (2, ((f : Nat) : Int)), some (0, rr12), some (0, rr33), some (2, ((B : Nat) : Int)), some (2, ((A : Nat) : Int))] [(0, rr438)] G32
                    refine s_if_ne (tgt := 233) dX2_linkBoth_223 (by decide) (fun c440 => ?_) (fun c440 => ?_)
                    · -- 223 to 233
                      refine s_aload dX2_linkBoth_233 rfl (Int.natCast_nonneg _) ?_
                      refine s_iload_n dX2_linkBoth_235 rfl ?_
                      refine s_aload dX2_linkBoth_236 rfl (Int.natCast_nonneg _) ?_
                      refine s_alv (B) (by simp) (fun al441 => ?_)
                      have hv442 : gS G32 B 2 = ((B + 2 : Nat) : Int) := by have h9 : (gS G32 B 2) = (((B % 1048576) + 2 : Nat) : Int) := hCG32.1.v (j := 2) (by rw [cde_n (by omega) (by omega)]; omega : cde B = 101) al441 (by rw [hk318]; exact Nat.le_of_ble_eq_true rfl); omega
                      refine s_getf (ci := 1) (k := 2) (C := RX0) (T := TX0) (N := 7) (n := B) (L := 0) (t := 2) dX2_linkBoth_238 rfl wi_65 m_576 (Nat.le_of_ble_eq_true rfl) rfl rfl hk318 hv442 ?_
                      refine s_iload_n dX2_linkBoth_241 rfl ?_
                      have hk443 : gK G32 (B + 2) = (1, 10) := ((hXG32).k ((hXG11).k kB2 (by decide)) (by decide))
                      refine s_iald dX2_linkBoth_242 hk443 (by omega) (by omega) rfl ?_
                      refine s_aload_n dX2_linkBoth_243 rfl (Int.natCast_nonneg _) ?_
                      have hv444 : gS G32 327682 6 = ((327691 : Nat) : Int) := by have h9 : (gS G32 327682 6) = 327691 := hCG32.1.v (j := 6) (by decide : cde 327682 = 502) al321 (by rw [hk320]; exact Nat.le_of_ble_eq_true rfl); omega
                      refine s_getf (ci := 3) (k := 6) (C := RX2) (T := TX2) (N := 8) (n := 327682) (L := 0) (t := 2) dX2_linkBoth_244 rfl wi_70 m_582 (Nat.le_of_ble_eq_true rfl) rfl rfl hk320 hv444 ?_
                      refine s_iload dX2_linkBoth_247 rfl ?_
                      have hk447 : gK G32 (f) = (9, 0) := ((hXG32).k ((hXG11).k kf0 (by decide)) (by decide))
                      refine s_callV (as := [(0, k), (0, gS G32 (B + 2) ((k : Int).toNat)), (2, ((327691 : Nat) : Int)), (0, rr12)]) (rest := []) (n := f) (ci := 1) gX0_putValue dX2_linkBoth_249 m_1320 m_750 m_1483 m_711 m_77 ⟨by decide, by decide, show (parseMethodDescriptor yX0_putValue.desc).map (fun d => d.parameters.length) = some 4 from by decide +kernel⟩ (Nat.le_of_ble_eq_true rfl) (by rw [hcf]; exact Nat.le_of_ble_eq_true rfl) hk447 rfl rfl (Nat.le_of_ble_eq_true rfl) ⟨f, k, gS G32 (B + 2) ((k : Int).toNat), 327691, 200, rr12, a, b, rfl, hCG32, hab, (by first | assumption | omega), (by first | assumption | omega), hk324, (by first | assumption | omega), (by first | assumption | omega), (by first | assumption | omega), fun G445 hCG445 hXG445 hfG445 hpG445 => ?_⟩
                      have hFG445 : WX (fun x => x = 327691 ∨ x = 327692 ∨ (f + 1 ≤ x ∧ x ≤ f + 22)) G G445 := WX.trans hFG32 (KX.trans hXG11 hXG32) (WX.mono hfG445 (fun x hx => by omega))
                      have hFIG445 : ∀ k : Nat, k < 6 → FIP P G445 262144 k := fun k hk => FIP.sm (hFIG32 k hk) hXG445 hfG445 (by show ¬ _; omega) (congrFun (hfG445 262149 (KX.al (KX.trans hXG11 hXG32) (kne k262149 (by decide))) (by show ¬ _; omega)) k)
                      have hFAG445 : FPa P G445 A := (hFAG32).wx hXG445 hfG445 ⟨KX.al (KX.trans hXG11 hXG32) (kne kA3 (by decide)), KX.al (KX.trans hXG11 hXG32) (kne kA4 (by decide))⟩ (by show ¬ _; omega) (by show ¬ _; omega) (fun p hp => by show ¬ _; omega)
                      have hFBG445 : FPa P G445 B := (hFBG32).wx hXG445 hfG445 ⟨KX.al (KX.trans hXG11 hXG32) (kne kB3 (by decide)), KX.al (KX.trans hXG11 hXG32) (kne kB4 (by decide))⟩ (by show ¬ _; omega) (by show ¬ _; omega) (fun p hp => by show ¬ _; omega)
                      have hFfG445 : FPa P G445 f := FPa.put hpG445.1 hFfG32 (fun _ _ => (hpG11.2 P ((hFA (6 + k : Int).toNat (by omega)).rps hv4 rfl) hFI (by omega)).wx hXG32 hfG32 (by show ¬ _; omega)) hXG445 hfG445 (fun p hp hn => by show ¬ _; omega)
                      show WP kX2_linkBoth X 252 [some (2, ((327682 : Nat) : Int)), some (0, k), some (2, ((A : Nat) : Int)), some (2, ((B : Nat) : Int)), some (2, ((f : Nat) : Int)), some (0, rr12), some (0, rr33), some (2, ((B : Nat) : Int)), some (2, ((A : Nat) : Int))] [] G445
                      refine s_aload dX2_linkBoth_252 rfl (Int.natCast_nonneg _) ?_
                      refine s_iload_n dX2_linkBoth_254 rfl ?_
                      refine s_aload dX2_linkBoth_255 rfl (Int.natCast_nonneg _) ?_
                      refine s_iload_n dX2_linkBoth_257 rfl ?_
                      have hk450 : gK G445 (f) = (9, 0) := ((hXG445).k hk447 (by decide))
                      refine s_callV (as := [(0, k), (2, ((B : Nat) : Int)), (0, k)]) (rest := []) (n := f) (ci := 1) gX0_putNumberOf dX2_linkBoth_258 m_1321 m_745 m_1478 m_711 m_72 ⟨by decide, by decide, show (parseMethodDescriptor yX0_putNumberOf.desc).map (fun d => d.parameters.length) = some 3 from by decide +kernel⟩ (Nat.le_of_ble_eq_true rfl) (by rw [hcf]; exact Nat.le_of_ble_eq_true rfl) hk450 rfl rfl (Nat.le_of_ble_eq_true rfl) ⟨f, k, B, k, a, b, rfl, hCG445, hab, (by first | assumption | omega), (by first | assumption | omega), (by first | assumption | omega), (by first | assumption | omega), fun G448 hCG448 hXG448 hfG448 hpG448 => ?_⟩
                      have hFG448 : WX (fun x => x = 327691 ∨ x = 327692 ∨ (f + 1 ≤ x ∧ x ≤ f + 22)) G G448 := WX.trans hFG445 (KX.trans (KX.trans hXG11 hXG32) hXG445) (WX.mono hfG448 (fun x hx => by omega))
                      have hFIG448 : ∀ k : Nat, k < 6 → FIP P G448 262144 k := fun k hk => FIP.sm (hFIG445 k hk) hXG448 hfG448 (by show ¬ _; omega) (congrFun (hfG448 262149 (KX.al (KX.trans (KX.trans hXG11 hXG32) hXG445) (kne k262149 (by decide))) (by show ¬ _; omega)) k)
                      have hFAG448 : FPa P G448 A := (hFAG445).wx hXG448 hfG448 ⟨KX.al (KX.trans (KX.trans hXG11 hXG32) hXG445) (kne kA3 (by decide)), KX.al (KX.trans (KX.trans hXG11 hXG32) hXG445) (kne kA4 (by decide))⟩ (by show ¬ _; omega) (by show ¬ _; omega) (fun p hp => by show ¬ _; omega)
                      have hFBG448 : FPa P G448 B := (hFBG445).wx hXG448 hfG448 ⟨KX.al (KX.trans (KX.trans hXG11 hXG32) hXG445) (kne kB3 (by decide)), KX.al (KX.trans (KX.trans hXG11 hXG32) hXG445) (kne kB4 (by decide))⟩ (by show ¬ _; omega) (by show ¬ _; omega) (fun p hp => by show ¬ _; omega)
                      have hFfG448 : FPa P G448 f := (hFfG445).wx hXG448 hfG448 ⟨KX.al (KX.trans (KX.trans hXG11 hXG32) hXG445) (kne kf3 (by decide)), KX.al (KX.trans (KX.trans hXG11 hXG32) hXG445) (kne kf4 (by decide))⟩ (by show ¬ _; omega) (by show ¬ _; omega) (fun p hp => by show ¬ _; omega)
                      show WP kX2_linkBoth X 261 [some (2, ((327682 : Nat) : Int)), some (0, k), some (2, ((A : Nat) : Int)), some (2, ((B : Nat) : Int)), some (2, ((f : Nat) : Int)), some (0, rr12), some (0, rr33), some (2, ((B : Nat) : Int)), some (2, ((A : Nat) : Int))] [] G448
                      refine s_iconst dX2_linkBoth_261 (by decide) ?_
                      exact s_iret hR dX2_linkBoth_262 rfl (hQ 0 G448 hCG448 (KX.trans (KX.trans (KX.trans hXG11 hXG32) hXG445) hXG448) hFG448 hFfG448)
                    · -- 223 to 226
                      refine s_bipush dX2_linkBoth_226 rfl (by decide) ?_
                      refine s_iload_n dX2_linkBoth_228 rfl ?_
                      refine s_callSN (own := RX2) rfl (by decide +kernel) (as := [(0, 6), (0, k)]) (rest := []) gX11_valueMistake dX2_linkBoth_229 m_1784 m_714 m_129 ⟨by decide, by decide, show (parseMethodDescriptor yX11_valueMistake.desc).map (fun d => d.parameters.length) = some 2 from by decide +kernel⟩ (Nat.le_of_ble_eq_true rfl) (by rw [hcf]; exact Nat.le_of_ble_eq_true rfl) rfl (Nat.le_of_ble_eq_true rfl) ⟨6, k, rfl, (by first | assumption | omega), (by first | assumption | omega), fun rr451 hp452 => ?_⟩
                      show WP kX2_linkBoth X 232 [some (2, ((327682 : Nat) : Int)), some (0, k), some (2, ((A : Nat) : Int)), some (2, ((B : Nat) : Int)), some (2, ((f : Nat) : Int)), some (0, rr12), some (0, rr33), some (2, ((B : Nat) : Int)), some (2, ((A : Nat) : Int))] [(0, rr451)] G32
                      exact s_iret hR dX2_linkBoth_232 rfl (hQ rr451 G32 hCG32 (KX.trans hXG11 hXG32) hFG32 hFfG32)
            · -- 136 to 139
              refine s_aload_n dX2_linkBoth_139 rfl (Int.natCast_nonneg _) ?_
              refine s_iload_n dX2_linkBoth_140 rfl ?_
              refine s_callV (as := [(0, k)]) (rest := []) (n := B) (ci := 1) gX0_isValueHole dX2_linkBoth_141 m_1322 m_743 m_1476 m_711 m_70 ⟨by decide, by decide, show (parseMethodDescriptor yX0_isValueHole.desc).map (fun d => d.parameters.length) = some 1 from by decide +kernel⟩ (Nat.le_of_ble_eq_true rfl) (by rw [hcf]; exact Nat.le_of_ble_eq_true rfl) hk318 rfl rfl (Nat.le_of_ble_eq_true rfl) ⟨B, k, a, b, rfl, hCG32, hab, (by first | assumption | omega), (by first | assumption | omega), fun rr453 hp454 => ?_⟩
              show WP kX2_linkBoth X 144 [some (2, ((327682 : Nat) : Int)), some (0, k), some (2, ((A : Nat) : Int)), some (2, ((B : Nat) : Int)), some (2, ((f : Nat) : Int)), some (0, rr12), some (0, rr33), none, none] [(0, rr453)] G32
              refine s_if_eq (tgt := 178) dX2_linkBoth_144 (by decide) (fun c455 => ?_) (fun c455 => ?_)
              · -- 144 to 178
                refine s_aload_n dX2_linkBoth_178 rfl (Int.natCast_nonneg _) ?_
                refine s_iload_n dX2_linkBoth_179 rfl ?_
                refine s_callV (as := [(0, k)]) (rest := []) (n := A) (ci := 1) gX0_isValueHole dX2_linkBoth_180 m_1322 m_743 m_1476 m_711 m_70 ⟨by decide, by decide, show (parseMethodDescriptor yX0_isValueHole.desc).map (fun d => d.parameters.length) = some 1 from by decide +kernel⟩ (Nat.le_of_ble_eq_true rfl) (by rw [hcf]; exact Nat.le_of_ble_eq_true rfl) hk41 rfl rfl (Nat.le_of_ble_eq_true rfl) ⟨A, k, a, b, rfl, hCG32, hab, (by first | assumption | omega), (by first | assumption | omega), fun rr456 hp457 => ?_⟩
                show WP kX2_linkBoth X 183 [some (2, ((327682 : Nat) : Int)), some (0, k), some (2, ((A : Nat) : Int)), some (2, ((B : Nat) : Int)), some (2, ((f : Nat) : Int)), some (0, rr12), some (0, rr33), none, none] [(0, rr456)] G32
                refine s_if_eq (tgt := 190) dX2_linkBoth_183 (by decide) (fun c458 => ?_) (fun c458 => ?_)
                · -- 183 to 190
                  refine s_aload_n dX2_linkBoth_190 rfl (Int.natCast_nonneg _) ?_
                  refine s_astore (Int.natCast_nonneg _) dX2_linkBoth_191 (by decide) (lv' := [some (2, ((327682 : Nat) : Int)), some (0, k), some (2, ((A : Nat) : Int)), some (2, ((B : Nat) : Int)), some (2, ((f : Nat) : Int)), some (0, rr12), some (0, rr33), some (2, ((A : Nat) : Int)), none]) rfl ?_
                  refine s_aload_n dX2_linkBoth_193 rfl (Int.natCast_nonneg _) ?_
                  refine s_iload_n dX2_linkBoth_194 rfl ?_
                  refine s_callV (as := [(0, k)]) (rest := []) (n := A) (ci := 1) gX0_isValueHole dX2_linkBoth_195 m_1322 m_743 m_1476 m_711 m_70 ⟨by decide, by decide, show (parseMethodDescriptor yX0_isValueHole.desc).map (fun d => d.parameters.length) = some 1 from by decide +kernel⟩ (Nat.le_of_ble_eq_true rfl) (by rw [hcf]; exact Nat.le_of_ble_eq_true rfl) hk41 rfl rfl (Nat.le_of_ble_eq_true rfl) ⟨A, k, a, b, rfl, hCG32, hab, (by first | assumption | omega), (by first | assumption | omega), fun rr459 hp460 => ?_⟩
                  show WP kX2_linkBoth X 198 [some (2, ((327682 : Nat) : Int)), some (0, k), some (2, ((A : Nat) : Int)), some (2, ((B : Nat) : Int)), some (2, ((f : Nat) : Int)), some (0, rr12), some (0, rr33), some (2, ((A : Nat) : Int)), none] [(0, rr459)] G32
                  refine s_if_eq (tgt := 205) dX2_linkBoth_198 (by decide) (fun c461 => ?_) (fun c461 => ?_)
                  · -- 198 to 205
                    refine s_aload_n dX2_linkBoth_205 rfl (Int.natCast_nonneg _) ?_
                    refine s_astore (Int.natCast_nonneg _) dX2_linkBoth_206 (by decide) (lv' := [some (2, ((327682 : Nat) : Int)), some (0, k), some (2, ((A : Nat) : Int)), some (2, ((B : Nat) : Int)), some (2, ((f : Nat) : Int)), some (0, rr12), some (0, rr33), some (2, ((A : Nat) : Int)), some (2, ((B : Nat) : Int))]) rfl ?_
                    refine s_aload dX2_linkBoth_208 rfl (Int.natCast_nonneg _) ?_
                    refine s_iload_n dX2_linkBoth_210 rfl ?_
                    refine s_callV (as := [(0, k)]) (rest := []) (n := A) (ci := 1) gX0_isGhost dX2_linkBoth_211 m_1323 m_741 m_1474 m_711 m_68 ⟨by decide, by decide, show (parseMethodDescriptor yX0_isGhost.desc).map (fun d => d.parameters.length) = some 1 from by decide +kernel⟩ (Nat.le_of_ble_eq_true rfl) (by rw [hcf]; exact Nat.le_of_ble_eq_true rfl) hk41 rfl rfl (Nat.le_of_ble_eq_true rfl) ⟨A, k, a, b, rfl, hCG32, hab, (by first | assumption | omega), (by first | assumption | omega), fun rr462 hp463 => ?_⟩
                    show WP kX2_linkBoth X 214 [some (2, ((327682 : Nat) : Int)), some (0, k), some (2, ((A : Nat) : Int)), some (2, ((B : Nat) : Int)), some (2, ((f : Nat) : Int)), some (0, rr12), some (0, rr33), some (2, ((A : Nat) : Int)), some (2, ((B : Nat) : Int))] [(0, rr462)] G32
                    refine s_if_eq (tgt := 233) dX2_linkBoth_214 (by decide) (fun c464 => ?_) (fun c464 => ?_)
                    · -- 214 to 233
                      refine s_aload dX2_linkBoth_233 rfl (Int.natCast_nonneg _) ?_
                      refine s_iload_n dX2_linkBoth_235 rfl ?_
                      refine s_aload dX2_linkBoth_236 rfl (Int.natCast_nonneg _) ?_
                      refine s_alv (A) (by simp) (fun al465 => ?_)
                      have hv466 : gS G32 A 2 = ((A + 2 : Nat) : Int) := by have h9 : (gS G32 A 2) = (((A % 1048576) + 2 : Nat) : Int) := hCG32.1.v (j := 2) (by rw [cde_n (by omega) (by omega)]; omega : cde A = 101) al465 (by rw [hk41]; exact Nat.le_of_ble_eq_true rfl); omega
                      refine s_getf (ci := 1) (k := 2) (C := RX0) (T := TX0) (N := 7) (n := A) (L := 0) (t := 2) dX2_linkBoth_238 rfl wi_65 m_576 (Nat.le_of_ble_eq_true rfl) rfl rfl hk41 hv466 ?_
                      refine s_iload_n dX2_linkBoth_241 rfl ?_
                      have hk467 : gK G32 (A + 2) = (1, 10) := ((hXG32).k ((hXG11).k kA2 (by decide)) (by decide))
                      refine s_iald dX2_linkBoth_242 hk467 (by omega) (by omega) rfl ?_
                      refine s_aload_n dX2_linkBoth_243 rfl (Int.natCast_nonneg _) ?_
                      have hv468 : gS G32 327682 6 = ((327691 : Nat) : Int) := by have h9 : (gS G32 327682 6) = 327691 := hCG32.1.v (j := 6) (by decide : cde 327682 = 502) al321 (by rw [hk320]; exact Nat.le_of_ble_eq_true rfl); omega
                      refine s_getf (ci := 3) (k := 6) (C := RX2) (T := TX2) (N := 8) (n := 327682) (L := 0) (t := 2) dX2_linkBoth_244 rfl wi_70 m_582 (Nat.le_of_ble_eq_true rfl) rfl rfl hk320 hv468 ?_
                      refine s_iload dX2_linkBoth_247 rfl ?_
                      have hk471 : gK G32 (f) = (9, 0) := ((hXG32).k ((hXG11).k kf0 (by decide)) (by decide))
                      refine s_callV (as := [(0, k), (0, gS G32 (A + 2) ((k : Int).toNat)), (2, ((327691 : Nat) : Int)), (0, rr12)]) (rest := []) (n := f) (ci := 1) gX0_putValue dX2_linkBoth_249 m_1320 m_750 m_1483 m_711 m_77 ⟨by decide, by decide, show (parseMethodDescriptor yX0_putValue.desc).map (fun d => d.parameters.length) = some 4 from by decide +kernel⟩ (Nat.le_of_ble_eq_true rfl) (by rw [hcf]; exact Nat.le_of_ble_eq_true rfl) hk471 rfl rfl (Nat.le_of_ble_eq_true rfl) ⟨f, k, gS G32 (A + 2) ((k : Int).toNat), 327691, 200, rr12, a, b, rfl, hCG32, hab, (by first | assumption | omega), (by first | assumption | omega), hk324, (by first | assumption | omega), (by first | assumption | omega), (by first | assumption | omega), fun G469 hCG469 hXG469 hfG469 hpG469 => ?_⟩
                      have hFG469 : WX (fun x => x = 327691 ∨ x = 327692 ∨ (f + 1 ≤ x ∧ x ≤ f + 22)) G G469 := WX.trans hFG32 (KX.trans hXG11 hXG32) (WX.mono hfG469 (fun x hx => by omega))
                      have hFIG469 : ∀ k : Nat, k < 6 → FIP P G469 262144 k := fun k hk => FIP.sm (hFIG32 k hk) hXG469 hfG469 (by show ¬ _; omega) (congrFun (hfG469 262149 (KX.al (KX.trans hXG11 hXG32) (kne k262149 (by decide))) (by show ¬ _; omega)) k)
                      have hFAG469 : FPa P G469 A := (hFAG32).wx hXG469 hfG469 ⟨KX.al (KX.trans hXG11 hXG32) (kne kA3 (by decide)), KX.al (KX.trans hXG11 hXG32) (kne kA4 (by decide))⟩ (by show ¬ _; omega) (by show ¬ _; omega) (fun p hp => by show ¬ _; omega)
                      have hFBG469 : FPa P G469 B := (hFBG32).wx hXG469 hfG469 ⟨KX.al (KX.trans hXG11 hXG32) (kne kB3 (by decide)), KX.al (KX.trans hXG11 hXG32) (kne kB4 (by decide))⟩ (by show ¬ _; omega) (by show ¬ _; omega) (fun p hp => by show ¬ _; omega)
                      have hFfG469 : FPa P G469 f := FPa.put hpG469.1 hFfG32 (fun _ _ => (hpG11.2 P ((hFA (6 + k : Int).toNat (by omega)).rps hv4 rfl) hFI (by omega)).wx hXG32 hfG32 (by show ¬ _; omega)) hXG469 hfG469 (fun p hp hn => by show ¬ _; omega)
                      show WP kX2_linkBoth X 252 [some (2, ((327682 : Nat) : Int)), some (0, k), some (2, ((A : Nat) : Int)), some (2, ((B : Nat) : Int)), some (2, ((f : Nat) : Int)), some (0, rr12), some (0, rr33), some (2, ((A : Nat) : Int)), some (2, ((B : Nat) : Int))] [] G469
                      refine s_aload dX2_linkBoth_252 rfl (Int.natCast_nonneg _) ?_
                      refine s_iload_n dX2_linkBoth_254 rfl ?_
                      refine s_aload dX2_linkBoth_255 rfl (Int.natCast_nonneg _) ?_
                      refine s_iload_n dX2_linkBoth_257 rfl ?_
                      have hk474 : gK G469 (f) = (9, 0) := ((hXG469).k hk471 (by decide))
                      refine s_callV (as := [(0, k), (2, ((A : Nat) : Int)), (0, k)]) (rest := []) (n := f) (ci := 1) gX0_putNumberOf dX2_linkBoth_258 m_1321 m_745 m_1478 m_711 m_72 ⟨by decide, by decide, show (parseMethodDescriptor yX0_putNumberOf.desc).map (fun d => d.parameters.length) = some 3 from by decide +kernel⟩ (Nat.le_of_ble_eq_true rfl) (by rw [hcf]; exact Nat.le_of_ble_eq_true rfl) hk474 rfl rfl (Nat.le_of_ble_eq_true rfl) ⟨f, k, A, k, a, b, rfl, hCG469, hab, (by first | assumption | omega), (by first | assumption | omega), (by first | assumption | omega), (by first | assumption | omega), fun G472 hCG472 hXG472 hfG472 hpG472 => ?_⟩
                      have hFG472 : WX (fun x => x = 327691 ∨ x = 327692 ∨ (f + 1 ≤ x ∧ x ≤ f + 22)) G G472 := WX.trans hFG469 (KX.trans (KX.trans hXG11 hXG32) hXG469) (WX.mono hfG472 (fun x hx => by omega))
                      have hFIG472 : ∀ k : Nat, k < 6 → FIP P G472 262144 k := fun k hk => FIP.sm (hFIG469 k hk) hXG472 hfG472 (by show ¬ _; omega) (congrFun (hfG472 262149 (KX.al (KX.trans (KX.trans hXG11 hXG32) hXG469) (kne k262149 (by decide))) (by show ¬ _; omega)) k)
                      have hFAG472 : FPa P G472 A := (hFAG469).wx hXG472 hfG472 ⟨KX.al (KX.trans (KX.trans hXG11 hXG32) hXG469) (kne kA3 (by decide)), KX.al (KX.trans (KX.trans hXG11 hXG32) hXG469) (kne kA4 (by decide))⟩ (by show ¬ _; omega) (by show ¬ _; omega) (fun p hp => by show ¬ _; omega)
                      have hFBG472 : FPa P G472 B := (hFBG469).wx hXG472 hfG472 ⟨KX.al (KX.trans (KX.trans hXG11 hXG32) hXG469) (kne kB3 (by decide)), KX.al (KX.trans (KX.trans hXG11 hXG32) hXG469) (kne kB4 (by decide))⟩ (by show ¬ _; omega) (by show ¬ _; omega) (fun p hp => by show ¬ _; omega)
                      have hFfG472 : FPa P G472 f := (hFfG469).wx hXG472 hfG472 ⟨KX.al (KX.trans (KX.trans hXG11 hXG32) hXG469) (kne kf3 (by decide)), KX.al (KX.trans (KX.trans hXG11 hXG32) hXG469) (kne kf4 (by decide))⟩ (by show ¬ _; omega) (by show ¬ _; omega) (fun p hp => by show ¬ _; omega)
                      show WP kX2_linkBoth X 261 [some (2, ((327682 : Nat) : Int)), some (0, k), some (2, ((A : Nat) : Int)), some (2, ((B : Nat) : Int)), some (2, ((f : Nat) : Int)), some (0, rr12), some (0, rr33), some (2, ((A : Nat) : Int)), some (2, ((B : Nat) : Int))] [] G472
                      refine s_iconst dX2_linkBoth_261 (by decide) ?_
                      exact s_iret hR dX2_linkBoth_262 rfl (hQ 0 G472 hCG472 (KX.trans (KX.trans (KX.trans hXG11 hXG32) hXG469) hXG472) hFG472 hFfG472)
                    · -- 214 to 217
                      refine s_aload dX2_linkBoth_217 rfl (Int.natCast_nonneg _) ?_
                      refine s_iload_n dX2_linkBoth_219 rfl ?_
                      refine s_callV (as := [(0, k)]) (rest := []) (n := B) (ci := 1) gX0_isGhost dX2_linkBoth_220 m_1323 m_741 m_1474 m_711 m_68 ⟨by decide, by decide, show (parseMethodDescriptor yX0_isGhost.desc).map (fun d => d.parameters.length) = some 1 from by decide +kernel⟩ (Nat.le_of_ble_eq_true rfl) (by rw [hcf]; exact Nat.le_of_ble_eq_true rfl) hk318 rfl rfl (Nat.le_of_ble_eq_true rfl) ⟨B, k, a, b, rfl, hCG32, hab, (by first | assumption | omega), (by first | assumption | omega), fun rr475 hp476 => ?_⟩
                      show WP kX2_linkBoth X 223 [some (2, ((327682 : Nat) : Int)), some (0, k), some (2, ((A : Nat) : Int)), some (2, ((B : Nat) : Int)), some (2, ((f : Nat) : Int)), some (0, rr12), some (0, rr33), some (2, ((A : Nat) : Int)), some (2, ((B : Nat) : Int))] [(0, rr475)] G32
                      refine s_if_ne (tgt := 233) dX2_linkBoth_223 (by decide) (fun c477 => ?_) (fun c477 => ?_)
                      · -- 223 to 233
                        refine s_aload dX2_linkBoth_233 rfl (Int.natCast_nonneg _) ?_
                        refine s_iload_n dX2_linkBoth_235 rfl ?_
                        refine s_aload dX2_linkBoth_236 rfl (Int.natCast_nonneg _) ?_
                        refine s_alv (A) (by simp) (fun al478 => ?_)
                        have hv479 : gS G32 A 2 = ((A + 2 : Nat) : Int) := by have h9 : (gS G32 A 2) = (((A % 1048576) + 2 : Nat) : Int) := hCG32.1.v (j := 2) (by rw [cde_n (by omega) (by omega)]; omega : cde A = 101) al478 (by rw [hk41]; exact Nat.le_of_ble_eq_true rfl); omega
                        refine s_getf (ci := 1) (k := 2) (C := RX0) (T := TX0) (N := 7) (n := A) (L := 0) (t := 2) dX2_linkBoth_238 rfl wi_65 m_576 (Nat.le_of_ble_eq_true rfl) rfl rfl hk41 hv479 ?_
                        refine s_iload_n dX2_linkBoth_241 rfl ?_
                        have hk480 : gK G32 (A + 2) = (1, 10) := ((hXG32).k ((hXG11).k kA2 (by decide)) (by decide))
                        refine s_iald dX2_linkBoth_242 hk480 (by omega) (by omega) rfl ?_
                        refine s_aload_n dX2_linkBoth_243 rfl (Int.natCast_nonneg _) ?_
                        have hv481 : gS G32 327682 6 = ((327691 : Nat) : Int) := by have h9 : (gS G32 327682 6) = 327691 := hCG32.1.v (j := 6) (by decide : cde 327682 = 502) al321 (by rw [hk320]; exact Nat.le_of_ble_eq_true rfl); omega
                        refine s_getf (ci := 3) (k := 6) (C := RX2) (T := TX2) (N := 8) (n := 327682) (L := 0) (t := 2) dX2_linkBoth_244 rfl wi_70 m_582 (Nat.le_of_ble_eq_true rfl) rfl rfl hk320 hv481 ?_
                        refine s_iload dX2_linkBoth_247 rfl ?_
                        have hk484 : gK G32 (f) = (9, 0) := ((hXG32).k ((hXG11).k kf0 (by decide)) (by decide))
                        refine s_callV (as := [(0, k), (0, gS G32 (A + 2) ((k : Int).toNat)), (2, ((327691 : Nat) : Int)), (0, rr12)]) (rest := []) (n := f) (ci := 1) gX0_putValue dX2_linkBoth_249 m_1320 m_750 m_1483 m_711 m_77 ⟨by decide, by decide, show (parseMethodDescriptor yX0_putValue.desc).map (fun d => d.parameters.length) = some 4 from by decide +kernel⟩ (Nat.le_of_ble_eq_true rfl) (by rw [hcf]; exact Nat.le_of_ble_eq_true rfl) hk484 rfl rfl (Nat.le_of_ble_eq_true rfl) ⟨f, k, gS G32 (A + 2) ((k : Int).toNat), 327691, 200, rr12, a, b, rfl, hCG32, hab, (by first | assumption | omega), (by first | assumption | omega), hk324, (by first | assumption | omega), (by first | assumption | omega), (by first | assumption | omega), fun G482 hCG482 hXG482 hfG482 hpG482 => ?_⟩
                        have hFG482 : WX (fun x => x = 327691 ∨ x = 327692 ∨ (f + 1 ≤ x ∧ x ≤ f + 22)) G G482 := WX.trans hFG32 (KX.trans hXG11 hXG32) (WX.mono hfG482 (fun x hx => by omega))
                        have hFIG482 : ∀ k : Nat, k < 6 → FIP P G482 262144 k := fun k hk => FIP.sm (hFIG32 k hk) hXG482 hfG482 (by show ¬ _; omega) (congrFun (hfG482 262149 (KX.al (KX.trans hXG11 hXG32) (kne k262149 (by decide))) (by show ¬ _; omega)) k)
                        have hFAG482 : FPa P G482 A := (hFAG32).wx hXG482 hfG482 ⟨KX.al (KX.trans hXG11 hXG32) (kne kA3 (by decide)), KX.al (KX.trans hXG11 hXG32) (kne kA4 (by decide))⟩ (by show ¬ _; omega) (by show ¬ _; omega) (fun p hp => by show ¬ _; omega)
                        have hFBG482 : FPa P G482 B := (hFBG32).wx hXG482 hfG482 ⟨KX.al (KX.trans hXG11 hXG32) (kne kB3 (by decide)), KX.al (KX.trans hXG11 hXG32) (kne kB4 (by decide))⟩ (by show ¬ _; omega) (by show ¬ _; omega) (fun p hp => by show ¬ _; omega)
                        have hFfG482 : FPa P G482 f := FPa.put hpG482.1 hFfG32 (fun _ _ => (hpG11.2 P ((hFA (6 + k : Int).toNat (by omega)).rps hv4 rfl) hFI (by omega)).wx hXG32 hfG32 (by show ¬ _; omega)) hXG482 hfG482 (fun p hp hn => by show ¬ _; omega)
                        show WP kX2_linkBoth X 252 [some (2, ((327682 : Nat) : Int)), some (0, k), some (2, ((A : Nat) : Int)), some (2, ((B : Nat) : Int)), some (2, ((f : Nat) : Int)), some (0, rr12), some (0, rr33), some (2, ((A : Nat) : Int)), some (2, ((B : Nat) : Int))] [] G482
                        refine s_aload dX2_linkBoth_252 rfl (Int.natCast_nonneg _) ?_
                        refine s_iload_n dX2_linkBoth_254 rfl ?_
                        refine s_aload dX2_linkBoth_255 rfl (Int.natCast_nonneg _) ?_
                        refine s_iload_n dX2_linkBoth_257 rfl ?_
                        have hk487 : gK G482 (f) = (9, 0) := ((hXG482).k hk484 (by decide))
                        refine s_callV (as := [(0, k), (2, ((A : Nat) : Int)), (0, k)]) (rest := []) (n := f) (ci := 1) gX0_putNumberOf dX2_linkBoth_258 m_1321 m_745 m_1478 m_711 m_72 ⟨by decide, by decide, show (parseMethodDescriptor yX0_putNumberOf.desc).map (fun d => d.parameters.length) = some 3 from by decide +kernel⟩ (Nat.le_of_ble_eq_true rfl) (by rw [hcf]; exact Nat.le_of_ble_eq_true rfl) hk487 rfl rfl (Nat.le_of_ble_eq_true rfl) ⟨f, k, A, k, a, b, rfl, hCG482, hab, (by first | assumption | omega), (by first | assumption | omega), (by first | assumption | omega), (by first | assumption | omega), fun G485 hCG485 hXG485 hfG485 hpG485 => ?_⟩
                        have hFG485 : WX (fun x => x = 327691 ∨ x = 327692 ∨ (f + 1 ≤ x ∧ x ≤ f + 22)) G G485 := WX.trans hFG482 (KX.trans (KX.trans hXG11 hXG32) hXG482) (WX.mono hfG485 (fun x hx => by omega))
                        have hFIG485 : ∀ k : Nat, k < 6 → FIP P G485 262144 k := fun k hk => FIP.sm (hFIG482 k hk) hXG485 hfG485 (by show ¬ _; omega) (congrFun (hfG485 262149 (KX.al (KX.trans (KX.trans hXG11 hXG32) hXG482) (kne k262149 (by decide))) (by show ¬ _; omega)) k)
                        have hFAG485 : FPa P G485 A := (hFAG482).wx hXG485 hfG485 ⟨KX.al (KX.trans (KX.trans hXG11 hXG32) hXG482) (kne kA3 (by decide)), KX.al (KX.trans (KX.trans hXG11 hXG32) hXG482) (kne kA4 (by decide))⟩ (by show ¬ _; omega) (by show ¬ _; omega) (fun p hp => by show ¬ _; omega)
                        have hFBG485 : FPa P G485 B := (hFBG482).wx hXG485 hfG485 ⟨KX.al (KX.trans (KX.trans hXG11 hXG32) hXG482) (kne kB3 (by decide)), KX.al (KX.trans (KX.trans hXG11 hXG32) hXG482) (kne kB4 (by decide))⟩ (by show ¬ _; omega) (by show ¬ _; omega) (fun p hp => by show ¬ _; omega)
                        have hFfG485 : FPa P G485 f := (hFfG482).wx hXG485 hfG485 ⟨KX.al (KX.trans (KX.trans hXG11 hXG32) hXG482) (kne kf3 (by decide)), KX.al (KX.trans (KX.trans hXG11 hXG32) hXG482) (kne kf4 (by decide))⟩ (by show ¬ _; omega) (by show ¬ _; omega) (fun p hp => by show ¬ _; omega)
                        show WP kX2_linkBoth X 261 [some (2, ((327682 : Nat) : Int)), some (0, k), some (2, ((A : Nat) : Int)), some (2, ((B : Nat) : Int)), some (2, ((f : Nat) : Int)), some (0, rr12), some (0, rr33), some (2, ((A : Nat) : Int)), some (2, ((B : Nat) : Int))] [] G485
                        refine s_iconst dX2_linkBoth_261 (by decide) ?_
                        exact s_iret hR dX2_linkBoth_262 rfl (hQ 0 G485 hCG485 (KX.trans (KX.trans (KX.trans hXG11 hXG32) hXG482) hXG485) hFG485 hFfG485)
                      · -- 223 to 226
                        refine s_bipush dX2_linkBoth_226 rfl (by decide) ?_
                        refine s_iload_n dX2_linkBoth_228 rfl ?_
                        refine s_callSN (own := RX2) rfl (by decide +kernel) (as := [(0, 6), (0, k)]) (rest := []) gX11_valueMistake dX2_linkBoth_229 m_1784 m_714 m_129 ⟨by decide, by decide, show (parseMethodDescriptor yX11_valueMistake.desc).map (fun d => d.parameters.length) = some 2 from by decide +kernel⟩ (Nat.le_of_ble_eq_true rfl) (by rw [hcf]; exact Nat.le_of_ble_eq_true rfl) rfl (Nat.le_of_ble_eq_true rfl) ⟨6, k, rfl, (by first | assumption | omega), (by first | assumption | omega), fun rr488 hp489 => ?_⟩
                        show WP kX2_linkBoth X 232 [some (2, ((327682 : Nat) : Int)), some (0, k), some (2, ((A : Nat) : Int)), some (2, ((B : Nat) : Int)), some (2, ((f : Nat) : Int)), some (0, rr12), some (0, rr33), some (2, ((A : Nat) : Int)), some (2, ((B : Nat) : Int))] [(0, rr488)] G32
                        exact s_iret hR dX2_linkBoth_232 rfl (hQ rr488 G32 hCG32 (KX.trans hXG11 hXG32) hFG32 hFfG32)
                  · -- 198 to 201
                    refine s_aload_n dX2_linkBoth_201 rfl (Int.natCast_nonneg _) ?_
                    refine s_goto (tgt := 206) dX2_linkBoth_202 (by decide) ?_
                    refine s_astore (Int.natCast_nonneg _) dX2_linkBoth_206 (by decide) (lv' := [some (2, ((327682 : Nat) : Int)), some (0, k), some (2, ((A : Nat) : Int)), some (2, ((B : Nat) : Int)), some (2, ((f : Nat) : Int)), some (0, rr12), some (0, rr33), some (2, ((A : Nat) : Int)), some (2, ((A : Nat) : Int))]) rfl ?_
                    refine s_aload dX2_linkBoth_208 rfl (Int.natCast_nonneg _) ?_
                    refine s_iload_n dX2_linkBoth_210 rfl ?_
                    refine s_callV (as := [(0, k)]) (rest := []) (n := A) (ci := 1) gX0_isGhost dX2_linkBoth_211 m_1323 m_741 m_1474 m_711 m_68 ⟨by decide, by decide, show (parseMethodDescriptor yX0_isGhost.desc).map (fun d => d.parameters.length) = some 1 from by decide +kernel⟩ (Nat.le_of_ble_eq_true rfl) (by rw [hcf]; exact Nat.le_of_ble_eq_true rfl) hk41 rfl rfl (Nat.le_of_ble_eq_true rfl) ⟨A, k, a, b, rfl, hCG32, hab, (by first | assumption | omega), (by first | assumption | omega), fun rr490 hp491 => ?_⟩
                    show WP kX2_linkBoth X 214 [some (2, ((327682 : Nat) : Int)), some (0, k), some (2, ((A : Nat) : Int)), some (2, ((B : Nat) : Int)), some (2, ((f : Nat) : Int)), some (0, rr12), some (0, rr33), some (2, ((A : Nat) : Int)), some (2, ((A : Nat) : Int))] [(0, rr490)] G32
                    refine s_if_eq (tgt := 233) dX2_linkBoth_214 (by decide) (fun c492 => ?_) (fun c492 => ?_)
                    · -- 214 to 233
                      refine s_aload dX2_linkBoth_233 rfl (Int.natCast_nonneg _) ?_
                      refine s_iload_n dX2_linkBoth_235 rfl ?_
                      refine s_aload dX2_linkBoth_236 rfl (Int.natCast_nonneg _) ?_
                      refine s_alv (A) (by simp) (fun al493 => ?_)
                      have hv494 : gS G32 A 2 = ((A + 2 : Nat) : Int) := by have h9 : (gS G32 A 2) = (((A % 1048576) + 2 : Nat) : Int) := hCG32.1.v (j := 2) (by rw [cde_n (by omega) (by omega)]; omega : cde A = 101) al493 (by rw [hk41]; exact Nat.le_of_ble_eq_true rfl); omega
                      refine s_getf (ci := 1) (k := 2) (C := RX0) (T := TX0) (N := 7) (n := A) (L := 0) (t := 2) dX2_linkBoth_238 rfl wi_65 m_576 (Nat.le_of_ble_eq_true rfl) rfl rfl hk41 hv494 ?_
                      refine s_iload_n dX2_linkBoth_241 rfl ?_
                      have hk495 : gK G32 (A + 2) = (1, 10) := ((hXG32).k ((hXG11).k kA2 (by decide)) (by decide))
                      refine s_iald dX2_linkBoth_242 hk495 (by omega) (by omega) rfl ?_
                      refine s_aload_n dX2_linkBoth_243 rfl (Int.natCast_nonneg _) ?_
                      have hv496 : gS G32 327682 6 = ((327691 : Nat) : Int) := by have h9 : (gS G32 327682 6) = 327691 := hCG32.1.v (j := 6) (by decide : cde 327682 = 502) al321 (by rw [hk320]; exact Nat.le_of_ble_eq_true rfl); omega
                      refine s_getf (ci := 3) (k := 6) (C := RX2) (T := TX2) (N := 8) (n := 327682) (L := 0) (t := 2) dX2_linkBoth_244 rfl wi_70 m_582 (Nat.le_of_ble_eq_true rfl) rfl rfl hk320 hv496 ?_
                      refine s_iload dX2_linkBoth_247 rfl ?_
                      have hk499 : gK G32 (f) = (9, 0) := ((hXG32).k ((hXG11).k kf0 (by decide)) (by decide))
                      refine s_callV (as := [(0, k), (0, gS G32 (A + 2) ((k : Int).toNat)), (2, ((327691 : Nat) : Int)), (0, rr12)]) (rest := []) (n := f) (ci := 1) gX0_putValue dX2_linkBoth_249 m_1320 m_750 m_1483 m_711 m_77 ⟨by decide, by decide, show (parseMethodDescriptor yX0_putValue.desc).map (fun d => d.parameters.length) = some 4 from by decide +kernel⟩ (Nat.le_of_ble_eq_true rfl) (by rw [hcf]; exact Nat.le_of_ble_eq_true rfl) hk499 rfl rfl (Nat.le_of_ble_eq_true rfl) ⟨f, k, gS G32 (A + 2) ((k : Int).toNat), 327691, 200, rr12, a, b, rfl, hCG32, hab, (by first | assumption | omega), (by first | assumption | omega), hk324, (by first | assumption | omega), (by first | assumption | omega), (by first | assumption | omega), fun G497 hCG497 hXG497 hfG497 hpG497 => ?_⟩
                      have hFG497 : WX (fun x => x = 327691 ∨ x = 327692 ∨ (f + 1 ≤ x ∧ x ≤ f + 22)) G G497 := WX.trans hFG32 (KX.trans hXG11 hXG32) (WX.mono hfG497 (fun x hx => by omega))
                      have hFIG497 : ∀ k : Nat, k < 6 → FIP P G497 262144 k := fun k hk => FIP.sm (hFIG32 k hk) hXG497 hfG497 (by show ¬ _; omega) (congrFun (hfG497 262149 (KX.al (KX.trans hXG11 hXG32) (kne k262149 (by decide))) (by show ¬ _; omega)) k)
                      have hFAG497 : FPa P G497 A := (hFAG32).wx hXG497 hfG497 ⟨KX.al (KX.trans hXG11 hXG32) (kne kA3 (by decide)), KX.al (KX.trans hXG11 hXG32) (kne kA4 (by decide))⟩ (by show ¬ _; omega) (by show ¬ _; omega) (fun p hp => by show ¬ _; omega)
                      have hFBG497 : FPa P G497 B := (hFBG32).wx hXG497 hfG497 ⟨KX.al (KX.trans hXG11 hXG32) (kne kB3 (by decide)), KX.al (KX.trans hXG11 hXG32) (kne kB4 (by decide))⟩ (by show ¬ _; omega) (by show ¬ _; omega) (fun p hp => by show ¬ _; omega)
                      have hFfG497 : FPa P G497 f := FPa.put hpG497.1 hFfG32 (fun _ _ => (hpG11.2 P ((hFA (6 + k : Int).toNat (by omega)).rps hv4 rfl) hFI (by omega)).wx hXG32 hfG32 (by show ¬ _; omega)) hXG497 hfG497 (fun p hp hn => by show ¬ _; omega)
                      show WP kX2_linkBoth X 252 [some (2, ((327682 : Nat) : Int)), some (0, k), some (2, ((A : Nat) : Int)), some (2, ((B : Nat) : Int)), some (2, ((f : Nat) : Int)), some (0, rr12), some (0, rr33), some (2, ((A : Nat) : Int)), some (2, ((A : Nat) : Int))] [] G497
                      refine s_aload dX2_linkBoth_252 rfl (Int.natCast_nonneg _) ?_
                      refine s_iload_n dX2_linkBoth_254 rfl ?_
                      refine s_aload dX2_linkBoth_255 rfl (Int.natCast_nonneg _) ?_
                      refine s_iload_n dX2_linkBoth_257 rfl ?_
                      have hk502 : gK G497 (f) = (9, 0) := ((hXG497).k hk499 (by decide))
                      refine s_callV (as := [(0, k), (2, ((A : Nat) : Int)), (0, k)]) (rest := []) (n := f) (ci := 1) gX0_putNumberOf dX2_linkBoth_258 m_1321 m_745 m_1478 m_711 m_72 ⟨by decide, by decide, show (parseMethodDescriptor yX0_putNumberOf.desc).map (fun d => d.parameters.length) = some 3 from by decide +kernel⟩ (Nat.le_of_ble_eq_true rfl) (by rw [hcf]; exact Nat.le_of_ble_eq_true rfl) hk502 rfl rfl (Nat.le_of_ble_eq_true rfl) ⟨f, k, A, k, a, b, rfl, hCG497, hab, (by first | assumption | omega), (by first | assumption | omega), (by first | assumption | omega), (by first | assumption | omega), fun G500 hCG500 hXG500 hfG500 hpG500 => ?_⟩
                      have hFG500 : WX (fun x => x = 327691 ∨ x = 327692 ∨ (f + 1 ≤ x ∧ x ≤ f + 22)) G G500 := WX.trans hFG497 (KX.trans (KX.trans hXG11 hXG32) hXG497) (WX.mono hfG500 (fun x hx => by omega))
                      have hFIG500 : ∀ k : Nat, k < 6 → FIP P G500 262144 k := fun k hk => FIP.sm (hFIG497 k hk) hXG500 hfG500 (by show ¬ _; omega) (congrFun (hfG500 262149 (KX.al (KX.trans (KX.trans hXG11 hXG32) hXG497) (kne k262149 (by decide))) (by show ¬ _; omega)) k)
                      have hFAG500 : FPa P G500 A := (hFAG497).wx hXG500 hfG500 ⟨KX.al (KX.trans (KX.trans hXG11 hXG32) hXG497) (kne kA3 (by decide)), KX.al (KX.trans (KX.trans hXG11 hXG32) hXG497) (kne kA4 (by decide))⟩ (by show ¬ _; omega) (by show ¬ _; omega) (fun p hp => by show ¬ _; omega)
                      have hFBG500 : FPa P G500 B := (hFBG497).wx hXG500 hfG500 ⟨KX.al (KX.trans (KX.trans hXG11 hXG32) hXG497) (kne kB3 (by decide)), KX.al (KX.trans (KX.trans hXG11 hXG32) hXG497) (kne kB4 (by decide))⟩ (by show ¬ _; omega) (by show ¬ _; omega) (fun p hp => by show ¬ _; omega)
                      have hFfG500 : FPa P G500 f := (hFfG497).wx hXG500 hfG500 ⟨KX.al (KX.trans (KX.trans hXG11 hXG32) hXG497) (kne kf3 (by decide)), KX.al (KX.trans (KX.trans hXG11 hXG32) hXG497) (kne kf4 (by decide))⟩ (by show ¬ _; omega) (by show ¬ _; omega) (fun p hp => by show ¬ _; omega)
                      show WP kX2_linkBoth X 261 [some (2, ((327682 : Nat) : Int)), some (0, k), some (2, ((A : Nat) : Int)), some (2, ((B : Nat) : Int)), some (2, ((f : Nat) : Int)), some (0, rr12), some (0, rr33), some (2, ((A : Nat) : Int)), some (2, ((A : Nat) : Int))] [] G500
                      refine s_iconst dX2_linkBoth_261 (by decide) ?_
                      exact s_iret hR dX2_linkBoth_262 rfl (hQ 0 G500 hCG500 (KX.trans (KX.trans (KX.trans hXG11 hXG32) hXG497) hXG500) hFG500 hFfG500)
                    · -- 214 to 217
                      refine s_aload dX2_linkBoth_217 rfl (Int.natCast_nonneg _) ?_
                      refine s_iload_n dX2_linkBoth_219 rfl ?_
                      refine s_callV (as := [(0, k)]) (rest := []) (n := A) (ci := 1) gX0_isGhost dX2_linkBoth_220 m_1323 m_741 m_1474 m_711 m_68 ⟨by decide, by decide, show (parseMethodDescriptor yX0_isGhost.desc).map (fun d => d.parameters.length) = some 1 from by decide +kernel⟩ (Nat.le_of_ble_eq_true rfl) (by rw [hcf]; exact Nat.le_of_ble_eq_true rfl) hk41 rfl rfl (Nat.le_of_ble_eq_true rfl) ⟨A, k, a, b, rfl, hCG32, hab, (by first | assumption | omega), (by first | assumption | omega), fun rr503 hp504 => ?_⟩
                      show WP kX2_linkBoth X 223 [some (2, ((327682 : Nat) : Int)), some (0, k), some (2, ((A : Nat) : Int)), some (2, ((B : Nat) : Int)), some (2, ((f : Nat) : Int)), some (0, rr12), some (0, rr33), some (2, ((A : Nat) : Int)), some (2, ((A : Nat) : Int))] [(0, rr503)] G32
                      refine s_if_ne (tgt := 233) dX2_linkBoth_223 (by decide) (fun c505 => ?_) (fun c505 => ?_)
                      · -- 223 to 233
                        refine s_aload dX2_linkBoth_233 rfl (Int.natCast_nonneg _) ?_
                        refine s_iload_n dX2_linkBoth_235 rfl ?_
                        refine s_aload dX2_linkBoth_236 rfl (Int.natCast_nonneg _) ?_
                        refine s_alv (A) (by simp) (fun al506 => ?_)
                        have hv507 : gS G32 A 2 = ((A + 2 : Nat) : Int) := by have h9 : (gS G32 A 2) = (((A % 1048576) + 2 : Nat) : Int) := hCG32.1.v (j := 2) (by rw [cde_n (by omega) (by omega)]; omega : cde A = 101) al506 (by rw [hk41]; exact Nat.le_of_ble_eq_true rfl); omega
                        refine s_getf (ci := 1) (k := 2) (C := RX0) (T := TX0) (N := 7) (n := A) (L := 0) (t := 2) dX2_linkBoth_238 rfl wi_65 m_576 (Nat.le_of_ble_eq_true rfl) rfl rfl hk41 hv507 ?_
                        refine s_iload_n dX2_linkBoth_241 rfl ?_
                        have hk508 : gK G32 (A + 2) = (1, 10) := ((hXG32).k ((hXG11).k kA2 (by decide)) (by decide))
                        refine s_iald dX2_linkBoth_242 hk508 (by omega) (by omega) rfl ?_
                        refine s_aload_n dX2_linkBoth_243 rfl (Int.natCast_nonneg _) ?_
                        have hv509 : gS G32 327682 6 = ((327691 : Nat) : Int) := by have h9 : (gS G32 327682 6) = 327691 := hCG32.1.v (j := 6) (by decide : cde 327682 = 502) al321 (by rw [hk320]; exact Nat.le_of_ble_eq_true rfl); omega
                        refine s_getf (ci := 3) (k := 6) (C := RX2) (T := TX2) (N := 8) (n := 327682) (L := 0) (t := 2) dX2_linkBoth_244 rfl wi_70 m_582 (Nat.le_of_ble_eq_true rfl) rfl rfl hk320 hv509 ?_
                        refine s_iload dX2_linkBoth_247 rfl ?_
                        have hk512 : gK G32 (f) = (9, 0) := ((hXG32).k ((hXG11).k kf0 (by decide)) (by decide))
                        refine s_callV (as := [(0, k), (0, gS G32 (A + 2) ((k : Int).toNat)), (2, ((327691 : Nat) : Int)), (0, rr12)]) (rest := []) (n := f) (ci := 1) gX0_putValue dX2_linkBoth_249 m_1320 m_750 m_1483 m_711 m_77 ⟨by decide, by decide, show (parseMethodDescriptor yX0_putValue.desc).map (fun d => d.parameters.length) = some 4 from by decide +kernel⟩ (Nat.le_of_ble_eq_true rfl) (by rw [hcf]; exact Nat.le_of_ble_eq_true rfl) hk512 rfl rfl (Nat.le_of_ble_eq_true rfl) ⟨f, k, gS G32 (A + 2) ((k : Int).toNat), 327691, 200, rr12, a, b, rfl, hCG32, hab, (by first | assumption | omega), (by first | assumption | omega), hk324, (by first | assumption | omega), (by first | assumption | omega), (by first | assumption | omega), fun G510 hCG510 hXG510 hfG510 hpG510 => ?_⟩
                        have hFG510 : WX (fun x => x = 327691 ∨ x = 327692 ∨ (f + 1 ≤ x ∧ x ≤ f + 22)) G G510 := WX.trans hFG32 (KX.trans hXG11 hXG32) (WX.mono hfG510 (fun x hx => by omega))
                        have hFIG510 : ∀ k : Nat, k < 6 → FIP P G510 262144 k := fun k hk => FIP.sm (hFIG32 k hk) hXG510 hfG510 (by show ¬ _; omega) (congrFun (hfG510 262149 (KX.al (KX.trans hXG11 hXG32) (kne k262149 (by decide))) (by show ¬ _; omega)) k)
                        have hFAG510 : FPa P G510 A := (hFAG32).wx hXG510 hfG510 ⟨KX.al (KX.trans hXG11 hXG32) (kne kA3 (by decide)), KX.al (KX.trans hXG11 hXG32) (kne kA4 (by decide))⟩ (by show ¬ _; omega) (by show ¬ _; omega) (fun p hp => by show ¬ _; omega)
                        have hFBG510 : FPa P G510 B := (hFBG32).wx hXG510 hfG510 ⟨KX.al (KX.trans hXG11 hXG32) (kne kB3 (by decide)), KX.al (KX.trans hXG11 hXG32) (kne kB4 (by decide))⟩ (by show ¬ _; omega) (by show ¬ _; omega) (fun p hp => by show ¬ _; omega)
                        have hFfG510 : FPa P G510 f := FPa.put hpG510.1 hFfG32 (fun _ _ => (hpG11.2 P ((hFA (6 + k : Int).toNat (by omega)).rps hv4 rfl) hFI (by omega)).wx hXG32 hfG32 (by show ¬ _; omega)) hXG510 hfG510 (fun p hp hn => by show ¬ _; omega)
                        show WP kX2_linkBoth X 252 [some (2, ((327682 : Nat) : Int)), some (0, k), some (2, ((A : Nat) : Int)), some (2, ((B : Nat) : Int)), some (2, ((f : Nat) : Int)), some (0, rr12), some (0, rr33), some (2, ((A : Nat) : Int)), some (2, ((A : Nat) : Int))] [] G510
                        refine s_aload dX2_linkBoth_252 rfl (Int.natCast_nonneg _) ?_
                        refine s_iload_n dX2_linkBoth_254 rfl ?_
                        refine s_aload dX2_linkBoth_255 rfl (Int.natCast_nonneg _) ?_
                        refine s_iload_n dX2_linkBoth_257 rfl ?_
                        have hk515 : gK G510 (f) = (9, 0) := ((hXG510).k hk512 (by decide))
                        refine s_callV (as := [(0, k), (2, ((A : Nat) : Int)), (0, k)]) (rest := []) (n := f) (ci := 1) gX0_putNumberOf dX2_linkBoth_258 m_1321 m_745 m_1478 m_711 m_72 ⟨by decide, by decide, show (parseMethodDescriptor yX0_putNumberOf.desc).map (fun d => d.parameters.length) = some 3 from by decide +kernel⟩ (Nat.le_of_ble_eq_true rfl) (by rw [hcf]; exact Nat.le_of_ble_eq_true rfl) hk515 rfl rfl (Nat.le_of_ble_eq_true rfl) ⟨f, k, A, k, a, b, rfl, hCG510, hab, (by first | assumption | omega), (by first | assumption | omega), (by first | assumption | omega), (by first | assumption | omega), fun G513 hCG513 hXG513 hfG513 hpG513 => ?_⟩
                        have hFG513 : WX (fun x => x = 327691 ∨ x = 327692 ∨ (f + 1 ≤ x ∧ x ≤ f + 22)) G G513 := WX.trans hFG510 (KX.trans (KX.trans hXG11 hXG32) hXG510) (WX.mono hfG513 (fun x hx => by omega))
                        have hFIG513 : ∀ k : Nat, k < 6 → FIP P G513 262144 k := fun k hk => FIP.sm (hFIG510 k hk) hXG513 hfG513 (by show ¬ _; omega) (congrFun (hfG513 262149 (KX.al (KX.trans (KX.trans hXG11 hXG32) hXG510) (kne k262149 (by decide))) (by show ¬ _; omega)) k)
                        have hFAG513 : FPa P G513 A := (hFAG510).wx hXG513 hfG513 ⟨KX.al (KX.trans (KX.trans hXG11 hXG32) hXG510) (kne kA3 (by decide)), KX.al (KX.trans (KX.trans hXG11 hXG32) hXG510) (kne kA4 (by decide))⟩ (by show ¬ _; omega) (by show ¬ _; omega) (fun p hp => by show ¬ _; omega)
                        have hFBG513 : FPa P G513 B := (hFBG510).wx hXG513 hfG513 ⟨KX.al (KX.trans (KX.trans hXG11 hXG32) hXG510) (kne kB3 (by decide)), KX.al (KX.trans (KX.trans hXG11 hXG32) hXG510) (kne kB4 (by decide))⟩ (by show ¬ _; omega) (by show ¬ _; omega) (fun p hp => by show ¬ _; omega)
                        have hFfG513 : FPa P G513 f := (hFfG510).wx hXG513 hfG513 ⟨KX.al (KX.trans (KX.trans hXG11 hXG32) hXG510) (kne kf3 (by decide)), KX.al (KX.trans (KX.trans hXG11 hXG32) hXG510) (kne kf4 (by decide))⟩ (by show ¬ _; omega) (by show ¬ _; omega) (fun p hp => by show ¬ _; omega)
                        show WP kX2_linkBoth X 261 [some (2, ((327682 : Nat) : Int)), some (0, k), some (2, ((A : Nat) : Int)), some (2, ((B : Nat) : Int)), some (2, ((f : Nat) : Int)), some (0, rr12), some (0, rr33), some (2, ((A : Nat) : Int)), some (2, ((A : Nat) : Int))] [] G513
                        refine s_iconst dX2_linkBoth_261 (by decide) ?_
                        exact s_iret hR dX2_linkBoth_262 rfl (hQ 0 G513 hCG513 (KX.trans (KX.trans (KX.trans hXG11 hXG32) hXG510) hXG513) hFG513 hFfG513)
                      · -- 223 to 226
                        refine s_bipush dX2_linkBoth_226 rfl (by decide) ?_
                        refine s_iload_n dX2_linkBoth_228 rfl ?_
                        refine s_callSN (own := RX2) rfl (by decide +kernel) (as := [(0, 6), (0, k)]) (rest := []) gX11_valueMistake dX2_linkBoth_229 m_1784 m_714 m_129 ⟨by decide, by decide, show (parseMethodDescriptor yX11_valueMistake.desc).map (fun d => d.parameters.length) = some 2 from by decide +kernel⟩ (Nat.le_of_ble_eq_true rfl) (by rw [hcf]; exact Nat.le_of_ble_eq_true rfl) rfl (Nat.le_of_ble_eq_true rfl) ⟨6, k, rfl, (by first | assumption | omega), (by first | assumption | omega), fun rr516 hp517 => ?_⟩
                        show WP kX2_linkBoth X 232 [some (2, ((327682 : Nat) : Int)), some (0, k), some (2, ((A : Nat) : Int)), some (2, ((B : Nat) : Int)), some (2, ((f : Nat) : Int)), some (0, rr12), some (0, rr33), some (2, ((A : Nat) : Int)), some (2, ((A : Nat) : Int))] [(0, rr516)] G32
                        exact s_iret hR dX2_linkBoth_232 rfl (hQ rr516 G32 hCG32 (KX.trans hXG11 hXG32) hFG32 hFfG32)
                · -- 183 to 186
                  refine s_aload_n dX2_linkBoth_186 rfl (Int.natCast_nonneg _) ?_
                  refine s_goto (tgt := 191) dX2_linkBoth_187 (by decide) ?_
                  refine s_astore (Int.natCast_nonneg _) dX2_linkBoth_191 (by decide) (lv' := [some (2, ((327682 : Nat) : Int)), some (0, k), some (2, ((A : Nat) : Int)), some (2, ((B : Nat) : Int)), some (2, ((f : Nat) : Int)), some (0, rr12), some (0, rr33), some (2, ((B : Nat) : Int)), none]) rfl ?_
                  refine s_aload_n dX2_linkBoth_193 rfl (Int.natCast_nonneg _) ?_
                  refine s_iload_n dX2_linkBoth_194 rfl ?_
                  refine s_callV (as := [(0, k)]) (rest := []) (n := A) (ci := 1) gX0_isValueHole dX2_linkBoth_195 m_1322 m_743 m_1476 m_711 m_70 ⟨by decide, by decide, show (parseMethodDescriptor yX0_isValueHole.desc).map (fun d => d.parameters.length) = some 1 from by decide +kernel⟩ (Nat.le_of_ble_eq_true rfl) (by rw [hcf]; exact Nat.le_of_ble_eq_true rfl) hk41 rfl rfl (Nat.le_of_ble_eq_true rfl) ⟨A, k, a, b, rfl, hCG32, hab, (by first | assumption | omega), (by first | assumption | omega), fun rr518 hp519 => ?_⟩
                  show WP kX2_linkBoth X 198 [some (2, ((327682 : Nat) : Int)), some (0, k), some (2, ((A : Nat) : Int)), some (2, ((B : Nat) : Int)), some (2, ((f : Nat) : Int)), some (0, rr12), some (0, rr33), some (2, ((B : Nat) : Int)), none] [(0, rr518)] G32
                  refine s_if_eq (tgt := 205) dX2_linkBoth_198 (by decide) (fun c520 => ?_) (fun c520 => ?_)
                  · -- 198 to 205
                    refine s_aload_n dX2_linkBoth_205 rfl (Int.natCast_nonneg _) ?_
                    refine s_astore (Int.natCast_nonneg _) dX2_linkBoth_206 (by decide) (lv' := [some (2, ((327682 : Nat) : Int)), some (0, k), some (2, ((A : Nat) : Int)), some (2, ((B : Nat) : Int)), some (2, ((f : Nat) : Int)), some (0, rr12), some (0, rr33), some (2, ((B : Nat) : Int)), some (2, ((B : Nat) : Int))]) rfl ?_
                    refine s_aload dX2_linkBoth_208 rfl (Int.natCast_nonneg _) ?_
                    refine s_iload_n dX2_linkBoth_210 rfl ?_
                    refine s_callV (as := [(0, k)]) (rest := []) (n := B) (ci := 1) gX0_isGhost dX2_linkBoth_211 m_1323 m_741 m_1474 m_711 m_68 ⟨by decide, by decide, show (parseMethodDescriptor yX0_isGhost.desc).map (fun d => d.parameters.length) = some 1 from by decide +kernel⟩ (Nat.le_of_ble_eq_true rfl) (by rw [hcf]; exact Nat.le_of_ble_eq_true rfl) hk318 rfl rfl (Nat.le_of_ble_eq_true rfl) ⟨B, k, a, b, rfl, hCG32, hab, (by first | assumption | omega), (by first | assumption | omega), fun rr521 hp522 => ?_⟩
                    show WP kX2_linkBoth X 214 [some (2, ((327682 : Nat) : Int)), some (0, k), some (2, ((A : Nat) : Int)), some (2, ((B : Nat) : Int)), some (2, ((f : Nat) : Int)), some (0, rr12), some (0, rr33), some (2, ((B : Nat) : Int)), some (2, ((B : Nat) : Int))] [(0, rr521)] G32
                    refine s_if_eq (tgt := 233) dX2_linkBoth_214 (by decide) (fun c523 => ?_) (fun c523 => ?_)
                    · -- 214 to 233
                      refine s_aload dX2_linkBoth_233 rfl (Int.natCast_nonneg _) ?_
                      refine s_iload_n dX2_linkBoth_235 rfl ?_
                      refine s_aload dX2_linkBoth_236 rfl (Int.natCast_nonneg _) ?_
                      refine s_alv (B) (by simp) (fun al524 => ?_)
                      have hv525 : gS G32 B 2 = ((B + 2 : Nat) : Int) := by have h9 : (gS G32 B 2) = (((B % 1048576) + 2 : Nat) : Int) := hCG32.1.v (j := 2) (by rw [cde_n (by omega) (by omega)]; omega : cde B = 101) al524 (by rw [hk318]; exact Nat.le_of_ble_eq_true rfl); omega
                      refine s_getf (ci := 1) (k := 2) (C := RX0) (T := TX0) (N := 7) (n := B) (L := 0) (t := 2) dX2_linkBoth_238 rfl wi_65 m_576 (Nat.le_of_ble_eq_true rfl) rfl rfl hk318 hv525 ?_
                      refine s_iload_n dX2_linkBoth_241 rfl ?_
                      have hk526 : gK G32 (B + 2) = (1, 10) := ((hXG32).k ((hXG11).k kB2 (by decide)) (by decide))
                      refine s_iald dX2_linkBoth_242 hk526 (by omega) (by omega) rfl ?_
                      refine s_aload_n dX2_linkBoth_243 rfl (Int.natCast_nonneg _) ?_
                      have hv527 : gS G32 327682 6 = ((327691 : Nat) : Int) := by have h9 : (gS G32 327682 6) = 327691 := hCG32.1.v (j := 6) (by decide : cde 327682 = 502) al321 (by rw [hk320]; exact Nat.le_of_ble_eq_true rfl); omega
                      refine s_getf (ci := 3) (k := 6) (C := RX2) (T := TX2) (N := 8) (n := 327682) (L := 0) (t := 2) dX2_linkBoth_244 rfl wi_70 m_582 (Nat.le_of_ble_eq_true rfl) rfl rfl hk320 hv527 ?_
                      refine s_iload dX2_linkBoth_247 rfl ?_
                      have hk530 : gK G32 (f) = (9, 0) := ((hXG32).k ((hXG11).k kf0 (by decide)) (by decide))
                      refine s_callV (as := [(0, k), (0, gS G32 (B + 2) ((k : Int).toNat)), (2, ((327691 : Nat) : Int)), (0, rr12)]) (rest := []) (n := f) (ci := 1) gX0_putValue dX2_linkBoth_249 m_1320 m_750 m_1483 m_711 m_77 ⟨by decide, by decide, show (parseMethodDescriptor yX0_putValue.desc).map (fun d => d.parameters.length) = some 4 from by decide +kernel⟩ (Nat.le_of_ble_eq_true rfl) (by rw [hcf]; exact Nat.le_of_ble_eq_true rfl) hk530 rfl rfl (Nat.le_of_ble_eq_true rfl) ⟨f, k, gS G32 (B + 2) ((k : Int).toNat), 327691, 200, rr12, a, b, rfl, hCG32, hab, (by first | assumption | omega), (by first | assumption | omega), hk324, (by first | assumption | omega), (by first | assumption | omega), (by first | assumption | omega), fun G528 hCG528 hXG528 hfG528 hpG528 => ?_⟩
                      have hFG528 : WX (fun x => x = 327691 ∨ x = 327692 ∨ (f + 1 ≤ x ∧ x ≤ f + 22)) G G528 := WX.trans hFG32 (KX.trans hXG11 hXG32) (WX.mono hfG528 (fun x hx => by omega))
                      have hFIG528 : ∀ k : Nat, k < 6 → FIP P G528 262144 k := fun k hk => FIP.sm (hFIG32 k hk) hXG528 hfG528 (by show ¬ _; omega) (congrFun (hfG528 262149 (KX.al (KX.trans hXG11 hXG32) (kne k262149 (by decide))) (by show ¬ _; omega)) k)
                      have hFAG528 : FPa P G528 A := (hFAG32).wx hXG528 hfG528 ⟨KX.al (KX.trans hXG11 hXG32) (kne kA3 (by decide)), KX.al (KX.trans hXG11 hXG32) (kne kA4 (by decide))⟩ (by show ¬ _; omega) (by show ¬ _; omega) (fun p hp => by show ¬ _; omega)
                      have hFBG528 : FPa P G528 B := (hFBG32).wx hXG528 hfG528 ⟨KX.al (KX.trans hXG11 hXG32) (kne kB3 (by decide)), KX.al (KX.trans hXG11 hXG32) (kne kB4 (by decide))⟩ (by show ¬ _; omega) (by show ¬ _; omega) (fun p hp => by show ¬ _; omega)
                      have hFfG528 : FPa P G528 f := FPa.put hpG528.1 hFfG32 (fun _ _ => (hpG11.2 P ((hFA (6 + k : Int).toNat (by omega)).rps hv4 rfl) hFI (by omega)).wx hXG32 hfG32 (by show ¬ _; omega)) hXG528 hfG528 (fun p hp hn => by show ¬ _; omega)
                      show WP kX2_linkBoth X 252 [some (2, ((327682 : Nat) : Int)), some (0, k), some (2, ((A : Nat) : Int)), some (2, ((B : Nat) : Int)), some (2, ((f : Nat) : Int)), some (0, rr12), some (0, rr33), some (2, ((B : Nat) : Int)), some (2, ((B : Nat) : Int))] [] G528
                      refine s_aload dX2_linkBoth_252 rfl (Int.natCast_nonneg _) ?_
                      refine s_iload_n dX2_linkBoth_254 rfl ?_
                      refine s_aload dX2_linkBoth_255 rfl (Int.natCast_nonneg _) ?_
                      refine s_iload_n dX2_linkBoth_257 rfl ?_
                      have hk533 : gK G528 (f) = (9, 0) := ((hXG528).k hk530 (by decide))
                      refine s_callV (as := [(0, k), (2, ((B : Nat) : Int)), (0, k)]) (rest := []) (n := f) (ci := 1) gX0_putNumberOf dX2_linkBoth_258 m_1321 m_745 m_1478 m_711 m_72 ⟨by decide, by decide, show (parseMethodDescriptor yX0_putNumberOf.desc).map (fun d => d.parameters.length) = some 3 from by decide +kernel⟩ (Nat.le_of_ble_eq_true rfl) (by rw [hcf]; exact Nat.le_of_ble_eq_true rfl) hk533 rfl rfl (Nat.le_of_ble_eq_true rfl) ⟨f, k, B, k, a, b, rfl, hCG528, hab, (by first | assumption | omega), (by first | assumption | omega), (by first | assumption | omega), (by first | assumption | omega), fun G531 hCG531 hXG531 hfG531 hpG531 => ?_⟩
                      have hFG531 : WX (fun x => x = 327691 ∨ x = 327692 ∨ (f + 1 ≤ x ∧ x ≤ f + 22)) G G531 := WX.trans hFG528 (KX.trans (KX.trans hXG11 hXG32) hXG528) (WX.mono hfG531 (fun x hx => by omega))
                      have hFIG531 : ∀ k : Nat, k < 6 → FIP P G531 262144 k := fun k hk => FIP.sm (hFIG528 k hk) hXG531 hfG531 (by show ¬ _; omega) (congrFun (hfG531 262149 (KX.al (KX.trans (KX.trans hXG11 hXG32) hXG528) (kne k262149 (by decide))) (by show ¬ _; omega)) k)
                      have hFAG531 : FPa P G531 A := (hFAG528).wx hXG531 hfG531 ⟨KX.al (KX.trans (KX.trans hXG11 hXG32) hXG528) (kne kA3 (by decide)), KX.al (KX.trans (KX.trans hXG11 hXG32) hXG528) (kne kA4 (by decide))⟩ (by show ¬ _; omega) (by show ¬ _; omega) (fun p hp => by show ¬ _; omega)
                      have hFBG531 : FPa P G531 B := (hFBG528).wx hXG531 hfG531 ⟨KX.al (KX.trans (KX.trans hXG11 hXG32) hXG528) (kne kB3 (by decide)), KX.al (KX.trans (KX.trans hXG11 hXG32) hXG528) (kne kB4 (by decide))⟩ (by show ¬ _; omega) (by show ¬ _; omega) (fun p hp => by show ¬ _; omega)
                      have hFfG531 : FPa P G531 f := (hFfG528).wx hXG531 hfG531 ⟨KX.al (KX.trans (KX.trans hXG11 hXG32) hXG528) (kne kf3 (by decide)), KX.al (KX.trans (KX.trans hXG11 hXG32) hXG528) (kne kf4 (by decide))⟩ (by show ¬ _; omega) (by show ¬ _; omega) (fun p hp => by show ¬ _; omega)
                      show WP kX2_linkBoth X 261 [some (2, ((327682 : Nat) : Int)), some (0, k), some (2, ((A : Nat) : Int)), some (2, ((B : Nat) : Int)), some (2, ((f : Nat) : Int)), some (0, rr12), some (0, rr33), some (2, ((B : Nat) : Int)), some (2, ((B : Nat) : Int))] [] G531
                      refine s_iconst dX2_linkBoth_261 (by decide) ?_
                      exact s_iret hR dX2_linkBoth_262 rfl (hQ 0 G531 hCG531 (KX.trans (KX.trans (KX.trans hXG11 hXG32) hXG528) hXG531) hFG531 hFfG531)
                    · -- 214 to 217
                      refine s_aload dX2_linkBoth_217 rfl (Int.natCast_nonneg _) ?_
                      refine s_iload_n dX2_linkBoth_219 rfl ?_
                      refine s_callV (as := [(0, k)]) (rest := []) (n := B) (ci := 1) gX0_isGhost dX2_linkBoth_220 m_1323 m_741 m_1474 m_711 m_68 ⟨by decide, by decide, show (parseMethodDescriptor yX0_isGhost.desc).map (fun d => d.parameters.length) = some 1 from by decide +kernel⟩ (Nat.le_of_ble_eq_true rfl) (by rw [hcf]; exact Nat.le_of_ble_eq_true rfl) hk318 rfl rfl (Nat.le_of_ble_eq_true rfl) ⟨B, k, a, b, rfl, hCG32, hab, (by first | assumption | omega), (by first | assumption | omega), fun rr534 hp535 => ?_⟩
                      show WP kX2_linkBoth X 223 [some (2, ((327682 : Nat) : Int)), some (0, k), some (2, ((A : Nat) : Int)), some (2, ((B : Nat) : Int)), some (2, ((f : Nat) : Int)), some (0, rr12), some (0, rr33), some (2, ((B : Nat) : Int)), some (2, ((B : Nat) : Int))] [(0, rr534)] G32
                      refine s_if_ne (tgt := 233) dX2_linkBoth_223 (by decide) (fun c536 => ?_) (fun c536 => ?_)
                      · -- 223 to 233
                        refine s_aload dX2_linkBoth_233 rfl (Int.natCast_nonneg _) ?_
                        refine s_iload_n dX2_linkBoth_235 rfl ?_
                        refine s_aload dX2_linkBoth_236 rfl (Int.natCast_nonneg _) ?_
                        refine s_alv (B) (by simp) (fun al537 => ?_)
                        have hv538 : gS G32 B 2 = ((B + 2 : Nat) : Int) := by have h9 : (gS G32 B 2) = (((B % 1048576) + 2 : Nat) : Int) := hCG32.1.v (j := 2) (by rw [cde_n (by omega) (by omega)]; omega : cde B = 101) al537 (by rw [hk318]; exact Nat.le_of_ble_eq_true rfl); omega
                        refine s_getf (ci := 1) (k := 2) (C := RX0) (T := TX0) (N := 7) (n := B) (L := 0) (t := 2) dX2_linkBoth_238 rfl wi_65 m_576 (Nat.le_of_ble_eq_true rfl) rfl rfl hk318 hv538 ?_
                        refine s_iload_n dX2_linkBoth_241 rfl ?_
                        have hk539 : gK G32 (B + 2) = (1, 10) := ((hXG32).k ((hXG11).k kB2 (by decide)) (by decide))
                        refine s_iald dX2_linkBoth_242 hk539 (by omega) (by omega) rfl ?_
                        refine s_aload_n dX2_linkBoth_243 rfl (Int.natCast_nonneg _) ?_
                        have hv540 : gS G32 327682 6 = ((327691 : Nat) : Int) := by have h9 : (gS G32 327682 6) = 327691 := hCG32.1.v (j := 6) (by decide : cde 327682 = 502) al321 (by rw [hk320]; exact Nat.le_of_ble_eq_true rfl); omega
                        refine s_getf (ci := 3) (k := 6) (C := RX2) (T := TX2) (N := 8) (n := 327682) (L := 0) (t := 2) dX2_linkBoth_244 rfl wi_70 m_582 (Nat.le_of_ble_eq_true rfl) rfl rfl hk320 hv540 ?_
                        refine s_iload dX2_linkBoth_247 rfl ?_
                        have hk543 : gK G32 (f) = (9, 0) := ((hXG32).k ((hXG11).k kf0 (by decide)) (by decide))
                        refine s_callV (as := [(0, k), (0, gS G32 (B + 2) ((k : Int).toNat)), (2, ((327691 : Nat) : Int)), (0, rr12)]) (rest := []) (n := f) (ci := 1) gX0_putValue dX2_linkBoth_249 m_1320 m_750 m_1483 m_711 m_77 ⟨by decide, by decide, show (parseMethodDescriptor yX0_putValue.desc).map (fun d => d.parameters.length) = some 4 from by decide +kernel⟩ (Nat.le_of_ble_eq_true rfl) (by rw [hcf]; exact Nat.le_of_ble_eq_true rfl) hk543 rfl rfl (Nat.le_of_ble_eq_true rfl) ⟨f, k, gS G32 (B + 2) ((k : Int).toNat), 327691, 200, rr12, a, b, rfl, hCG32, hab, (by first | assumption | omega), (by first | assumption | omega), hk324, (by first | assumption | omega), (by first | assumption | omega), (by first | assumption | omega), fun G541 hCG541 hXG541 hfG541 hpG541 => ?_⟩
                        have hFG541 : WX (fun x => x = 327691 ∨ x = 327692 ∨ (f + 1 ≤ x ∧ x ≤ f + 22)) G G541 := WX.trans hFG32 (KX.trans hXG11 hXG32) (WX.mono hfG541 (fun x hx => by omega))
                        have hFIG541 : ∀ k : Nat, k < 6 → FIP P G541 262144 k := fun k hk => FIP.sm (hFIG32 k hk) hXG541 hfG541 (by show ¬ _; omega) (congrFun (hfG541 262149 (KX.al (KX.trans hXG11 hXG32) (kne k262149 (by decide))) (by show ¬ _; omega)) k)
                        have hFAG541 : FPa P G541 A := (hFAG32).wx hXG541 hfG541 ⟨KX.al (KX.trans hXG11 hXG32) (kne kA3 (by decide)), KX.al (KX.trans hXG11 hXG32) (kne kA4 (by decide))⟩ (by show ¬ _; omega) (by show ¬ _; omega) (fun p hp => by show ¬ _; omega)
                        have hFBG541 : FPa P G541 B := (hFBG32).wx hXG541 hfG541 ⟨KX.al (KX.trans hXG11 hXG32) (kne kB3 (by decide)), KX.al (KX.trans hXG11 hXG32) (kne kB4 (by decide))⟩ (by show ¬ _; omega) (by show ¬ _; omega) (fun p hp => by show ¬ _; omega)
                        have hFfG541 : FPa P G541 f := FPa.put hpG541.1 hFfG32 (fun _ _ => (hpG11.2 P ((hFA (6 + k : Int).toNat (by omega)).rps hv4 rfl) hFI (by omega)).wx hXG32 hfG32 (by show ¬ _; omega)) hXG541 hfG541 (fun p hp hn => by show ¬ _; omega)
                        show WP kX2_linkBoth X 252 [some (2, ((327682 : Nat) : Int)), some (0, k), some (2, ((A : Nat) : Int)), some (2, ((B : Nat) : Int)), some (2, ((f : Nat) : Int)), some (0, rr12), some (0, rr33), some (2, ((B : Nat) : Int)), some (2, ((B : Nat) : Int))] [] G541
                        refine s_aload dX2_linkBoth_252 rfl (Int.natCast_nonneg _) ?_
                        refine s_iload_n dX2_linkBoth_254 rfl ?_
                        refine s_aload dX2_linkBoth_255 rfl (Int.natCast_nonneg _) ?_
                        refine s_iload_n dX2_linkBoth_257 rfl ?_
                        have hk546 : gK G541 (f) = (9, 0) := ((hXG541).k hk543 (by decide))
                        refine s_callV (as := [(0, k), (2, ((B : Nat) : Int)), (0, k)]) (rest := []) (n := f) (ci := 1) gX0_putNumberOf dX2_linkBoth_258 m_1321 m_745 m_1478 m_711 m_72 ⟨by decide, by decide, show (parseMethodDescriptor yX0_putNumberOf.desc).map (fun d => d.parameters.length) = some 3 from by decide +kernel⟩ (Nat.le_of_ble_eq_true rfl) (by rw [hcf]; exact Nat.le_of_ble_eq_true rfl) hk546 rfl rfl (Nat.le_of_ble_eq_true rfl) ⟨f, k, B, k, a, b, rfl, hCG541, hab, (by first | assumption | omega), (by first | assumption | omega), (by first | assumption | omega), (by first | assumption | omega), fun G544 hCG544 hXG544 hfG544 hpG544 => ?_⟩
                        have hFG544 : WX (fun x => x = 327691 ∨ x = 327692 ∨ (f + 1 ≤ x ∧ x ≤ f + 22)) G G544 := WX.trans hFG541 (KX.trans (KX.trans hXG11 hXG32) hXG541) (WX.mono hfG544 (fun x hx => by omega))
                        have hFIG544 : ∀ k : Nat, k < 6 → FIP P G544 262144 k := fun k hk => FIP.sm (hFIG541 k hk) hXG544 hfG544 (by show ¬ _; omega) (congrFun (hfG544 262149 (KX.al (KX.trans (KX.trans hXG11 hXG32) hXG541) (kne k262149 (by decide))) (by show ¬ _; omega)) k)
                        have hFAG544 : FPa P G544 A := (hFAG541).wx hXG544 hfG544 ⟨KX.al (KX.trans (KX.trans hXG11 hXG32) hXG541) (kne kA3 (by decide)), KX.al (KX.trans (KX.trans hXG11 hXG32) hXG541) (kne kA4 (by decide))⟩ (by show ¬ _; omega) (by show ¬ _; omega) (fun p hp => by show ¬ _; omega)
                        have hFBG544 : FPa P G544 B := (hFBG541).wx hXG544 hfG544 ⟨KX.al (KX.trans (KX.trans hXG11 hXG32) hXG541) (kne kB3 (by decide)), KX.al (KX.trans (KX.trans hXG11 hXG32) hXG541) (kne kB4 (by decide))⟩ (by show ¬ _; omega) (by show ¬ _; omega) (fun p hp => by show ¬ _; omega)
                        have hFfG544 : FPa P G544 f := (hFfG541).wx hXG544 hfG544 ⟨KX.al (KX.trans (KX.trans hXG11 hXG32) hXG541) (kne kf3 (by decide)), KX.al (KX.trans (KX.trans hXG11 hXG32) hXG541) (kne kf4 (by decide))⟩ (by show ¬ _; omega) (by show ¬ _; omega) (fun p hp => by show ¬ _; omega)
                        show WP kX2_linkBoth X 261 [some (2, ((327682 : Nat) : Int)), some (0, k), some (2, ((A : Nat) : Int)), some (2, ((B : Nat) : Int)), some (2, ((f : Nat) : Int)), some (0, rr12), some (0, rr33), some (2, ((B : Nat) : Int)), some (2, ((B : Nat) : Int))] [] G544
                        refine s_iconst dX2_linkBoth_261 (by decide) ?_
                        exact s_iret hR dX2_linkBoth_262 rfl (hQ 0 G544 hCG544 (KX.trans (KX.trans (KX.trans hXG11 hXG32) hXG541) hXG544) hFG544 hFfG544)
                      · -- 223 to 226
                        refine s_bipush dX2_linkBoth_226 rfl (by decide) ?_
                        refine s_iload_n dX2_linkBoth_228 rfl ?_
                        refine s_callSN (own := RX2) rfl (by decide +kernel) (as := [(0, 6), (0, k)]) (rest := []) gX11_valueMistake dX2_linkBoth_229 m_1784 m_714 m_129 ⟨by decide, by decide, show (parseMethodDescriptor yX11_valueMistake.desc).map (fun d => d.parameters.length) = some 2 from by decide +kernel⟩ (Nat.le_of_ble_eq_true rfl) (by rw [hcf]; exact Nat.le_of_ble_eq_true rfl) rfl (Nat.le_of_ble_eq_true rfl) ⟨6, k, rfl, (by first | assumption | omega), (by first | assumption | omega), fun rr547 hp548 => ?_⟩
                        show WP kX2_linkBoth X 232 [some (2, ((327682 : Nat) : Int)), some (0, k), some (2, ((A : Nat) : Int)), some (2, ((B : Nat) : Int)), some (2, ((f : Nat) : Int)), some (0, rr12), some (0, rr33), some (2, ((B : Nat) : Int)), some (2, ((B : Nat) : Int))] [(0, rr547)] G32
                        exact s_iret hR dX2_linkBoth_232 rfl (hQ rr547 G32 hCG32 (KX.trans hXG11 hXG32) hFG32 hFfG32)
                  · -- 198 to 201
                    refine s_aload_n dX2_linkBoth_201 rfl (Int.natCast_nonneg _) ?_
                    refine s_goto (tgt := 206) dX2_linkBoth_202 (by decide) ?_
                    refine s_astore (Int.natCast_nonneg _) dX2_linkBoth_206 (by decide) (lv' := [some (2, ((327682 : Nat) : Int)), some (0, k), some (2, ((A : Nat) : Int)), some (2, ((B : Nat) : Int)), some (2, ((f : Nat) : Int)), some (0, rr12), some (0, rr33), some (2, ((B : Nat) : Int)), some (2, ((A : Nat) : Int))]) rfl ?_
                    refine s_aload dX2_linkBoth_208 rfl (Int.natCast_nonneg _) ?_
                    refine s_iload_n dX2_linkBoth_210 rfl ?_
                    refine s_callV (as := [(0, k)]) (rest := []) (n := B) (ci := 1) gX0_isGhost dX2_linkBoth_211 m_1323 m_741 m_1474 m_711 m_68 ⟨by decide, by decide, show (parseMethodDescriptor yX0_isGhost.desc).map (fun d => d.parameters.length) = some 1 from by decide +kernel⟩ (Nat.le_of_ble_eq_true rfl) (by rw [hcf]; exact Nat.le_of_ble_eq_true rfl) hk318 rfl rfl (Nat.le_of_ble_eq_true rfl) ⟨B, k, a, b, rfl, hCG32, hab, (by first | assumption | omega), (by first | assumption | omega), fun rr549 hp550 => ?_⟩
                    show WP kX2_linkBoth X 214 [some (2, ((327682 : Nat) : Int)), some (0, k), some (2, ((A : Nat) : Int)), some (2, ((B : Nat) : Int)), some (2, ((f : Nat) : Int)), some (0, rr12), some (0, rr33), some (2, ((B : Nat) : Int)), some (2, ((A : Nat) : Int))] [(0, rr549)] G32
                    refine s_if_eq (tgt := 233) dX2_linkBoth_214 (by decide) (fun c551 => ?_) (fun c551 => ?_)
                    · -- 214 to 233
                      refine s_aload dX2_linkBoth_233 rfl (Int.natCast_nonneg _) ?_
                      refine s_iload_n dX2_linkBoth_235 rfl ?_
                      refine s_aload dX2_linkBoth_236 rfl (Int.natCast_nonneg _) ?_
                      refine s_alv (B) (by simp) (fun al552 => ?_)
                      have hv553 : gS G32 B 2 = ((B + 2 : Nat) : Int) := by have h9 : (gS G32 B 2) = (((B % 1048576) + 2 : Nat) : Int) := hCG32.1.v (j := 2) (by rw [cde_n (by omega) (by omega)]; omega : cde B = 101) al552 (by rw [hk318]; exact Nat.le_of_ble_eq_true rfl); omega
                      refine s_getf (ci := 1) (k := 2) (C := RX0) (T := TX0) (N := 7) (n := B) (L := 0) (t := 2) dX2_linkBoth_238 rfl wi_65 m_576 (Nat.le_of_ble_eq_true rfl) rfl rfl hk318 hv553 ?_
                      refine s_iload_n dX2_linkBoth_241 rfl ?_
                      have hk554 : gK G32 (B + 2) = (1, 10) := ((hXG32).k ((hXG11).k kB2 (by decide)) (by decide))
                      refine s_iald dX2_linkBoth_242 hk554 (by omega) (by omega) rfl ?_
                      refine s_aload_n dX2_linkBoth_243 rfl (Int.natCast_nonneg _) ?_
                      have hv555 : gS G32 327682 6 = ((327691 : Nat) : Int) := by have h9 : (gS G32 327682 6) = 327691 := hCG32.1.v (j := 6) (by decide : cde 327682 = 502) al321 (by rw [hk320]; exact Nat.le_of_ble_eq_true rfl); omega
                      refine s_getf (ci := 3) (k := 6) (C := RX2) (T := TX2) (N := 8) (n := 327682) (L := 0) (t := 2) dX2_linkBoth_244 rfl wi_70 m_582 (Nat.le_of_ble_eq_true rfl) rfl rfl hk320 hv555 ?_
                      refine s_iload dX2_linkBoth_247 rfl ?_
                      have hk558 : gK G32 (f) = (9, 0) := ((hXG32).k ((hXG11).k kf0 (by decide)) (by decide))
                      refine s_callV (as := [(0, k), (0, gS G32 (B + 2) ((k : Int).toNat)), (2, ((327691 : Nat) : Int)), (0, rr12)]) (rest := []) (n := f) (ci := 1) gX0_putValue dX2_linkBoth_249 m_1320 m_750 m_1483 m_711 m_77 ⟨by decide, by decide, show (parseMethodDescriptor yX0_putValue.desc).map (fun d => d.parameters.length) = some 4 from by decide +kernel⟩ (Nat.le_of_ble_eq_true rfl) (by rw [hcf]; exact Nat.le_of_ble_eq_true rfl) hk558 rfl rfl (Nat.le_of_ble_eq_true rfl) ⟨f, k, gS G32 (B + 2) ((k : Int).toNat), 327691, 200, rr12, a, b, rfl, hCG32, hab, (by first | assumption | omega), (by first | assumption | omega), hk324, (by first | assumption | omega), (by first | assumption | omega), (by first | assumption | omega), fun G556 hCG556 hXG556 hfG556 hpG556 => ?_⟩
                      have hFG556 : WX (fun x => x = 327691 ∨ x = 327692 ∨ (f + 1 ≤ x ∧ x ≤ f + 22)) G G556 := WX.trans hFG32 (KX.trans hXG11 hXG32) (WX.mono hfG556 (fun x hx => by omega))
                      have hFIG556 : ∀ k : Nat, k < 6 → FIP P G556 262144 k := fun k hk => FIP.sm (hFIG32 k hk) hXG556 hfG556 (by show ¬ _; omega) (congrFun (hfG556 262149 (KX.al (KX.trans hXG11 hXG32) (kne k262149 (by decide))) (by show ¬ _; omega)) k)
                      have hFAG556 : FPa P G556 A := (hFAG32).wx hXG556 hfG556 ⟨KX.al (KX.trans hXG11 hXG32) (kne kA3 (by decide)), KX.al (KX.trans hXG11 hXG32) (kne kA4 (by decide))⟩ (by show ¬ _; omega) (by show ¬ _; omega) (fun p hp => by show ¬ _; omega)
                      have hFBG556 : FPa P G556 B := (hFBG32).wx hXG556 hfG556 ⟨KX.al (KX.trans hXG11 hXG32) (kne kB3 (by decide)), KX.al (KX.trans hXG11 hXG32) (kne kB4 (by decide))⟩ (by show ¬ _; omega) (by show ¬ _; omega) (fun p hp => by show ¬ _; omega)
                      have hFfG556 : FPa P G556 f := FPa.put hpG556.1 hFfG32 (fun _ _ => (hpG11.2 P ((hFA (6 + k : Int).toNat (by omega)).rps hv4 rfl) hFI (by omega)).wx hXG32 hfG32 (by show ¬ _; omega)) hXG556 hfG556 (fun p hp hn => by show ¬ _; omega)
                      show WP kX2_linkBoth X 252 [some (2, ((327682 : Nat) : Int)), some (0, k), some (2, ((A : Nat) : Int)), some (2, ((B : Nat) : Int)), some (2, ((f : Nat) : Int)), some (0, rr12), some (0, rr33), some (2, ((B : Nat) : Int)), some (2, ((A : Nat) : Int))] [] G556
                      refine s_aload dX2_linkBoth_252 rfl (Int.natCast_nonneg _) ?_
                      refine s_iload_n dX2_linkBoth_254 rfl ?_
                      refine s_aload dX2_linkBoth_255 rfl (Int.natCast_nonneg _) ?_
                      refine s_iload_n dX2_linkBoth_257 rfl ?_
                      have hk561 : gK G556 (f) = (9, 0) := ((hXG556).k hk558 (by decide))
                      refine s_callV (as := [(0, k), (2, ((B : Nat) : Int)), (0, k)]) (rest := []) (n := f) (ci := 1) gX0_putNumberOf dX2_linkBoth_258 m_1321 m_745 m_1478 m_711 m_72 ⟨by decide, by decide, show (parseMethodDescriptor yX0_putNumberOf.desc).map (fun d => d.parameters.length) = some 3 from by decide +kernel⟩ (Nat.le_of_ble_eq_true rfl) (by rw [hcf]; exact Nat.le_of_ble_eq_true rfl) hk561 rfl rfl (Nat.le_of_ble_eq_true rfl) ⟨f, k, B, k, a, b, rfl, hCG556, hab, (by first | assumption | omega), (by first | assumption | omega), (by first | assumption | omega), (by first | assumption | omega), fun G559 hCG559 hXG559 hfG559 hpG559 => ?_⟩
                      have hFG559 : WX (fun x => x = 327691 ∨ x = 327692 ∨ (f + 1 ≤ x ∧ x ≤ f + 22)) G G559 := WX.trans hFG556 (KX.trans (KX.trans hXG11 hXG32) hXG556) (WX.mono hfG559 (fun x hx => by omega))
                      have hFIG559 : ∀ k : Nat, k < 6 → FIP P G559 262144 k := fun k hk => FIP.sm (hFIG556 k hk) hXG559 hfG559 (by show ¬ _; omega) (congrFun (hfG559 262149 (KX.al (KX.trans (KX.trans hXG11 hXG32) hXG556) (kne k262149 (by decide))) (by show ¬ _; omega)) k)
                      have hFAG559 : FPa P G559 A := (hFAG556).wx hXG559 hfG559 ⟨KX.al (KX.trans (KX.trans hXG11 hXG32) hXG556) (kne kA3 (by decide)), KX.al (KX.trans (KX.trans hXG11 hXG32) hXG556) (kne kA4 (by decide))⟩ (by show ¬ _; omega) (by show ¬ _; omega) (fun p hp => by show ¬ _; omega)
                      have hFBG559 : FPa P G559 B := (hFBG556).wx hXG559 hfG559 ⟨KX.al (KX.trans (KX.trans hXG11 hXG32) hXG556) (kne kB3 (by decide)), KX.al (KX.trans (KX.trans hXG11 hXG32) hXG556) (kne kB4 (by decide))⟩ (by show ¬ _; omega) (by show ¬ _; omega) (fun p hp => by show ¬ _; omega)
                      have hFfG559 : FPa P G559 f := (hFfG556).wx hXG559 hfG559 ⟨KX.al (KX.trans (KX.trans hXG11 hXG32) hXG556) (kne kf3 (by decide)), KX.al (KX.trans (KX.trans hXG11 hXG32) hXG556) (kne kf4 (by decide))⟩ (by show ¬ _; omega) (by show ¬ _; omega) (fun p hp => by show ¬ _; omega)
                      show WP kX2_linkBoth X 261 [some (2, ((327682 : Nat) : Int)), some (0, k), some (2, ((A : Nat) : Int)), some (2, ((B : Nat) : Int)), some (2, ((f : Nat) : Int)), some (0, rr12), some (0, rr33), some (2, ((B : Nat) : Int)), some (2, ((A : Nat) : Int))] [] G559
                      refine s_iconst dX2_linkBoth_261 (by decide) ?_
                      exact s_iret hR dX2_linkBoth_262 rfl (hQ 0 G559 hCG559 (KX.trans (KX.trans (KX.trans hXG11 hXG32) hXG556) hXG559) hFG559 hFfG559)
                    · -- 214 to 217
                      refine s_aload dX2_linkBoth_217 rfl (Int.natCast_nonneg _) ?_
                      refine s_iload_n dX2_linkBoth_219 rfl ?_
                      refine s_callV (as := [(0, k)]) (rest := []) (n := A) (ci := 1) gX0_isGhost dX2_linkBoth_220 m_1323 m_741 m_1474 m_711 m_68 ⟨by decide, by decide, show (parseMethodDescriptor yX0_isGhost.desc).map (fun d => d.parameters.length) = some 1 from by decide +kernel⟩ (Nat.le_of_ble_eq_true rfl) (by rw [hcf]; exact Nat.le_of_ble_eq_true rfl) hk41 rfl rfl (Nat.le_of_ble_eq_true rfl) ⟨A, k, a, b, rfl, hCG32, hab, (by first | assumption | omega), (by first | assumption | omega), fun rr562 hp563 => ?_⟩
                      show WP kX2_linkBoth X 223 [some (2, ((327682 : Nat) : Int)), some (0, k), some (2, ((A : Nat) : Int)), some (2, ((B : Nat) : Int)), some (2, ((f : Nat) : Int)), some (0, rr12), some (0, rr33), some (2, ((B : Nat) : Int)), some (2, ((A : Nat) : Int))] [(0, rr562)] G32
                      refine s_if_ne (tgt := 233) dX2_linkBoth_223 (by decide) (fun c564 => ?_) (fun c564 => ?_)
                      · -- 223 to 233
                        refine s_aload dX2_linkBoth_233 rfl (Int.natCast_nonneg _) ?_
                        refine s_iload_n dX2_linkBoth_235 rfl ?_
                        refine s_aload dX2_linkBoth_236 rfl (Int.natCast_nonneg _) ?_
                        refine s_alv (B) (by simp) (fun al565 => ?_)
                        have hv566 : gS G32 B 2 = ((B + 2 : Nat) : Int) := by have h9 : (gS G32 B 2) = (((B % 1048576) + 2 : Nat) : Int) := hCG32.1.v (j := 2) (by rw [cde_n (by omega) (by omega)]; omega : cde B = 101) al565 (by rw [hk318]; exact Nat.le_of_ble_eq_true rfl); omega
                        refine s_getf (ci := 1) (k := 2) (C := RX0) (T := TX0) (N := 7) (n := B) (L := 0) (t := 2) dX2_linkBoth_238 rfl wi_65 m_576 (Nat.le_of_ble_eq_true rfl) rfl rfl hk318 hv566 ?_
                        refine s_iload_n dX2_linkBoth_241 rfl ?_
                        have hk567 : gK G32 (B + 2) = (1, 10) := ((hXG32).k ((hXG11).k kB2 (by decide)) (by decide))
                        refine s_iald dX2_linkBoth_242 hk567 (by omega) (by omega) rfl ?_
                        refine s_aload_n dX2_linkBoth_243 rfl (Int.natCast_nonneg _) ?_
                        have hv568 : gS G32 327682 6 = ((327691 : Nat) : Int) := by have h9 : (gS G32 327682 6) = 327691 := hCG32.1.v (j := 6) (by decide : cde 327682 = 502) al321 (by rw [hk320]; exact Nat.le_of_ble_eq_true rfl); omega
                        refine s_getf (ci := 3) (k := 6) (C := RX2) (T := TX2) (N := 8) (n := 327682) (L := 0) (t := 2) dX2_linkBoth_244 rfl wi_70 m_582 (Nat.le_of_ble_eq_true rfl) rfl rfl hk320 hv568 ?_
                        refine s_iload dX2_linkBoth_247 rfl ?_
                        have hk571 : gK G32 (f) = (9, 0) := ((hXG32).k ((hXG11).k kf0 (by decide)) (by decide))
                        refine s_callV (as := [(0, k), (0, gS G32 (B + 2) ((k : Int).toNat)), (2, ((327691 : Nat) : Int)), (0, rr12)]) (rest := []) (n := f) (ci := 1) gX0_putValue dX2_linkBoth_249 m_1320 m_750 m_1483 m_711 m_77 ⟨by decide, by decide, show (parseMethodDescriptor yX0_putValue.desc).map (fun d => d.parameters.length) = some 4 from by decide +kernel⟩ (Nat.le_of_ble_eq_true rfl) (by rw [hcf]; exact Nat.le_of_ble_eq_true rfl) hk571 rfl rfl (Nat.le_of_ble_eq_true rfl) ⟨f, k, gS G32 (B + 2) ((k : Int).toNat), 327691, 200, rr12, a, b, rfl, hCG32, hab, (by first | assumption | omega), (by first | assumption | omega), hk324, (by first | assumption | omega), (by first | assumption | omega), (by first | assumption | omega), fun G569 hCG569 hXG569 hfG569 hpG569 => ?_⟩
                        have hFG569 : WX (fun x => x = 327691 ∨ x = 327692 ∨ (f + 1 ≤ x ∧ x ≤ f + 22)) G G569 := WX.trans hFG32 (KX.trans hXG11 hXG32) (WX.mono hfG569 (fun x hx => by omega))
                        have hFIG569 : ∀ k : Nat, k < 6 → FIP P G569 262144 k := fun k hk => FIP.sm (hFIG32 k hk) hXG569 hfG569 (by show ¬ _; omega) (congrFun (hfG569 262149 (KX.al (KX.trans hXG11 hXG32) (kne k262149 (by decide))) (by show ¬ _; omega)) k)
                        have hFAG569 : FPa P G569 A := (hFAG32).wx hXG569 hfG569 ⟨KX.al (KX.trans hXG11 hXG32) (kne kA3 (by decide)), KX.al (KX.trans hXG11 hXG32) (kne kA4 (by decide))⟩ (by show ¬ _; omega) (by show ¬ _; omega) (fun p hp => by show ¬ _; omega)
                        have hFBG569 : FPa P G569 B := (hFBG32).wx hXG569 hfG569 ⟨KX.al (KX.trans hXG11 hXG32) (kne kB3 (by decide)), KX.al (KX.trans hXG11 hXG32) (kne kB4 (by decide))⟩ (by show ¬ _; omega) (by show ¬ _; omega) (fun p hp => by show ¬ _; omega)
                        have hFfG569 : FPa P G569 f := FPa.put hpG569.1 hFfG32 (fun _ _ => (hpG11.2 P ((hFA (6 + k : Int).toNat (by omega)).rps hv4 rfl) hFI (by omega)).wx hXG32 hfG32 (by show ¬ _; omega)) hXG569 hfG569 (fun p hp hn => by show ¬ _; omega)
                        show WP kX2_linkBoth X 252 [some (2, ((327682 : Nat) : Int)), some (0, k), some (2, ((A : Nat) : Int)), some (2, ((B : Nat) : Int)), some (2, ((f : Nat) : Int)), some (0, rr12), some (0, rr33), some (2, ((B : Nat) : Int)), some (2, ((A : Nat) : Int))] [] G569
                        refine s_aload dX2_linkBoth_252 rfl (Int.natCast_nonneg _) ?_
                        refine s_iload_n dX2_linkBoth_254 rfl ?_
                        refine s_aload dX2_linkBoth_255 rfl (Int.natCast_nonneg _) ?_
                        refine s_iload_n dX2_linkBoth_257 rfl ?_
                        have hk574 : gK G569 (f) = (9, 0) := ((hXG569).k hk571 (by decide))
                        refine s_callV (as := [(0, k), (2, ((B : Nat) : Int)), (0, k)]) (rest := []) (n := f) (ci := 1) gX0_putNumberOf dX2_linkBoth_258 m_1321 m_745 m_1478 m_711 m_72 ⟨by decide, by decide, show (parseMethodDescriptor yX0_putNumberOf.desc).map (fun d => d.parameters.length) = some 3 from by decide +kernel⟩ (Nat.le_of_ble_eq_true rfl) (by rw [hcf]; exact Nat.le_of_ble_eq_true rfl) hk574 rfl rfl (Nat.le_of_ble_eq_true rfl) ⟨f, k, B, k, a, b, rfl, hCG569, hab, (by first | assumption | omega), (by first | assumption | omega), (by first | assumption | omega), (by first | assumption | omega), fun G572 hCG572 hXG572 hfG572 hpG572 => ?_⟩
                        have hFG572 : WX (fun x => x = 327691 ∨ x = 327692 ∨ (f + 1 ≤ x ∧ x ≤ f + 22)) G G572 := WX.trans hFG569 (KX.trans (KX.trans hXG11 hXG32) hXG569) (WX.mono hfG572 (fun x hx => by omega))
                        have hFIG572 : ∀ k : Nat, k < 6 → FIP P G572 262144 k := fun k hk => FIP.sm (hFIG569 k hk) hXG572 hfG572 (by show ¬ _; omega) (congrFun (hfG572 262149 (KX.al (KX.trans (KX.trans hXG11 hXG32) hXG569) (kne k262149 (by decide))) (by show ¬ _; omega)) k)
                        have hFAG572 : FPa P G572 A := (hFAG569).wx hXG572 hfG572 ⟨KX.al (KX.trans (KX.trans hXG11 hXG32) hXG569) (kne kA3 (by decide)), KX.al (KX.trans (KX.trans hXG11 hXG32) hXG569) (kne kA4 (by decide))⟩ (by show ¬ _; omega) (by show ¬ _; omega) (fun p hp => by show ¬ _; omega)
                        have hFBG572 : FPa P G572 B := (hFBG569).wx hXG572 hfG572 ⟨KX.al (KX.trans (KX.trans hXG11 hXG32) hXG569) (kne kB3 (by decide)), KX.al (KX.trans (KX.trans hXG11 hXG32) hXG569) (kne kB4 (by decide))⟩ (by show ¬ _; omega) (by show ¬ _; omega) (fun p hp => by show ¬ _; omega)
                        have hFfG572 : FPa P G572 f := (hFfG569).wx hXG572 hfG572 ⟨KX.al (KX.trans (KX.trans hXG11 hXG32) hXG569) (kne kf3 (by decide)), KX.al (KX.trans (KX.trans hXG11 hXG32) hXG569) (kne kf4 (by decide))⟩ (by show ¬ _; omega) (by show ¬ _; omega) (fun p hp => by show ¬ _; omega)
                        show WP kX2_linkBoth X 261 [some (2, ((327682 : Nat) : Int)), some (0, k), some (2, ((A : Nat) : Int)), some (2, ((B : Nat) : Int)), some (2, ((f : Nat) : Int)), some (0, rr12), some (0, rr33), some (2, ((B : Nat) : Int)), some (2, ((A : Nat) : Int))] [] G572
                        refine s_iconst dX2_linkBoth_261 (by decide) ?_
                        exact s_iret hR dX2_linkBoth_262 rfl (hQ 0 G572 hCG572 (KX.trans (KX.trans (KX.trans hXG11 hXG32) hXG569) hXG572) hFG572 hFfG572)
                      · -- 223 to 226
                        refine s_bipush dX2_linkBoth_226 rfl (by decide) ?_
                        refine s_iload_n dX2_linkBoth_228 rfl ?_
                        refine s_callSN (own := RX2) rfl (by decide +kernel) (as := [(0, 6), (0, k)]) (rest := []) gX11_valueMistake dX2_linkBoth_229 m_1784 m_714 m_129 ⟨by decide, by decide, show (parseMethodDescriptor yX11_valueMistake.desc).map (fun d => d.parameters.length) = some 2 from by decide +kernel⟩ (Nat.le_of_ble_eq_true rfl) (by rw [hcf]; exact Nat.le_of_ble_eq_true rfl) rfl (Nat.le_of_ble_eq_true rfl) ⟨6, k, rfl, (by first | assumption | omega), (by first | assumption | omega), fun rr575 hp576 => ?_⟩
                        show WP kX2_linkBoth X 232 [some (2, ((327682 : Nat) : Int)), some (0, k), some (2, ((A : Nat) : Int)), some (2, ((B : Nat) : Int)), some (2, ((f : Nat) : Int)), some (0, rr12), some (0, rr33), some (2, ((B : Nat) : Int)), some (2, ((A : Nat) : Int))] [(0, rr575)] G32
                        exact s_iret hR dX2_linkBoth_232 rfl (hQ rr575 G32 hCG32 (KX.trans hXG11 hXG32) hFG32 hFfG32)
              · -- 144 to 147
                refine s_aload dX2_linkBoth_147 rfl (Int.natCast_nonneg _) ?_
                refine s_iload_n dX2_linkBoth_149 rfl ?_
                refine s_iconst dX2_linkBoth_150 (by decide) ?_
                refine s_aload_n dX2_linkBoth_151 rfl (Int.natCast_nonneg _) ?_
                refine s_alv (A) (by simp) (fun al577 => ?_)
                have hv578 : gS G32 A 2 = ((A + 2 : Nat) : Int) := by have h9 : (gS G32 A 2) = (((A % 1048576) + 2 : Nat) : Int) := hCG32.1.v (j := 2) (by rw [cde_n (by omega) (by omega)]; omega : cde A = 101) al577 (by rw [hk41]; exact Nat.le_of_ble_eq_true rfl); omega
                refine s_getf (ci := 1) (k := 2) (C := RX0) (T := TX0) (N := 7) (n := A) (L := 0) (t := 2) dX2_linkBoth_152 rfl wi_65 m_576 (Nat.le_of_ble_eq_true rfl) rfl rfl hk41 hv578 ?_
                refine s_iload_n dX2_linkBoth_155 rfl ?_
                have hk579 : gK G32 (A + 2) = (1, 10) := ((hXG32).k ((hXG11).k kA2 (by decide)) (by decide))
                refine s_iald dX2_linkBoth_156 hk579 (by omega) (by omega) rfl ?_
                refine s_aload_n dX2_linkBoth_157 rfl (Int.natCast_nonneg _) ?_
                refine s_alv (B) (by simp) (fun al580 => ?_)
                have hv581 : gS G32 B 2 = ((B + 2 : Nat) : Int) := by have h9 : (gS G32 B 2) = (((B % 1048576) + 2 : Nat) : Int) := hCG32.1.v (j := 2) (by rw [cde_n (by omega) (by omega)]; omega : cde B = 101) al580 (by rw [hk318]; exact Nat.le_of_ble_eq_true rfl); omega
                refine s_getf (ci := 1) (k := 2) (C := RX0) (T := TX0) (N := 7) (n := B) (L := 0) (t := 2) dX2_linkBoth_158 rfl wi_65 m_576 (Nat.le_of_ble_eq_true rfl) rfl rfl hk318 hv581 ?_
                refine s_iload_n dX2_linkBoth_161 rfl ?_
                have hk582 : gK G32 (B + 2) = (1, 10) := ((hXG32).k ((hXG11).k kB2 (by decide)) (by decide))
                refine s_iald dX2_linkBoth_162 hk582 (by omega) (by omega) rfl ?_
                refine s_iand dX2_linkBoth_163 ?_
                refine s_iconst dX2_linkBoth_164 (by decide) ?_
                refine s_iand dX2_linkBoth_165 ?_
                refine s_ior dX2_linkBoth_166 ?_
                refine s_aload_n dX2_linkBoth_167 rfl (Int.natCast_nonneg _) ?_
                have hv583 : gS G32 327682 6 = ((327691 : Nat) : Int) := by have h9 : (gS G32 327682 6) = 327691 := hCG32.1.v (j := 6) (by decide : cde 327682 = 502) al321 (by rw [hk320]; exact Nat.le_of_ble_eq_true rfl); omega
                refine s_getf (ci := 3) (k := 6) (C := RX2) (T := TX2) (N := 8) (n := 327682) (L := 0) (t := 2) dX2_linkBoth_168 rfl wi_70 m_582 (Nat.le_of_ble_eq_true rfl) rfl rfl hk320 hv583 ?_
                refine s_iload dX2_linkBoth_171 rfl ?_
                have hk586 : gK G32 (f) = (9, 0) := ((hXG32).k ((hXG11).k kf0 (by decide)) (by decide))
                refine s_callV (as := [(0, k), (0, i_or 1 (i_and (i_and (gS G32 (A + 2) ((k : Int).toNat)) (gS G32 (B + 2) ((k : Int).toNat))) 4)), (2, ((327691 : Nat) : Int)), (0, rr12)]) (rest := []) (n := f) (ci := 1) gX0_putValue dX2_linkBoth_173 m_1320 m_750 m_1483 m_711 m_77 ⟨by decide, by decide, show (parseMethodDescriptor yX0_putValue.desc).map (fun d => d.parameters.length) = some 4 from by decide +kernel⟩ (Nat.le_of_ble_eq_true rfl) (by rw [hcf]; exact Nat.le_of_ble_eq_true rfl) hk586 rfl rfl (Nat.le_of_ble_eq_true rfl) ⟨f, k, i_or 1 (i_and (i_and (gS G32 (A + 2) ((k : Int).toNat)) (gS G32 (B + 2) ((k : Int).toNat))) 4), 327691, 200, rr12, a, b, rfl, hCG32, hab, (by first | assumption | omega), (by first | assumption | omega), hk324, (by first | assumption | omega), (by first | assumption | omega), (by first | assumption | omega), fun G584 hCG584 hXG584 hfG584 hpG584 => ?_⟩
                have hFG584 : WX (fun x => x = 327691 ∨ x = 327692 ∨ (f + 1 ≤ x ∧ x ≤ f + 22)) G G584 := WX.trans hFG32 (KX.trans hXG11 hXG32) (WX.mono hfG584 (fun x hx => by omega))
                have hFIG584 : ∀ k : Nat, k < 6 → FIP P G584 262144 k := fun k hk => FIP.sm (hFIG32 k hk) hXG584 hfG584 (by show ¬ _; omega) (congrFun (hfG584 262149 (KX.al (KX.trans hXG11 hXG32) (kne k262149 (by decide))) (by show ¬ _; omega)) k)
                have hFAG584 : FPa P G584 A := (hFAG32).wx hXG584 hfG584 ⟨KX.al (KX.trans hXG11 hXG32) (kne kA3 (by decide)), KX.al (KX.trans hXG11 hXG32) (kne kA4 (by decide))⟩ (by show ¬ _; omega) (by show ¬ _; omega) (fun p hp => by show ¬ _; omega)
                have hFBG584 : FPa P G584 B := (hFBG32).wx hXG584 hfG584 ⟨KX.al (KX.trans hXG11 hXG32) (kne kB3 (by decide)), KX.al (KX.trans hXG11 hXG32) (kne kB4 (by decide))⟩ (by show ¬ _; omega) (by show ¬ _; omega) (fun p hp => by show ¬ _; omega)
                have hFfG584 : FPa P G584 f := FPa.put hpG584.1 hFfG32 (fun _ _ => (hpG11.2 P ((hFA (6 + k : Int).toNat (by omega)).rps hv4 rfl) hFI (by omega)).wx hXG32 hfG32 (by show ¬ _; omega)) hXG584 hfG584 (fun p hp hn => by show ¬ _; omega)
                show WP kX2_linkBoth X 176 [some (2, ((327682 : Nat) : Int)), some (0, k), some (2, ((A : Nat) : Int)), some (2, ((B : Nat) : Int)), some (2, ((f : Nat) : Int)), some (0, rr12), some (0, rr33), none, none] [] G584
                refine s_iconst dX2_linkBoth_176 (by decide) ?_
                exact s_iret hR dX2_linkBoth_177 rfl (hQ 0 G584 hCG584 (KX.trans (KX.trans hXG11 hXG32) hXG584) hFG584 hFfG584)
          · -- 122 to 125
            refine s_iconst dX2_linkBoth_125 (by decide) ?_
            refine s_iload_n dX2_linkBoth_126 rfl ?_
            refine s_callSN (own := RX2) rfl (by decide +kernel) (as := [(0, 2), (0, k)]) (rest := []) gX11_valueMistake dX2_linkBoth_127 m_1784 m_714 m_129 ⟨by decide, by decide, show (parseMethodDescriptor yX11_valueMistake.desc).map (fun d => d.parameters.length) = some 2 from by decide +kernel⟩ (Nat.le_of_ble_eq_true rfl) (by rw [hcf]; exact Nat.le_of_ble_eq_true rfl) rfl (Nat.le_of_ble_eq_true rfl) ⟨2, k, rfl, (by first | assumption | omega), (by first | assumption | omega), fun rr587 hp588 => ?_⟩
            show WP kX2_linkBoth X 130 [some (2, ((327682 : Nat) : Int)), some (0, k), some (2, ((A : Nat) : Int)), some (2, ((B : Nat) : Int)), some (2, ((f : Nat) : Int)), some (0, rr12), some (0, rr33), none, none] [(0, rr587)] G32
            exact s_iret hR dX2_linkBoth_130 rfl (hQ rr587 G32 hCG32 (KX.trans hXG11 hXG32) hFG32 hFfG32)
        · -- 98 to 101
          refine s_iconst dX2_linkBoth_101 (by decide) ?_
          refine s_iload_n dX2_linkBoth_102 rfl ?_
          refine s_callSN (own := RX2) rfl (by decide +kernel) (as := [(0, 4), (0, k)]) (rest := []) gX11_valueMistake dX2_linkBoth_103 m_1784 m_714 m_129 ⟨by decide, by decide, show (parseMethodDescriptor yX11_valueMistake.desc).map (fun d => d.parameters.length) = some 2 from by decide +kernel⟩ (Nat.le_of_ble_eq_true rfl) (by rw [hcf]; exact Nat.le_of_ble_eq_true rfl) rfl (Nat.le_of_ble_eq_true rfl) ⟨4, k, rfl, (by first | assumption | omega), (by first | assumption | omega), fun rr589 hp590 => ?_⟩
          show WP kX2_linkBoth X 106 [some (2, ((327682 : Nat) : Int)), some (0, k), some (2, ((A : Nat) : Int)), some (2, ((B : Nat) : Int)), some (2, ((f : Nat) : Int)), some (0, rr12), some (0, rr33), none, none] [(0, rr589)] G32
          exact s_iret hR dX2_linkBoth_106 rfl (hQ rr589 G32 hCG32 (KX.trans hXG11 hXG32) hFG32 hFfG32)
    · -- 75 to 78
      refine s_bipush dX2_linkBoth_78 rfl (by decide) ?_
      refine s_iload_n dX2_linkBoth_80 rfl ?_
      refine s_callSN (own := RX2) rfl (by decide +kernel) (as := [(0, 7), (0, k)]) (rest := []) gX11_valueMistake dX2_linkBoth_81 m_1784 m_714 m_129 ⟨by decide, by decide, show (parseMethodDescriptor yX11_valueMistake.desc).map (fun d => d.parameters.length) = some 2 from by decide +kernel⟩ (Nat.le_of_ble_eq_true rfl) (by rw [hcf]; exact Nat.le_of_ble_eq_true rfl) rfl (Nat.le_of_ble_eq_true rfl) ⟨7, k, rfl, (by first | assumption | omega), (by first | assumption | omega), fun rr591 hp592 => ?_⟩
      show WP kX2_linkBoth X 84 [some (2, ((327682 : Nat) : Int)), some (0, k), some (2, ((A : Nat) : Int)), some (2, ((B : Nat) : Int)), some (2, ((f : Nat) : Int)), some (0, rr12), some (0, rr33), none, none] [(0, rr591)] G32
      exact s_iret hR dX2_linkBoth_84 rfl (hQ rr591 G32 hCG32 (KX.trans hXG11 hXG32) hFG32 hFfG32)

abbrev kX2_link : KD := (RX2, cX2_link, 8, (some .int), [])
def TX2_link : TR := fun as G Qr => ∃ (P : Int → Prop) (A B : Nat) (s : Int) (f : Nat) (a b : Nat), as = [(2, ((327682 : Nat) : Int)), (2, ((A : Nat) : Int)), (2, ((B : Nat) : Int)), (0, s), (2, ((f : Nat) : Int))] ∧ CI a b G ∧ (a ≤ 2840000 ∧ b ≤ 590000) ∧ (isFc A) ∧ (isFc B) ∧ (isFc f) ∧ (A ≠ f ∧ B ≠ f) ∧ (FPa P G A) ∧ (FPa P G B) ∧ (FPa P G f) ∧ ∀ (r : Int) (G' : LG), CI a b G' → KX G G' → WX (fun x => (262144 ≤ x ∧ x < 262272) ∨ x = 327691 ∨ x = 327692 ∨ (f + 1 ≤ x ∧ x ≤ f + 22)) G G' → (FPa P G' f) → Qr (.inl (some (0, r))) G'
set_option maxHeartbeats 4000000 in
set_option maxRecDepth 100000 in
theorem gX2_link : Good kX2_link yX2_link 4 TX2_link := by
  refine good_of (by decide) rfl rfl (fun as G Qr h => ?_) (fun X as G Qr hcf hR hT oa => ?_)
  · obtain ⟨P, A, B, s, f, a, b, rfl, -⟩ := h; exact Nat.le_of_ble_eq_true rfl
  obtain ⟨P, A, B, s, f, a, b, rfl, hC, hab, hA, hB, hf, hne, hFA, hFB, hFf, hQ⟩ := hT
  show WP kX2_link X 0 [some (2, ((327682 : Nat) : Int)), some (2, ((A : Nat) : Int)), some (2, ((B : Nat) : Int)), some (0, s), some (2, ((f : Nat) : Int)), none, none, none] [] G
  have hr_s : inR s := okv_R (oa _ (by simp))
  refine s_alvl 327682 (k := 0) rfl (fun alZ => ?_)
  refine s_alvl A (k := 1) rfl (fun alA => ?_)
  refine s_alvl B (k := 2) rfl (fun alB => ?_)
  refine s_alvl f (k := 4) rfl (fun alf => ?_)
  refine s_lk (fun hlk => ?_)
  have hfn := hlk.fna hC alZ
  obtain ⟨k327682, k327681, k327683, k262144, k262208, k327684, k68097, k327691, k327692, k262145, k262146, k262148, k262149, k262209, k262210, k262212, k262213, k327710, k327685, k327688⟩ := id hfn
  have hfA := hlk.fc hC hA alA
  obtain ⟨kA0, kA1, kA2, kA3, kA4, kA5, kA6⟩ := hfA.1
  have hfB := hlk.fc hC hB alB
  obtain ⟨kB0, kB1, kB2, kB3, kB4, kB5, kB6⟩ := hfB.1
  have hff := hlk.fc hC hf alf
  obtain ⟨kf0, kf1, kf2, kf3, kf4, kf5, kf6⟩ := hff.1
  refine s_aload_n dX2_link_0 rfl (Int.natCast_nonneg _) ?_
  have hv1 : gS G 327682 2 = ((262144 : Nat) : Int) := by have h9 : (gS G 327682 2) = 262144 := hC.1.v (j := 2) (by decide : cde 327682 = 502) (kne k327682 (by decide)) (by rw [k327682]; exact Nat.le_of_ble_eq_true rfl); omega
  refine s_getf (ci := 3) (k := 2) (C := RX2) (T := TX2) (N := 8) (n := 327682) (L := 0) (t := 2) dX2_link_1 rfl wi_70 m_577 (Nat.le_of_ble_eq_true rfl) rfl rfl k327682 hv1 ?_
  refine s_callV (as := []) (rest := []) (n := 262144) (ci := 2) gX1_clear dX2_link_4 m_1309 m_911 m_1487 m_712 m_252 ⟨by decide, by decide, show (parseMethodDescriptor yX1_clear.desc).map (fun d => d.parameters.length) = some 0 from by decide +kernel⟩ (Nat.le_of_ble_eq_true rfl) (by rw [hcf]; exact Nat.le_of_ble_eq_true rfl) k262144 rfl rfl (Nat.le_of_ble_eq_true rfl) ⟨262144, a, b, rfl, hC, hab, (by first | assumption | omega), fun G2 hCG2 hXG2 hfG2 hpG2 => ?_⟩
  have hFG2 : WX (fun x => (262144 ≤ x ∧ x < 262272) ∨ x = 327691 ∨ x = 327692 ∨ (f + 1 ≤ x ∧ x ≤ f + 22)) G G2 := WX.trans WX.rf KX.rf (WX.mono hfG2 (fun x hx => by omega))
  have hTLG2 : ∀ k : Nat, k < 6 → TLP P G2 262144 k := fun k hk => TLP.zero (hpG2 k hk).1
  have hFIG2 : ∀ k : Nat, k < 6 → FIP P G2 262144 k := fun k hk => FIP.zero (hpG2 k hk).2
  have hFAG2 : FPa P G2 A := (hFA).wx hXG2 hfG2 ⟨KX.al KX.rf (kne kA3 (by decide)), KX.al KX.rf (kne kA4 (by decide))⟩ (by show ¬ _; omega) (by show ¬ _; omega) (fun p hp => by show ¬ _; omega)
  have hFBG2 : FPa P G2 B := (hFB).wx hXG2 hfG2 ⟨KX.al KX.rf (kne kB3 (by decide)), KX.al KX.rf (kne kB4 (by decide))⟩ (by show ¬ _; omega) (by show ¬ _; omega) (fun p hp => by show ¬ _; omega)
  have hFfG2 : FPa P G2 f := (hFf).wx hXG2 hfG2 ⟨KX.al KX.rf (kne kf3 (by decide)), KX.al KX.rf (kne kf4 (by decide))⟩ (by show ¬ _; omega) (by show ¬ _; omega) (fun p hp => by show ¬ _; omega)
  show WP kX2_link X 7 [some (2, ((327682 : Nat) : Int)), some (2, ((A : Nat) : Int)), some (2, ((B : Nat) : Int)), some (0, s), some (2, ((f : Nat) : Int)), none, none, none] [] G2
  refine s_iconst dX2_link_7 (by decide) ?_
  refine s_istore dX2_link_8 (by decide) (lv' := [some (2, ((327682 : Nat) : Int)), some (2, ((A : Nat) : Int)), some (2, ((B : Nat) : Int)), some (0, s), some (2, ((f : Nat) : Int)), some (0, 0), none, none]) rfl ?_
  have L4 : ∀ (fu4 : Nat) (n4 : Int) (G4 : LG), CI a b G4 → KX G2 G4 → WX (fun x => (262144 ≤ x ∧ x < 262272) ∨ x = 327691 ∨ x = 327692 ∨ (f + 1 ≤ x ∧ x ≤ f + 22)) G G4 → ((0 ≤ n4 ∧ n4 ≤ 6) ∧ (∀ k : Nat, k < 6 → TLP P G4 262144 k) ∧ (∀ k : Nat, k < 6 → FIP P G4 262144 k) ∧ (FPa P G4 A) ∧ (FPa P G4 B) ∧ (FPa P G4 f)) → (6 - n4).toNat < fu4 → WP kX2_link X 10 [some (2, ((327682 : Nat) : Int)), some (2, ((A : Nat) : Int)), some (2, ((B : Nat) : Int)), some (0, s), some (2, ((f : Nat) : Int)), some (0, n4), none, none] [] G4 := by
    intro fu4
    induction fu4 with
    | zero => intro n4 G4 hCG4 hXG4 hFG4 hi4 hm4; exact absurd hm4 (Nat.not_lt_zero _)
    | succ fu4 ih4 =>
      intro n4 G4 hCG4 hXG4 hFG4 hi4 hm4
      have hj4 := hi4
      obtain ⟨in_4, hTLG4, hFIG4, hFAG4, hFBG4, hFfG4⟩ := hi4
      refine s_iload dX2_link_10 rfl ?_
      refine s_bipush dX2_link_12 rfl (by decide) ?_
      refine s_icmp_ge (tgt := 78) dX2_link_14 (by decide) (fun c5 => ?_) (fun c5 => ?_)
      · -- 14 to 78
        refine s_aload_n dX2_link_78 rfl (Int.natCast_nonneg _) ?_
        have hk6 : gK G4 (327682) = (11, 0) := ((hXG4).k ((hXG2).k k327682 (by decide)) (by decide))
        refine s_alv (327682) (by simp) (fun al7 => ?_)
        have hv8 : gS G4 327682 2 = ((262144 : Nat) : Int) := by have h9 : (gS G4 327682 2) = 262144 := hCG4.1.v (j := 2) (by decide : cde 327682 = 502) al7 (by rw [hk6]; exact Nat.le_of_ble_eq_true rfl); omega
        refine s_getf (ci := 3) (k := 2) (C := RX2) (T := TX2) (N := 8) (n := 327682) (L := 0) (t := 2) dX2_link_79 rfl wi_70 m_577 (Nat.le_of_ble_eq_true rfl) rfl rfl hk6 hv8 ?_
        have hk11 : gK G4 (262144) = (10, 0) := ((hXG4).k ((hXG2).k k262144 (by decide)) (by decide))
        refine s_callV (as := []) (rest := []) (n := 262144) (ci := 2) gX1_makeFull dX2_link_82 m_1311 m_917 m_1492 m_712 m_259 ⟨by decide, by decide, show (parseMethodDescriptor yX1_makeFull.desc).map (fun d => d.parameters.length) = some 0 from by decide +kernel⟩ (Nat.le_of_ble_eq_true rfl) (by rw [hcf]; exact Nat.le_of_ble_eq_true rfl) hk11 rfl rfl (Nat.le_of_ble_eq_true rfl) ⟨262144, a, b, rfl, hCG4, hab, (by first | assumption | omega), fun rr10 G9 hCG9 hXG9 hfG9 hpG9 => ?_⟩
        have hFG9 : WX (fun x => (262144 ≤ x ∧ x < 262272) ∨ x = 327691 ∨ x = 327692 ∨ (f + 1 ≤ x ∧ x ≤ f + 22)) G G9 := WX.trans hFG4 (KX.trans hXG2 hXG4) (WX.mono hfG9 (fun x hx => by omega))
        have hFIG9 : ∀ k : Nat, k < 6 → FIP P G9 262144 k := hpG9.2 P hTLG4 hFIG4
        have hFAG9 : FPa P G9 A := (hFAG4).wx hXG9 hfG9 ⟨KX.al (KX.trans hXG2 hXG4) (kne kA3 (by decide)), KX.al (KX.trans hXG2 hXG4) (kne kA4 (by decide))⟩ (by show ¬ _; omega) (by show ¬ _; omega) (fun p hp => by show ¬ _; omega)
        have hFBG9 : FPa P G9 B := (hFBG4).wx hXG9 hfG9 ⟨KX.al (KX.trans hXG2 hXG4) (kne kB3 (by decide)), KX.al (KX.trans hXG2 hXG4) (kne kB4 (by decide))⟩ (by show ¬ _; omega) (by show ¬ _; omega) (fun p hp => by show ¬ _; omega)
        have hFfG9 : FPa P G9 f := (hFfG4).wx hXG9 hfG9 ⟨KX.al (KX.trans hXG2 hXG4) (kne kf3 (by decide)), KX.al (KX.trans hXG2 hXG4) (kne kf4 (by decide))⟩ (by show ¬ _; omega) (by show ¬ _; omega) (fun p hp => by show ¬ _; omega)
        show WP kX2_link X 85 [some (2, ((327682 : Nat) : Int)), some (2, ((A : Nat) : Int)), some (2, ((B : Nat) : Int)), some (0, s), some (2, ((f : Nat) : Int)), some (0, n4), none, none] [(0, rr10)] G9
        refine s_istore dX2_link_85 (by decide) (lv' := [some (2, ((327682 : Nat) : Int)), some (2, ((A : Nat) : Int)), some (2, ((B : Nat) : Int)), some (0, s), some (2, ((f : Nat) : Int)), some (0, rr10), none, none]) rfl ?_
        refine s_iconst dX2_link_87 (by decide) ?_
        refine s_istore dX2_link_88 (by decide) (lv' := [some (2, ((327682 : Nat) : Int)), some (2, ((A : Nat) : Int)), some (2, ((B : Nat) : Int)), some (0, s), some (2, ((f : Nat) : Int)), some (0, rr10), some (0, 0), none]) rfl ?_
        have L12 : ∀ (n12 : Nat) (m12 : Int) (e12 : Int) (G12 : LG), CI a b G12 → KX G9 G12 → WX (fun x => (262144 ≤ x ∧ x < 262272) ∨ x = 327691 ∨ x = 327692 ∨ (f + 1 ≤ x ∧ x ≤ f + 22)) G G12 → ((0 ≤ e12 ∧ e12 ≤ 6) ∧ (m12 = 0 → ∀ k : Nat, k < 6 → gS G12 262149 k ≤ 200) ∧ (∀ k : Nat, k < 6 → FIP P G12 262144 k) ∧ (FPa P G12 A) ∧ (FPa P G12 B) ∧ (FPa P G12 f)) → (6 - e12).toNat < n12 → WP kX2_link X 90 [some (2, ((327682 : Nat) : Int)), some (2, ((A : Nat) : Int)), some (2, ((B : Nat) : Int)), some (0, s), some (2, ((f : Nat) : Int)), some (0, m12), some (0, e12), none] [] G12 := by
          intro n12
          induction n12 with
          | zero => intro m12 e12 G12 hCG12 hXG12 hFG12 hi12 hm12; exact absurd hm12 (Nat.not_lt_zero _)
          | succ n12 ih12 =>
            intro m12 e12 G12 hCG12 hXG12 hFG12 hi12 hm12
            have hj12 := hi12
            obtain ⟨ie12, iz12, hFIG12, hFAG12, hFBG12, hFfG12⟩ := hi12
            refine s_iload dX2_link_90 rfl ?_
            refine s_bipush dX2_link_92 rfl (by decide) ?_
            refine s_icmp_ge (tgt := 120) dX2_link_94 (by decide) (fun c13 => ?_) (fun c13 => ?_)
            · -- 94 to 120
              refine s_iconst dX2_link_120 (by decide) ?_
              refine s_istore dX2_link_121 (by decide) (lv' := [some (2, ((327682 : Nat) : Int)), some (2, ((A : Nat) : Int)), some (2, ((B : Nat) : Int)), some (0, s), some (2, ((f : Nat) : Int)), some (0, m12), some (0, 0), none]) rfl ?_
              have L14 : ∀ (n14 : Nat) (m14 : Int) (e14 : Int) (G14 : LG), CI a b G14 → KX G12 G14 → WX (fun x => (262144 ≤ x ∧ x < 262272) ∨ x = 327691 ∨ x = 327692 ∨ (f + 1 ≤ x ∧ x ≤ f + 22)) G G14 → ((0 ≤ e14 ∧ e14 ≤ 10) ∧ (∀ k : Nat, k < 6 → FIP P G14 262144 k) ∧ (FPa P G14 A) ∧ (FPa P G14 B) ∧ (FPa P G14 f)) → (10 - e14).toNat < n14 → WP kX2_link X 123 [some (2, ((327682 : Nat) : Int)), some (2, ((A : Nat) : Int)), some (2, ((B : Nat) : Int)), some (0, s), some (2, ((f : Nat) : Int)), some (0, m14), some (0, e14), none] [] G14 := by
                intro n14
                induction n14 with
                | zero => intro m14 e14 G14 hCG14 hXG14 hFG14 hi14 hm14; exact absurd hm14 (Nat.not_lt_zero _)
                | succ n14 ih14 =>
                  intro m14 e14 G14 hCG14 hXG14 hFG14 hi14 hm14
                  have hj14 := hi14
                  obtain ⟨ie14, hFIG14, hFAG14, hFBG14, hFfG14⟩ := hi14
                  refine s_iload dX2_link_123 rfl ?_
                  refine s_bipush dX2_link_125 rfl (by decide) ?_
                  refine s_icmp_ge (tgt := 226) dX2_link_127 (by decide) (fun c15 => ?_) (fun c15 => ?_)
                  · -- 127 to 226
                    refine s_iload dX2_link_226 rfl ?_
                    exact s_iret hR dX2_link_228 rfl (hQ m14 G14 hCG14 (KX.trans (KX.trans (KX.trans (KX.trans hXG2 hXG4) hXG9) hXG12) hXG14) hFG14 hFfG14)
                  · -- 127 to 130
                    refine s_iload dX2_link_130 rfl ?_
                    refine s_if_ne (tgt := 226) dX2_link_132 (by decide) (fun c16 => ?_) (fun c16 => ?_)
                    · -- 132 to 226
                      refine s_iload dX2_link_226 rfl ?_
                      exact s_iret hR dX2_link_228 rfl (hQ m14 G14 hCG14 (KX.trans (KX.trans (KX.trans (KX.trans hXG2 hXG4) hXG9) hXG12) hXG14) hFG14 hFfG14)
                    · -- 132 to 135
                      refine s_iload_n dX2_link_135 rfl ?_
                      refine s_iload dX2_link_136 rfl ?_
                      refine s_callSN (own := RX2) rfl (by decide +kernel) (as := [(0, s), (0, e14)]) (rest := []) gX11_isIn dX2_link_138 m_1777 m_714 m_97 ⟨by decide, by decide, show (parseMethodDescriptor yX11_isIn.desc).map (fun d => d.parameters.length) = some 2 from by decide +kernel⟩ (Nat.le_of_ble_eq_true rfl) (by rw [hcf]; exact Nat.le_of_ble_eq_true rfl) rfl (Nat.le_of_ble_eq_true rfl) ⟨s, e14, rfl, fun rr17 hp18 => ?_⟩
                      show WP kX2_link X 141 [some (2, ((327682 : Nat) : Int)), some (2, ((A : Nat) : Int)), some (2, ((B : Nat) : Int)), some (0, s), some (2, ((f : Nat) : Int)), some (0, m14), some (0, e14), none] [(0, rr17)] G14
                      have J24 : ∀ z23 : Int, ((rr17 = 0) ∧ z23 = 0) ∨ ((¬ rr17 = 0) ∧ z23 = gS G14 (B + 2) ((e14 : Int).toNat)) → WP kX2_link X 155 [some (2, ((327682 : Nat) : Int)), some (2, ((A : Nat) : Int)), some (2, ((B : Nat) : Int)), some (0, s), some (2, ((f : Nat) : Int)), some (0, m14), some (0, e14), none] [(0, z23)] G14 := by
                        intro z23 hz23
                        refine s_istore dX2_link_155 (by decide) (lv' := [some (2, ((327682 : Nat) : Int)), some (2, ((A : Nat) : Int)), some (2, ((B : Nat) : Int)), some (0, s), some (2, ((f : Nat) : Int)), some (0, m14), some (0, e14), some (0, z23)]) rfl ?_
                        refine s_aload_n dX2_link_157 rfl (Int.natCast_nonneg _) ?_
                        refine s_iload dX2_link_158 rfl ?_
                        have hk27 : gK G14 (A) = (9, 0) := ((hXG14).k ((hXG12).k ((hXG9).k ((hXG4).k ((hXG2).k kA0 (by decide)) (by decide)) (by decide)) (by decide)) (by decide))
                        refine s_callV (as := [(0, e14)]) (rest := []) (n := A) (ci := 1) gX0_hasValue dX2_link_160 m_1313 m_739 m_1473 m_711 m_66 ⟨by decide, by decide, show (parseMethodDescriptor yX0_hasValue.desc).map (fun d => d.parameters.length) = some 1 from by decide +kernel⟩ (Nat.le_of_ble_eq_true rfl) (by rw [hcf]; exact Nat.le_of_ble_eq_true rfl) hk27 rfl rfl (Nat.le_of_ble_eq_true rfl) ⟨A, e14, a, b, rfl, hCG14, hab, (by first | assumption | omega), (by first | assumption | omega), fun rr25 hp26 => ?_⟩
                        show WP kX2_link X 163 [some (2, ((327682 : Nat) : Int)), some (2, ((A : Nat) : Int)), some (2, ((B : Nat) : Int)), some (0, s), some (2, ((f : Nat) : Int)), some (0, m14), some (0, e14), some (0, z23)] [(0, rr25)] G14
                        refine s_if_eq (tgt := 186) dX2_link_163 (by decide) (fun c28 => ?_) (fun c28 => ?_)
                        · -- 163 to 186
                          refine s_aload_n dX2_link_186 rfl (Int.natCast_nonneg _) ?_
                          refine s_iload dX2_link_187 rfl ?_
                          refine s_callV (as := [(0, e14)]) (rest := []) (n := A) (ci := 1) gX0_hasValue dX2_link_189 m_1313 m_739 m_1473 m_711 m_66 ⟨by decide, by decide, show (parseMethodDescriptor yX0_hasValue.desc).map (fun d => d.parameters.length) = some 1 from by decide +kernel⟩ (Nat.le_of_ble_eq_true rfl) (by rw [hcf]; exact Nat.le_of_ble_eq_true rfl) hk27 rfl rfl (Nat.le_of_ble_eq_true rfl) ⟨A, e14, a, b, rfl, hCG14, hab, (by first | assumption | omega), (by first | assumption | omega), fun rr29 hp30 => ?_⟩
                          show WP kX2_link X 192 [some (2, ((327682 : Nat) : Int)), some (2, ((A : Nat) : Int)), some (2, ((B : Nat) : Int)), some (0, s), some (2, ((f : Nat) : Int)), some (0, m14), some (0, e14), some (0, z23)] [(0, rr29)] G14
                          refine s_if_ne (tgt := 200) dX2_link_192 (by decide) (fun c31 => ?_) (fun c31 => ?_)
                          · -- 192 to 200
                            refine s_aload_n dX2_link_200 rfl (Int.natCast_nonneg _) ?_
                            refine s_iload dX2_link_201 rfl ?_
                            refine s_iload dX2_link_203 rfl ?_
                            refine s_if_ne (tgt := 212) dX2_link_205 (by decide) (fun c32 => ?_) (fun c32 => ?_)
                            · -- 205 to 212
                              refine s_aload_n dX2_link_212 rfl (Int.natCast_nonneg _) ?_
                              refine s_aload dX2_link_213 rfl (Int.natCast_nonneg _) ?_
                              have hk35 : gK G14 (327682) = (11, 0) := ((hXG14).k ((hXG12).k ((hXG9).k hk6 (by decide)) (by decide)) (by decide))
                              refine s_callV (as := [(0, e14), (2, ((B : Nat) : Int)), (2, ((f : Nat) : Int))]) (rest := []) (n := 327682) (ci := 3) gX2_linkOne dX2_link_215 m_1315 m_930 m_1658 m_716 m_277 ⟨by decide, by decide, show (parseMethodDescriptor yX2_linkOne.desc).map (fun d => d.parameters.length) = some 3 from by decide +kernel⟩ (Nat.le_of_ble_eq_true rfl) (by rw [hcf]; exact Nat.le_of_ble_eq_true rfl) hk35 rfl rfl (Nat.le_of_ble_eq_true rfl) ⟨P, e14, B, f, a, b, rfl, hCG14, hab, (by omega), (by assumption), (by assumption), (by omega), (by exact hFIG14), (by exact hFBG14), (by exact hFfG14), fun rr34 G33 hCG33 hXG33 hfG33 hpG33 => ?_⟩
                              have hFG33 : WX (fun x => (262144 ≤ x ∧ x < 262272) ∨ x = 327691 ∨ x = 327692 ∨ (f + 1 ≤ x ∧ x ≤ f + 22)) G G33 := WX.trans hFG14 (KX.trans (KX.trans (KX.trans (KX.trans hXG2 hXG4) hXG9) hXG12) hXG14) (WX.mono hfG33 (fun x hx => by omega))
                              have hFIG33 : ∀ k : Nat, k < 6 → FIP P G33 262144 k := fun k hk => FIP.sm (hFIG14 k hk) hXG33 hfG33 (by show ¬ _; omega) (congrFun (hfG33 262149 (KX.al (KX.trans (KX.trans (KX.trans (KX.trans hXG2 hXG4) hXG9) hXG12) hXG14) (kne k262149 (by decide))) (by show ¬ _; omega)) k)
                              have hFAG33 : FPa P G33 A := (hFAG14).wx hXG33 hfG33 ⟨KX.al (KX.trans (KX.trans (KX.trans (KX.trans hXG2 hXG4) hXG9) hXG12) hXG14) (kne kA3 (by decide)), KX.al (KX.trans (KX.trans (KX.trans (KX.trans hXG2 hXG4) hXG9) hXG12) hXG14) (kne kA4 (by decide))⟩ (by show ¬ _; omega) (by show ¬ _; omega) (fun p hp => by show ¬ _; omega)
                              have hFBG33 : FPa P G33 B := (hFBG14).wx hXG33 hfG33 ⟨KX.al (KX.trans (KX.trans (KX.trans (KX.trans hXG2 hXG4) hXG9) hXG12) hXG14) (kne kB3 (by decide)), KX.al (KX.trans (KX.trans (KX.trans (KX.trans hXG2 hXG4) hXG9) hXG12) hXG14) (kne kB4 (by decide))⟩ (by show ¬ _; omega) (by show ¬ _; omega) (fun p hp => by show ¬ _; omega)
                              have hFfG33 : FPa P G33 f := hpG33
                              show WP kX2_link X 218 [some (2, ((327682 : Nat) : Int)), some (2, ((A : Nat) : Int)), some (2, ((B : Nat) : Int)), some (0, s), some (2, ((f : Nat) : Int)), some (0, m14), some (0, e14), some (0, z23)] [(0, rr34)] G33
                              refine s_istore dX2_link_218 (by decide) (lv' := [some (2, ((327682 : Nat) : Int)), some (2, ((A : Nat) : Int)), some (2, ((B : Nat) : Int)), some (0, s), some (2, ((f : Nat) : Int)), some (0, rr34), some (0, e14), some (0, z23)]) rfl ?_
                              refine s_iinc dX2_link_220 (v := e14) rfl (by omega) (by decide) (lv' := [some (2, ((327682 : Nat) : Int)), some (2, ((A : Nat) : Int)), some (2, ((B : Nat) : Int)), some (0, s), some (2, ((f : Nat) : Int)), some (0, rr34), some (0, e14 + 1), some (0, z23)]) rfl ?_
                              refine s_goto (tgt := 123) dX2_link_223 (by decide) ?_
                              refine s_mask [true, true, true, true, true, true, true, false] (lv' := [some (2, ((327682 : Nat) : Int)), some (2, ((A : Nat) : Int)), some (2, ((B : Nat) : Int)), some (0, s), some (2, ((f : Nat) : Int)), some (0, rr34), some (0, e14 + 1), none]) rfl ?_
                              exact ih14 rr34 (e14 + 1) G33 hCG33 (KX.trans hXG14 hXG33) hFG33 (⟨(by omega), (by exact hFIG33), (by exact hFAG33), (by exact hFBG33), (by exact hFfG33)⟩) (by omega)
                            · -- 205 to 208
                              refine s_aload_n dX2_link_208 rfl (Int.natCast_nonneg _) ?_
                              refine s_goto (tgt := 213) dX2_link_209 (by decide) ?_
                              refine s_aload dX2_link_213 rfl (Int.natCast_nonneg _) ?_
                              have hk38 : gK G14 (327682) = (11, 0) := ((hXG14).k ((hXG12).k ((hXG9).k hk6 (by decide)) (by decide)) (by decide))
                              refine s_callV (as := [(0, e14), (2, ((A : Nat) : Int)), (2, ((f : Nat) : Int))]) (rest := []) (n := 327682) (ci := 3) gX2_linkOne dX2_link_215 m_1315 m_930 m_1658 m_716 m_277 ⟨by decide, by decide, show (parseMethodDescriptor yX2_linkOne.desc).map (fun d => d.parameters.length) = some 3 from by decide +kernel⟩ (Nat.le_of_ble_eq_true rfl) (by rw [hcf]; exact Nat.le_of_ble_eq_true rfl) hk38 rfl rfl (Nat.le_of_ble_eq_true rfl) ⟨P, e14, A, f, a, b, rfl, hCG14, hab, (by omega), (by assumption), (by assumption), (by omega), (by exact hFIG14), (by exact hFAG14), (by exact hFfG14), fun rr37 G36 hCG36 hXG36 hfG36 hpG36 => ?_⟩
                              have hFG36 : WX (fun x => (262144 ≤ x ∧ x < 262272) ∨ x = 327691 ∨ x = 327692 ∨ (f + 1 ≤ x ∧ x ≤ f + 22)) G G36 := WX.trans hFG14 (KX.trans (KX.trans (KX.trans (KX.trans hXG2 hXG4) hXG9) hXG12) hXG14) (WX.mono hfG36 (fun x hx => by omega))
                              have hFIG36 : ∀ k : Nat, k < 6 → FIP P G36 262144 k := fun k hk => FIP.sm (hFIG14 k hk) hXG36 hfG36 (by show ¬ _; omega) (congrFun (hfG36 262149 (KX.al (KX.trans (KX.trans (KX.trans (KX.trans hXG2 hXG4) hXG9) hXG12) hXG14) (kne k262149 (by decide))) (by show ¬ _; omega)) k)
                              have hFAG36 : FPa P G36 A := (hFAG14).wx hXG36 hfG36 ⟨KX.al (KX.trans (KX.trans (KX.trans (KX.trans hXG2 hXG4) hXG9) hXG12) hXG14) (kne kA3 (by decide)), KX.al (KX.trans (KX.trans (KX.trans (KX.trans hXG2 hXG4) hXG9) hXG12) hXG14) (kne kA4 (by decide))⟩ (by show ¬ _; omega) (by show ¬ _; omega) (fun p hp => by show ¬ _; omega)
                              have hFBG36 : FPa P G36 B := (hFBG14).wx hXG36 hfG36 ⟨KX.al (KX.trans (KX.trans (KX.trans (KX.trans hXG2 hXG4) hXG9) hXG12) hXG14) (kne kB3 (by decide)), KX.al (KX.trans (KX.trans (KX.trans (KX.trans hXG2 hXG4) hXG9) hXG12) hXG14) (kne kB4 (by decide))⟩ (by show ¬ _; omega) (by show ¬ _; omega) (fun p hp => by show ¬ _; omega)
                              have hFfG36 : FPa P G36 f := hpG36
                              show WP kX2_link X 218 [some (2, ((327682 : Nat) : Int)), some (2, ((A : Nat) : Int)), some (2, ((B : Nat) : Int)), some (0, s), some (2, ((f : Nat) : Int)), some (0, m14), some (0, e14), some (0, z23)] [(0, rr37)] G36
                              refine s_istore dX2_link_218 (by decide) (lv' := [some (2, ((327682 : Nat) : Int)), some (2, ((A : Nat) : Int)), some (2, ((B : Nat) : Int)), some (0, s), some (2, ((f : Nat) : Int)), some (0, rr37), some (0, e14), some (0, z23)]) rfl ?_
                              refine s_iinc dX2_link_220 (v := e14) rfl (by omega) (by decide) (lv' := [some (2, ((327682 : Nat) : Int)), some (2, ((A : Nat) : Int)), some (2, ((B : Nat) : Int)), some (0, s), some (2, ((f : Nat) : Int)), some (0, rr37), some (0, e14 + 1), some (0, z23)]) rfl ?_
                              refine s_goto (tgt := 123) dX2_link_223 (by decide) ?_
                              refine s_mask [true, true, true, true, true, true, true, false] (lv' := [some (2, ((327682 : Nat) : Int)), some (2, ((A : Nat) : Int)), some (2, ((B : Nat) : Int)), some (0, s), some (2, ((f : Nat) : Int)), some (0, rr37), some (0, e14 + 1), none]) rfl ?_
                              exact ih14 rr37 (e14 + 1) G36 hCG36 (KX.trans hXG14 hXG36) hFG36 (⟨(by omega), (by exact hFIG36), (by exact hFAG36), (by exact hFBG36), (by exact hFfG36)⟩) (by omega)
                          · -- 192 to 195
                            refine s_iload dX2_link_195 rfl ?_
                            refine s_if_eq (tgt := 220) dX2_link_197 (by decide) (fun c39 => ?_) (fun c39 => ?_)
                            · -- 197 to 220
                              refine s_iinc dX2_link_220 (v := e14) rfl (by omega) (by decide) (lv' := [some (2, ((327682 : Nat) : Int)), some (2, ((A : Nat) : Int)), some (2, ((B : Nat) : Int)), some (0, s), some (2, ((f : Nat) : Int)), some (0, m14), some (0, e14 + 1), some (0, z23)]) rfl ?_
                              refine s_goto (tgt := 123) dX2_link_223 (by decide) ?_
                              refine s_mask [true, true, true, true, true, true, true, false] (lv' := [some (2, ((327682 : Nat) : Int)), some (2, ((A : Nat) : Int)), some (2, ((B : Nat) : Int)), some (0, s), some (2, ((f : Nat) : Int)), some (0, m14), some (0, e14 + 1), none]) rfl ?_
                              exact ih14 m14 (e14 + 1) G14 hCG14 hXG14 hFG14 (⟨(by omega), (by exact hFIG14), (by exact hFAG14), (by exact hFBG14), (by exact hFfG14)⟩) (by omega)
                            · -- 197 to 200
                              refine s_aload_n dX2_link_200 rfl (Int.natCast_nonneg _) ?_
                              refine s_iload dX2_link_201 rfl ?_
                              refine s_iload dX2_link_203 rfl ?_
                              refine s_if_ne (tgt := 212) dX2_link_205 (by decide) (fun c40 => ?_) (fun c40 => ?_)
                              · -- 205 to 212
                                refine s_aload_n dX2_link_212 rfl (Int.natCast_nonneg _) ?_
                                refine s_aload dX2_link_213 rfl (Int.natCast_nonneg _) ?_
                                have hk43 : gK G14 (327682) = (11, 0) := ((hXG14).k ((hXG12).k ((hXG9).k hk6 (by decide)) (by decide)) (by decide))
                                refine s_callV (as := [(0, e14), (2, ((B : Nat) : Int)), (2, ((f : Nat) : Int))]) (rest := []) (n := 327682) (ci := 3) gX2_linkOne dX2_link_215 m_1315 m_930 m_1658 m_716 m_277 ⟨by decide, by decide, show (parseMethodDescriptor yX2_linkOne.desc).map (fun d => d.parameters.length) = some 3 from by decide +kernel⟩ (Nat.le_of_ble_eq_true rfl) (by rw [hcf]; exact Nat.le_of_ble_eq_true rfl) hk43 rfl rfl (Nat.le_of_ble_eq_true rfl) ⟨P, e14, B, f, a, b, rfl, hCG14, hab, (by omega), (by assumption), (by assumption), (by omega), (by exact hFIG14), (by exact hFBG14), (by exact hFfG14), fun rr42 G41 hCG41 hXG41 hfG41 hpG41 => ?_⟩
                                have hFG41 : WX (fun x => (262144 ≤ x ∧ x < 262272) ∨ x = 327691 ∨ x = 327692 ∨ (f + 1 ≤ x ∧ x ≤ f + 22)) G G41 := WX.trans hFG14 (KX.trans (KX.trans (KX.trans (KX.trans hXG2 hXG4) hXG9) hXG12) hXG14) (WX.mono hfG41 (fun x hx => by omega))
                                have hFIG41 : ∀ k : Nat, k < 6 → FIP P G41 262144 k := fun k hk => FIP.sm (hFIG14 k hk) hXG41 hfG41 (by show ¬ _; omega) (congrFun (hfG41 262149 (KX.al (KX.trans (KX.trans (KX.trans (KX.trans hXG2 hXG4) hXG9) hXG12) hXG14) (kne k262149 (by decide))) (by show ¬ _; omega)) k)
                                have hFAG41 : FPa P G41 A := (hFAG14).wx hXG41 hfG41 ⟨KX.al (KX.trans (KX.trans (KX.trans (KX.trans hXG2 hXG4) hXG9) hXG12) hXG14) (kne kA3 (by decide)), KX.al (KX.trans (KX.trans (KX.trans (KX.trans hXG2 hXG4) hXG9) hXG12) hXG14) (kne kA4 (by decide))⟩ (by show ¬ _; omega) (by show ¬ _; omega) (fun p hp => by show ¬ _; omega)
                                have hFBG41 : FPa P G41 B := (hFBG14).wx hXG41 hfG41 ⟨KX.al (KX.trans (KX.trans (KX.trans (KX.trans hXG2 hXG4) hXG9) hXG12) hXG14) (kne kB3 (by decide)), KX.al (KX.trans (KX.trans (KX.trans (KX.trans hXG2 hXG4) hXG9) hXG12) hXG14) (kne kB4 (by decide))⟩ (by show ¬ _; omega) (by show ¬ _; omega) (fun p hp => by show ¬ _; omega)
                                have hFfG41 : FPa P G41 f := hpG41
                                show WP kX2_link X 218 [some (2, ((327682 : Nat) : Int)), some (2, ((A : Nat) : Int)), some (2, ((B : Nat) : Int)), some (0, s), some (2, ((f : Nat) : Int)), some (0, m14), some (0, e14), some (0, z23)] [(0, rr42)] G41
                                refine s_istore dX2_link_218 (by decide) (lv' := [some (2, ((327682 : Nat) : Int)), some (2, ((A : Nat) : Int)), some (2, ((B : Nat) : Int)), some (0, s), some (2, ((f : Nat) : Int)), some (0, rr42), some (0, e14), some (0, z23)]) rfl ?_
                                refine s_iinc dX2_link_220 (v := e14) rfl (by omega) (by decide) (lv' := [some (2, ((327682 : Nat) : Int)), some (2, ((A : Nat) : Int)), some (2, ((B : Nat) : Int)), some (0, s), some (2, ((f : Nat) : Int)), some (0, rr42), some (0, e14 + 1), some (0, z23)]) rfl ?_
                                refine s_goto (tgt := 123) dX2_link_223 (by decide) ?_
                                refine s_mask [true, true, true, true, true, true, true, false] (lv' := [some (2, ((327682 : Nat) : Int)), some (2, ((A : Nat) : Int)), some (2, ((B : Nat) : Int)), some (0, s), some (2, ((f : Nat) : Int)), some (0, rr42), some (0, e14 + 1), none]) rfl ?_
                                exact ih14 rr42 (e14 + 1) G41 hCG41 (KX.trans hXG14 hXG41) hFG41 (⟨(by omega), (by exact hFIG41), (by exact hFAG41), (by exact hFBG41), (by exact hFfG41)⟩) (by omega)
                              · -- 205 to 208
                                refine s_aload_n dX2_link_208 rfl (Int.natCast_nonneg _) ?_
                                refine s_goto (tgt := 213) dX2_link_209 (by decide) ?_
                                refine s_aload dX2_link_213 rfl (Int.natCast_nonneg _) ?_
                                have hk46 : gK G14 (327682) = (11, 0) := ((hXG14).k ((hXG12).k ((hXG9).k hk6 (by decide)) (by decide)) (by decide))
                                refine s_callV (as := [(0, e14), (2, ((A : Nat) : Int)), (2, ((f : Nat) : Int))]) (rest := []) (n := 327682) (ci := 3) gX2_linkOne dX2_link_215 m_1315 m_930 m_1658 m_716 m_277 ⟨by decide, by decide, show (parseMethodDescriptor yX2_linkOne.desc).map (fun d => d.parameters.length) = some 3 from by decide +kernel⟩ (Nat.le_of_ble_eq_true rfl) (by rw [hcf]; exact Nat.le_of_ble_eq_true rfl) hk46 rfl rfl (Nat.le_of_ble_eq_true rfl) ⟨P, e14, A, f, a, b, rfl, hCG14, hab, (by omega), (by assumption), (by assumption), (by omega), (by exact hFIG14), (by exact hFAG14), (by exact hFfG14), fun rr45 G44 hCG44 hXG44 hfG44 hpG44 => ?_⟩
                                have hFG44 : WX (fun x => (262144 ≤ x ∧ x < 262272) ∨ x = 327691 ∨ x = 327692 ∨ (f + 1 ≤ x ∧ x ≤ f + 22)) G G44 := WX.trans hFG14 (KX.trans (KX.trans (KX.trans (KX.trans hXG2 hXG4) hXG9) hXG12) hXG14) (WX.mono hfG44 (fun x hx => by omega))
                                have hFIG44 : ∀ k : Nat, k < 6 → FIP P G44 262144 k := fun k hk => FIP.sm (hFIG14 k hk) hXG44 hfG44 (by show ¬ _; omega) (congrFun (hfG44 262149 (KX.al (KX.trans (KX.trans (KX.trans (KX.trans hXG2 hXG4) hXG9) hXG12) hXG14) (kne k262149 (by decide))) (by show ¬ _; omega)) k)
                                have hFAG44 : FPa P G44 A := (hFAG14).wx hXG44 hfG44 ⟨KX.al (KX.trans (KX.trans (KX.trans (KX.trans hXG2 hXG4) hXG9) hXG12) hXG14) (kne kA3 (by decide)), KX.al (KX.trans (KX.trans (KX.trans (KX.trans hXG2 hXG4) hXG9) hXG12) hXG14) (kne kA4 (by decide))⟩ (by show ¬ _; omega) (by show ¬ _; omega) (fun p hp => by show ¬ _; omega)
                                have hFBG44 : FPa P G44 B := (hFBG14).wx hXG44 hfG44 ⟨KX.al (KX.trans (KX.trans (KX.trans (KX.trans hXG2 hXG4) hXG9) hXG12) hXG14) (kne kB3 (by decide)), KX.al (KX.trans (KX.trans (KX.trans (KX.trans hXG2 hXG4) hXG9) hXG12) hXG14) (kne kB4 (by decide))⟩ (by show ¬ _; omega) (by show ¬ _; omega) (fun p hp => by show ¬ _; omega)
                                have hFfG44 : FPa P G44 f := hpG44
                                show WP kX2_link X 218 [some (2, ((327682 : Nat) : Int)), some (2, ((A : Nat) : Int)), some (2, ((B : Nat) : Int)), some (0, s), some (2, ((f : Nat) : Int)), some (0, m14), some (0, e14), some (0, z23)] [(0, rr45)] G44
                                refine s_istore dX2_link_218 (by decide) (lv' := [some (2, ((327682 : Nat) : Int)), some (2, ((A : Nat) : Int)), some (2, ((B : Nat) : Int)), some (0, s), some (2, ((f : Nat) : Int)), some (0, rr45), some (0, e14), some (0, z23)]) rfl ?_
                                refine s_iinc dX2_link_220 (v := e14) rfl (by omega) (by decide) (lv' := [some (2, ((327682 : Nat) : Int)), some (2, ((A : Nat) : Int)), some (2, ((B : Nat) : Int)), some (0, s), some (2, ((f : Nat) : Int)), some (0, rr45), some (0, e14 + 1), some (0, z23)]) rfl ?_
                                refine s_goto (tgt := 123) dX2_link_223 (by decide) ?_
                                refine s_mask [true, true, true, true, true, true, true, false] (lv' := [some (2, ((327682 : Nat) : Int)), some (2, ((A : Nat) : Int)), some (2, ((B : Nat) : Int)), some (0, s), some (2, ((f : Nat) : Int)), some (0, rr45), some (0, e14 + 1), none]) rfl ?_
                                exact ih14 rr45 (e14 + 1) G44 hCG44 (KX.trans hXG14 hXG44) hFG44 (⟨(by omega), (by exact hFIG44), (by exact hFAG44), (by exact hFBG44), (by exact hFfG44)⟩) (by omega)
                        · -- 163 to 166
                          refine s_iload dX2_link_166 rfl ?_
                          refine s_if_eq (tgt := 186) dX2_link_168 (by decide) (fun c47 => ?_) (fun c47 => ?_)
                          · -- 168 to 186
                            refine s_aload_n dX2_link_186 rfl (Int.natCast_nonneg _) ?_
                            refine s_iload dX2_link_187 rfl ?_
                            refine s_callV (as := [(0, e14)]) (rest := []) (n := A) (ci := 1) gX0_hasValue dX2_link_189 m_1313 m_739 m_1473 m_711 m_66 ⟨by decide, by decide, show (parseMethodDescriptor yX0_hasValue.desc).map (fun d => d.parameters.length) = some 1 from by decide +kernel⟩ (Nat.le_of_ble_eq_true rfl) (by rw [hcf]; exact Nat.le_of_ble_eq_true rfl) hk27 rfl rfl (Nat.le_of_ble_eq_true rfl) ⟨A, e14, a, b, rfl, hCG14, hab, (by first | assumption | omega), (by first | assumption | omega), fun rr48 hp49 => ?_⟩
                            show WP kX2_link X 192 [some (2, ((327682 : Nat) : Int)), some (2, ((A : Nat) : Int)), some (2, ((B : Nat) : Int)), some (0, s), some (2, ((f : Nat) : Int)), some (0, m14), some (0, e14), some (0, z23)] [(0, rr48)] G14
                            refine s_if_ne (tgt := 200) dX2_link_192 (by decide) (fun c50 => ?_) (fun c50 => ?_)
                            · -- 192 to 200
                              refine s_aload_n dX2_link_200 rfl (Int.natCast_nonneg _) ?_
                              refine s_iload dX2_link_201 rfl ?_
                              refine s_iload dX2_link_203 rfl ?_
                              refine s_if_ne (tgt := 212) dX2_link_205 (by decide) (fun c51 => ?_) (fun c51 => ?_)
                              · -- 205 to 212
                                refine s_aload_n dX2_link_212 rfl (Int.natCast_nonneg _) ?_
                                refine s_aload dX2_link_213 rfl (Int.natCast_nonneg _) ?_
                                have hk54 : gK G14 (327682) = (11, 0) := ((hXG14).k ((hXG12).k ((hXG9).k hk6 (by decide)) (by decide)) (by decide))
                                refine s_callV (as := [(0, e14), (2, ((B : Nat) : Int)), (2, ((f : Nat) : Int))]) (rest := []) (n := 327682) (ci := 3) gX2_linkOne dX2_link_215 m_1315 m_930 m_1658 m_716 m_277 ⟨by decide, by decide, show (parseMethodDescriptor yX2_linkOne.desc).map (fun d => d.parameters.length) = some 3 from by decide +kernel⟩ (Nat.le_of_ble_eq_true rfl) (by rw [hcf]; exact Nat.le_of_ble_eq_true rfl) hk54 rfl rfl (Nat.le_of_ble_eq_true rfl) ⟨P, e14, B, f, a, b, rfl, hCG14, hab, (by omega), (by assumption), (by assumption), (by omega), (by exact hFIG14), (by exact hFBG14), (by exact hFfG14), fun rr53 G52 hCG52 hXG52 hfG52 hpG52 => ?_⟩
                                have hFG52 : WX (fun x => (262144 ≤ x ∧ x < 262272) ∨ x = 327691 ∨ x = 327692 ∨ (f + 1 ≤ x ∧ x ≤ f + 22)) G G52 := WX.trans hFG14 (KX.trans (KX.trans (KX.trans (KX.trans hXG2 hXG4) hXG9) hXG12) hXG14) (WX.mono hfG52 (fun x hx => by omega))
                                have hFIG52 : ∀ k : Nat, k < 6 → FIP P G52 262144 k := fun k hk => FIP.sm (hFIG14 k hk) hXG52 hfG52 (by show ¬ _; omega) (congrFun (hfG52 262149 (KX.al (KX.trans (KX.trans (KX.trans (KX.trans hXG2 hXG4) hXG9) hXG12) hXG14) (kne k262149 (by decide))) (by show ¬ _; omega)) k)
                                have hFAG52 : FPa P G52 A := (hFAG14).wx hXG52 hfG52 ⟨KX.al (KX.trans (KX.trans (KX.trans (KX.trans hXG2 hXG4) hXG9) hXG12) hXG14) (kne kA3 (by decide)), KX.al (KX.trans (KX.trans (KX.trans (KX.trans hXG2 hXG4) hXG9) hXG12) hXG14) (kne kA4 (by decide))⟩ (by show ¬ _; omega) (by show ¬ _; omega) (fun p hp => by show ¬ _; omega)
                                have hFBG52 : FPa P G52 B := (hFBG14).wx hXG52 hfG52 ⟨KX.al (KX.trans (KX.trans (KX.trans (KX.trans hXG2 hXG4) hXG9) hXG12) hXG14) (kne kB3 (by decide)), KX.al (KX.trans (KX.trans (KX.trans (KX.trans hXG2 hXG4) hXG9) hXG12) hXG14) (kne kB4 (by decide))⟩ (by show ¬ _; omega) (by show ¬ _; omega) (fun p hp => by show ¬ _; omega)
                                have hFfG52 : FPa P G52 f := hpG52
                                show WP kX2_link X 218 [some (2, ((327682 : Nat) : Int)), some (2, ((A : Nat) : Int)), some (2, ((B : Nat) : Int)), some (0, s), some (2, ((f : Nat) : Int)), some (0, m14), some (0, e14), some (0, z23)] [(0, rr53)] G52
                                refine s_istore dX2_link_218 (by decide) (lv' := [some (2, ((327682 : Nat) : Int)), some (2, ((A : Nat) : Int)), some (2, ((B : Nat) : Int)), some (0, s), some (2, ((f : Nat) : Int)), some (0, rr53), some (0, e14), some (0, z23)]) rfl ?_
                                refine s_iinc dX2_link_220 (v := e14) rfl (by omega) (by decide) (lv' := [some (2, ((327682 : Nat) : Int)), some (2, ((A : Nat) : Int)), some (2, ((B : Nat) : Int)), some (0, s), some (2, ((f : Nat) : Int)), some (0, rr53), some (0, e14 + 1), some (0, z23)]) rfl ?_
                                refine s_goto (tgt := 123) dX2_link_223 (by decide) ?_
                                refine s_mask [true, true, true, true, true, true, true, false] (lv' := [some (2, ((327682 : Nat) : Int)), some (2, ((A : Nat) : Int)), some (2, ((B : Nat) : Int)), some (0, s), some (2, ((f : Nat) : Int)), some (0, rr53), some (0, e14 + 1), none]) rfl ?_
                                exact ih14 rr53 (e14 + 1) G52 hCG52 (KX.trans hXG14 hXG52) hFG52 (⟨(by omega), (by exact hFIG52), (by exact hFAG52), (by exact hFBG52), (by exact hFfG52)⟩) (by omega)
                              · -- 205 to 208
                                refine s_aload_n dX2_link_208 rfl (Int.natCast_nonneg _) ?_
                                refine s_goto (tgt := 213) dX2_link_209 (by decide) ?_
                                refine s_aload dX2_link_213 rfl (Int.natCast_nonneg _) ?_
                                have hk57 : gK G14 (327682) = (11, 0) := ((hXG14).k ((hXG12).k ((hXG9).k hk6 (by decide)) (by decide)) (by decide))
                                refine s_callV (as := [(0, e14), (2, ((A : Nat) : Int)), (2, ((f : Nat) : Int))]) (rest := []) (n := 327682) (ci := 3) gX2_linkOne dX2_link_215 m_1315 m_930 m_1658 m_716 m_277 ⟨by decide, by decide, show (parseMethodDescriptor yX2_linkOne.desc).map (fun d => d.parameters.length) = some 3 from by decide +kernel⟩ (Nat.le_of_ble_eq_true rfl) (by rw [hcf]; exact Nat.le_of_ble_eq_true rfl) hk57 rfl rfl (Nat.le_of_ble_eq_true rfl) ⟨P, e14, A, f, a, b, rfl, hCG14, hab, (by omega), (by assumption), (by assumption), (by omega), (by exact hFIG14), (by exact hFAG14), (by exact hFfG14), fun rr56 G55 hCG55 hXG55 hfG55 hpG55 => ?_⟩
                                have hFG55 : WX (fun x => (262144 ≤ x ∧ x < 262272) ∨ x = 327691 ∨ x = 327692 ∨ (f + 1 ≤ x ∧ x ≤ f + 22)) G G55 := WX.trans hFG14 (KX.trans (KX.trans (KX.trans (KX.trans hXG2 hXG4) hXG9) hXG12) hXG14) (WX.mono hfG55 (fun x hx => by omega))
                                have hFIG55 : ∀ k : Nat, k < 6 → FIP P G55 262144 k := fun k hk => FIP.sm (hFIG14 k hk) hXG55 hfG55 (by show ¬ _; omega) (congrFun (hfG55 262149 (KX.al (KX.trans (KX.trans (KX.trans (KX.trans hXG2 hXG4) hXG9) hXG12) hXG14) (kne k262149 (by decide))) (by show ¬ _; omega)) k)
                                have hFAG55 : FPa P G55 A := (hFAG14).wx hXG55 hfG55 ⟨KX.al (KX.trans (KX.trans (KX.trans (KX.trans hXG2 hXG4) hXG9) hXG12) hXG14) (kne kA3 (by decide)), KX.al (KX.trans (KX.trans (KX.trans (KX.trans hXG2 hXG4) hXG9) hXG12) hXG14) (kne kA4 (by decide))⟩ (by show ¬ _; omega) (by show ¬ _; omega) (fun p hp => by show ¬ _; omega)
                                have hFBG55 : FPa P G55 B := (hFBG14).wx hXG55 hfG55 ⟨KX.al (KX.trans (KX.trans (KX.trans (KX.trans hXG2 hXG4) hXG9) hXG12) hXG14) (kne kB3 (by decide)), KX.al (KX.trans (KX.trans (KX.trans (KX.trans hXG2 hXG4) hXG9) hXG12) hXG14) (kne kB4 (by decide))⟩ (by show ¬ _; omega) (by show ¬ _; omega) (fun p hp => by show ¬ _; omega)
                                have hFfG55 : FPa P G55 f := hpG55
                                show WP kX2_link X 218 [some (2, ((327682 : Nat) : Int)), some (2, ((A : Nat) : Int)), some (2, ((B : Nat) : Int)), some (0, s), some (2, ((f : Nat) : Int)), some (0, m14), some (0, e14), some (0, z23)] [(0, rr56)] G55
                                refine s_istore dX2_link_218 (by decide) (lv' := [some (2, ((327682 : Nat) : Int)), some (2, ((A : Nat) : Int)), some (2, ((B : Nat) : Int)), some (0, s), some (2, ((f : Nat) : Int)), some (0, rr56), some (0, e14), some (0, z23)]) rfl ?_
                                refine s_iinc dX2_link_220 (v := e14) rfl (by omega) (by decide) (lv' := [some (2, ((327682 : Nat) : Int)), some (2, ((A : Nat) : Int)), some (2, ((B : Nat) : Int)), some (0, s), some (2, ((f : Nat) : Int)), some (0, rr56), some (0, e14 + 1), some (0, z23)]) rfl ?_
                                refine s_goto (tgt := 123) dX2_link_223 (by decide) ?_
                                refine s_mask [true, true, true, true, true, true, true, false] (lv' := [some (2, ((327682 : Nat) : Int)), some (2, ((A : Nat) : Int)), some (2, ((B : Nat) : Int)), some (0, s), some (2, ((f : Nat) : Int)), some (0, rr56), some (0, e14 + 1), none]) rfl ?_
                                exact ih14 rr56 (e14 + 1) G55 hCG55 (KX.trans hXG14 hXG55) hFG55 (⟨(by omega), (by exact hFIG55), (by exact hFAG55), (by exact hFBG55), (by exact hFfG55)⟩) (by omega)
                            · -- 192 to 195
                              refine s_iload dX2_link_195 rfl ?_
                              refine s_if_eq (tgt := 220) dX2_link_197 (by decide) (fun c58 => ?_) (fun c58 => ?_)
                              · -- 197 to 220
                                refine s_iinc dX2_link_220 (v := e14) rfl (by omega) (by decide) (lv' := [some (2, ((327682 : Nat) : Int)), some (2, ((A : Nat) : Int)), some (2, ((B : Nat) : Int)), some (0, s), some (2, ((f : Nat) : Int)), some (0, m14), some (0, e14 + 1), some (0, z23)]) rfl ?_
                                refine s_goto (tgt := 123) dX2_link_223 (by decide) ?_
                                refine s_mask [true, true, true, true, true, true, true, false] (lv' := [some (2, ((327682 : Nat) : Int)), some (2, ((A : Nat) : Int)), some (2, ((B : Nat) : Int)), some (0, s), some (2, ((f : Nat) : Int)), some (0, m14), some (0, e14 + 1), none]) rfl ?_
                                exact ih14 m14 (e14 + 1) G14 hCG14 hXG14 hFG14 (⟨(by omega), (by exact hFIG14), (by exact hFAG14), (by exact hFBG14), (by exact hFfG14)⟩) (by omega)
                              · -- 197 to 200
                                refine s_aload_n dX2_link_200 rfl (Int.natCast_nonneg _) ?_
                                refine s_iload dX2_link_201 rfl ?_
                                refine s_iload dX2_link_203 rfl ?_
                                refine s_if_ne (tgt := 212) dX2_link_205 (by decide) (fun c59 => ?_) (fun c59 => ?_)
                                · -- 205 to 212
                                  refine s_aload_n dX2_link_212 rfl (Int.natCast_nonneg _) ?_
                                  refine s_aload dX2_link_213 rfl (Int.natCast_nonneg _) ?_
                                  have hk62 : gK G14 (327682) = (11, 0) := ((hXG14).k ((hXG12).k ((hXG9).k hk6 (by decide)) (by decide)) (by decide))
                                  refine s_callV (as := [(0, e14), (2, ((B : Nat) : Int)), (2, ((f : Nat) : Int))]) (rest := []) (n := 327682) (ci := 3) gX2_linkOne dX2_link_215 m_1315 m_930 m_1658 m_716 m_277 ⟨by decide, by decide, show (parseMethodDescriptor yX2_linkOne.desc).map (fun d => d.parameters.length) = some 3 from by decide +kernel⟩ (Nat.le_of_ble_eq_true rfl) (by rw [hcf]; exact Nat.le_of_ble_eq_true rfl) hk62 rfl rfl (Nat.le_of_ble_eq_true rfl) ⟨P, e14, B, f, a, b, rfl, hCG14, hab, (by omega), (by assumption), (by assumption), (by omega), (by exact hFIG14), (by exact hFBG14), (by exact hFfG14), fun rr61 G60 hCG60 hXG60 hfG60 hpG60 => ?_⟩
                                  have hFG60 : WX (fun x => (262144 ≤ x ∧ x < 262272) ∨ x = 327691 ∨ x = 327692 ∨ (f + 1 ≤ x ∧ x ≤ f + 22)) G G60 := WX.trans hFG14 (KX.trans (KX.trans (KX.trans (KX.trans hXG2 hXG4) hXG9) hXG12) hXG14) (WX.mono hfG60 (fun x hx => by omega))
                                  have hFIG60 : ∀ k : Nat, k < 6 → FIP P G60 262144 k := fun k hk => FIP.sm (hFIG14 k hk) hXG60 hfG60 (by show ¬ _; omega) (congrFun (hfG60 262149 (KX.al (KX.trans (KX.trans (KX.trans (KX.trans hXG2 hXG4) hXG9) hXG12) hXG14) (kne k262149 (by decide))) (by show ¬ _; omega)) k)
                                  have hFAG60 : FPa P G60 A := (hFAG14).wx hXG60 hfG60 ⟨KX.al (KX.trans (KX.trans (KX.trans (KX.trans hXG2 hXG4) hXG9) hXG12) hXG14) (kne kA3 (by decide)), KX.al (KX.trans (KX.trans (KX.trans (KX.trans hXG2 hXG4) hXG9) hXG12) hXG14) (kne kA4 (by decide))⟩ (by show ¬ _; omega) (by show ¬ _; omega) (fun p hp => by show ¬ _; omega)
                                  have hFBG60 : FPa P G60 B := (hFBG14).wx hXG60 hfG60 ⟨KX.al (KX.trans (KX.trans (KX.trans (KX.trans hXG2 hXG4) hXG9) hXG12) hXG14) (kne kB3 (by decide)), KX.al (KX.trans (KX.trans (KX.trans (KX.trans hXG2 hXG4) hXG9) hXG12) hXG14) (kne kB4 (by decide))⟩ (by show ¬ _; omega) (by show ¬ _; omega) (fun p hp => by show ¬ _; omega)
                                  have hFfG60 : FPa P G60 f := hpG60
                                  show WP kX2_link X 218 [some (2, ((327682 : Nat) : Int)), some (2, ((A : Nat) : Int)), some (2, ((B : Nat) : Int)), some (0, s), some (2, ((f : Nat) : Int)), some (0, m14), some (0, e14), some (0, z23)] [(0, rr61)] G60
                                  refine s_istore dX2_link_218 (by decide) (lv' := [some (2, ((327682 : Nat) : Int)), some (2, ((A : Nat) : Int)), some (2, ((B : Nat) : Int)), some (0, s), some (2, ((f : Nat) : Int)), some (0, rr61), some (0, e14), some (0, z23)]) rfl ?_
                                  refine s_iinc dX2_link_220 (v := e14) rfl (by omega) (by decide) (lv' := [some (2, ((327682 : Nat) : Int)), some (2, ((A : Nat) : Int)), some (2, ((B : Nat) : Int)), some (0, s), some (2, ((f : Nat) : Int)), some (0, rr61), some (0, e14 + 1), some (0, z23)]) rfl ?_
                                  refine s_goto (tgt := 123) dX2_link_223 (by decide) ?_
                                  refine s_mask [true, true, true, true, true, true, true, false] (lv' := [some (2, ((327682 : Nat) : Int)), some (2, ((A : Nat) : Int)), some (2, ((B : Nat) : Int)), some (0, s), some (2, ((f : Nat) : Int)), some (0, rr61), some (0, e14 + 1), none]) rfl ?_
                                  exact ih14 rr61 (e14 + 1) G60 hCG60 (KX.trans hXG14 hXG60) hFG60 (⟨(by omega), (by exact hFIG60), (by exact hFAG60), (by exact hFBG60), (by exact hFfG60)⟩) (by omega)
                                · -- 205 to 208
                                  refine s_aload_n dX2_link_208 rfl (Int.natCast_nonneg _) ?_
                                  refine s_goto (tgt := 213) dX2_link_209 (by decide) ?_
                                  refine s_aload dX2_link_213 rfl (Int.natCast_nonneg _) ?_
                                  have hk65 : gK G14 (327682) = (11, 0) := ((hXG14).k ((hXG12).k ((hXG9).k hk6 (by decide)) (by decide)) (by decide))
                                  refine s_callV (as := [(0, e14), (2, ((A : Nat) : Int)), (2, ((f : Nat) : Int))]) (rest := []) (n := 327682) (ci := 3) gX2_linkOne dX2_link_215 m_1315 m_930 m_1658 m_716 m_277 ⟨by decide, by decide, show (parseMethodDescriptor yX2_linkOne.desc).map (fun d => d.parameters.length) = some 3 from by decide +kernel⟩ (Nat.le_of_ble_eq_true rfl) (by rw [hcf]; exact Nat.le_of_ble_eq_true rfl) hk65 rfl rfl (Nat.le_of_ble_eq_true rfl) ⟨P, e14, A, f, a, b, rfl, hCG14, hab, (by omega), (by assumption), (by assumption), (by omega), (by exact hFIG14), (by exact hFAG14), (by exact hFfG14), fun rr64 G63 hCG63 hXG63 hfG63 hpG63 => ?_⟩
                                  have hFG63 : WX (fun x => (262144 ≤ x ∧ x < 262272) ∨ x = 327691 ∨ x = 327692 ∨ (f + 1 ≤ x ∧ x ≤ f + 22)) G G63 := WX.trans hFG14 (KX.trans (KX.trans (KX.trans (KX.trans hXG2 hXG4) hXG9) hXG12) hXG14) (WX.mono hfG63 (fun x hx => by omega))
                                  have hFIG63 : ∀ k : Nat, k < 6 → FIP P G63 262144 k := fun k hk => FIP.sm (hFIG14 k hk) hXG63 hfG63 (by show ¬ _; omega) (congrFun (hfG63 262149 (KX.al (KX.trans (KX.trans (KX.trans (KX.trans hXG2 hXG4) hXG9) hXG12) hXG14) (kne k262149 (by decide))) (by show ¬ _; omega)) k)
                                  have hFAG63 : FPa P G63 A := (hFAG14).wx hXG63 hfG63 ⟨KX.al (KX.trans (KX.trans (KX.trans (KX.trans hXG2 hXG4) hXG9) hXG12) hXG14) (kne kA3 (by decide)), KX.al (KX.trans (KX.trans (KX.trans (KX.trans hXG2 hXG4) hXG9) hXG12) hXG14) (kne kA4 (by decide))⟩ (by show ¬ _; omega) (by show ¬ _; omega) (fun p hp => by show ¬ _; omega)
                                  have hFBG63 : FPa P G63 B := (hFBG14).wx hXG63 hfG63 ⟨KX.al (KX.trans (KX.trans (KX.trans (KX.trans hXG2 hXG4) hXG9) hXG12) hXG14) (kne kB3 (by decide)), KX.al (KX.trans (KX.trans (KX.trans (KX.trans hXG2 hXG4) hXG9) hXG12) hXG14) (kne kB4 (by decide))⟩ (by show ¬ _; omega) (by show ¬ _; omega) (fun p hp => by show ¬ _; omega)
                                  have hFfG63 : FPa P G63 f := hpG63
                                  show WP kX2_link X 218 [some (2, ((327682 : Nat) : Int)), some (2, ((A : Nat) : Int)), some (2, ((B : Nat) : Int)), some (0, s), some (2, ((f : Nat) : Int)), some (0, m14), some (0, e14), some (0, z23)] [(0, rr64)] G63
                                  refine s_istore dX2_link_218 (by decide) (lv' := [some (2, ((327682 : Nat) : Int)), some (2, ((A : Nat) : Int)), some (2, ((B : Nat) : Int)), some (0, s), some (2, ((f : Nat) : Int)), some (0, rr64), some (0, e14), some (0, z23)]) rfl ?_
                                  refine s_iinc dX2_link_220 (v := e14) rfl (by omega) (by decide) (lv' := [some (2, ((327682 : Nat) : Int)), some (2, ((A : Nat) : Int)), some (2, ((B : Nat) : Int)), some (0, s), some (2, ((f : Nat) : Int)), some (0, rr64), some (0, e14 + 1), some (0, z23)]) rfl ?_
                                  refine s_goto (tgt := 123) dX2_link_223 (by decide) ?_
                                  refine s_mask [true, true, true, true, true, true, true, false] (lv' := [some (2, ((327682 : Nat) : Int)), some (2, ((A : Nat) : Int)), some (2, ((B : Nat) : Int)), some (0, s), some (2, ((f : Nat) : Int)), some (0, rr64), some (0, e14 + 1), none]) rfl ?_
                                  exact ih14 rr64 (e14 + 1) G63 hCG63 (KX.trans hXG14 hXG63) hFG63 (⟨(by omega), (by exact hFIG63), (by exact hFAG63), (by exact hFBG63), (by exact hFfG63)⟩) (by omega)
                          · -- 168 to 171
                            refine s_aload_n dX2_link_171 rfl (Int.natCast_nonneg _) ?_
                            refine s_iload dX2_link_172 rfl ?_
                            refine s_aload_n dX2_link_174 rfl (Int.natCast_nonneg _) ?_
                            refine s_aload_n dX2_link_175 rfl (Int.natCast_nonneg _) ?_
                            refine s_aload dX2_link_176 rfl (Int.natCast_nonneg _) ?_
                            have hk68 : gK G14 (327682) = (11, 0) := ((hXG14).k ((hXG12).k ((hXG9).k hk6 (by decide)) (by decide)) (by decide))
                            refine s_callV (as := [(0, e14), (2, ((A : Nat) : Int)), (2, ((B : Nat) : Int)), (2, ((f : Nat) : Int))]) (rest := []) (n := 327682) (ci := 3) gX2_linkBoth dX2_link_178 m_1314 m_929 m_1657 m_716 m_276 ⟨by decide, by decide, show (parseMethodDescriptor yX2_linkBoth.desc).map (fun d => d.parameters.length) = some 4 from by decide +kernel⟩ (Nat.le_of_ble_eq_true rfl) (by rw [hcf]; exact Nat.le_of_ble_eq_true rfl) hk68 rfl rfl (Nat.le_of_ble_eq_true rfl) ⟨P, e14, A, B, f, a, b, rfl, hCG14, hab, (by omega), (by assumption), (by assumption), (by assumption), (by omega), (by exact hFIG14), (by exact hFAG14), (by exact hFBG14), (by exact hFfG14), fun rr67 G66 hCG66 hXG66 hfG66 hpG66 => ?_⟩
                            have hFG66 : WX (fun x => (262144 ≤ x ∧ x < 262272) ∨ x = 327691 ∨ x = 327692 ∨ (f + 1 ≤ x ∧ x ≤ f + 22)) G G66 := WX.trans hFG14 (KX.trans (KX.trans (KX.trans (KX.trans hXG2 hXG4) hXG9) hXG12) hXG14) (WX.mono hfG66 (fun x hx => by omega))
                            have hFIG66 : ∀ k : Nat, k < 6 → FIP P G66 262144 k := fun k hk => FIP.sm (hFIG14 k hk) hXG66 hfG66 (by show ¬ _; omega) (congrFun (hfG66 262149 (KX.al (KX.trans (KX.trans (KX.trans (KX.trans hXG2 hXG4) hXG9) hXG12) hXG14) (kne k262149 (by decide))) (by show ¬ _; omega)) k)
                            have hFAG66 : FPa P G66 A := (hFAG14).wx hXG66 hfG66 ⟨KX.al (KX.trans (KX.trans (KX.trans (KX.trans hXG2 hXG4) hXG9) hXG12) hXG14) (kne kA3 (by decide)), KX.al (KX.trans (KX.trans (KX.trans (KX.trans hXG2 hXG4) hXG9) hXG12) hXG14) (kne kA4 (by decide))⟩ (by show ¬ _; omega) (by show ¬ _; omega) (fun p hp => by show ¬ _; omega)
                            have hFBG66 : FPa P G66 B := (hFBG14).wx hXG66 hfG66 ⟨KX.al (KX.trans (KX.trans (KX.trans (KX.trans hXG2 hXG4) hXG9) hXG12) hXG14) (kne kB3 (by decide)), KX.al (KX.trans (KX.trans (KX.trans (KX.trans hXG2 hXG4) hXG9) hXG12) hXG14) (kne kB4 (by decide))⟩ (by show ¬ _; omega) (by show ¬ _; omega) (fun p hp => by show ¬ _; omega)
                            have hFfG66 : FPa P G66 f := hpG66
                            show WP kX2_link X 181 [some (2, ((327682 : Nat) : Int)), some (2, ((A : Nat) : Int)), some (2, ((B : Nat) : Int)), some (0, s), some (2, ((f : Nat) : Int)), some (0, m14), some (0, e14), some (0, z23)] [(0, rr67)] G66
                            refine s_istore dX2_link_181 (by decide) (lv' := [some (2, ((327682 : Nat) : Int)), some (2, ((A : Nat) : Int)), some (2, ((B : Nat) : Int)), some (0, s), some (2, ((f : Nat) : Int)), some (0, rr67), some (0, e14), some (0, z23)]) rfl ?_
                            refine s_goto (tgt := 220) dX2_link_183 (by decide) ?_
                            refine s_iinc dX2_link_220 (v := e14) rfl (by omega) (by decide) (lv' := [some (2, ((327682 : Nat) : Int)), some (2, ((A : Nat) : Int)), some (2, ((B : Nat) : Int)), some (0, s), some (2, ((f : Nat) : Int)), some (0, rr67), some (0, e14 + 1), some (0, z23)]) rfl ?_
                            refine s_goto (tgt := 123) dX2_link_223 (by decide) ?_
                            refine s_mask [true, true, true, true, true, true, true, false] (lv' := [some (2, ((327682 : Nat) : Int)), some (2, ((A : Nat) : Int)), some (2, ((B : Nat) : Int)), some (0, s), some (2, ((f : Nat) : Int)), some (0, rr67), some (0, e14 + 1), none]) rfl ?_
                            exact ih14 rr67 (e14 + 1) G66 hCG66 (KX.trans hXG14 hXG66) hFG66 (⟨(by omega), (by exact hFIG66), (by exact hFAG66), (by exact hFBG66), (by exact hFfG66)⟩) (by omega)
                      refine s_if_eq (tgt := 154) dX2_link_141 (by decide) (fun c69 => ?_) (fun c69 => ?_)
                      · -- 141 to 154
                        refine s_iconst dX2_link_154 (by decide) ?_
                        exact J24 0 (Or.inl ⟨c69, rfl⟩)
                      · -- 141 to 144
                        refine s_aload_n dX2_link_144 rfl (Int.natCast_nonneg _) ?_
                        have hk70 : gK G14 (B) = (9, 0) := ((hXG14).k ((hXG12).k ((hXG9).k ((hXG4).k ((hXG2).k kB0 (by decide)) (by decide)) (by decide)) (by decide)) (by decide))
                        refine s_alv (B) (by simp) (fun al71 => ?_)
                        have hv72 : gS G14 B 2 = ((B + 2 : Nat) : Int) := by have h9 : (gS G14 B 2) = (((B % 1048576) + 2 : Nat) : Int) := hCG14.1.v (j := 2) (by rw [cde_n (by omega) (by omega)]; omega : cde B = 101) al71 (by rw [hk70]; exact Nat.le_of_ble_eq_true rfl); omega
                        refine s_getf (ci := 1) (k := 2) (C := RX0) (T := TX0) (N := 7) (n := B) (L := 0) (t := 2) dX2_link_145 rfl wi_65 m_576 (Nat.le_of_ble_eq_true rfl) rfl rfl hk70 hv72 ?_
                        refine s_iload dX2_link_148 rfl ?_
                        have hk73 : gK G14 (B + 2) = (1, 10) := ((hXG14).k ((hXG12).k ((hXG9).k ((hXG4).k ((hXG2).k kB2 (by decide)) (by decide)) (by decide)) (by decide)) (by decide))
                        refine s_iald dX2_link_150 hk73 (by omega) (by omega) rfl ?_
                        refine s_goto (tgt := 155) dX2_link_151 (by decide) ?_
                        exact J24 _ (Or.inr (⟨c69, rfl⟩))
              exact L14 _ m12 0 G12 hCG12 KX.rf hFG12 (⟨(by omega), (by exact hFIG12), (by exact hFAG12), (by exact hFBG12), (by exact hFfG12)⟩) (Nat.lt_succ_self _)
            · -- 94 to 97
              refine s_iload dX2_link_97 rfl ?_
              refine s_if_ne (tgt := 120) dX2_link_99 (by decide) (fun c74 => ?_) (fun c74 => ?_)
              · -- 99 to 120
                refine s_iconst dX2_link_120 (by decide) ?_
                refine s_istore dX2_link_121 (by decide) (lv' := [some (2, ((327682 : Nat) : Int)), some (2, ((A : Nat) : Int)), some (2, ((B : Nat) : Int)), some (0, s), some (2, ((f : Nat) : Int)), some (0, m12), some (0, 0), none]) rfl ?_
                have L75 : ∀ (n75 : Nat) (m75 : Int) (e75 : Int) (G75 : LG), CI a b G75 → KX G12 G75 → WX (fun x => (262144 ≤ x ∧ x < 262272) ∨ x = 327691 ∨ x = 327692 ∨ (f + 1 ≤ x ∧ x ≤ f + 22)) G G75 → ((0 ≤ e75 ∧ e75 ≤ 10) ∧ (∀ k : Nat, k < 6 → FIP P G75 262144 k) ∧ (FPa P G75 A) ∧ (FPa P G75 B) ∧ (FPa P G75 f)) → (10 - e75).toNat < n75 → WP kX2_link X 123 [some (2, ((327682 : Nat) : Int)), some (2, ((A : Nat) : Int)), some (2, ((B : Nat) : Int)), some (0, s), some (2, ((f : Nat) : Int)), some (0, m75), some (0, e75), none] [] G75 := by
                  intro n75
                  induction n75 with
                  | zero => intro m75 e75 G75 hCG75 hXG75 hFG75 hi75 hm75; exact absurd hm75 (Nat.not_lt_zero _)
                  | succ n75 ih75 =>
                    intro m75 e75 G75 hCG75 hXG75 hFG75 hi75 hm75
                    have hj75 := hi75
                    obtain ⟨ie75, hFIG75, hFAG75, hFBG75, hFfG75⟩ := hi75
                    refine s_iload dX2_link_123 rfl ?_
                    refine s_bipush dX2_link_125 rfl (by decide) ?_
                    refine s_icmp_ge (tgt := 226) dX2_link_127 (by decide) (fun c76 => ?_) (fun c76 => ?_)
                    · -- 127 to 226
                      refine s_iload dX2_link_226 rfl ?_
                      exact s_iret hR dX2_link_228 rfl (hQ m75 G75 hCG75 (KX.trans (KX.trans (KX.trans (KX.trans hXG2 hXG4) hXG9) hXG12) hXG75) hFG75 hFfG75)
                    · -- 127 to 130
                      refine s_iload dX2_link_130 rfl ?_
                      refine s_if_ne (tgt := 226) dX2_link_132 (by decide) (fun c77 => ?_) (fun c77 => ?_)
                      · -- 132 to 226
                        refine s_iload dX2_link_226 rfl ?_
                        exact s_iret hR dX2_link_228 rfl (hQ m75 G75 hCG75 (KX.trans (KX.trans (KX.trans (KX.trans hXG2 hXG4) hXG9) hXG12) hXG75) hFG75 hFfG75)
                      · -- 132 to 135
                        refine s_iload_n dX2_link_135 rfl ?_
                        refine s_iload dX2_link_136 rfl ?_
                        refine s_callSN (own := RX2) rfl (by decide +kernel) (as := [(0, s), (0, e75)]) (rest := []) gX11_isIn dX2_link_138 m_1777 m_714 m_97 ⟨by decide, by decide, show (parseMethodDescriptor yX11_isIn.desc).map (fun d => d.parameters.length) = some 2 from by decide +kernel⟩ (Nat.le_of_ble_eq_true rfl) (by rw [hcf]; exact Nat.le_of_ble_eq_true rfl) rfl (Nat.le_of_ble_eq_true rfl) ⟨s, e75, rfl, fun rr78 hp79 => ?_⟩
                        show WP kX2_link X 141 [some (2, ((327682 : Nat) : Int)), some (2, ((A : Nat) : Int)), some (2, ((B : Nat) : Int)), some (0, s), some (2, ((f : Nat) : Int)), some (0, m75), some (0, e75), none] [(0, rr78)] G75
                        have J85 : ∀ z84 : Int, ((rr78 = 0) ∧ z84 = 0) ∨ ((¬ rr78 = 0) ∧ z84 = gS G75 (B + 2) ((e75 : Int).toNat)) → WP kX2_link X 155 [some (2, ((327682 : Nat) : Int)), some (2, ((A : Nat) : Int)), some (2, ((B : Nat) : Int)), some (0, s), some (2, ((f : Nat) : Int)), some (0, m75), some (0, e75), none] [(0, z84)] G75 := by
                          intro z84 hz84
                          refine s_istore dX2_link_155 (by decide) (lv' := [some (2, ((327682 : Nat) : Int)), some (2, ((A : Nat) : Int)), some (2, ((B : Nat) : Int)), some (0, s), some (2, ((f : Nat) : Int)), some (0, m75), some (0, e75), some (0, z84)]) rfl ?_
                          refine s_aload_n dX2_link_157 rfl (Int.natCast_nonneg _) ?_
                          refine s_iload dX2_link_158 rfl ?_
                          have hk88 : gK G75 (A) = (9, 0) := ((hXG75).k ((hXG12).k ((hXG9).k ((hXG4).k ((hXG2).k kA0 (by decide)) (by decide)) (by decide)) (by decide)) (by decide))
                          refine s_callV (as := [(0, e75)]) (rest := []) (n := A) (ci := 1) gX0_hasValue dX2_link_160 m_1313 m_739 m_1473 m_711 m_66 ⟨by decide, by decide, show (parseMethodDescriptor yX0_hasValue.desc).map (fun d => d.parameters.length) = some 1 from by decide +kernel⟩ (Nat.le_of_ble_eq_true rfl) (by rw [hcf]; exact Nat.le_of_ble_eq_true rfl) hk88 rfl rfl (Nat.le_of_ble_eq_true rfl) ⟨A, e75, a, b, rfl, hCG75, hab, (by first | assumption | omega), (by first | assumption | omega), fun rr86 hp87 => ?_⟩
                          show WP kX2_link X 163 [some (2, ((327682 : Nat) : Int)), some (2, ((A : Nat) : Int)), some (2, ((B : Nat) : Int)), some (0, s), some (2, ((f : Nat) : Int)), some (0, m75), some (0, e75), some (0, z84)] [(0, rr86)] G75
                          refine s_if_eq (tgt := 186) dX2_link_163 (by decide) (fun c89 => ?_) (fun c89 => ?_)
                          · -- 163 to 186
                            refine s_aload_n dX2_link_186 rfl (Int.natCast_nonneg _) ?_
                            refine s_iload dX2_link_187 rfl ?_
                            refine s_callV (as := [(0, e75)]) (rest := []) (n := A) (ci := 1) gX0_hasValue dX2_link_189 m_1313 m_739 m_1473 m_711 m_66 ⟨by decide, by decide, show (parseMethodDescriptor yX0_hasValue.desc).map (fun d => d.parameters.length) = some 1 from by decide +kernel⟩ (Nat.le_of_ble_eq_true rfl) (by rw [hcf]; exact Nat.le_of_ble_eq_true rfl) hk88 rfl rfl (Nat.le_of_ble_eq_true rfl) ⟨A, e75, a, b, rfl, hCG75, hab, (by first | assumption | omega), (by first | assumption | omega), fun rr90 hp91 => ?_⟩
                            show WP kX2_link X 192 [some (2, ((327682 : Nat) : Int)), some (2, ((A : Nat) : Int)), some (2, ((B : Nat) : Int)), some (0, s), some (2, ((f : Nat) : Int)), some (0, m75), some (0, e75), some (0, z84)] [(0, rr90)] G75
                            refine s_if_ne (tgt := 200) dX2_link_192 (by decide) (fun c92 => ?_) (fun c92 => ?_)
                            · -- 192 to 200
                              refine s_aload_n dX2_link_200 rfl (Int.natCast_nonneg _) ?_
                              refine s_iload dX2_link_201 rfl ?_
                              refine s_iload dX2_link_203 rfl ?_
                              refine s_if_ne (tgt := 212) dX2_link_205 (by decide) (fun c93 => ?_) (fun c93 => ?_)
                              · -- 205 to 212
                                refine s_aload_n dX2_link_212 rfl (Int.natCast_nonneg _) ?_
                                refine s_aload dX2_link_213 rfl (Int.natCast_nonneg _) ?_
                                have hk96 : gK G75 (327682) = (11, 0) := ((hXG75).k ((hXG12).k ((hXG9).k hk6 (by decide)) (by decide)) (by decide))
                                refine s_callV (as := [(0, e75), (2, ((B : Nat) : Int)), (2, ((f : Nat) : Int))]) (rest := []) (n := 327682) (ci := 3) gX2_linkOne dX2_link_215 m_1315 m_930 m_1658 m_716 m_277 ⟨by decide, by decide, show (parseMethodDescriptor yX2_linkOne.desc).map (fun d => d.parameters.length) = some 3 from by decide +kernel⟩ (Nat.le_of_ble_eq_true rfl) (by rw [hcf]; exact Nat.le_of_ble_eq_true rfl) hk96 rfl rfl (Nat.le_of_ble_eq_true rfl) ⟨P, e75, B, f, a, b, rfl, hCG75, hab, (by omega), (by assumption), (by assumption), (by omega), (by exact hFIG75), (by exact hFBG75), (by exact hFfG75), fun rr95 G94 hCG94 hXG94 hfG94 hpG94 => ?_⟩
                                have hFG94 : WX (fun x => (262144 ≤ x ∧ x < 262272) ∨ x = 327691 ∨ x = 327692 ∨ (f + 1 ≤ x ∧ x ≤ f + 22)) G G94 := WX.trans hFG75 (KX.trans (KX.trans (KX.trans (KX.trans hXG2 hXG4) hXG9) hXG12) hXG75) (WX.mono hfG94 (fun x hx => by omega))
                                have hFIG94 : ∀ k : Nat, k < 6 → FIP P G94 262144 k := fun k hk => FIP.sm (hFIG75 k hk) hXG94 hfG94 (by show ¬ _; omega) (congrFun (hfG94 262149 (KX.al (KX.trans (KX.trans (KX.trans (KX.trans hXG2 hXG4) hXG9) hXG12) hXG75) (kne k262149 (by decide))) (by show ¬ _; omega)) k)
                                have hFAG94 : FPa P G94 A := (hFAG75).wx hXG94 hfG94 ⟨KX.al (KX.trans (KX.trans (KX.trans (KX.trans hXG2 hXG4) hXG9) hXG12) hXG75) (kne kA3 (by decide)), KX.al (KX.trans (KX.trans (KX.trans (KX.trans hXG2 hXG4) hXG9) hXG12) hXG75) (kne kA4 (by decide))⟩ (by show ¬ _; omega) (by show ¬ _; omega) (fun p hp => by show ¬ _; omega)
                                have hFBG94 : FPa P G94 B := (hFBG75).wx hXG94 hfG94 ⟨KX.al (KX.trans (KX.trans (KX.trans (KX.trans hXG2 hXG4) hXG9) hXG12) hXG75) (kne kB3 (by decide)), KX.al (KX.trans (KX.trans (KX.trans (KX.trans hXG2 hXG4) hXG9) hXG12) hXG75) (kne kB4 (by decide))⟩ (by show ¬ _; omega) (by show ¬ _; omega) (fun p hp => by show ¬ _; omega)
                                have hFfG94 : FPa P G94 f := hpG94
                                show WP kX2_link X 218 [some (2, ((327682 : Nat) : Int)), some (2, ((A : Nat) : Int)), some (2, ((B : Nat) : Int)), some (0, s), some (2, ((f : Nat) : Int)), some (0, m75), some (0, e75), some (0, z84)] [(0, rr95)] G94
                                refine s_istore dX2_link_218 (by decide) (lv' := [some (2, ((327682 : Nat) : Int)), some (2, ((A : Nat) : Int)), some (2, ((B : Nat) : Int)), some (0, s), some (2, ((f : Nat) : Int)), some (0, rr95), some (0, e75), some (0, z84)]) rfl ?_
                                refine s_iinc dX2_link_220 (v := e75) rfl (by omega) (by decide) (lv' := [some (2, ((327682 : Nat) : Int)), some (2, ((A : Nat) : Int)), some (2, ((B : Nat) : Int)), some (0, s), some (2, ((f : Nat) : Int)), some (0, rr95), some (0, e75 + 1), some (0, z84)]) rfl ?_
                                refine s_goto (tgt := 123) dX2_link_223 (by decide) ?_
                                refine s_mask [true, true, true, true, true, true, true, false] (lv' := [some (2, ((327682 : Nat) : Int)), some (2, ((A : Nat) : Int)), some (2, ((B : Nat) : Int)), some (0, s), some (2, ((f : Nat) : Int)), some (0, rr95), some (0, e75 + 1), none]) rfl ?_
                                exact ih75 rr95 (e75 + 1) G94 hCG94 (KX.trans hXG75 hXG94) hFG94 (⟨(by omega), (by exact hFIG94), (by exact hFAG94), (by exact hFBG94), (by exact hFfG94)⟩) (by omega)
                              · -- 205 to 208
                                refine s_aload_n dX2_link_208 rfl (Int.natCast_nonneg _) ?_
                                refine s_goto (tgt := 213) dX2_link_209 (by decide) ?_
                                refine s_aload dX2_link_213 rfl (Int.natCast_nonneg _) ?_
                                have hk99 : gK G75 (327682) = (11, 0) := ((hXG75).k ((hXG12).k ((hXG9).k hk6 (by decide)) (by decide)) (by decide))
                                refine s_callV (as := [(0, e75), (2, ((A : Nat) : Int)), (2, ((f : Nat) : Int))]) (rest := []) (n := 327682) (ci := 3) gX2_linkOne dX2_link_215 m_1315 m_930 m_1658 m_716 m_277 ⟨by decide, by decide, show (parseMethodDescriptor yX2_linkOne.desc).map (fun d => d.parameters.length) = some 3 from by decide +kernel⟩ (Nat.le_of_ble_eq_true rfl) (by rw [hcf]; exact Nat.le_of_ble_eq_true rfl) hk99 rfl rfl (Nat.le_of_ble_eq_true rfl) ⟨P, e75, A, f, a, b, rfl, hCG75, hab, (by omega), (by assumption), (by assumption), (by omega), (by exact hFIG75), (by exact hFAG75), (by exact hFfG75), fun rr98 G97 hCG97 hXG97 hfG97 hpG97 => ?_⟩
                                have hFG97 : WX (fun x => (262144 ≤ x ∧ x < 262272) ∨ x = 327691 ∨ x = 327692 ∨ (f + 1 ≤ x ∧ x ≤ f + 22)) G G97 := WX.trans hFG75 (KX.trans (KX.trans (KX.trans (KX.trans hXG2 hXG4) hXG9) hXG12) hXG75) (WX.mono hfG97 (fun x hx => by omega))
                                have hFIG97 : ∀ k : Nat, k < 6 → FIP P G97 262144 k := fun k hk => FIP.sm (hFIG75 k hk) hXG97 hfG97 (by show ¬ _; omega) (congrFun (hfG97 262149 (KX.al (KX.trans (KX.trans (KX.trans (KX.trans hXG2 hXG4) hXG9) hXG12) hXG75) (kne k262149 (by decide))) (by show ¬ _; omega)) k)
                                have hFAG97 : FPa P G97 A := (hFAG75).wx hXG97 hfG97 ⟨KX.al (KX.trans (KX.trans (KX.trans (KX.trans hXG2 hXG4) hXG9) hXG12) hXG75) (kne kA3 (by decide)), KX.al (KX.trans (KX.trans (KX.trans (KX.trans hXG2 hXG4) hXG9) hXG12) hXG75) (kne kA4 (by decide))⟩ (by show ¬ _; omega) (by show ¬ _; omega) (fun p hp => by show ¬ _; omega)
                                have hFBG97 : FPa P G97 B := (hFBG75).wx hXG97 hfG97 ⟨KX.al (KX.trans (KX.trans (KX.trans (KX.trans hXG2 hXG4) hXG9) hXG12) hXG75) (kne kB3 (by decide)), KX.al (KX.trans (KX.trans (KX.trans (KX.trans hXG2 hXG4) hXG9) hXG12) hXG75) (kne kB4 (by decide))⟩ (by show ¬ _; omega) (by show ¬ _; omega) (fun p hp => by show ¬ _; omega)
                                have hFfG97 : FPa P G97 f := hpG97
                                show WP kX2_link X 218 [some (2, ((327682 : Nat) : Int)), some (2, ((A : Nat) : Int)), some (2, ((B : Nat) : Int)), some (0, s), some (2, ((f : Nat) : Int)), some (0, m75), some (0, e75), some (0, z84)] [(0, rr98)] G97
                                refine s_istore dX2_link_218 (by decide) (lv' := [some (2, ((327682 : Nat) : Int)), some (2, ((A : Nat) : Int)), some (2, ((B : Nat) : Int)), some (0, s), some (2, ((f : Nat) : Int)), some (0, rr98), some (0, e75), some (0, z84)]) rfl ?_
                                refine s_iinc dX2_link_220 (v := e75) rfl (by omega) (by decide) (lv' := [some (2, ((327682 : Nat) : Int)), some (2, ((A : Nat) : Int)), some (2, ((B : Nat) : Int)), some (0, s), some (2, ((f : Nat) : Int)), some (0, rr98), some (0, e75 + 1), some (0, z84)]) rfl ?_
                                refine s_goto (tgt := 123) dX2_link_223 (by decide) ?_
                                refine s_mask [true, true, true, true, true, true, true, false] (lv' := [some (2, ((327682 : Nat) : Int)), some (2, ((A : Nat) : Int)), some (2, ((B : Nat) : Int)), some (0, s), some (2, ((f : Nat) : Int)), some (0, rr98), some (0, e75 + 1), none]) rfl ?_
                                exact ih75 rr98 (e75 + 1) G97 hCG97 (KX.trans hXG75 hXG97) hFG97 (⟨(by omega), (by exact hFIG97), (by exact hFAG97), (by exact hFBG97), (by exact hFfG97)⟩) (by omega)
                            · -- 192 to 195
                              refine s_iload dX2_link_195 rfl ?_
                              refine s_if_eq (tgt := 220) dX2_link_197 (by decide) (fun c100 => ?_) (fun c100 => ?_)
                              · -- 197 to 220
                                refine s_iinc dX2_link_220 (v := e75) rfl (by omega) (by decide) (lv' := [some (2, ((327682 : Nat) : Int)), some (2, ((A : Nat) : Int)), some (2, ((B : Nat) : Int)), some (0, s), some (2, ((f : Nat) : Int)), some (0, m75), some (0, e75 + 1), some (0, z84)]) rfl ?_
                                refine s_goto (tgt := 123) dX2_link_223 (by decide) ?_
                                refine s_mask [true, true, true, true, true, true, true, false] (lv' := [some (2, ((327682 : Nat) : Int)), some (2, ((A : Nat) : Int)), some (2, ((B : Nat) : Int)), some (0, s), some (2, ((f : Nat) : Int)), some (0, m75), some (0, e75 + 1), none]) rfl ?_
                                exact ih75 m75 (e75 + 1) G75 hCG75 hXG75 hFG75 (⟨(by omega), (by exact hFIG75), (by exact hFAG75), (by exact hFBG75), (by exact hFfG75)⟩) (by omega)
                              · -- 197 to 200
                                refine s_aload_n dX2_link_200 rfl (Int.natCast_nonneg _) ?_
                                refine s_iload dX2_link_201 rfl ?_
                                refine s_iload dX2_link_203 rfl ?_
                                refine s_if_ne (tgt := 212) dX2_link_205 (by decide) (fun c101 => ?_) (fun c101 => ?_)
                                · -- 205 to 212
                                  refine s_aload_n dX2_link_212 rfl (Int.natCast_nonneg _) ?_
                                  refine s_aload dX2_link_213 rfl (Int.natCast_nonneg _) ?_
                                  have hk104 : gK G75 (327682) = (11, 0) := ((hXG75).k ((hXG12).k ((hXG9).k hk6 (by decide)) (by decide)) (by decide))
                                  refine s_callV (as := [(0, e75), (2, ((B : Nat) : Int)), (2, ((f : Nat) : Int))]) (rest := []) (n := 327682) (ci := 3) gX2_linkOne dX2_link_215 m_1315 m_930 m_1658 m_716 m_277 ⟨by decide, by decide, show (parseMethodDescriptor yX2_linkOne.desc).map (fun d => d.parameters.length) = some 3 from by decide +kernel⟩ (Nat.le_of_ble_eq_true rfl) (by rw [hcf]; exact Nat.le_of_ble_eq_true rfl) hk104 rfl rfl (Nat.le_of_ble_eq_true rfl) ⟨P, e75, B, f, a, b, rfl, hCG75, hab, (by omega), (by assumption), (by assumption), (by omega), (by exact hFIG75), (by exact hFBG75), (by exact hFfG75), fun rr103 G102 hCG102 hXG102 hfG102 hpG102 => ?_⟩
                                  have hFG102 : WX (fun x => (262144 ≤ x ∧ x < 262272) ∨ x = 327691 ∨ x = 327692 ∨ (f + 1 ≤ x ∧ x ≤ f + 22)) G G102 := WX.trans hFG75 (KX.trans (KX.trans (KX.trans (KX.trans hXG2 hXG4) hXG9) hXG12) hXG75) (WX.mono hfG102 (fun x hx => by omega))
                                  have hFIG102 : ∀ k : Nat, k < 6 → FIP P G102 262144 k := fun k hk => FIP.sm (hFIG75 k hk) hXG102 hfG102 (by show ¬ _; omega) (congrFun (hfG102 262149 (KX.al (KX.trans (KX.trans (KX.trans (KX.trans hXG2 hXG4) hXG9) hXG12) hXG75) (kne k262149 (by decide))) (by show ¬ _; omega)) k)
                                  have hFAG102 : FPa P G102 A := (hFAG75).wx hXG102 hfG102 ⟨KX.al (KX.trans (KX.trans (KX.trans (KX.trans hXG2 hXG4) hXG9) hXG12) hXG75) (kne kA3 (by decide)), KX.al (KX.trans (KX.trans (KX.trans (KX.trans hXG2 hXG4) hXG9) hXG12) hXG75) (kne kA4 (by decide))⟩ (by show ¬ _; omega) (by show ¬ _; omega) (fun p hp => by show ¬ _; omega)
                                  have hFBG102 : FPa P G102 B := (hFBG75).wx hXG102 hfG102 ⟨KX.al (KX.trans (KX.trans (KX.trans (KX.trans hXG2 hXG4) hXG9) hXG12) hXG75) (kne kB3 (by decide)), KX.al (KX.trans (KX.trans (KX.trans (KX.trans hXG2 hXG4) hXG9) hXG12) hXG75) (kne kB4 (by decide))⟩ (by show ¬ _; omega) (by show ¬ _; omega) (fun p hp => by show ¬ _; omega)
                                  have hFfG102 : FPa P G102 f := hpG102
                                  show WP kX2_link X 218 [some (2, ((327682 : Nat) : Int)), some (2, ((A : Nat) : Int)), some (2, ((B : Nat) : Int)), some (0, s), some (2, ((f : Nat) : Int)), some (0, m75), some (0, e75), some (0, z84)] [(0, rr103)] G102
                                  refine s_istore dX2_link_218 (by decide) (lv' := [some (2, ((327682 : Nat) : Int)), some (2, ((A : Nat) : Int)), some (2, ((B : Nat) : Int)), some (0, s), some (2, ((f : Nat) : Int)), some (0, rr103), some (0, e75), some (0, z84)]) rfl ?_
                                  refine s_iinc dX2_link_220 (v := e75) rfl (by omega) (by decide) (lv' := [some (2, ((327682 : Nat) : Int)), some (2, ((A : Nat) : Int)), some (2, ((B : Nat) : Int)), some (0, s), some (2, ((f : Nat) : Int)), some (0, rr103), some (0, e75 + 1), some (0, z84)]) rfl ?_
                                  refine s_goto (tgt := 123) dX2_link_223 (by decide) ?_
                                  refine s_mask [true, true, true, true, true, true, true, false] (lv' := [some (2, ((327682 : Nat) : Int)), some (2, ((A : Nat) : Int)), some (2, ((B : Nat) : Int)), some (0, s), some (2, ((f : Nat) : Int)), some (0, rr103), some (0, e75 + 1), none]) rfl ?_
                                  exact ih75 rr103 (e75 + 1) G102 hCG102 (KX.trans hXG75 hXG102) hFG102 (⟨(by omega), (by exact hFIG102), (by exact hFAG102), (by exact hFBG102), (by exact hFfG102)⟩) (by omega)
                                · -- 205 to 208
                                  refine s_aload_n dX2_link_208 rfl (Int.natCast_nonneg _) ?_
                                  refine s_goto (tgt := 213) dX2_link_209 (by decide) ?_
                                  refine s_aload dX2_link_213 rfl (Int.natCast_nonneg _) ?_
                                  have hk107 : gK G75 (327682) = (11, 0) := ((hXG75).k ((hXG12).k ((hXG9).k hk6 (by decide)) (by decide)) (by decide))
                                  refine s_callV (as := [(0, e75), (2, ((A : Nat) : Int)), (2, ((f : Nat) : Int))]) (rest := []) (n := 327682) (ci := 3) gX2_linkOne dX2_link_215 m_1315 m_930 m_1658 m_716 m_277 ⟨by decide, by decide, show (parseMethodDescriptor yX2_linkOne.desc).map (fun d => d.parameters.length) = some 3 from by decide +kernel⟩ (Nat.le_of_ble_eq_true rfl) (by rw [hcf]; exact Nat.le_of_ble_eq_true rfl) hk107 rfl rfl (Nat.le_of_ble_eq_true rfl) ⟨P, e75, A, f, a, b, rfl, hCG75, hab, (by omega), (by assumption), (by assumption), (by omega), (by exact hFIG75), (by exact hFAG75), (by exact hFfG75), fun rr106 G105 hCG105 hXG105 hfG105 hpG105 => ?_⟩
                                  have hFG105 : WX (fun x => (262144 ≤ x ∧ x < 262272) ∨ x = 327691 ∨ x = 327692 ∨ (f + 1 ≤ x ∧ x ≤ f + 22)) G G105 := WX.trans hFG75 (KX.trans (KX.trans (KX.trans (KX.trans hXG2 hXG4) hXG9) hXG12) hXG75) (WX.mono hfG105 (fun x hx => by omega))
                                  have hFIG105 : ∀ k : Nat, k < 6 → FIP P G105 262144 k := fun k hk => FIP.sm (hFIG75 k hk) hXG105 hfG105 (by show ¬ _; omega) (congrFun (hfG105 262149 (KX.al (KX.trans (KX.trans (KX.trans (KX.trans hXG2 hXG4) hXG9) hXG12) hXG75) (kne k262149 (by decide))) (by show ¬ _; omega)) k)
                                  have hFAG105 : FPa P G105 A := (hFAG75).wx hXG105 hfG105 ⟨KX.al (KX.trans (KX.trans (KX.trans (KX.trans hXG2 hXG4) hXG9) hXG12) hXG75) (kne kA3 (by decide)), KX.al (KX.trans (KX.trans (KX.trans (KX.trans hXG2 hXG4) hXG9) hXG12) hXG75) (kne kA4 (by decide))⟩ (by show ¬ _; omega) (by show ¬ _; omega) (fun p hp => by show ¬ _; omega)
                                  have hFBG105 : FPa P G105 B := (hFBG75).wx hXG105 hfG105 ⟨KX.al (KX.trans (KX.trans (KX.trans (KX.trans hXG2 hXG4) hXG9) hXG12) hXG75) (kne kB3 (by decide)), KX.al (KX.trans (KX.trans (KX.trans (KX.trans hXG2 hXG4) hXG9) hXG12) hXG75) (kne kB4 (by decide))⟩ (by show ¬ _; omega) (by show ¬ _; omega) (fun p hp => by show ¬ _; omega)
                                  have hFfG105 : FPa P G105 f := hpG105
                                  show WP kX2_link X 218 [some (2, ((327682 : Nat) : Int)), some (2, ((A : Nat) : Int)), some (2, ((B : Nat) : Int)), some (0, s), some (2, ((f : Nat) : Int)), some (0, m75), some (0, e75), some (0, z84)] [(0, rr106)] G105
                                  refine s_istore dX2_link_218 (by decide) (lv' := [some (2, ((327682 : Nat) : Int)), some (2, ((A : Nat) : Int)), some (2, ((B : Nat) : Int)), some (0, s), some (2, ((f : Nat) : Int)), some (0, rr106), some (0, e75), some (0, z84)]) rfl ?_
                                  refine s_iinc dX2_link_220 (v := e75) rfl (by omega) (by decide) (lv' := [some (2, ((327682 : Nat) : Int)), some (2, ((A : Nat) : Int)), some (2, ((B : Nat) : Int)), some (0, s), some (2, ((f : Nat) : Int)), some (0, rr106), some (0, e75 + 1), some (0, z84)]) rfl ?_
                                  refine s_goto (tgt := 123) dX2_link_223 (by decide) ?_
                                  refine s_mask [true, true, true, true, true, true, true, false] (lv' := [some (2, ((327682 : Nat) : Int)), some (2, ((A : Nat) : Int)), some (2, ((B : Nat) : Int)), some (0, s), some (2, ((f : Nat) : Int)), some (0, rr106), some (0, e75 + 1), none]) rfl ?_
                                  exact ih75 rr106 (e75 + 1) G105 hCG105 (KX.trans hXG75 hXG105) hFG105 (⟨(by omega), (by exact hFIG105), (by exact hFAG105), (by exact hFBG105), (by exact hFfG105)⟩) (by omega)
                          · -- 163 to 166
                            refine s_iload dX2_link_166 rfl ?_
                            refine s_if_eq (tgt := 186) dX2_link_168 (by decide) (fun c108 => ?_) (fun c108 => ?_)
                            · -- 168 to 186
                              refine s_aload_n dX2_link_186 rfl (Int.natCast_nonneg _) ?_
                              refine s_iload dX2_link_187 rfl ?_
                              refine s_callV (as := [(0, e75)]) (rest := []) (n := A) (ci := 1) gX0_hasValue dX2_link_189 m_1313 m_739 m_1473 m_711 m_66 ⟨by decide, by decide, show (parseMethodDescriptor yX0_hasValue.desc).map (fun d => d.parameters.length) = some 1 from by decide +kernel⟩ (Nat.le_of_ble_eq_true rfl) (by rw [hcf]; exact Nat.le_of_ble_eq_true rfl) hk88 rfl rfl (Nat.le_of_ble_eq_true rfl) ⟨A, e75, a, b, rfl, hCG75, hab, (by first | assumption | omega), (by first | assumption | omega), fun rr109 hp110 => ?_⟩
                              show WP kX2_link X 192 [some (2, ((327682 : Nat) : Int)), some (2, ((A : Nat) : Int)), some (2, ((B : Nat) : Int)), some (0, s), some (2, ((f : Nat) : Int)), some (0, m75), some (0, e75), some (0, z84)] [(0, rr109)] G75
                              refine s_if_ne (tgt := 200) dX2_link_192 (by decide) (fun c111 => ?_) (fun c111 => ?_)
                              · -- 192 to 200
                                refine s_aload_n dX2_link_200 rfl (Int.natCast_nonneg _) ?_
                                refine s_iload dX2_link_201 rfl ?_
                                refine s_iload dX2_link_203 rfl ?_
                                refine s_if_ne (tgt := 212) dX2_link_205 (by decide) (fun c112 => ?_) (fun c112 => ?_)
                                · -- 205 to 212
                                  refine s_aload_n dX2_link_212 rfl (Int.natCast_nonneg _) ?_
                                  refine s_aload dX2_link_213 rfl (Int.natCast_nonneg _) ?_
                                  have hk115 : gK G75 (327682) = (11, 0) := ((hXG75).k ((hXG12).k ((hXG9).k hk6 (by decide)) (by decide)) (by decide))
                                  refine s_callV (as := [(0, e75), (2, ((B : Nat) : Int)), (2, ((f : Nat) : Int))]) (rest := []) (n := 327682) (ci := 3) gX2_linkOne dX2_link_215 m_1315 m_930 m_1658 m_716 m_277 ⟨by decide, by decide, show (parseMethodDescriptor yX2_linkOne.desc).map (fun d => d.parameters.length) = some 3 from by decide +kernel⟩ (Nat.le_of_ble_eq_true rfl) (by rw [hcf]; exact Nat.le_of_ble_eq_true rfl) hk115 rfl rfl (Nat.le_of_ble_eq_true rfl) ⟨P, e75, B, f, a, b, rfl, hCG75, hab, (by omega), (by assumption), (by assumption), (by omega), (by exact hFIG75), (by exact hFBG75), (by exact hFfG75), fun rr114 G113 hCG113 hXG113 hfG113 hpG113 => ?_⟩
                                  have hFG113 : WX (fun x => (262144 ≤ x ∧ x < 262272) ∨ x = 327691 ∨ x = 327692 ∨ (f + 1 ≤ x ∧ x ≤ f + 22)) G G113 := WX.trans hFG75 (KX.trans (KX.trans (KX.trans (KX.trans hXG2 hXG4) hXG9) hXG12) hXG75) (WX.mono hfG113 (fun x hx => by omega))
                                  have hFIG113 : ∀ k : Nat, k < 6 → FIP P G113 262144 k := fun k hk => FIP.sm (hFIG75 k hk) hXG113 hfG113 (by show ¬ _; omega) (congrFun (hfG113 262149 (KX.al (KX.trans (KX.trans (KX.trans (KX.trans hXG2 hXG4) hXG9) hXG12) hXG75) (kne k262149 (by decide))) (by show ¬ _; omega)) k)
                                  have hFAG113 : FPa P G113 A := (hFAG75).wx hXG113 hfG113 ⟨KX.al (KX.trans (KX.trans (KX.trans (KX.trans hXG2 hXG4) hXG9) hXG12) hXG75) (kne kA3 (by decide)), KX.al (KX.trans (KX.trans (KX.trans (KX.trans hXG2 hXG4) hXG9) hXG12) hXG75) (kne kA4 (by decide))⟩ (by show ¬ _; omega) (by show ¬ _; omega) (fun p hp => by show ¬ _; omega)
                                  have hFBG113 : FPa P G113 B := (hFBG75).wx hXG113 hfG113 ⟨KX.al (KX.trans (KX.trans (KX.trans (KX.trans hXG2 hXG4) hXG9) hXG12) hXG75) (kne kB3 (by decide)), KX.al (KX.trans (KX.trans (KX.trans (KX.trans hXG2 hXG4) hXG9) hXG12) hXG75) (kne kB4 (by decide))⟩ (by show ¬ _; omega) (by show ¬ _; omega) (fun p hp => by show ¬ _; omega)
                                  have hFfG113 : FPa P G113 f := hpG113
                                  show WP kX2_link X 218 [some (2, ((327682 : Nat) : Int)), some (2, ((A : Nat) : Int)), some (2, ((B : Nat) : Int)), some (0, s), some (2, ((f : Nat) : Int)), some (0, m75), some (0, e75), some (0, z84)] [(0, rr114)] G113
                                  refine s_istore dX2_link_218 (by decide) (lv' := [some (2, ((327682 : Nat) : Int)), some (2, ((A : Nat) : Int)), some (2, ((B : Nat) : Int)), some (0, s), some (2, ((f : Nat) : Int)), some (0, rr114), some (0, e75), some (0, z84)]) rfl ?_
                                  refine s_iinc dX2_link_220 (v := e75) rfl (by omega) (by decide) (lv' := [some (2, ((327682 : Nat) : Int)), some (2, ((A : Nat) : Int)), some (2, ((B : Nat) : Int)), some (0, s), some (2, ((f : Nat) : Int)), some (0, rr114), some (0, e75 + 1), some (0, z84)]) rfl ?_
                                  refine s_goto (tgt := 123) dX2_link_223 (by decide) ?_
                                  refine s_mask [true, true, true, true, true, true, true, false] (lv' := [some (2, ((327682 : Nat) : Int)), some (2, ((A : Nat) : Int)), some (2, ((B : Nat) : Int)), some (0, s), some (2, ((f : Nat) : Int)), some (0, rr114), some (0, e75 + 1), none]) rfl ?_
                                  exact ih75 rr114 (e75 + 1) G113 hCG113 (KX.trans hXG75 hXG113) hFG113 (⟨(by omega), (by exact hFIG113), (by exact hFAG113), (by exact hFBG113), (by exact hFfG113)⟩) (by omega)
                                · -- 205 to 208
                                  refine s_aload_n dX2_link_208 rfl (Int.natCast_nonneg _) ?_
                                  refine s_goto (tgt := 213) dX2_link_209 (by decide) ?_
                                  refine s_aload dX2_link_213 rfl (Int.natCast_nonneg _) ?_
                                  have hk118 : gK G75 (327682) = (11, 0) := ((hXG75).k ((hXG12).k ((hXG9).k hk6 (by decide)) (by decide)) (by decide))
                                  refine s_callV (as := [(0, e75), (2, ((A : Nat) : Int)), (2, ((f : Nat) : Int))]) (rest := []) (n := 327682) (ci := 3) gX2_linkOne dX2_link_215 m_1315 m_930 m_1658 m_716 m_277 ⟨by decide, by decide, show (parseMethodDescriptor yX2_linkOne.desc).map (fun d => d.parameters.length) = some 3 from by decide +kernel⟩ (Nat.le_of_ble_eq_true rfl) (by rw [hcf]; exact Nat.le_of_ble_eq_true rfl) hk118 rfl rfl (Nat.le_of_ble_eq_true rfl) ⟨P, e75, A, f, a, b, rfl, hCG75, hab, (by omega), (by assumption), (by assumption), (by omega), (by exact hFIG75), (by exact hFAG75), (by exact hFfG75), fun rr117 G116 hCG116 hXG116 hfG116 hpG116 => ?_⟩
                                  have hFG116 : WX (fun x => (262144 ≤ x ∧ x < 262272) ∨ x = 327691 ∨ x = 327692 ∨ (f + 1 ≤ x ∧ x ≤ f + 22)) G G116 := WX.trans hFG75 (KX.trans (KX.trans (KX.trans (KX.trans hXG2 hXG4) hXG9) hXG12) hXG75) (WX.mono hfG116 (fun x hx => by omega))
                                  have hFIG116 : ∀ k : Nat, k < 6 → FIP P G116 262144 k := fun k hk => FIP.sm (hFIG75 k hk) hXG116 hfG116 (by show ¬ _; omega) (congrFun (hfG116 262149 (KX.al (KX.trans (KX.trans (KX.trans (KX.trans hXG2 hXG4) hXG9) hXG12) hXG75) (kne k262149 (by decide))) (by show ¬ _; omega)) k)
                                  have hFAG116 : FPa P G116 A := (hFAG75).wx hXG116 hfG116 ⟨KX.al (KX.trans (KX.trans (KX.trans (KX.trans hXG2 hXG4) hXG9) hXG12) hXG75) (kne kA3 (by decide)), KX.al (KX.trans (KX.trans (KX.trans (KX.trans hXG2 hXG4) hXG9) hXG12) hXG75) (kne kA4 (by decide))⟩ (by show ¬ _; omega) (by show ¬ _; omega) (fun p hp => by show ¬ _; omega)
                                  have hFBG116 : FPa P G116 B := (hFBG75).wx hXG116 hfG116 ⟨KX.al (KX.trans (KX.trans (KX.trans (KX.trans hXG2 hXG4) hXG9) hXG12) hXG75) (kne kB3 (by decide)), KX.al (KX.trans (KX.trans (KX.trans (KX.trans hXG2 hXG4) hXG9) hXG12) hXG75) (kne kB4 (by decide))⟩ (by show ¬ _; omega) (by show ¬ _; omega) (fun p hp => by show ¬ _; omega)
                                  have hFfG116 : FPa P G116 f := hpG116
                                  show WP kX2_link X 218 [some (2, ((327682 : Nat) : Int)), some (2, ((A : Nat) : Int)), some (2, ((B : Nat) : Int)), some (0, s), some (2, ((f : Nat) : Int)), some (0, m75), some (0, e75), some (0, z84)] [(0, rr117)] G116
                                  refine s_istore dX2_link_218 (by decide) (lv' := [some (2, ((327682 : Nat) : Int)), some (2, ((A : Nat) : Int)), some (2, ((B : Nat) : Int)), some (0, s), some (2, ((f : Nat) : Int)), some (0, rr117), some (0, e75), some (0, z84)]) rfl ?_
                                  refine s_iinc dX2_link_220 (v := e75) rfl (by omega) (by decide) (lv' := [some (2, ((327682 : Nat) : Int)), some (2, ((A : Nat) : Int)), some (2, ((B : Nat) : Int)), some (0, s), some (2, ((f : Nat) : Int)), some (0, rr117), some (0, e75 + 1), some (0, z84)]) rfl ?_
                                  refine s_goto (tgt := 123) dX2_link_223 (by decide) ?_
                                  refine s_mask [true, true, true, true, true, true, true, false] (lv' := [some (2, ((327682 : Nat) : Int)), some (2, ((A : Nat) : Int)), some (2, ((B : Nat) : Int)), some (0, s), some (2, ((f : Nat) : Int)), some (0, rr117), some (0, e75 + 1), none]) rfl ?_
                                  exact ih75 rr117 (e75 + 1) G116 hCG116 (KX.trans hXG75 hXG116) hFG116 (⟨(by omega), (by exact hFIG116), (by exact hFAG116), (by exact hFBG116), (by exact hFfG116)⟩) (by omega)
                              · -- 192 to 195
                                refine s_iload dX2_link_195 rfl ?_
                                refine s_if_eq (tgt := 220) dX2_link_197 (by decide) (fun c119 => ?_) (fun c119 => ?_)
                                · -- 197 to 220
                                  refine s_iinc dX2_link_220 (v := e75) rfl (by omega) (by decide) (lv' := [some (2, ((327682 : Nat) : Int)), some (2, ((A : Nat) : Int)), some (2, ((B : Nat) : Int)), some (0, s), some (2, ((f : Nat) : Int)), some (0, m75), some (0, e75 + 1), some (0, z84)]) rfl ?_
                                  refine s_goto (tgt := 123) dX2_link_223 (by decide) ?_
                                  refine s_mask [true, true, true, true, true, true, true, false] (lv' := [some (2, ((327682 : Nat) : Int)), some (2, ((A : Nat) : Int)), some (2, ((B : Nat) : Int)), some (0, s), some (2, ((f : Nat) : Int)), some (0, m75), some (0, e75 + 1), none]) rfl ?_
                                  exact ih75 m75 (e75 + 1) G75 hCG75 hXG75 hFG75 (⟨(by omega), (by exact hFIG75), (by exact hFAG75), (by exact hFBG75), (by exact hFfG75)⟩) (by omega)
                                · -- 197 to 200
                                  refine s_aload_n dX2_link_200 rfl (Int.natCast_nonneg _) ?_
                                  refine s_iload dX2_link_201 rfl ?_
                                  refine s_iload dX2_link_203 rfl ?_
                                  refine s_if_ne (tgt := 212) dX2_link_205 (by decide) (fun c120 => ?_) (fun c120 => ?_)
                                  · -- 205 to 212
                                    refine s_aload_n dX2_link_212 rfl (Int.natCast_nonneg _) ?_
                                    refine s_aload dX2_link_213 rfl (Int.natCast_nonneg _) ?_
                                    have hk123 : gK G75 (327682) = (11, 0) := ((hXG75).k ((hXG12).k ((hXG9).k hk6 (by decide)) (by decide)) (by decide))
                                    refine s_callV (as := [(0, e75), (2, ((B : Nat) : Int)), (2, ((f : Nat) : Int))]) (rest := []) (n := 327682) (ci := 3) gX2_linkOne dX2_link_215 m_1315 m_930 m_1658 m_716 m_277 ⟨by decide, by decide, show (parseMethodDescriptor yX2_linkOne.desc).map (fun d => d.parameters.length) = some 3 from by decide +kernel⟩ (Nat.le_of_ble_eq_true rfl) (by rw [hcf]; exact Nat.le_of_ble_eq_true rfl) hk123 rfl rfl (Nat.le_of_ble_eq_true rfl) ⟨P, e75, B, f, a, b, rfl, hCG75, hab, (by omega), (by assumption), (by assumption), (by omega), (by exact hFIG75), (by exact hFBG75), (by exact hFfG75), fun rr122 G121 hCG121 hXG121 hfG121 hpG121 => ?_⟩
                                    have hFG121 : WX (fun x => (262144 ≤ x ∧ x < 262272) ∨ x = 327691 ∨ x = 327692 ∨ (f + 1 ≤ x ∧ x ≤ f + 22)) G G121 := WX.trans hFG75 (KX.trans (KX.trans (KX.trans (KX.trans hXG2 hXG4) hXG9) hXG12) hXG75) (WX.mono hfG121 (fun x hx => by omega))
                                    have hFIG121 : ∀ k : Nat, k < 6 → FIP P G121 262144 k := fun k hk => FIP.sm (hFIG75 k hk) hXG121 hfG121 (by show ¬ _; omega) (congrFun (hfG121 262149 (KX.al (KX.trans (KX.trans (KX.trans (KX.trans hXG2 hXG4) hXG9) hXG12) hXG75) (kne k262149 (by decide))) (by show ¬ _; omega)) k)
                                    have hFAG121 : FPa P G121 A := (hFAG75).wx hXG121 hfG121 ⟨KX.al (KX.trans (KX.trans (KX.trans (KX.trans hXG2 hXG4) hXG9) hXG12) hXG75) (kne kA3 (by decide)), KX.al (KX.trans (KX.trans (KX.trans (KX.trans hXG2 hXG4) hXG9) hXG12) hXG75) (kne kA4 (by decide))⟩ (by show ¬ _; omega) (by show ¬ _; omega) (fun p hp => by show ¬ _; omega)
                                    have hFBG121 : FPa P G121 B := (hFBG75).wx hXG121 hfG121 ⟨KX.al (KX.trans (KX.trans (KX.trans (KX.trans hXG2 hXG4) hXG9) hXG12) hXG75) (kne kB3 (by decide)), KX.al (KX.trans (KX.trans (KX.trans (KX.trans hXG2 hXG4) hXG9) hXG12) hXG75) (kne kB4 (by decide))⟩ (by show ¬ _; omega) (by show ¬ _; omega) (fun p hp => by show ¬ _; omega)
                                    have hFfG121 : FPa P G121 f := hpG121
                                    show WP kX2_link X 218 [some (2, ((327682 : Nat) : Int)), some (2, ((A : Nat) : Int)), some (2, ((B : Nat) : Int)), some (0, s), some (2, ((f : Nat) : Int)), some (0, m75), some (0, e75), some (0, z84)] [(0, rr122)] G121
                                    refine s_istore dX2_link_218 (by decide) (lv' := [some (2, ((327682 : Nat) : Int)), some (2, ((A : Nat) : Int)), some (2, ((B : Nat) : Int)), some (0, s), some (2, ((f : Nat) : Int)), some (0, rr122), some (0, e75), some (0, z84)]) rfl ?_
                                    refine s_iinc dX2_link_220 (v := e75) rfl (by omega) (by decide) (lv' := [some (2, ((327682 : Nat) : Int)), some (2, ((A : Nat) : Int)), some (2, ((B : Nat) : Int)), some (0, s), some (2, ((f : Nat) : Int)), some (0, rr122), some (0, e75 + 1), some (0, z84)]) rfl ?_
                                    refine s_goto (tgt := 123) dX2_link_223 (by decide) ?_
                                    refine s_mask [true, true, true, true, true, true, true, false] (lv' := [some (2, ((327682 : Nat) : Int)), some (2, ((A : Nat) : Int)), some (2, ((B : Nat) : Int)), some (0, s), some (2, ((f : Nat) : Int)), some (0, rr122), some (0, e75 + 1), none]) rfl ?_
                                    exact ih75 rr122 (e75 + 1) G121 hCG121 (KX.trans hXG75 hXG121) hFG121 (⟨(by omega), (by exact hFIG121), (by exact hFAG121), (by exact hFBG121), (by exact hFfG121)⟩) (by omega)
                                  · -- 205 to 208
                                    refine s_aload_n dX2_link_208 rfl (Int.natCast_nonneg _) ?_
                                    refine s_goto (tgt := 213) dX2_link_209 (by decide) ?_
                                    refine s_aload dX2_link_213 rfl (Int.natCast_nonneg _) ?_
                                    have hk126 : gK G75 (327682) = (11, 0) := ((hXG75).k ((hXG12).k ((hXG9).k hk6 (by decide)) (by decide)) (by decide))
                                    refine s_callV (as := [(0, e75), (2, ((A : Nat) : Int)), (2, ((f : Nat) : Int))]) (rest := []) (n := 327682) (ci := 3) gX2_linkOne dX2_link_215 m_1315 m_930 m_1658 m_716 m_277 ⟨by decide, by decide, show (parseMethodDescriptor yX2_linkOne.desc).map (fun d => d.parameters.length) = some 3 from by decide +kernel⟩ (Nat.le_of_ble_eq_true rfl) (by rw [hcf]; exact Nat.le_of_ble_eq_true rfl) hk126 rfl rfl (Nat.le_of_ble_eq_true rfl) ⟨P, e75, A, f, a, b, rfl, hCG75, hab, (by omega), (by assumption), (by assumption), (by omega), (by exact hFIG75), (by exact hFAG75), (by exact hFfG75), fun rr125 G124 hCG124 hXG124 hfG124 hpG124 => ?_⟩
                                    have hFG124 : WX (fun x => (262144 ≤ x ∧ x < 262272) ∨ x = 327691 ∨ x = 327692 ∨ (f + 1 ≤ x ∧ x ≤ f + 22)) G G124 := WX.trans hFG75 (KX.trans (KX.trans (KX.trans (KX.trans hXG2 hXG4) hXG9) hXG12) hXG75) (WX.mono hfG124 (fun x hx => by omega))
                                    have hFIG124 : ∀ k : Nat, k < 6 → FIP P G124 262144 k := fun k hk => FIP.sm (hFIG75 k hk) hXG124 hfG124 (by show ¬ _; omega) (congrFun (hfG124 262149 (KX.al (KX.trans (KX.trans (KX.trans (KX.trans hXG2 hXG4) hXG9) hXG12) hXG75) (kne k262149 (by decide))) (by show ¬ _; omega)) k)
                                    have hFAG124 : FPa P G124 A := (hFAG75).wx hXG124 hfG124 ⟨KX.al (KX.trans (KX.trans (KX.trans (KX.trans hXG2 hXG4) hXG9) hXG12) hXG75) (kne kA3 (by decide)), KX.al (KX.trans (KX.trans (KX.trans (KX.trans hXG2 hXG4) hXG9) hXG12) hXG75) (kne kA4 (by decide))⟩ (by show ¬ _; omega) (by show ¬ _; omega) (fun p hp => by show ¬ _; omega)
                                    have hFBG124 : FPa P G124 B := (hFBG75).wx hXG124 hfG124 ⟨KX.al (KX.trans (KX.trans (KX.trans (KX.trans hXG2 hXG4) hXG9) hXG12) hXG75) (kne kB3 (by decide)), KX.al (KX.trans (KX.trans (KX.trans (KX.trans hXG2 hXG4) hXG9) hXG12) hXG75) (kne kB4 (by decide))⟩ (by show ¬ _; omega) (by show ¬ _; omega) (fun p hp => by show ¬ _; omega)
                                    have hFfG124 : FPa P G124 f := hpG124
                                    show WP kX2_link X 218 [some (2, ((327682 : Nat) : Int)), some (2, ((A : Nat) : Int)), some (2, ((B : Nat) : Int)), some (0, s), some (2, ((f : Nat) : Int)), some (0, m75), some (0, e75), some (0, z84)] [(0, rr125)] G124
                                    refine s_istore dX2_link_218 (by decide) (lv' := [some (2, ((327682 : Nat) : Int)), some (2, ((A : Nat) : Int)), some (2, ((B : Nat) : Int)), some (0, s), some (2, ((f : Nat) : Int)), some (0, rr125), some (0, e75), some (0, z84)]) rfl ?_
                                    refine s_iinc dX2_link_220 (v := e75) rfl (by omega) (by decide) (lv' := [some (2, ((327682 : Nat) : Int)), some (2, ((A : Nat) : Int)), some (2, ((B : Nat) : Int)), some (0, s), some (2, ((f : Nat) : Int)), some (0, rr125), some (0, e75 + 1), some (0, z84)]) rfl ?_
                                    refine s_goto (tgt := 123) dX2_link_223 (by decide) ?_
                                    refine s_mask [true, true, true, true, true, true, true, false] (lv' := [some (2, ((327682 : Nat) : Int)), some (2, ((A : Nat) : Int)), some (2, ((B : Nat) : Int)), some (0, s), some (2, ((f : Nat) : Int)), some (0, rr125), some (0, e75 + 1), none]) rfl ?_
                                    exact ih75 rr125 (e75 + 1) G124 hCG124 (KX.trans hXG75 hXG124) hFG124 (⟨(by omega), (by exact hFIG124), (by exact hFAG124), (by exact hFBG124), (by exact hFfG124)⟩) (by omega)
                            · -- 168 to 171
                              refine s_aload_n dX2_link_171 rfl (Int.natCast_nonneg _) ?_
                              refine s_iload dX2_link_172 rfl ?_
                              refine s_aload_n dX2_link_174 rfl (Int.natCast_nonneg _) ?_
                              refine s_aload_n dX2_link_175 rfl (Int.natCast_nonneg _) ?_
                              refine s_aload dX2_link_176 rfl (Int.natCast_nonneg _) ?_
                              have hk129 : gK G75 (327682) = (11, 0) := ((hXG75).k ((hXG12).k ((hXG9).k hk6 (by decide)) (by decide)) (by decide))
                              refine s_callV (as := [(0, e75), (2, ((A : Nat) : Int)), (2, ((B : Nat) : Int)), (2, ((f : Nat) : Int))]) (rest := []) (n := 327682) (ci := 3) gX2_linkBoth dX2_link_178 m_1314 m_929 m_1657 m_716 m_276 ⟨by decide, by decide, show (parseMethodDescriptor yX2_linkBoth.desc).map (fun d => d.parameters.length) = some 4 from by decide +kernel⟩ (Nat.le_of_ble_eq_true rfl) (by rw [hcf]; exact Nat.le_of_ble_eq_true rfl) hk129 rfl rfl (Nat.le_of_ble_eq_true rfl) ⟨P, e75, A, B, f, a, b, rfl, hCG75, hab, (by omega), (by assumption), (by assumption), (by assumption), (by omega), (by exact hFIG75), (by exact hFAG75), (by exact hFBG75), (by exact hFfG75), fun rr128 G127 hCG127 hXG127 hfG127 hpG127 => ?_⟩
                              have hFG127 : WX (fun x => (262144 ≤ x ∧ x < 262272) ∨ x = 327691 ∨ x = 327692 ∨ (f + 1 ≤ x ∧ x ≤ f + 22)) G G127 := WX.trans hFG75 (KX.trans (KX.trans (KX.trans (KX.trans hXG2 hXG4) hXG9) hXG12) hXG75) (WX.mono hfG127 (fun x hx => by omega))
                              have hFIG127 : ∀ k : Nat, k < 6 → FIP P G127 262144 k := fun k hk => FIP.sm (hFIG75 k hk) hXG127 hfG127 (by show ¬ _; omega) (congrFun (hfG127 262149 (KX.al (KX.trans (KX.trans (KX.trans (KX.trans hXG2 hXG4) hXG9) hXG12) hXG75) (kne k262149 (by decide))) (by show ¬ _; omega)) k)
                              have hFAG127 : FPa P G127 A := (hFAG75).wx hXG127 hfG127 ⟨KX.al (KX.trans (KX.trans (KX.trans (KX.trans hXG2 hXG4) hXG9) hXG12) hXG75) (kne kA3 (by decide)), KX.al (KX.trans (KX.trans (KX.trans (KX.trans hXG2 hXG4) hXG9) hXG12) hXG75) (kne kA4 (by decide))⟩ (by show ¬ _; omega) (by show ¬ _; omega) (fun p hp => by show ¬ _; omega)
                              have hFBG127 : FPa P G127 B := (hFBG75).wx hXG127 hfG127 ⟨KX.al (KX.trans (KX.trans (KX.trans (KX.trans hXG2 hXG4) hXG9) hXG12) hXG75) (kne kB3 (by decide)), KX.al (KX.trans (KX.trans (KX.trans (KX.trans hXG2 hXG4) hXG9) hXG12) hXG75) (kne kB4 (by decide))⟩ (by show ¬ _; omega) (by show ¬ _; omega) (fun p hp => by show ¬ _; omega)
                              have hFfG127 : FPa P G127 f := hpG127
                              show WP kX2_link X 181 [some (2, ((327682 : Nat) : Int)), some (2, ((A : Nat) : Int)), some (2, ((B : Nat) : Int)), some (0, s), some (2, ((f : Nat) : Int)), some (0, m75), some (0, e75), some (0, z84)] [(0, rr128)] G127
                              refine s_istore dX2_link_181 (by decide) (lv' := [some (2, ((327682 : Nat) : Int)), some (2, ((A : Nat) : Int)), some (2, ((B : Nat) : Int)), some (0, s), some (2, ((f : Nat) : Int)), some (0, rr128), some (0, e75), some (0, z84)]) rfl ?_
                              refine s_goto (tgt := 220) dX2_link_183 (by decide) ?_
                              refine s_iinc dX2_link_220 (v := e75) rfl (by omega) (by decide) (lv' := [some (2, ((327682 : Nat) : Int)), some (2, ((A : Nat) : Int)), some (2, ((B : Nat) : Int)), some (0, s), some (2, ((f : Nat) : Int)), some (0, rr128), some (0, e75 + 1), some (0, z84)]) rfl ?_
                              refine s_goto (tgt := 123) dX2_link_223 (by decide) ?_
                              refine s_mask [true, true, true, true, true, true, true, false] (lv' := [some (2, ((327682 : Nat) : Int)), some (2, ((A : Nat) : Int)), some (2, ((B : Nat) : Int)), some (0, s), some (2, ((f : Nat) : Int)), some (0, rr128), some (0, e75 + 1), none]) rfl ?_
                              exact ih75 rr128 (e75 + 1) G127 hCG127 (KX.trans hXG75 hXG127) hFG127 (⟨(by omega), (by exact hFIG127), (by exact hFAG127), (by exact hFBG127), (by exact hFfG127)⟩) (by omega)
                        refine s_if_eq (tgt := 154) dX2_link_141 (by decide) (fun c130 => ?_) (fun c130 => ?_)
                        · -- 141 to 154
                          refine s_iconst dX2_link_154 (by decide) ?_
                          exact J85 0 (Or.inl ⟨c130, rfl⟩)
                        · -- 141 to 144
                          refine s_aload_n dX2_link_144 rfl (Int.natCast_nonneg _) ?_
                          have hk131 : gK G75 (B) = (9, 0) := ((hXG75).k ((hXG12).k ((hXG9).k ((hXG4).k ((hXG2).k kB0 (by decide)) (by decide)) (by decide)) (by decide)) (by decide))
                          refine s_alv (B) (by simp) (fun al132 => ?_)
                          have hv133 : gS G75 B 2 = ((B + 2 : Nat) : Int) := by have h9 : (gS G75 B 2) = (((B % 1048576) + 2 : Nat) : Int) := hCG75.1.v (j := 2) (by rw [cde_n (by omega) (by omega)]; omega : cde B = 101) al132 (by rw [hk131]; exact Nat.le_of_ble_eq_true rfl); omega
                          refine s_getf (ci := 1) (k := 2) (C := RX0) (T := TX0) (N := 7) (n := B) (L := 0) (t := 2) dX2_link_145 rfl wi_65 m_576 (Nat.le_of_ble_eq_true rfl) rfl rfl hk131 hv133 ?_
                          refine s_iload dX2_link_148 rfl ?_
                          have hk134 : gK G75 (B + 2) = (1, 10) := ((hXG75).k ((hXG12).k ((hXG9).k ((hXG4).k ((hXG2).k kB2 (by decide)) (by decide)) (by decide)) (by decide)) (by decide))
                          refine s_iald dX2_link_150 hk134 (by omega) (by omega) rfl ?_
                          refine s_goto (tgt := 155) dX2_link_151 (by decide) ?_
                          exact J85 _ (Or.inr (⟨c130, rfl⟩))
                exact L75 _ m12 0 G12 hCG12 KX.rf hFG12 (⟨(by omega), (by exact hFIG12), (by exact hFAG12), (by exact hFBG12), (by exact hFfG12)⟩) (Nat.lt_succ_self _)
              · -- 99 to 102
                refine s_aload_n dX2_link_102 rfl (Int.natCast_nonneg _) ?_
                refine s_iload dX2_link_103 rfl ?_
                refine s_aload_n dX2_link_105 rfl (Int.natCast_nonneg _) ?_
                refine s_aload_n dX2_link_106 rfl (Int.natCast_nonneg _) ?_
                refine s_aload dX2_link_107 rfl (Int.natCast_nonneg _) ?_
                have hk137 : gK G12 (327682) = (11, 0) := ((hXG12).k ((hXG9).k hk6 (by decide)) (by decide))
                refine s_callV (as := [(0, e12), (2, ((A : Nat) : Int)), (2, ((B : Nat) : Int)), (2, ((f : Nat) : Int))]) (rest := []) (n := 327682) (ci := 3) gX2_linkType dX2_link_109 m_1312 m_931 m_1659 m_716 m_278 ⟨by decide, by decide, show (parseMethodDescriptor yX2_linkType.desc).map (fun d => d.parameters.length) = some 4 from by decide +kernel⟩ (Nat.le_of_ble_eq_true rfl) (by rw [hcf]; exact Nat.le_of_ble_eq_true rfl) hk137 rfl rfl (Nat.le_of_ble_eq_true rfl) ⟨P, e12, A, B, f, a, b, rfl, hCG12, hab, (by omega), (by assumption), (by assumption), (by assumption), (by omega), (by exact hFIG12), (by exact hFfG12), (by exact iz12 (by omega)), fun rr136 G135 hCG135 hXG135 hfG135 hpG135 => ?_⟩
                have hFG135 : WX (fun x => (262144 ≤ x ∧ x < 262272) ∨ x = 327691 ∨ x = 327692 ∨ (f + 1 ≤ x ∧ x ≤ f + 22)) G G135 := WX.trans hFG12 (KX.trans (KX.trans (KX.trans hXG2 hXG4) hXG9) hXG12) (WX.mono hfG135 (fun x hx => by omega))
                have hFIG135 : ∀ k : Nat, k < 6 → FIP P G135 262144 k := fun k hk => FIP.sm (hFIG12 k hk) hXG135 hfG135 (by show ¬ _; omega) (congrFun (hfG135 262149 (KX.al (KX.trans (KX.trans (KX.trans hXG2 hXG4) hXG9) hXG12) (kne k262149 (by decide))) (by show ¬ _; omega)) k)
                have hFAG135 : FPa P G135 A := (hFAG12).wx hXG135 hfG135 ⟨KX.al (KX.trans (KX.trans (KX.trans hXG2 hXG4) hXG9) hXG12) (kne kA3 (by decide)), KX.al (KX.trans (KX.trans (KX.trans hXG2 hXG4) hXG9) hXG12) (kne kA4 (by decide))⟩ (by show ¬ _; omega) (by show ¬ _; omega) (fun p hp => by show ¬ _; omega)
                have hFBG135 : FPa P G135 B := (hFBG12).wx hXG135 hfG135 ⟨KX.al (KX.trans (KX.trans (KX.trans hXG2 hXG4) hXG9) hXG12) (kne kB3 (by decide)), KX.al (KX.trans (KX.trans (KX.trans hXG2 hXG4) hXG9) hXG12) (kne kB4 (by decide))⟩ (by show ¬ _; omega) (by show ¬ _; omega) (fun p hp => by show ¬ _; omega)
                have hFfG135 : FPa P G135 f := hpG135
                show WP kX2_link X 112 [some (2, ((327682 : Nat) : Int)), some (2, ((A : Nat) : Int)), some (2, ((B : Nat) : Int)), some (0, s), some (2, ((f : Nat) : Int)), some (0, m12), some (0, e12), none] [(0, rr136)] G135
                refine s_istore dX2_link_112 (by decide) (lv' := [some (2, ((327682 : Nat) : Int)), some (2, ((A : Nat) : Int)), some (2, ((B : Nat) : Int)), some (0, s), some (2, ((f : Nat) : Int)), some (0, rr136), some (0, e12), none]) rfl ?_
                refine s_iinc dX2_link_114 (v := e12) rfl (by omega) (by decide) (lv' := [some (2, ((327682 : Nat) : Int)), some (2, ((A : Nat) : Int)), some (2, ((B : Nat) : Int)), some (0, s), some (2, ((f : Nat) : Int)), some (0, rr136), some (0, e12 + 1), none]) rfl ?_
                refine s_goto (tgt := 90) dX2_link_117 (by decide) ?_
                exact ih12 rr136 (e12 + 1) G135 hCG135 (KX.trans hXG12 hXG135) hFG135 (⟨(by omega), (by intro _ k hk; rw [hfG135 262149 (KX.al (KX.trans (KX.trans (KX.trans hXG2 hXG4) hXG9) hXG12) (kne k262149 (by decide))) (by show ¬ _; omega)]; exact iz12 (by omega) k hk), (by exact hFIG135), (by exact hFAG135), (by exact hFBG135), (by exact hFfG135)⟩) (by omega)
        exact L12 _ rr10 0 G9 hCG9 KX.rf hFG9 (⟨(by omega), (by exact hpG9.1), (by exact hFIG9), (by exact hFAG9), (by exact hFBG9), (by exact hFfG9)⟩) (Nat.lt_succ_self _)
      · -- 14 to 17
        refine s_aload_n dX2_link_17 rfl (Int.natCast_nonneg _) ?_
        have hk138 : gK G4 (A) = (9, 0) := ((hXG4).k ((hXG2).k kA0 (by decide)) (by decide))
        refine s_alv (A) (by simp) (fun al139 => ?_)
        have hv140 : gS G4 A 1 = ((A + 1 : Nat) : Int) := by have h9 : (gS G4 A 1) = (((A % 1048576) + 1 : Nat) : Int) := hCG4.1.v (j := 1) (by rw [cde_n (by omega) (by omega)]; omega : cde A = 101) al139 (by rw [hk138]; exact Nat.le_of_ble_eq_true rfl); omega
        refine s_getf (ci := 1) (k := 1) (C := RX0) (T := TX0) (N := 7) (n := A) (L := 0) (t := 2) dX2_link_18 rfl wi_65 m_573 (Nat.le_of_ble_eq_true rfl) rfl rfl hk138 hv140 ?_
        refine s_iload dX2_link_21 rfl ?_
        have hk141 : gK G4 (A + 1) = (1, 6) := ((hXG4).k ((hXG2).k kA1 (by decide)) (by decide))
        refine s_iald dX2_link_23 hk141 (by omega) (by omega) rfl ?_
        refine s_iconst dX2_link_24 (by decide) ?_
        refine s_icmp_ne (tgt := 32) dX2_link_25 (by decide) (fun c142 => ?_) (fun c142 => ?_)
        · -- 25 to 32
          refine s_aload_n dX2_link_32 rfl (Int.natCast_nonneg _) ?_
          refine s_astore (Int.natCast_nonneg _) dX2_link_33 (by decide) (lv' := [some (2, ((327682 : Nat) : Int)), some (2, ((A : Nat) : Int)), some (2, ((B : Nat) : Int)), some (0, s), some (2, ((f : Nat) : Int)), some (0, n4), some (2, ((B : Nat) : Int)), none]) rfl ?_
          refine s_aload dX2_link_35 rfl (Int.natCast_nonneg _) ?_
          have hk143 : gK G4 (B) = (9, 0) := ((hXG4).k ((hXG2).k kB0 (by decide)) (by decide))
          refine s_alv (B) (by simp) (fun al144 => ?_)
          have hv145 : gS G4 B 1 = ((B + 1 : Nat) : Int) := by have h9 : (gS G4 B 1) = (((B % 1048576) + 1 : Nat) : Int) := hCG4.1.v (j := 1) (by rw [cde_n (by omega) (by omega)]; omega : cde B = 101) al144 (by rw [hk143]; exact Nat.le_of_ble_eq_true rfl); omega
          refine s_getf (ci := 1) (k := 1) (C := RX0) (T := TX0) (N := 7) (n := B) (L := 0) (t := 2) dX2_link_37 rfl wi_65 m_573 (Nat.le_of_ble_eq_true rfl) rfl rfl hk143 hv145 ?_
          refine s_iload dX2_link_40 rfl ?_
          have hk146 : gK G4 (B + 1) = (1, 6) := ((hXG4).k ((hXG2).k kB1 (by decide)) (by decide))
          refine s_iald dX2_link_42 hk146 (by omega) (by omega) rfl ?_
          refine s_iconst dX2_link_43 (by decide) ?_
          refine s_icmp_ne (tgt := 72) dX2_link_44 (by decide) (fun c147 => ?_) (fun c147 => ?_)
          · -- 44 to 72
            refine s_iinc dX2_link_72 (v := n4) rfl (by omega) (by decide) (lv' := [some (2, ((327682 : Nat) : Int)), some (2, ((A : Nat) : Int)), some (2, ((B : Nat) : Int)), some (0, s), some (2, ((f : Nat) : Int)), some (0, n4 + 1), some (2, ((B : Nat) : Int)), none]) rfl ?_
            refine s_goto (tgt := 10) dX2_link_75 (by decide) ?_
            refine s_mask [true, true, true, true, true, true, false, false] (lv' := [some (2, ((327682 : Nat) : Int)), some (2, ((A : Nat) : Int)), some (2, ((B : Nat) : Int)), some (0, s), some (2, ((f : Nat) : Int)), some (0, n4 + 1), none, none]) rfl ?_
            exact ih4 (n4 + 1) G4 hCG4 hXG4 hFG4 (⟨(by omega), (by exact hTLG4), (by exact hFIG4), (by exact hFAG4), (by exact hFBG4), (by exact hFfG4)⟩) (by omega)
          · -- 44 to 47
            refine s_aload_n dX2_link_47 rfl (Int.natCast_nonneg _) ?_
            have hk148 : gK G4 (327682) = (11, 0) := ((hXG4).k ((hXG2).k k327682 (by decide)) (by decide))
            refine s_alv (327682) (by simp) (fun al149 => ?_)
            have hv150 : gS G4 327682 2 = ((262144 : Nat) : Int) := by have h9 : (gS G4 327682 2) = 262144 := hCG4.1.v (j := 2) (by decide : cde 327682 = 502) al149 (by rw [hk148]; exact Nat.le_of_ble_eq_true rfl); omega
            refine s_getf (ci := 3) (k := 2) (C := RX2) (T := TX2) (N := 8) (n := 327682) (L := 0) (t := 2) dX2_link_48 rfl wi_70 m_577 (Nat.le_of_ble_eq_true rfl) rfl rfl hk148 hv150 ?_
            refine s_iload dX2_link_51 rfl ?_
            refine s_aload dX2_link_53 rfl (Int.natCast_nonneg _) ?_
            have hv151 : gS G4 B 3 = ((B + 3 : Nat) : Int) := by have h9 : (gS G4 B 3) = (((B % 1048576) + 3 : Nat) : Int) := hCG4.1.v (j := 3) (by rw [cde_n (by omega) (by omega)]; omega : cde B = 101) al144 (by rw [hk143]; exact Nat.le_of_ble_eq_true rfl); omega
            refine s_getf (ci := 1) (k := 3) (C := RX0) (T := TX0) (N := 7) (n := B) (L := 0) (t := 2) dX2_link_55 rfl wi_65 m_574 (Nat.le_of_ble_eq_true rfl) rfl rfl hk143 hv151 ?_
            refine s_iload dX2_link_58 rfl ?_
            have hk152 : gK G4 (B + 3) = (4, 16) := ((hXG4).k ((hXG2).k kB3 (by decide)) (by decide))
            refine s_alv (B + 3) (by simp) (fun al153 => ?_)
            have hv155b : 0 ≤ (gS G4 (B + 3) (n4 : Int).toNat) ∧ (gS G4 (B + 3) (n4 : Int).toNat) % 1048576 = ((((B + 3) % 1048576) + 4 + ((n4 : Int).toNat) : Nat) : Int) := hCG4.1.v (j := (n4 : Int).toNat) (by rw [cde_n (by omega) (by omega)]; omega : cde (B + 3) = 104) al153 (by rw [hk152]; show (n4 : Int).toNat < 16; omega)
            obtain ⟨q154, hv155⟩ : ∃ q : Nat, gS G4 (B + 3) (n4 : Int).toNat = (q : Int) := ⟨(gS G4 (B + 3) (n4 : Int).toNat).toNat, by omega⟩
            rw [hv155] at hv155b
            refine s_aald4 dX2_link_60 hk152 (by omega) (by omega) hv155 ?_
            refine s_aload dX2_link_61 rfl (Int.natCast_nonneg _) ?_
            have hv156 : gS G4 B 4 = ((B + 4 : Nat) : Int) := by have h9 : (gS G4 B 4) = (((B % 1048576) + 4 : Nat) : Int) := hCG4.1.v (j := 4) (by rw [cde_n (by omega) (by omega)]; omega : cde B = 101) al144 (by rw [hk143]; exact Nat.le_of_ble_eq_true rfl); omega
            refine s_getf (ci := 1) (k := 4) (C := RX0) (T := TX0) (N := 7) (n := B) (L := 0) (t := 2) dX2_link_63 rfl wi_65 m_575 (Nat.le_of_ble_eq_true rfl) rfl rfl hk143 hv156 ?_
            refine s_iload dX2_link_66 rfl ?_
            have hk157 : gK G4 (B + 4) = (1, 16) := ((hXG4).k ((hXG2).k kB4 (by decide)) (by decide))
            refine s_alv (B + 4) (by simp) (fun al158 => ?_)
            have hv159 : 0 ≤ (gS G4 (B + 4) (n4 : Int).toNat) ∧ (gS G4 (B + 4) (n4 : Int).toNat) ≤ 200 := hCG4.1.v (j := (n4 : Int).toNat) (by rw [cde_n (by omega) (by omega)]; omega : cde (B + 4) = 105) al158 (by rw [hk157]; show (n4 : Int).toNat < 16; omega)
            refine s_iald dX2_link_68 hk157 (by omega) (by omega) rfl ?_
            refine s_alv (q154) (by simp) (fun al160 => ?_)
            obtain ⟨L162, hk161, hL162a, hL162b⟩ := hCG4.1.kr (show 108 ≤ cde q154 ∧ cde q154 < 124 from by rw [cde_n (by omega) (by omega)]; omega) al160
            have hk165 : gK G4 (262144) = (10, 0) := ((hXG4).k ((hXG2).k k262144 (by decide)) (by decide))
            refine s_callV (as := [(0, n4), (2, ((q154 : Nat) : Int)), (0, gS G4 (B + 4) ((n4 : Int).toNat))]) (rest := []) (n := 262144) (ci := 2) gX1_tell dX2_link_69 m_1310 m_919 m_1494 m_712 m_261 ⟨by decide, by decide, show (parseMethodDescriptor yX1_tell.desc).map (fun d => d.parameters.length) = some 3 from by decide +kernel⟩ (Nat.le_of_ble_eq_true rfl) (by rw [hcf]; exact Nat.le_of_ble_eq_true rfl) hk165 rfl rfl (Nat.le_of_ble_eq_true rfl) ⟨262144, n4, q154, L162, gS G4 (B + 4) ((n4 : Int).toNat), a, b, rfl, hCG4, hab, (by first | assumption | omega), (by first | assumption | omega), hk161, (by first | assumption | omega), (by first | assumption | omega), fun G163 hCG163 hXG163 hfG163 hpG163 => ?_⟩
            have hFG163 : WX (fun x => (262144 ≤ x ∧ x < 262272) ∨ x = 327691 ∨ x = 327692 ∨ (f + 1 ≤ x ∧ x ≤ f + 22)) G G163 := WX.trans hFG4 (KX.trans hXG2 hXG4) (WX.mono hfG163 (fun x hx => by omega))
            have hTLG163 : ∀ k : Nat, k < 6 → TLP P G163 262144 k := fun k hk => by by_cases e : k = (n4 : Int).toNat; (focus (subst e; exact RPs.at (hpG163.1 P ((hFBG4 (n4 : Int).toNat (by omega)).rps hv155 rfl)) (by omega))); exact TLP.sm (hTLG4 k hk) hXG163 hfG163 (by show ¬ _; omega) (hpG163.2 k e)
            have hFIG163 : ∀ k : Nat, k < 6 → FIP P G163 262144 k := fun k hk => FIP.sm (hFIG4 k hk) hXG163 hfG163 (by show ¬ _; omega) (congrFun (hfG163 262149 (KX.al (KX.trans hXG2 hXG4) (kne k262149 (by decide))) (by show ¬ _; omega)) k)
            have hFAG163 : FPa P G163 A := (hFAG4).wx hXG163 hfG163 ⟨KX.al (KX.trans hXG2 hXG4) (kne kA3 (by decide)), KX.al (KX.trans hXG2 hXG4) (kne kA4 (by decide))⟩ (by show ¬ _; omega) (by show ¬ _; omega) (fun p hp => by show ¬ _; omega)
            have hFBG163 : FPa P G163 B := (hFBG4).wx hXG163 hfG163 ⟨KX.al (KX.trans hXG2 hXG4) (kne kB3 (by decide)), KX.al (KX.trans hXG2 hXG4) (kne kB4 (by decide))⟩ (by show ¬ _; omega) (by show ¬ _; omega) (fun p hp => by show ¬ _; omega)
            have hFfG163 : FPa P G163 f := (hFfG4).wx hXG163 hfG163 ⟨KX.al (KX.trans hXG2 hXG4) (kne kf3 (by decide)), KX.al (KX.trans hXG2 hXG4) (kne kf4 (by decide))⟩ (by show ¬ _; omega) (by show ¬ _; omega) (fun p hp => by show ¬ _; omega)
            show WP kX2_link X 72 [some (2, ((327682 : Nat) : Int)), some (2, ((A : Nat) : Int)), some (2, ((B : Nat) : Int)), some (0, s), some (2, ((f : Nat) : Int)), some (0, n4), some (2, ((B : Nat) : Int)), none] [] G163
            refine s_iinc dX2_link_72 (v := n4) rfl (by omega) (by decide) (lv' := [some (2, ((327682 : Nat) : Int)), some (2, ((A : Nat) : Int)), some (2, ((B : Nat) : Int)), some (0, s), some (2, ((f : Nat) : Int)), some (0, n4 + 1), some (2, ((B : Nat) : Int)), none]) rfl ?_
            refine s_goto (tgt := 10) dX2_link_75 (by decide) ?_
            refine s_mask [true, true, true, true, true, true, false, false] (lv' := [some (2, ((327682 : Nat) : Int)), some (2, ((A : Nat) : Int)), some (2, ((B : Nat) : Int)), some (0, s), some (2, ((f : Nat) : Int)), some (0, n4 + 1), none, none]) rfl ?_
            exact ih4 (n4 + 1) G163 hCG163 (KX.trans hXG4 hXG163) hFG163 (⟨(by omega), (by exact hTLG163), (by exact hFIG163), (by exact hFAG163), (by exact hFBG163), (by exact hFfG163)⟩) (by omega)
        · -- 25 to 28
          refine s_aload_n dX2_link_28 rfl (Int.natCast_nonneg _) ?_
          refine s_goto (tgt := 33) dX2_link_29 (by decide) ?_
          refine s_astore (Int.natCast_nonneg _) dX2_link_33 (by decide) (lv' := [some (2, ((327682 : Nat) : Int)), some (2, ((A : Nat) : Int)), some (2, ((B : Nat) : Int)), some (0, s), some (2, ((f : Nat) : Int)), some (0, n4), some (2, ((A : Nat) : Int)), none]) rfl ?_
          refine s_aload dX2_link_35 rfl (Int.natCast_nonneg _) ?_
          have hv166 : gS G4 A 1 = ((A + 1 : Nat) : Int) := by have h9 : (gS G4 A 1) = (((A % 1048576) + 1 : Nat) : Int) := hCG4.1.v (j := 1) (by rw [cde_n (by omega) (by omega)]; omega : cde A = 101) al139 (by rw [hk138]; exact Nat.le_of_ble_eq_true rfl); omega
          refine s_getf (ci := 1) (k := 1) (C := RX0) (T := TX0) (N := 7) (n := A) (L := 0) (t := 2) dX2_link_37 rfl wi_65 m_573 (Nat.le_of_ble_eq_true rfl) rfl rfl hk138 hv166 ?_
          refine s_iload dX2_link_40 rfl ?_
          refine s_iald dX2_link_42 hk141 (by omega) (by omega) rfl ?_
          refine s_iconst dX2_link_43 (by decide) ?_
          refine s_icmp_ne (tgt := 72) dX2_link_44 (by decide) (fun c167 => ?_) (fun c167 => ?_)
          · -- 44 to 72
            refine s_iinc dX2_link_72 (v := n4) rfl (by omega) (by decide) (lv' := [some (2, ((327682 : Nat) : Int)), some (2, ((A : Nat) : Int)), some (2, ((B : Nat) : Int)), some (0, s), some (2, ((f : Nat) : Int)), some (0, n4 + 1), some (2, ((A : Nat) : Int)), none]) rfl ?_
            refine s_goto (tgt := 10) dX2_link_75 (by decide) ?_
            refine s_mask [true, true, true, true, true, true, false, false] (lv' := [some (2, ((327682 : Nat) : Int)), some (2, ((A : Nat) : Int)), some (2, ((B : Nat) : Int)), some (0, s), some (2, ((f : Nat) : Int)), some (0, n4 + 1), none, none]) rfl ?_
            exact ih4 (n4 + 1) G4 hCG4 hXG4 hFG4 (⟨(by omega), (by exact hTLG4), (by exact hFIG4), (by exact hFAG4), (by exact hFBG4), (by exact hFfG4)⟩) (by omega)
          · -- 44 to 47
            refine s_aload_n dX2_link_47 rfl (Int.natCast_nonneg _) ?_
            have hk168 : gK G4 (327682) = (11, 0) := ((hXG4).k ((hXG2).k k327682 (by decide)) (by decide))
            refine s_alv (327682) (by simp) (fun al169 => ?_)
            have hv170 : gS G4 327682 2 = ((262144 : Nat) : Int) := by have h9 : (gS G4 327682 2) = 262144 := hCG4.1.v (j := 2) (by decide : cde 327682 = 502) al169 (by rw [hk168]; exact Nat.le_of_ble_eq_true rfl); omega
            refine s_getf (ci := 3) (k := 2) (C := RX2) (T := TX2) (N := 8) (n := 327682) (L := 0) (t := 2) dX2_link_48 rfl wi_70 m_577 (Nat.le_of_ble_eq_true rfl) rfl rfl hk168 hv170 ?_
            refine s_iload dX2_link_51 rfl ?_
            refine s_aload dX2_link_53 rfl (Int.natCast_nonneg _) ?_
            have hv171 : gS G4 A 3 = ((A + 3 : Nat) : Int) := by have h9 : (gS G4 A 3) = (((A % 1048576) + 3 : Nat) : Int) := hCG4.1.v (j := 3) (by rw [cde_n (by omega) (by omega)]; omega : cde A = 101) al139 (by rw [hk138]; exact Nat.le_of_ble_eq_true rfl); omega
            refine s_getf (ci := 1) (k := 3) (C := RX0) (T := TX0) (N := 7) (n := A) (L := 0) (t := 2) dX2_link_55 rfl wi_65 m_574 (Nat.le_of_ble_eq_true rfl) rfl rfl hk138 hv171 ?_
            refine s_iload dX2_link_58 rfl ?_
            have hk172 : gK G4 (A + 3) = (4, 16) := ((hXG4).k ((hXG2).k kA3 (by decide)) (by decide))
            refine s_alv (A + 3) (by simp) (fun al173 => ?_)
            have hv175b : 0 ≤ (gS G4 (A + 3) (n4 : Int).toNat) ∧ (gS G4 (A + 3) (n4 : Int).toNat) % 1048576 = ((((A + 3) % 1048576) + 4 + ((n4 : Int).toNat) : Nat) : Int) := hCG4.1.v (j := (n4 : Int).toNat) (by rw [cde_n (by omega) (by omega)]; omega : cde (A + 3) = 104) al173 (by rw [hk172]; show (n4 : Int).toNat < 16; omega)
            obtain ⟨q174, hv175⟩ : ∃ q : Nat, gS G4 (A + 3) (n4 : Int).toNat = (q : Int) := ⟨(gS G4 (A + 3) (n4 : Int).toNat).toNat, by omega⟩
            rw [hv175] at hv175b
            refine s_aald4 dX2_link_60 hk172 (by omega) (by omega) hv175 ?_
            refine s_aload dX2_link_61 rfl (Int.natCast_nonneg _) ?_
            have hv176 : gS G4 A 4 = ((A + 4 : Nat) : Int) := by have h9 : (gS G4 A 4) = (((A % 1048576) + 4 : Nat) : Int) := hCG4.1.v (j := 4) (by rw [cde_n (by omega) (by omega)]; omega : cde A = 101) al139 (by rw [hk138]; exact Nat.le_of_ble_eq_true rfl); omega
            refine s_getf (ci := 1) (k := 4) (C := RX0) (T := TX0) (N := 7) (n := A) (L := 0) (t := 2) dX2_link_63 rfl wi_65 m_575 (Nat.le_of_ble_eq_true rfl) rfl rfl hk138 hv176 ?_
            refine s_iload dX2_link_66 rfl ?_
            have hk177 : gK G4 (A + 4) = (1, 16) := ((hXG4).k ((hXG2).k kA4 (by decide)) (by decide))
            refine s_alv (A + 4) (by simp) (fun al178 => ?_)
            have hv179 : 0 ≤ (gS G4 (A + 4) (n4 : Int).toNat) ∧ (gS G4 (A + 4) (n4 : Int).toNat) ≤ 200 := hCG4.1.v (j := (n4 : Int).toNat) (by rw [cde_n (by omega) (by omega)]; omega : cde (A + 4) = 105) al178 (by rw [hk177]; show (n4 : Int).toNat < 16; omega)
            refine s_iald dX2_link_68 hk177 (by omega) (by omega) rfl ?_
            refine s_alv (q174) (by simp) (fun al180 => ?_)
            obtain ⟨L182, hk181, hL182a, hL182b⟩ := hCG4.1.kr (show 108 ≤ cde q174 ∧ cde q174 < 124 from by rw [cde_n (by omega) (by omega)]; omega) al180
            have hk185 : gK G4 (262144) = (10, 0) := ((hXG4).k ((hXG2).k k262144 (by decide)) (by decide))
            refine s_callV (as := [(0, n4), (2, ((q174 : Nat) : Int)), (0, gS G4 (A + 4) ((n4 : Int).toNat))]) (rest := []) (n := 262144) (ci := 2) gX1_tell dX2_link_69 m_1310 m_919 m_1494 m_712 m_261 ⟨by decide, by decide, show (parseMethodDescriptor yX1_tell.desc).map (fun d => d.parameters.length) = some 3 from by decide +kernel⟩ (Nat.le_of_ble_eq_true rfl) (by rw [hcf]; exact Nat.le_of_ble_eq_true rfl) hk185 rfl rfl (Nat.le_of_ble_eq_true rfl) ⟨262144, n4, q174, L182, gS G4 (A + 4) ((n4 : Int).toNat), a, b, rfl, hCG4, hab, (by first | assumption | omega), (by first | assumption | omega), hk181, (by first | assumption | omega), (by first | assumption | omega), fun G183 hCG183 hXG183 hfG183 hpG183 => ?_⟩
            have hFG183 : WX (fun x => (262144 ≤ x ∧ x < 262272) ∨ x = 327691 ∨ x = 327692 ∨ (f + 1 ≤ x ∧ x ≤ f + 22)) G G183 := WX.trans hFG4 (KX.trans hXG2 hXG4) (WX.mono hfG183 (fun x hx => by omega))
            have hTLG183 : ∀ k : Nat, k < 6 → TLP P G183 262144 k := fun k hk => by by_cases e : k = (n4 : Int).toNat; (focus (subst e; exact RPs.at (hpG183.1 P ((hFAG4 (n4 : Int).toNat (by omega)).rps hv175 rfl)) (by omega))); exact TLP.sm (hTLG4 k hk) hXG183 hfG183 (by show ¬ _; omega) (hpG183.2 k e)
            have hFIG183 : ∀ k : Nat, k < 6 → FIP P G183 262144 k := fun k hk => FIP.sm (hFIG4 k hk) hXG183 hfG183 (by show ¬ _; omega) (congrFun (hfG183 262149 (KX.al (KX.trans hXG2 hXG4) (kne k262149 (by decide))) (by show ¬ _; omega)) k)
            have hFAG183 : FPa P G183 A := (hFAG4).wx hXG183 hfG183 ⟨KX.al (KX.trans hXG2 hXG4) (kne kA3 (by decide)), KX.al (KX.trans hXG2 hXG4) (kne kA4 (by decide))⟩ (by show ¬ _; omega) (by show ¬ _; omega) (fun p hp => by show ¬ _; omega)
            have hFBG183 : FPa P G183 B := (hFBG4).wx hXG183 hfG183 ⟨KX.al (KX.trans hXG2 hXG4) (kne kB3 (by decide)), KX.al (KX.trans hXG2 hXG4) (kne kB4 (by decide))⟩ (by show ¬ _; omega) (by show ¬ _; omega) (fun p hp => by show ¬ _; omega)
            have hFfG183 : FPa P G183 f := (hFfG4).wx hXG183 hfG183 ⟨KX.al (KX.trans hXG2 hXG4) (kne kf3 (by decide)), KX.al (KX.trans hXG2 hXG4) (kne kf4 (by decide))⟩ (by show ¬ _; omega) (by show ¬ _; omega) (fun p hp => by show ¬ _; omega)
            show WP kX2_link X 72 [some (2, ((327682 : Nat) : Int)), some (2, ((A : Nat) : Int)), some (2, ((B : Nat) : Int)), some (0, s), some (2, ((f : Nat) : Int)), some (0, n4), some (2, ((A : Nat) : Int)), none] [] G183
            refine s_iinc dX2_link_72 (v := n4) rfl (by omega) (by decide) (lv' := [some (2, ((327682 : Nat) : Int)), some (2, ((A : Nat) : Int)), some (2, ((B : Nat) : Int)), some (0, s), some (2, ((f : Nat) : Int)), some (0, n4 + 1), some (2, ((A : Nat) : Int)), none]) rfl ?_
            refine s_goto (tgt := 10) dX2_link_75 (by decide) ?_
            refine s_mask [true, true, true, true, true, true, false, false] (lv' := [some (2, ((327682 : Nat) : Int)), some (2, ((A : Nat) : Int)), some (2, ((B : Nat) : Int)), some (0, s), some (2, ((f : Nat) : Int)), some (0, n4 + 1), none, none]) rfl ?_
            exact ih4 (n4 + 1) G183 hCG183 (KX.trans hXG4 hXG183) hFG183 (⟨(by omega), (by exact hTLG183), (by exact hFIG183), (by exact hFAG183), (by exact hFBG183), (by exact hFfG183)⟩) (by omega)
  exact L4 _ 0 G2 hCG2 KX.rf hFG2 (⟨(by omega), (by exact hTLG2), (by exact hFIG2), (by exact hFAG2), (by exact hFBG2), (by exact hFfG2)⟩) (Nat.lt_succ_self _)
