/-! THE CLASS: the finder's cells are there -/
def FNA (G : LG) : Prop := gK G 327682 = (11, 0) ∧ gK G 327681 = (14, 0) ∧ gK G 327683 = (16, 0) ∧ gK G 262144 = (10, 0) ∧ gK G 262208 = (10, 0) ∧ gK G 327684 = (17, 0) ∧ gK G 68097 = (9, 0) ∧ gK G 327691 = (1, 200) ∧ gK G 327692 = (1, 200) ∧ gK G 262145 = (4, 6) ∧ gK G 262146 = (1, 6) ∧ gK G 262148 = (4, 6) ∧ gK G 262149 = (1, 6) ∧ gK G 262209 = (4, 6) ∧ gK G 262210 = (1, 6) ∧ gK G 262212 = (4, 6) ∧ gK G 262213 = (1, 6) ∧ gK G 327710 = (1, 8) ∧ gK G 327685 = (8, 0) ∧ gK G 327688 = (1, 64)
set_option maxRecDepth 100000 in
theorem LK.fna {a b : Nat} {G : LG} (h : LK G) (hC : CI a b G) (al327682 : (gK G 327682).1 ≠ 0) : FNA G := by
  have k327682 : gK G 327682 = (11, 0) := hC.1.k (c := 502) (by decide) al327682
  have v327681 : gS G 327682 0 = ((327681 : Nat) : Int) := by have h9 : gS G 327682 0 = 327681 := hC.1.v (c := 502) (j := 0) (by decide) al327682 (by rw [k327682]; exact Nat.le_of_ble_eq_true rfl); omega
  have al327681 : (gK G 327681).1 ≠ 0 := h.at al327682 (j := 0) (by rw [k327682]; exact Nat.le_of_ble_eq_true rfl) (by rw [k327682]; rfl) v327681
  have k327681 : gK G 327681 = (14, 0) := hC.1.k (c := 501) (by decide) al327681
  have v327683 : gS G 327682 1 = ((327683 : Nat) : Int) := by have h9 : gS G 327682 1 = 327683 := hC.1.v (c := 502) (j := 1) (by decide) al327682 (by rw [k327682]; exact Nat.le_of_ble_eq_true rfl); omega
  have al327683 : (gK G 327683).1 ≠ 0 := h.at al327682 (j := 1) (by rw [k327682]; exact Nat.le_of_ble_eq_true rfl) (by rw [k327682]; rfl) v327683
  have k327683 : gK G 327683 = (16, 0) := hC.1.k (c := 503) (by decide) al327683
  have v262144 : gS G 327682 2 = ((262144 : Nat) : Int) := by have h9 : gS G 327682 2 = 262144 := hC.1.v (c := 502) (j := 2) (by decide) al327682 (by rw [k327682]; exact Nat.le_of_ble_eq_true rfl); omega
  have al262144 : (gK G 262144).1 ≠ 0 := h.at al327682 (j := 2) (by rw [k327682]; exact Nat.le_of_ble_eq_true rfl) (by rw [k327682]; rfl) v262144
  have k262144 : gK G 262144 = (10, 0) := hC.1.k (c := 400) (by decide) al262144
  have v262208 : gS G 327682 3 = ((262208 : Nat) : Int) := by have h9 : gS G 327682 3 = 262208 := hC.1.v (c := 502) (j := 3) (by decide) al327682 (by rw [k327682]; exact Nat.le_of_ble_eq_true rfl); omega
  have al262208 : (gK G 262208).1 ≠ 0 := h.at al327682 (j := 3) (by rw [k327682]; exact Nat.le_of_ble_eq_true rfl) (by rw [k327682]; rfl) v262208
  have k262208 : gK G 262208 = (10, 0) := hC.1.k (c := 400) (by decide) al262208
  have v327684 : gS G 327682 4 = ((327684 : Nat) : Int) := by have h9 : gS G 327682 4 = 327684 := hC.1.v (c := 502) (j := 4) (by decide) al327682 (by rw [k327682]; exact Nat.le_of_ble_eq_true rfl); omega
  have al327684 : (gK G 327684).1 ≠ 0 := h.at al327682 (j := 4) (by rw [k327682]; exact Nat.le_of_ble_eq_true rfl) (by rw [k327682]; rfl) v327684
  have k327684 : gK G 327684 = (17, 0) := hC.1.k (c := 504) (by decide) al327684
  have v68097 : gS G 327682 5 = ((68097 : Nat) : Int) := by have h9 : gS G 327682 5 = 68097 := hC.1.v (c := 502) (j := 5) (by decide) al327682 (by rw [k327682]; exact Nat.le_of_ble_eq_true rfl); omega
  have al68097 : (gK G 68097).1 ≠ 0 := h.at al327682 (j := 5) (by rw [k327682]; exact Nat.le_of_ble_eq_true rfl) (by rw [k327682]; rfl) v68097
  have k68097 : gK G 68097 = (9, 0) := hC.1.k (c := 101) (by decide) al68097
  have v327691 : gS G 327682 6 = ((327691 : Nat) : Int) := by have h9 : gS G 327682 6 = 327691 := hC.1.v (c := 502) (j := 6) (by decide) al327682 (by rw [k327682]; exact Nat.le_of_ble_eq_true rfl); omega
  have al327691 : (gK G 327691).1 ≠ 0 := h.at al327682 (j := 6) (by rw [k327682]; exact Nat.le_of_ble_eq_true rfl) (by rw [k327682]; rfl) v327691
  have k327691 : gK G 327691 = (1, 200) := hC.1.k (c := 511) (by decide) al327691
  have v327692 : gS G 327682 7 = ((327692 : Nat) : Int) := by have h9 : gS G 327682 7 = 327692 := hC.1.v (c := 502) (j := 7) (by decide) al327682 (by rw [k327682]; exact Nat.le_of_ble_eq_true rfl); omega
  have al327692 : (gK G 327692).1 ≠ 0 := h.at al327682 (j := 7) (by rw [k327682]; exact Nat.le_of_ble_eq_true rfl) (by rw [k327682]; rfl) v327692
  have k327692 : gK G 327692 = (1, 200) := hC.1.k (c := 512) (by decide) al327692
  have v262145 : gS G 262144 0 = ((262145 : Nat) : Int) := by have h9 : gS G 262144 0 = ((262144 % 1048576 + 1 : Nat) : Int) := hC.1.v (c := 400) (j := 0) (by decide) al262144 (by rw [k262144]; exact Nat.le_of_ble_eq_true rfl); omega
  have al262145 : (gK G 262145).1 ≠ 0 := h.at al262144 (j := 0) (by rw [k262144]; exact Nat.le_of_ble_eq_true rfl) (by rw [k262144]; rfl) v262145
  have k262145 : gK G 262145 = (4, 6) := hC.1.k (c := 401) (by decide) al262145
  have v262146 : gS G 262144 1 = ((262146 : Nat) : Int) := by have h9 : gS G 262144 1 = ((262144 % 1048576 + 2 : Nat) : Int) := hC.1.v (c := 400) (j := 1) (by decide) al262144 (by rw [k262144]; exact Nat.le_of_ble_eq_true rfl); omega
  have al262146 : (gK G 262146).1 ≠ 0 := h.at al262144 (j := 1) (by rw [k262144]; exact Nat.le_of_ble_eq_true rfl) (by rw [k262144]; rfl) v262146
  have k262146 : gK G 262146 = (1, 6) := hC.1.k (c := 402) (by decide) al262146
  have v262148 : gS G 262144 3 = ((262148 : Nat) : Int) := by have h9 : gS G 262144 3 = ((262144 % 1048576 + 4 : Nat) : Int) := hC.1.v (c := 400) (j := 3) (by decide) al262144 (by rw [k262144]; exact Nat.le_of_ble_eq_true rfl); omega
  have al262148 : (gK G 262148).1 ≠ 0 := h.at al262144 (j := 3) (by rw [k262144]; exact Nat.le_of_ble_eq_true rfl) (by rw [k262144]; rfl) v262148
  have k262148 : gK G 262148 = (4, 6) := hC.1.k (c := 404) (by decide) al262148
  have v262149 : gS G 262144 4 = ((262149 : Nat) : Int) := by have h9 : gS G 262144 4 = ((262144 % 1048576 + 5 : Nat) : Int) := hC.1.v (c := 400) (j := 4) (by decide) al262144 (by rw [k262144]; exact Nat.le_of_ble_eq_true rfl); omega
  have al262149 : (gK G 262149).1 ≠ 0 := h.at al262144 (j := 4) (by rw [k262144]; exact Nat.le_of_ble_eq_true rfl) (by rw [k262144]; rfl) v262149
  have k262149 : gK G 262149 = (1, 6) := hC.1.k (c := 405) (by decide) al262149
  have v262209 : gS G 262208 0 = ((262209 : Nat) : Int) := by have h9 : gS G 262208 0 = ((262208 % 1048576 + 1 : Nat) : Int) := hC.1.v (c := 400) (j := 0) (by decide) al262208 (by rw [k262208]; exact Nat.le_of_ble_eq_true rfl); omega
  have al262209 : (gK G 262209).1 ≠ 0 := h.at al262208 (j := 0) (by rw [k262208]; exact Nat.le_of_ble_eq_true rfl) (by rw [k262208]; rfl) v262209
  have k262209 : gK G 262209 = (4, 6) := hC.1.k (c := 401) (by decide) al262209
  have v262210 : gS G 262208 1 = ((262210 : Nat) : Int) := by have h9 : gS G 262208 1 = ((262208 % 1048576 + 2 : Nat) : Int) := hC.1.v (c := 400) (j := 1) (by decide) al262208 (by rw [k262208]; exact Nat.le_of_ble_eq_true rfl); omega
  have al262210 : (gK G 262210).1 ≠ 0 := h.at al262208 (j := 1) (by rw [k262208]; exact Nat.le_of_ble_eq_true rfl) (by rw [k262208]; rfl) v262210
  have k262210 : gK G 262210 = (1, 6) := hC.1.k (c := 402) (by decide) al262210
  have v262212 : gS G 262208 3 = ((262212 : Nat) : Int) := by have h9 : gS G 262208 3 = ((262208 % 1048576 + 4 : Nat) : Int) := hC.1.v (c := 400) (j := 3) (by decide) al262208 (by rw [k262208]; exact Nat.le_of_ble_eq_true rfl); omega
  have al262212 : (gK G 262212).1 ≠ 0 := h.at al262208 (j := 3) (by rw [k262208]; exact Nat.le_of_ble_eq_true rfl) (by rw [k262208]; rfl) v262212
  have k262212 : gK G 262212 = (4, 6) := hC.1.k (c := 404) (by decide) al262212
  have v262213 : gS G 262208 4 = ((262213 : Nat) : Int) := by have h9 : gS G 262208 4 = ((262208 % 1048576 + 5 : Nat) : Int) := hC.1.v (c := 400) (j := 4) (by decide) al262208 (by rw [k262208]; exact Nat.le_of_ble_eq_true rfl); omega
  have al262213 : (gK G 262213).1 ≠ 0 := h.at al262208 (j := 4) (by rw [k262208]; exact Nat.le_of_ble_eq_true rfl) (by rw [k262208]; rfl) v262213
  have k262213 : gK G 262213 = (1, 6) := hC.1.k (c := 405) (by decide) al262213
  have v327710 : gS G 327681 14 = ((327710 : Nat) : Int) := by have h9 : gS G 327681 14 = 327710 := hC.1.v (c := 501) (j := 14) (by decide) al327681 (by rw [k327681]; exact Nat.le_of_ble_eq_true rfl); omega
  have al327710 : (gK G 327710).1 ≠ 0 := h.at al327681 (j := 14) (by rw [k327681]; exact Nat.le_of_ble_eq_true rfl) (by rw [k327681]; rfl) v327710
  have k327710 : gK G 327710 = (1, 8) := hC.1.k (c := 530) (by decide) al327710
  have v327685 : gS G 327681 16 = ((327685 : Nat) : Int) := by have h9 : gS G 327681 16 = 327685 := hC.1.v (c := 501) (j := 16) (by decide) al327681 (by rw [k327681]; exact Nat.le_of_ble_eq_true rfl); omega
  have al327685 : (gK G 327685).1 ≠ 0 := h.at al327681 (j := 16) (by rw [k327681]; exact Nat.le_of_ble_eq_true rfl) (by rw [k327681]; rfl) v327685
  have k327685 : gK G 327685 = (8, 0) := hC.1.k (c := 505) (by decide) al327685
  have v327688 : gS G 327683 2 = ((327688 : Nat) : Int) := by have h9 : gS G 327683 2 = 327688 := hC.1.v (c := 503) (j := 2) (by decide) al327683 (by rw [k327683]; exact Nat.le_of_ble_eq_true rfl); omega
  have al327688 : (gK G 327688).1 ≠ 0 := h.at al327683 (j := 2) (by rw [k327683]; exact Nat.le_of_ble_eq_true rfl) (by rw [k327683]; rfl) v327688
  have k327688 : gK G 327688 = (1, 64) := hC.1.k (c := 508) (by decide) al327688
  exact ⟨k327682, k327681, k327683, k262144, k262208, k327684, k68097, k327691, k327692, k262145, k262146, k262148, k262149, k262209, k262210, k262212, k262213, k327710, k327685, k327688⟩
theorem FNA.kx {G G1 : LG} (h : FNA G) (kx : KX G G1) : FNA G1 := by
  obtain ⟨k327682, k327681, k327683, k262144, k262208, k327684, k68097, k327691, k327692, k262145, k262146, k262148, k262149, k262209, k262210, k262212, k262213, k327710, k327685, k327688⟩ := h
  exact ⟨kx.k k327682 (by decide), kx.k k327681 (by decide), kx.k k327683 (by decide), kx.k k262144 (by decide), kx.k k262208 (by decide), kx.k k327684 (by decide), kx.k k68097 (by decide), kx.k k327691 (by decide), kx.k k327692 (by decide), kx.k k262145 (by decide), kx.k k262146 (by decide), kx.k k262148 (by decide), kx.k k262149 (by decide), kx.k k262209 (by decide), kx.k k262210 (by decide), kx.k k262212 (by decide), kx.k k262213 (by decide), kx.k k327710 (by decide), kx.k k327685 (by decide), kx.k k327688 (by decide)⟩
theorem FNA.k327682 {G : LG} (h : FNA G) : gK G 327682 = (11, 0) := h.1
theorem FNA.k327681 {G : LG} (h : FNA G) : gK G 327681 = (14, 0) := h.2.1
theorem FNA.k327683 {G : LG} (h : FNA G) : gK G 327683 = (16, 0) := h.2.2.1
theorem FNA.k262144 {G : LG} (h : FNA G) : gK G 262144 = (10, 0) := h.2.2.2.1
theorem FNA.k262208 {G : LG} (h : FNA G) : gK G 262208 = (10, 0) := h.2.2.2.2.1
theorem FNA.k327684 {G : LG} (h : FNA G) : gK G 327684 = (17, 0) := h.2.2.2.2.2.1
theorem FNA.k68097 {G : LG} (h : FNA G) : gK G 68097 = (9, 0) := h.2.2.2.2.2.2.1
theorem FNA.k327691 {G : LG} (h : FNA G) : gK G 327691 = (1, 200) := h.2.2.2.2.2.2.2.1
theorem FNA.k327692 {G : LG} (h : FNA G) : gK G 327692 = (1, 200) := h.2.2.2.2.2.2.2.2.1
theorem FNA.k262145 {G : LG} (h : FNA G) : gK G 262145 = (4, 6) := h.2.2.2.2.2.2.2.2.2.1
theorem FNA.k262146 {G : LG} (h : FNA G) : gK G 262146 = (1, 6) := h.2.2.2.2.2.2.2.2.2.2.1
theorem FNA.k262148 {G : LG} (h : FNA G) : gK G 262148 = (4, 6) := h.2.2.2.2.2.2.2.2.2.2.2.1
theorem FNA.k262149 {G : LG} (h : FNA G) : gK G 262149 = (1, 6) := h.2.2.2.2.2.2.2.2.2.2.2.2.1
theorem FNA.k262209 {G : LG} (h : FNA G) : gK G 262209 = (4, 6) := h.2.2.2.2.2.2.2.2.2.2.2.2.2.1
theorem FNA.k262210 {G : LG} (h : FNA G) : gK G 262210 = (1, 6) := h.2.2.2.2.2.2.2.2.2.2.2.2.2.2.1
theorem FNA.k262212 {G : LG} (h : FNA G) : gK G 262212 = (4, 6) := h.2.2.2.2.2.2.2.2.2.2.2.2.2.2.2.1
theorem FNA.k262213 {G : LG} (h : FNA G) : gK G 262213 = (1, 6) := h.2.2.2.2.2.2.2.2.2.2.2.2.2.2.2.2.1
theorem FNA.k327710 {G : LG} (h : FNA G) : gK G 327710 = (1, 8) := h.2.2.2.2.2.2.2.2.2.2.2.2.2.2.2.2.2.1
theorem FNA.k327685 {G : LG} (h : FNA G) : gK G 327685 = (8, 0) := h.2.2.2.2.2.2.2.2.2.2.2.2.2.2.2.2.2.2.1
theorem FNA.k327688 {G : LG} (h : FNA G) : gK G 327688 = (1, 64) := h.2.2.2.2.2.2.2.2.2.2.2.2.2.2.2.2.2.2.2

abbrev kX2_linkType : KD := (RX2, cX2_linkType, 6, (some .int), [])
def TX2_linkType : TR := fun as G Qr => ∃ (P : Int → Prop) (k : Int) (A B f : Nat) (a b : Nat), as = [(2, ((327682 : Nat) : Int)), (0, k), (2, ((A : Nat) : Int)), (2, ((B : Nat) : Int)), (2, ((f : Nat) : Int))] ∧ CI a b G ∧ (a ≤ 2840000 ∧ b ≤ 590000) ∧ (0 ≤ k ∧ k < 6) ∧ (isFc A) ∧ (isFc B) ∧ (isFc f) ∧ (A ≠ f ∧ B ≠ f) ∧ (∀ k : Nat, k < 6 → FIP P G 262144 k) ∧ (FPa P G f) ∧ (∀ k : Nat, k < 6 → gS G 262149 k ≤ 200) ∧ ∀ (r : Int) (G' : LG), CI a b G' → KX G G' → WX (fun x => x = 327691 ∨ (f + 1 ≤ x ∧ x ≤ f + 22)) G G' → (FPa P G' f) → Qr (.inl (some (0, r))) G'
set_option maxHeartbeats 4000000 in
set_option maxRecDepth 100000 in
theorem gX2_linkType : Good kX2_linkType yX2_linkType 3 TX2_linkType := by
  refine good_of (by decide) rfl rfl (fun as G Qr h => ?_) (fun X as G Qr hcf hR hT oa => ?_)
  · obtain ⟨P, k, A, B, f, a, b, rfl, -⟩ := h; exact Nat.le_of_ble_eq_true rfl
  obtain ⟨P, k, A, B, f, a, b, rfl, hC, hab, hk, hA, hB, hf, hne, hFI, hFf, hSZ, hQ⟩ := hT
  show WP kX2_linkType X 0 [some (2, ((327682 : Nat) : Int)), some (0, k), some (2, ((A : Nat) : Int)), some (2, ((B : Nat) : Int)), some (2, ((f : Nat) : Int)), none] [] G
  have hr_k : inR k := okv_R (oa _ (by simp))
  refine s_alvl 327682 (k := 0) rfl (fun alZ => ?_)
  refine s_alvl A (k := 2) rfl (fun alA => ?_)
  refine s_alvl B (k := 3) rfl (fun alB => ?_)
  refine s_alvl f (k := 4) rfl (fun alf => ?_)
  refine s_lk (fun hlk => ?_)
  have hfn := hlk.fna hC alZ
  obtain ⟨k327682, k327681, k327683, k262144, k262208, k327684, k68097, k327691, k327692, k262145, k262146, k262148, k262149, k262209, k262210, k262212, k262213, k327710, k327685, k327688⟩ := id hfn
  have hfA := hlk.fc hC hA alA
  obtain ⟨kA0, kA1, kA2, kA3, kA4, kA5, kA6⟩ := hfA.1
  have hfB := hlk.fc hC hB alB
  obtain ⟨kB0, kB1, kB2, kB3, kB4, kB5, kB6⟩ := hfB.1
  have hff := hlk.fc hC hf alf
  obtain ⟨kf0, kf1, kf2, kf3, kf4, kf5, kf6⟩ := hff.1
  refine s_aload_n dX2_linkType_0 rfl (Int.natCast_nonneg _) ?_
  have hv1 : gS G 327682 2 = ((262144 : Nat) : Int) := by have h9 : (gS G 327682 2) = 262144 := hC.1.v (j := 2) (by decide : cde 327682 = 502) (kne k327682 (by decide)) (by rw [k327682]; exact Nat.le_of_ble_eq_true rfl); omega
  refine s_getf (ci := 3) (k := 2) (C := RX2) (T := TX2) (N := 8) (n := 327682) (L := 0) (t := 2) dX2_linkType_1 rfl wi_70 m_577 (Nat.le_of_ble_eq_true rfl) rfl rfl k327682 hv1 ?_
  have hv2 : gS G 262144 4 = ((262149 : Nat) : Int) := by have h9 : (gS G 262144 4) = (((262144 % 1048576) + 5 : Nat) : Int) := hC.1.v (j := 4) (by decide : cde 262144 = 400) (kne k262144 (by decide)) (by rw [k262144]; exact Nat.le_of_ble_eq_true rfl); omega
  refine s_getf (ci := 2) (k := 4) (C := RX1) (T := TX1) (N := 5) (n := 262144) (L := 0) (t := 2) dX2_linkType_4 rfl wi_66 m_578 (Nat.le_of_ble_eq_true rfl) rfl rfl k262144 hv2 ?_
  refine s_iload_n dX2_linkType_7 rfl ?_
  have hv3 : 0 ≤ (gS G 262149 (k : Int).toNat) ∧ (gS G 262149 (k : Int).toNat) ≤ 201 := hC.1.v (j := (k : Int).toNat) (by decide : cde 262149 = 405) (kne k262149 (by decide)) (by rw [k262149]; show (k : Int).toNat < 6; omega)
  refine s_iald dX2_linkType_8 k262149 (by omega) (by omega) rfl ?_
  have K4 : ∀ (G4 : LG), CI a b G4 → KX G G4 → WX (fun x => x = 327691 ∨ (f + 1 ≤ x ∧ x ≤ f + 22)) G G4 → ((∀ k : Nat, k < 6 → FIP P G4 262144 k) ∧ (FPa P G4 f) ∧ (∀ k : Nat, k < 6 → gS G4 262149 k ≤ 200)) → WP kX2_linkType X 61 [some (2, ((327682 : Nat) : Int)), some (0, k), some (2, ((A : Nat) : Int)), some (2, ((B : Nat) : Int)), some (2, ((f : Nat) : Int)), none] [] G4 := by
    intro G4 hCG4 hXG4 hFG4 hi4
    obtain ⟨hFIG4, hFfG4, hSZG4⟩ := hi4
    refine s_aload_n dX2_linkType_61 rfl (Int.natCast_nonneg _) ?_
    have hk5 : gK G4 (A) = (9, 0) := ((hXG4).k kA0 (by decide))
    refine s_alv (A) (by simp) (fun al6 => ?_)
    have hv7 : gS G4 A 1 = ((A + 1 : Nat) : Int) := by have h9 : (gS G4 A 1) = (((A % 1048576) + 1 : Nat) : Int) := hCG4.1.v (j := 1) (by rw [cde_n (by omega) (by omega)]; omega : cde A = 101) al6 (by rw [hk5]; exact Nat.le_of_ble_eq_true rfl); omega
    refine s_getf (ci := 1) (k := 1) (C := RX0) (T := TX0) (N := 7) (n := A) (L := 0) (t := 2) dX2_linkType_62 rfl wi_65 m_573 (Nat.le_of_ble_eq_true rfl) rfl rfl hk5 hv7 ?_
    refine s_iload_n dX2_linkType_65 rfl ?_
    have hk8 : gK G4 (A + 1) = (1, 6) := ((hXG4).k kA1 (by decide))
    refine s_iald dX2_linkType_66 hk8 (by omega) (by omega) rfl ?_
    refine s_iconst dX2_linkType_67 (by decide) ?_
    refine s_icmp_ne (tgt := 81) dX2_linkType_68 (by decide) (fun c9 => ?_) (fun c9 => ?_)
    · -- 68 to 81
      refine s_iconst dX2_linkType_81 (by decide) ?_
      exact s_iret hR dX2_linkType_82 rfl (hQ 0 G4 hCG4 hXG4 hFG4 hFfG4)
    · -- 68 to 71
      refine s_aload_n dX2_linkType_71 rfl (Int.natCast_nonneg _) ?_
      have hk10 : gK G4 (B) = (9, 0) := ((hXG4).k kB0 (by decide))
      refine s_alv (B) (by simp) (fun al11 => ?_)
      have hv12 : gS G4 B 1 = ((B + 1 : Nat) : Int) := by have h9 : (gS G4 B 1) = (((B % 1048576) + 1 : Nat) : Int) := hCG4.1.v (j := 1) (by rw [cde_n (by omega) (by omega)]; omega : cde B = 101) al11 (by rw [hk10]; exact Nat.le_of_ble_eq_true rfl); omega
      refine s_getf (ci := 1) (k := 1) (C := RX0) (T := TX0) (N := 7) (n := B) (L := 0) (t := 2) dX2_linkType_72 rfl wi_65 m_573 (Nat.le_of_ble_eq_true rfl) rfl rfl hk10 hv12 ?_
      refine s_iload_n dX2_linkType_75 rfl ?_
      have hk13 : gK G4 (B + 1) = (1, 6) := ((hXG4).k kB1 (by decide))
      refine s_iald dX2_linkType_76 hk13 (by omega) (by omega) rfl ?_
      refine s_iconst dX2_linkType_77 (by decide) ?_
      refine s_icmp_eq (tgt := 83) dX2_linkType_78 (by decide) (fun c14 => ?_) (fun c14 => ?_)
      · -- 78 to 83
        refine s_aload_n dX2_linkType_83 rfl (Int.natCast_nonneg _) ?_
        have hk15 : gK G4 (327682) = (11, 0) := ((hXG4).k k327682 (by decide))
        refine s_alv (327682) (by simp) (fun al16 => ?_)
        have hv17 : gS G4 327682 2 = ((262144 : Nat) : Int) := by have h9 : (gS G4 327682 2) = 262144 := hCG4.1.v (j := 2) (by decide : cde 327682 = 502) al16 (by rw [hk15]; exact Nat.le_of_ble_eq_true rfl); omega
        refine s_getf (ci := 3) (k := 2) (C := RX2) (T := TX2) (N := 8) (n := 327682) (L := 0) (t := 2) dX2_linkType_84 rfl wi_70 m_577 (Nat.le_of_ble_eq_true rfl) rfl rfl hk15 hv17 ?_
        refine s_aload_n dX2_linkType_87 rfl (Int.natCast_nonneg _) ?_
        have hv18 : gS G4 B 3 = ((B + 3 : Nat) : Int) := by have h9 : (gS G4 B 3) = (((B % 1048576) + 3 : Nat) : Int) := hCG4.1.v (j := 3) (by rw [cde_n (by omega) (by omega)]; omega : cde B = 101) al11 (by rw [hk10]; exact Nat.le_of_ble_eq_true rfl); omega
        refine s_getf (ci := 1) (k := 3) (C := RX0) (T := TX0) (N := 7) (n := B) (L := 0) (t := 2) dX2_linkType_88 rfl wi_65 m_574 (Nat.le_of_ble_eq_true rfl) rfl rfl hk10 hv18 ?_
        refine s_iload_n dX2_linkType_91 rfl ?_
        have hk19 : gK G4 (B + 3) = (4, 16) := ((hXG4).k kB3 (by decide))
        refine s_alv (B + 3) (by simp) (fun al20 => ?_)
        have hv22b : 0 ≤ (gS G4 (B + 3) (k : Int).toNat) ∧ (gS G4 (B + 3) (k : Int).toNat) % 1048576 = ((((B + 3) % 1048576) + 4 + ((k : Int).toNat) : Nat) : Int) := hCG4.1.v (j := (k : Int).toNat) (by rw [cde_n (by omega) (by omega)]; omega : cde (B + 3) = 104) al20 (by rw [hk19]; show (k : Int).toNat < 16; omega)
        obtain ⟨q21, hv22⟩ : ∃ q : Nat, gS G4 (B + 3) (k : Int).toNat = (q : Int) := ⟨(gS G4 (B + 3) (k : Int).toNat).toNat, by omega⟩
        rw [hv22] at hv22b
        refine s_aald4 dX2_linkType_92 hk19 (by omega) (by omega) hv22 ?_
        refine s_aload_n dX2_linkType_93 rfl (Int.natCast_nonneg _) ?_
        have hv23 : gS G4 B 4 = ((B + 4 : Nat) : Int) := by have h9 : (gS G4 B 4) = (((B % 1048576) + 4 : Nat) : Int) := hCG4.1.v (j := 4) (by rw [cde_n (by omega) (by omega)]; omega : cde B = 101) al11 (by rw [hk10]; exact Nat.le_of_ble_eq_true rfl); omega
        refine s_getf (ci := 1) (k := 4) (C := RX0) (T := TX0) (N := 7) (n := B) (L := 0) (t := 2) dX2_linkType_94 rfl wi_65 m_575 (Nat.le_of_ble_eq_true rfl) rfl rfl hk10 hv23 ?_
        refine s_iload_n dX2_linkType_97 rfl ?_
        have hk24 : gK G4 (B + 4) = (1, 16) := ((hXG4).k kB4 (by decide))
        refine s_alv (B + 4) (by simp) (fun al25 => ?_)
        have hv26 : 0 ≤ (gS G4 (B + 4) (k : Int).toNat) ∧ (gS G4 (B + 4) (k : Int).toNat) ≤ 200 := hCG4.1.v (j := (k : Int).toNat) (by rw [cde_n (by omega) (by omega)]; omega : cde (B + 4) = 105) al25 (by rw [hk24]; show (k : Int).toNat < 16; omega)
        refine s_iald dX2_linkType_98 hk24 (by omega) (by omega) rfl ?_
        refine s_aload_n dX2_linkType_99 rfl (Int.natCast_nonneg _) ?_
        have hv27 : gS G4 327682 6 = ((327691 : Nat) : Int) := by have h9 : (gS G4 327682 6) = 327691 := hCG4.1.v (j := 6) (by decide : cde 327682 = 502) al16 (by rw [hk15]; exact Nat.le_of_ble_eq_true rfl); omega
        refine s_getf (ci := 3) (k := 6) (C := RX2) (T := TX2) (N := 8) (n := 327682) (L := 0) (t := 2) dX2_linkType_100 rfl wi_70 m_582 (Nat.le_of_ble_eq_true rfl) rfl rfl hk15 hv27 ?_
        refine s_alv (q21) (by simp) (fun al28 => ?_)
        obtain ⟨L30, hk29, hL30a, hL30b⟩ := hCG4.1.kr (show 108 ≤ cde q21 ∧ cde q21 < 124 from by rw [cde_n (by omega) (by omega)]; omega) al28
        have hk31 : gK G4 (327691) = (1, 200) := ((hXG4).k k327691 (by decide))
        have hk34 : gK G4 (262144) = (10, 0) := ((hXG4).k k262144 (by decide))
        refine s_callV (as := [(2, ((q21 : Nat) : Int)), (0, gS G4 (B + 4) ((k : Int).toNat)), (2, ((327691 : Nat) : Int))]) (rest := []) (n := 262144) (ci := 2) gX1_put dX2_linkType_103 m_1319 m_918 m_1493 m_712 m_260 ⟨by decide, by decide, show (parseMethodDescriptor yX1_put.desc).map (fun d => d.parameters.length) = some 3 from by decide +kernel⟩ (Nat.le_of_ble_eq_true rfl) (by rw [hcf]; exact Nat.le_of_ble_eq_true rfl) hk34 rfl rfl (Nat.le_of_ble_eq_true rfl) ⟨262144, q21, L30, gS G4 (B + 4) ((k : Int).toNat), 327691, a, b, rfl, hCG4, hab, (by first | assumption | omega), hk29, (by omega), hk31, (by exact FRW.s), (by omega), (by omega), (by omega), fun rr33 G32 hCG32 hXG32 hfG32 hpG32 => ?_⟩
        have hFG32 : WX (fun x => x = 327691 ∨ (f + 1 ≤ x ∧ x ≤ f + 22)) G G32 := WX.trans hFG4 hXG4 (WX.mono hfG32 (fun x hx => by omega))
        have hFIG32 : ∀ k : Nat, k < 6 → FIP P G32 262144 k := fun k hk => FIP.sm (hFIG4 k hk) hXG32 hfG32 (by show ¬ _; omega) (congrFun (hfG32 262149 (KX.al hXG4 (kne k262149 (by decide))) (by show ¬ _; omega)) k)
        have hFfG32 : FPa P G32 f := (hFfG4).wx hXG32 hfG32 ⟨KX.al hXG4 (kne kf3 (by decide)), KX.al hXG4 (kne kf4 (by decide))⟩ (by show ¬ _; omega) (by show ¬ _; omega) (fun p hp => by show ¬ _; omega)
        have hSZG32 : ∀ k : Nat, k < 6 → gS G32 262149 k ≤ 200 := fun k hk => by rw [hfG32 262149 (KX.al hXG4 (kne k262149 (by decide))) (by show ¬ _; omega)]; exact hSZG4 k hk
        show WP kX2_linkType X 106 [some (2, ((327682 : Nat) : Int)), some (0, k), some (2, ((A : Nat) : Int)), some (2, ((B : Nat) : Int)), some (2, ((f : Nat) : Int)), none] [(0, rr33)] G32
        refine s_istore dX2_linkType_106 (by decide) (lv' := [some (2, ((327682 : Nat) : Int)), some (0, k), some (2, ((A : Nat) : Int)), some (2, ((B : Nat) : Int)), some (2, ((f : Nat) : Int)), some (0, rr33)]) rfl ?_
        refine s_aload_n dX2_linkType_108 rfl (Int.natCast_nonneg _) ?_
        have hk35 : gK G32 (327682) = (11, 0) := ((hXG32).k hk15 (by decide))
        refine s_alv (327682) (by simp) (fun al36 => ?_)
        have hv37 : gS G32 327682 6 = ((327691 : Nat) : Int) := by have h9 : (gS G32 327682 6) = 327691 := hCG32.1.v (j := 6) (by decide : cde 327682 = 502) al36 (by rw [hk35]; exact Nat.le_of_ble_eq_true rfl); omega
        refine s_getf (ci := 3) (k := 6) (C := RX2) (T := TX2) (N := 8) (n := 327682) (L := 0) (t := 2) dX2_linkType_109 rfl wi_70 m_582 (Nat.le_of_ble_eq_true rfl) rfl rfl hk35 hv37 ?_
        refine s_iload dX2_linkType_112 rfl ?_
        refine s_aload_n dX2_linkType_114 rfl (Int.natCast_nonneg _) ?_
        have hv38 : gS G32 327682 2 = ((262144 : Nat) : Int) := by have h9 : (gS G32 327682 2) = 262144 := hCG32.1.v (j := 2) (by decide : cde 327682 = 502) al36 (by rw [hk35]; exact Nat.le_of_ble_eq_true rfl); omega
        refine s_getf (ci := 3) (k := 2) (C := RX2) (T := TX2) (N := 8) (n := 327682) (L := 0) (t := 2) dX2_linkType_115 rfl wi_70 m_577 (Nat.le_of_ble_eq_true rfl) rfl rfl hk35 hv38 ?_
        have hk39 : gK G32 (262144) = (10, 0) := ((hXG32).k hk34 (by decide))
        refine s_alv (262144) (by simp) (fun al40 => ?_)
        have hv41 : gS G32 262144 3 = ((262148 : Nat) : Int) := by have h9 : (gS G32 262144 3) = (((262144 % 1048576) + 4 : Nat) : Int) := hCG32.1.v (j := 3) (by decide : cde 262144 = 400) al40 (by rw [hk39]; exact Nat.le_of_ble_eq_true rfl); omega
        refine s_getf (ci := 2) (k := 3) (C := RX1) (T := TX1) (N := 5) (n := 262144) (L := 0) (t := 2) dX2_linkType_118 rfl wi_66 m_579 (Nat.le_of_ble_eq_true rfl) rfl rfl hk39 hv41 ?_
        refine s_iload_n dX2_linkType_121 rfl ?_
        have hk42 : gK G32 (262148) = (4, 6) := ((hXG32).k ((hXG4).k k262148 (by decide)) (by decide))
        refine s_alv (262148) (by simp) (fun al43 => ?_)
        have hv45b : (gS G32 262148 (k : Int).toNat) = (((262148 % 1048576) + 12 + ((k : Int).toNat) : Nat) : Int) := hCG32.1.v (j := (k : Int).toNat) (by decide : cde 262148 = 404) al43 (by rw [hk42]; show (k : Int).toNat < 6; omega)
        obtain ⟨q44, hv45⟩ : ∃ q : Nat, gS G32 262148 (k : Int).toNat = (q : Int) := ⟨(gS G32 262148 (k : Int).toNat).toNat, by omega⟩
        rw [hv45] at hv45b
        refine s_aald4 dX2_linkType_122 hk42 (by omega) (by omega) hv45 ?_
        refine s_aload_n dX2_linkType_123 rfl (Int.natCast_nonneg _) ?_
        have hv46 : gS G32 327682 2 = ((262144 : Nat) : Int) := by have h9 : (gS G32 327682 2) = 262144 := hCG32.1.v (j := 2) (by decide : cde 327682 = 502) al36 (by rw [hk35]; exact Nat.le_of_ble_eq_true rfl); omega
        refine s_getf (ci := 3) (k := 2) (C := RX2) (T := TX2) (N := 8) (n := 327682) (L := 0) (t := 2) dX2_linkType_124 rfl wi_70 m_577 (Nat.le_of_ble_eq_true rfl) rfl rfl hk35 hv46 ?_
        have hv47 : gS G32 262144 4 = ((262149 : Nat) : Int) := by have h9 : (gS G32 262144 4) = (((262144 % 1048576) + 5 : Nat) : Int) := hCG32.1.v (j := 4) (by decide : cde 262144 = 400) al40 (by rw [hk39]; exact Nat.le_of_ble_eq_true rfl); omega
        refine s_getf (ci := 2) (k := 4) (C := RX1) (T := TX1) (N := 5) (n := 262144) (L := 0) (t := 2) dX2_linkType_127 rfl wi_66 m_578 (Nat.le_of_ble_eq_true rfl) rfl rfl hk39 hv47 ?_
        refine s_iload_n dX2_linkType_130 rfl ?_
        have hk48 : gK G32 (262149) = (1, 6) := ((hXG32).k ((hXG4).k k262149 (by decide)) (by decide))
        refine s_alv (262149) (by simp) (fun al49 => ?_)
        have hv50 : 0 ≤ (gS G32 262149 (k : Int).toNat) ∧ (gS G32 262149 (k : Int).toNat) ≤ 201 := hCG32.1.v (j := (k : Int).toNat) (by decide : cde 262149 = 405) al49 (by rw [hk48]; show (k : Int).toNat < 6; omega)
        refine s_iald dX2_linkType_131 hk48 (by omega) (by omega) rfl ?_
        have hk51 : gK G32 (327691) = (1, 200) := ((hXG32).k hk31 (by decide))
        refine s_alv (q44) (by simp) (fun al52 => ?_)
        have hk53 := hCG32.1.kf (show (408 ≤ cde q44 ∧ cde q44 < 414) ∨ (416 ≤ cde q44 ∧ cde q44 < 422) from by rw [cde_f (by omega) (by omega)]; omega) al52
        refine s_callSN (own := RX2) rfl (by decide +kernel) (as := [(2, ((327691 : Nat) : Int)), (0, rr33), (2, ((q44 : Nat) : Int)), (0, gS G32 262149 ((k : Int).toNat))]) (rest := []) gX11_isSameRow dX2_linkType_132 m_1778 m_714 m_98 ⟨by decide, by decide, show (parseMethodDescriptor yX11_isSameRow.desc).map (fun d => d.parameters.length) = some 4 from by decide +kernel⟩ (Nat.le_of_ble_eq_true rfl) (by rw [hcf]; exact Nat.le_of_ble_eq_true rfl) rfl (Nat.le_of_ble_eq_true rfl) ⟨327691, 200, rr33, q44, 200, gS G32 262149 ((k : Int).toNat), rfl, hk51, (by first | assumption | omega), hk53, (by first | assumption | omega), fun rr54 hp55 => ?_⟩
        show WP kX2_linkType X 135 [some (2, ((327682 : Nat) : Int)), some (0, k), some (2, ((A : Nat) : Int)), some (2, ((B : Nat) : Int)), some (2, ((f : Nat) : Int)), some (0, rr33)] [(0, rr54)] G32
        refine s_if_eq (tgt := 142) dX2_linkType_135 (by decide) (fun c56 => ?_) (fun c56 => ?_)
        · -- 135 to 142
          refine s_iconst dX2_linkType_142 (by decide) ?_
          refine s_iload_n dX2_linkType_143 rfl ?_
          refine s_callSN (own := RX2) rfl (by decide +kernel) (as := [(0, 4), (0, k)]) (rest := []) gX11_typeMistake dX2_linkType_144 m_1783 m_714 m_125 ⟨by decide, by decide, show (parseMethodDescriptor yX11_typeMistake.desc).map (fun d => d.parameters.length) = some 2 from by decide +kernel⟩ (Nat.le_of_ble_eq_true rfl) (by rw [hcf]; exact Nat.le_of_ble_eq_true rfl) rfl (Nat.le_of_ble_eq_true rfl) ⟨4, k, rfl, (by first | assumption | omega), (by first | assumption | omega), fun rr57 hp58 => ?_⟩
          show WP kX2_linkType X 147 [some (2, ((327682 : Nat) : Int)), some (0, k), some (2, ((A : Nat) : Int)), some (2, ((B : Nat) : Int)), some (2, ((f : Nat) : Int)), some (0, rr33)] [(0, rr57)] G32
          exact s_iret hR dX2_linkType_147 rfl (hQ rr57 G32 hCG32 (KX.trans hXG4 hXG32) hFG32 hFfG32)
        · -- 135 to 138
          refine s_iconst dX2_linkType_138 (by decide) ?_
          refine s_goto (tgt := 147) dX2_linkType_139 (by decide) ?_
          exact s_iret hR dX2_linkType_147 rfl (hQ 0 G32 hCG32 (KX.trans hXG4 hXG32) hFG32 hFfG32)
      · -- 78 to 81
        refine s_iconst dX2_linkType_81 (by decide) ?_
        exact s_iret hR dX2_linkType_82 rfl (hQ 0 G4 hCG4 hXG4 hFG4 hFfG4)
  refine s_if_le (tgt := 39) dX2_linkType_9 (by decide) (fun c59 => ?_) (fun c59 => ?_)
  · -- 9 to 39
    refine s_aload_n dX2_linkType_39 rfl (Int.natCast_nonneg _) ?_
    refine s_iload_n dX2_linkType_40 rfl ?_
    refine s_callV (as := [(0, k)]) (rest := []) (n := A) (ci := 1) gX0_hasType dX2_linkType_41 m_1317 m_738 m_1472 m_711 m_65 ⟨by decide, by decide, show (parseMethodDescriptor yX0_hasType.desc).map (fun d => d.parameters.length) = some 1 from by decide +kernel⟩ (Nat.le_of_ble_eq_true rfl) (by rw [hcf]; exact Nat.le_of_ble_eq_true rfl) kA0 rfl rfl (Nat.le_of_ble_eq_true rfl) ⟨A, k, a, b, rfl, hC, hab, (by first | assumption | omega), (by first | assumption | omega), fun rr60 hp61 => ?_⟩
    show WP kX2_linkType X 44 [some (2, ((327682 : Nat) : Int)), some (0, k), some (2, ((A : Nat) : Int)), some (2, ((B : Nat) : Int)), some (2, ((f : Nat) : Int)), none] [(0, rr60)] G
    refine s_if_ne (tgt := 55) dX2_linkType_44 (by decide) (fun c62 => ?_) (fun c62 => ?_)
    · -- 44 to 55
      refine s_aload dX2_linkType_55 rfl (Int.natCast_nonneg _) ?_
      refine s_iload_n dX2_linkType_57 rfl ?_
      refine s_callV (as := [(0, k)]) (rest := []) (n := f) (ci := 1) gX0_putTypeHole dX2_linkType_58 m_1318 m_749 m_1482 m_711 m_76 ⟨by decide, by decide, show (parseMethodDescriptor yX0_putTypeHole.desc).map (fun d => d.parameters.length) = some 1 from by decide +kernel⟩ (Nat.le_of_ble_eq_true rfl) (by rw [hcf]; exact Nat.le_of_ble_eq_true rfl) kf0 rfl rfl (Nat.le_of_ble_eq_true rfl) ⟨f, k, a, b, rfl, hC, hab, (by first | assumption | omega), (by first | assumption | omega), fun G63 hCG63 hXG63 hfG63 hpG63 => ?_⟩
      have hFG63 : WX (fun x => x = 327691 ∨ (f + 1 ≤ x ∧ x ≤ f + 22)) G G63 := WX.trans WX.rf KX.rf (WX.mono hfG63 (fun x hx => by omega))
      have hFIG63 : ∀ k : Nat, k < 6 → FIP P G63 262144 k := fun k hk => FIP.sm (hFI k hk) hXG63 hfG63 (by show ¬ _; omega) (congrFun (hfG63 262149 (KX.al KX.rf (kne k262149 (by decide))) (by show ¬ _; omega)) k)
      have hFfG63 : FPa P G63 f := (hFf).wx hXG63 hfG63 ⟨KX.al KX.rf (kne kf3 (by decide)), KX.al KX.rf (kne kf4 (by decide))⟩ (by show ¬ _; omega) (by show ¬ _; omega) (fun p hp => by show ¬ _; omega)
      have hSZG63 : ∀ k : Nat, k < 6 → gS G63 262149 k ≤ 200 := fun k hk => by rw [hfG63 262149 (KX.al KX.rf (kne k262149 (by decide))) (by show ¬ _; omega)]; exact hSZ k hk
      show WP kX2_linkType X 61 [some (2, ((327682 : Nat) : Int)), some (0, k), some (2, ((A : Nat) : Int)), some (2, ((B : Nat) : Int)), some (2, ((f : Nat) : Int)), none] [] G63
      exact K4 G63 hCG63 hXG63 hFG63 (⟨(by exact hFIG63), (by exact hFfG63), (by exact hSZG63)⟩)
    · -- 44 to 47
      refine s_aload_n dX2_linkType_47 rfl (Int.natCast_nonneg _) ?_
      refine s_iload_n dX2_linkType_48 rfl ?_
      refine s_callV (as := [(0, k)]) (rest := []) (n := B) (ci := 1) gX0_hasType dX2_linkType_49 m_1317 m_738 m_1472 m_711 m_65 ⟨by decide, by decide, show (parseMethodDescriptor yX0_hasType.desc).map (fun d => d.parameters.length) = some 1 from by decide +kernel⟩ (Nat.le_of_ble_eq_true rfl) (by rw [hcf]; exact Nat.le_of_ble_eq_true rfl) kB0 rfl rfl (Nat.le_of_ble_eq_true rfl) ⟨B, k, a, b, rfl, hC, hab, (by first | assumption | omega), (by first | assumption | omega), fun rr65 hp66 => ?_⟩
      show WP kX2_linkType X 52 [some (2, ((327682 : Nat) : Int)), some (0, k), some (2, ((A : Nat) : Int)), some (2, ((B : Nat) : Int)), some (2, ((f : Nat) : Int)), none] [(0, rr65)] G
      refine s_if_eq (tgt := 61) dX2_linkType_52 (by decide) (fun c67 => ?_) (fun c67 => ?_)
      · -- 52 to 61
        exact K4 G hC KX.rf WX.rf (⟨(by exact hFI), (by exact hFf), (by exact hSZ)⟩)
      · -- 52 to 55
        refine s_aload dX2_linkType_55 rfl (Int.natCast_nonneg _) ?_
        refine s_iload_n dX2_linkType_57 rfl ?_
        refine s_callV (as := [(0, k)]) (rest := []) (n := f) (ci := 1) gX0_putTypeHole dX2_linkType_58 m_1318 m_749 m_1482 m_711 m_76 ⟨by decide, by decide, show (parseMethodDescriptor yX0_putTypeHole.desc).map (fun d => d.parameters.length) = some 1 from by decide +kernel⟩ (Nat.le_of_ble_eq_true rfl) (by rw [hcf]; exact Nat.le_of_ble_eq_true rfl) kf0 rfl rfl (Nat.le_of_ble_eq_true rfl) ⟨f, k, a, b, rfl, hC, hab, (by first | assumption | omega), (by first | assumption | omega), fun G68 hCG68 hXG68 hfG68 hpG68 => ?_⟩
        have hFG68 : WX (fun x => x = 327691 ∨ (f + 1 ≤ x ∧ x ≤ f + 22)) G G68 := WX.trans WX.rf KX.rf (WX.mono hfG68 (fun x hx => by omega))
        have hFIG68 : ∀ k : Nat, k < 6 → FIP P G68 262144 k := fun k hk => FIP.sm (hFI k hk) hXG68 hfG68 (by show ¬ _; omega) (congrFun (hfG68 262149 (KX.al KX.rf (kne k262149 (by decide))) (by show ¬ _; omega)) k)
        have hFfG68 : FPa P G68 f := (hFf).wx hXG68 hfG68 ⟨KX.al KX.rf (kne kf3 (by decide)), KX.al KX.rf (kne kf4 (by decide))⟩ (by show ¬ _; omega) (by show ¬ _; omega) (fun p hp => by show ¬ _; omega)
        have hSZG68 : ∀ k : Nat, k < 6 → gS G68 262149 k ≤ 200 := fun k hk => by rw [hfG68 262149 (KX.al KX.rf (kne k262149 (by decide))) (by show ¬ _; omega)]; exact hSZ k hk
        show WP kX2_linkType X 61 [some (2, ((327682 : Nat) : Int)), some (0, k), some (2, ((A : Nat) : Int)), some (2, ((B : Nat) : Int)), some (2, ((f : Nat) : Int)), none] [] G68
        exact K4 G68 hCG68 hXG68 hFG68 (⟨(by exact hFIG68), (by exact hFfG68), (by exact hSZG68)⟩)
  · -- 9 to 12
    have hs9 := hSZ k.toNat (by omega)
    refine s_aload dX2_linkType_12 rfl (Int.natCast_nonneg _) ?_
    refine s_iload_n dX2_linkType_14 rfl ?_
    refine s_aload_n dX2_linkType_15 rfl (Int.natCast_nonneg _) ?_
    have hv70 : gS G 327682 2 = ((262144 : Nat) : Int) := by have h9 : (gS G 327682 2) = 262144 := hC.1.v (j := 2) (by decide : cde 327682 = 502) (kne k327682 (by decide)) (by rw [k327682]; exact Nat.le_of_ble_eq_true rfl); omega
    refine s_getf (ci := 3) (k := 2) (C := RX2) (T := TX2) (N := 8) (n := 327682) (L := 0) (t := 2) dX2_linkType_16 rfl wi_70 m_577 (Nat.le_of_ble_eq_true rfl) rfl rfl k327682 hv70 ?_
    have hv71 : gS G 262144 3 = ((262148 : Nat) : Int) := by have h9 : (gS G 262144 3) = (((262144 % 1048576) + 4 : Nat) : Int) := hC.1.v (j := 3) (by decide : cde 262144 = 400) (kne k262144 (by decide)) (by rw [k262144]; exact Nat.le_of_ble_eq_true rfl); omega
    refine s_getf (ci := 2) (k := 3) (C := RX1) (T := TX1) (N := 5) (n := 262144) (L := 0) (t := 2) dX2_linkType_19 rfl wi_66 m_579 (Nat.le_of_ble_eq_true rfl) rfl rfl k262144 hv71 ?_
    refine s_iload_n dX2_linkType_22 rfl ?_
    have hv73b : (gS G 262148 (k : Int).toNat) = (((262148 % 1048576) + 12 + ((k : Int).toNat) : Nat) : Int) := hC.1.v (j := (k : Int).toNat) (by decide : cde 262148 = 404) (kne k262148 (by decide)) (by rw [k262148]; show (k : Int).toNat < 6; omega)
    obtain ⟨q72, hv73⟩ : ∃ q : Nat, gS G 262148 (k : Int).toNat = (q : Int) := ⟨(gS G 262148 (k : Int).toNat).toNat, by omega⟩
    rw [hv73] at hv73b
    refine s_aald4 dX2_linkType_23 k262148 (by omega) (by omega) hv73 ?_
    refine s_aload_n dX2_linkType_24 rfl (Int.natCast_nonneg _) ?_
    have hv74 : gS G 327682 2 = ((262144 : Nat) : Int) := by have h9 : (gS G 327682 2) = 262144 := hC.1.v (j := 2) (by decide : cde 327682 = 502) (kne k327682 (by decide)) (by rw [k327682]; exact Nat.le_of_ble_eq_true rfl); omega
    refine s_getf (ci := 3) (k := 2) (C := RX2) (T := TX2) (N := 8) (n := 327682) (L := 0) (t := 2) dX2_linkType_25 rfl wi_70 m_577 (Nat.le_of_ble_eq_true rfl) rfl rfl k327682 hv74 ?_
    have hv75 : gS G 262144 4 = ((262149 : Nat) : Int) := by have h9 : (gS G 262144 4) = (((262144 % 1048576) + 5 : Nat) : Int) := hC.1.v (j := 4) (by decide : cde 262144 = 400) (kne k262144 (by decide)) (by rw [k262144]; exact Nat.le_of_ble_eq_true rfl); omega
    refine s_getf (ci := 2) (k := 4) (C := RX1) (T := TX1) (N := 5) (n := 262144) (L := 0) (t := 2) dX2_linkType_28 rfl wi_66 m_578 (Nat.le_of_ble_eq_true rfl) rfl rfl k262144 hv75 ?_
    refine s_iload_n dX2_linkType_31 rfl ?_
    have hv76 : 0 ≤ (gS G 262149 (k : Int).toNat) ∧ (gS G 262149 (k : Int).toNat) ≤ 201 := hC.1.v (j := (k : Int).toNat) (by decide : cde 262149 = 405) (kne k262149 (by decide)) (by rw [k262149]; show (k : Int).toNat < 6; omega)
    refine s_iald dX2_linkType_32 k262149 (by omega) (by omega) rfl ?_
    refine s_alv (q72) (by simp) (fun al77 => ?_)
    have hk78 := hC.1.kf (show (408 ≤ cde q72 ∧ cde q72 < 414) ∨ (416 ≤ cde q72 ∧ cde q72 < 422) from by rw [cde_f (by omega) (by omega)]; omega) al77
    refine s_callV (as := [(0, k), (2, ((q72 : Nat) : Int)), (0, gS G 262149 ((k : Int).toNat))]) (rest := []) (n := f) (ci := 1) gX0_putType dX2_linkType_33 m_1316 m_748 m_1481 m_711 m_75 ⟨by decide, by decide, show (parseMethodDescriptor yX0_putType.desc).map (fun d => d.parameters.length) = some 3 from by decide +kernel⟩ (Nat.le_of_ble_eq_true rfl) (by rw [hcf]; exact Nat.le_of_ble_eq_true rfl) kf0 rfl rfl (Nat.le_of_ble_eq_true rfl) ⟨f, k, q72, 200, gS G 262149 ((k : Int).toNat), a, b, rfl, hC, hab, (by first | assumption | omega), (by first | assumption | omega), hk78, (by first | assumption | omega), (by first | assumption | omega), (by first | assumption | omega), fun G79 hCG79 hXG79 hfG79 hpG79 => ?_⟩
    have hFG79 : WX (fun x => x = 327691 ∨ (f + 1 ≤ x ∧ x ≤ f + 22)) G G79 := WX.trans WX.rf KX.rf (WX.mono hfG79 (fun x hx => by omega))
    have hFIG79 : ∀ k : Nat, k < 6 → FIP P G79 262144 k := fun k hk => FIP.sm (hFI k hk) hXG79 hfG79 (by show ¬ _; omega) (congrFun (hfG79 262149 (KX.al KX.rf (kne k262149 (by decide))) (by show ¬ _; omega)) k)
    have hFfG79 : FPa P G79 f := FPa.put hpG79 hFf (fun _ z => RPs.at (hFI (k : Int).toNat (by omega) (by omega)) (by omega)) hXG79 hfG79 (fun p hp hn => by show ¬ _; omega)
    have hSZG79 : ∀ k : Nat, k < 6 → gS G79 262149 k ≤ 200 := fun k hk => by rw [hfG79 262149 (KX.al KX.rf (kne k262149 (by decide))) (by show ¬ _; omega)]; exact hSZ k hk
    show WP kX2_linkType X 36 [some (2, ((327682 : Nat) : Int)), some (0, k), some (2, ((A : Nat) : Int)), some (2, ((B : Nat) : Int)), some (2, ((f : Nat) : Int)), none] [] G79
    refine s_goto (tgt := 61) dX2_linkType_36 (by decide) ?_
    exact K4 G79 hCG79 hXG79 hFG79 (⟨(by exact hFIG79), (by exact hFfG79), (by exact hSZG79)⟩)

abbrev kX2_linkOne : KD := (RX2, cX2_linkOne, 5, (some .int), [])
def TX2_linkOne : TR := fun as G Qr => ∃ (P : Int → Prop) (k : Int) (A f : Nat) (a b : Nat), as = [(2, ((327682 : Nat) : Int)), (0, k), (2, ((A : Nat) : Int)), (2, ((f : Nat) : Int))] ∧ CI a b G ∧ (a ≤ 2840000 ∧ b ≤ 590000) ∧ (0 ≤ k ∧ k < 10) ∧ (isFc A) ∧ (isFc f) ∧ (A ≠ f) ∧ (∀ k : Nat, k < 6 → FIP P G 262144 k) ∧ (FPa P G A) ∧ (FPa P G f) ∧ ∀ (r : Int) (G' : LG), CI a b G' → KX G G' → WX (fun x => x = 327691 ∨ (f + 1 ≤ x ∧ x ≤ f + 22)) G G' → (FPa P G' f) → Qr (.inl (some (0, r))) G'
set_option maxHeartbeats 4000000 in
set_option maxRecDepth 100000 in
theorem gX2_linkOne : Good kX2_linkOne yX2_linkOne 3 TX2_linkOne := by
  refine good_of (by decide) rfl rfl (fun as G Qr h => ?_) (fun X as G Qr hcf hR hT oa => ?_)
  · obtain ⟨P, k, A, f, a, b, rfl, -⟩ := h; exact Nat.le_of_ble_eq_true rfl
  obtain ⟨P, k, A, f, a, b, rfl, hC, hab, hk, hA, hf, hne, hFI, hFA, hFf, hQ⟩ := hT
  show WP kX2_linkOne X 0 [some (2, ((327682 : Nat) : Int)), some (0, k), some (2, ((A : Nat) : Int)), some (2, ((f : Nat) : Int)), none] [] G
  have hr_k : inR k := okv_R (oa _ (by simp))
  refine s_alvl 327682 (k := 0) rfl (fun alZ => ?_)
  refine s_alvl A (k := 2) rfl (fun alA => ?_)
  refine s_alvl f (k := 3) rfl (fun alf => ?_)
  refine s_lk (fun hlk => ?_)
  have hfn := hlk.fna hC alZ
  obtain ⟨k327682, k327681, k327683, k262144, k262208, k327684, k68097, k327691, k327692, k262145, k262146, k262148, k262149, k262209, k262210, k262212, k262213, k327710, k327685, k327688⟩ := id hfn
  have hfA := hlk.fc hC hA alA
  obtain ⟨kA0, kA1, kA2, kA3, kA4, kA5, kA6⟩ := hfA.1
  have hff := hlk.fc hC hf alf
  obtain ⟨kf0, kf1, kf2, kf3, kf4, kf5, kf6⟩ := hff.1
  refine s_aload_n dX2_linkOne_0 rfl (Int.natCast_nonneg _) ?_
  have hv1 : gS G 327682 2 = ((262144 : Nat) : Int) := by have h9 : (gS G 327682 2) = 262144 := hC.1.v (j := 2) (by decide : cde 327682 = 502) (kne k327682 (by decide)) (by rw [k327682]; exact Nat.le_of_ble_eq_true rfl); omega
  refine s_getf (ci := 3) (k := 2) (C := RX2) (T := TX2) (N := 8) (n := 327682) (L := 0) (t := 2) dX2_linkOne_1 rfl wi_70 m_577 (Nat.le_of_ble_eq_true rfl) rfl rfl k327682 hv1 ?_
  refine s_aload_n dX2_linkOne_4 rfl (Int.natCast_nonneg _) ?_
  have hv2 : gS G A 3 = ((A + 3 : Nat) : Int) := by have h9 : (gS G A 3) = (((A % 1048576) + 3 : Nat) : Int) := hC.1.v (j := 3) (by rw [cde_n (by omega) (by omega)]; omega : cde A = 101) (kne kA0 (by decide)) (by rw [kA0]; exact Nat.le_of_ble_eq_true rfl); omega
  refine s_getf (ci := 1) (k := 3) (C := RX0) (T := TX0) (N := 7) (n := A) (L := 0) (t := 2) dX2_linkOne_5 rfl wi_65 m_574 (Nat.le_of_ble_eq_true rfl) rfl rfl kA0 hv2 ?_
  refine s_bipush dX2_linkOne_8 rfl (by decide) ?_
  refine s_iload_n dX2_linkOne_10 rfl ?_
  refine s_iadd dX2_linkOne_11 (by omega) ?_
  have hv4b : 0 ≤ (gS G (A + 3) (6 + k : Int).toNat) ∧ (gS G (A + 3) (6 + k : Int).toNat) % 1048576 = ((((A + 3) % 1048576) + 4 + ((6 + k : Int).toNat) : Nat) : Int) := hC.1.v (j := (6 + k : Int).toNat) (by rw [cde_n (by omega) (by omega)]; omega : cde (A + 3) = 104) (kne kA3 (by decide)) (by rw [kA3]; show (6 + k : Int).toNat < 16; omega)
  obtain ⟨q3, hv4⟩ : ∃ q : Nat, gS G (A + 3) (6 + k : Int).toNat = (q : Int) := ⟨(gS G (A + 3) (6 + k : Int).toNat).toNat, by omega⟩
  rw [hv4] at hv4b
  refine s_aald4 dX2_linkOne_12 kA3 (by omega) (by omega) hv4 ?_
  refine s_aload_n dX2_linkOne_13 rfl (Int.natCast_nonneg _) ?_
  have hv5 : gS G A 4 = ((A + 4 : Nat) : Int) := by have h9 : (gS G A 4) = (((A % 1048576) + 4 : Nat) : Int) := hC.1.v (j := 4) (by rw [cde_n (by omega) (by omega)]; omega : cde A = 101) (kne kA0 (by decide)) (by rw [kA0]; exact Nat.le_of_ble_eq_true rfl); omega
  refine s_getf (ci := 1) (k := 4) (C := RX0) (T := TX0) (N := 7) (n := A) (L := 0) (t := 2) dX2_linkOne_14 rfl wi_65 m_575 (Nat.le_of_ble_eq_true rfl) rfl rfl kA0 hv5 ?_
  refine s_bipush dX2_linkOne_17 rfl (by decide) ?_
  refine s_iload_n dX2_linkOne_19 rfl ?_
  refine s_iadd dX2_linkOne_20 (by omega) ?_
  have hv6 : 0 ≤ (gS G (A + 4) (6 + k : Int).toNat) ∧ (gS G (A + 4) (6 + k : Int).toNat) ≤ 200 := hC.1.v (j := (6 + k : Int).toNat) (by rw [cde_n (by omega) (by omega)]; omega : cde (A + 4) = 105) (kne kA4 (by decide)) (by rw [kA4]; show (6 + k : Int).toNat < 16; omega)
  refine s_iald dX2_linkOne_21 kA4 (by omega) (by omega) rfl ?_
  refine s_aload_n dX2_linkOne_22 rfl (Int.natCast_nonneg _) ?_
  have hv7 : gS G 327682 6 = ((327691 : Nat) : Int) := by have h9 : (gS G 327682 6) = 327691 := hC.1.v (j := 6) (by decide : cde 327682 = 502) (kne k327682 (by decide)) (by rw [k327682]; exact Nat.le_of_ble_eq_true rfl); omega
  refine s_getf (ci := 3) (k := 6) (C := RX2) (T := TX2) (N := 8) (n := 327682) (L := 0) (t := 2) dX2_linkOne_23 rfl wi_70 m_582 (Nat.le_of_ble_eq_true rfl) rfl rfl k327682 hv7 ?_
  refine s_alv (q3) (by simp) (fun al8 => ?_)
  obtain ⟨L10, hk9, hL10a, hL10b⟩ := hC.1.kr (show 108 ≤ cde q3 ∧ cde q3 < 124 from by rw [cde_n (by omega) (by omega)]; omega) al8
  refine s_callV (as := [(2, ((q3 : Nat) : Int)), (0, gS G (A + 4) ((6 + k : Int).toNat)), (2, ((327691 : Nat) : Int))]) (rest := []) (n := 262144) (ci := 2) gX1_put dX2_linkOne_26 m_1319 m_918 m_1493 m_712 m_260 ⟨by decide, by decide, show (parseMethodDescriptor yX1_put.desc).map (fun d => d.parameters.length) = some 3 from by decide +kernel⟩ (Nat.le_of_ble_eq_true rfl) (by rw [hcf]; exact Nat.le_of_ble_eq_true rfl) k262144 rfl rfl (Nat.le_of_ble_eq_true rfl) ⟨262144, q3, L10, gS G (A + 4) ((6 + k : Int).toNat), 327691, a, b, rfl, hC, hab, (by first | assumption | omega), hk9, (by omega), k327691, (by exact FRW.s), (by omega), (by omega), (by omega), fun rr12 G11 hCG11 hXG11 hfG11 hpG11 => ?_⟩
  have hFG11 : WX (fun x => x = 327691 ∨ (f + 1 ≤ x ∧ x ≤ f + 22)) G G11 := WX.trans WX.rf KX.rf (WX.mono hfG11 (fun x hx => by omega))
  have hFIG11 : ∀ k : Nat, k < 6 → FIP P G11 262144 k := fun k hk => FIP.sm (hFI k hk) hXG11 hfG11 (by show ¬ _; omega) (congrFun (hfG11 262149 (KX.al KX.rf (kne k262149 (by decide))) (by show ¬ _; omega)) k)
  have hFAG11 : FPa P G11 A := (hFA).wx hXG11 hfG11 ⟨KX.al KX.rf (kne kA3 (by decide)), KX.al KX.rf (kne kA4 (by decide))⟩ (by show ¬ _; omega) (by show ¬ _; omega) (fun p hp => by show ¬ _; omega)
  have hFfG11 : FPa P G11 f := (hFf).wx hXG11 hfG11 ⟨KX.al KX.rf (kne kf3 (by decide)), KX.al KX.rf (kne kf4 (by decide))⟩ (by show ¬ _; omega) (by show ¬ _; omega) (fun p hp => by show ¬ _; omega)
  show WP kX2_linkOne X 29 [some (2, ((327682 : Nat) : Int)), some (0, k), some (2, ((A : Nat) : Int)), some (2, ((f : Nat) : Int)), none] [(0, rr12)] G11
  refine s_istore dX2_linkOne_29 (by decide) (lv' := [some (2, ((327682 : Nat) : Int)), some (0, k), some (2, ((A : Nat) : Int)), some (2, ((f : Nat) : Int)), some (0, rr12)]) rfl ?_
  refine s_iload dX2_linkOne_31 rfl ?_
  refine s_sipush dX2_linkOne_33 rfl (by decide) ?_
  refine s_icmp_le (tgt := 46) dX2_linkOne_36 (by decide) (fun c13 => ?_) (fun c13 => ?_)
  · -- 36 to 46
    refine s_aload_n dX2_linkOne_46 rfl (Int.natCast_nonneg _) ?_
    refine s_iload_n dX2_linkOne_47 rfl ?_
    refine s_aload_n dX2_linkOne_48 rfl (Int.natCast_nonneg _) ?_
    have hk14 : gK G11 (A) = (9, 0) := ((hXG11).k kA0 (by decide))
    refine s_alv (A) (by simp) (fun al15 => ?_)
    have hv16 : gS G11 A 2 = ((A + 2 : Nat) : Int) := by have h9 : (gS G11 A 2) = (((A % 1048576) + 2 : Nat) : Int) := hCG11.1.v (j := 2) (by rw [cde_n (by omega) (by omega)]; omega : cde A = 101) al15 (by rw [hk14]; exact Nat.le_of_ble_eq_true rfl); omega
    refine s_getf (ci := 1) (k := 2) (C := RX0) (T := TX0) (N := 7) (n := A) (L := 0) (t := 2) dX2_linkOne_49 rfl wi_65 m_576 (Nat.le_of_ble_eq_true rfl) rfl rfl hk14 hv16 ?_
    refine s_iload_n dX2_linkOne_52 rfl ?_
    have hk17 : gK G11 (A + 2) = (1, 10) := ((hXG11).k kA2 (by decide))
    refine s_iald dX2_linkOne_53 hk17 (by omega) (by omega) rfl ?_
    refine s_aload_n dX2_linkOne_54 rfl (Int.natCast_nonneg _) ?_
    have hk18 : gK G11 (327682) = (11, 0) := ((hXG11).k k327682 (by decide))
    refine s_alv (327682) (by simp) (fun al19 => ?_)
    have hv20 : gS G11 327682 6 = ((327691 : Nat) : Int) := by have h9 : (gS G11 327682 6) = 327691 := hCG11.1.v (j := 6) (by decide : cde 327682 = 502) al19 (by rw [hk18]; exact Nat.le_of_ble_eq_true rfl); omega
    refine s_getf (ci := 3) (k := 6) (C := RX2) (T := TX2) (N := 8) (n := 327682) (L := 0) (t := 2) dX2_linkOne_55 rfl wi_70 m_582 (Nat.le_of_ble_eq_true rfl) rfl rfl hk18 hv20 ?_
    refine s_iload dX2_linkOne_58 rfl ?_
    have hk21 : gK G11 (327691) = (1, 200) := ((hXG11).k k327691 (by decide))
    have hk24 : gK G11 (f) = (9, 0) := ((hXG11).k kf0 (by decide))
    refine s_callV (as := [(0, k), (0, gS G11 (A + 2) ((k : Int).toNat)), (2, ((327691 : Nat) : Int)), (0, rr12)]) (rest := []) (n := f) (ci := 1) gX0_putValue dX2_linkOne_60 m_1320 m_750 m_1483 m_711 m_77 ⟨by decide, by decide, show (parseMethodDescriptor yX0_putValue.desc).map (fun d => d.parameters.length) = some 4 from by decide +kernel⟩ (Nat.le_of_ble_eq_true rfl) (by rw [hcf]; exact Nat.le_of_ble_eq_true rfl) hk24 rfl rfl (Nat.le_of_ble_eq_true rfl) ⟨f, k, gS G11 (A + 2) ((k : Int).toNat), 327691, 200, rr12, a, b, rfl, hCG11, hab, (by first | assumption | omega), (by first | assumption | omega), hk21, (by first | assumption | omega), (by first | assumption | omega), (by first | assumption | omega), fun G22 hCG22 hXG22 hfG22 hpG22 => ?_⟩
    have hFG22 : WX (fun x => x = 327691 ∨ (f + 1 ≤ x ∧ x ≤ f + 22)) G G22 := WX.trans hFG11 hXG11 (WX.mono hfG22 (fun x hx => by omega))
    have hFIG22 : ∀ k : Nat, k < 6 → FIP P G22 262144 k := fun k hk => FIP.sm (hFIG11 k hk) hXG22 hfG22 (by show ¬ _; omega) (congrFun (hfG22 262149 (KX.al hXG11 (kne k262149 (by decide))) (by show ¬ _; omega)) k)
    have hFAG22 : FPa P G22 A := (hFAG11).wx hXG22 hfG22 ⟨KX.al hXG11 (kne kA3 (by decide)), KX.al hXG11 (kne kA4 (by decide))⟩ (by show ¬ _; omega) (by show ¬ _; omega) (fun p hp => by show ¬ _; omega)
    have hFfG22 : FPa P G22 f := FPa.put hpG22.1 hFfG11 (fun _ _ => hpG11.2 P ((hFA (6 + k : Int).toNat (by omega)).rps hv4 rfl) hFI (by omega)) hXG22 hfG22 (fun p hp hn => by show ¬ _; omega)
    show WP kX2_linkOne X 63 [some (2, ((327682 : Nat) : Int)), some (0, k), some (2, ((A : Nat) : Int)), some (2, ((f : Nat) : Int)), some (0, rr12)] [] G22
    refine s_aload_n dX2_linkOne_63 rfl (Int.natCast_nonneg _) ?_
    refine s_iload_n dX2_linkOne_64 rfl ?_
    refine s_aload_n dX2_linkOne_65 rfl (Int.natCast_nonneg _) ?_
    refine s_iload_n dX2_linkOne_66 rfl ?_
    have hk27 : gK G22 (f) = (9, 0) := ((hXG22).k hk24 (by decide))
    refine s_callV (as := [(0, k), (2, ((A : Nat) : Int)), (0, k)]) (rest := []) (n := f) (ci := 1) gX0_putNumberOf dX2_linkOne_67 m_1321 m_745 m_1478 m_711 m_72 ⟨by decide, by decide, show (parseMethodDescriptor yX0_putNumberOf.desc).map (fun d => d.parameters.length) = some 3 from by decide +kernel⟩ (Nat.le_of_ble_eq_true rfl) (by rw [hcf]; exact Nat.le_of_ble_eq_true rfl) hk27 rfl rfl (Nat.le_of_ble_eq_true rfl) ⟨f, k, A, k, a, b, rfl, hCG22, hab, (by first | assumption | omega), (by first | assumption | omega), (by first | assumption | omega), (by first | assumption | omega), fun G25 hCG25 hXG25 hfG25 hpG25 => ?_⟩
    have hFG25 : WX (fun x => x = 327691 ∨ (f + 1 ≤ x ∧ x ≤ f + 22)) G G25 := WX.trans hFG22 (KX.trans hXG11 hXG22) (WX.mono hfG25 (fun x hx => by omega))
    have hFIG25 : ∀ k : Nat, k < 6 → FIP P G25 262144 k := fun k hk => FIP.sm (hFIG22 k hk) hXG25 hfG25 (by show ¬ _; omega) (congrFun (hfG25 262149 (KX.al (KX.trans hXG11 hXG22) (kne k262149 (by decide))) (by show ¬ _; omega)) k)
    have hFAG25 : FPa P G25 A := (hFAG22).wx hXG25 hfG25 ⟨KX.al (KX.trans hXG11 hXG22) (kne kA3 (by decide)), KX.al (KX.trans hXG11 hXG22) (kne kA4 (by decide))⟩ (by show ¬ _; omega) (by show ¬ _; omega) (fun p hp => by show ¬ _; omega)
    have hFfG25 : FPa P G25 f := (hFfG22).wx hXG25 hfG25 ⟨KX.al (KX.trans hXG11 hXG22) (kne kf3 (by decide)), KX.al (KX.trans hXG11 hXG22) (kne kf4 (by decide))⟩ (by show ¬ _; omega) (by show ¬ _; omega) (fun p hp => by show ¬ _; omega)
    show WP kX2_linkOne X 70 [some (2, ((327682 : Nat) : Int)), some (0, k), some (2, ((A : Nat) : Int)), some (2, ((f : Nat) : Int)), some (0, rr12)] [] G25
    refine s_iconst dX2_linkOne_70 (by decide) ?_
    exact s_iret hR dX2_linkOne_71 rfl (hQ 0 G25 hCG25 (KX.trans (KX.trans hXG11 hXG22) hXG25) hFG25 hFfG25)
  · -- 36 to 39
    refine s_bipush dX2_linkOne_39 rfl (by decide) ?_
    refine s_iload_n dX2_linkOne_41 rfl ?_
    refine s_callSN (own := RX2) rfl (by decide +kernel) (as := [(0, 7), (0, k)]) (rest := []) gX11_valueMistake dX2_linkOne_42 m_1784 m_714 m_129 ⟨by decide, by decide, show (parseMethodDescriptor yX11_valueMistake.desc).map (fun d => d.parameters.length) = some 2 from by decide +kernel⟩ (Nat.le_of_ble_eq_true rfl) (by rw [hcf]; exact Nat.le_of_ble_eq_true rfl) rfl (Nat.le_of_ble_eq_true rfl) ⟨7, k, rfl, (by first | assumption | omega), (by first | assumption | omega), fun rr28 hp29 => ?_⟩
    show WP kX2_linkOne X 45 [some (2, ((327682 : Nat) : Int)), some (0, k), some (2, ((A : Nat) : Int)), some (2, ((f : Nat) : Int)), some (0, rr12)] [(0, rr28)] G11
    exact s_iret hR dX2_linkOne_45 rfl (hQ rr28 G11 hCG11 hXG11 hFG11 hFfG11)

abbrev kX2_linkBoth : KD := (RX2, cX2_linkBoth, 9, (some .int), [])
def TX2_linkBoth : TR := fun as G Qr => ∃ (P : Int → Prop) (k : Int) (A B f : Nat) (a b : Nat), as = [(2, ((327682 : Nat) : Int)), (0, k), (2, ((A : Nat) : Int)), (2, ((B : Nat) : Int)), (2, ((f : Nat) : Int))] ∧ CI a b G ∧ (a ≤ 2840000 ∧ b ≤ 590000) ∧ (0 ≤ k ∧ k < 10) ∧ (isFc A) ∧ (isFc B) ∧ (isFc f) ∧ (A ≠ f ∧ B ≠ f) ∧ (∀ k : Nat, k < 6 → FIP P G 262144 k) ∧ (FPa P G A) ∧ (FPa P G B) ∧ (FPa P G f) ∧ ∀ (r : Int) (G' : LG), CI a b G' → KX G G' → WX (fun x => x = 327691 ∨ x = 327692 ∨ (f + 1 ≤ x ∧ x ≤ f + 22)) G G' → (FPa P G' f) → Qr (.inl (some (0, r))) G'
set_option maxHeartbeats 4000000 in
set_option maxRecDepth 100000 in
theorem gX2_linkBoth : Good kX2_linkBoth yX2_linkBoth 3 TX2_linkBoth := by
  refine good_of (by decide) rfl rfl (fun as G Qr h => ?_) (fun X as G Qr hcf hR hT oa => ?_)
  · obtain ⟨P, k, A, B, f, a, b, rfl, -⟩ := h; exact Nat.le_of_ble_eq_true rfl
  obtain ⟨P, k, A, B, f, a, b, rfl, hC, hab, hk, hA, hB, hf, hne, hFI, hFA, hFB, hFf, hQ⟩ := hT
  show WP kX2_linkBoth X 0 [some (2, ((327682 : Nat) : Int)), some (0, k), some (2, ((A : Nat) : Int)), some (2, ((B : Nat) : Int)), some (2, ((f : Nat) : Int)), none, none, none, none] [] G
  have hr_k : inR k := okv_R (oa _ (by simp))
  refine s_alvl 327682 (k := 0) rfl (fun alZ => ?_)
  refine s_alvl A (k := 2) rfl (fun alA => ?_)
  refine s_alvl B (k := 3) rfl (fun alB => ?_)
  refine s_alvl f (k := 4) rfl (fun alf => ?_)
  refine s_lk (fun hlk => ?_)
  have hfn := hlk.fna hC alZ
  obtain ⟨k327682, k327681, k327683, k262144, k262208, k327684, k68097, k327691, k327692, k262145, k262146, k262148, k262149, k262209, k262210, k262212, k262213, k327710, k327685, k327688⟩ := id hfn
  have hfA := hlk.fc hC hA alA
  obtain ⟨kA0, kA1, kA2, kA3, kA4, kA5, kA6⟩ := hfA.1
  have hfB := hlk.fc hC hB alB
  obtain ⟨kB0, kB1, kB2, kB3, kB4, kB5, kB6⟩ := hfB.1
  have hff := hlk.fc hC hf alf
  obtain ⟨kf0, kf1, kf2, kf3, kf4, kf5, kf6⟩ := hff.1
  refine s_aload_n dX2_linkBoth_0 rfl (Int.natCast_nonneg _) ?_
  have hv1 : gS G 327682 2 = ((262144 : Nat) : Int) := by have h9 : (gS G 327682 2) = 262144 := hC.1.v (j := 2) (by decide : cde 327682 = 502) (kne k327682 (by decide)) (by rw [k327682]; exact Nat.le_of_ble_eq_true rfl); omega
  refine s_getf (ci := 3) (k := 2) (C := RX2) (T := TX2) (N := 8) (n := 327682) (L := 0) (t := 2) dX2_linkBoth_1 rfl wi_70 m_577 (Nat.le_of_ble_eq_true rfl) rfl rfl k327682 hv1 ?_
  refine s_aload_n dX2_linkBoth_4 rfl (Int.natCast_nonneg _) ?_
  have hv2 : gS G A 3 = ((A + 3 : Nat) : Int) := by have h9 : (gS G A 3) = (((A % 1048576) + 3 : Nat) : Int) := hC.1.v (j := 3) (by rw [cde_n (by omega) (by omega)]; omega : cde A = 101) (kne kA0 (by decide)) (by rw [kA0]; exact Nat.le_of_ble_eq_true rfl); omega
  refine s_getf (ci := 1) (k := 3) (C := RX0) (T := TX0) (N := 7) (n := A) (L := 0) (t := 2) dX2_linkBoth_5 rfl wi_65 m_574 (Nat.le_of_ble_eq_true rfl) rfl rfl kA0 hv2 ?_
  refine s_bipush dX2_linkBoth_8 rfl (by decide) ?_
  refine s_iload_n dX2_linkBoth_10 rfl ?_
  refine s_iadd dX2_linkBoth_11 (by omega) ?_
  have hv4b : 0 ≤ (gS G (A + 3) (6 + k : Int).toNat) ∧ (gS G (A + 3) (6 + k : Int).toNat) % 1048576 = ((((A + 3) % 1048576) + 4 + ((6 + k : Int).toNat) : Nat) : Int) := hC.1.v (j := (6 + k : Int).toNat) (by rw [cde_n (by omega) (by omega)]; omega : cde (A + 3) = 104) (kne kA3 (by decide)) (by rw [kA3]; show (6 + k : Int).toNat < 16; omega)
  obtain ⟨q3, hv4⟩ : ∃ q : Nat, gS G (A + 3) (6 + k : Int).toNat = (q : Int) := ⟨(gS G (A + 3) (6 + k : Int).toNat).toNat, by omega⟩
  rw [hv4] at hv4b
  refine s_aald4 dX2_linkBoth_12 kA3 (by omega) (by omega) hv4 ?_
  refine s_aload_n dX2_linkBoth_13 rfl (Int.natCast_nonneg _) ?_
  have hv5 : gS G A 4 = ((A + 4 : Nat) : Int) := by have h9 : (gS G A 4) = (((A % 1048576) + 4 : Nat) : Int) := hC.1.v (j := 4) (by rw [cde_n (by omega) (by omega)]; omega : cde A = 101) (kne kA0 (by decide)) (by rw [kA0]; exact Nat.le_of_ble_eq_true rfl); omega
  refine s_getf (ci := 1) (k := 4) (C := RX0) (T := TX0) (N := 7) (n := A) (L := 0) (t := 2) dX2_linkBoth_14 rfl wi_65 m_575 (Nat.le_of_ble_eq_true rfl) rfl rfl kA0 hv5 ?_
  refine s_bipush dX2_linkBoth_17 rfl (by decide) ?_
  refine s_iload_n dX2_linkBoth_19 rfl ?_
  refine s_iadd dX2_linkBoth_20 (by omega) ?_
  have hv6 : 0 ≤ (gS G (A + 4) (6 + k : Int).toNat) ∧ (gS G (A + 4) (6 + k : Int).toNat) ≤ 200 := hC.1.v (j := (6 + k : Int).toNat) (by rw [cde_n (by omega) (by omega)]; omega : cde (A + 4) = 105) (kne kA4 (by decide)) (by rw [kA4]; show (6 + k : Int).toNat < 16; omega)
  refine s_iald dX2_linkBoth_21 kA4 (by omega) (by omega) rfl ?_
  refine s_aload_n dX2_linkBoth_22 rfl (Int.natCast_nonneg _) ?_
  have hv7 : gS G 327682 6 = ((327691 : Nat) : Int) := by have h9 : (gS G 327682 6) = 327691 := hC.1.v (j := 6) (by decide : cde 327682 = 502) (kne k327682 (by decide)) (by rw [k327682]; exact Nat.le_of_ble_eq_true rfl); omega
  refine s_getf (ci := 3) (k := 6) (C := RX2) (T := TX2) (N := 8) (n := 327682) (L := 0) (t := 2) dX2_linkBoth_23 rfl wi_70 m_582 (Nat.le_of_ble_eq_true rfl) rfl rfl k327682 hv7 ?_
  refine s_alv (q3) (by simp) (fun al8 => ?_)
  obtain ⟨L10, hk9, hL10a, hL10b⟩ := hC.1.kr (show 108 ≤ cde q3 ∧ cde q3 < 124 from by rw [cde_n (by omega) (by omega)]; omega) al8
  refine s_callV (as := [(2, ((q3 : Nat) : Int)), (0, gS G (A + 4) ((6 + k : Int).toNat)), (2, ((327691 : Nat) : Int))]) (rest := []) (n := 262144) (ci := 2) gX1_put dX2_linkBoth_26 m_1319 m_918 m_1493 m_712 m_260 ⟨by decide, by decide, show (parseMethodDescriptor yX1_put.desc).map (fun d => d.parameters.length) = some 3 from by decide +kernel⟩ (Nat.le_of_ble_eq_true rfl) (by rw [hcf]; exact Nat.le_of_ble_eq_true rfl) k262144 rfl rfl (Nat.le_of_ble_eq_true rfl) ⟨262144, q3, L10, gS G (A + 4) ((6 + k : Int).toNat), 327691, a, b, rfl, hC, hab, (by first | assumption | omega), hk9, (by omega), k327691, (by exact FRW.s), (by omega), (by omega), (by omega), fun rr12 G11 hCG11 hXG11 hfG11 hpG11 => ?_⟩
  have hFG11 : WX (fun x => x = 327691 ∨ x = 327692 ∨ (f + 1 ≤ x ∧ x ≤ f + 22)) G G11 := WX.trans WX.rf KX.rf (WX.mono hfG11 (fun x hx => by omega))
  have hFIG11 : ∀ k : Nat, k < 6 → FIP P G11 262144 k := fun k hk => FIP.sm (hFI k hk) hXG11 hfG11 (by show ¬ _; omega) (congrFun (hfG11 262149 (KX.al KX.rf (kne k262149 (by decide))) (by show ¬ _; omega)) k)
  have hFAG11 : FPa P G11 A := (hFA).wx hXG11 hfG11 ⟨KX.al KX.rf (kne kA3 (by decide)), KX.al KX.rf (kne kA4 (by decide))⟩ (by show ¬ _; omega) (by show ¬ _; omega) (fun p hp => by show ¬ _; omega)
  have hFBG11 : FPa P G11 B := (hFB).wx hXG11 hfG11 ⟨KX.al KX.rf (kne kB3 (by decide)), KX.al KX.rf (kne kB4 (by decide))⟩ (by show ¬ _; omega) (by show ¬ _; omega) (fun p hp => by show ¬ _; omega)
  have hFfG11 : FPa P G11 f := (hFf).wx hXG11 hfG11 ⟨KX.al KX.rf (kne kf3 (by decide)), KX.al KX.rf (kne kf4 (by decide))⟩ (by show ¬ _; omega) (by show ¬ _; omega) (fun p hp => by show ¬ _; omega)
  show WP kX2_linkBoth X 29 [some (2, ((327682 : Nat) : Int)), some (0, k), some (2, ((A : Nat) : Int)), some (2, ((B : Nat) : Int)), some (2, ((f : Nat) : Int)), none, none, none, none] [(0, rr12)] G11
  refine s_istore dX2_linkBoth_29 (by decide) (lv' := [some (2, ((327682 : Nat) : Int)), some (0, k), some (2, ((A : Nat) : Int)), some (2, ((B : Nat) : Int)), some (2, ((f : Nat) : Int)), some (0, rr12), none, none, none]) rfl ?_
  refine s_aload_n dX2_linkBoth_31 rfl (Int.natCast_nonneg _) ?_
  have hk13 : gK G11 (327682) = (11, 0) := ((hXG11).k k327682 (by decide))
  refine s_alv (327682) (by simp) (fun al14 => ?_)
  have hv15 : gS G11 327682 2 = ((262144 : Nat) : Int) := by have h9 : (gS G11 327682 2) = 262144 := hCG11.1.v (j := 2) (by decide : cde 327682 = 502) al14 (by rw [hk13]; exact Nat.le_of_ble_eq_true rfl); omega
  refine s_getf (ci := 3) (k := 2) (C := RX2) (T := TX2) (N := 8) (n := 327682) (L := 0) (t := 2) dX2_linkBoth_32 rfl wi_70 m_577 (Nat.le_of_ble_eq_true rfl) rfl rfl hk13 hv15 ?_
  refine s_aload_n dX2_linkBoth_35 rfl (Int.natCast_nonneg _) ?_
  have hk16 : gK G11 (B) = (9, 0) := ((hXG11).k kB0 (by decide))
  refine s_alv (B) (by simp) (fun al17 => ?_)
  have hv18 : gS G11 B 3 = ((B + 3 : Nat) : Int) := by have h9 : (gS G11 B 3) = (((B % 1048576) + 3 : Nat) : Int) := hCG11.1.v (j := 3) (by rw [cde_n (by omega) (by omega)]; omega : cde B = 101) al17 (by rw [hk16]; exact Nat.le_of_ble_eq_true rfl); omega
  refine s_getf (ci := 1) (k := 3) (C := RX0) (T := TX0) (N := 7) (n := B) (L := 0) (t := 2) dX2_linkBoth_36 rfl wi_65 m_574 (Nat.le_of_ble_eq_true rfl) rfl rfl hk16 hv18 ?_
  refine s_bipush dX2_linkBoth_39 rfl (by decide) ?_
  refine s_iload_n dX2_linkBoth_41 rfl ?_
  refine s_iadd dX2_linkBoth_42 (by omega) ?_
  have hk19 : gK G11 (B + 3) = (4, 16) := ((hXG11).k kB3 (by decide))
  refine s_alv (B + 3) (by simp) (fun al20 => ?_)
  have hv22b : 0 ≤ (gS G11 (B + 3) (6 + k : Int).toNat) ∧ (gS G11 (B + 3) (6 + k : Int).toNat) % 1048576 = ((((B + 3) % 1048576) + 4 + ((6 + k : Int).toNat) : Nat) : Int) := hCG11.1.v (j := (6 + k : Int).toNat) (by rw [cde_n (by omega) (by omega)]; omega : cde (B + 3) = 104) al20 (by rw [hk19]; show (6 + k : Int).toNat < 16; omega)
  obtain ⟨q21, hv22⟩ : ∃ q : Nat, gS G11 (B + 3) (6 + k : Int).toNat = (q : Int) := ⟨(gS G11 (B + 3) (6 + k : Int).toNat).toNat, by omega⟩
  rw [hv22] at hv22b
  refine s_aald4 dX2_linkBoth_43 hk19 (by omega) (by omega) hv22 ?_
  refine s_aload_n dX2_linkBoth_44 rfl (Int.natCast_nonneg _) ?_
  have hv23 : gS G11 B 4 = ((B + 4 : Nat) : Int) := by have h9 : (gS G11 B 4) = (((B % 1048576) + 4 : Nat) : Int) := hCG11.1.v (j := 4) (by rw [cde_n (by omega) (by omega)]; omega : cde B = 101) al17 (by rw [hk16]; exact Nat.le_of_ble_eq_true rfl); omega
  refine s_getf (ci := 1) (k := 4) (C := RX0) (T := TX0) (N := 7) (n := B) (L := 0) (t := 2) dX2_linkBoth_45 rfl wi_65 m_575 (Nat.le_of_ble_eq_true rfl) rfl rfl hk16 hv23 ?_
  refine s_bipush dX2_linkBoth_48 rfl (by decide) ?_
  refine s_iload_n dX2_linkBoth_50 rfl ?_
  refine s_iadd dX2_linkBoth_51 (by omega) ?_
  have hk24 : gK G11 (B + 4) = (1, 16) := ((hXG11).k kB4 (by decide))
  refine s_alv (B + 4) (by simp) (fun al25 => ?_)
  have hv26 : 0 ≤ (gS G11 (B + 4) (6 + k : Int).toNat) ∧ (gS G11 (B + 4) (6 + k : Int).toNat) ≤ 200 := hCG11.1.v (j := (6 + k : Int).toNat) (by rw [cde_n (by omega) (by omega)]; omega : cde (B + 4) = 105) al25 (by rw [hk24]; show (6 + k : Int).toNat < 16; omega)
  refine s_iald dX2_linkBoth_52 hk24 (by omega) (by omega) rfl ?_
  refine s_aload_n dX2_linkBoth_53 rfl (Int.natCast_nonneg _) ?_
  have hv27 : gS G11 327682 7 = ((327692 : Nat) : Int) := by have h9 : (gS G11 327682 7) = 327692 := hCG11.1.v (j := 7) (by decide : cde 327682 = 502) al14 (by rw [hk13]; exact Nat.le_of_ble_eq_true rfl); omega
  refine s_getf (ci := 3) (k := 7) (C := RX2) (T := TX2) (N := 8) (n := 327682) (L := 0) (t := 2) dX2_linkBoth_54 rfl wi_70 m_583 (Nat.le_of_ble_eq_true rfl) rfl rfl hk13 hv27 ?_
  refine s_alv (q21) (by simp) (fun al28 => ?_)
  obtain ⟨L30, hk29, hL30a, hL30b⟩ := hCG11.1.kr (show 108 ≤ cde q21 ∧ cde q21 < 124 from by rw [cde_n (by omega) (by omega)]; omega) al28
  have hk31 : gK G11 (327692) = (1, 200) := ((hXG11).k k327692 (by decide))
  have hk34 : gK G11 (262144) = (10, 0) := ((hXG11).k k262144 (by decide))
  refine s_callV (as := [(2, ((q21 : Nat) : Int)), (0, gS G11 (B + 4) ((6 + k : Int).toNat)), (2, ((327692 : Nat) : Int))]) (rest := []) (n := 262144) (ci := 2) gX1_put dX2_linkBoth_57 m_1319 m_918 m_1493 m_712 m_260 ⟨by decide, by decide, show (parseMethodDescriptor yX1_put.desc).map (fun d => d.parameters.length) = some 3 from by decide +kernel⟩ (Nat.le_of_ble_eq_true rfl) (by rw [hcf]; exact Nat.le_of_ble_eq_true rfl) hk34 rfl rfl (Nat.le_of_ble_eq_true rfl) ⟨262144, q21, L30, gS G11 (B + 4) ((6 + k : Int).toNat), 327692, a, b, rfl, hCG11, hab, (by first | assumption | omega), hk29, (by omega), hk31, (by exact FRW.o), (by omega), (by omega), (by omega), fun rr33 G32 hCG32 hXG32 hfG32 hpG32 => ?_⟩
  have hFG32 : WX (fun x => x = 327691 ∨ x = 327692 ∨ (f + 1 ≤ x ∧ x ≤ f + 22)) G G32 := WX.trans hFG11 hXG11 (WX.mono hfG32 (fun x hx => by omega))
  have hFIG32 : ∀ k : Nat, k < 6 → FIP P G32 262144 k := fun k hk => FIP.sm (hFIG11 k hk) hXG32 hfG32 (by show ¬ _; omega) (congrFun (hfG32 262149 (KX.al hXG11 (kne k262149 (by decide))) (by show ¬ _; omega)) k)
  have hFAG32 : FPa P G32 A := (hFAG11).wx hXG32 hfG32 ⟨KX.al hXG11 (kne kA3 (by decide)), KX.al hXG11 (kne kA4 (by decide))⟩ (by show ¬ _; omega) (by show ¬ _; omega) (fun p hp => by show ¬ _; omega)
  have hFBG32 : FPa P G32 B := (hFBG11).wx hXG32 hfG32 ⟨KX.al hXG11 (kne kB3 (by decide)), KX.al hXG11 (kne kB4 (by decide))⟩ (by show ¬ _; omega) (by show ¬ _; omega) (fun p hp => by show ¬ _; omega)
  have hFfG32 : FPa P G32 f := (hFfG11).wx hXG32 hfG32 ⟨KX.al hXG11 (kne kf3 (by decide)), KX.al hXG11 (kne kf4 (by decide))⟩ (by show ¬ _; omega) (by show ¬ _; omega) (fun p hp => by show ¬ _; omega)
  show WP kX2_linkBoth X 60 [some (2, ((327682 : Nat) : Int)), some (0, k), some (2, ((A : Nat) : Int)), some (2, ((B : Nat) : Int)), some (2, ((f : Nat) : Int)), some (0, rr12), none, none, none] [(0, rr33)] G32
  refine s_istore dX2_linkBoth_60 (by decide) (lv' := [some (2, ((327682 : Nat) : Int)), some (0, k), some (2, ((A : Nat) : Int)), some (2, ((B : Nat) : Int)), some (2, ((f : Nat) : Int)), some (0, rr12), some (0, rr33), none, none]) rfl ?_
  have K35 : (True) → WP kX2_linkBoth X 85 [some (2, ((327682 : Nat) : Int)), some (0, k), some (2, ((A : Nat) : Int)), some (2, ((B : Nat) : Int)), some (2, ((f : Nat) : Int)), some (0, rr12), some (0, rr33), none, none] [] G32 := by
    intro hi35
    have K36 : (True) → WP kX2_linkBoth X 107 [some (2, ((327682 : Nat) : Int)), some (0, k), some (2, ((A : Nat) : Int)), some (2, ((B : Nat) : Int)), some (2, ((f : Nat) : Int)), some (0, rr12), some (0, rr33), none, none] [] G32 := by
      intro hi36
      refine s_aload_n dX2_linkBoth_107 rfl (Int.natCast_nonneg _) ?_
      have hk37 : gK G32 (327682) = (11, 0) := ((hXG32).k hk13 (by decide))
      refine s_alv (327682) (by simp) (fun al38 => ?_)
      have hv39 : gS G32 327682 6 = ((327691 : Nat) : Int) := by have h9 : (gS G32 327682 6) = 327691 := hCG32.1.v (j := 6) (by decide : cde 327682 = 502) al38 (by rw [hk37]; exact Nat.le_of_ble_eq_true rfl); omega
      refine s_getf (ci := 3) (k := 6) (C := RX2) (T := TX2) (N := 8) (n := 327682) (L := 0) (t := 2) dX2_linkBoth_108 rfl wi_70 m_582 (Nat.le_of_ble_eq_true rfl) rfl rfl hk37 hv39 ?_
      refine s_iload dX2_linkBoth_111 rfl ?_
      refine s_aload_n dX2_linkBoth_113 rfl (Int.natCast_nonneg _) ?_
      have hv40 : gS G32 327682 7 = ((327692 : Nat) : Int) := by have h9 : (gS G32 327682 7) = 327692 := hCG32.1.v (j := 7) (by decide : cde 327682 = 502) al38 (by rw [hk37]; exact Nat.le_of_ble_eq_true rfl); omega
      refine s_getf (ci := 3) (k := 7) (C := RX2) (T := TX2) (N := 8) (n := 327682) (L := 0) (t := 2) dX2_linkBoth_114 rfl wi_70 m_583 (Nat.le_of_ble_eq_true rfl) rfl rfl hk37 hv40 ?_
      refine s_iload dX2_linkBoth_117 rfl ?_
      have hk41 : gK G32 (327691) = (1, 200) := ((hXG32).k ((hXG11).k k327691 (by decide)) (by decide))
      have hk42 : gK G32 (327692) = (1, 200) := ((hXG32).k hk31 (by decide))
      refine s_callSN (own := RX2) rfl (by decide +kernel) (as := [(2, ((327691 : Nat) : Int)), (0, rr12), (2, ((327692 : Nat) : Int)), (0, rr33)]) (rest := []) gX11_isSameRow dX2_linkBoth_119 m_1778 m_714 m_98 ⟨by decide, by decide, show (parseMethodDescriptor yX11_isSameRow.desc).map (fun d => d.parameters.length) = some 4 from by decide +kernel⟩ (Nat.le_of_ble_eq_true rfl) (by rw [hcf]; exact Nat.le_of_ble_eq_true rfl) rfl (Nat.le_of_ble_eq_true rfl) ⟨327691, 200, rr12, 327692, 200, rr33, rfl, hk41, (by first | assumption | omega), hk42, (by first | assumption | omega), fun rr43 hp44 => ?_⟩
      show WP kX2_linkBoth X 122 [some (2, ((327682 : Nat) : Int)), some (0, k), some (2, ((A : Nat) : Int)), some (2, ((B : Nat) : Int)), some (2, ((f : Nat) : Int)), some (0, rr12), some (0, rr33), none, none] [(0, rr43)] G32
      refine s_if_ne (tgt := 131) dX2_linkBoth_122 (by decide) (fun c45 => ?_) (fun c45 => ?_)
      · -- 122 to 131
        have K46 : (True) → WP kX2_linkBoth X 178 [some (2, ((327682 : Nat) : Int)), some (0, k), some (2, ((A : Nat) : Int)), some (2, ((B : Nat) : Int)), some (2, ((f : Nat) : Int)), some (0, rr12), some (0, rr33), none, none] [] G32 := by
          intro hi46
          refine s_aload_n dX2_linkBoth_178 rfl (Int.natCast_nonneg _) ?_
          refine s_iload_n dX2_linkBoth_179 rfl ?_
          have hk49 : gK G32 (A) = (9, 0) := ((hXG32).k ((hXG11).k kA0 (by decide)) (by decide))
          refine s_callV (as := [(0, k)]) (rest := []) (n := A) (ci := 1) gX0_isValueHole dX2_linkBoth_180 m_1322 m_743 m_1476 m_711 m_70 ⟨by decide, by decide, show (parseMethodDescriptor yX0_isValueHole.desc).map (fun d => d.parameters.length) = some 1 from by decide +kernel⟩ (Nat.le_of_ble_eq_true rfl) (by rw [hcf]; exact Nat.le_of_ble_eq_true rfl) hk49 rfl rfl (Nat.le_of_ble_eq_true rfl) ⟨A, k, a, b, rfl, hCG32, hab, (by first | assumption | omega), (by first | assumption | omega), fun rr47 hp48 => ?_⟩
          show WP kX2_linkBoth X 183 [some (2, ((327682 : Nat) : Int)), some (0, k), some (2, ((A : Nat) : Int)), some (2, ((B : Nat) : Int)), some (2, ((f : Nat) : Int)), some (0, rr12), some (0, rr33), none, none] [(0, rr47)] G32
          refine s_if_eq (tgt := 190) dX2_linkBoth_183 (by decide) (fun c50 => ?_) (fun c50 => ?_)
          · -- 183 to 190
            refine s_aload_n dX2_linkBoth_190 rfl (Int.natCast_nonneg _) ?_
            refine s_astore (Int.natCast_nonneg _) dX2_linkBoth_191 (by decide) (lv' := [some (2, ((327682 : Nat) : Int)), some (0, k), some (2, ((A : Nat) : Int)), some (2, ((B : Nat) : Int)), some (2, ((f : Nat) : Int)), some (0, rr12), some (0, rr33), some (2, ((A : Nat) : Int)), none]) rfl ?_
            refine s_aload_n dX2_linkBoth_193 rfl (Int.natCast_nonneg _) ?_
            refine s_iload_n dX2_linkBoth_194 rfl ?_
            refine s_callV (as := [(0, k)]) (rest := []) (n := A) (ci := 1) gX0_isValueHole dX2_linkBoth_195 m_1322 m_743 m_1476 m_711 m_70 ⟨by decide, by decide, show (parseMethodDescriptor yX0_isValueHole.desc).map (fun d => d.parameters.length) = some 1 from by decide +kernel⟩ (Nat.le_of_ble_eq_true rfl) (by rw [hcf]; exact Nat.le_of_ble_eq_true rfl) hk49 rfl rfl (Nat.le_of_ble_eq_true rfl) ⟨A, k, a, b, rfl, hCG32, hab, (by first | assumption | omega), (by first | assumption | omega), fun rr51 hp52 => ?_⟩
            show WP kX2_linkBoth X 198 [some (2, ((327682 : Nat) : Int)), some (0, k), some (2, ((A : Nat) : Int)), some (2, ((B : Nat) : Int)), some (2, ((f : Nat) : Int)), some (0, rr12), some (0, rr33), some (2, ((A : Nat) : Int)), none] [(0, rr51)] G32
            refine s_if_eq (tgt := 205) dX2_linkBoth_198 (by decide) (fun c53 => ?_) (fun c53 => ?_)
            · -- 198 to 205
              refine s_aload_n dX2_linkBoth_205 rfl (Int.natCast_nonneg _) ?_
              refine s_astore (Int.natCast_nonneg _) dX2_linkBoth_206 (by decide) (lv' := [some (2, ((327682 : Nat) : Int)), some (0, k), some (2, ((A : Nat) : Int)), some (2, ((B : Nat) : Int)), some (2, ((f : Nat) : Int)), some (0, rr12), some (0, rr33), some (2, ((A : Nat) : Int)), some (2, ((B : Nat) : Int))]) rfl ?_
              refine s_aload dX2_linkBoth_208 rfl (Int.natCast_nonneg _) ?_
              refine s_iload_n dX2_linkBoth_210 rfl ?_
              refine s_callV (as := [(0, k)]) (rest := []) (n := A) (ci := 1) gX0_isGhost dX2_linkBoth_211 m_1323 m_741 m_1474 m_711 m_68 ⟨by decide, by decide, show (parseMethodDescriptor yX0_isGhost.desc).map (fun d => d.parameters.length) = some 1 from by decide +kernel⟩ (Nat.le_of_ble_eq_true rfl) (by rw [hcf]; exact Nat.le_of_ble_eq_true rfl) hk49 rfl rfl (Nat.le_of_ble_eq_true rfl) ⟨A, k, a, b, rfl, hCG32, hab, (by first | assumption | omega), (by first | assumption | omega), fun rr54 hp55 => ?_⟩
              show WP kX2_linkBoth X 214 [some (2, ((327682 : Nat) : Int)), some (0, k), some (2, ((A : Nat) : Int)), some (2, ((B : Nat) : Int)), some (2, ((f : Nat) : Int)), some (0, rr12), some (0, rr33), some (2, ((A : Nat) : Int)), some (2, ((B : Nat) : Int))] [(0, rr54)] G32
              refine s_if_eq (tgt := 233) dX2_linkBoth_214 (by decide) (fun c56 => ?_) (fun c56 => ?_)
              · -- 214 to 233
                refine s_aload dX2_linkBoth_233 rfl (Int.natCast_nonneg _) ?_
                refine s_iload_n dX2_linkBoth_235 rfl ?_
                refine s_aload dX2_linkBoth_236 rfl (Int.natCast_nonneg _) ?_
                refine s_alv (A) (by simp) (fun al57 => ?_)
                have hv58 : gS G32 A 2 = ((A + 2 : Nat) : Int) := by have h9 : (gS G32 A 2) = (((A % 1048576) + 2 : Nat) : Int) := hCG32.1.v (j := 2) (by rw [cde_n (by omega) (by omega)]; omega : cde A = 101) al57 (by rw [hk49]; exact Nat.le_of_ble_eq_true rfl); omega
                refine s_getf (ci := 1) (k := 2) (C := RX0) (T := TX0) (N := 7) (n := A) (L := 0) (t := 2) dX2_linkBoth_238 rfl wi_65 m_576 (Nat.le_of_ble_eq_true rfl) rfl rfl hk49 hv58 ?_
                refine s_iload_n dX2_linkBoth_241 rfl ?_
                have hk59 : gK G32 (A + 2) = (1, 10) := ((hXG32).k ((hXG11).k kA2 (by decide)) (by decide))
                refine s_iald dX2_linkBoth_242 hk59 (by omega) (by omega) rfl ?_
                refine s_aload_n dX2_linkBoth_243 rfl (Int.natCast_nonneg _) ?_
                have hv60 : gS G32 327682 6 = ((327691 : Nat) : Int) := by have h9 : (gS G32 327682 6) = 327691 := hCG32.1.v (j := 6) (by decide : cde 327682 = 502) al38 (by rw [hk37]; exact Nat.le_of_ble_eq_true rfl); omega
                refine s_getf (ci := 3) (k := 6) (C := RX2) (T := TX2) (N := 8) (n := 327682) (L := 0) (t := 2) dX2_linkBoth_244 rfl wi_70 m_582 (Nat.le_of_ble_eq_true rfl) rfl rfl hk37 hv60 ?_
                refine s_iload dX2_linkBoth_247 rfl ?_
                have hk63 : gK G32 (f) = (9, 0) := ((hXG32).k ((hXG11).k kf0 (by decide)) (by decide))
                refine s_callV (as := [(0, k), (0, gS G32 (A + 2) ((k : Int).toNat)), (2, ((327691 : Nat) : Int)), (0, rr12)]) (rest := []) (n := f) (ci := 1) gX0_putValue dX2_linkBoth_249 m_1320 m_750 m_1483 m_711 m_77 ⟨by decide, by decide, show (parseMethodDescriptor yX0_putValue.desc).map (fun d => d.parameters.length) = some 4 from by decide +kernel⟩ (Nat.le_of_ble_eq_true rfl) (by rw [hcf]; exact Nat.le_of_ble_eq_true rfl) hk63 rfl rfl (Nat.le_of_ble_eq_true rfl) ⟨f, k, gS G32 (A + 2) ((k : Int).toNat), 327691, 200, rr12, a, b, rfl, hCG32, hab, (by first | assumption | omega), (by first | assumption | omega), hk41, (by first | assumption | omega), (by first | assumption | omega), (by first | assumption | omega), fun G61 hCG61 hXG61 hfG61 hpG61 => ?_⟩
                have hFG61 : WX (fun x => x = 327691 ∨ x = 327692 ∨ (f + 1 ≤ x ∧ x ≤ f + 22)) G G61 := WX.trans hFG32 (KX.trans hXG11 hXG32) (WX.mono hfG61 (fun x hx => by omega))
                have hFIG61 : ∀ k : Nat, k < 6 → FIP P G61 262144 k := fun k hk => FIP.sm (hFIG32 k hk) hXG61 hfG61 (by show ¬ _; omega) (congrFun (hfG61 262149 (KX.al (KX.trans hXG11 hXG32) (kne k262149 (by decide))) (by show ¬ _; omega)) k)
                have hFAG61 : FPa P G61 A := (hFAG32).wx hXG61 hfG61 ⟨KX.al (KX.trans hXG11 hXG32) (kne kA3 (by decide)), KX.al (KX.trans hXG11 hXG32) (kne kA4 (by decide))⟩ (by show ¬ _; omega) (by show ¬ _; omega) (fun p hp => by show ¬ _; omega)
                have hFBG61 : FPa P G61 B := (hFBG32).wx hXG61 hfG61 ⟨KX.al (KX.trans hXG11 hXG32) (kne kB3 (by decide)), KX.al (KX.trans hXG11 hXG32) (kne kB4 (by decide))⟩ (by show ¬ _; omega) (by show ¬ _; omega) (fun p hp => by show ¬ _; omega)
                have hFfG61 : FPa P G61 f := FPa.put hpG61.1 hFfG32 (fun _ _ => (hpG11.2 P ((hFA (6 + k : Int).toNat (by omega)).rps hv4 rfl) hFI (by omega)).wx hXG32 hfG32 (by show ¬ _; omega)) hXG61 hfG61 (fun p hp hn => by show ¬ _; omega)
                show WP kX2_linkBoth X 252 [some (2, ((327682 : Nat) : Int)), some (0, k), some (2, ((A : Nat) : Int)), some (2, ((B : Nat) : Int)), some (2, ((f : Nat) : Int)), some (0, rr12), some (0, rr33), some (2, ((A : Nat) : Int)), some (2, ((B : Nat) : Int))] [] G61
                refine s_aload dX2_linkBoth_252 rfl (Int.natCast_nonneg _) ?_
                refine s_iload_n dX2_linkBoth_254 rfl ?_
                refine s_aload dX2_linkBoth_255 rfl (Int.natCast_nonneg _) ?_
                refine s_iload_n dX2_linkBoth_257 rfl ?_
                have hk66 : gK G61 (f) = (9, 0) := ((hXG61).k hk63 (by decide))
                refine s_callV (as := [(0, k), (2, ((A : Nat) : Int)), (0, k)]) (rest := []) (n := f) (ci := 1) gX0_putNumberOf dX2_linkBoth_258 m_1321 m_745 m_1478 m_711 m_72 ⟨by decide, by decide, show (parseMethodDescriptor yX0_putNumberOf.desc).map (fun d => d.parameters.length) = some 3 from by decide +kernel⟩ (Nat.le_of_ble_eq_true rfl) (by rw [hcf]; exact Nat.le_of_ble_eq_true rfl) hk66 rfl rfl (Nat.le_of_ble_eq_true rfl) ⟨f, k, A, k, a, b, rfl, hCG61, hab, (by first | assumption | omega), (by first | assumption | omega), (by first | assumption | omega), (by first | assumption | omega), fun G64 hCG64 hXG64 hfG64 hpG64 => ?_⟩
                have hFG64 : WX (fun x => x = 327691 ∨ x = 327692 ∨ (f + 1 ≤ x ∧ x ≤ f + 22)) G G64 := WX.trans hFG61 (KX.trans (KX.trans hXG11 hXG32) hXG61) (WX.mono hfG64 (fun x hx => by omega))
                have hFIG64 : ∀ k : Nat, k < 6 → FIP P G64 262144 k := fun k hk => FIP.sm (hFIG61 k hk) hXG64 hfG64 (by show ¬ _; omega) (congrFun (hfG64 262149 (KX.al (KX.trans (KX.trans hXG11 hXG32) hXG61) (kne k262149 (by decide))) (by show ¬ _; omega)) k)
                have hFAG64 : FPa P G64 A := (hFAG61).wx hXG64 hfG64 ⟨KX.al (KX.trans (KX.trans hXG11 hXG32) hXG61) (kne kA3 (by decide)), KX.al (KX.trans (KX.trans hXG11 hXG32) hXG61) (kne kA4 (by decide))⟩ (by show ¬ _; omega) (by show ¬ _; omega) (fun p hp => by show ¬ _; omega)
                have hFBG64 : FPa P G64 B := (hFBG61).wx hXG64 hfG64 ⟨KX.al (KX.trans (KX.trans hXG11 hXG32) hXG61) (kne kB3 (by decide)), KX.al (KX.trans (KX.trans hXG11 hXG32) hXG61) (kne kB4 (by decide))⟩ (by show ¬ _; omega) (by show ¬ _; omega) (fun p hp => by show ¬ _; omega)
                have hFfG64 : FPa P G64 f := (hFfG61).wx hXG64 hfG64 ⟨KX.al (KX.trans (KX.trans hXG11 hXG32) hXG61) (kne kf3 (by decide)), KX.al (KX.trans (KX.trans hXG11 hXG32) hXG61) (kne kf4 (by decide))⟩ (by show ¬ _; omega) (by show ¬ _; omega) (fun p hp => by show ¬ _; omega)
                show WP kX2_linkBoth X 261 [some (2, ((327682 : Nat) : Int)), some (0, k), some (2, ((A : Nat) : Int)), some (2, ((B : Nat) : Int)), some (2, ((f : Nat) : Int)), some (0, rr12), some (0, rr33), some (2, ((A : Nat) : Int)), some (2, ((B : Nat) : Int))] [] G64
                refine s_iconst dX2_linkBoth_261 (by decide) ?_
                exact s_iret hR dX2_linkBoth_262 rfl (hQ 0 G64 hCG64 (KX.trans (KX.trans (KX.trans hXG11 hXG32) hXG61) hXG64) hFG64 hFfG64)
              · -- 214 to 217
                refine s_aload dX2_linkBoth_217 rfl (Int.natCast_nonneg _) ?_
                refine s_iload_n dX2_linkBoth_219 rfl ?_
                have hk69 : gK G32 (B) = (9, 0) := ((hXG32).k hk16 (by decide))
                refine s_callV (as := [(0, k)]) (rest := []) (n := B) (ci := 1) gX0_isGhost dX2_linkBoth_220 m_1323 m_741 m_1474 m_711 m_68 ⟨by decide, by decide, show (parseMethodDescriptor yX0_isGhost.desc).map (fun d => d.parameters.length) = some 1 from by decide +kernel⟩ (Nat.le_of_ble_eq_true rfl) (by rw [hcf]; exact Nat.le_of_ble_eq_true rfl) hk69 rfl rfl (Nat.le_of_ble_eq_true rfl) ⟨B, k, a, b, rfl, hCG32, hab, (by first | assumption | omega), (by first | assumption | omega), fun rr67 hp68 => ?_⟩
                show WP kX2_linkBoth X 223 [some (2, ((327682 : Nat) : Int)), some (0, k), some (2, ((A : Nat) : Int)), some (2, ((B : Nat) : Int)), some (2, ((f : Nat) : Int)), some (0, rr12), some (0, rr33), some (2, ((A : Nat) : Int)), some (2, ((B : Nat) : Int))] [(0, rr67)] G32
                refine s_if_ne (tgt := 233) dX2_linkBoth_223 (by decide) (fun c70 => ?_) (fun c70 => ?_)
                · -- 223 to 233
                  refine s_aload dX2_linkBoth_233 rfl (Int.natCast_nonneg _) ?_
                  refine s_iload_n dX2_linkBoth_235 rfl ?_
                  refine s_aload dX2_linkBoth_236 rfl (Int.natCast_nonneg _) ?_
                  refine s_alv (A) (by simp) (fun al71 => ?_)
                  have hv72 : gS G32 A 2 = ((A + 2 : Nat) : Int) := by have h9 : (gS G32 A 2) = (((A % 1048576) + 2 : Nat) : Int) := hCG32.1.v (j := 2) (by rw [cde_n (by omega) (by omega)]; omega : cde A = 101) al71 (by rw [hk49]; exact Nat.le_of_ble_eq_true rfl); omega
                  refine s_getf (ci := 1) (k := 2) (C := RX0) (T := TX0) (N := 7) (n := A) (L := 0) (t := 2) dX2_linkBoth_238 rfl wi_65 m_576 (Nat.le_of_ble_eq_true rfl) rfl rfl hk49 hv72 ?_
                  refine s_iload_n dX2_linkBoth_241 rfl ?_
                  have hk73 : gK G32 (A + 2) = (1, 10) := ((hXG32).k ((hXG11).k kA2 (by decide)) (by decide))
                  refine s_iald dX2_linkBoth_242 hk73 (by omega) (by omega) rfl ?_
                  refine s_aload_n dX2_linkBoth_243 rfl (Int.natCast_nonneg _) ?_
                  have hv74 : gS G32 327682 6 = ((327691 : Nat) : Int) := by have h9 : (gS G32 327682 6) = 327691 := hCG32.1.v (j := 6) (by decide : cde 327682 = 502) al38 (by rw [hk37]; exact Nat.le_of_ble_eq_true rfl); omega
                  refine s_getf (ci := 3) (k := 6) (C := RX2) (T := TX2) (N := 8) (n := 327682) (L := 0) (t := 2) dX2_linkBoth_244 rfl wi_70 m_582 (Nat.le_of_ble_eq_true rfl) rfl rfl hk37 hv74 ?_
                  refine s_iload dX2_linkBoth_247 rfl ?_
                  have hk77 : gK G32 (f) = (9, 0) := ((hXG32).k ((hXG11).k kf0 (by decide)) (by decide))
                  refine s_callV (as := [(0, k), (0, gS G32 (A + 2) ((k : Int).toNat)), (2, ((327691 : Nat) : Int)), (0, rr12)]) (rest := []) (n := f) (ci := 1) gX0_putValue dX2_linkBoth_249 m_1320 m_750 m_1483 m_711 m_77 ⟨by decide, by decide, show (parseMethodDescriptor yX0_putValue.desc).map (fun d => d.parameters.length) = some 4 from by decide +kernel⟩ (Nat.le_of_ble_eq_true rfl) (by rw [hcf]; exact Nat.le_of_ble_eq_true rfl) hk77 rfl rfl (Nat.le_of_ble_eq_true rfl) ⟨f, k, gS G32 (A + 2) ((k : Int).toNat), 327691, 200, rr12, a, b, rfl, hCG32, hab, (by first | assumption | omega), (by first | assumption | omega), hk41, (by first | assumption | omega), (by first | assumption | omega), (by first | assumption | omega), fun G75 hCG75 hXG75 hfG75 hpG75 => ?_⟩
                  have hFG75 : WX (fun x => x = 327691 ∨ x = 327692 ∨ (f + 1 ≤ x ∧ x ≤ f + 22)) G G75 := WX.trans hFG32 (KX.trans hXG11 hXG32) (WX.mono hfG75 (fun x hx => by omega))
                  have hFIG75 : ∀ k : Nat, k < 6 → FIP P G75 262144 k := fun k hk => FIP.sm (hFIG32 k hk) hXG75 hfG75 (by show ¬ _; omega) (congrFun (hfG75 262149 (KX.al (KX.trans hXG11 hXG32) (kne k262149 (by decide))) (by show ¬ _; omega)) k)
                  have hFAG75 : FPa P G75 A := (hFAG32).wx hXG75 hfG75 ⟨KX.al (KX.trans hXG11 hXG32) (kne kA3 (by decide)), KX.al (KX.trans hXG11 hXG32) (kne kA4 (by decide))⟩ (by show ¬ _; omega) (by show ¬ _; omega) (fun p hp => by show ¬ _; omega)
                  have hFBG75 : FPa P G75 B := (hFBG32).wx hXG75 hfG75 ⟨KX.al (KX.trans hXG11 hXG32) (kne kB3 (by decide)), KX.al (KX.trans hXG11 hXG32) (kne kB4 (by decide))⟩ (by show ¬ _; omega) (by show ¬ _; omega) (fun p hp => by show ¬ _; omega)
                  have hFfG75 : FPa P G75 f := FPa.put hpG75.1 hFfG32 (fun _ _ => (hpG11.2 P ((hFA (6 + k : Int).toNat (by omega)).rps hv4 rfl) hFI (by omega)).wx hXG32 hfG32 (by show ¬ _; omega)) hXG75 hfG75 (fun p hp hn => by show ¬ _; omega)
                  show WP kX2_linkBoth X 252 [some (2, ((327682 : Nat) : Int)), some (0, k), some (2, ((A : Nat) : Int)), some (2, ((B : Nat) : Int)), some (2, ((f : Nat) : Int)), some (0, rr12), some (0, rr33), some (2, ((A : Nat) : Int)), some (2, ((B : Nat) : Int))] [] G75
                  refine s_aload dX2_linkBoth_252 rfl (Int.natCast_nonneg _) ?_
                  refine s_iload_n dX2_linkBoth_254 rfl ?_
                  refine s_aload dX2_linkBoth_255 rfl (Int.natCast_nonneg _) ?_
                  refine s_iload_n dX2_linkBoth_257 rfl ?_
                  have hk80 : gK G75 (f) = (9, 0) := ((hXG75).k hk77 (by decide))
                  refine s_callV (as := [(0, k), (2, ((A : Nat) : Int)), (0, k)]) (rest := []) (n := f) (ci := 1) gX0_putNumberOf dX2_linkBoth_258 m_1321 m_745 m_1478 m_711 m_72 ⟨by decide, by decide, show (parseMethodDescriptor yX0_putNumberOf.desc).map (fun d => d.parameters.length) = some 3 from by decide +kernel⟩ (Nat.le_of_ble_eq_true rfl) (by rw [hcf]; exact Nat.le_of_ble_eq_true rfl) hk80 rfl rfl (Nat.le_of_ble_eq_true rfl) ⟨f, k, A, k, a, b, rfl, hCG75, hab, (by first | assumption | omega), (by first | assumption | omega), (by first | assumption | omega), (by first | assumption | omega), fun G78 hCG78 hXG78 hfG78 hpG78 => ?_⟩
                  have hFG78 : WX (fun x => x = 327691 ∨ x = 327692 ∨ (f + 1 ≤ x ∧ x ≤ f + 22)) G G78 := WX.trans hFG75 (KX.trans (KX.trans hXG11 hXG32) hXG75) (WX.mono hfG78 (fun x hx => by omega))
                  have hFIG78 : ∀ k : Nat, k < 6 → FIP P G78 262144 k := fun k hk => FIP.sm (hFIG75 k hk) hXG78 hfG78 (by show ¬ _; omega) (congrFun (hfG78 262149 (KX.al (KX.trans (KX.trans hXG11 hXG32) hXG75) (kne k262149 (by decide))) (by show ¬ _; omega)) k)
                  have hFAG78 : FPa P G78 A := (hFAG75).wx hXG78 hfG78 ⟨KX.al (KX.trans (KX.trans hXG11 hXG32) hXG75) (kne kA3 (by decide)), KX.al (KX.trans (KX.trans hXG11 hXG32) hXG75) (kne kA4 (by decide))⟩ (by show ¬ _; omega) (by show ¬ _; omega) (fun p hp => by show ¬ _; omega)
                  have hFBG78 : FPa P G78 B := (hFBG75).wx hXG78 hfG78 ⟨KX.al (KX.trans (KX.trans hXG11 hXG32) hXG75) (kne kB3 (by decide)), KX.al (KX.trans (KX.trans hXG11 hXG32) hXG75) (kne kB4 (by decide))⟩ (by show ¬ _; omega) (by show ¬ _; omega) (fun p hp => by show ¬ _; omega)
                  have hFfG78 : FPa P G78 f := (hFfG75).wx hXG78 hfG78 ⟨KX.al (KX.trans (KX.trans hXG11 hXG32) hXG75) (kne kf3 (by decide)), KX.al (KX.trans (KX.trans hXG11 hXG32) hXG75) (kne kf4 (by decide))⟩ (by show ¬ _; omega) (by show ¬ _; omega) (fun p hp => by show ¬ _; omega)
                  show WP kX2_linkBoth X 261 [some (2, ((327682 : Nat) : Int)), some (0, k), some (2, ((A : Nat) : Int)), some (2, ((B : Nat) : Int)), some (2, ((f : Nat) : Int)), some (0, rr12), some (0, rr33), some (2, ((A : Nat) : Int)), some (2, ((B : Nat) : Int))] [] G78
                  refine s_iconst dX2_linkBoth_261 (by decide) ?_
                  exact s_iret hR dX2_linkBoth_262 rfl (hQ 0 G78 hCG78 (KX.trans (KX.trans (KX.trans hXG11 hXG32) hXG75) hXG78) hFG78 hFfG78)
                · -- 223 to 226
                  refine s_bipush dX2_linkBoth_226 rfl (by decide) ?_
                  refine s_iload_n dX2_linkBoth_228 rfl ?_
                  refine s_callSN (own := RX2) rfl (by decide +kernel) (as := [(0, 6), (0, k)]) (rest := []) gX11_valueMistake dX2_linkBoth_229 m_1784 m_714 m_129 ⟨by decide, by decide, show (parseMethodDescriptor yX11_valueMistake.desc).map (fun d => d.parameters.length) = some 2 from by decide +kernel⟩ (Nat.le_of_ble_eq_true rfl) (by rw [hcf]; exact Nat.le_of_ble_eq_true rfl) rfl (Nat.le_of_ble_eq_true rfl) ⟨6, k, rfl, (by first | assumption | omega), (by first | assumption | omega), fun rr81 hp82 => ?_⟩
                  show WP kX2_linkBoth X 232 [some (2, ((327682 : Nat) : Int)), some (0, k), some (2, ((A : Nat) : Int)), some (2, ((B : Nat) : Int)), some (2, ((f : Nat) : Int)), some (0, rr12), some (0, rr33), some (2, ((A : Nat) : Int)), some (2, ((B : Nat) : Int))] [(0, rr81)] G32
                  exact s_iret hR dX2_linkBoth_232 rfl (hQ rr81 G32 hCG32 (KX.trans hXG11 hXG32) hFG32 hFfG32)
            · -- 198 to 201
              refine s_aload_n dX2_linkBoth_201 rfl (Int.natCast_nonneg _) ?_
              refine s_goto (tgt := 206) dX2_linkBoth_202 (by decide) ?_
              refine s_astore (Int.natCast_nonneg _) dX2_linkBoth_206 (by decide) (lv' := [some (2, ((327682 : Nat) : Int)), some (0, k), some (2, ((A : Nat) : Int)), some (2, ((B : Nat) : Int)), some (2, ((f : Nat) : Int)), some (0, rr12), some (0, rr33), some (2, ((A : Nat) : Int)), some (2, ((A : Nat) : Int))]) rfl ?_
              refine s_aload dX2_linkBoth_208 rfl (Int.natCast_nonneg _) ?_
              refine s_iload_n dX2_linkBoth_210 rfl ?_
              refine s_callV (as := [(0, k)]) (rest := []) (n := A) (ci := 1) gX0_isGhost dX2_linkBoth_211 m_1323 m_741 m_1474 m_711 m_68 ⟨by decide, by decide, show (parseMethodDescriptor yX0_isGhost.desc).map (fun d => d.parameters.length) = some 1 from by decide +kernel⟩ (Nat.le_of_ble_eq_true rfl) (by rw [hcf]; exact Nat.le_of_ble_eq_true rfl) hk49 rfl rfl (Nat.le_of_ble_eq_true rfl) ⟨A, k, a, b, rfl, hCG32, hab, (by first | assumption | omega), (by first | assumption | omega), fun rr83 hp84 => ?_⟩
              show WP kX2_linkBoth X 214 [some (2, ((327682 : Nat) : Int)), some (0, k), some (2, ((A : Nat) : Int)), some (2, ((B : Nat) : Int)), some (2, ((f : Nat) : Int)), some (0, rr12), some (0, rr33), some (2, ((A : Nat) : Int)), some (2, ((A : Nat) : Int))] [(0, rr83)] G32
              refine s_if_eq (tgt := 233) dX2_linkBoth_214 (by decide) (fun c85 => ?_) (fun c85 => ?_)
              · -- 214 to 233
                refine s_aload dX2_linkBoth_233 rfl (Int.natCast_nonneg _) ?_
                refine s_iload_n dX2_linkBoth_235 rfl ?_
                refine s_aload dX2_linkBoth_236 rfl (Int.natCast_nonneg _) ?_
                refine s_alv (A) (by simp) (fun al86 => ?_)
                have hv87 : gS G32 A 2 = ((A + 2 : Nat) : Int) := by have h9 : (gS G32 A 2) = (((A % 1048576) + 2 : Nat) : Int) := hCG32.1.v (j := 2) (by rw [cde_n (by omega) (by omega)]; omega : cde A = 101) al86 (by rw [hk49]; exact Nat.le_of_ble_eq_true rfl); omega
                refine s_getf (ci := 1) (k := 2) (C := RX0) (T := TX0) (N := 7) (n := A) (L := 0) (t := 2) dX2_linkBoth_238 rfl wi_65 m_576 (Nat.le_of_ble_eq_true rfl) rfl rfl hk49 hv87 ?_
                refine s_iload_n dX2_linkBoth_241 rfl ?_
                have hk88 : gK G32 (A + 2) = (1, 10) := ((hXG32).k ((hXG11).k kA2 (by decide)) (by decide))
                refine s_iald dX2_linkBoth_242 hk88 (by omega) (by omega) rfl ?_
                refine s_aload_n dX2_linkBoth_243 rfl (Int.natCast_nonneg _) ?_
                have hv89 : gS G32 327682 6 = ((327691 : Nat) : Int) := by have h9 : (gS G32 327682 6) = 327691 := hCG32.1.v (j := 6) (by decide : cde 327682 = 502) al38 (by rw [hk37]; exact Nat.le_of_ble_eq_true rfl); omega
                refine s_getf (ci := 3) (k := 6) (C := RX2) (T := TX2) (N := 8) (n := 327682) (L := 0) (t := 2) dX2_linkBoth_244 rfl wi_70 m_582 (Nat.le_of_ble_eq_true rfl) rfl rfl hk37 hv89 ?_
                refine s_iload dX2_linkBoth_247 rfl ?_
                have hk92 : gK G32 (f) = (9, 0) := ((hXG32).k ((hXG11).k kf0 (by decide)) (by decide))
                refine s_callV (as := [(0, k), (0, gS G32 (A + 2) ((k : Int).toNat)), (2, ((327691 : Nat) : Int)), (0, rr12)]) (rest := []) (n := f) (ci := 1) gX0_putValue dX2_linkBoth_249 m_1320 m_750 m_1483 m_711 m_77 ⟨by decide, by decide, show (parseMethodDescriptor yX0_putValue.desc).map (fun d => d.parameters.length) = some 4 from by decide +kernel⟩ (Nat.le_of_ble_eq_true rfl) (by rw [hcf]; exact Nat.le_of_ble_eq_true rfl) hk92 rfl rfl (Nat.le_of_ble_eq_true rfl) ⟨f, k, gS G32 (A + 2) ((k : Int).toNat), 327691, 200, rr12, a, b, rfl, hCG32, hab, (by first | assumption | omega), (by first | assumption | omega), hk41, (by first | assumption | omega), (by first | assumption | omega), (by first | assumption | omega), fun G90 hCG90 hXG90 hfG90 hpG90 => ?_⟩
                have hFG90 : WX (fun x => x = 327691 ∨ x = 327692 ∨ (f + 1 ≤ x ∧ x ≤ f + 22)) G G90 := WX.trans hFG32 (KX.trans hXG11 hXG32) (WX.mono hfG90 (fun x hx => by omega))
                have hFIG90 : ∀ k : Nat, k < 6 → FIP P G90 262144 k := fun k hk => FIP.sm (hFIG32 k hk) hXG90 hfG90 (by show ¬ _; omega) (congrFun (hfG90 262149 (KX.al (KX.trans hXG11 hXG32) (kne k262149 (by decide))) (by show ¬ _; omega)) k)
                have hFAG90 : FPa P G90 A := (hFAG32).wx hXG90 hfG90 ⟨KX.al (KX.trans hXG11 hXG32) (kne kA3 (by decide)), KX.al (KX.trans hXG11 hXG32) (kne kA4 (by decide))⟩ (by show ¬ _; omega) (by show ¬ _; omega) (fun p hp => by show ¬ _; omega)
                have hFBG90 : FPa P G90 B := (hFBG32).wx hXG90 hfG90 ⟨KX.al (KX.trans hXG11 hXG32) (kne kB3 (by decide)), KX.al (KX.trans hXG11 hXG32) (kne kB4 (by decide))⟩ (by show ¬ _; omega) (by show ¬ _; omega) (fun p hp => by show ¬ _; omega)
                have hFfG90 : FPa P G90 f := FPa.put hpG90.1 hFfG32 (fun _ _ => (hpG11.2 P ((hFA (6 + k : Int).toNat (by omega)).rps hv4 rfl) hFI (by omega)).wx hXG32 hfG32 (by show ¬ _; omega)) hXG90 hfG90 (fun p hp hn => by show ¬ _; omega)
                show WP kX2_linkBoth X 252 [some (2, ((327682 : Nat) : Int)), some (0, k), some (2, ((A : Nat) : Int)), some (2, ((B : Nat) : Int)), some (2, ((f : Nat) : Int)), some (0, rr12), some (0, rr33), some (2, ((A : Nat) : Int)), some (2, ((A : Nat) : Int))] [] G90
                refine s_aload dX2_linkBoth_252 rfl (Int.natCast_nonneg _) ?_
                refine s_iload_n dX2_linkBoth_254 rfl ?_
                refine s_aload dX2_linkBoth_255 rfl (Int.natCast_nonneg _) ?_
                refine s_iload_n dX2_linkBoth_257 rfl ?_
                have hk95 : gK G90 (f) = (9, 0) := ((hXG90).k hk92 (by decide))
                refine s_callV (as := [(0, k), (2, ((A : Nat) : Int)), (0, k)]) (rest := []) (n := f) (ci := 1) gX0_putNumberOf dX2_linkBoth_258 m_1321 m_745 m_1478 m_711 m_72 ⟨by decide, by decide, show (parseMethodDescriptor yX0_putNumberOf.desc).map (fun d => d.parameters.length) = some 3 from by decide +kernel⟩ (Nat.le_of_ble_eq_true rfl) (by rw [hcf]; exact Nat.le_of_ble_eq_true rfl) hk95 rfl rfl (Nat.le_of_ble_eq_true rfl) ⟨f, k, A, k, a, b, rfl, hCG90, hab, (by first | assumption | omega), (by first | assumption | omega), (by first | assumption | omega), (by first | assumption | omega), fun G93 hCG93 hXG93 hfG93 hpG93 => ?_⟩
                have hFG93 : WX (fun x => x = 327691 ∨ x = 327692 ∨ (f + 1 ≤ x ∧ x ≤ f + 22)) G G93 := WX.trans hFG90 (KX.trans (KX.trans hXG11 hXG32) hXG90) (WX.mono hfG93 (fun x hx => by omega))
                have hFIG93 : ∀ k : Nat, k < 6 → FIP P G93 262144 k := fun k hk => FIP.sm (hFIG90 k hk) hXG93 hfG93 (by show ¬ _; omega) (congrFun (hfG93 262149 (KX.al (KX.trans (KX.trans hXG11 hXG32) hXG90) (kne k262149 (by decide))) (by show ¬ _; omega)) k)
                have hFAG93 : FPa P G93 A := (hFAG90).wx hXG93 hfG93 ⟨KX.al (KX.trans (KX.trans hXG11 hXG32) hXG90) (kne kA3 (by decide)), KX.al (KX.trans (KX.trans hXG11 hXG32) hXG90) (kne kA4 (by decide))⟩ (by show ¬ _; omega) (by show ¬ _; omega) (fun p hp => by show ¬ _; omega)
                have hFBG93 : FPa P G93 B := (hFBG90).wx hXG93 hfG93 ⟨KX.al (KX.trans (KX.trans hXG11 hXG32) hXG90) (kne kB3 (by decide)), KX.al (KX.trans (KX.trans hXG11 hXG32) hXG90) (kne kB4 (by decide))⟩ (by show ¬ _; omega) (by show ¬ _; omega) (fun p hp => by show ¬ _; omega)
                have hFfG93 : FPa P G93 f := (hFfG90).wx hXG93 hfG93 ⟨KX.al (KX.trans (KX.trans hXG11 hXG32) hXG90) (kne kf3 (by decide)), KX.al (KX.trans (KX.trans hXG11 hXG32) hXG90) (kne kf4 (by decide))⟩ (by show ¬ _; omega) (by show ¬ _; omega) (fun p hp => by show ¬ _; omega)
                show WP kX2_linkBoth X 261 [some (2, ((327682 : Nat) : Int)), some (0, k), some (2, ((A : Nat) : Int)), some (2, ((B : Nat) : Int)), some (2, ((f : Nat) : Int)), some (0, rr12), some (0, rr33), some (2, ((A : Nat) : Int)), some (2, ((A : Nat) : Int))] [] G93
                refine s_iconst dX2_linkBoth_261 (by decide) ?_
                exact s_iret hR dX2_linkBoth_262 rfl (hQ 0 G93 hCG93 (KX.trans (KX.trans (KX.trans hXG11 hXG32) hXG90) hXG93) hFG93 hFfG93)
              · -- 214 to 217
                refine s_aload dX2_linkBoth_217 rfl (Int.natCast_nonneg _) ?_
                refine s_iload_n dX2_linkBoth_219 rfl ?_
                refine s_callV (as := [(0, k)]) (rest := []) (n := A) (ci := 1) gX0_isGhost dX2_linkBoth_220 m_1323 m_741 m_1474 m_711 m_68 ⟨by decide, by decide, show (parseMethodDescriptor yX0_isGhost.desc).map (fun d => d.parameters.length) = some 1 from by decide +kernel⟩ (Nat.le_of_ble_eq_true rfl) (by rw [hcf]; exact Nat.le_of_ble_eq_true rfl) hk49 rfl rfl (Nat.le_of_ble_eq_true rfl) ⟨A, k, a, b, rfl, hCG32, hab, (by first | assumption | omega), (by first | assumption | omega), fun rr96 hp97 => ?_⟩
                show WP kX2_linkBoth X 223 [some (2, ((327682 : Nat) : Int)), some (0, k), some (2, ((A : Nat) : Int)), some (2, ((B : Nat) : Int)), some (2, ((f : Nat) : Int)), some (0, rr12), some (0, rr33), some (2, ((A : Nat) : Int)), some (2, ((A : Nat) : Int))] [(0, rr96)] G32
                refine s_if_ne (tgt := 233) dX2_linkBoth_223 (by decide) (fun c98 => ?_) (fun c98 => ?_)
                · -- 223 to 233
                  refine s_aload dX2_linkBoth_233 rfl (Int.natCast_nonneg _) ?_
                  refine s_iload_n dX2_linkBoth_235 rfl ?_
                  refine s_aload dX2_linkBoth_236 rfl (Int.natCast_nonneg _) ?_
                  refine s_alv (A) (by simp) (fun al99 => ?_)
                  have hv100 : gS G32 A 2 = ((A + 2 : Nat) : Int) := by have h9 : (gS G32 A 2) = (((A % 1048576) + 2 : Nat) : Int) := hCG32.1.v (j := 2) (by rw [cde_n (by omega) (by omega)]; omega : cde A = 101) al99 (by rw [hk49]; exact Nat.le_of_ble_eq_true rfl); omega
                  refine s_getf (ci := 1) (k := 2) (C := RX0) (T := TX0) (N := 7) (n := A) (L := 0) (t := 2) dX2_linkBoth_238 rfl wi_65 m_576 (Nat.le_of_ble_eq_true rfl) rfl rfl hk49 hv100 ?_
                  refine s_iload_n dX2_linkBoth_241 rfl ?_
                  have hk101 : gK G32 (A + 2) = (1, 10) := ((hXG32).k ((hXG11).k kA2 (by decide)) (by decide))
                  refine s_iald dX2_linkBoth_242 hk101 (by omega) (by omega) rfl ?_
                  refine s_aload_n dX2_linkBoth_243 rfl (Int.natCast_nonneg _) ?_
                  have hv102 : gS G32 327682 6 = ((327691 : Nat) : Int) := by have h9 : (gS G32 327682 6) = 327691 := hCG32.1.v (j := 6) (by decide : cde 327682 = 502) al38 (by rw [hk37]; exact Nat.le_of_ble_eq_true rfl); omega
                  refine s_getf (ci := 3) (k := 6) (C := RX2) (T := TX2) (N := 8) (n := 327682) (L := 0) (t := 2) dX2_linkBoth_244 rfl wi_70 m_582 (Nat.le_of_ble_eq_true rfl) rfl rfl hk37 hv102 ?_
                  refine s_iload dX2_linkBoth_247 rfl ?_
                  have hk105 : gK G32 (f) = (9, 0) := ((hXG32).k ((hXG11).k kf0 (by decide)) (by decide))
                  refine s_callV (as := [(0, k), (0, gS G32 (A + 2) ((k : Int).toNat)), (2, ((327691 : Nat) : Int)), (0, rr12)]) (rest := []) (n := f) (ci := 1) gX0_putValue dX2_linkBoth_249 m_1320 m_750 m_1483 m_711 m_77 ⟨by decide, by decide, show (parseMethodDescriptor yX0_putValue.desc).map (fun d => d.parameters.length) = some 4 from by decide +kernel⟩ (Nat.le_of_ble_eq_true rfl) (by rw [hcf]; exact Nat.le_of_ble_eq_true rfl) hk105 rfl rfl (Nat.le_of_ble_eq_true rfl) ⟨f, k, gS G32 (A + 2) ((k : Int).toNat), 327691, 200, rr12, a, b, rfl, hCG32, hab, (by first | assumption | omega), (by first | assumption | omega), hk41, (by first | assumption | omega), (by first | assumption | omega), (by first | assumption | omega), fun G103 hCG103 hXG103 hfG103 hpG103 => ?_⟩
                  have hFG103 : WX (fun x => x = 327691 ∨ x = 327692 ∨ (f + 1 ≤ x ∧ x ≤ f + 22)) G G103 := WX.trans hFG32 (KX.trans hXG11 hXG32) (WX.mono hfG103 (fun x hx => by omega))
                  have hFIG103 : ∀ k : Nat, k < 6 → FIP P G103 262144 k := fun k hk => FIP.sm (hFIG32 k hk) hXG103 hfG103 (by show ¬ _; omega) (congrFun (hfG103 262149 (KX.al (KX.trans hXG11 hXG32) (kne k262149 (by decide))) (by show ¬ _; omega)) k)
                  have hFAG103 : FPa P G103 A := (hFAG32).wx hXG103 hfG103 ⟨KX.al (KX.trans hXG11 hXG32) (kne kA3 (by decide)), KX.al (KX.trans hXG11 hXG32) (kne kA4 (by decide))⟩ (by show ¬ _; omega) (by show ¬ _; omega) (fun p hp => by show ¬ _; omega)
                  have hFBG103 : FPa P G103 B := (hFBG32).wx hXG103 hfG103 ⟨KX.al (KX.trans hXG11 hXG32) (kne kB3 (by decide)), KX.al (KX.trans hXG11 hXG32) (kne kB4 (by decide))⟩ (by show ¬ _; omega) (by show ¬ _; omega) (fun p hp => by show ¬ _; omega)
                  have hFfG103 : FPa P G103 f := FPa.put hpG103.1 hFfG32 (fun _ _ => (hpG11.2 P ((hFA (6 + k : Int).toNat (by omega)).rps hv4 rfl) hFI (by omega)).wx hXG32 hfG32 (by show ¬ _; omega)) hXG103 hfG103 (fun p hp hn => by show ¬ _; omega)
                  show WP kX2_linkBoth X 252 [some (2, ((327682 : Nat) : Int)), some (0, k), some (2, ((A : Nat) : Int)), some (2, ((B : Nat) : Int)), some (2, ((f : Nat) : Int)), some (0, rr12), some (0, rr33), some (2, ((A : Nat) : Int)), some (2, ((A : Nat) : Int))] [] G103
                  refine s_aload dX2_linkBoth_252 rfl (Int.natCast_nonneg _) ?_
                  refine s_iload_n dX2_linkBoth_254 rfl ?_
                  refine s_aload dX2_linkBoth_255 rfl (Int.natCast_nonneg _) ?_
                  refine s_iload_n dX2_linkBoth_257 rfl ?_
                  have hk108 : gK G103 (f) = (9, 0) := ((hXG103).k hk105 (by decide))
                  refine s_callV (as := [(0, k), (2, ((A : Nat) : Int)), (0, k)]) (rest := []) (n := f) (ci := 1) gX0_putNumberOf dX2_linkBoth_258 m_1321 m_745 m_1478 m_711 m_72 ⟨by decide, by decide, show (parseMethodDescriptor yX0_putNumberOf.desc).map (fun d => d.parameters.length) = some 3 from by decide +kernel⟩ (Nat.le_of_ble_eq_true rfl) (by rw [hcf]; exact Nat.le_of_ble_eq_true rfl) hk108 rfl rfl (Nat.le_of_ble_eq_true rfl) ⟨f, k, A, k, a, b, rfl, hCG103, hab, (by first | assumption | omega), (by first | assumption | omega), (by first | assumption | omega), (by first | assumption | omega), fun G106 hCG106 hXG106 hfG106 hpG106 => ?_⟩
                  have hFG106 : WX (fun x => x = 327691 ∨ x = 327692 ∨ (f + 1 ≤ x ∧ x ≤ f + 22)) G G106 := WX.trans hFG103 (KX.trans (KX.trans hXG11 hXG32) hXG103) (WX.mono hfG106 (fun x hx => by omega))
                  have hFIG106 : ∀ k : Nat, k < 6 → FIP P G106 262144 k := fun k hk => FIP.sm (hFIG103 k hk) hXG106 hfG106 (by show ¬ _; omega) (congrFun (hfG106 262149 (KX.al (KX.trans (KX.trans hXG11 hXG32) hXG103) (kne k262149 (by decide))) (by show ¬ _; omega)) k)
                  have hFAG106 : FPa P G106 A := (hFAG103).wx hXG106 hfG106 ⟨KX.al (KX.trans (KX.trans hXG11 hXG32) hXG103) (kne kA3 (by decide)), KX.al (KX.trans (KX.trans hXG11 hXG32) hXG103) (kne kA4 (by decide))⟩ (by show ¬ _; omega) (by show ¬ _; omega) (fun p hp => by show ¬ _; omega)
                  have hFBG106 : FPa P G106 B := (hFBG103).wx hXG106 hfG106 ⟨KX.al (KX.trans (KX.trans hXG11 hXG32) hXG103) (kne kB3 (by decide)), KX.al (KX.trans (KX.trans hXG11 hXG32) hXG103) (kne kB4 (by decide))⟩ (by show ¬ _; omega) (by show ¬ _; omega) (fun p hp => by show ¬ _; omega)
                  have hFfG106 : FPa P G106 f := (hFfG103).wx hXG106 hfG106 ⟨KX.al (KX.trans (KX.trans hXG11 hXG32) hXG103) (kne kf3 (by decide)), KX.al (KX.trans (KX.trans hXG11 hXG32) hXG103) (kne kf4 (by decide))⟩ (by show ¬ _; omega) (by show ¬ _; omega) (fun p hp => by show ¬ _; omega)
                  show WP kX2_linkBoth X 261 [some (2, ((327682 : Nat) : Int)), some (0, k), some (2, ((A : Nat) : Int)), some (2, ((B : Nat) : Int)), some (2, ((f : Nat) : Int)), some (0, rr12), some (0, rr33), some (2, ((A : Nat) : Int)), some (2, ((A : Nat) : Int))] [] G106
                  refine s_iconst dX2_linkBoth_261 (by decide) ?_
                  exact s_iret hR dX2_linkBoth_262 rfl (hQ 0 G106 hCG106 (KX.trans (KX.trans (KX.trans hXG11 hXG32) hXG103) hXG106) hFG106 hFfG106)
                · -- 223 to 226
                  refine s_bipush dX2_linkBoth_226 rfl (by decide) ?_
                  refine s_iload_n dX2_linkBoth_228 rfl ?_
                  refine s_callSN (own := RX2) rfl (by decide +kernel) (as := [(0, 6), (0, k)]) (rest := []) gX11_valueMistake dX2_linkBoth_229 m_1784 m_714 m_129 ⟨by decide, by decide, show (parseMethodDescriptor yX11_valueMistake.desc).map (fun d => d.parameters.length) = some 2 from by decide +kernel⟩ (Nat.le_of_ble_eq_true rfl) (by rw [hcf]; exact Nat.le_of_ble_eq_true rfl) rfl (Nat.le_of_ble_eq_true rfl) ⟨6, k, rfl, (by first | assumption | omega), (by first | assumption | omega), fun rr109 hp110 => ?_⟩
                  show WP kX2_linkBoth X 232 [some (2, ((327682 : Nat) : Int)), some (0, k), some (2, ((A : Nat) : Int)), some (2, ((B : Nat) : Int)), some (2, ((f : Nat) : Int)), some (0, rr12), some (0, rr33), some (2, ((A : Nat) : Int)), some (2, ((A : Nat) : Int))] [(0, rr109)] G32
                  exact s_iret hR dX2_linkBoth_232 rfl (hQ rr109 G32 hCG32 (KX.trans hXG11 hXG32) hFG32 hFfG32)
          · -- 183 to 186
            refine s_aload_n dX2_linkBoth_186 rfl (Int.natCast_nonneg _) ?_
            refine s_goto (tgt := 191) dX2_linkBoth_187 (by decide) ?_
            refine s_astore (Int.natCast_nonneg _) dX2_linkBoth_191 (by decide) (lv' := [some (2, ((327682 : Nat) : Int)), some (0, k), some (2, ((A : Nat) : Int)), some (2, ((B : Nat) : Int)), some (2, ((f : Nat) : Int)), some (0, rr12), some (0, rr33), some (2, ((B : Nat) : Int)), none]) rfl ?_
            refine s_aload_n dX2_linkBoth_193 rfl (Int.natCast_nonneg _) ?_
            refine s_iload_n dX2_linkBoth_194 rfl ?_
            refine s_callV (as := [(0, k)]) (rest := []) (n := A) (ci := 1) gX0_isValueHole dX2_linkBoth_195 m_1322 m_743 m_1476 m_711 m_70 ⟨by decide, by decide, show (parseMethodDescriptor yX0_isValueHole.desc).map (fun d => d.parameters.length) = some 1 from by decide +kernel⟩ (Nat.le_of_ble_eq_true rfl) (by rw [hcf]; exact Nat.le_of_ble_eq_true rfl) hk49 rfl rfl (Nat.le_of_ble_eq_true rfl) ⟨A, k, a, b, rfl, hCG32, hab, (by first | assumption | omega), (by first | assumption | omega), fun rr111 hp112 => ?_⟩
            show WP kX2_linkBoth X 198 [some (2, ((327682 : Nat) : Int)), some (0, k), some (2, ((A : Nat) : Int)), some (2, ((B : Nat) : Int)), some (2, ((f : Nat) : Int)), some (0, rr12), some (0, rr33), some (2, ((B : Nat) : Int)), none] [(0, rr111)] G32
            refine s_if_eq (tgt := 205) dX2_linkBoth_198 (by decide) (fun c113 => ?_) (fun c113 => ?_)
            · -- 198 to 205
              refine s_aload_n dX2_linkBoth_205 rfl (Int.natCast_nonneg _) ?_
              refine s_astore (Int.natCast_nonneg _) dX2_linkBoth_206 (by decide) (lv' := [some (2, ((327682 : Nat) : Int)), some (0, k), some (2, ((A : Nat) : Int)), some (2, ((B : Nat) : Int)), some (2, ((f : Nat) : Int)), some (0, rr12), some (0, rr33), some (2, ((B : Nat) : Int)), some (2, ((B : Nat) : Int))]) rfl ?_
              refine s_aload dX2_linkBoth_208 rfl (Int.natCast_nonneg _) ?_
              refine s_iload_n dX2_linkBoth_210 rfl ?_
              have hk116 : gK G32 (B) = (9, 0) := ((hXG32).k hk16 (by decide))
              refine s_callV (as := [(0, k)]) (rest := []) (n := B) (ci := 1) gX0_isGhost dX2_linkBoth_211 m_1323 m_741 m_1474 m_711 m_68 ⟨by decide, by decide, show (parseMethodDescriptor yX0_isGhost.desc).map (fun d => d.parameters.length) = some 1 from by decide +kernel⟩ (Nat.le_of_ble_eq_true rfl) (by rw [hcf]; exact Nat.le_of_ble_eq_true rfl) hk116 rfl rfl (Nat.le_of_ble_eq_true rfl) ⟨B, k, a, b, rfl, hCG32, hab, (by first | assumption | omega), (by first | assumption | omega), fun rr114 hp115 => ?_⟩
              show WP kX2_linkBoth X 214 [some (2, ((327682 : Nat) : Int)), some (0, k), some (2, ((A : Nat) : Int)), some (2, ((B : Nat) : Int)), some (2, ((f : Nat) : Int)), some (0, rr12), some (0, rr33), some (2, ((B : Nat) : Int)), some (2, ((B : Nat) : Int))] [(0, rr114)] G32
              refine s_if_eq (tgt := 233) dX2_linkBoth_214 (by decide) (fun c117 => ?_) (fun c117 => ?_)
              · -- 214 to 233
                refine s_aload dX2_linkBoth_233 rfl (Int.natCast_nonneg _) ?_
                refine s_iload_n dX2_linkBoth_235 rfl ?_
                refine s_aload dX2_linkBoth_236 rfl (Int.natCast_nonneg _) ?_
                refine s_alv (B) (by simp) (fun al118 => ?_)
                have hv119 : gS G32 B 2 = ((B + 2 : Nat) : Int) := by have h9 : (gS G32 B 2) = (((B % 1048576) + 2 : Nat) : Int) := hCG32.1.v (j := 2) (by rw [cde_n (by omega) (by omega)]; omega : cde B = 101) al118 (by rw [hk116]; exact Nat.le_of_ble_eq_true rfl); omega
                refine s_getf (ci := 1) (k := 2) (C := RX0) (T := TX0) (N := 7) (n := B) (L := 0) (t := 2) dX2_linkBoth_238 rfl wi_65 m_576 (Nat.le_of_ble_eq_true rfl) rfl rfl hk116 hv119 ?_
                refine s_iload_n dX2_linkBoth_241 rfl ?_
                have hk120 : gK G32 (B + 2) = (1, 10) := ((hXG32).k ((hXG11).k kB2 (by decide)) (by decide))
                refine s_iald dX2_linkBoth_242 hk120 (by omega) (by omega) rfl ?_
                refine s_aload_n dX2_linkBoth_243 rfl (Int.natCast_nonneg _) ?_
                have hv121 : gS G32 327682 6 = ((327691 : Nat) : Int) := by have h9 : (gS G32 327682 6) = 327691 := hCG32.1.v (j := 6) (by decide : cde 327682 = 502) al38 (by rw [hk37]; exact Nat.le_of_ble_eq_true rfl); omega
                refine s_getf (ci := 3) (k := 6) (C := RX2) (T := TX2) (N := 8) (n := 327682) (L := 0) (t := 2) dX2_linkBoth_244 rfl wi_70 m_582 (Nat.le_of_ble_eq_true rfl) rfl rfl hk37 hv121 ?_
                refine s_iload dX2_linkBoth_247 rfl ?_
                have hk124 : gK G32 (f) = (9, 0) := ((hXG32).k ((hXG11).k kf0 (by decide)) (by decide))
                refine s_callV (as := [(0, k), (0, gS G32 (B + 2) ((k : Int).toNat)), (2, ((327691 : Nat) : Int)), (0, rr12)]) (rest := []) (n := f) (ci := 1) gX0_putValue dX2_linkBoth_249 m_1320 m_750 m_1483 m_711 m_77 ⟨by decide, by decide, show (parseMethodDescriptor yX0_putValue.desc).map (fun d => d.parameters.length) = some 4 from by decide +kernel⟩ (Nat.le_of_ble_eq_true rfl) (by rw [hcf]; exact Nat.le_of_ble_eq_true rfl) hk124 rfl rfl (Nat.le_of_ble_eq_true rfl) ⟨f, k, gS G32 (B + 2) ((k : Int).toNat), 327691, 200, rr12, a, b, rfl, hCG32, hab, (by first | assumption | omega), (by first | assumption | omega), hk41, (by first | assumption | omega), (by first | assumption | omega), (by first | assumption | omega), fun G122 hCG122 hXG122 hfG122 hpG122 => ?_⟩
                have hFG122 : WX (fun x => x = 327691 ∨ x = 327692 ∨ (f + 1 ≤ x ∧ x ≤ f + 22)) G G122 := WX.trans hFG32 (KX.trans hXG11 hXG32) (WX.mono hfG122 (fun x hx => by omega))
                have hFIG122 : ∀ k : Nat, k < 6 → FIP P G122 262144 k := fun k hk => FIP.sm (hFIG32 k hk) hXG122 hfG122 (by show ¬ _; omega) (congrFun (hfG122 262149 (KX.al (KX.trans hXG11 hXG32) (kne k262149 (by decide))) (by show ¬ _; omega)) k)
                have hFAG122 : FPa P G122 A := (hFAG32).wx hXG122 hfG122 ⟨KX.al (KX.trans hXG11 hXG32) (kne kA3 (by decide)), KX.al (KX.trans hXG11 hXG32) (kne kA4 (by decide))⟩ (by show ¬ _; omega) (by show ¬ _; omega) (fun p hp => by show ¬ _; omega)
                have hFBG122 : FPa P G122 B := (hFBG32).wx hXG122 hfG122 ⟨KX.al (KX.trans hXG11 hXG32) (kne kB3 (by decide)), KX.al (KX.trans hXG11 hXG32) (kne kB4 (by decide))⟩ (by show ¬ _; omega) (by show ¬ _; omega) (fun p hp => by show ¬ _; omega)
                have hFfG122 : FPa P G122 f := FPa.put hpG122.1 hFfG32 (fun _ _ => (hpG11.2 P ((hFA (6 + k : Int).toNat (by omega)).rps hv4 rfl) hFI (by omega)).wx hXG32 hfG32 (by show ¬ _; omega)) hXG122 hfG122 (fun p hp hn => by show ¬ _; omega)
                show WP kX2_linkBoth X 252 [some (2, ((327682 : Nat) : Int)), some (0, k), some (2, ((A : Nat) : Int)), some (2, ((B : Nat) : Int)), some (2, ((f : Nat) : Int)), some (0, rr12), some (0, rr33), some (2, ((B : Nat) : Int)), some (2, ((B : Nat) : Int))] [] G122
                refine s_aload dX2_linkBoth_252 rfl (Int.natCast_nonneg _) ?_
                refine s_iload_n dX2_linkBoth_254 rfl ?_
                refine s_aload dX2_linkBoth_255 rfl (Int.natCast_nonneg _) ?_
                refine s_iload_n dX2_linkBoth_257 rfl ?_
                have hk127 : gK G122 (f) = (9, 0) := ((hXG122).k hk124 (by decide))
                refine s_callV (as := [(0, k), (2, ((B : Nat) : Int)), (0, k)]) (rest := []) (n := f) (ci := 1) gX0_putNumberOf dX2_linkBoth_258 m_1321 m_745 m_1478 m_711 m_72 ⟨by decide, by decide, show (parseMethodDescriptor yX0_putNumberOf.desc).map (fun d => d.parameters.length) = some 3 from by decide +kernel⟩ (Nat.le_of_ble_eq_true rfl) (by rw [hcf]; exact Nat.le_of_ble_eq_true rfl) hk127 rfl rfl (Nat.le_of_ble_eq_true rfl) ⟨f, k, B, k, a, b, rfl, hCG122, hab, (by first | assumption | omega), (by first | assumption | omega), (by first | assumption | omega), (by first | assumption | omega), fun G125 hCG125 hXG125 hfG125 hpG125 => ?_⟩
                have hFG125 : WX (fun x => x = 327691 ∨ x = 327692 ∨ (f + 1 ≤ x ∧ x ≤ f + 22)) G G125 := WX.trans hFG122 (KX.trans (KX.trans hXG11 hXG32) hXG122) (WX.mono hfG125 (fun x hx => by omega))
                have hFIG125 : ∀ k : Nat, k < 6 → FIP P G125 262144 k := fun k hk => FIP.sm (hFIG122 k hk) hXG125 hfG125 (by show ¬ _; omega) (congrFun (hfG125 262149 (KX.al (KX.trans (KX.trans hXG11 hXG32) hXG122) (kne k262149 (by decide))) (by show ¬ _; omega)) k)
                have hFAG125 : FPa P G125 A := (hFAG122).wx hXG125 hfG125 ⟨KX.al (KX.trans (KX.trans hXG11 hXG32) hXG122) (kne kA3 (by decide)), KX.al (KX.trans (KX.trans hXG11 hXG32) hXG122) (kne kA4 (by decide))⟩ (by show ¬ _; omega) (by show ¬ _; omega) (fun p hp => by show ¬ _; omega)
                have hFBG125 : FPa P G125 B := (hFBG122).wx hXG125 hfG125 ⟨KX.al (KX.trans (KX.trans hXG11 hXG32) hXG122) (kne kB3 (by decide)), KX.al (KX.trans (KX.trans hXG11 hXG32) hXG122) (kne kB4 (by decide))⟩ (by show ¬ _; omega) (by show ¬ _; omega) (fun p hp => by show ¬ _; omega)
                have hFfG125 : FPa P G125 f := (hFfG122).wx hXG125 hfG125 ⟨KX.al (KX.trans (KX.trans hXG11 hXG32) hXG122) (kne kf3 (by decide)), KX.al (KX.trans (KX.trans hXG11 hXG32) hXG122) (kne kf4 (by decide))⟩ (by show ¬ _; omega) (by show ¬ _; omega) (fun p hp => by show ¬ _; omega)
                show WP kX2_linkBoth X 261 [some (2, ((327682 : Nat) : Int)), some (0, k), some (2, ((A : Nat) : Int)), some (2, ((B : Nat) : Int)), some (2, ((f : Nat) : Int)), some (0, rr12), some (0, rr33), some (2, ((B : Nat) : Int)), some (2, ((B : Nat) : Int))] [] G125
                refine s_iconst dX2_linkBoth_261 (by decide) ?_
                exact s_iret hR dX2_linkBoth_262 rfl (hQ 0 G125 hCG125 (KX.trans (KX.trans (KX.trans hXG11 hXG32) hXG122) hXG125) hFG125 hFfG125)
              · -- 214 to 217
                refine s_aload dX2_linkBoth_217 rfl (Int.natCast_nonneg _) ?_
                refine s_iload_n dX2_linkBoth_219 rfl ?_
                refine s_callV (as := [(0, k)]) (rest := []) (n := B) (ci := 1) gX0_isGhost dX2_linkBoth_220 m_1323 m_741 m_1474 m_711 m_68 ⟨by decide, by decide, show (parseMethodDescriptor yX0_isGhost.desc).map (fun d => d.parameters.length) = some 1 from by decide +kernel⟩ (Nat.le_of_ble_eq_true rfl) (by rw [hcf]; exact Nat.le_of_ble_eq_true rfl) hk116 rfl rfl (Nat.le_of_ble_eq_true rfl) ⟨B, k, a, b, rfl, hCG32, hab, (by first | assumption | omega), (by first | assumption | omega), fun rr128 hp129 => ?_⟩
                show WP kX2_linkBoth X 223 [some (2, ((327682 : Nat) : Int)), some (0, k), some (2, ((A : Nat) : Int)), some (2, ((B : Nat) : Int)), some (2, ((f : Nat) : Int)), some (0, rr12), some (0, rr33), some (2, ((B : Nat) : Int)), some (2, ((B : Nat) : Int))] [(0, rr128)] G32
                refine s_if_ne (tgt := 233) dX2_linkBoth_223 (by decide) (fun c130 => ?_) (fun c130 => ?_)
                · -- 223 to 233
                  refine s_aload dX2_linkBoth_233 rfl (Int.natCast_nonneg _) ?_
                  refine s_iload_n dX2_linkBoth_235 rfl ?_
                  refine s_aload dX2_linkBoth_236 rfl (Int.natCast_nonneg _) ?_
                  refine s_alv (B) (by simp) (fun al131 => ?_)
                  have hv132 : gS G32 B 2 = ((B + 2 : Nat) : Int) := by have h9 : (gS G32 B 2) = (((B % 1048576) + 2 : Nat) : Int) := hCG32.1.v (j := 2) (by rw [cde_n (by omega) (by omega)]; omega : cde B = 101) al131 (by rw [hk116]; exact Nat.le_of_ble_eq_true rfl); omega
                  refine s_getf (ci := 1) (k := 2) (C := RX0) (T := TX0) (N := 7) (n := B) (L := 0) (t := 2) dX2_linkBoth_238 rfl wi_65 m_576 (Nat.le_of_ble_eq_true rfl) rfl rfl hk116 hv132 ?_
                  refine s_iload_n dX2_linkBoth_241 rfl ?_
                  have hk133 : gK G32 (B + 2) = (1, 10) := ((hXG32).k ((hXG11).k kB2 (by decide)) (by decide))
                  refine s_iald dX2_linkBoth_242 hk133 (by omega) (by omega) rfl ?_
                  refine s_aload_n dX2_linkBoth_243 rfl (Int.natCast_nonneg _) ?_
                  have hv134 : gS G32 327682 6 = ((327691 : Nat) : Int) := by have h9 : (gS G32 327682 6) = 327691 := hCG32.1.v (j := 6) (by decide : cde 327682 = 502) al38 (by rw [hk37]; exact Nat.le_of_ble_eq_true rfl); omega
                  refine s_getf (ci := 3) (k := 6) (C := RX2) (T := TX2) (N := 8) (n := 327682) (L := 0) (t := 2) dX2_linkBoth_244 rfl wi_70 m_582 (Nat.le_of_ble_eq_true rfl) rfl rfl hk37 hv134 ?_
                  refine s_iload dX2_linkBoth_247 rfl ?_
                  have hk137 : gK G32 (f) = (9, 0) := ((hXG32).k ((hXG11).k kf0 (by decide)) (by decide))
                  refine s_callV (as := [(0, k), (0, gS G32 (B + 2) ((k : Int).toNat)), (2, ((327691 : Nat) : Int)), (0, rr12)]) (rest := []) (n := f) (ci := 1) gX0_putValue dX2_linkBoth_249 m_1320 m_750 m_1483 m_711 m_77 ⟨by decide, by decide, show (parseMethodDescriptor yX0_putValue.desc).map (fun d => d.parameters.length) = some 4 from by decide +kernel⟩ (Nat.le_of_ble_eq_true rfl) (by rw [hcf]; exact Nat.le_of_ble_eq_true rfl) hk137 rfl rfl (Nat.le_of_ble_eq_true rfl) ⟨f, k, gS G32 (B + 2) ((k : Int).toNat), 327691, 200, rr12, a, b, rfl, hCG32, hab, (by first | assumption | omega), (by first | assumption | omega), hk41, (by first | assumption | omega), (by first | assumption | omega), (by first | assumption | omega), fun G135 hCG135 hXG135 hfG135 hpG135 => ?_⟩
                  have hFG135 : WX (fun x => x = 327691 ∨ x = 327692 ∨ (f + 1 ≤ x ∧ x ≤ f + 22)) G G135 := WX.trans hFG32 (KX.trans hXG11 hXG32) (WX.mono hfG135 (fun x hx => by omega))
                  have hFIG135 : ∀ k : Nat, k < 6 → FIP P G135 262144 k := fun k hk => FIP.sm (hFIG32 k hk) hXG135 hfG135 (by show ¬ _; omega) (congrFun (hfG135 262149 (KX.al (KX.trans hXG11 hXG32) (kne k262149 (by decide))) (by show ¬ _; omega)) k)
                  have hFAG135 : FPa P G135 A := (hFAG32).wx hXG135 hfG135 ⟨KX.al (KX.trans hXG11 hXG32) (kne kA3 (by decide)), KX.al (KX.trans hXG11 hXG32) (kne kA4 (by decide))⟩ (by show ¬ _; omega) (by show ¬ _; omega) (fun p hp => by show ¬ _; omega)
                  have hFBG135 : FPa P G135 B := (hFBG32).wx hXG135 hfG135 ⟨KX.al (KX.trans hXG11 hXG32) (kne kB3 (by decide)), KX.al (KX.trans hXG11 hXG32) (kne kB4 (by decide))⟩ (by show ¬ _; omega) (by show ¬ _; omega) (fun p hp => by show ¬ _; omega)
                  have hFfG135 : FPa P G135 f := FPa.put hpG135.1 hFfG32 (fun _ _ => (hpG11.2 P ((hFA (6 + k : Int).toNat (by omega)).rps hv4 rfl) hFI (by omega)).wx hXG32 hfG32 (by show ¬ _; omega)) hXG135 hfG135 (fun p hp hn => by show ¬ _; omega)
                  show WP kX2_linkBoth X 252 [some (2, ((327682 : Nat) : Int)), some (0, k), some (2, ((A : Nat) : Int)), some (2, ((B : Nat) : Int)), some (2, ((f : Nat) : Int)), some (0, rr12), some (0, rr33), some (2, ((B : Nat) : Int)), some (2, ((B : Nat) : Int))] [] G135
                  refine s_aload dX2_linkBoth_252 rfl (Int.natCast_nonneg _) ?_
                  refine s_iload_n dX2_linkBoth_254 rfl ?_
                  refine s_aload dX2_linkBoth_255 rfl (Int.natCast_nonneg _) ?_
                  refine s_iload_n dX2_linkBoth_257 rfl ?_
                  have hk140 : gK G135 (f) = (9, 0) := ((hXG135).k hk137 (by decide))
                  refine s_callV (as := [(0, k), (2, ((B : Nat) : Int)), (0, k)]) (rest := []) (n := f) (ci := 1) gX0_putNumberOf dX2_linkBoth_258 m_1321 m_745 m_1478 m_711 m_72 ⟨by decide, by decide, show (parseMethodDescriptor yX0_putNumberOf.desc).map (fun d => d.parameters.length) = some 3 from by decide +kernel⟩ (Nat.le_of_ble_eq_true rfl) (by rw [hcf]; exact Nat.le_of_ble_eq_true rfl) hk140 rfl rfl (Nat.le_of_ble_eq_true rfl) ⟨f, k, B, k, a, b, rfl, hCG135, hab, (by first | assumption | omega), (by first | assumption | omega), (by first | assumption | omega), (by first | assumption | omega), fun G138 hCG138 hXG138 hfG138 hpG138 => ?_⟩
                  have hFG138 : WX (fun x => x = 327691 ∨ x = 327692 ∨ (f + 1 ≤ x ∧ x ≤ f + 22)) G G138 := WX.trans hFG135 (KX.trans (KX.trans hXG11 hXG32) hXG135) (WX.mono hfG138 (fun x hx => by omega))
                  have hFIG138 : ∀ k : Nat, k < 6 → FIP P G138 262144 k := fun k hk => FIP.sm (hFIG135 k hk) hXG138 hfG138 (by show ¬ _; omega) (congrFun (hfG138 262149 (KX.al (KX.trans (KX.trans hXG11 hXG32) hXG135) (kne k262149 (by decide))) (by show ¬ _; omega)) k)
                  have hFAG138 : FPa P G138 A := (hFAG135).wx hXG138 hfG138 ⟨KX.al (KX.trans (KX.trans hXG11 hXG32) hXG135) (kne kA3 (by decide)), KX.al (KX.trans (KX.trans hXG11 hXG32) hXG135) (kne kA4 (by decide))⟩ (by show ¬ _; omega) (by show ¬ _; omega) (fun p hp => by show ¬ _; omega)
                  have hFBG138 : FPa P G138 B := (hFBG135).wx hXG138 hfG138 ⟨KX.al (KX.trans (KX.trans hXG11 hXG32) hXG135) (kne kB3 (by decide)), KX.al (KX.trans (KX.trans hXG11 hXG32) hXG135) (kne kB4 (by decide))⟩ (by show ¬ _; omega) (by show ¬ _; omega) (fun p hp => by show ¬ _; omega)
                  have hFfG138 : FPa P G138 f := (hFfG135).wx hXG138 hfG138 ⟨KX.al (KX.trans (KX.trans hXG11 hXG32) hXG135) (kne kf3 (by decide)), KX.al (KX.trans (KX.trans hXG11 hXG32) hXG135) (kne kf4 (by decide))⟩ (by show ¬ _; omega) (by show ¬ _; omega) (fun p hp => by show ¬ _; omega)
                  show WP kX2_linkBoth X 261 [some (2, ((327682 : Nat) : Int)), some (0, k), some (2, ((A : Nat) : Int)), some (2, ((B : Nat) : Int)), some (2, ((f : Nat) : Int)), some (0, rr12), some (0, rr33), some (2, ((B : Nat) : Int)), some (2, ((B : Nat) : Int))] [] G138
                  refine s_iconst dX2_linkBoth_261 (by decide) ?_
                  exact s_iret hR dX2_linkBoth_262 rfl (hQ 0 G138 hCG138 (KX.trans (KX.trans (KX.trans hXG11 hXG32) hXG135) hXG138) hFG138 hFfG138)
                · -- 223 to 226
                  refine s_bipush dX2_linkBoth_226 rfl (by decide) ?_
                  refine s_iload_n dX2_linkBoth_228 rfl ?_
                  refine s_callSN (own := RX2) rfl (by decide +kernel) (as := [(0, 6), (0, k)]) (rest := []) gX11_valueMistake dX2_linkBoth_229 m_1784 m_714 m_129 ⟨by decide, by decide, show (parseMethodDescriptor yX11_valueMistake.desc).map (fun d => d.parameters.length) = some 2 from by decide +kernel⟩ (Nat.le_of_ble_eq_true rfl) (by rw [hcf]; exact Nat.le_of_ble_eq_true rfl) rfl (Nat.le_of_ble_eq_true rfl) ⟨6, k, rfl, (by first | assumption | omega), (by first | assumption | omega), fun rr141 hp142 => ?_⟩
                  show WP kX2_linkBoth X 232 [some (2, ((327682 : Nat) : Int)), some (0, k), some (2, ((A : Nat) : Int)), some (2, ((B : Nat) : Int)), some (2, ((f : Nat) : Int)), some (0, rr12), some (0, rr33), some (2, ((B : Nat) : Int)), some (2, ((B : Nat) : Int))] [(0, rr141)] G32
                  exact s_iret hR dX2_linkBoth_232 rfl (hQ rr141 G32 hCG32 (KX.trans hXG11 hXG32) hFG32 hFfG32)
            · -- 198 to 201
              refine s_aload_n dX2_linkBoth_201 rfl (Int.natCast_nonneg _) ?_
              refine s_goto (tgt := 206) dX2_linkBoth_202 (by decide) ?_
              refine s_astore (Int.natCast_nonneg _) dX2_linkBoth_206 (by decide) (lv' := [some (2, ((327682 : Nat) : Int)), some (0, k), some (2, ((A : Nat) : Int)), some (2, ((B : Nat) : Int)), some (2, ((f : Nat) : Int)), some (0, rr12), some (0, rr33), some (2, ((B : Nat) : Int)), some (2, ((A : Nat) : Int))]) rfl ?_
              refine s_aload dX2_linkBoth_208 rfl (Int.natCast_nonneg _) ?_
              refine s_iload_n dX2_linkBoth_210 rfl ?_
              have hk145 : gK G32 (B) = (9, 0) := ((hXG32).k hk16 (by decide))
              refine s_callV (as := [(0, k)]) (rest := []) (n := B) (ci := 1) gX0_isGhost dX2_linkBoth_211 m_1323 m_741 m_1474 m_711 m_68 ⟨by decide, by decide, show (parseMethodDescriptor yX0_isGhost.desc).map (fun d => d.parameters.length) = some 1 from by decide +kernel⟩ (Nat.le_of_ble_eq_true rfl) (by rw [hcf]; exact Nat.le_of_ble_eq_true rfl) hk145 rfl rfl (Nat.le_of_ble_eq_true rfl) ⟨B, k, a, b, rfl, hCG32, hab, (by first | assumption | omega), (by first | assumption | omega), fun rr143 hp144 => ?_⟩
              show WP kX2_linkBoth X 214 [some (2, ((327682 : Nat) : Int)), some (0, k), some (2, ((A : Nat) : Int)), some (2, ((B : Nat) : Int)), some (2, ((f : Nat) : Int)), some (0, rr12), some (0, rr33), some (2, ((B : Nat) : Int)), some (2, ((A : Nat) : Int))] [(0, rr143)] G32
              refine s_if_eq (tgt := 233) dX2_linkBoth_214 (by decide) (fun c146 => ?_) (fun c146 => ?_)
              · -- 214 to 233
                refine s_aload dX2_linkBoth_233 rfl (Int.natCast_nonneg _) ?_
                refine s_iload_n dX2_linkBoth_235 rfl ?_
                refine s_aload dX2_linkBoth_236 rfl (Int.natCast_nonneg _) ?_
                refine s_alv (B) (by simp) (fun al147 => ?_)
                have hv148 : gS G32 B 2 = ((B + 2 : Nat) : Int) := by have h9 : (gS G32 B 2) = (((B % 1048576) + 2 : Nat) : Int) := hCG32.1.v (j := 2) (by rw [cde_n (by omega) (by omega)]; omega : cde B = 101) al147 (by rw [hk145]; exact Nat.le_of_ble_eq_true rfl); omega
                refine s_getf (ci := 1) (k := 2) (C := RX0) (T := TX0) (N := 7) (n := B) (L := 0) (t := 2) dX2_linkBoth_238 rfl wi_65 m_576 (Nat.le_of_ble_eq_true rfl) rfl rfl hk145 hv148 ?_
                refine s_iload_n dX2_linkBoth_241 rfl ?_
                have hk149 : gK G32 (B + 2) = (1, 10) := ((hXG32).k ((hXG11).k kB2 (by decide)) (by decide))
                refine s_iald dX2_linkBoth_242 hk149 (by omega) (by omega) rfl ?_
                refine s_aload_n dX2_linkBoth_243 rfl (Int.natCast_nonneg _) ?_
                have hv150 : gS G32 327682 6 = ((327691 : Nat) : Int) := by have h9 : (gS G32 327682 6) = 327691 := hCG32.1.v (j := 6) (by decide : cde 327682 = 502) al38 (by rw [hk37]; exact Nat.le_of_ble_eq_true rfl); omega
                refine s_getf (ci := 3) (k := 6) (C := RX2) (T := TX2) (N := 8) (n := 327682) (L := 0) (t := 2) dX2_linkBoth_244 rfl wi_70 m_582 (Nat.le_of_ble_eq_true rfl) rfl rfl hk37 hv150 ?_
                refine s_iload dX2_linkBoth_247 rfl ?_
                have hk153 : gK G32 (f) = (9, 0) := ((hXG32).k ((hXG11).k kf0 (by decide)) (by decide))
                refine s_callV (as := [(0, k), (0, gS G32 (B + 2) ((k : Int).toNat)), (2, ((327691 : Nat) : Int)), (0, rr12)]) (rest := []) (n := f) (ci := 1) gX0_putValue dX2_linkBoth_249 m_1320 m_750 m_1483 m_711 m_77 ⟨by decide, by decide, show (parseMethodDescriptor yX0_putValue.desc).map (fun d => d.parameters.length) = some 4 from by decide +kernel⟩ (Nat.le_of_ble_eq_true rfl) (by rw [hcf]; exact Nat.le_of_ble_eq_true rfl) hk153 rfl rfl (Nat.le_of_ble_eq_true rfl) ⟨f, k, gS G32 (B + 2) ((k : Int).toNat), 327691, 200, rr12, a, b, rfl, hCG32, hab, (by first | assumption | omega), (by first | assumption | omega), hk41, (by first | assumption | omega), (by first | assumption | omega), (by first | assumption | omega), fun G151 hCG151 hXG151 hfG151 hpG151 => ?_⟩
                have hFG151 : WX (fun x => x = 327691 ∨ x = 327692 ∨ (f + 1 ≤ x ∧ x ≤ f + 22)) G G151 := WX.trans hFG32 (KX.trans hXG11 hXG32) (WX.mono hfG151 (fun x hx => by omega))
                have hFIG151 : ∀ k : Nat, k < 6 → FIP P G151 262144 k := fun k hk => FIP.sm (hFIG32 k hk) hXG151 hfG151 (by show ¬ _; omega) (congrFun (hfG151 262149 (KX.al (KX.trans hXG11 hXG32) (kne k262149 (by decide))) (by show ¬ _; omega)) k)
                have hFAG151 : FPa P G151 A := (hFAG32).wx hXG151 hfG151 ⟨KX.al (KX.trans hXG11 hXG32) (kne kA3 (by decide)), KX.al (KX.trans hXG11 hXG32) (kne kA4 (by decide))⟩ (by show ¬ _; omega) (by show ¬ _; omega) (fun p hp => by show ¬ _; omega)
                have hFBG151 : FPa P G151 B := (hFBG32).wx hXG151 hfG151 ⟨KX.al (KX.trans hXG11 hXG32) (kne kB3 (by decide)), KX.al (KX.trans hXG11 hXG32) (kne kB4 (by decide))⟩ (by show ¬ _; omega) (by show ¬ _; omega) (fun p hp => by show ¬ _; omega)
                have hFfG151 : FPa P G151 f := FPa.put hpG151.1 hFfG32 (fun _ _ => (hpG11.2 P ((hFA (6 + k : Int).toNat (by omega)).rps hv4 rfl) hFI (by omega)).wx hXG32 hfG32 (by show ¬ _; omega)) hXG151 hfG151 (fun p hp hn => by show ¬ _; omega)
                show WP kX2_linkBoth X 252 [some (2, ((327682 : Nat) : Int)), some (0, k), some (2, ((A : Nat) : Int)), some (2, ((B : Nat) : Int)), some (2, ((f : Nat) : Int)), some (0, rr12), some (0, rr33), some (2, ((B : Nat) : Int)), some (2, ((A : Nat) : Int))] [] G151
                refine s_aload dX2_linkBoth_252 rfl (Int.natCast_nonneg _) ?_
                refine s_iload_n dX2_linkBoth_254 rfl ?_
                refine s_aload dX2_linkBoth_255 rfl (Int.natCast_nonneg _) ?_
                refine s_iload_n dX2_linkBoth_257 rfl ?_
                have hk156 : gK G151 (f) = (9, 0) := ((hXG151).k hk153 (by decide))
                refine s_callV (as := [(0, k), (2, ((B : Nat) : Int)), (0, k)]) (rest := []) (n := f) (ci := 1) gX0_putNumberOf dX2_linkBoth_258 m_1321 m_745 m_1478 m_711 m_72 ⟨by decide, by decide, show (parseMethodDescriptor yX0_putNumberOf.desc).map (fun d => d.parameters.length) = some 3 from by decide +kernel⟩ (Nat.le_of_ble_eq_true rfl) (by rw [hcf]; exact Nat.le_of_ble_eq_true rfl) hk156 rfl rfl (Nat.le_of_ble_eq_true rfl) ⟨f, k, B, k, a, b, rfl, hCG151, hab, (by first | assumption | omega), (by first | assumption | omega), (by first | assumption | omega), (by first | assumption | omega), fun G154 hCG154 hXG154 hfG154 hpG154 => ?_⟩
                have hFG154 : WX (fun x => x = 327691 ∨ x = 327692 ∨ (f + 1 ≤ x ∧ x ≤ f + 22)) G G154 := WX.trans hFG151 (KX.trans (KX.trans hXG11 hXG32) hXG151) (WX.mono hfG154 (fun x hx => by omega))
                have hFIG154 : ∀ k : Nat, k < 6 → FIP P G154 262144 k := fun k hk => FIP.sm (hFIG151 k hk) hXG154 hfG154 (by show ¬ _; omega) (congrFun (hfG154 262149 (KX.al (KX.trans (KX.trans hXG11 hXG32) hXG151) (kne k262149 (by decide))) (by show ¬ _; omega)) k)
                have hFAG154 : FPa P G154 A := (hFAG151).wx hXG154 hfG154 ⟨KX.al (KX.trans (KX.trans hXG11 hXG32) hXG151) (kne kA3 (by decide)), KX.al (KX.trans (KX.trans hXG11 hXG32) hXG151) (kne kA4 (by decide))⟩ (by show ¬ _; omega) (by show ¬ _; omega) (fun p hp => by show ¬ _; omega)
                have hFBG154 : FPa P G154 B := (hFBG151).wx hXG154 hfG154 ⟨KX.al (KX.trans (KX.trans hXG11 hXG32) hXG151) (kne kB3 (by decide)), KX.al (KX.trans (KX.trans hXG11 hXG32) hXG151) (kne kB4 (by decide))⟩ (by show ¬ _; omega) (by show ¬ _; omega) (fun p hp => by show ¬ _; omega)
                have hFfG154 : FPa P G154 f := (hFfG151).wx hXG154 hfG154 ⟨KX.al (KX.trans (KX.trans hXG11 hXG32) hXG151) (kne kf3 (by decide)), KX.al (KX.trans (KX.trans hXG11 hXG32) hXG151) (kne kf4 (by decide))⟩ (by show ¬ _; omega) (by show ¬ _; omega) (fun p hp => by show ¬ _; omega)
                show WP kX2_linkBoth X 261 [some (2, ((327682 : Nat) : Int)), some (0, k), some (2, ((A : Nat) : Int)), some (2, ((B : Nat) : Int)), some (2, ((f : Nat) : Int)), some (0, rr12), some (0, rr33), some (2, ((B : Nat) : Int)), some (2, ((A : Nat) : Int))] [] G154
                refine s_iconst dX2_linkBoth_261 (by decide) ?_
                exact s_iret hR dX2_linkBoth_262 rfl (hQ 0 G154 hCG154 (KX.trans (KX.trans (KX.trans hXG11 hXG32) hXG151) hXG154) hFG154 hFfG154)
              · -- 214 to 217
                refine s_aload dX2_linkBoth_217 rfl (Int.natCast_nonneg _) ?_
                refine s_iload_n dX2_linkBoth_219 rfl ?_
                refine s_callV (as := [(0, k)]) (rest := []) (n := A) (ci := 1) gX0_isGhost dX2_linkBoth_220 m_1323 m_741 m_1474 m_711 m_68 ⟨by decide, by decide, show (parseMethodDescriptor yX0_isGhost.desc).map (fun d => d.parameters.length) = some 1 from by decide +kernel⟩ (Nat.le_of_ble_eq_true rfl) (by rw [hcf]; exact Nat.le_of_ble_eq_true rfl) hk49 rfl rfl (Nat.le_of_ble_eq_true rfl) ⟨A, k, a, b, rfl, hCG32, hab, (by first | assumption | omega), (by first | assumption | omega), fun rr157 hp158 => ?_⟩
                show WP kX2_linkBoth X 223 [some (2, ((327682 : Nat) : Int)), some (0, k), some (2, ((A : Nat) : Int)), some (2, ((B : Nat) : Int)), some (2, ((f : Nat) : Int)), some (0, rr12), some (0, rr33), some (2, ((B : Nat) : Int)), some (2, ((A : Nat) : Int))] [(0, rr157)] G32
                refine s_if_ne (tgt := 233) dX2_linkBoth_223 (by decide) (fun c159 => ?_) (fun c159 => ?_)
                · -- 223 to 233
                  refine s_aload dX2_linkBoth_233 rfl (Int.natCast_nonneg _) ?_
                  refine s_iload_n dX2_linkBoth_235 rfl ?_
                  refine s_aload dX2_linkBoth_236 rfl (Int.natCast_nonneg _) ?_
                  refine s_alv (B) (by simp) (fun al160 => ?_)
                  have hv161 : gS G32 B 2 = ((B + 2 : Nat) : Int) := by have h9 : (gS G32 B 2) = (((B % 1048576) + 2 : Nat) : Int) := hCG32.1.v (j := 2) (by rw [cde_n (by omega) (by omega)]; omega : cde B = 101) al160 (by rw [hk145]; exact Nat.le_of_ble_eq_true rfl); omega
                  refine s_getf (ci := 1) (k := 2) (C := RX0) (T := TX0) (N := 7) (n := B) (L := 0) (t := 2) dX2_linkBoth_238 rfl wi_65 m_576 (Nat.le_of_ble_eq_true rfl) rfl rfl hk145 hv161 ?_
                  refine s_iload_n dX2_linkBoth_241 rfl ?_
                  have hk162 : gK G32 (B + 2) = (1, 10) := ((hXG32).k ((hXG11).k kB2 (by decide)) (by decide))
                  refine s_iald dX2_linkBoth_242 hk162 (by omega) (by omega) rfl ?_
                  refine s_aload_n dX2_linkBoth_243 rfl (Int.natCast_nonneg _) ?_
                  have hv163 : gS G32 327682 6 = ((327691 : Nat) : Int) := by have h9 : (gS G32 327682 6) = 327691 := hCG32.1.v (j := 6) (by decide : cde 327682 = 502) al38 (by rw [hk37]; exact Nat.le_of_ble_eq_true rfl); omega
                  refine s_getf (ci := 3) (k := 6) (C := RX2) (T := TX2) (N := 8) (n := 327682) (L := 0) (t := 2) dX2_linkBoth_244 rfl wi_70 m_582 (Nat.le_of_ble_eq_true rfl) rfl rfl hk37 hv163 ?_
                  refine s_iload dX2_linkBoth_247 rfl ?_
                  have hk166 : gK G32 (f) = (9, 0) := ((hXG32).k ((hXG11).k kf0 (by decide)) (by decide))
                  refine s_callV (as := [(0, k), (0, gS G32 (B + 2) ((k : Int).toNat)), (2, ((327691 : Nat) : Int)), (0, rr12)]) (rest := []) (n := f) (ci := 1) gX0_putValue dX2_linkBoth_249 m_1320 m_750 m_1483 m_711 m_77 ⟨by decide, by decide, show (parseMethodDescriptor yX0_putValue.desc).map (fun d => d.parameters.length) = some 4 from by decide +kernel⟩ (Nat.le_of_ble_eq_true rfl) (by rw [hcf]; exact Nat.le_of_ble_eq_true rfl) hk166 rfl rfl (Nat.le_of_ble_eq_true rfl) ⟨f, k, gS G32 (B + 2) ((k : Int).toNat), 327691, 200, rr12, a, b, rfl, hCG32, hab, (by first | assumption | omega), (by first | assumption | omega), hk41, (by first | assumption | omega), (by first | assumption | omega), (by first | assumption | omega), fun G164 hCG164 hXG164 hfG164 hpG164 => ?_⟩
                  have hFG164 : WX (fun x => x = 327691 ∨ x = 327692 ∨ (f + 1 ≤ x ∧ x ≤ f + 22)) G G164 := WX.trans hFG32 (KX.trans hXG11 hXG32) (WX.mono hfG164 (fun x hx => by omega))
                  have hFIG164 : ∀ k : Nat, k < 6 → FIP P G164 262144 k := fun k hk => FIP.sm (hFIG32 k hk) hXG164 hfG164 (by show ¬ _; omega) (congrFun (hfG164 262149 (KX.al (KX.trans hXG11 hXG32) (kne k262149 (by decide))) (by show ¬ _; omega)) k)
                  have hFAG164 : FPa P G164 A := (hFAG32).wx hXG164 hfG164 ⟨KX.al (KX.trans hXG11 hXG32) (kne kA3 (by decide)), KX.al (KX.trans hXG11 hXG32) (kne kA4 (by decide))⟩ (by show ¬ _; omega) (by show ¬ _; omega) (fun p hp => by show ¬ _; omega)
                  have hFBG164 : FPa P G164 B := (hFBG32).wx hXG164 hfG164 ⟨KX.al (KX.trans hXG11 hXG32) (kne kB3 (by decide)), KX.al (KX.trans hXG11 hXG32) (kne kB4 (by decide))⟩ (by show ¬ _; omega) (by show ¬ _; omega) (fun p hp => by show ¬ _; omega)
                  have hFfG164 : FPa P G164 f := FPa.put hpG164.1 hFfG32 (fun _ _ => (hpG11.2 P ((hFA (6 + k : Int).toNat (by omega)).rps hv4 rfl) hFI (by omega)).wx hXG32 hfG32 (by show ¬ _; omega)) hXG164 hfG164 (fun p hp hn => by show ¬ _; omega)
                  show WP kX2_linkBoth X 252 [some (2, ((327682 : Nat) : Int)), some (0, k), some (2, ((A : Nat) : Int)), some (2, ((B : Nat) : Int)), some (2, ((f : Nat) : Int)), some (0, rr12), some (0, rr33), some (2, ((B : Nat) : Int)), some (2, ((A : Nat) : Int))] [] G164
                  refine s_aload dX2_linkBoth_252 rfl (Int.natCast_nonneg _) ?_
                  refine s_iload_n dX2_linkBoth_254 rfl ?_
                  refine s_aload dX2_linkBoth_255 rfl (Int.natCast_nonneg _) ?_
                  refine s_iload_n dX2_linkBoth_257 rfl ?_
                  have hk169 : gK G164 (f) = (9, 0) := ((hXG164).k hk166 (by decide))
                  refine s_callV (as := [(0, k), (2, ((B : Nat) : Int)), (0, k)]) (rest := []) (n := f) (ci := 1) gX0_putNumberOf dX2_linkBoth_258 m_1321 m_745 m_1478 m_711 m_72 ⟨by decide, by decide, show (parseMethodDescriptor yX0_putNumberOf.desc).map (fun d => d.parameters.length) = some 3 from by decide +kernel⟩ (Nat.le_of_ble_eq_true rfl) (by rw [hcf]; exact Nat.le_of_ble_eq_true rfl) hk169 rfl rfl (Nat.le_of_ble_eq_true rfl) ⟨f, k, B, k, a, b, rfl, hCG164, hab, (by first | assumption | omega), (by first | assumption | omega), (by first | assumption | omega), (by first | assumption | omega), fun G167 hCG167 hXG167 hfG167 hpG167 => ?_⟩
                  have hFG167 : WX (fun x => x = 327691 ∨ x = 327692 ∨ (f + 1 ≤ x ∧ x ≤ f + 22)) G G167 := WX.trans hFG164 (KX.trans (KX.trans hXG11 hXG32) hXG164) (WX.mono hfG167 (fun x hx => by omega))
                  have hFIG167 : ∀ k : Nat, k < 6 → FIP P G167 262144 k := fun k hk => FIP.sm (hFIG164 k hk) hXG167 hfG167 (by show ¬ _; omega) (congrFun (hfG167 262149 (KX.al (KX.trans (KX.trans hXG11 hXG32) hXG164) (kne k262149 (by decide))) (by show ¬ _; omega)) k)
                  have hFAG167 : FPa P G167 A := (hFAG164).wx hXG167 hfG167 ⟨KX.al (KX.trans (KX.trans hXG11 hXG32) hXG164) (kne kA3 (by decide)), KX.al (KX.trans (KX.trans hXG11 hXG32) hXG164) (kne kA4 (by decide))⟩ (by show ¬ _; omega) (by show ¬ _; omega) (fun p hp => by show ¬ _; omega)
                  have hFBG167 : FPa P G167 B := (hFBG164).wx hXG167 hfG167 ⟨KX.al (KX.trans (KX.trans hXG11 hXG32) hXG164) (kne kB3 (by decide)), KX.al (KX.trans (KX.trans hXG11 hXG32) hXG164) (kne kB4 (by decide))⟩ (by show ¬ _; omega) (by show ¬ _; omega) (fun p hp => by show ¬ _; omega)
                  have hFfG167 : FPa P G167 f := (hFfG164).wx hXG167 hfG167 ⟨KX.al (KX.trans (KX.trans hXG11 hXG32) hXG164) (kne kf3 (by decide)), KX.al (KX.trans (KX.trans hXG11 hXG32) hXG164) (kne kf4 (by decide))⟩ (by show ¬ _; omega) (by show ¬ _; omega) (fun p hp => by show ¬ _; omega)
                  show WP kX2_linkBoth X 261 [some (2, ((327682 : Nat) : Int)), some (0, k), some (2, ((A : Nat) : Int)), some (2, ((B : Nat) : Int)), some (2, ((f : Nat) : Int)), some (0, rr12), some (0, rr33), some (2, ((B : Nat) : Int)), some (2, ((A : Nat) : Int))] [] G167
                  refine s_iconst dX2_linkBoth_261 (by decide) ?_
                  exact s_iret hR dX2_linkBoth_262 rfl (hQ 0 G167 hCG167 (KX.trans (KX.trans (KX.trans hXG11 hXG32) hXG164) hXG167) hFG167 hFfG167)
                · -- 223 to 226
                  refine s_bipush dX2_linkBoth_226 rfl (by decide) ?_
                  refine s_iload_n dX2_linkBoth_228 rfl ?_
                  refine s_callSN (own := RX2) rfl (by decide +kernel) (as := [(0, 6), (0, k)]) (rest := []) gX11_valueMistake dX2_linkBoth_229 m_1784 m_714 m_129 ⟨by decide, by decide, show (parseMethodDescriptor yX11_valueMistake.desc).map (fun d => d.parameters.length) = some 2 from by decide +kernel⟩ (Nat.le_of_ble_eq_true rfl) (by rw [hcf]; exact Nat.le_of_ble_eq_true rfl) rfl (Nat.le_of_ble_eq_true rfl) ⟨6, k, rfl, (by first | assumption | omega), (by first | assumption | omega), fun rr170 hp171 => ?_⟩
                  show WP kX2_linkBoth X 232 [some (2, ((327682 : Nat) : Int)), some (0, k), some (2, ((A : Nat) : Int)), some (2, ((B : Nat) : Int)), some (2, ((f : Nat) : Int)), some (0, rr12), some (0, rr33), some (2, ((B : Nat) : Int)), some (2, ((A : Nat) : Int))] [(0, rr170)] G32
                  exact s_iret hR dX2_linkBoth_232 rfl (hQ rr170 G32 hCG32 (KX.trans hXG11 hXG32) hFG32 hFfG32)
        refine s_aload_n dX2_linkBoth_131 rfl (Int.natCast_nonneg _) ?_
        refine s_iload_n dX2_linkBoth_132 rfl ?_
        have hk174 : gK G32 (A) = (9, 0) := ((hXG32).k ((hXG11).k kA0 (by decide)) (by decide))
        refine s_callV (as := [(0, k)]) (rest := []) (n := A) (ci := 1) gX0_isValueHole dX2_linkBoth_133 m_1322 m_743 m_1476 m_711 m_70 ⟨by decide, by decide, show (parseMethodDescriptor yX0_isValueHole.desc).map (fun d => d.parameters.length) = some 1 from by decide +kernel⟩ (Nat.le_of_ble_eq_true rfl) (by rw [hcf]; exact Nat.le_of_ble_eq_true rfl) hk174 rfl rfl (Nat.le_of_ble_eq_true rfl) ⟨A, k, a, b, rfl, hCG32, hab, (by first | assumption | omega), (by first | assumption | omega), fun rr172 hp173 => ?_⟩
        show WP kX2_linkBoth X 136 [some (2, ((327682 : Nat) : Int)), some (0, k), some (2, ((A : Nat) : Int)), some (2, ((B : Nat) : Int)), some (2, ((f : Nat) : Int)), some (0, rr12), some (0, rr33), none, none] [(0, rr172)] G32
        refine s_if_eq (tgt := 178) dX2_linkBoth_136 (by decide) (fun c175 => ?_) (fun c175 => ?_)
        · -- 136 to 178
          exact K46  (trivial)
        · -- 136 to 139
          refine s_aload_n dX2_linkBoth_139 rfl (Int.natCast_nonneg _) ?_
          refine s_iload_n dX2_linkBoth_140 rfl ?_
          have hk178 : gK G32 (B) = (9, 0) := ((hXG32).k hk16 (by decide))
          refine s_callV (as := [(0, k)]) (rest := []) (n := B) (ci := 1) gX0_isValueHole dX2_linkBoth_141 m_1322 m_743 m_1476 m_711 m_70 ⟨by decide, by decide, show (parseMethodDescriptor yX0_isValueHole.desc).map (fun d => d.parameters.length) = some 1 from by decide +kernel⟩ (Nat.le_of_ble_eq_true rfl) (by rw [hcf]; exact Nat.le_of_ble_eq_true rfl) hk178 rfl rfl (Nat.le_of_ble_eq_true rfl) ⟨B, k, a, b, rfl, hCG32, hab, (by first | assumption | omega), (by first | assumption | omega), fun rr176 hp177 => ?_⟩
          show WP kX2_linkBoth X 144 [some (2, ((327682 : Nat) : Int)), some (0, k), some (2, ((A : Nat) : Int)), some (2, ((B : Nat) : Int)), some (2, ((f : Nat) : Int)), some (0, rr12), some (0, rr33), none, none] [(0, rr176)] G32
          refine s_if_eq (tgt := 178) dX2_linkBoth_144 (by decide) (fun c179 => ?_) (fun c179 => ?_)
          · -- 144 to 178
            exact K46  (trivial)
          · -- 144 to 147
            refine s_aload dX2_linkBoth_147 rfl (Int.natCast_nonneg _) ?_
            refine s_iload_n dX2_linkBoth_149 rfl ?_
            refine s_iconst dX2_linkBoth_150 (by decide) ?_
            refine s_aload_n dX2_linkBoth_151 rfl (Int.natCast_nonneg _) ?_
            refine s_alv (A) (by simp) (fun al180 => ?_)
            have hv181 : gS G32 A 2 = ((A + 2 : Nat) : Int) := by have h9 : (gS G32 A 2) = (((A % 1048576) + 2 : Nat) : Int) := hCG32.1.v (j := 2) (by rw [cde_n (by omega) (by omega)]; omega : cde A = 101) al180 (by rw [hk174]; exact Nat.le_of_ble_eq_true rfl); omega
            refine s_getf (ci := 1) (k := 2) (C := RX0) (T := TX0) (N := 7) (n := A) (L := 0) (t := 2) dX2_linkBoth_152 rfl wi_65 m_576 (Nat.le_of_ble_eq_true rfl) rfl rfl hk174 hv181 ?_
            refine s_iload_n dX2_linkBoth_155 rfl ?_
            have hk182 : gK G32 (A + 2) = (1, 10) := ((hXG32).k ((hXG11).k kA2 (by decide)) (by decide))
            refine s_iald dX2_linkBoth_156 hk182 (by omega) (by omega) rfl ?_
            refine s_aload_n dX2_linkBoth_157 rfl (Int.natCast_nonneg _) ?_
            refine s_alv (B) (by simp) (fun al183 => ?_)
            have hv184 : gS G32 B 2 = ((B + 2 : Nat) : Int) := by have h9 : (gS G32 B 2) = (((B % 1048576) + 2 : Nat) : Int) := hCG32.1.v (j := 2) (by rw [cde_n (by omega) (by omega)]; omega : cde B = 101) al183 (by rw [hk178]; exact Nat.le_of_ble_eq_true rfl); omega
            refine s_getf (ci := 1) (k := 2) (C := RX0) (T := TX0) (N := 7) (n := B) (L := 0) (t := 2) dX2_linkBoth_158 rfl wi_65 m_576 (Nat.le_of_ble_eq_true rfl) rfl rfl hk178 hv184 ?_
            refine s_iload_n dX2_linkBoth_161 rfl ?_
            have hk185 : gK G32 (B + 2) = (1, 10) := ((hXG32).k ((hXG11).k kB2 (by decide)) (by decide))
            refine s_iald dX2_linkBoth_162 hk185 (by omega) (by omega) rfl ?_
            refine s_iand dX2_linkBoth_163 ?_
            refine s_iconst dX2_linkBoth_164 (by decide) ?_
            refine s_iand dX2_linkBoth_165 ?_
            refine s_ior dX2_linkBoth_166 ?_
            refine s_aload_n dX2_linkBoth_167 rfl (Int.natCast_nonneg _) ?_
            have hv186 : gS G32 327682 6 = ((327691 : Nat) : Int) := by have h9 : (gS G32 327682 6) = 327691 := hCG32.1.v (j := 6) (by decide : cde 327682 = 502) al38 (by rw [hk37]; exact Nat.le_of_ble_eq_true rfl); omega
            refine s_getf (ci := 3) (k := 6) (C := RX2) (T := TX2) (N := 8) (n := 327682) (L := 0) (t := 2) dX2_linkBoth_168 rfl wi_70 m_582 (Nat.le_of_ble_eq_true rfl) rfl rfl hk37 hv186 ?_
            refine s_iload dX2_linkBoth_171 rfl ?_
            have hk189 : gK G32 (f) = (9, 0) := ((hXG32).k ((hXG11).k kf0 (by decide)) (by decide))
            refine s_callV (as := [(0, k), (0, i_or 1 (i_and (i_and (gS G32 (A + 2) ((k : Int).toNat)) (gS G32 (B + 2) ((k : Int).toNat))) 4)), (2, ((327691 : Nat) : Int)), (0, rr12)]) (rest := []) (n := f) (ci := 1) gX0_putValue dX2_linkBoth_173 m_1320 m_750 m_1483 m_711 m_77 ⟨by decide, by decide, show (parseMethodDescriptor yX0_putValue.desc).map (fun d => d.parameters.length) = some 4 from by decide +kernel⟩ (Nat.le_of_ble_eq_true rfl) (by rw [hcf]; exact Nat.le_of_ble_eq_true rfl) hk189 rfl rfl (Nat.le_of_ble_eq_true rfl) ⟨f, k, i_or 1 (i_and (i_and (gS G32 (A + 2) ((k : Int).toNat)) (gS G32 (B + 2) ((k : Int).toNat))) 4), 327691, 200, rr12, a, b, rfl, hCG32, hab, (by first | assumption | omega), (by first | assumption | omega), hk41, (by first | assumption | omega), (by first | assumption | omega), (by first | assumption | omega), fun G187 hCG187 hXG187 hfG187 hpG187 => ?_⟩
            have hFG187 : WX (fun x => x = 327691 ∨ x = 327692 ∨ (f + 1 ≤ x ∧ x ≤ f + 22)) G G187 := WX.trans hFG32 (KX.trans hXG11 hXG32) (WX.mono hfG187 (fun x hx => by omega))
            have hFIG187 : ∀ k : Nat, k < 6 → FIP P G187 262144 k := fun k hk => FIP.sm (hFIG32 k hk) hXG187 hfG187 (by show ¬ _; omega) (congrFun (hfG187 262149 (KX.al (KX.trans hXG11 hXG32) (kne k262149 (by decide))) (by show ¬ _; omega)) k)
            have hFAG187 : FPa P G187 A := (hFAG32).wx hXG187 hfG187 ⟨KX.al (KX.trans hXG11 hXG32) (kne kA3 (by decide)), KX.al (KX.trans hXG11 hXG32) (kne kA4 (by decide))⟩ (by show ¬ _; omega) (by show ¬ _; omega) (fun p hp => by show ¬ _; omega)
            have hFBG187 : FPa P G187 B := (hFBG32).wx hXG187 hfG187 ⟨KX.al (KX.trans hXG11 hXG32) (kne kB3 (by decide)), KX.al (KX.trans hXG11 hXG32) (kne kB4 (by decide))⟩ (by show ¬ _; omega) (by show ¬ _; omega) (fun p hp => by show ¬ _; omega)
            have hFfG187 : FPa P G187 f := FPa.put hpG187.1 hFfG32 (fun _ _ => (hpG11.2 P ((hFA (6 + k : Int).toNat (by omega)).rps hv4 rfl) hFI (by omega)).wx hXG32 hfG32 (by show ¬ _; omega)) hXG187 hfG187 (fun p hp hn => by show ¬ _; omega)
            show WP kX2_linkBoth X 176 [some (2, ((327682 : Nat) : Int)), some (0, k), some (2, ((A : Nat) : Int)), some (2, ((B : Nat) : Int)), some (2, ((f : Nat) : Int)), some (0, rr12), some (0, rr33), none, none] [] G187
            refine s_iconst dX2_linkBoth_176 (by decide) ?_
            exact s_iret hR dX2_linkBoth_177 rfl (hQ 0 G187 hCG187 (KX.trans (KX.trans hXG11 hXG32) hXG187) hFG187 hFfG187)
      · -- 122 to 125
        refine s_iconst dX2_linkBoth_125 (by decide) ?_
        refine s_iload_n dX2_linkBoth_126 rfl ?_
        refine s_callSN (own := RX2) rfl (by decide +kernel) (as := [(0, 2), (0, k)]) (rest := []) gX11_valueMistake dX2_linkBoth_127 m_1784 m_714 m_129 ⟨by decide, by decide, show (parseMethodDescriptor yX11_valueMistake.desc).map (fun d => d.parameters.length) = some 2 from by decide +kernel⟩ (Nat.le_of_ble_eq_true rfl) (by rw [hcf]; exact Nat.le_of_ble_eq_true rfl) rfl (Nat.le_of_ble_eq_true rfl) ⟨2, k, rfl, (by first | assumption | omega), (by first | assumption | omega), fun rr190 hp191 => ?_⟩
        show WP kX2_linkBoth X 130 [some (2, ((327682 : Nat) : Int)), some (0, k), some (2, ((A : Nat) : Int)), some (2, ((B : Nat) : Int)), some (2, ((f : Nat) : Int)), some (0, rr12), some (0, rr33), none, none] [(0, rr190)] G32
        exact s_iret hR dX2_linkBoth_130 rfl (hQ rr190 G32 hCG32 (KX.trans hXG11 hXG32) hFG32 hFfG32)
    refine s_aload_n dX2_linkBoth_85 rfl (Int.natCast_nonneg _) ?_
    refine s_iload_n dX2_linkBoth_86 rfl ?_
    have hk194 : gK G32 (A) = (9, 0) := ((hXG32).k ((hXG11).k kA0 (by decide)) (by decide))
    refine s_callV (as := [(0, k)]) (rest := []) (n := A) (ci := 1) gX0_isValueHole dX2_linkBoth_87 m_1322 m_743 m_1476 m_711 m_70 ⟨by decide, by decide, show (parseMethodDescriptor yX0_isValueHole.desc).map (fun d => d.parameters.length) = some 1 from by decide +kernel⟩ (Nat.le_of_ble_eq_true rfl) (by rw [hcf]; exact Nat.le_of_ble_eq_true rfl) hk194 rfl rfl (Nat.le_of_ble_eq_true rfl) ⟨A, k, a, b, rfl, hCG32, hab, (by first | assumption | omega), (by first | assumption | omega), fun rr192 hp193 => ?_⟩
    show WP kX2_linkBoth X 90 [some (2, ((327682 : Nat) : Int)), some (0, k), some (2, ((A : Nat) : Int)), some (2, ((B : Nat) : Int)), some (2, ((f : Nat) : Int)), some (0, rr12), some (0, rr33), none, none] [(0, rr192)] G32
    refine s_if_ne (tgt := 107) dX2_linkBoth_90 (by decide) (fun c195 => ?_) (fun c195 => ?_)
    · -- 90 to 107
      exact K36  (trivial)
    · -- 90 to 93
      refine s_aload_n dX2_linkBoth_93 rfl (Int.natCast_nonneg _) ?_
      refine s_iload_n dX2_linkBoth_94 rfl ?_
      have hk198 : gK G32 (B) = (9, 0) := ((hXG32).k hk16 (by decide))
      refine s_callV (as := [(0, k)]) (rest := []) (n := B) (ci := 1) gX0_isValueHole dX2_linkBoth_95 m_1322 m_743 m_1476 m_711 m_70 ⟨by decide, by decide, show (parseMethodDescriptor yX0_isValueHole.desc).map (fun d => d.parameters.length) = some 1 from by decide +kernel⟩ (Nat.le_of_ble_eq_true rfl) (by rw [hcf]; exact Nat.le_of_ble_eq_true rfl) hk198 rfl rfl (Nat.le_of_ble_eq_true rfl) ⟨B, k, a, b, rfl, hCG32, hab, (by first | assumption | omega), (by first | assumption | omega), fun rr196 hp197 => ?_⟩
      show WP kX2_linkBoth X 98 [some (2, ((327682 : Nat) : Int)), some (0, k), some (2, ((A : Nat) : Int)), some (2, ((B : Nat) : Int)), some (2, ((f : Nat) : Int)), some (0, rr12), some (0, rr33), none, none] [(0, rr196)] G32
      refine s_if_ne (tgt := 107) dX2_linkBoth_98 (by decide) (fun c199 => ?_) (fun c199 => ?_)
      · -- 98 to 107
        exact K36  (trivial)
      · -- 98 to 101
        refine s_iconst dX2_linkBoth_101 (by decide) ?_
        refine s_iload_n dX2_linkBoth_102 rfl ?_
        refine s_callSN (own := RX2) rfl (by decide +kernel) (as := [(0, 4), (0, k)]) (rest := []) gX11_valueMistake dX2_linkBoth_103 m_1784 m_714 m_129 ⟨by decide, by decide, show (parseMethodDescriptor yX11_valueMistake.desc).map (fun d => d.parameters.length) = some 2 from by decide +kernel⟩ (Nat.le_of_ble_eq_true rfl) (by rw [hcf]; exact Nat.le_of_ble_eq_true rfl) rfl (Nat.le_of_ble_eq_true rfl) ⟨4, k, rfl, (by first | assumption | omega), (by first | assumption | omega), fun rr200 hp201 => ?_⟩
        show WP kX2_linkBoth X 106 [some (2, ((327682 : Nat) : Int)), some (0, k), some (2, ((A : Nat) : Int)), some (2, ((B : Nat) : Int)), some (2, ((f : Nat) : Int)), some (0, rr12), some (0, rr33), none, none] [(0, rr200)] G32
        exact s_iret hR dX2_linkBoth_106 rfl (hQ rr200 G32 hCG32 (KX.trans hXG11 hXG32) hFG32 hFfG32)
  refine s_iload dX2_linkBoth_62 rfl ?_
  refine s_sipush dX2_linkBoth_64 rfl (by decide) ?_
  refine s_icmp_gt (tgt := 78) dX2_linkBoth_67 (by decide) (fun c202 => ?_) (fun c202 => ?_)
  · -- 67 to 78
    refine s_bipush dX2_linkBoth_78 rfl (by decide) ?_
    refine s_iload_n dX2_linkBoth_80 rfl ?_
    refine s_callSN (own := RX2) rfl (by decide +kernel) (as := [(0, 7), (0, k)]) (rest := []) gX11_valueMistake dX2_linkBoth_81 m_1784 m_714 m_129 ⟨by decide, by decide, show (parseMethodDescriptor yX11_valueMistake.desc).map (fun d => d.parameters.length) = some 2 from by decide +kernel⟩ (Nat.le_of_ble_eq_true rfl) (by rw [hcf]; exact Nat.le_of_ble_eq_true rfl) rfl (Nat.le_of_ble_eq_true rfl) ⟨7, k, rfl, (by first | assumption | omega), (by first | assumption | omega), fun rr203 hp204 => ?_⟩
    show WP kX2_linkBoth X 84 [some (2, ((327682 : Nat) : Int)), some (0, k), some (2, ((A : Nat) : Int)), some (2, ((B : Nat) : Int)), some (2, ((f : Nat) : Int)), some (0, rr12), some (0, rr33), none, none] [(0, rr203)] G32
    exact s_iret hR dX2_linkBoth_84 rfl (hQ rr203 G32 hCG32 (KX.trans hXG11 hXG32) hFG32 hFfG32)
  · -- 67 to 70
    refine s_iload dX2_linkBoth_70 rfl ?_
    refine s_sipush dX2_linkBoth_72 rfl (by decide) ?_
    refine s_icmp_le (tgt := 85) dX2_linkBoth_75 (by decide) (fun c205 => ?_) (fun c205 => ?_)
    · -- 75 to 85
      exact K35  (trivial)
    · -- 75 to 78
      refine s_bipush dX2_linkBoth_78 rfl (by decide) ?_
      refine s_iload_n dX2_linkBoth_80 rfl ?_
      refine s_callSN (own := RX2) rfl (by decide +kernel) (as := [(0, 7), (0, k)]) (rest := []) gX11_valueMistake dX2_linkBoth_81 m_1784 m_714 m_129 ⟨by decide, by decide, show (parseMethodDescriptor yX11_valueMistake.desc).map (fun d => d.parameters.length) = some 2 from by decide +kernel⟩ (Nat.le_of_ble_eq_true rfl) (by rw [hcf]; exact Nat.le_of_ble_eq_true rfl) rfl (Nat.le_of_ble_eq_true rfl) ⟨7, k, rfl, (by first | assumption | omega), (by first | assumption | omega), fun rr206 hp207 => ?_⟩
      show WP kX2_linkBoth X 84 [some (2, ((327682 : Nat) : Int)), some (0, k), some (2, ((A : Nat) : Int)), some (2, ((B : Nat) : Int)), some (2, ((f : Nat) : Int)), some (0, rr12), some (0, rr33), none, none] [(0, rr206)] G32
      exact s_iret hR dX2_linkBoth_84 rfl (hQ rr206 G32 hCG32 (KX.trans hXG11 hXG32) hFG32 hFfG32)

abbrev kX2_link : KD := (RX2, cX2_link, 8, (some .int), [])
def TX2_link : TR := fun as G Qr => ∃ (P : Int → Prop) (A B : Nat) (s : Int) (f : Nat) (a b : Nat), as = [(2, ((327682 : Nat) : Int)), (2, ((A : Nat) : Int)), (2, ((B : Nat) : Int)), (0, s), (2, ((f : Nat) : Int))] ∧ CI a b G ∧ (a ≤ 2840000 ∧ b ≤ 590000) ∧ (isFc A) ∧ (isFc B) ∧ (isFc f) ∧ (A ≠ f ∧ B ≠ f) ∧ (FPa P G A) ∧ (FPa P G B) ∧ (FPa P G f) ∧ ∀ (r : Int) (G' : LG), CI a b G' → KX G G' → WX (fun x => (262144 ≤ x ∧ x < 262272) ∨ x = 327691 ∨ x = 327692 ∨ (f + 1 ≤ x ∧ x ≤ f + 22)) G G' → (FPa P G' f) → Qr (.inl (some (0, r))) G'
set_option maxHeartbeats 4000000 in
set_option maxRecDepth 100000 in
theorem gX2_link : Good kX2_link yX2_link 4 TX2_link := by
  refine good_of (by decide) rfl rfl (fun as G Qr h => ?_) (fun X as G Qr hcf hR hT oa => ?_)
  · obtain ⟨P, A, B, s, f, a, b, rfl, -⟩ := h; exact Nat.le_of_ble_eq_true rfl
  obtain ⟨P, A, B, s, f, a, b, rfl, hC, hab, hA, hB, hf, hne, hFA, hFB, hFf, hQ⟩ := hT
  show WP kX2_link X 0 [some (2, ((327682 : Nat) : Int)), some (2, ((A : Nat) : Int)), some (2, ((B : Nat) : Int)), some (0, s), some (2, ((f : Nat) : Int)), none, none, none] [] G
  have hr_s : inR s := okv_R (oa _ (by simp))
  refine s_alvl 327682 (k := 0) rfl (fun alZ => ?_)
  refine s_alvl A (k := 1) rfl (fun alA => ?_)
  refine s_alvl B (k := 2) rfl (fun alB => ?_)
  refine s_alvl f (k := 4) rfl (fun alf => ?_)
  refine s_lk (fun hlk => ?_)
  have hfn := hlk.fna hC alZ
  obtain ⟨k327682, k327681, k327683, k262144, k262208, k327684, k68097, k327691, k327692, k262145, k262146, k262148, k262149, k262209, k262210, k262212, k262213, k327710, k327685, k327688⟩ := id hfn
  have hfA := hlk.fc hC hA alA
  obtain ⟨kA0, kA1, kA2, kA3, kA4, kA5, kA6⟩ := hfA.1
  have hfB := hlk.fc hC hB alB
  obtain ⟨kB0, kB1, kB2, kB3, kB4, kB5, kB6⟩ := hfB.1
  have hff := hlk.fc hC hf alf
  obtain ⟨kf0, kf1, kf2, kf3, kf4, kf5, kf6⟩ := hff.1
  refine s_aload_n dX2_link_0 rfl (Int.natCast_nonneg _) ?_
  have hv1 : gS G 327682 2 = ((262144 : Nat) : Int) := by have h9 : (gS G 327682 2) = 262144 := hC.1.v (j := 2) (by decide : cde 327682 = 502) (kne k327682 (by decide)) (by rw [k327682]; exact Nat.le_of_ble_eq_true rfl); omega
  refine s_getf (ci := 3) (k := 2) (C := RX2) (T := TX2) (N := 8) (n := 327682) (L := 0) (t := 2) dX2_link_1 rfl wi_70 m_577 (Nat.le_of_ble_eq_true rfl) rfl rfl k327682 hv1 ?_
  refine s_callV (as := []) (rest := []) (n := 262144) (ci := 2) gX1_clear dX2_link_4 m_1309 m_911 m_1487 m_712 m_252 ⟨by decide, by decide, show (parseMethodDescriptor yX1_clear.desc).map (fun d => d.parameters.length) = some 0 from by decide +kernel⟩ (Nat.le_of_ble_eq_true rfl) (by rw [hcf]; exact Nat.le_of_ble_eq_true rfl) k262144 rfl rfl (Nat.le_of_ble_eq_true rfl) ⟨262144, a, b, rfl, hC, hab, (by first | assumption | omega), fun G2 hCG2 hXG2 hfG2 hpG2 => ?_⟩
  have hFG2 : WX (fun x => (262144 ≤ x ∧ x < 262272) ∨ x = 327691 ∨ x = 327692 ∨ (f + 1 ≤ x ∧ x ≤ f + 22)) G G2 := WX.trans WX.rf KX.rf (WX.mono hfG2 (fun x hx => by omega))
  have hTLG2 : ∀ k : Nat, k < 6 → TLP P G2 262144 k := fun k hk => TLP.zero (hpG2 k hk).1
  have hFIG2 : ∀ k : Nat, k < 6 → FIP P G2 262144 k := fun k hk => FIP.zero (hpG2 k hk).2
  have hFAG2 : FPa P G2 A := (hFA).wx hXG2 hfG2 ⟨KX.al KX.rf (kne kA3 (by decide)), KX.al KX.rf (kne kA4 (by decide))⟩ (by show ¬ _; omega) (by show ¬ _; omega) (fun p hp => by show ¬ _; omega)
  have hFBG2 : FPa P G2 B := (hFB).wx hXG2 hfG2 ⟨KX.al KX.rf (kne kB3 (by decide)), KX.al KX.rf (kne kB4 (by decide))⟩ (by show ¬ _; omega) (by show ¬ _; omega) (fun p hp => by show ¬ _; omega)
  have hFfG2 : FPa P G2 f := (hFf).wx hXG2 hfG2 ⟨KX.al KX.rf (kne kf3 (by decide)), KX.al KX.rf (kne kf4 (by decide))⟩ (by show ¬ _; omega) (by show ¬ _; omega) (fun p hp => by show ¬ _; omega)
  show WP kX2_link X 7 [some (2, ((327682 : Nat) : Int)), some (2, ((A : Nat) : Int)), some (2, ((B : Nat) : Int)), some (0, s), some (2, ((f : Nat) : Int)), none, none, none] [] G2
  refine s_iconst dX2_link_7 (by decide) ?_
  refine s_istore dX2_link_8 (by decide) (lv' := [some (2, ((327682 : Nat) : Int)), some (2, ((A : Nat) : Int)), some (2, ((B : Nat) : Int)), some (0, s), some (2, ((f : Nat) : Int)), some (0, 0), none, none]) rfl ?_
  have L4 : ∀ (fu4 : Nat) (n4 : Int) (G4 : LG), CI a b G4 → KX G2 G4 → WX (fun x => (262144 ≤ x ∧ x < 262272) ∨ x = 327691 ∨ x = 327692 ∨ (f + 1 ≤ x ∧ x ≤ f + 22)) G G4 → ((0 ≤ n4 ∧ n4 ≤ 6) ∧ (∀ k : Nat, k < 6 → TLP P G4 262144 k) ∧ (∀ k : Nat, k < 6 → FIP P G4 262144 k) ∧ (FPa P G4 A) ∧ (FPa P G4 B) ∧ (FPa P G4 f)) → (6 - n4).toNat < fu4 → WP kX2_link X 10 [some (2, ((327682 : Nat) : Int)), some (2, ((A : Nat) : Int)), some (2, ((B : Nat) : Int)), some (0, s), some (2, ((f : Nat) : Int)), some (0, n4), none, none] [] G4 := by
    intro fu4
    induction fu4 with
    | zero => intro n4 G4 hCG4 hXG4 hFG4 hi4 hm4; exact absurd hm4 (Nat.not_lt_zero _)
    | succ fu4 ih4 =>
      intro n4 G4 hCG4 hXG4 hFG4 hi4 hm4
      have hj4 := hi4
      obtain ⟨in_4, hTLG4, hFIG4, hFAG4, hFBG4, hFfG4⟩ := hi4
      refine s_iload dX2_link_10 rfl ?_
      refine s_bipush dX2_link_12 rfl (by decide) ?_
      refine s_icmp_ge (tgt := 78) dX2_link_14 (by decide) (fun c5 => ?_) (fun c5 => ?_)
      · -- 14 to 78
        refine s_aload_n dX2_link_78 rfl (Int.natCast_nonneg _) ?_
        have hk6 : gK G4 (327682) = (11, 0) := ((hXG4).k ((hXG2).k k327682 (by decide)) (by decide))
        refine s_alv (327682) (by simp) (fun al7 => ?_)
        have hv8 : gS G4 327682 2 = ((262144 : Nat) : Int) := by have h9 : (gS G4 327682 2) = 262144 := hCG4.1.v (j := 2) (by decide : cde 327682 = 502) al7 (by rw [hk6]; exact Nat.le_of_ble_eq_true rfl); omega
        refine s_getf (ci := 3) (k := 2) (C := RX2) (T := TX2) (N := 8) (n := 327682) (L := 0) (t := 2) dX2_link_79 rfl wi_70 m_577 (Nat.le_of_ble_eq_true rfl) rfl rfl hk6 hv8 ?_
        have hk11 : gK G4 (262144) = (10, 0) := ((hXG4).k ((hXG2).k k262144 (by decide)) (by decide))
        refine s_callV (as := []) (rest := []) (n := 262144) (ci := 2) gX1_makeFull dX2_link_82 m_1311 m_917 m_1492 m_712 m_259 ⟨by decide, by decide, show (parseMethodDescriptor yX1_makeFull.desc).map (fun d => d.parameters.length) = some 0 from by decide +kernel⟩ (Nat.le_of_ble_eq_true rfl) (by rw [hcf]; exact Nat.le_of_ble_eq_true rfl) hk11 rfl rfl (Nat.le_of_ble_eq_true rfl) ⟨262144, a, b, rfl, hCG4, hab, (by first | assumption | omega), fun rr10 G9 hCG9 hXG9 hfG9 hpG9 => ?_⟩
        have hFG9 : WX (fun x => (262144 ≤ x ∧ x < 262272) ∨ x = 327691 ∨ x = 327692 ∨ (f + 1 ≤ x ∧ x ≤ f + 22)) G G9 := WX.trans hFG4 (KX.trans hXG2 hXG4) (WX.mono hfG9 (fun x hx => by omega))
        have hFIG9 : ∀ k : Nat, k < 6 → FIP P G9 262144 k := hpG9.2 P hTLG4 hFIG4
        have hFAG9 : FPa P G9 A := (hFAG4).wx hXG9 hfG9 ⟨KX.al (KX.trans hXG2 hXG4) (kne kA3 (by decide)), KX.al (KX.trans hXG2 hXG4) (kne kA4 (by decide))⟩ (by show ¬ _; omega) (by show ¬ _; omega) (fun p hp => by show ¬ _; omega)
        have hFBG9 : FPa P G9 B := (hFBG4).wx hXG9 hfG9 ⟨KX.al (KX.trans hXG2 hXG4) (kne kB3 (by decide)), KX.al (KX.trans hXG2 hXG4) (kne kB4 (by decide))⟩ (by show ¬ _; omega) (by show ¬ _; omega) (fun p hp => by show ¬ _; omega)
        have hFfG9 : FPa P G9 f := (hFfG4).wx hXG9 hfG9 ⟨KX.al (KX.trans hXG2 hXG4) (kne kf3 (by decide)), KX.al (KX.trans hXG2 hXG4) (kne kf4 (by decide))⟩ (by show ¬ _; omega) (by show ¬ _; omega) (fun p hp => by show ¬ _; omega)
        show WP kX2_link X 85 [some (2, ((327682 : Nat) : Int)), some (2, ((A : Nat) : Int)), some (2, ((B : Nat) : Int)), some (0, s), some (2, ((f : Nat) : Int)), some (0, n4), none, none] [(0, rr10)] G9
        refine s_istore dX2_link_85 (by decide) (lv' := [some (2, ((327682 : Nat) : Int)), some (2, ((A : Nat) : Int)), some (2, ((B : Nat) : Int)), some (0, s), some (2, ((f : Nat) : Int)), some (0, rr10), none, none]) rfl ?_
        refine s_iconst dX2_link_87 (by decide) ?_
        refine s_istore dX2_link_88 (by decide) (lv' := [some (2, ((327682 : Nat) : Int)), some (2, ((A : Nat) : Int)), some (2, ((B : Nat) : Int)), some (0, s), some (2, ((f : Nat) : Int)), some (0, rr10), some (0, 0), none]) rfl ?_
        have L12 : ∀ (n12 : Nat) (m12 : Int) (e12 : Int) (G12 : LG), CI a b G12 → KX G9 G12 → WX (fun x => (262144 ≤ x ∧ x < 262272) ∨ x = 327691 ∨ x = 327692 ∨ (f + 1 ≤ x ∧ x ≤ f + 22)) G G12 → ((0 ≤ e12 ∧ e12 ≤ 6) ∧ (m12 = 0 → ∀ k : Nat, k < 6 → gS G12 262149 k ≤ 200) ∧ (∀ k : Nat, k < 6 → FIP P G12 262144 k) ∧ (FPa P G12 A) ∧ (FPa P G12 B) ∧ (FPa P G12 f)) → (6 - e12).toNat < n12 → WP kX2_link X 90 [some (2, ((327682 : Nat) : Int)), some (2, ((A : Nat) : Int)), some (2, ((B : Nat) : Int)), some (0, s), some (2, ((f : Nat) : Int)), some (0, m12), some (0, e12), none] [] G12 := by
          intro n12
          induction n12 with
          | zero => intro m12 e12 G12 hCG12 hXG12 hFG12 hi12 hm12; exact absurd hm12 (Nat.not_lt_zero _)
          | succ n12 ih12 =>
            intro m12 e12 G12 hCG12 hXG12 hFG12 hi12 hm12
            have hj12 := hi12
            obtain ⟨ie12, iz12, hFIG12, hFAG12, hFBG12, hFfG12⟩ := hi12
            refine s_iload dX2_link_90 rfl ?_
            refine s_bipush dX2_link_92 rfl (by decide) ?_
            refine s_icmp_ge (tgt := 120) dX2_link_94 (by decide) (fun c13 => ?_) (fun c13 => ?_)
            · -- 94 to 120
              refine s_iconst dX2_link_120 (by decide) ?_
              refine s_istore dX2_link_121 (by decide) (lv' := [some (2, ((327682 : Nat) : Int)), some (2, ((A : Nat) : Int)), some (2, ((B : Nat) : Int)), some (0, s), some (2, ((f : Nat) : Int)), some (0, m12), some (0, 0), none]) rfl ?_
              have L14 : ∀ (n14 : Nat) (m14 : Int) (e14 : Int) (G14 : LG), CI a b G14 → KX G12 G14 → WX (fun x => (262144 ≤ x ∧ x < 262272) ∨ x = 327691 ∨ x = 327692 ∨ (f + 1 ≤ x ∧ x ≤ f + 22)) G G14 → ((0 ≤ e14 ∧ e14 ≤ 10) ∧ (∀ k : Nat, k < 6 → FIP P G14 262144 k) ∧ (FPa P G14 A) ∧ (FPa P G14 B) ∧ (FPa P G14 f)) → (10 - e14).toNat < n14 → WP kX2_link X 123 [some (2, ((327682 : Nat) : Int)), some (2, ((A : Nat) : Int)), some (2, ((B : Nat) : Int)), some (0, s), some (2, ((f : Nat) : Int)), some (0, m14), some (0, e14), none] [] G14 := by
                intro n14
                induction n14 with
                | zero => intro m14 e14 G14 hCG14 hXG14 hFG14 hi14 hm14; exact absurd hm14 (Nat.not_lt_zero _)
                | succ n14 ih14 =>
                  intro m14 e14 G14 hCG14 hXG14 hFG14 hi14 hm14
                  have hj14 := hi14
                  obtain ⟨ie14, hFIG14, hFAG14, hFBG14, hFfG14⟩ := hi14
                  refine s_iload dX2_link_123 rfl ?_
                  refine s_bipush dX2_link_125 rfl (by decide) ?_
                  refine s_icmp_ge (tgt := 226) dX2_link_127 (by decide) (fun c15 => ?_) (fun c15 => ?_)
                  · -- 127 to 226
                    refine s_iload dX2_link_226 rfl ?_
                    exact s_iret hR dX2_link_228 rfl (hQ m14 G14 hCG14 (KX.trans (KX.trans (KX.trans (KX.trans hXG2 hXG4) hXG9) hXG12) hXG14) hFG14 hFfG14)
                  · -- 127 to 130
                    refine s_iload dX2_link_130 rfl ?_
                    refine s_if_ne (tgt := 226) dX2_link_132 (by decide) (fun c16 => ?_) (fun c16 => ?_)
                    · -- 132 to 226
                      refine s_iload dX2_link_226 rfl ?_
                      exact s_iret hR dX2_link_228 rfl (hQ m14 G14 hCG14 (KX.trans (KX.trans (KX.trans (KX.trans hXG2 hXG4) hXG9) hXG12) hXG14) hFG14 hFfG14)
                    · -- 132 to 135
                      refine s_iload_n dX2_link_135 rfl ?_
                      refine s_iload dX2_link_136 rfl ?_
                      refine s_callSN (own := RX2) rfl (by decide +kernel) (as := [(0, s), (0, e14)]) (rest := []) gX11_isIn dX2_link_138 m_1777 m_714 m_97 ⟨by decide, by decide, show (parseMethodDescriptor yX11_isIn.desc).map (fun d => d.parameters.length) = some 2 from by decide +kernel⟩ (Nat.le_of_ble_eq_true rfl) (by rw [hcf]; exact Nat.le_of_ble_eq_true rfl) rfl (Nat.le_of_ble_eq_true rfl) ⟨s, e14, rfl, fun rr17 hp18 => ?_⟩
                      show WP kX2_link X 141 [some (2, ((327682 : Nat) : Int)), some (2, ((A : Nat) : Int)), some (2, ((B : Nat) : Int)), some (0, s), some (2, ((f : Nat) : Int)), some (0, m14), some (0, e14), none] [(0, rr17)] G14
                      have J24 : ∀ z23 : Int, ((rr17 = 0) ∧ z23 = 0) ∨ ((¬ rr17 = 0) ∧ z23 = gS G14 (B + 2) ((e14 : Int).toNat)) → WP kX2_link X 155 [some (2, ((327682 : Nat) : Int)), some (2, ((A : Nat) : Int)), some (2, ((B : Nat) : Int)), some (0, s), some (2, ((f : Nat) : Int)), some (0, m14), some (0, e14), none] [(0, z23)] G14 := by
                        intro z23 hz23
                        refine s_istore dX2_link_155 (by decide) (lv' := [some (2, ((327682 : Nat) : Int)), some (2, ((A : Nat) : Int)), some (2, ((B : Nat) : Int)), some (0, s), some (2, ((f : Nat) : Int)), some (0, m14), some (0, e14), some (0, z23)]) rfl ?_
                        refine s_aload_n dX2_link_157 rfl (Int.natCast_nonneg _) ?_
                        refine s_iload dX2_link_158 rfl ?_
                        have hk27 : gK G14 (A) = (9, 0) := ((hXG14).k ((hXG12).k ((hXG9).k ((hXG4).k ((hXG2).k kA0 (by decide)) (by decide)) (by decide)) (by decide)) (by decide))
                        refine s_callV (as := [(0, e14)]) (rest := []) (n := A) (ci := 1) gX0_hasValue dX2_link_160 m_1313 m_739 m_1473 m_711 m_66 ⟨by decide, by decide, show (parseMethodDescriptor yX0_hasValue.desc).map (fun d => d.parameters.length) = some 1 from by decide +kernel⟩ (Nat.le_of_ble_eq_true rfl) (by rw [hcf]; exact Nat.le_of_ble_eq_true rfl) hk27 rfl rfl (Nat.le_of_ble_eq_true rfl) ⟨A, e14, a, b, rfl, hCG14, hab, (by first | assumption | omega), (by first | assumption | omega), fun rr25 hp26 => ?_⟩
                        show WP kX2_link X 163 [some (2, ((327682 : Nat) : Int)), some (2, ((A : Nat) : Int)), some (2, ((B : Nat) : Int)), some (0, s), some (2, ((f : Nat) : Int)), some (0, m14), some (0, e14), some (0, z23)] [(0, rr25)] G14
                        refine s_if_eq (tgt := 186) dX2_link_163 (by decide) (fun c28 => ?_) (fun c28 => ?_)
                        · -- 163 to 186
                          refine s_aload_n dX2_link_186 rfl (Int.natCast_nonneg _) ?_
                          refine s_iload dX2_link_187 rfl ?_
                          refine s_callV (as := [(0, e14)]) (rest := []) (n := A) (ci := 1) gX0_hasValue dX2_link_189 m_1313 m_739 m_1473 m_711 m_66 ⟨by decide, by decide, show (parseMethodDescriptor yX0_hasValue.desc).map (fun d => d.parameters.length) = some 1 from by decide +kernel⟩ (Nat.le_of_ble_eq_true rfl) (by rw [hcf]; exact Nat.le_of_ble_eq_true rfl) hk27 rfl rfl (Nat.le_of_ble_eq_true rfl) ⟨A, e14, a, b, rfl, hCG14, hab, (by first | assumption | omega), (by first | assumption | omega), fun rr29 hp30 => ?_⟩
                          show WP kX2_link X 192 [some (2, ((327682 : Nat) : Int)), some (2, ((A : Nat) : Int)), some (2, ((B : Nat) : Int)), some (0, s), some (2, ((f : Nat) : Int)), some (0, m14), some (0, e14), some (0, z23)] [(0, rr29)] G14
                          refine s_if_ne (tgt := 200) dX2_link_192 (by decide) (fun c31 => ?_) (fun c31 => ?_)
                          · -- 192 to 200
                            refine s_aload_n dX2_link_200 rfl (Int.natCast_nonneg _) ?_
                            refine s_iload dX2_link_201 rfl ?_
                            refine s_iload dX2_link_203 rfl ?_
                            refine s_if_ne (tgt := 212) dX2_link_205 (by decide) (fun c32 => ?_) (fun c32 => ?_)
                            · -- 205 to 212
                              refine s_aload_n dX2_link_212 rfl (Int.natCast_nonneg _) ?_
                              refine s_aload dX2_link_213 rfl (Int.natCast_nonneg _) ?_
                              have hk35 : gK G14 (327682) = (11, 0) := ((hXG14).k ((hXG12).k ((hXG9).k hk6 (by decide)) (by decide)) (by decide))
                              refine s_callV (as := [(0, e14), (2, ((B : Nat) : Int)), (2, ((f : Nat) : Int))]) (rest := []) (n := 327682) (ci := 3) gX2_linkOne dX2_link_215 m_1315 m_930 m_1658 m_716 m_277 ⟨by decide, by decide, show (parseMethodDescriptor yX2_linkOne.desc).map (fun d => d.parameters.length) = some 3 from by decide +kernel⟩ (Nat.le_of_ble_eq_true rfl) (by rw [hcf]; exact Nat.le_of_ble_eq_true rfl) hk35 rfl rfl (Nat.le_of_ble_eq_true rfl) ⟨P, e14, B, f, a, b, rfl, hCG14, hab, (by omega), (by assumption), (by assumption), (by omega), (by exact hFIG14), (by exact hFBG14), (by exact hFfG14), fun rr34 G33 hCG33 hXG33 hfG33 hpG33 => ?_⟩
                              have hFG33 : WX (fun x => (262144 ≤ x ∧ x < 262272) ∨ x = 327691 ∨ x = 327692 ∨ (f + 1 ≤ x ∧ x ≤ f + 22)) G G33 := WX.trans hFG14 (KX.trans (KX.trans (KX.trans (KX.trans hXG2 hXG4) hXG9) hXG12) hXG14) (WX.mono hfG33 (fun x hx => by omega))
                              have hFIG33 : ∀ k : Nat, k < 6 → FIP P G33 262144 k := fun k hk => FIP.sm (hFIG14 k hk) hXG33 hfG33 (by show ¬ _; omega) (congrFun (hfG33 262149 (KX.al (KX.trans (KX.trans (KX.trans (KX.trans hXG2 hXG4) hXG9) hXG12) hXG14) (kne k262149 (by decide))) (by show ¬ _; omega)) k)
                              have hFAG33 : FPa P G33 A := (hFAG14).wx hXG33 hfG33 ⟨KX.al (KX.trans (KX.trans (KX.trans (KX.trans hXG2 hXG4) hXG9) hXG12) hXG14) (kne kA3 (by decide)), KX.al (KX.trans (KX.trans (KX.trans (KX.trans hXG2 hXG4) hXG9) hXG12) hXG14) (kne kA4 (by decide))⟩ (by show ¬ _; omega) (by show ¬ _; omega) (fun p hp => by show ¬ _; omega)
                              have hFBG33 : FPa P G33 B := (hFBG14).wx hXG33 hfG33 ⟨KX.al (KX.trans (KX.trans (KX.trans (KX.trans hXG2 hXG4) hXG9) hXG12) hXG14) (kne kB3 (by decide)), KX.al (KX.trans (KX.trans (KX.trans (KX.trans hXG2 hXG4) hXG9) hXG12) hXG14) (kne kB4 (by decide))⟩ (by show ¬ _; omega) (by show ¬ _; omega) (fun p hp => by show ¬ _; omega)
                              have hFfG33 : FPa P G33 f := hpG33
                              show WP kX2_link X 218 [some (2, ((327682 : Nat) : Int)), some (2, ((A : Nat) : Int)), some (2, ((B : Nat) : Int)), some (0, s), some (2, ((f : Nat) : Int)), some (0, m14), some (0, e14), some (0, z23)] [(0, rr34)] G33
                              refine s_istore dX2_link_218 (by decide) (lv' := [some (2, ((327682 : Nat) : Int)), some (2, ((A : Nat) : Int)), some (2, ((B : Nat) : Int)), some (0, s), some (2, ((f : Nat) : Int)), some (0, rr34), some (0, e14), some (0, z23)]) rfl ?_
                              refine s_iinc dX2_link_220 (v := e14) rfl (by omega) (by decide) (lv' := [some (2, ((327682 : Nat) : Int)), some (2, ((A : Nat) : Int)), some (2, ((B : Nat) : Int)), some (0, s), some (2, ((f : Nat) : Int)), some (0, rr34), some (0, e14 + 1), some (0, z23)]) rfl ?_
                              refine s_goto (tgt := 123) dX2_link_223 (by decide) ?_
                              refine s_mask [true, true, true, true, true, true, true, false] (lv' := [some (2, ((327682 : Nat) : Int)), some (2, ((A : Nat) : Int)), some (2, ((B : Nat) : Int)), some (0, s), some (2, ((f : Nat) : Int)), some (0, rr34), some (0, e14 + 1), none]) rfl ?_
                              exact ih14 rr34 (e14 + 1) G33 hCG33 (KX.trans hXG14 hXG33) hFG33 (⟨(by omega), (by exact hFIG33), (by exact hFAG33), (by exact hFBG33), (by exact hFfG33)⟩) (by omega)
                            · -- 205 to 208
                              refine s_aload_n dX2_link_208 rfl (Int.natCast_nonneg _) ?_
                              refine s_goto (tgt := 213) dX2_link_209 (by decide) ?_
                              refine s_aload dX2_link_213 rfl (Int.natCast_nonneg _) ?_
                              have hk38 : gK G14 (327682) = (11, 0) := ((hXG14).k ((hXG12).k ((hXG9).k hk6 (by decide)) (by decide)) (by decide))
                              refine s_callV (as := [(0, e14), (2, ((A : Nat) : Int)), (2, ((f : Nat) : Int))]) (rest := []) (n := 327682) (ci := 3) gX2_linkOne dX2_link_215 m_1315 m_930 m_1658 m_716 m_277 ⟨by decide, by decide, show (parseMethodDescriptor yX2_linkOne.desc).map (fun d => d.parameters.length) = some 3 from by decide +kernel⟩ (Nat.le_of_ble_eq_true rfl) (by rw [hcf]; exact Nat.le_of_ble_eq_true rfl) hk38 rfl rfl (Nat.le_of_ble_eq_true rfl) ⟨P, e14, A, f, a, b, rfl, hCG14, hab, (by omega), (by assumption), (by assumption), (by omega), (by exact hFIG14), (by exact hFAG14), (by exact hFfG14), fun rr37 G36 hCG36 hXG36 hfG36 hpG36 => ?_⟩
                              have hFG36 : WX (fun x => (262144 ≤ x ∧ x < 262272) ∨ x = 327691 ∨ x = 327692 ∨ (f + 1 ≤ x ∧ x ≤ f + 22)) G G36 := WX.trans hFG14 (KX.trans (KX.trans (KX.trans (KX.trans hXG2 hXG4) hXG9) hXG12) hXG14) (WX.mono hfG36 (fun x hx => by omega))
                              have hFIG36 : ∀ k : Nat, k < 6 → FIP P G36 262144 k := fun k hk => FIP.sm (hFIG14 k hk) hXG36 hfG36 (by show ¬ _; omega) (congrFun (hfG36 262149 (KX.al (KX.trans (KX.trans (KX.trans (KX.trans hXG2 hXG4) hXG9) hXG12) hXG14) (kne k262149 (by decide))) (by show ¬ _; omega)) k)
                              have hFAG36 : FPa P G36 A := (hFAG14).wx hXG36 hfG36 ⟨KX.al (KX.trans (KX.trans (KX.trans (KX.trans hXG2 hXG4) hXG9) hXG12) hXG14) (kne kA3 (by decide)), KX.al (KX.trans (KX.trans (KX.trans (KX.trans hXG2 hXG4) hXG9) hXG12) hXG14) (kne kA4 (by decide))⟩ (by show ¬ _; omega) (by show ¬ _; omega) (fun p hp => by show ¬ _; omega)
                              have hFBG36 : FPa P G36 B := (hFBG14).wx hXG36 hfG36 ⟨KX.al (KX.trans (KX.trans (KX.trans (KX.trans hXG2 hXG4) hXG9) hXG12) hXG14) (kne kB3 (by decide)), KX.al (KX.trans (KX.trans (KX.trans (KX.trans hXG2 hXG4) hXG9) hXG12) hXG14) (kne kB4 (by decide))⟩ (by show ¬ _; omega) (by show ¬ _; omega) (fun p hp => by show ¬ _; omega)
                              have hFfG36 : FPa P G36 f := hpG36
                              show WP kX2_link X 218 [some (2, ((327682 : Nat) : Int)), some (2, ((A : Nat) : Int)), some (2, ((B : Nat) : Int)), some (0, s), some (2, ((f : Nat) : Int)), some (0, m14), some (0, e14), some (0, z23)] [(0, rr37)] G36
                              refine s_istore dX2_link_218 (by decide) (lv' := [some (2, ((327682 : Nat) : Int)), some (2, ((A : Nat) : Int)), some (2, ((B : Nat) : Int)), some (0, s), some (2, ((f : Nat) : Int)), some (0, rr37), some (0, e14), some (0, z23)]) rfl ?_
                              refine s_iinc dX2_link_220 (v := e14) rfl (by omega) (by decide) (lv' := [some (2, ((327682 : Nat) : Int)), some (2, ((A : Nat) : Int)), some (2, ((B : Nat) : Int)), some (0, s), some (2, ((f : Nat) : Int)), some (0, rr37), some (0, e14 + 1), some (0, z23)]) rfl ?_
                              refine s_goto (tgt := 123) dX2_link_223 (by decide) ?_
                              refine s_mask [true, true, true, true, true, true, true, false] (lv' := [some (2, ((327682 : Nat) : Int)), some (2, ((A : Nat) : Int)), some (2, ((B : Nat) : Int)), some (0, s), some (2, ((f : Nat) : Int)), some (0, rr37), some (0, e14 + 1), none]) rfl ?_
                              exact ih14 rr37 (e14 + 1) G36 hCG36 (KX.trans hXG14 hXG36) hFG36 (⟨(by omega), (by exact hFIG36), (by exact hFAG36), (by exact hFBG36), (by exact hFfG36)⟩) (by omega)
                          · -- 192 to 195
                            refine s_iload dX2_link_195 rfl ?_
                            refine s_if_eq (tgt := 220) dX2_link_197 (by decide) (fun c39 => ?_) (fun c39 => ?_)
                            · -- 197 to 220
                              refine s_iinc dX2_link_220 (v := e14) rfl (by omega) (by decide) (lv' := [some (2, ((327682 : Nat) : Int)), some (2, ((A : Nat) : Int)), some (2, ((B : Nat) : Int)), some (0, s), some (2, ((f : Nat) : Int)), some (0, m14), some (0, e14 + 1), some (0, z23)]) rfl ?_
                              refine s_goto (tgt := 123) dX2_link_223 (by decide) ?_
                              refine s_mask [true, true, true, true, true, true, true, false] (lv' := [some (2, ((327682 : Nat) : Int)), some (2, ((A : Nat) : Int)), some (2, ((B : Nat) : Int)), some (0, s), some (2, ((f : Nat) : Int)), some (0, m14), some (0, e14 + 1), none]) rfl ?_
                              exact ih14 m14 (e14 + 1) G14 hCG14 hXG14 hFG14 (⟨(by omega), (by exact hFIG14), (by exact hFAG14), (by exact hFBG14), (by exact hFfG14)⟩) (by omega)
                            · -- 197 to 200
                              refine s_aload_n dX2_link_200 rfl (Int.natCast_nonneg _) ?_
                              refine s_iload dX2_link_201 rfl ?_
                              refine s_iload dX2_link_203 rfl ?_
                              refine s_if_ne (tgt := 212) dX2_link_205 (by decide) (fun c40 => ?_) (fun c40 => ?_)
                              · -- 205 to 212
                                refine s_aload_n dX2_link_212 rfl (Int.natCast_nonneg _) ?_
                                refine s_aload dX2_link_213 rfl (Int.natCast_nonneg _) ?_
                                have hk43 : gK G14 (327682) = (11, 0) := ((hXG14).k ((hXG12).k ((hXG9).k hk6 (by decide)) (by decide)) (by decide))
                                refine s_callV (as := [(0, e14), (2, ((B : Nat) : Int)), (2, ((f : Nat) : Int))]) (rest := []) (n := 327682) (ci := 3) gX2_linkOne dX2_link_215 m_1315 m_930 m_1658 m_716 m_277 ⟨by decide, by decide, show (parseMethodDescriptor yX2_linkOne.desc).map (fun d => d.parameters.length) = some 3 from by decide +kernel⟩ (Nat.le_of_ble_eq_true rfl) (by rw [hcf]; exact Nat.le_of_ble_eq_true rfl) hk43 rfl rfl (Nat.le_of_ble_eq_true rfl) ⟨P, e14, B, f, a, b, rfl, hCG14, hab, (by omega), (by assumption), (by assumption), (by omega), (by exact hFIG14), (by exact hFBG14), (by exact hFfG14), fun rr42 G41 hCG41 hXG41 hfG41 hpG41 => ?_⟩
                                have hFG41 : WX (fun x => (262144 ≤ x ∧ x < 262272) ∨ x = 327691 ∨ x = 327692 ∨ (f + 1 ≤ x ∧ x ≤ f + 22)) G G41 := WX.trans hFG14 (KX.trans (KX.trans (KX.trans (KX.trans hXG2 hXG4) hXG9) hXG12) hXG14) (WX.mono hfG41 (fun x hx => by omega))
                                have hFIG41 : ∀ k : Nat, k < 6 → FIP P G41 262144 k := fun k hk => FIP.sm (hFIG14 k hk) hXG41 hfG41 (by show ¬ _; omega) (congrFun (hfG41 262149 (KX.al (KX.trans (KX.trans (KX.trans (KX.trans hXG2 hXG4) hXG9) hXG12) hXG14) (kne k262149 (by decide))) (by show ¬ _; omega)) k)
                                have hFAG41 : FPa P G41 A := (hFAG14).wx hXG41 hfG41 ⟨KX.al (KX.trans (KX.trans (KX.trans (KX.trans hXG2 hXG4) hXG9) hXG12) hXG14) (kne kA3 (by decide)), KX.al (KX.trans (KX.trans (KX.trans (KX.trans hXG2 hXG4) hXG9) hXG12) hXG14) (kne kA4 (by decide))⟩ (by show ¬ _; omega) (by show ¬ _; omega) (fun p hp => by show ¬ _; omega)
                                have hFBG41 : FPa P G41 B := (hFBG14).wx hXG41 hfG41 ⟨KX.al (KX.trans (KX.trans (KX.trans (KX.trans hXG2 hXG4) hXG9) hXG12) hXG14) (kne kB3 (by decide)), KX.al (KX.trans (KX.trans (KX.trans (KX.trans hXG2 hXG4) hXG9) hXG12) hXG14) (kne kB4 (by decide))⟩ (by show ¬ _; omega) (by show ¬ _; omega) (fun p hp => by show ¬ _; omega)
                                have hFfG41 : FPa P G41 f := hpG41
                                show WP kX2_link X 218 [some (2, ((327682 : Nat) : Int)), some (2, ((A : Nat) : Int)), some (2, ((B : Nat) : Int)), some (0, s), some (2, ((f : Nat) : Int)), some (0, m14), some (0, e14), some (0, z23)] [(0, rr42)] G41
                                refine s_istore dX2_link_218 (by decide) (lv' := [some (2, ((327682 : Nat) : Int)), some (2, ((A : Nat) : Int)), some (2, ((B : Nat) : Int)), some (0, s), some (2, ((f : Nat) : Int)), some (0, rr42), some (0, e14), some (0, z23)]) rfl ?_
                                refine s_iinc dX2_link_220 (v := e14) rfl (by omega) (by decide) (lv' := [some (2, ((327682 : Nat) : Int)), some (2, ((A : Nat) : Int)), some (2, ((B : Nat) : Int)), some (0, s), some (2, ((f : Nat) : Int)), some (0, rr42), some (0, e14 + 1), some (0, z23)]) rfl ?_
                                refine s_goto (tgt := 123) dX2_link_223 (by decide) ?_
                                refine s_mask [true, true, true, true, true, true, true, false] (lv' := [some (2, ((327682 : Nat) : Int)), some (2, ((A : Nat) : Int)), some (2, ((B : Nat) : Int)), some (0, s), some (2, ((f : Nat) : Int)), some (0, rr42), some (0, e14 + 1), none]) rfl ?_
                                exact ih14 rr42 (e14 + 1) G41 hCG41 (KX.trans hXG14 hXG41) hFG41 (⟨(by omega), (by exact hFIG41), (by exact hFAG41), (by exact hFBG41), (by exact hFfG41)⟩) (by omega)
                              · -- 205 to 208
                                refine s_aload_n dX2_link_208 rfl (Int.natCast_nonneg _) ?_
                                refine s_goto (tgt := 213) dX2_link_209 (by decide) ?_
                                refine s_aload dX2_link_213 rfl (Int.natCast_nonneg _) ?_
                                have hk46 : gK G14 (327682) = (11, 0) := ((hXG14).k ((hXG12).k ((hXG9).k hk6 (by decide)) (by decide)) (by decide))
                                refine s_callV (as := [(0, e14), (2, ((A : Nat) : Int)), (2, ((f : Nat) : Int))]) (rest := []) (n := 327682) (ci := 3) gX2_linkOne dX2_link_215 m_1315 m_930 m_1658 m_716 m_277 ⟨by decide, by decide, show (parseMethodDescriptor yX2_linkOne.desc).map (fun d => d.parameters.length) = some 3 from by decide +kernel⟩ (Nat.le_of_ble_eq_true rfl) (by rw [hcf]; exact Nat.le_of_ble_eq_true rfl) hk46 rfl rfl (Nat.le_of_ble_eq_true rfl) ⟨P, e14, A, f, a, b, rfl, hCG14, hab, (by omega), (by assumption), (by assumption), (by omega), (by exact hFIG14), (by exact hFAG14), (by exact hFfG14), fun rr45 G44 hCG44 hXG44 hfG44 hpG44 => ?_⟩
                                have hFG44 : WX (fun x => (262144 ≤ x ∧ x < 262272) ∨ x = 327691 ∨ x = 327692 ∨ (f + 1 ≤ x ∧ x ≤ f + 22)) G G44 := WX.trans hFG14 (KX.trans (KX.trans (KX.trans (KX.trans hXG2 hXG4) hXG9) hXG12) hXG14) (WX.mono hfG44 (fun x hx => by omega))
                                have hFIG44 : ∀ k : Nat, k < 6 → FIP P G44 262144 k := fun k hk => FIP.sm (hFIG14 k hk) hXG44 hfG44 (by show ¬ _; omega) (congrFun (hfG44 262149 (KX.al (KX.trans (KX.trans (KX.trans (KX.trans hXG2 hXG4) hXG9) hXG12) hXG14) (kne k262149 (by decide))) (by show ¬ _; omega)) k)
                                have hFAG44 : FPa P G44 A := (hFAG14).wx hXG44 hfG44 ⟨KX.al (KX.trans (KX.trans (KX.trans (KX.trans hXG2 hXG4) hXG9) hXG12) hXG14) (kne kA3 (by decide)), KX.al (KX.trans (KX.trans (KX.trans (KX.trans hXG2 hXG4) hXG9) hXG12) hXG14) (kne kA4 (by decide))⟩ (by show ¬ _; omega) (by show ¬ _; omega) (fun p hp => by show ¬ _; omega)
                                have hFBG44 : FPa P G44 B := (hFBG14).wx hXG44 hfG44 ⟨KX.al (KX.trans (KX.trans (KX.trans (KX.trans hXG2 hXG4) hXG9) hXG12) hXG14) (kne kB3 (by decide)), KX.al (KX.trans (KX.trans (KX.trans (KX.trans hXG2 hXG4) hXG9) hXG12) hXG14) (kne kB4 (by decide))⟩ (by show ¬ _; omega) (by show ¬ _; omega) (fun p hp => by show ¬ _; omega)
                                have hFfG44 : FPa P G44 f := hpG44
                                show WP kX2_link X 218 [some (2, ((327682 : Nat) : Int)), some (2, ((A : Nat) : Int)), some (2, ((B : Nat) : Int)), some (0, s), some (2, ((f : Nat) : Int)), some (0, m14), some (0, e14), some (0, z23)] [(0, rr45)] G44
                                refine s_istore dX2_link_218 (by decide) (lv' := [some (2, ((327682 : Nat) : Int)), some (2, ((A : Nat) : Int)), some (2, ((B : Nat) : Int)), some (0, s), some (2, ((f : Nat) : Int)), some (0, rr45), some (0, e14), some (0, z23)]) rfl ?_
                                refine s_iinc dX2_link_220 (v := e14) rfl (by omega) (by decide) (lv' := [some (2, ((327682 : Nat) : Int)), some (2, ((A : Nat) : Int)), some (2, ((B : Nat) : Int)), some (0, s), some (2, ((f : Nat) : Int)), some (0, rr45), some (0, e14 + 1), some (0, z23)]) rfl ?_
                                refine s_goto (tgt := 123) dX2_link_223 (by decide) ?_
                                refine s_mask [true, true, true, true, true, true, true, false] (lv' := [some (2, ((327682 : Nat) : Int)), some (2, ((A : Nat) : Int)), some (2, ((B : Nat) : Int)), some (0, s), some (2, ((f : Nat) : Int)), some (0, rr45), some (0, e14 + 1), none]) rfl ?_
                                exact ih14 rr45 (e14 + 1) G44 hCG44 (KX.trans hXG14 hXG44) hFG44 (⟨(by omega), (by exact hFIG44), (by exact hFAG44), (by exact hFBG44), (by exact hFfG44)⟩) (by omega)
                        · -- 163 to 166
                          refine s_iload dX2_link_166 rfl ?_
                          refine s_if_eq (tgt := 186) dX2_link_168 (by decide) (fun c47 => ?_) (fun c47 => ?_)
                          · -- 168 to 186
                            refine s_aload_n dX2_link_186 rfl (Int.natCast_nonneg _) ?_
                            refine s_iload dX2_link_187 rfl ?_
                            refine s_callV (as := [(0, e14)]) (rest := []) (n := A) (ci := 1) gX0_hasValue dX2_link_189 m_1313 m_739 m_1473 m_711 m_66 ⟨by decide, by decide, show (parseMethodDescriptor yX0_hasValue.desc).map (fun d => d.parameters.length) = some 1 from by decide +kernel⟩ (Nat.le_of_ble_eq_true rfl) (by rw [hcf]; exact Nat.le_of_ble_eq_true rfl) hk27 rfl rfl (Nat.le_of_ble_eq_true rfl) ⟨A, e14, a, b, rfl, hCG14, hab, (by first | assumption | omega), (by first | assumption | omega), fun rr48 hp49 => ?_⟩
                            show WP kX2_link X 192 [some (2, ((327682 : Nat) : Int)), some (2, ((A : Nat) : Int)), some (2, ((B : Nat) : Int)), some (0, s), some (2, ((f : Nat) : Int)), some (0, m14), some (0, e14), some (0, z23)] [(0, rr48)] G14
                            refine s_if_ne (tgt := 200) dX2_link_192 (by decide) (fun c50 => ?_) (fun c50 => ?_)
                            · -- 192 to 200
                              refine s_aload_n dX2_link_200 rfl (Int.natCast_nonneg _) ?_
                              refine s_iload dX2_link_201 rfl ?_
                              refine s_iload dX2_link_203 rfl ?_
                              refine s_if_ne (tgt := 212) dX2_link_205 (by decide) (fun c51 => ?_) (fun c51 => ?_)
                              · -- 205 to 212
                                refine s_aload_n dX2_link_212 rfl (Int.natCast_nonneg _) ?_
                                refine s_aload dX2_link_213 rfl (Int.natCast_nonneg _) ?_
                                have hk54 : gK G14 (327682) = (11, 0) := ((hXG14).k ((hXG12).k ((hXG9).k hk6 (by decide)) (by decide)) (by decide))
                                refine s_callV (as := [(0, e14), (2, ((B : Nat) : Int)), (2, ((f : Nat) : Int))]) (rest := []) (n := 327682) (ci := 3) gX2_linkOne dX2_link_215 m_1315 m_930 m_1658 m_716 m_277 ⟨by decide, by decide, show (parseMethodDescriptor yX2_linkOne.desc).map (fun d => d.parameters.length) = some 3 from by decide +kernel⟩ (Nat.le_of_ble_eq_true rfl) (by rw [hcf]; exact Nat.le_of_ble_eq_true rfl) hk54 rfl rfl (Nat.le_of_ble_eq_true rfl) ⟨P, e14, B, f, a, b, rfl, hCG14, hab, (by omega), (by assumption), (by assumption), (by omega), (by exact hFIG14), (by exact hFBG14), (by exact hFfG14), fun rr53 G52 hCG52 hXG52 hfG52 hpG52 => ?_⟩
                                have hFG52 : WX (fun x => (262144 ≤ x ∧ x < 262272) ∨ x = 327691 ∨ x = 327692 ∨ (f + 1 ≤ x ∧ x ≤ f + 22)) G G52 := WX.trans hFG14 (KX.trans (KX.trans (KX.trans (KX.trans hXG2 hXG4) hXG9) hXG12) hXG14) (WX.mono hfG52 (fun x hx => by omega))
                                have hFIG52 : ∀ k : Nat, k < 6 → FIP P G52 262144 k := fun k hk => FIP.sm (hFIG14 k hk) hXG52 hfG52 (by show ¬ _; omega) (congrFun (hfG52 262149 (KX.al (KX.trans (KX.trans (KX.trans (KX.trans hXG2 hXG4) hXG9) hXG12) hXG14) (kne k262149 (by decide))) (by show ¬ _; omega)) k)
                                have hFAG52 : FPa P G52 A := (hFAG14).wx hXG52 hfG52 ⟨KX.al (KX.trans (KX.trans (KX.trans (KX.trans hXG2 hXG4) hXG9) hXG12) hXG14) (kne kA3 (by decide)), KX.al (KX.trans (KX.trans (KX.trans (KX.trans hXG2 hXG4) hXG9) hXG12) hXG14) (kne kA4 (by decide))⟩ (by show ¬ _; omega) (by show ¬ _; omega) (fun p hp => by show ¬ _; omega)
                                have hFBG52 : FPa P G52 B := (hFBG14).wx hXG52 hfG52 ⟨KX.al (KX.trans (KX.trans (KX.trans (KX.trans hXG2 hXG4) hXG9) hXG12) hXG14) (kne kB3 (by decide)), KX.al (KX.trans (KX.trans (KX.trans (KX.trans hXG2 hXG4) hXG9) hXG12) hXG14) (kne kB4 (by decide))⟩ (by show ¬ _; omega) (by show ¬ _; omega) (fun p hp => by show ¬ _; omega)
                                have hFfG52 : FPa P G52 f := hpG52
                                show WP kX2_link X 218 [some (2, ((327682 : Nat) : Int)), some (2, ((A : Nat) : Int)), some (2, ((B : Nat) : Int)), some (0, s), some (2, ((f : Nat) : Int)), some (0, m14), some (0, e14), some (0, z23)] [(0, rr53)] G52
                                refine s_istore dX2_link_218 (by decide) (lv' := [some (2, ((327682 : Nat) : Int)), some (2, ((A : Nat) : Int)), some (2, ((B : Nat) : Int)), some (0, s), some (2, ((f : Nat) : Int)), some (0, rr53), some (0, e14), some (0, z23)]) rfl ?_
                                refine s_iinc dX2_link_220 (v := e14) rfl (by omega) (by decide) (lv' := [some (2, ((327682 : Nat) : Int)), some (2, ((A : Nat) : Int)), some (2, ((B : Nat) : Int)), some (0, s), some (2, ((f : Nat) : Int)), some (0, rr53), some (0, e14 + 1), some (0, z23)]) rfl ?_
                                refine s_goto (tgt := 123) dX2_link_223 (by decide) ?_
                                refine s_mask [true, true, true, true, true, true, true, false] (lv' := [some (2, ((327682 : Nat) : Int)), some (2, ((A : Nat) : Int)), some (2, ((B : Nat) : Int)), some (0, s), some (2, ((f : Nat) : Int)), some (0, rr53), some (0, e14 + 1), none]) rfl ?_
                                exact ih14 rr53 (e14 + 1) G52 hCG52 (KX.trans hXG14 hXG52) hFG52 (⟨(by omega), (by exact hFIG52), (by exact hFAG52), (by exact hFBG52), (by exact hFfG52)⟩) (by omega)
                              · -- 205 to 208
                                refine s_aload_n dX2_link_208 rfl (Int.natCast_nonneg _) ?_
                                refine s_goto (tgt := 213) dX2_link_209 (by decide) ?_
                                refine s_aload dX2_link_213 rfl (Int.natCast_nonneg _) ?_
                                have hk57 : gK G14 (327682) = (11, 0) := ((hXG14).k ((hXG12).k ((hXG9).k hk6 (by decide)) (by decide)) (by decide))
                                refine s_callV (as := [(0, e14), (2, ((A : Nat) : Int)), (2, ((f : Nat) : Int))]) (rest := []) (n := 327682) (ci := 3) gX2_linkOne dX2_link_215 m_1315 m_930 m_1658 m_716 m_277 ⟨by decide, by decide, show (parseMethodDescriptor yX2_linkOne.desc).map (fun d => d.parameters.length) = some 3 from by decide +kernel⟩ (Nat.le_of_ble_eq_true rfl) (by rw [hcf]; exact Nat.le_of_ble_eq_true rfl) hk57 rfl rfl (Nat.le_of_ble_eq_true rfl) ⟨P, e14, A, f, a, b, rfl, hCG14, hab, (by omega), (by assumption), (by assumption), (by omega), (by exact hFIG14), (by exact hFAG14), (by exact hFfG14), fun rr56 G55 hCG55 hXG55 hfG55 hpG55 => ?_⟩
                                have hFG55 : WX (fun x => (262144 ≤ x ∧ x < 262272) ∨ x = 327691 ∨ x = 327692 ∨ (f + 1 ≤ x ∧ x ≤ f + 22)) G G55 := WX.trans hFG14 (KX.trans (KX.trans (KX.trans (KX.trans hXG2 hXG4) hXG9) hXG12) hXG14) (WX.mono hfG55 (fun x hx => by omega))
                                have hFIG55 : ∀ k : Nat, k < 6 → FIP P G55 262144 k := fun k hk => FIP.sm (hFIG14 k hk) hXG55 hfG55 (by show ¬ _; omega) (congrFun (hfG55 262149 (KX.al (KX.trans (KX.trans (KX.trans (KX.trans hXG2 hXG4) hXG9) hXG12) hXG14) (kne k262149 (by decide))) (by show ¬ _; omega)) k)
                                have hFAG55 : FPa P G55 A := (hFAG14).wx hXG55 hfG55 ⟨KX.al (KX.trans (KX.trans (KX.trans (KX.trans hXG2 hXG4) hXG9) hXG12) hXG14) (kne kA3 (by decide)), KX.al (KX.trans (KX.trans (KX.trans (KX.trans hXG2 hXG4) hXG9) hXG12) hXG14) (kne kA4 (by decide))⟩ (by show ¬ _; omega) (by show ¬ _; omega) (fun p hp => by show ¬ _; omega)
                                have hFBG55 : FPa P G55 B := (hFBG14).wx hXG55 hfG55 ⟨KX.al (KX.trans (KX.trans (KX.trans (KX.trans hXG2 hXG4) hXG9) hXG12) hXG14) (kne kB3 (by decide)), KX.al (KX.trans (KX.trans (KX.trans (KX.trans hXG2 hXG4) hXG9) hXG12) hXG14) (kne kB4 (by decide))⟩ (by show ¬ _; omega) (by show ¬ _; omega) (fun p hp => by show ¬ _; omega)
                                have hFfG55 : FPa P G55 f := hpG55
                                show WP kX2_link X 218 [some (2, ((327682 : Nat) : Int)), some (2, ((A : Nat) : Int)), some (2, ((B : Nat) : Int)), some (0, s), some (2, ((f : Nat) : Int)), some (0, m14), some (0, e14), some (0, z23)] [(0, rr56)] G55
                                refine s_istore dX2_link_218 (by decide) (lv' := [some (2, ((327682 : Nat) : Int)), some (2, ((A : Nat) : Int)), some (2, ((B : Nat) : Int)), some (0, s), some (2, ((f : Nat) : Int)), some (0, rr56), some (0, e14), some (0, z23)]) rfl ?_
                                refine s_iinc dX2_link_220 (v := e14) rfl (by omega) (by decide) (lv' := [some (2, ((327682 : Nat) : Int)), some (2, ((A : Nat) : Int)), some (2, ((B : Nat) : Int)), some (0, s), some (2, ((f : Nat) : Int)), some (0, rr56), some (0, e14 + 1), some (0, z23)]) rfl ?_
                                refine s_goto (tgt := 123) dX2_link_223 (by decide) ?_
                                refine s_mask [true, true, true, true, true, true, true, false] (lv' := [some (2, ((327682 : Nat) : Int)), some (2, ((A : Nat) : Int)), some (2, ((B : Nat) : Int)), some (0, s), some (2, ((f : Nat) : Int)), some (0, rr56), some (0, e14 + 1), none]) rfl ?_
                                exact ih14 rr56 (e14 + 1) G55 hCG55 (KX.trans hXG14 hXG55) hFG55 (⟨(by omega), (by exact hFIG55), (by exact hFAG55), (by exact hFBG55), (by exact hFfG55)⟩) (by omega)
                            · -- 192 to 195
                              refine s_iload dX2_link_195 rfl ?_
                              refine s_if_eq (tgt := 220) dX2_link_197 (by decide) (fun c58 => ?_) (fun c58 => ?_)
                              · -- 197 to 220
                                refine s_iinc dX2_link_220 (v := e14) rfl (by omega) (by decide) (lv' := [some (2, ((327682 : Nat) : Int)), some (2, ((A : Nat) : Int)), some (2, ((B : Nat) : Int)), some (0, s), some (2, ((f : Nat) : Int)), some (0, m14), some (0, e14 + 1), some (0, z23)]) rfl ?_
                                refine s_goto (tgt := 123) dX2_link_223 (by decide) ?_
                                refine s_mask [true, true, true, true, true, true, true, false] (lv' := [some (2, ((327682 : Nat) : Int)), some (2, ((A : Nat) : Int)), some (2, ((B : Nat) : Int)), some (0, s), some (2, ((f : Nat) : Int)), some (0, m14), some (0, e14 + 1), none]) rfl ?_
                                exact ih14 m14 (e14 + 1) G14 hCG14 hXG14 hFG14 (⟨(by omega), (by exact hFIG14), (by exact hFAG14), (by exact hFBG14), (by exact hFfG14)⟩) (by omega)
                              · -- 197 to 200
                                refine s_aload_n dX2_link_200 rfl (Int.natCast_nonneg _) ?_
                                refine s_iload dX2_link_201 rfl ?_
                                refine s_iload dX2_link_203 rfl ?_
                                refine s_if_ne (tgt := 212) dX2_link_205 (by decide) (fun c59 => ?_) (fun c59 => ?_)
                                · -- 205 to 212
                                  refine s_aload_n dX2_link_212 rfl (Int.natCast_nonneg _) ?_
                                  refine s_aload dX2_link_213 rfl (Int.natCast_nonneg _) ?_
                                  have hk62 : gK G14 (327682) = (11, 0) := ((hXG14).k ((hXG12).k ((hXG9).k hk6 (by decide)) (by decide)) (by decide))
                                  refine s_callV (as := [(0, e14), (2, ((B : Nat) : Int)), (2, ((f : Nat) : Int))]) (rest := []) (n := 327682) (ci := 3) gX2_linkOne dX2_link_215 m_1315 m_930 m_1658 m_716 m_277 ⟨by decide, by decide, show (parseMethodDescriptor yX2_linkOne.desc).map (fun d => d.parameters.length) = some 3 from by decide +kernel⟩ (Nat.le_of_ble_eq_true rfl) (by rw [hcf]; exact Nat.le_of_ble_eq_true rfl) hk62 rfl rfl (Nat.le_of_ble_eq_true rfl) ⟨P, e14, B, f, a, b, rfl, hCG14, hab, (by omega), (by assumption), (by assumption), (by omega), (by exact hFIG14), (by exact hFBG14), (by exact hFfG14), fun rr61 G60 hCG60 hXG60 hfG60 hpG60 => ?_⟩
                                  have hFG60 : WX (fun x => (262144 ≤ x ∧ x < 262272) ∨ x = 327691 ∨ x = 327692 ∨ (f + 1 ≤ x ∧ x ≤ f + 22)) G G60 := WX.trans hFG14 (KX.trans (KX.trans (KX.trans (KX.trans hXG2 hXG4) hXG9) hXG12) hXG14) (WX.mono hfG60 (fun x hx => by omega))
                                  have hFIG60 : ∀ k : Nat, k < 6 → FIP P G60 262144 k := fun k hk => FIP.sm (hFIG14 k hk) hXG60 hfG60 (by show ¬ _; omega) (congrFun (hfG60 262149 (KX.al (KX.trans (KX.trans (KX.trans (KX.trans hXG2 hXG4) hXG9) hXG12) hXG14) (kne k262149 (by decide))) (by show ¬ _; omega)) k)
                                  have hFAG60 : FPa P G60 A := (hFAG14).wx hXG60 hfG60 ⟨KX.al (KX.trans (KX.trans (KX.trans (KX.trans hXG2 hXG4) hXG9) hXG12) hXG14) (kne kA3 (by decide)), KX.al (KX.trans (KX.trans (KX.trans (KX.trans hXG2 hXG4) hXG9) hXG12) hXG14) (kne kA4 (by decide))⟩ (by show ¬ _; omega) (by show ¬ _; omega) (fun p hp => by show ¬ _; omega)
                                  have hFBG60 : FPa P G60 B := (hFBG14).wx hXG60 hfG60 ⟨KX.al (KX.trans (KX.trans (KX.trans (KX.trans hXG2 hXG4) hXG9) hXG12) hXG14) (kne kB3 (by decide)), KX.al (KX.trans (KX.trans (KX.trans (KX.trans hXG2 hXG4) hXG9) hXG12) hXG14) (kne kB4 (by decide))⟩ (by show ¬ _; omega) (by show ¬ _; omega) (fun p hp => by show ¬ _; omega)
                                  have hFfG60 : FPa P G60 f := hpG60
                                  show WP kX2_link X 218 [some (2, ((327682 : Nat) : Int)), some (2, ((A : Nat) : Int)), some (2, ((B : Nat) : Int)), some (0, s), some (2, ((f : Nat) : Int)), some (0, m14), some (0, e14), some (0, z23)] [(0, rr61)] G60
                                  refine s_istore dX2_link_218 (by decide) (lv' := [some (2, ((327682 : Nat) : Int)), some (2, ((A : Nat) : Int)), some (2, ((B : Nat) : Int)), some (0, s), some (2, ((f : Nat) : Int)), some (0, rr61), some (0, e14), some (0, z23)]) rfl ?_
                                  refine s_iinc dX2_link_220 (v := e14) rfl (by omega) (by decide) (lv' := [some (2, ((327682 : Nat) : Int)), some (2, ((A : Nat) : Int)), some (2, ((B : Nat) : Int)), some (0, s), some (2, ((f : Nat) : Int)), some (0, rr61), some (0, e14 + 1), some (0, z23)]) rfl ?_
                                  refine s_goto (tgt := 123) dX2_link_223 (by decide) ?_
                                  refine s_mask [true, true, true, true, true, true, true, false] (lv' := [some (2, ((327682 : Nat) : Int)), some (2, ((A : Nat) : Int)), some (2, ((B : Nat) : Int)), some (0, s), some (2, ((f : Nat) : Int)), some (0, rr61), some (0, e14 + 1), none]) rfl ?_
                                  exact ih14 rr61 (e14 + 1) G60 hCG60 (KX.trans hXG14 hXG60) hFG60 (⟨(by omega), (by exact hFIG60), (by exact hFAG60), (by exact hFBG60), (by exact hFfG60)⟩) (by omega)
                                · -- 205 to 208
                                  refine s_aload_n dX2_link_208 rfl (Int.natCast_nonneg _) ?_
                                  refine s_goto (tgt := 213) dX2_link_209 (by decide) ?_
                                  refine s_aload dX2_link_213 rfl (Int.natCast_nonneg _) ?_
                                  have hk65 : gK G14 (327682) = (11, 0) := ((hXG14).k ((hXG12).k ((hXG9).k hk6 (by decide)) (by decide)) (by decide))
                                  refine s_callV (as := [(0, e14), (2, ((A : Nat) : Int)), (2, ((f : Nat) : Int))]) (rest := []) (n := 327682) (ci := 3) gX2_linkOne dX2_link_215 m_1315 m_930 m_1658 m_716 m_277 ⟨by decide, by decide, show (parseMethodDescriptor yX2_linkOne.desc).map (fun d => d.parameters.length) = some 3 from by decide +kernel⟩ (Nat.le_of_ble_eq_true rfl) (by rw [hcf]; exact Nat.le_of_ble_eq_true rfl) hk65 rfl rfl (Nat.le_of_ble_eq_true rfl) ⟨P, e14, A, f, a, b, rfl, hCG14, hab, (by omega), (by assumption), (by assumption), (by omega), (by exact hFIG14), (by exact hFAG14), (by exact hFfG14), fun rr64 G63 hCG63 hXG63 hfG63 hpG63 => ?_⟩
                                  have hFG63 : WX (fun x => (262144 ≤ x ∧ x < 262272) ∨ x = 327691 ∨ x = 327692 ∨ (f + 1 ≤ x ∧ x ≤ f + 22)) G G63 := WX.trans hFG14 (KX.trans (KX.trans (KX.trans (KX.trans hXG2 hXG4) hXG9) hXG12) hXG14) (WX.mono hfG63 (fun x hx => by omega))
                                  have hFIG63 : ∀ k : Nat, k < 6 → FIP P G63 262144 k := fun k hk => FIP.sm (hFIG14 k hk) hXG63 hfG63 (by show ¬ _; omega) (congrFun (hfG63 262149 (KX.al (KX.trans (KX.trans (KX.trans (KX.trans hXG2 hXG4) hXG9) hXG12) hXG14) (kne k262149 (by decide))) (by show ¬ _; omega)) k)
                                  have hFAG63 : FPa P G63 A := (hFAG14).wx hXG63 hfG63 ⟨KX.al (KX.trans (KX.trans (KX.trans (KX.trans hXG2 hXG4) hXG9) hXG12) hXG14) (kne kA3 (by decide)), KX.al (KX.trans (KX.trans (KX.trans (KX.trans hXG2 hXG4) hXG9) hXG12) hXG14) (kne kA4 (by decide))⟩ (by show ¬ _; omega) (by show ¬ _; omega) (fun p hp => by show ¬ _; omega)
                                  have hFBG63 : FPa P G63 B := (hFBG14).wx hXG63 hfG63 ⟨KX.al (KX.trans (KX.trans (KX.trans (KX.trans hXG2 hXG4) hXG9) hXG12) hXG14) (kne kB3 (by decide)), KX.al (KX.trans (KX.trans (KX.trans (KX.trans hXG2 hXG4) hXG9) hXG12) hXG14) (kne kB4 (by decide))⟩ (by show ¬ _; omega) (by show ¬ _; omega) (fun p hp => by show ¬ _; omega)
                                  have hFfG63 : FPa P G63 f := hpG63
                                  show WP kX2_link X 218 [some (2, ((327682 : Nat) : Int)), some (2, ((A : Nat) : Int)), some (2, ((B : Nat) : Int)), some (0, s), some (2, ((f : Nat) : Int)), some (0, m14), some (0, e14), some (0, z23)] [(0, rr64)] G63
                                  refine s_istore dX2_link_218 (by decide) (lv' := [some (2, ((327682 : Nat) : Int)), some (2, ((A : Nat) : Int)), some (2, ((B : Nat) : Int)), some (0, s), some (2, ((f : Nat) : Int)), some (0, rr64), some (0, e14), some (0, z23)]) rfl ?_
                                  refine s_iinc dX2_link_220 (v := e14) rfl (by omega) (by decide) (lv' := [some (2, ((327682 : Nat) : Int)), some (2, ((A : Nat) : Int)), some (2, ((B : Nat) : Int)), some (0, s), some (2, ((f : Nat) : Int)), some (0, rr64), some (0, e14 + 1), some (0, z23)]) rfl ?_
                                  refine s_goto (tgt := 123) dX2_link_223 (by decide) ?_
                                  refine s_mask [true, true, true, true, true, true, true, false] (lv' := [some (2, ((327682 : Nat) : Int)), some (2, ((A : Nat) : Int)), some (2, ((B : Nat) : Int)), some (0, s), some (2, ((f : Nat) : Int)), some (0, rr64), some (0, e14 + 1), none]) rfl ?_
                                  exact ih14 rr64 (e14 + 1) G63 hCG63 (KX.trans hXG14 hXG63) hFG63 (⟨(by omega), (by exact hFIG63), (by exact hFAG63), (by exact hFBG63), (by exact hFfG63)⟩) (by omega)
                          · -- 168 to 171
                            refine s_aload_n dX2_link_171 rfl (Int.natCast_nonneg _) ?_
                            refine s_iload dX2_link_172 rfl ?_
                            refine s_aload_n dX2_link_174 rfl (Int.natCast_nonneg _) ?_
                            refine s_aload_n dX2_link_175 rfl (Int.natCast_nonneg _) ?_
                            refine s_aload dX2_link_176 rfl (Int.natCast_nonneg _) ?_
                            have hk68 : gK G14 (327682) = (11, 0) := ((hXG14).k ((hXG12).k ((hXG9).k hk6 (by decide)) (by decide)) (by decide))
                            refine s_callV (as := [(0, e14), (2, ((A : Nat) : Int)), (2, ((B : Nat) : Int)), (2, ((f : Nat) : Int))]) (rest := []) (n := 327682) (ci := 3) gX2_linkBoth dX2_link_178 m_1314 m_929 m_1657 m_716 m_276 ⟨by decide, by decide, show (parseMethodDescriptor yX2_linkBoth.desc).map (fun d => d.parameters.length) = some 4 from by decide +kernel⟩ (Nat.le_of_ble_eq_true rfl) (by rw [hcf]; exact Nat.le_of_ble_eq_true rfl) hk68 rfl rfl (Nat.le_of_ble_eq_true rfl) ⟨P, e14, A, B, f, a, b, rfl, hCG14, hab, (by omega), (by assumption), (by assumption), (by assumption), (by omega), (by exact hFIG14), (by exact hFAG14), (by exact hFBG14), (by exact hFfG14), fun rr67 G66 hCG66 hXG66 hfG66 hpG66 => ?_⟩
                            have hFG66 : WX (fun x => (262144 ≤ x ∧ x < 262272) ∨ x = 327691 ∨ x = 327692 ∨ (f + 1 ≤ x ∧ x ≤ f + 22)) G G66 := WX.trans hFG14 (KX.trans (KX.trans (KX.trans (KX.trans hXG2 hXG4) hXG9) hXG12) hXG14) (WX.mono hfG66 (fun x hx => by omega))
                            have hFIG66 : ∀ k : Nat, k < 6 → FIP P G66 262144 k := fun k hk => FIP.sm (hFIG14 k hk) hXG66 hfG66 (by show ¬ _; omega) (congrFun (hfG66 262149 (KX.al (KX.trans (KX.trans (KX.trans (KX.trans hXG2 hXG4) hXG9) hXG12) hXG14) (kne k262149 (by decide))) (by show ¬ _; omega)) k)
                            have hFAG66 : FPa P G66 A := (hFAG14).wx hXG66 hfG66 ⟨KX.al (KX.trans (KX.trans (KX.trans (KX.trans hXG2 hXG4) hXG9) hXG12) hXG14) (kne kA3 (by decide)), KX.al (KX.trans (KX.trans (KX.trans (KX.trans hXG2 hXG4) hXG9) hXG12) hXG14) (kne kA4 (by decide))⟩ (by show ¬ _; omega) (by show ¬ _; omega) (fun p hp => by show ¬ _; omega)
                            have hFBG66 : FPa P G66 B := (hFBG14).wx hXG66 hfG66 ⟨KX.al (KX.trans (KX.trans (KX.trans (KX.trans hXG2 hXG4) hXG9) hXG12) hXG14) (kne kB3 (by decide)), KX.al (KX.trans (KX.trans (KX.trans (KX.trans hXG2 hXG4) hXG9) hXG12) hXG14) (kne kB4 (by decide))⟩ (by show ¬ _; omega) (by show ¬ _; omega) (fun p hp => by show ¬ _; omega)
                            have hFfG66 : FPa P G66 f := hpG66
                            show WP kX2_link X 181 [some (2, ((327682 : Nat) : Int)), some (2, ((A : Nat) : Int)), some (2, ((B : Nat) : Int)), some (0, s), some (2, ((f : Nat) : Int)), some (0, m14), some (0, e14), some (0, z23)] [(0, rr67)] G66
                            refine s_istore dX2_link_181 (by decide) (lv' := [some (2, ((327682 : Nat) : Int)), some (2, ((A : Nat) : Int)), some (2, ((B : Nat) : Int)), some (0, s), some (2, ((f : Nat) : Int)), some (0, rr67), some (0, e14), some (0, z23)]) rfl ?_
                            refine s_goto (tgt := 220) dX2_link_183 (by decide) ?_
                            refine s_iinc dX2_link_220 (v := e14) rfl (by omega) (by decide) (lv' := [some (2, ((327682 : Nat) : Int)), some (2, ((A : Nat) : Int)), some (2, ((B : Nat) : Int)), some (0, s), some (2, ((f : Nat) : Int)), some (0, rr67), some (0, e14 + 1), some (0, z23)]) rfl ?_
                            refine s_goto (tgt := 123) dX2_link_223 (by decide) ?_
                            refine s_mask [true, true, true, true, true, true, true, false] (lv' := [some (2, ((327682 : Nat) : Int)), some (2, ((A : Nat) : Int)), some (2, ((B : Nat) : Int)), some (0, s), some (2, ((f : Nat) : Int)), some (0, rr67), some (0, e14 + 1), none]) rfl ?_
                            exact ih14 rr67 (e14 + 1) G66 hCG66 (KX.trans hXG14 hXG66) hFG66 (⟨(by omega), (by exact hFIG66), (by exact hFAG66), (by exact hFBG66), (by exact hFfG66)⟩) (by omega)
                      refine s_if_eq (tgt := 154) dX2_link_141 (by decide) (fun c69 => ?_) (fun c69 => ?_)
                      · -- 141 to 154
                        refine s_iconst dX2_link_154 (by decide) ?_
                        exact J24 0 (Or.inl ⟨c69, rfl⟩)
                      · -- 141 to 144
                        refine s_aload_n dX2_link_144 rfl (Int.natCast_nonneg _) ?_
                        have hk70 : gK G14 (B) = (9, 0) := ((hXG14).k ((hXG12).k ((hXG9).k ((hXG4).k ((hXG2).k kB0 (by decide)) (by decide)) (by decide)) (by decide)) (by decide))
                        refine s_alv (B) (by simp) (fun al71 => ?_)
                        have hv72 : gS G14 B 2 = ((B + 2 : Nat) : Int) := by have h9 : (gS G14 B 2) = (((B % 1048576) + 2 : Nat) : Int) := hCG14.1.v (j := 2) (by rw [cde_n (by omega) (by omega)]; omega : cde B = 101) al71 (by rw [hk70]; exact Nat.le_of_ble_eq_true rfl); omega
                        refine s_getf (ci := 1) (k := 2) (C := RX0) (T := TX0) (N := 7) (n := B) (L := 0) (t := 2) dX2_link_145 rfl wi_65 m_576 (Nat.le_of_ble_eq_true rfl) rfl rfl hk70 hv72 ?_
                        refine s_iload dX2_link_148 rfl ?_
                        have hk73 : gK G14 (B + 2) = (1, 10) := ((hXG14).k ((hXG12).k ((hXG9).k ((hXG4).k ((hXG2).k kB2 (by decide)) (by decide)) (by decide)) (by decide)) (by decide))
                        refine s_iald dX2_link_150 hk73 (by omega) (by omega) rfl ?_
                        refine s_goto (tgt := 155) dX2_link_151 (by decide) ?_
                        exact J24 _ (Or.inr (⟨c69, rfl⟩))
              exact L14 _ m12 0 G12 hCG12 KX.rf hFG12 (⟨(by omega), (by exact hFIG12), (by exact hFAG12), (by exact hFBG12), (by exact hFfG12)⟩) (Nat.lt_succ_self _)
            · -- 94 to 97
              refine s_iload dX2_link_97 rfl ?_
              refine s_if_ne (tgt := 120) dX2_link_99 (by decide) (fun c74 => ?_) (fun c74 => ?_)
              · -- 99 to 120
                refine s_iconst dX2_link_120 (by decide) ?_
                refine s_istore dX2_link_121 (by decide) (lv' := [some (2, ((327682 : Nat) : Int)), some (2, ((A : Nat) : Int)), some (2, ((B : Nat) : Int)), some (0, s), some (2, ((f : Nat) : Int)), some (0, m12), some (0, 0), none]) rfl ?_
                have L75 : ∀ (n75 : Nat) (m75 : Int) (e75 : Int) (G75 : LG), CI a b G75 → KX G12 G75 → WX (fun x => (262144 ≤ x ∧ x < 262272) ∨ x = 327691 ∨ x = 327692 ∨ (f + 1 ≤ x ∧ x ≤ f + 22)) G G75 → ((0 ≤ e75 ∧ e75 ≤ 10) ∧ (∀ k : Nat, k < 6 → FIP P G75 262144 k) ∧ (FPa P G75 A) ∧ (FPa P G75 B) ∧ (FPa P G75 f)) → (10 - e75).toNat < n75 → WP kX2_link X 123 [some (2, ((327682 : Nat) : Int)), some (2, ((A : Nat) : Int)), some (2, ((B : Nat) : Int)), some (0, s), some (2, ((f : Nat) : Int)), some (0, m75), some (0, e75), none] [] G75 := by
                  intro n75
                  induction n75 with
                  | zero => intro m75 e75 G75 hCG75 hXG75 hFG75 hi75 hm75; exact absurd hm75 (Nat.not_lt_zero _)
                  | succ n75 ih75 =>
                    intro m75 e75 G75 hCG75 hXG75 hFG75 hi75 hm75
                    have hj75 := hi75
                    obtain ⟨ie75, hFIG75, hFAG75, hFBG75, hFfG75⟩ := hi75
                    refine s_iload dX2_link_123 rfl ?_
                    refine s_bipush dX2_link_125 rfl (by decide) ?_
                    refine s_icmp_ge (tgt := 226) dX2_link_127 (by decide) (fun c76 => ?_) (fun c76 => ?_)
                    · -- 127 to 226
                      refine s_iload dX2_link_226 rfl ?_
                      exact s_iret hR dX2_link_228 rfl (hQ m75 G75 hCG75 (KX.trans (KX.trans (KX.trans (KX.trans hXG2 hXG4) hXG9) hXG12) hXG75) hFG75 hFfG75)
                    · -- 127 to 130
                      refine s_iload dX2_link_130 rfl ?_
                      refine s_if_ne (tgt := 226) dX2_link_132 (by decide) (fun c77 => ?_) (fun c77 => ?_)
                      · -- 132 to 226
                        refine s_iload dX2_link_226 rfl ?_
                        exact s_iret hR dX2_link_228 rfl (hQ m75 G75 hCG75 (KX.trans (KX.trans (KX.trans (KX.trans hXG2 hXG4) hXG9) hXG12) hXG75) hFG75 hFfG75)
                      · -- 132 to 135
                        refine s_iload_n dX2_link_135 rfl ?_
                        refine s_iload dX2_link_136 rfl ?_
                        refine s_callSN (own := RX2) rfl (by decide +kernel) (as := [(0, s), (0, e75)]) (rest := []) gX11_isIn dX2_link_138 m_1777 m_714 m_97 ⟨by decide, by decide, show (parseMethodDescriptor yX11_isIn.desc).map (fun d => d.parameters.length) = some 2 from by decide +kernel⟩ (Nat.le_of_ble_eq_true rfl) (by rw [hcf]; exact Nat.le_of_ble_eq_true rfl) rfl (Nat.le_of_ble_eq_true rfl) ⟨s, e75, rfl, fun rr78 hp79 => ?_⟩
                        show WP kX2_link X 141 [some (2, ((327682 : Nat) : Int)), some (2, ((A : Nat) : Int)), some (2, ((B : Nat) : Int)), some (0, s), some (2, ((f : Nat) : Int)), some (0, m75), some (0, e75), none] [(0, rr78)] G75
                        have J85 : ∀ z84 : Int, ((rr78 = 0) ∧ z84 = 0) ∨ ((¬ rr78 = 0) ∧ z84 = gS G75 (B + 2) ((e75 : Int).toNat)) → WP kX2_link X 155 [some (2, ((327682 : Nat) : Int)), some (2, ((A : Nat) : Int)), some (2, ((B : Nat) : Int)), some (0, s), some (2, ((f : Nat) : Int)), some (0, m75), some (0, e75), none] [(0, z84)] G75 := by
                          intro z84 hz84
                          refine s_istore dX2_link_155 (by decide) (lv' := [some (2, ((327682 : Nat) : Int)), some (2, ((A : Nat) : Int)), some (2, ((B : Nat) : Int)), some (0, s), some (2, ((f : Nat) : Int)), some (0, m75), some (0, e75), some (0, z84)]) rfl ?_
                          refine s_aload_n dX2_link_157 rfl (Int.natCast_nonneg _) ?_
                          refine s_iload dX2_link_158 rfl ?_
                          have hk88 : gK G75 (A) = (9, 0) := ((hXG75).k ((hXG12).k ((hXG9).k ((hXG4).k ((hXG2).k kA0 (by decide)) (by decide)) (by decide)) (by decide)) (by decide))
                          refine s_callV (as := [(0, e75)]) (rest := []) (n := A) (ci := 1) gX0_hasValue dX2_link_160 m_1313 m_739 m_1473 m_711 m_66 ⟨by decide, by decide, show (parseMethodDescriptor yX0_hasValue.desc).map (fun d => d.parameters.length) = some 1 from by decide +kernel⟩ (Nat.le_of_ble_eq_true rfl) (by rw [hcf]; exact Nat.le_of_ble_eq_true rfl) hk88 rfl rfl (Nat.le_of_ble_eq_true rfl) ⟨A, e75, a, b, rfl, hCG75, hab, (by first | assumption | omega), (by first | assumption | omega), fun rr86 hp87 => ?_⟩
                          show WP kX2_link X 163 [some (2, ((327682 : Nat) : Int)), some (2, ((A : Nat) : Int)), some (2, ((B : Nat) : Int)), some (0, s), some (2, ((f : Nat) : Int)), some (0, m75), some (0, e75), some (0, z84)] [(0, rr86)] G75
                          refine s_if_eq (tgt := 186) dX2_link_163 (by decide) (fun c89 => ?_) (fun c89 => ?_)
                          · -- 163 to 186
                            refine s_aload_n dX2_link_186 rfl (Int.natCast_nonneg _) ?_
                            refine s_iload dX2_link_187 rfl ?_
                            refine s_callV (as := [(0, e75)]) (rest := []) (n := A) (ci := 1) gX0_hasValue dX2_link_189 m_1313 m_739 m_1473 m_711 m_66 ⟨by decide, by decide, show (parseMethodDescriptor yX0_hasValue.desc).map (fun d => d.parameters.length) = some 1 from by decide +kernel⟩ (Nat.le_of_ble_eq_true rfl) (by rw [hcf]; exact Nat.le_of_ble_eq_true rfl) hk88 rfl rfl (Nat.le_of_ble_eq_true rfl) ⟨A, e75, a, b, rfl, hCG75, hab, (by first | assumption | omega), (by first | assumption | omega), fun rr90 hp91 => ?_⟩
                            show WP kX2_link X 192 [some (2, ((327682 : Nat) : Int)), some (2, ((A : Nat) : Int)), some (2, ((B : Nat) : Int)), some (0, s), some (2, ((f : Nat) : Int)), some (0, m75), some (0, e75), some (0, z84)] [(0, rr90)] G75
                            refine s_if_ne (tgt := 200) dX2_link_192 (by decide) (fun c92 => ?_) (fun c92 => ?_)
                            · -- 192 to 200
                              refine s_aload_n dX2_link_200 rfl (Int.natCast_nonneg _) ?_
                              refine s_iload dX2_link_201 rfl ?_
                              refine s_iload dX2_link_203 rfl ?_
                              refine s_if_ne (tgt := 212) dX2_link_205 (by decide) (fun c93 => ?_) (fun c93 => ?_)
                              · -- 205 to 212
                                refine s_aload_n dX2_link_212 rfl (Int.natCast_nonneg _) ?_
                                refine s_aload dX2_link_213 rfl (Int.natCast_nonneg _) ?_
                                have hk96 : gK G75 (327682) = (11, 0) := ((hXG75).k ((hXG12).k ((hXG9).k hk6 (by decide)) (by decide)) (by decide))
                                refine s_callV (as := [(0, e75), (2, ((B : Nat) : Int)), (2, ((f : Nat) : Int))]) (rest := []) (n := 327682) (ci := 3) gX2_linkOne dX2_link_215 m_1315 m_930 m_1658 m_716 m_277 ⟨by decide, by decide, show (parseMethodDescriptor yX2_linkOne.desc).map (fun d => d.parameters.length) = some 3 from by decide +kernel⟩ (Nat.le_of_ble_eq_true rfl) (by rw [hcf]; exact Nat.le_of_ble_eq_true rfl) hk96 rfl rfl (Nat.le_of_ble_eq_true rfl) ⟨P, e75, B, f, a, b, rfl, hCG75, hab, (by omega), (by assumption), (by assumption), (by omega), (by exact hFIG75), (by exact hFBG75), (by exact hFfG75), fun rr95 G94 hCG94 hXG94 hfG94 hpG94 => ?_⟩
                                have hFG94 : WX (fun x => (262144 ≤ x ∧ x < 262272) ∨ x = 327691 ∨ x = 327692 ∨ (f + 1 ≤ x ∧ x ≤ f + 22)) G G94 := WX.trans hFG75 (KX.trans (KX.trans (KX.trans (KX.trans hXG2 hXG4) hXG9) hXG12) hXG75) (WX.mono hfG94 (fun x hx => by omega))
                                have hFIG94 : ∀ k : Nat, k < 6 → FIP P G94 262144 k := fun k hk => FIP.sm (hFIG75 k hk) hXG94 hfG94 (by show ¬ _; omega) (congrFun (hfG94 262149 (KX.al (KX.trans (KX.trans (KX.trans (KX.trans hXG2 hXG4) hXG9) hXG12) hXG75) (kne k262149 (by decide))) (by show ¬ _; omega)) k)
                                have hFAG94 : FPa P G94 A := (hFAG75).wx hXG94 hfG94 ⟨KX.al (KX.trans (KX.trans (KX.trans (KX.trans hXG2 hXG4) hXG9) hXG12) hXG75) (kne kA3 (by decide)), KX.al (KX.trans (KX.trans (KX.trans (KX.trans hXG2 hXG4) hXG9) hXG12) hXG75) (kne kA4 (by decide))⟩ (by show ¬ _; omega) (by show ¬ _; omega) (fun p hp => by show ¬ _; omega)
                                have hFBG94 : FPa P G94 B := (hFBG75).wx hXG94 hfG94 ⟨KX.al (KX.trans (KX.trans (KX.trans (KX.trans hXG2 hXG4) hXG9) hXG12) hXG75) (kne kB3 (by decide)), KX.al (KX.trans (KX.trans (KX.trans (KX.trans hXG2 hXG4) hXG9) hXG12) hXG75) (kne kB4 (by decide))⟩ (by show ¬ _; omega) (by show ¬ _; omega) (fun p hp => by show ¬ _; omega)
                                have hFfG94 : FPa P G94 f := hpG94
                                show WP kX2_link X 218 [some (2, ((327682 : Nat) : Int)), some (2, ((A : Nat) : Int)), some (2, ((B : Nat) : Int)), some (0, s), some (2, ((f : Nat) : Int)), some (0, m75), some (0, e75), some (0, z84)] [(0, rr95)] G94
                                refine s_istore dX2_link_218 (by decide) (lv' := [some (2, ((327682 : Nat) : Int)), some (2, ((A : Nat) : Int)), some (2, ((B : Nat) : Int)), some (0, s), some (2, ((f : Nat) : Int)), some (0, rr95), some (0, e75), some (0, z84)]) rfl ?_
                                refine s_iinc dX2_link_220 (v := e75) rfl (by omega) (by decide) (lv' := [some (2, ((327682 : Nat) : Int)), some (2, ((A : Nat) : Int)), some (2, ((B : Nat) : Int)), some (0, s), some (2, ((f : Nat) : Int)), some (0, rr95), some (0, e75 + 1), some (0, z84)]) rfl ?_
                                refine s_goto (tgt := 123) dX2_link_223 (by decide) ?_
                                refine s_mask [true, true, true, true, true, true, true, false] (lv' := [some (2, ((327682 : Nat) : Int)), some (2, ((A : Nat) : Int)), some (2, ((B : Nat) : Int)), some (0, s), some (2, ((f : Nat) : Int)), some (0, rr95), some (0, e75 + 1), none]) rfl ?_
                                exact ih75 rr95 (e75 + 1) G94 hCG94 (KX.trans hXG75 hXG94) hFG94 (⟨(by omega), (by exact hFIG94), (by exact hFAG94), (by exact hFBG94), (by exact hFfG94)⟩) (by omega)
                              · -- 205 to 208
                                refine s_aload_n dX2_link_208 rfl (Int.natCast_nonneg _) ?_
                                refine s_goto (tgt := 213) dX2_link_209 (by decide) ?_
                                refine s_aload dX2_link_213 rfl (Int.natCast_nonneg _) ?_
                                have hk99 : gK G75 (327682) = (11, 0) := ((hXG75).k ((hXG12).k ((hXG9).k hk6 (by decide)) (by decide)) (by decide))
                                refine s_callV (as := [(0, e75), (2, ((A : Nat) : Int)), (2, ((f : Nat) : Int))]) (rest := []) (n := 327682) (ci := 3) gX2_linkOne dX2_link_215 m_1315 m_930 m_1658 m_716 m_277 ⟨by decide, by decide, show (parseMethodDescriptor yX2_linkOne.desc).map (fun d => d.parameters.length) = some 3 from by decide +kernel⟩ (Nat.le_of_ble_eq_true rfl) (by rw [hcf]; exact Nat.le_of_ble_eq_true rfl) hk99 rfl rfl (Nat.le_of_ble_eq_true rfl) ⟨P, e75, A, f, a, b, rfl, hCG75, hab, (by omega), (by assumption), (by assumption), (by omega), (by exact hFIG75), (by exact hFAG75), (by exact hFfG75), fun rr98 G97 hCG97 hXG97 hfG97 hpG97 => ?_⟩
                                have hFG97 : WX (fun x => (262144 ≤ x ∧ x < 262272) ∨ x = 327691 ∨ x = 327692 ∨ (f + 1 ≤ x ∧ x ≤ f + 22)) G G97 := WX.trans hFG75 (KX.trans (KX.trans (KX.trans (KX.trans hXG2 hXG4) hXG9) hXG12) hXG75) (WX.mono hfG97 (fun x hx => by omega))
                                have hFIG97 : ∀ k : Nat, k < 6 → FIP P G97 262144 k := fun k hk => FIP.sm (hFIG75 k hk) hXG97 hfG97 (by show ¬ _; omega) (congrFun (hfG97 262149 (KX.al (KX.trans (KX.trans (KX.trans (KX.trans hXG2 hXG4) hXG9) hXG12) hXG75) (kne k262149 (by decide))) (by show ¬ _; omega)) k)
                                have hFAG97 : FPa P G97 A := (hFAG75).wx hXG97 hfG97 ⟨KX.al (KX.trans (KX.trans (KX.trans (KX.trans hXG2 hXG4) hXG9) hXG12) hXG75) (kne kA3 (by decide)), KX.al (KX.trans (KX.trans (KX.trans (KX.trans hXG2 hXG4) hXG9) hXG12) hXG75) (kne kA4 (by decide))⟩ (by show ¬ _; omega) (by show ¬ _; omega) (fun p hp => by show ¬ _; omega)
                                have hFBG97 : FPa P G97 B := (hFBG75).wx hXG97 hfG97 ⟨KX.al (KX.trans (KX.trans (KX.trans (KX.trans hXG2 hXG4) hXG9) hXG12) hXG75) (kne kB3 (by decide)), KX.al (KX.trans (KX.trans (KX.trans (KX.trans hXG2 hXG4) hXG9) hXG12) hXG75) (kne kB4 (by decide))⟩ (by show ¬ _; omega) (by show ¬ _; omega) (fun p hp => by show ¬ _; omega)
                                have hFfG97 : FPa P G97 f := hpG97
                                show WP kX2_link X 218 [some (2, ((327682 : Nat) : Int)), some (2, ((A : Nat) : Int)), some (2, ((B : Nat) : Int)), some (0, s), some (2, ((f : Nat) : Int)), some (0, m75), some (0, e75), some (0, z84)] [(0, rr98)] G97
                                refine s_istore dX2_link_218 (by decide) (lv' := [some (2, ((327682 : Nat) : Int)), some (2, ((A : Nat) : Int)), some (2, ((B : Nat) : Int)), some (0, s), some (2, ((f : Nat) : Int)), some (0, rr98), some (0, e75), some (0, z84)]) rfl ?_
                                refine s_iinc dX2_link_220 (v := e75) rfl (by omega) (by decide) (lv' := [some (2, ((327682 : Nat) : Int)), some (2, ((A : Nat) : Int)), some (2, ((B : Nat) : Int)), some (0, s), some (2, ((f : Nat) : Int)), some (0, rr98), some (0, e75 + 1), some (0, z84)]) rfl ?_
                                refine s_goto (tgt := 123) dX2_link_223 (by decide) ?_
                                refine s_mask [true, true, true, true, true, true, true, false] (lv' := [some (2, ((327682 : Nat) : Int)), some (2, ((A : Nat) : Int)), some (2, ((B : Nat) : Int)), some (0, s), some (2, ((f : Nat) : Int)), some (0, rr98), some (0, e75 + 1), none]) rfl ?_
                                exact ih75 rr98 (e75 + 1) G97 hCG97 (KX.trans hXG75 hXG97) hFG97 (⟨(by omega), (by exact hFIG97), (by exact hFAG97), (by exact hFBG97), (by exact hFfG97)⟩) (by omega)
                            · -- 192 to 195
                              refine s_iload dX2_link_195 rfl ?_
                              refine s_if_eq (tgt := 220) dX2_link_197 (by decide) (fun c100 => ?_) (fun c100 => ?_)
                              · -- 197 to 220
                                refine s_iinc dX2_link_220 (v := e75) rfl (by omega) (by decide) (lv' := [some (2, ((327682 : Nat) : Int)), some (2, ((A : Nat) : Int)), some (2, ((B : Nat) : Int)), some (0, s), some (2, ((f : Nat) : Int)), some (0, m75), some (0, e75 + 1), some (0, z84)]) rfl ?_
                                refine s_goto (tgt := 123) dX2_link_223 (by decide) ?_
                                refine s_mask [true, true, true, true, true, true, true, false] (lv' := [some (2, ((327682 : Nat) : Int)), some (2, ((A : Nat) : Int)), some (2, ((B : Nat) : Int)), some (0, s), some (2, ((f : Nat) : Int)), some (0, m75), some (0, e75 + 1), none]) rfl ?_
                                exact ih75 m75 (e75 + 1) G75 hCG75 hXG75 hFG75 (⟨(by omega), (by exact hFIG75), (by exact hFAG75), (by exact hFBG75), (by exact hFfG75)⟩) (by omega)
                              · -- 197 to 200
                                refine s_aload_n dX2_link_200 rfl (Int.natCast_nonneg _) ?_
                                refine s_iload dX2_link_201 rfl ?_
                                refine s_iload dX2_link_203 rfl ?_
                                refine s_if_ne (tgt := 212) dX2_link_205 (by decide) (fun c101 => ?_) (fun c101 => ?_)
                                · -- 205 to 212
                                  refine s_aload_n dX2_link_212 rfl (Int.natCast_nonneg _) ?_
                                  refine s_aload dX2_link_213 rfl (Int.natCast_nonneg _) ?_
                                  have hk104 : gK G75 (327682) = (11, 0) := ((hXG75).k ((hXG12).k ((hXG9).k hk6 (by decide)) (by decide)) (by decide))
                                  refine s_callV (as := [(0, e75), (2, ((B : Nat) : Int)), (2, ((f : Nat) : Int))]) (rest := []) (n := 327682) (ci := 3) gX2_linkOne dX2_link_215 m_1315 m_930 m_1658 m_716 m_277 ⟨by decide, by decide, show (parseMethodDescriptor yX2_linkOne.desc).map (fun d => d.parameters.length) = some 3 from by decide +kernel⟩ (Nat.le_of_ble_eq_true rfl) (by rw [hcf]; exact Nat.le_of_ble_eq_true rfl) hk104 rfl rfl (Nat.le_of_ble_eq_true rfl) ⟨P, e75, B, f, a, b, rfl, hCG75, hab, (by omega), (by assumption), (by assumption), (by omega), (by exact hFIG75), (by exact hFBG75), (by exact hFfG75), fun rr103 G102 hCG102 hXG102 hfG102 hpG102 => ?_⟩
                                  have hFG102 : WX (fun x => (262144 ≤ x ∧ x < 262272) ∨ x = 327691 ∨ x = 327692 ∨ (f + 1 ≤ x ∧ x ≤ f + 22)) G G102 := WX.trans hFG75 (KX.trans (KX.trans (KX.trans (KX.trans hXG2 hXG4) hXG9) hXG12) hXG75) (WX.mono hfG102 (fun x hx => by omega))
                                  have hFIG102 : ∀ k : Nat, k < 6 → FIP P G102 262144 k := fun k hk => FIP.sm (hFIG75 k hk) hXG102 hfG102 (by show ¬ _; omega) (congrFun (hfG102 262149 (KX.al (KX.trans (KX.trans (KX.trans (KX.trans hXG2 hXG4) hXG9) hXG12) hXG75) (kne k262149 (by decide))) (by show ¬ _; omega)) k)
                                  have hFAG102 : FPa P G102 A := (hFAG75).wx hXG102 hfG102 ⟨KX.al (KX.trans (KX.trans (KX.trans (KX.trans hXG2 hXG4) hXG9) hXG12) hXG75) (kne kA3 (by decide)), KX.al (KX.trans (KX.trans (KX.trans (KX.trans hXG2 hXG4) hXG9) hXG12) hXG75) (kne kA4 (by decide))⟩ (by show ¬ _; omega) (by show ¬ _; omega) (fun p hp => by show ¬ _; omega)
                                  have hFBG102 : FPa P G102 B := (hFBG75).wx hXG102 hfG102 ⟨KX.al (KX.trans (KX.trans (KX.trans (KX.trans hXG2 hXG4) hXG9) hXG12) hXG75) (kne kB3 (by decide)), KX.al (KX.trans (KX.trans (KX.trans (KX.trans hXG2 hXG4) hXG9) hXG12) hXG75) (kne kB4 (by decide))⟩ (by show ¬ _; omega) (by show ¬ _; omega) (fun p hp => by show ¬ _; omega)
                                  have hFfG102 : FPa P G102 f := hpG102
                                  show WP kX2_link X 218 [some (2, ((327682 : Nat) : Int)), some (2, ((A : Nat) : Int)), some (2, ((B : Nat) : Int)), some (0, s), some (2, ((f : Nat) : Int)), some (0, m75), some (0, e75), some (0, z84)] [(0, rr103)] G102
                                  refine s_istore dX2_link_218 (by decide) (lv' := [some (2, ((327682 : Nat) : Int)), some (2, ((A : Nat) : Int)), some (2, ((B : Nat) : Int)), some (0, s), some (2, ((f : Nat) : Int)), some (0, rr103), some (0, e75), some (0, z84)]) rfl ?_
                                  refine s_iinc dX2_link_220 (v := e75) rfl (by omega) (by decide) (lv' := [some (2, ((327682 : Nat) : Int)), some (2, ((A : Nat) : Int)), some (2, ((B : Nat) : Int)), some (0, s), some (2, ((f : Nat) : Int)), some (0, rr103), some (0, e75 + 1), some (0, z84)]) rfl ?_
                                  refine s_goto (tgt := 123) dX2_link_223 (by decide) ?_
                                  refine s_mask [true, true, true, true, true, true, true, false] (lv' := [some (2, ((327682 : Nat) : Int)), some (2, ((A : Nat) : Int)), some (2, ((B : Nat) : Int)), some (0, s), some (2, ((f : Nat) : Int)), some (0, rr103), some (0, e75 + 1), none]) rfl ?_
                                  exact ih75 rr103 (e75 + 1) G102 hCG102 (KX.trans hXG75 hXG102) hFG102 (⟨(by omega), (by exact hFIG102), (by exact hFAG102), (by exact hFBG102), (by exact hFfG102)⟩) (by omega)
                                · -- 205 to 208
                                  refine s_aload_n dX2_link_208 rfl (Int.natCast_nonneg _) ?_
                                  refine s_goto (tgt := 213) dX2_link_209 (by decide) ?_
                                  refine s_aload dX2_link_213 rfl (Int.natCast_nonneg _) ?_
                                  have hk107 : gK G75 (327682) = (11, 0) := ((hXG75).k ((hXG12).k ((hXG9).k hk6 (by decide)) (by decide)) (by decide))
                                  refine s_callV (as := [(0, e75), (2, ((A : Nat) : Int)), (2, ((f : Nat) : Int))]) (rest := []) (n := 327682) (ci := 3) gX2_linkOne dX2_link_215 m_1315 m_930 m_1658 m_716 m_277 ⟨by decide, by decide, show (parseMethodDescriptor yX2_linkOne.desc).map (fun d => d.parameters.length) = some 3 from by decide +kernel⟩ (Nat.le_of_ble_eq_true rfl) (by rw [hcf]; exact Nat.le_of_ble_eq_true rfl) hk107 rfl rfl (Nat.le_of_ble_eq_true rfl) ⟨P, e75, A, f, a, b, rfl, hCG75, hab, (by omega), (by assumption), (by assumption), (by omega), (by exact hFIG75), (by exact hFAG75), (by exact hFfG75), fun rr106 G105 hCG105 hXG105 hfG105 hpG105 => ?_⟩
                                  have hFG105 : WX (fun x => (262144 ≤ x ∧ x < 262272) ∨ x = 327691 ∨ x = 327692 ∨ (f + 1 ≤ x ∧ x ≤ f + 22)) G G105 := WX.trans hFG75 (KX.trans (KX.trans (KX.trans (KX.trans hXG2 hXG4) hXG9) hXG12) hXG75) (WX.mono hfG105 (fun x hx => by omega))
                                  have hFIG105 : ∀ k : Nat, k < 6 → FIP P G105 262144 k := fun k hk => FIP.sm (hFIG75 k hk) hXG105 hfG105 (by show ¬ _; omega) (congrFun (hfG105 262149 (KX.al (KX.trans (KX.trans (KX.trans (KX.trans hXG2 hXG4) hXG9) hXG12) hXG75) (kne k262149 (by decide))) (by show ¬ _; omega)) k)
                                  have hFAG105 : FPa P G105 A := (hFAG75).wx hXG105 hfG105 ⟨KX.al (KX.trans (KX.trans (KX.trans (KX.trans hXG2 hXG4) hXG9) hXG12) hXG75) (kne kA3 (by decide)), KX.al (KX.trans (KX.trans (KX.trans (KX.trans hXG2 hXG4) hXG9) hXG12) hXG75) (kne kA4 (by decide))⟩ (by show ¬ _; omega) (by show ¬ _; omega) (fun p hp => by show ¬ _; omega)
                                  have hFBG105 : FPa P G105 B := (hFBG75).wx hXG105 hfG105 ⟨KX.al (KX.trans (KX.trans (KX.trans (KX.trans hXG2 hXG4) hXG9) hXG12) hXG75) (kne kB3 (by decide)), KX.al (KX.trans (KX.trans (KX.trans (KX.trans hXG2 hXG4) hXG9) hXG12) hXG75) (kne kB4 (by decide))⟩ (by show ¬ _; omega) (by show ¬ _; omega) (fun p hp => by show ¬ _; omega)
                                  have hFfG105 : FPa P G105 f := hpG105
                                  show WP kX2_link X 218 [some (2, ((327682 : Nat) : Int)), some (2, ((A : Nat) : Int)), some (2, ((B : Nat) : Int)), some (0, s), some (2, ((f : Nat) : Int)), some (0, m75), some (0, e75), some (0, z84)] [(0, rr106)] G105
                                  refine s_istore dX2_link_218 (by decide) (lv' := [some (2, ((327682 : Nat) : Int)), some (2, ((A : Nat) : Int)), some (2, ((B : Nat) : Int)), some (0, s), some (2, ((f : Nat) : Int)), some (0, rr106), some (0, e75), some (0, z84)]) rfl ?_
                                  refine s_iinc dX2_link_220 (v := e75) rfl (by omega) (by decide) (lv' := [some (2, ((327682 : Nat) : Int)), some (2, ((A : Nat) : Int)), some (2, ((B : Nat) : Int)), some (0, s), some (2, ((f : Nat) : Int)), some (0, rr106), some (0, e75 + 1), some (0, z84)]) rfl ?_
                                  refine s_goto (tgt := 123) dX2_link_223 (by decide) ?_
                                  refine s_mask [true, true, true, true, true, true, true, false] (lv' := [some (2, ((327682 : Nat) : Int)), some (2, ((A : Nat) : Int)), some (2, ((B : Nat) : Int)), some (0, s), some (2, ((f : Nat) : Int)), some (0, rr106), some (0, e75 + 1), none]) rfl ?_
                                  exact ih75 rr106 (e75 + 1) G105 hCG105 (KX.trans hXG75 hXG105) hFG105 (⟨(by omega), (by exact hFIG105), (by exact hFAG105), (by exact hFBG105), (by exact hFfG105)⟩) (by omega)
                          · -- 163 to 166
                            refine s_iload dX2_link_166 rfl ?_
                            refine s_if_eq (tgt := 186) dX2_link_168 (by decide) (fun c108 => ?_) (fun c108 => ?_)
                            · -- 168 to 186
                              refine s_aload_n dX2_link_186 rfl (Int.natCast_nonneg _) ?_
                              refine s_iload dX2_link_187 rfl ?_
                              refine s_callV (as := [(0, e75)]) (rest := []) (n := A) (ci := 1) gX0_hasValue dX2_link_189 m_1313 m_739 m_1473 m_711 m_66 ⟨by decide, by decide, show (parseMethodDescriptor yX0_hasValue.desc).map (fun d => d.parameters.length) = some 1 from by decide +kernel⟩ (Nat.le_of_ble_eq_true rfl) (by rw [hcf]; exact Nat.le_of_ble_eq_true rfl) hk88 rfl rfl (Nat.le_of_ble_eq_true rfl) ⟨A, e75, a, b, rfl, hCG75, hab, (by first | assumption | omega), (by first | assumption | omega), fun rr109 hp110 => ?_⟩
                              show WP kX2_link X 192 [some (2, ((327682 : Nat) : Int)), some (2, ((A : Nat) : Int)), some (2, ((B : Nat) : Int)), some (0, s), some (2, ((f : Nat) : Int)), some (0, m75), some (0, e75), some (0, z84)] [(0, rr109)] G75
                              refine s_if_ne (tgt := 200) dX2_link_192 (by decide) (fun c111 => ?_) (fun c111 => ?_)
                              · -- 192 to 200
                                refine s_aload_n dX2_link_200 rfl (Int.natCast_nonneg _) ?_
                                refine s_iload dX2_link_201 rfl ?_
                                refine s_iload dX2_link_203 rfl ?_
                                refine s_if_ne (tgt := 212) dX2_link_205 (by decide) (fun c112 => ?_) (fun c112 => ?_)
                                · -- 205 to 212
                                  refine s_aload_n dX2_link_212 rfl (Int.natCast_nonneg _) ?_
                                  refine s_aload dX2_link_213 rfl (Int.natCast_nonneg _) ?_
                                  have hk115 : gK G75 (327682) = (11, 0) := ((hXG75).k ((hXG12).k ((hXG9).k hk6 (by decide)) (by decide)) (by decide))
                                  refine s_callV (as := [(0, e75), (2, ((B : Nat) : Int)), (2, ((f : Nat) : Int))]) (rest := []) (n := 327682) (ci := 3) gX2_linkOne dX2_link_215 m_1315 m_930 m_1658 m_716 m_277 ⟨by decide, by decide, show (parseMethodDescriptor yX2_linkOne.desc).map (fun d => d.parameters.length) = some 3 from by decide +kernel⟩ (Nat.le_of_ble_eq_true rfl) (by rw [hcf]; exact Nat.le_of_ble_eq_true rfl) hk115 rfl rfl (Nat.le_of_ble_eq_true rfl) ⟨P, e75, B, f, a, b, rfl, hCG75, hab, (by omega), (by assumption), (by assumption), (by omega), (by exact hFIG75), (by exact hFBG75), (by exact hFfG75), fun rr114 G113 hCG113 hXG113 hfG113 hpG113 => ?_⟩
                                  have hFG113 : WX (fun x => (262144 ≤ x ∧ x < 262272) ∨ x = 327691 ∨ x = 327692 ∨ (f + 1 ≤ x ∧ x ≤ f + 22)) G G113 := WX.trans hFG75 (KX.trans (KX.trans (KX.trans (KX.trans hXG2 hXG4) hXG9) hXG12) hXG75) (WX.mono hfG113 (fun x hx => by omega))
                                  have hFIG113 : ∀ k : Nat, k < 6 → FIP P G113 262144 k := fun k hk => FIP.sm (hFIG75 k hk) hXG113 hfG113 (by show ¬ _; omega) (congrFun (hfG113 262149 (KX.al (KX.trans (KX.trans (KX.trans (KX.trans hXG2 hXG4) hXG9) hXG12) hXG75) (kne k262149 (by decide))) (by show ¬ _; omega)) k)
                                  have hFAG113 : FPa P G113 A := (hFAG75).wx hXG113 hfG113 ⟨KX.al (KX.trans (KX.trans (KX.trans (KX.trans hXG2 hXG4) hXG9) hXG12) hXG75) (kne kA3 (by decide)), KX.al (KX.trans (KX.trans (KX.trans (KX.trans hXG2 hXG4) hXG9) hXG12) hXG75) (kne kA4 (by decide))⟩ (by show ¬ _; omega) (by show ¬ _; omega) (fun p hp => by show ¬ _; omega)
                                  have hFBG113 : FPa P G113 B := (hFBG75).wx hXG113 hfG113 ⟨KX.al (KX.trans (KX.trans (KX.trans (KX.trans hXG2 hXG4) hXG9) hXG12) hXG75) (kne kB3 (by decide)), KX.al (KX.trans (KX.trans (KX.trans (KX.trans hXG2 hXG4) hXG9) hXG12) hXG75) (kne kB4 (by decide))⟩ (by show ¬ _; omega) (by show ¬ _; omega) (fun p hp => by show ¬ _; omega)
                                  have hFfG113 : FPa P G113 f := hpG113
                                  show WP kX2_link X 218 [some (2, ((327682 : Nat) : Int)), some (2, ((A : Nat) : Int)), some (2, ((B : Nat) : Int)), some (0, s), some (2, ((f : Nat) : Int)), some (0, m75), some (0, e75), some (0, z84)] [(0, rr114)] G113
                                  refine s_istore dX2_link_218 (by decide) (lv' := [some (2, ((327682 : Nat) : Int)), some (2, ((A : Nat) : Int)), some (2, ((B : Nat) : Int)), some (0, s), some (2, ((f : Nat) : Int)), some (0, rr114), some (0, e75), some (0, z84)]) rfl ?_
                                  refine s_iinc dX2_link_220 (v := e75) rfl (by omega) (by decide) (lv' := [some (2, ((327682 : Nat) : Int)), some (2, ((A : Nat) : Int)), some (2, ((B : Nat) : Int)), some (0, s), some (2, ((f : Nat) : Int)), some (0, rr114), some (0, e75 + 1), some (0, z84)]) rfl ?_
                                  refine s_goto (tgt := 123) dX2_link_223 (by decide) ?_
                                  refine s_mask [true, true, true, true, true, true, true, false] (lv' := [some (2, ((327682 : Nat) : Int)), some (2, ((A : Nat) : Int)), some (2, ((B : Nat) : Int)), some (0, s), some (2, ((f : Nat) : Int)), some (0, rr114), some (0, e75 + 1), none]) rfl ?_
                                  exact ih75 rr114 (e75 + 1) G113 hCG113 (KX.trans hXG75 hXG113) hFG113 (⟨(by omega), (by exact hFIG113), (by exact hFAG113), (by exact hFBG113), (by exact hFfG113)⟩) (by omega)
                                · -- 205 to 208
                                  refine s_aload_n dX2_link_208 rfl (Int.natCast_nonneg _) ?_
                                  refine s_goto (tgt := 213) dX2_link_209 (by decide) ?_
                                  refine s_aload dX2_link_213 rfl (Int.natCast_nonneg _) ?_
                                  have hk118 : gK G75 (327682) = (11, 0) := ((hXG75).k ((hXG12).k ((hXG9).k hk6 (by decide)) (by decide)) (by decide))
                                  refine s_callV (as := [(0, e75), (2, ((A : Nat) : Int)), (2, ((f : Nat) : Int))]) (rest := []) (n := 327682) (ci := 3) gX2_linkOne dX2_link_215 m_1315 m_930 m_1658 m_716 m_277 ⟨by decide, by decide, show (parseMethodDescriptor yX2_linkOne.desc).map (fun d => d.parameters.length) = some 3 from by decide +kernel⟩ (Nat.le_of_ble_eq_true rfl) (by rw [hcf]; exact Nat.le_of_ble_eq_true rfl) hk118 rfl rfl (Nat.le_of_ble_eq_true rfl) ⟨P, e75, A, f, a, b, rfl, hCG75, hab, (by omega), (by assumption), (by assumption), (by omega), (by exact hFIG75), (by exact hFAG75), (by exact hFfG75), fun rr117 G116 hCG116 hXG116 hfG116 hpG116 => ?_⟩
                                  have hFG116 : WX (fun x => (262144 ≤ x ∧ x < 262272) ∨ x = 327691 ∨ x = 327692 ∨ (f + 1 ≤ x ∧ x ≤ f + 22)) G G116 := WX.trans hFG75 (KX.trans (KX.trans (KX.trans (KX.trans hXG2 hXG4) hXG9) hXG12) hXG75) (WX.mono hfG116 (fun x hx => by omega))
                                  have hFIG116 : ∀ k : Nat, k < 6 → FIP P G116 262144 k := fun k hk => FIP.sm (hFIG75 k hk) hXG116 hfG116 (by show ¬ _; omega) (congrFun (hfG116 262149 (KX.al (KX.trans (KX.trans (KX.trans (KX.trans hXG2 hXG4) hXG9) hXG12) hXG75) (kne k262149 (by decide))) (by show ¬ _; omega)) k)
                                  have hFAG116 : FPa P G116 A := (hFAG75).wx hXG116 hfG116 ⟨KX.al (KX.trans (KX.trans (KX.trans (KX.trans hXG2 hXG4) hXG9) hXG12) hXG75) (kne kA3 (by decide)), KX.al (KX.trans (KX.trans (KX.trans (KX.trans hXG2 hXG4) hXG9) hXG12) hXG75) (kne kA4 (by decide))⟩ (by show ¬ _; omega) (by show ¬ _; omega) (fun p hp => by show ¬ _; omega)
                                  have hFBG116 : FPa P G116 B := (hFBG75).wx hXG116 hfG116 ⟨KX.al (KX.trans (KX.trans (KX.trans (KX.trans hXG2 hXG4) hXG9) hXG12) hXG75) (kne kB3 (by decide)), KX.al (KX.trans (KX.trans (KX.trans (KX.trans hXG2 hXG4) hXG9) hXG12) hXG75) (kne kB4 (by decide))⟩ (by show ¬ _; omega) (by show ¬ _; omega) (fun p hp => by show ¬ _; omega)
                                  have hFfG116 : FPa P G116 f := hpG116
                                  show WP kX2_link X 218 [some (2, ((327682 : Nat) : Int)), some (2, ((A : Nat) : Int)), some (2, ((B : Nat) : Int)), some (0, s), some (2, ((f : Nat) : Int)), some (0, m75), some (0, e75), some (0, z84)] [(0, rr117)] G116
                                  refine s_istore dX2_link_218 (by decide) (lv' := [some (2, ((327682 : Nat) : Int)), some (2, ((A : Nat) : Int)), some (2, ((B : Nat) : Int)), some (0, s), some (2, ((f : Nat) : Int)), some (0, rr117), some (0, e75), some (0, z84)]) rfl ?_
                                  refine s_iinc dX2_link_220 (v := e75) rfl (by omega) (by decide) (lv' := [some (2, ((327682 : Nat) : Int)), some (2, ((A : Nat) : Int)), some (2, ((B : Nat) : Int)), some (0, s), some (2, ((f : Nat) : Int)), some (0, rr117), some (0, e75 + 1), some (0, z84)]) rfl ?_
                                  refine s_goto (tgt := 123) dX2_link_223 (by decide) ?_
                                  refine s_mask [true, true, true, true, true, true, true, false] (lv' := [some (2, ((327682 : Nat) : Int)), some (2, ((A : Nat) : Int)), some (2, ((B : Nat) : Int)), some (0, s), some (2, ((f : Nat) : Int)), some (0, rr117), some (0, e75 + 1), none]) rfl ?_
                                  exact ih75 rr117 (e75 + 1) G116 hCG116 (KX.trans hXG75 hXG116) hFG116 (⟨(by omega), (by exact hFIG116), (by exact hFAG116), (by exact hFBG116), (by exact hFfG116)⟩) (by omega)
                              · -- 192 to 195
                                refine s_iload dX2_link_195 rfl ?_
                                refine s_if_eq (tgt := 220) dX2_link_197 (by decide) (fun c119 => ?_) (fun c119 => ?_)
                                · -- 197 to 220
                                  refine s_iinc dX2_link_220 (v := e75) rfl (by omega) (by decide) (lv' := [some (2, ((327682 : Nat) : Int)), some (2, ((A : Nat) : Int)), some (2, ((B : Nat) : Int)), some (0, s), some (2, ((f : Nat) : Int)), some (0, m75), some (0, e75 + 1), some (0, z84)]) rfl ?_
                                  refine s_goto (tgt := 123) dX2_link_223 (by decide) ?_
                                  refine s_mask [true, true, true, true, true, true, true, false] (lv' := [some (2, ((327682 : Nat) : Int)), some (2, ((A : Nat) : Int)), some (2, ((B : Nat) : Int)), some (0, s), some (2, ((f : Nat) : Int)), some (0, m75), some (0, e75 + 1), none]) rfl ?_
                                  exact ih75 m75 (e75 + 1) G75 hCG75 hXG75 hFG75 (⟨(by omega), (by exact hFIG75), (by exact hFAG75), (by exact hFBG75), (by exact hFfG75)⟩) (by omega)
                                · -- 197 to 200
                                  refine s_aload_n dX2_link_200 rfl (Int.natCast_nonneg _) ?_
                                  refine s_iload dX2_link_201 rfl ?_
                                  refine s_iload dX2_link_203 rfl ?_
                                  refine s_if_ne (tgt := 212) dX2_link_205 (by decide) (fun c120 => ?_) (fun c120 => ?_)
                                  · -- 205 to 212
                                    refine s_aload_n dX2_link_212 rfl (Int.natCast_nonneg _) ?_
                                    refine s_aload dX2_link_213 rfl (Int.natCast_nonneg _) ?_
                                    have hk123 : gK G75 (327682) = (11, 0) := ((hXG75).k ((hXG12).k ((hXG9).k hk6 (by decide)) (by decide)) (by decide))
                                    refine s_callV (as := [(0, e75), (2, ((B : Nat) : Int)), (2, ((f : Nat) : Int))]) (rest := []) (n := 327682) (ci := 3) gX2_linkOne dX2_link_215 m_1315 m_930 m_1658 m_716 m_277 ⟨by decide, by decide, show (parseMethodDescriptor yX2_linkOne.desc).map (fun d => d.parameters.length) = some 3 from by decide +kernel⟩ (Nat.le_of_ble_eq_true rfl) (by rw [hcf]; exact Nat.le_of_ble_eq_true rfl) hk123 rfl rfl (Nat.le_of_ble_eq_true rfl) ⟨P, e75, B, f, a, b, rfl, hCG75, hab, (by omega), (by assumption), (by assumption), (by omega), (by exact hFIG75), (by exact hFBG75), (by exact hFfG75), fun rr122 G121 hCG121 hXG121 hfG121 hpG121 => ?_⟩
                                    have hFG121 : WX (fun x => (262144 ≤ x ∧ x < 262272) ∨ x = 327691 ∨ x = 327692 ∨ (f + 1 ≤ x ∧ x ≤ f + 22)) G G121 := WX.trans hFG75 (KX.trans (KX.trans (KX.trans (KX.trans hXG2 hXG4) hXG9) hXG12) hXG75) (WX.mono hfG121 (fun x hx => by omega))
                                    have hFIG121 : ∀ k : Nat, k < 6 → FIP P G121 262144 k := fun k hk => FIP.sm (hFIG75 k hk) hXG121 hfG121 (by show ¬ _; omega) (congrFun (hfG121 262149 (KX.al (KX.trans (KX.trans (KX.trans (KX.trans hXG2 hXG4) hXG9) hXG12) hXG75) (kne k262149 (by decide))) (by show ¬ _; omega)) k)
                                    have hFAG121 : FPa P G121 A := (hFAG75).wx hXG121 hfG121 ⟨KX.al (KX.trans (KX.trans (KX.trans (KX.trans hXG2 hXG4) hXG9) hXG12) hXG75) (kne kA3 (by decide)), KX.al (KX.trans (KX.trans (KX.trans (KX.trans hXG2 hXG4) hXG9) hXG12) hXG75) (kne kA4 (by decide))⟩ (by show ¬ _; omega) (by show ¬ _; omega) (fun p hp => by show ¬ _; omega)
                                    have hFBG121 : FPa P G121 B := (hFBG75).wx hXG121 hfG121 ⟨KX.al (KX.trans (KX.trans (KX.trans (KX.trans hXG2 hXG4) hXG9) hXG12) hXG75) (kne kB3 (by decide)), KX.al (KX.trans (KX.trans (KX.trans (KX.trans hXG2 hXG4) hXG9) hXG12) hXG75) (kne kB4 (by decide))⟩ (by show ¬ _; omega) (by show ¬ _; omega) (fun p hp => by show ¬ _; omega)
                                    have hFfG121 : FPa P G121 f := hpG121
                                    show WP kX2_link X 218 [some (2, ((327682 : Nat) : Int)), some (2, ((A : Nat) : Int)), some (2, ((B : Nat) : Int)), some (0, s), some (2, ((f : Nat) : Int)), some (0, m75), some (0, e75), some (0, z84)] [(0, rr122)] G121
                                    refine s_istore dX2_link_218 (by decide) (lv' := [some (2, ((327682 : Nat) : Int)), some (2, ((A : Nat) : Int)), some (2, ((B : Nat) : Int)), some (0, s), some (2, ((f : Nat) : Int)), some (0, rr122), some (0, e75), some (0, z84)]) rfl ?_
                                    refine s_iinc dX2_link_220 (v := e75) rfl (by omega) (by decide) (lv' := [some (2, ((327682 : Nat) : Int)), some (2, ((A : Nat) : Int)), some (2, ((B : Nat) : Int)), some (0, s), some (2, ((f : Nat) : Int)), some (0, rr122), some (0, e75 + 1), some (0, z84)]) rfl ?_
                                    refine s_goto (tgt := 123) dX2_link_223 (by decide) ?_
                                    refine s_mask [true, true, true, true, true, true, true, false] (lv' := [some (2, ((327682 : Nat) : Int)), some (2, ((A : Nat) : Int)), some (2, ((B : Nat) : Int)), some (0, s), some (2, ((f : Nat) : Int)), some (0, rr122), some (0, e75 + 1), none]) rfl ?_
                                    exact ih75 rr122 (e75 + 1) G121 hCG121 (KX.trans hXG75 hXG121) hFG121 (⟨(by omega), (by exact hFIG121), (by exact hFAG121), (by exact hFBG121), (by exact hFfG121)⟩) (by omega)
                                  · -- 205 to 208
                                    refine s_aload_n dX2_link_208 rfl (Int.natCast_nonneg _) ?_
                                    refine s_goto (tgt := 213) dX2_link_209 (by decide) ?_
                                    refine s_aload dX2_link_213 rfl (Int.natCast_nonneg _) ?_
                                    have hk126 : gK G75 (327682) = (11, 0) := ((hXG75).k ((hXG12).k ((hXG9).k hk6 (by decide)) (by decide)) (by decide))
                                    refine s_callV (as := [(0, e75), (2, ((A : Nat) : Int)), (2, ((f : Nat) : Int))]) (rest := []) (n := 327682) (ci := 3) gX2_linkOne dX2_link_215 m_1315 m_930 m_1658 m_716 m_277 ⟨by decide, by decide, show (parseMethodDescriptor yX2_linkOne.desc).map (fun d => d.parameters.length) = some 3 from by decide +kernel⟩ (Nat.le_of_ble_eq_true rfl) (by rw [hcf]; exact Nat.le_of_ble_eq_true rfl) hk126 rfl rfl (Nat.le_of_ble_eq_true rfl) ⟨P, e75, A, f, a, b, rfl, hCG75, hab, (by omega), (by assumption), (by assumption), (by omega), (by exact hFIG75), (by exact hFAG75), (by exact hFfG75), fun rr125 G124 hCG124 hXG124 hfG124 hpG124 => ?_⟩
                                    have hFG124 : WX (fun x => (262144 ≤ x ∧ x < 262272) ∨ x = 327691 ∨ x = 327692 ∨ (f + 1 ≤ x ∧ x ≤ f + 22)) G G124 := WX.trans hFG75 (KX.trans (KX.trans (KX.trans (KX.trans hXG2 hXG4) hXG9) hXG12) hXG75) (WX.mono hfG124 (fun x hx => by omega))
                                    have hFIG124 : ∀ k : Nat, k < 6 → FIP P G124 262144 k := fun k hk => FIP.sm (hFIG75 k hk) hXG124 hfG124 (by show ¬ _; omega) (congrFun (hfG124 262149 (KX.al (KX.trans (KX.trans (KX.trans (KX.trans hXG2 hXG4) hXG9) hXG12) hXG75) (kne k262149 (by decide))) (by show ¬ _; omega)) k)
                                    have hFAG124 : FPa P G124 A := (hFAG75).wx hXG124 hfG124 ⟨KX.al (KX.trans (KX.trans (KX.trans (KX.trans hXG2 hXG4) hXG9) hXG12) hXG75) (kne kA3 (by decide)), KX.al (KX.trans (KX.trans (KX.trans (KX.trans hXG2 hXG4) hXG9) hXG12) hXG75) (kne kA4 (by decide))⟩ (by show ¬ _; omega) (by show ¬ _; omega) (fun p hp => by show ¬ _; omega)
                                    have hFBG124 : FPa P G124 B := (hFBG75).wx hXG124 hfG124 ⟨KX.al (KX.trans (KX.trans (KX.trans (KX.trans hXG2 hXG4) hXG9) hXG12) hXG75) (kne kB3 (by decide)), KX.al (KX.trans (KX.trans (KX.trans (KX.trans hXG2 hXG4) hXG9) hXG12) hXG75) (kne kB4 (by decide))⟩ (by show ¬ _; omega) (by show ¬ _; omega) (fun p hp => by show ¬ _; omega)
                                    have hFfG124 : FPa P G124 f := hpG124
                                    show WP kX2_link X 218 [some (2, ((327682 : Nat) : Int)), some (2, ((A : Nat) : Int)), some (2, ((B : Nat) : Int)), some (0, s), some (2, ((f : Nat) : Int)), some (0, m75), some (0, e75), some (0, z84)] [(0, rr125)] G124
                                    refine s_istore dX2_link_218 (by decide) (lv' := [some (2, ((327682 : Nat) : Int)), some (2, ((A : Nat) : Int)), some (2, ((B : Nat) : Int)), some (0, s), some (2, ((f : Nat) : Int)), some (0, rr125), some (0, e75), some (0, z84)]) rfl ?_
                                    refine s_iinc dX2_link_220 (v := e75) rfl (by omega) (by decide) (lv' := [some (2, ((327682 : Nat) : Int)), some (2, ((A : Nat) : Int)), some (2, ((B : Nat) : Int)), some (0, s), some (2, ((f : Nat) : Int)), some (0, rr125), some (0, e75 + 1), some (0, z84)]) rfl ?_
                                    refine s_goto (tgt := 123) dX2_link_223 (by decide) ?_
                                    refine s_mask [true, true, true, true, true, true, true, false] (lv' := [some (2, ((327682 : Nat) : Int)), some (2, ((A : Nat) : Int)), some (2, ((B : Nat) : Int)), some (0, s), some (2, ((f : Nat) : Int)), some (0, rr125), some (0, e75 + 1), none]) rfl ?_
                                    exact ih75 rr125 (e75 + 1) G124 hCG124 (KX.trans hXG75 hXG124) hFG124 (⟨(by omega), (by exact hFIG124), (by exact hFAG124), (by exact hFBG124), (by exact hFfG124)⟩) (by omega)
                            · -- 168 to 171
                              refine s_aload_n dX2_link_171 rfl (Int.natCast_nonneg _) ?_
                              refine s_iload dX2_link_172 rfl ?_
                              refine s_aload_n dX2_link_174 rfl (Int.natCast_nonneg _) ?_
                              refine s_aload_n dX2_link_175 rfl (Int.natCast_nonneg _) ?_
                              refine s_aload dX2_link_176 rfl (Int.natCast_nonneg _) ?_
                              have hk129 : gK G75 (327682) = (11, 0) := ((hXG75).k ((hXG12).k ((hXG9).k hk6 (by decide)) (by decide)) (by decide))
                              refine s_callV (as := [(0, e75), (2, ((A : Nat) : Int)), (2, ((B : Nat) : Int)), (2, ((f : Nat) : Int))]) (rest := []) (n := 327682) (ci := 3) gX2_linkBoth dX2_link_178 m_1314 m_929 m_1657 m_716 m_276 ⟨by decide, by decide, show (parseMethodDescriptor yX2_linkBoth.desc).map (fun d => d.parameters.length) = some 4 from by decide +kernel⟩ (Nat.le_of_ble_eq_true rfl) (by rw [hcf]; exact Nat.le_of_ble_eq_true rfl) hk129 rfl rfl (Nat.le_of_ble_eq_true rfl) ⟨P, e75, A, B, f, a, b, rfl, hCG75, hab, (by omega), (by assumption), (by assumption), (by assumption), (by omega), (by exact hFIG75), (by exact hFAG75), (by exact hFBG75), (by exact hFfG75), fun rr128 G127 hCG127 hXG127 hfG127 hpG127 => ?_⟩
                              have hFG127 : WX (fun x => (262144 ≤ x ∧ x < 262272) ∨ x = 327691 ∨ x = 327692 ∨ (f + 1 ≤ x ∧ x ≤ f + 22)) G G127 := WX.trans hFG75 (KX.trans (KX.trans (KX.trans (KX.trans hXG2 hXG4) hXG9) hXG12) hXG75) (WX.mono hfG127 (fun x hx => by omega))
                              have hFIG127 : ∀ k : Nat, k < 6 → FIP P G127 262144 k := fun k hk => FIP.sm (hFIG75 k hk) hXG127 hfG127 (by show ¬ _; omega) (congrFun (hfG127 262149 (KX.al (KX.trans (KX.trans (KX.trans (KX.trans hXG2 hXG4) hXG9) hXG12) hXG75) (kne k262149 (by decide))) (by show ¬ _; omega)) k)
                              have hFAG127 : FPa P G127 A := (hFAG75).wx hXG127 hfG127 ⟨KX.al (KX.trans (KX.trans (KX.trans (KX.trans hXG2 hXG4) hXG9) hXG12) hXG75) (kne kA3 (by decide)), KX.al (KX.trans (KX.trans (KX.trans (KX.trans hXG2 hXG4) hXG9) hXG12) hXG75) (kne kA4 (by decide))⟩ (by show ¬ _; omega) (by show ¬ _; omega) (fun p hp => by show ¬ _; omega)
                              have hFBG127 : FPa P G127 B := (hFBG75).wx hXG127 hfG127 ⟨KX.al (KX.trans (KX.trans (KX.trans (KX.trans hXG2 hXG4) hXG9) hXG12) hXG75) (kne kB3 (by decide)), KX.al (KX.trans (KX.trans (KX.trans (KX.trans hXG2 hXG4) hXG9) hXG12) hXG75) (kne kB4 (by decide))⟩ (by show ¬ _; omega) (by show ¬ _; omega) (fun p hp => by show ¬ _; omega)
                              have hFfG127 : FPa P G127 f := hpG127
                              show WP kX2_link X 181 [some (2, ((327682 : Nat) : Int)), some (2, ((A : Nat) : Int)), some (2, ((B : Nat) : Int)), some (0, s), some (2, ((f : Nat) : Int)), some (0, m75), some (0, e75), some (0, z84)] [(0, rr128)] G127
                              refine s_istore dX2_link_181 (by decide) (lv' := [some (2, ((327682 : Nat) : Int)), some (2, ((A : Nat) : Int)), some (2, ((B : Nat) : Int)), some (0, s), some (2, ((f : Nat) : Int)), some (0, rr128), some (0, e75), some (0, z84)]) rfl ?_
                              refine s_goto (tgt := 220) dX2_link_183 (by decide) ?_
                              refine s_iinc dX2_link_220 (v := e75) rfl (by omega) (by decide) (lv' := [some (2, ((327682 : Nat) : Int)), some (2, ((A : Nat) : Int)), some (2, ((B : Nat) : Int)), some (0, s), some (2, ((f : Nat) : Int)), some (0, rr128), some (0, e75 + 1), some (0, z84)]) rfl ?_
                              refine s_goto (tgt := 123) dX2_link_223 (by decide) ?_
                              refine s_mask [true, true, true, true, true, true, true, false] (lv' := [some (2, ((327682 : Nat) : Int)), some (2, ((A : Nat) : Int)), some (2, ((B : Nat) : Int)), some (0, s), some (2, ((f : Nat) : Int)), some (0, rr128), some (0, e75 + 1), none]) rfl ?_
                              exact ih75 rr128 (e75 + 1) G127 hCG127 (KX.trans hXG75 hXG127) hFG127 (⟨(by omega), (by exact hFIG127), (by exact hFAG127), (by exact hFBG127), (by exact hFfG127)⟩) (by omega)
                        refine s_if_eq (tgt := 154) dX2_link_141 (by decide) (fun c130 => ?_) (fun c130 => ?_)
                        · -- 141 to 154
                          refine s_iconst dX2_link_154 (by decide) ?_
                          exact J85 0 (Or.inl ⟨c130, rfl⟩)
                        · -- 141 to 144
                          refine s_aload_n dX2_link_144 rfl (Int.natCast_nonneg _) ?_
                          have hk131 : gK G75 (B) = (9, 0) := ((hXG75).k ((hXG12).k ((hXG9).k ((hXG4).k ((hXG2).k kB0 (by decide)) (by decide)) (by decide)) (by decide)) (by decide))
                          refine s_alv (B) (by simp) (fun al132 => ?_)
                          have hv133 : gS G75 B 2 = ((B + 2 : Nat) : Int) := by have h9 : (gS G75 B 2) = (((B % 1048576) + 2 : Nat) : Int) := hCG75.1.v (j := 2) (by rw [cde_n (by omega) (by omega)]; omega : cde B = 101) al132 (by rw [hk131]; exact Nat.le_of_ble_eq_true rfl); omega
                          refine s_getf (ci := 1) (k := 2) (C := RX0) (T := TX0) (N := 7) (n := B) (L := 0) (t := 2) dX2_link_145 rfl wi_65 m_576 (Nat.le_of_ble_eq_true rfl) rfl rfl hk131 hv133 ?_
                          refine s_iload dX2_link_148 rfl ?_
                          have hk134 : gK G75 (B + 2) = (1, 10) := ((hXG75).k ((hXG12).k ((hXG9).k ((hXG4).k ((hXG2).k kB2 (by decide)) (by decide)) (by decide)) (by decide)) (by decide))
                          refine s_iald dX2_link_150 hk134 (by omega) (by omega) rfl ?_
                          refine s_goto (tgt := 155) dX2_link_151 (by decide) ?_
                          exact J85 _ (Or.inr (⟨c130, rfl⟩))
                exact L75 _ m12 0 G12 hCG12 KX.rf hFG12 (⟨(by omega), (by exact hFIG12), (by exact hFAG12), (by exact hFBG12), (by exact hFfG12)⟩) (Nat.lt_succ_self _)
              · -- 99 to 102
                refine s_aload_n dX2_link_102 rfl (Int.natCast_nonneg _) ?_
                refine s_iload dX2_link_103 rfl ?_
                refine s_aload_n dX2_link_105 rfl (Int.natCast_nonneg _) ?_
                refine s_aload_n dX2_link_106 rfl (Int.natCast_nonneg _) ?_
                refine s_aload dX2_link_107 rfl (Int.natCast_nonneg _) ?_
                have hk137 : gK G12 (327682) = (11, 0) := ((hXG12).k ((hXG9).k hk6 (by decide)) (by decide))
                refine s_callV (as := [(0, e12), (2, ((A : Nat) : Int)), (2, ((B : Nat) : Int)), (2, ((f : Nat) : Int))]) (rest := []) (n := 327682) (ci := 3) gX2_linkType dX2_link_109 m_1312 m_931 m_1659 m_716 m_278 ⟨by decide, by decide, show (parseMethodDescriptor yX2_linkType.desc).map (fun d => d.parameters.length) = some 4 from by decide +kernel⟩ (Nat.le_of_ble_eq_true rfl) (by rw [hcf]; exact Nat.le_of_ble_eq_true rfl) hk137 rfl rfl (Nat.le_of_ble_eq_true rfl) ⟨P, e12, A, B, f, a, b, rfl, hCG12, hab, (by omega), (by assumption), (by assumption), (by assumption), (by omega), (by exact hFIG12), (by exact hFfG12), (by exact iz12 (by omega)), fun rr136 G135 hCG135 hXG135 hfG135 hpG135 => ?_⟩
                have hFG135 : WX (fun x => (262144 ≤ x ∧ x < 262272) ∨ x = 327691 ∨ x = 327692 ∨ (f + 1 ≤ x ∧ x ≤ f + 22)) G G135 := WX.trans hFG12 (KX.trans (KX.trans (KX.trans hXG2 hXG4) hXG9) hXG12) (WX.mono hfG135 (fun x hx => by omega))
                have hFIG135 : ∀ k : Nat, k < 6 → FIP P G135 262144 k := fun k hk => FIP.sm (hFIG12 k hk) hXG135 hfG135 (by show ¬ _; omega) (congrFun (hfG135 262149 (KX.al (KX.trans (KX.trans (KX.trans hXG2 hXG4) hXG9) hXG12) (kne k262149 (by decide))) (by show ¬ _; omega)) k)
                have hFAG135 : FPa P G135 A := (hFAG12).wx hXG135 hfG135 ⟨KX.al (KX.trans (KX.trans (KX.trans hXG2 hXG4) hXG9) hXG12) (kne kA3 (by decide)), KX.al (KX.trans (KX.trans (KX.trans hXG2 hXG4) hXG9) hXG12) (kne kA4 (by decide))⟩ (by show ¬ _; omega) (by show ¬ _; omega) (fun p hp => by show ¬ _; omega)
                have hFBG135 : FPa P G135 B := (hFBG12).wx hXG135 hfG135 ⟨KX.al (KX.trans (KX.trans (KX.trans hXG2 hXG4) hXG9) hXG12) (kne kB3 (by decide)), KX.al (KX.trans (KX.trans (KX.trans hXG2 hXG4) hXG9) hXG12) (kne kB4 (by decide))⟩ (by show ¬ _; omega) (by show ¬ _; omega) (fun p hp => by show ¬ _; omega)
                have hFfG135 : FPa P G135 f := hpG135
                show WP kX2_link X 112 [some (2, ((327682 : Nat) : Int)), some (2, ((A : Nat) : Int)), some (2, ((B : Nat) : Int)), some (0, s), some (2, ((f : Nat) : Int)), some (0, m12), some (0, e12), none] [(0, rr136)] G135
                refine s_istore dX2_link_112 (by decide) (lv' := [some (2, ((327682 : Nat) : Int)), some (2, ((A : Nat) : Int)), some (2, ((B : Nat) : Int)), some (0, s), some (2, ((f : Nat) : Int)), some (0, rr136), some (0, e12), none]) rfl ?_
                refine s_iinc dX2_link_114 (v := e12) rfl (by omega) (by decide) (lv' := [some (2, ((327682 : Nat) : Int)), some (2, ((A : Nat) : Int)), some (2, ((B : Nat) : Int)), some (0, s), some (2, ((f : Nat) : Int)), some (0, rr136), some (0, e12 + 1), none]) rfl ?_
                refine s_goto (tgt := 90) dX2_link_117 (by decide) ?_
                exact ih12 rr136 (e12 + 1) G135 hCG135 (KX.trans hXG12 hXG135) hFG135 (⟨(by omega), (by intro _ k hk; rw [hfG135 262149 (KX.al (KX.trans (KX.trans (KX.trans hXG2 hXG4) hXG9) hXG12) (kne k262149 (by decide))) (by show ¬ _; omega)]; exact iz12 (by omega) k hk), (by exact hFIG135), (by exact hFAG135), (by exact hFBG135), (by exact hFfG135)⟩) (by omega)
        exact L12 _ rr10 0 G9 hCG9 KX.rf hFG9 (⟨(by omega), (by exact hpG9.1), (by exact hFIG9), (by exact hFAG9), (by exact hFBG9), (by exact hFfG9)⟩) (Nat.lt_succ_self _)
      · -- 14 to 17
        refine s_aload_n dX2_link_17 rfl (Int.natCast_nonneg _) ?_
        have hk138 : gK G4 (A) = (9, 0) := ((hXG4).k ((hXG2).k kA0 (by decide)) (by decide))
        refine s_alv (A) (by simp) (fun al139 => ?_)
        have hv140 : gS G4 A 1 = ((A + 1 : Nat) : Int) := by have h9 : (gS G4 A 1) = (((A % 1048576) + 1 : Nat) : Int) := hCG4.1.v (j := 1) (by rw [cde_n (by omega) (by omega)]; omega : cde A = 101) al139 (by rw [hk138]; exact Nat.le_of_ble_eq_true rfl); omega
        refine s_getf (ci := 1) (k := 1) (C := RX0) (T := TX0) (N := 7) (n := A) (L := 0) (t := 2) dX2_link_18 rfl wi_65 m_573 (Nat.le_of_ble_eq_true rfl) rfl rfl hk138 hv140 ?_
        refine s_iload dX2_link_21 rfl ?_
        have hk141 : gK G4 (A + 1) = (1, 6) := ((hXG4).k ((hXG2).k kA1 (by decide)) (by decide))
        refine s_iald dX2_link_23 hk141 (by omega) (by omega) rfl ?_
        refine s_iconst dX2_link_24 (by decide) ?_
        refine s_icmp_ne (tgt := 32) dX2_link_25 (by decide) (fun c142 => ?_) (fun c142 => ?_)
        · -- 25 to 32
          refine s_aload_n dX2_link_32 rfl (Int.natCast_nonneg _) ?_
          refine s_astore (Int.natCast_nonneg _) dX2_link_33 (by decide) (lv' := [some (2, ((327682 : Nat) : Int)), some (2, ((A : Nat) : Int)), some (2, ((B : Nat) : Int)), some (0, s), some (2, ((f : Nat) : Int)), some (0, n4), some (2, ((B : Nat) : Int)), none]) rfl ?_
          refine s_aload dX2_link_35 rfl (Int.natCast_nonneg _) ?_
          have hk143 : gK G4 (B) = (9, 0) := ((hXG4).k ((hXG2).k kB0 (by decide)) (by decide))
          refine s_alv (B) (by simp) (fun al144 => ?_)
          have hv145 : gS G4 B 1 = ((B + 1 : Nat) : Int) := by have h9 : (gS G4 B 1) = (((B % 1048576) + 1 : Nat) : Int) := hCG4.1.v (j := 1) (by rw [cde_n (by omega) (by omega)]; omega : cde B = 101) al144 (by rw [hk143]; exact Nat.le_of_ble_eq_true rfl); omega
          refine s_getf (ci := 1) (k := 1) (C := RX0) (T := TX0) (N := 7) (n := B) (L := 0) (t := 2) dX2_link_37 rfl wi_65 m_573 (Nat.le_of_ble_eq_true rfl) rfl rfl hk143 hv145 ?_
          refine s_iload dX2_link_40 rfl ?_
          have hk146 : gK G4 (B + 1) = (1, 6) := ((hXG4).k ((hXG2).k kB1 (by decide)) (by decide))
          refine s_iald dX2_link_42 hk146 (by omega) (by omega) rfl ?_
          refine s_iconst dX2_link_43 (by decide) ?_
          refine s_icmp_ne (tgt := 72) dX2_link_44 (by decide) (fun c147 => ?_) (fun c147 => ?_)
          · -- 44 to 72
            refine s_iinc dX2_link_72 (v := n4) rfl (by omega) (by decide) (lv' := [some (2, ((327682 : Nat) : Int)), some (2, ((A : Nat) : Int)), some (2, ((B : Nat) : Int)), some (0, s), some (2, ((f : Nat) : Int)), some (0, n4 + 1), some (2, ((B : Nat) : Int)), none]) rfl ?_
            refine s_goto (tgt := 10) dX2_link_75 (by decide) ?_
            refine s_mask [true, true, true, true, true, true, false, false] (lv' := [some (2, ((327682 : Nat) : Int)), some (2, ((A : Nat) : Int)), some (2, ((B : Nat) : Int)), some (0, s), some (2, ((f : Nat) : Int)), some (0, n4 + 1), none, none]) rfl ?_
            exact ih4 (n4 + 1) G4 hCG4 hXG4 hFG4 (⟨(by omega), (by exact hTLG4), (by exact hFIG4), (by exact hFAG4), (by exact hFBG4), (by exact hFfG4)⟩) (by omega)
          · -- 44 to 47
            refine s_aload_n dX2_link_47 rfl (Int.natCast_nonneg _) ?_
            have hk148 : gK G4 (327682) = (11, 0) := ((hXG4).k ((hXG2).k k327682 (by decide)) (by decide))
            refine s_alv (327682) (by simp) (fun al149 => ?_)
            have hv150 : gS G4 327682 2 = ((262144 : Nat) : Int) := by have h9 : (gS G4 327682 2) = 262144 := hCG4.1.v (j := 2) (by decide : cde 327682 = 502) al149 (by rw [hk148]; exact Nat.le_of_ble_eq_true rfl); omega
            refine s_getf (ci := 3) (k := 2) (C := RX2) (T := TX2) (N := 8) (n := 327682) (L := 0) (t := 2) dX2_link_48 rfl wi_70 m_577 (Nat.le_of_ble_eq_true rfl) rfl rfl hk148 hv150 ?_
            refine s_iload dX2_link_51 rfl ?_
            refine s_aload dX2_link_53 rfl (Int.natCast_nonneg _) ?_
            have hv151 : gS G4 B 3 = ((B + 3 : Nat) : Int) := by have h9 : (gS G4 B 3) = (((B % 1048576) + 3 : Nat) : Int) := hCG4.1.v (j := 3) (by rw [cde_n (by omega) (by omega)]; omega : cde B = 101) al144 (by rw [hk143]; exact Nat.le_of_ble_eq_true rfl); omega
            refine s_getf (ci := 1) (k := 3) (C := RX0) (T := TX0) (N := 7) (n := B) (L := 0) (t := 2) dX2_link_55 rfl wi_65 m_574 (Nat.le_of_ble_eq_true rfl) rfl rfl hk143 hv151 ?_
            refine s_iload dX2_link_58 rfl ?_
            have hk152 : gK G4 (B + 3) = (4, 16) := ((hXG4).k ((hXG2).k kB3 (by decide)) (by decide))
            refine s_alv (B + 3) (by simp) (fun al153 => ?_)
            have hv155b : 0 ≤ (gS G4 (B + 3) (n4 : Int).toNat) ∧ (gS G4 (B + 3) (n4 : Int).toNat) % 1048576 = ((((B + 3) % 1048576) + 4 + ((n4 : Int).toNat) : Nat) : Int) := hCG4.1.v (j := (n4 : Int).toNat) (by rw [cde_n (by omega) (by omega)]; omega : cde (B + 3) = 104) al153 (by rw [hk152]; show (n4 : Int).toNat < 16; omega)
            obtain ⟨q154, hv155⟩ : ∃ q : Nat, gS G4 (B + 3) (n4 : Int).toNat = (q : Int) := ⟨(gS G4 (B + 3) (n4 : Int).toNat).toNat, by omega⟩
            rw [hv155] at hv155b
            refine s_aald4 dX2_link_60 hk152 (by omega) (by omega) hv155 ?_
            refine s_aload dX2_link_61 rfl (Int.natCast_nonneg _) ?_
            have hv156 : gS G4 B 4 = ((B + 4 : Nat) : Int) := by have h9 : (gS G4 B 4) = (((B % 1048576) + 4 : Nat) : Int) := hCG4.1.v (j := 4) (by rw [cde_n (by omega) (by omega)]; omega : cde B = 101) al144 (by rw [hk143]; exact Nat.le_of_ble_eq_true rfl); omega
            refine s_getf (ci := 1) (k := 4) (C := RX0) (T := TX0) (N := 7) (n := B) (L := 0) (t := 2) dX2_link_63 rfl wi_65 m_575 (Nat.le_of_ble_eq_true rfl) rfl rfl hk143 hv156 ?_
            refine s_iload dX2_link_66 rfl ?_
            have hk157 : gK G4 (B + 4) = (1, 16) := ((hXG4).k ((hXG2).k kB4 (by decide)) (by decide))
            refine s_alv (B + 4) (by simp) (fun al158 => ?_)
            have hv159 : 0 ≤ (gS G4 (B + 4) (n4 : Int).toNat) ∧ (gS G4 (B + 4) (n4 : Int).toNat) ≤ 200 := hCG4.1.v (j := (n4 : Int).toNat) (by rw [cde_n (by omega) (by omega)]; omega : cde (B + 4) = 105) al158 (by rw [hk157]; show (n4 : Int).toNat < 16; omega)
            refine s_iald dX2_link_68 hk157 (by omega) (by omega) rfl ?_
            refine s_alv (q154) (by simp) (fun al160 => ?_)
            obtain ⟨L162, hk161, hL162a, hL162b⟩ := hCG4.1.kr (show 108 ≤ cde q154 ∧ cde q154 < 124 from by rw [cde_n (by omega) (by omega)]; omega) al160
            have hk165 : gK G4 (262144) = (10, 0) := ((hXG4).k ((hXG2).k k262144 (by decide)) (by decide))
            refine s_callV (as := [(0, n4), (2, ((q154 : Nat) : Int)), (0, gS G4 (B + 4) ((n4 : Int).toNat))]) (rest := []) (n := 262144) (ci := 2) gX1_tell dX2_link_69 m_1310 m_919 m_1494 m_712 m_261 ⟨by decide, by decide, show (parseMethodDescriptor yX1_tell.desc).map (fun d => d.parameters.length) = some 3 from by decide +kernel⟩ (Nat.le_of_ble_eq_true rfl) (by rw [hcf]; exact Nat.le_of_ble_eq_true rfl) hk165 rfl rfl (Nat.le_of_ble_eq_true rfl) ⟨262144, n4, q154, L162, gS G4 (B + 4) ((n4 : Int).toNat), a, b, rfl, hCG4, hab, (by first | assumption | omega), (by first | assumption | omega), hk161, (by first | assumption | omega), (by first | assumption | omega), fun G163 hCG163 hXG163 hfG163 hpG163 => ?_⟩
            have hFG163 : WX (fun x => (262144 ≤ x ∧ x < 262272) ∨ x = 327691 ∨ x = 327692 ∨ (f + 1 ≤ x ∧ x ≤ f + 22)) G G163 := WX.trans hFG4 (KX.trans hXG2 hXG4) (WX.mono hfG163 (fun x hx => by omega))
            have hTLG163 : ∀ k : Nat, k < 6 → TLP P G163 262144 k := fun k hk => by by_cases e : k = (n4 : Int).toNat; (focus (subst e; exact RPs.at (hpG163.1 P ((hFBG4 (n4 : Int).toNat (by omega)).rps hv155 rfl)) (by omega))); exact TLP.sm (hTLG4 k hk) hXG163 hfG163 (by show ¬ _; omega) (hpG163.2 k e)
            have hFIG163 : ∀ k : Nat, k < 6 → FIP P G163 262144 k := fun k hk => FIP.sm (hFIG4 k hk) hXG163 hfG163 (by show ¬ _; omega) (congrFun (hfG163 262149 (KX.al (KX.trans hXG2 hXG4) (kne k262149 (by decide))) (by show ¬ _; omega)) k)
            have hFAG163 : FPa P G163 A := (hFAG4).wx hXG163 hfG163 ⟨KX.al (KX.trans hXG2 hXG4) (kne kA3 (by decide)), KX.al (KX.trans hXG2 hXG4) (kne kA4 (by decide))⟩ (by show ¬ _; omega) (by show ¬ _; omega) (fun p hp => by show ¬ _; omega)
            have hFBG163 : FPa P G163 B := (hFBG4).wx hXG163 hfG163 ⟨KX.al (KX.trans hXG2 hXG4) (kne kB3 (by decide)), KX.al (KX.trans hXG2 hXG4) (kne kB4 (by decide))⟩ (by show ¬ _; omega) (by show ¬ _; omega) (fun p hp => by show ¬ _; omega)
            have hFfG163 : FPa P G163 f := (hFfG4).wx hXG163 hfG163 ⟨KX.al (KX.trans hXG2 hXG4) (kne kf3 (by decide)), KX.al (KX.trans hXG2 hXG4) (kne kf4 (by decide))⟩ (by show ¬ _; omega) (by show ¬ _; omega) (fun p hp => by show ¬ _; omega)
            show WP kX2_link X 72 [some (2, ((327682 : Nat) : Int)), some (2, ((A : Nat) : Int)), some (2, ((B : Nat) : Int)), some (0, s), some (2, ((f : Nat) : Int)), some (0, n4), some (2, ((B : Nat) : Int)), none] [] G163
            refine s_iinc dX2_link_72 (v := n4) rfl (by omega) (by decide) (lv' := [some (2, ((327682 : Nat) : Int)), some (2, ((A : Nat) : Int)), some (2, ((B : Nat) : Int)), some (0, s), some (2, ((f : Nat) : Int)), some (0, n4 + 1), some (2, ((B : Nat) : Int)), none]) rfl ?_
            refine s_goto (tgt := 10) dX2_link_75 (by decide) ?_
            refine s_mask [true, true, true, true, true, true, false, false] (lv' := [some (2, ((327682 : Nat) : Int)), some (2, ((A : Nat) : Int)), some (2, ((B : Nat) : Int)), some (0, s), some (2, ((f : Nat) : Int)), some (0, n4 + 1), none, none]) rfl ?_
            exact ih4 (n4 + 1) G163 hCG163 (KX.trans hXG4 hXG163) hFG163 (⟨(by omega), (by exact hTLG163), (by exact hFIG163), (by exact hFAG163), (by exact hFBG163), (by exact hFfG163)⟩) (by omega)
        · -- 25 to 28
          refine s_aload_n dX2_link_28 rfl (Int.natCast_nonneg _) ?_
          refine s_goto (tgt := 33) dX2_link_29 (by decide) ?_
          refine s_astore (Int.natCast_nonneg _) dX2_link_33 (by decide) (lv' := [some (2, ((327682 : Nat) : Int)), some (2, ((A : Nat) : Int)), some (2, ((B : Nat) : Int)), some (0, s), some (2, ((f : Nat) : Int)), some (0, n4), some (2, ((A : Nat) : Int)), none]) rfl ?_
          refine s_aload dX2_link_35 rfl (Int.natCast_nonneg _) ?_
          have hv166 : gS G4 A 1 = ((A + 1 : Nat) : Int) := by have h9 : (gS G4 A 1) = (((A % 1048576) + 1 : Nat) : Int) := hCG4.1.v (j := 1) (by rw [cde_n (by omega) (by omega)]; omega : cde A = 101) al139 (by rw [hk138]; exact Nat.le_of_ble_eq_true rfl); omega
          refine s_getf (ci := 1) (k := 1) (C := RX0) (T := TX0) (N := 7) (n := A) (L := 0) (t := 2) dX2_link_37 rfl wi_65 m_573 (Nat.le_of_ble_eq_true rfl) rfl rfl hk138 hv166 ?_
          refine s_iload dX2_link_40 rfl ?_
          refine s_iald dX2_link_42 hk141 (by omega) (by omega) rfl ?_
          refine s_iconst dX2_link_43 (by decide) ?_
          refine s_icmp_ne (tgt := 72) dX2_link_44 (by decide) (fun c167 => ?_) (fun c167 => ?_)
          · -- 44 to 72
            refine s_iinc dX2_link_72 (v := n4) rfl (by omega) (by decide) (lv' := [some (2, ((327682 : Nat) : Int)), some (2, ((A : Nat) : Int)), some (2, ((B : Nat) : Int)), some (0, s), some (2, ((f : Nat) : Int)), some (0, n4 + 1), some (2, ((A : Nat) : Int)), none]) rfl ?_
            refine s_goto (tgt := 10) dX2_link_75 (by decide) ?_
            refine s_mask [true, true, true, true, true, true, false, false] (lv' := [some (2, ((327682 : Nat) : Int)), some (2, ((A : Nat) : Int)), some (2, ((B : Nat) : Int)), some (0, s), some (2, ((f : Nat) : Int)), some (0, n4 + 1), none, none]) rfl ?_
            exact ih4 (n4 + 1) G4 hCG4 hXG4 hFG4 (⟨(by omega), (by exact hTLG4), (by exact hFIG4), (by exact hFAG4), (by exact hFBG4), (by exact hFfG4)⟩) (by omega)
          · -- 44 to 47
            refine s_aload_n dX2_link_47 rfl (Int.natCast_nonneg _) ?_
            have hk168 : gK G4 (327682) = (11, 0) := ((hXG4).k ((hXG2).k k327682 (by decide)) (by decide))
            refine s_alv (327682) (by simp) (fun al169 => ?_)
            have hv170 : gS G4 327682 2 = ((262144 : Nat) : Int) := by have h9 : (gS G4 327682 2) = 262144 := hCG4.1.v (j := 2) (by decide : cde 327682 = 502) al169 (by rw [hk168]; exact Nat.le_of_ble_eq_true rfl); omega
            refine s_getf (ci := 3) (k := 2) (C := RX2) (T := TX2) (N := 8) (n := 327682) (L := 0) (t := 2) dX2_link_48 rfl wi_70 m_577 (Nat.le_of_ble_eq_true rfl) rfl rfl hk168 hv170 ?_
            refine s_iload dX2_link_51 rfl ?_
            refine s_aload dX2_link_53 rfl (Int.natCast_nonneg _) ?_
            have hv171 : gS G4 A 3 = ((A + 3 : Nat) : Int) := by have h9 : (gS G4 A 3) = (((A % 1048576) + 3 : Nat) : Int) := hCG4.1.v (j := 3) (by rw [cde_n (by omega) (by omega)]; omega : cde A = 101) al139 (by rw [hk138]; exact Nat.le_of_ble_eq_true rfl); omega
            refine s_getf (ci := 1) (k := 3) (C := RX0) (T := TX0) (N := 7) (n := A) (L := 0) (t := 2) dX2_link_55 rfl wi_65 m_574 (Nat.le_of_ble_eq_true rfl) rfl rfl hk138 hv171 ?_
            refine s_iload dX2_link_58 rfl ?_
            have hk172 : gK G4 (A + 3) = (4, 16) := ((hXG4).k ((hXG2).k kA3 (by decide)) (by decide))
            refine s_alv (A + 3) (by simp) (fun al173 => ?_)
            have hv175b : 0 ≤ (gS G4 (A + 3) (n4 : Int).toNat) ∧ (gS G4 (A + 3) (n4 : Int).toNat) % 1048576 = ((((A + 3) % 1048576) + 4 + ((n4 : Int).toNat) : Nat) : Int) := hCG4.1.v (j := (n4 : Int).toNat) (by rw [cde_n (by omega) (by omega)]; omega : cde (A + 3) = 104) al173 (by rw [hk172]; show (n4 : Int).toNat < 16; omega)
            obtain ⟨q174, hv175⟩ : ∃ q : Nat, gS G4 (A + 3) (n4 : Int).toNat = (q : Int) := ⟨(gS G4 (A + 3) (n4 : Int).toNat).toNat, by omega⟩
            rw [hv175] at hv175b
            refine s_aald4 dX2_link_60 hk172 (by omega) (by omega) hv175 ?_
            refine s_aload dX2_link_61 rfl (Int.natCast_nonneg _) ?_
            have hv176 : gS G4 A 4 = ((A + 4 : Nat) : Int) := by have h9 : (gS G4 A 4) = (((A % 1048576) + 4 : Nat) : Int) := hCG4.1.v (j := 4) (by rw [cde_n (by omega) (by omega)]; omega : cde A = 101) al139 (by rw [hk138]; exact Nat.le_of_ble_eq_true rfl); omega
            refine s_getf (ci := 1) (k := 4) (C := RX0) (T := TX0) (N := 7) (n := A) (L := 0) (t := 2) dX2_link_63 rfl wi_65 m_575 (Nat.le_of_ble_eq_true rfl) rfl rfl hk138 hv176 ?_
            refine s_iload dX2_link_66 rfl ?_
            have hk177 : gK G4 (A + 4) = (1, 16) := ((hXG4).k ((hXG2).k kA4 (by decide)) (by decide))
            refine s_alv (A + 4) (by simp) (fun al178 => ?_)
            have hv179 : 0 ≤ (gS G4 (A + 4) (n4 : Int).toNat) ∧ (gS G4 (A + 4) (n4 : Int).toNat) ≤ 200 := hCG4.1.v (j := (n4 : Int).toNat) (by rw [cde_n (by omega) (by omega)]; omega : cde (A + 4) = 105) al178 (by rw [hk177]; show (n4 : Int).toNat < 16; omega)
            refine s_iald dX2_link_68 hk177 (by omega) (by omega) rfl ?_
            refine s_alv (q174) (by simp) (fun al180 => ?_)
            obtain ⟨L182, hk181, hL182a, hL182b⟩ := hCG4.1.kr (show 108 ≤ cde q174 ∧ cde q174 < 124 from by rw [cde_n (by omega) (by omega)]; omega) al180
            have hk185 : gK G4 (262144) = (10, 0) := ((hXG4).k ((hXG2).k k262144 (by decide)) (by decide))
            refine s_callV (as := [(0, n4), (2, ((q174 : Nat) : Int)), (0, gS G4 (A + 4) ((n4 : Int).toNat))]) (rest := []) (n := 262144) (ci := 2) gX1_tell dX2_link_69 m_1310 m_919 m_1494 m_712 m_261 ⟨by decide, by decide, show (parseMethodDescriptor yX1_tell.desc).map (fun d => d.parameters.length) = some 3 from by decide +kernel⟩ (Nat.le_of_ble_eq_true rfl) (by rw [hcf]; exact Nat.le_of_ble_eq_true rfl) hk185 rfl rfl (Nat.le_of_ble_eq_true rfl) ⟨262144, n4, q174, L182, gS G4 (A + 4) ((n4 : Int).toNat), a, b, rfl, hCG4, hab, (by first | assumption | omega), (by first | assumption | omega), hk181, (by first | assumption | omega), (by first | assumption | omega), fun G183 hCG183 hXG183 hfG183 hpG183 => ?_⟩
            have hFG183 : WX (fun x => (262144 ≤ x ∧ x < 262272) ∨ x = 327691 ∨ x = 327692 ∨ (f + 1 ≤ x ∧ x ≤ f + 22)) G G183 := WX.trans hFG4 (KX.trans hXG2 hXG4) (WX.mono hfG183 (fun x hx => by omega))
            have hTLG183 : ∀ k : Nat, k < 6 → TLP P G183 262144 k := fun k hk => by by_cases e : k = (n4 : Int).toNat; (focus (subst e; exact RPs.at (hpG183.1 P ((hFAG4 (n4 : Int).toNat (by omega)).rps hv175 rfl)) (by omega))); exact TLP.sm (hTLG4 k hk) hXG183 hfG183 (by show ¬ _; omega) (hpG183.2 k e)
            have hFIG183 : ∀ k : Nat, k < 6 → FIP P G183 262144 k := fun k hk => FIP.sm (hFIG4 k hk) hXG183 hfG183 (by show ¬ _; omega) (congrFun (hfG183 262149 (KX.al (KX.trans hXG2 hXG4) (kne k262149 (by decide))) (by show ¬ _; omega)) k)
            have hFAG183 : FPa P G183 A := (hFAG4).wx hXG183 hfG183 ⟨KX.al (KX.trans hXG2 hXG4) (kne kA3 (by decide)), KX.al (KX.trans hXG2 hXG4) (kne kA4 (by decide))⟩ (by show ¬ _; omega) (by show ¬ _; omega) (fun p hp => by show ¬ _; omega)
            have hFBG183 : FPa P G183 B := (hFBG4).wx hXG183 hfG183 ⟨KX.al (KX.trans hXG2 hXG4) (kne kB3 (by decide)), KX.al (KX.trans hXG2 hXG4) (kne kB4 (by decide))⟩ (by show ¬ _; omega) (by show ¬ _; omega) (fun p hp => by show ¬ _; omega)
            have hFfG183 : FPa P G183 f := (hFfG4).wx hXG183 hfG183 ⟨KX.al (KX.trans hXG2 hXG4) (kne kf3 (by decide)), KX.al (KX.trans hXG2 hXG4) (kne kf4 (by decide))⟩ (by show ¬ _; omega) (by show ¬ _; omega) (fun p hp => by show ¬ _; omega)
            show WP kX2_link X 72 [some (2, ((327682 : Nat) : Int)), some (2, ((A : Nat) : Int)), some (2, ((B : Nat) : Int)), some (0, s), some (2, ((f : Nat) : Int)), some (0, n4), some (2, ((A : Nat) : Int)), none] [] G183
            refine s_iinc dX2_link_72 (v := n4) rfl (by omega) (by decide) (lv' := [some (2, ((327682 : Nat) : Int)), some (2, ((A : Nat) : Int)), some (2, ((B : Nat) : Int)), some (0, s), some (2, ((f : Nat) : Int)), some (0, n4 + 1), some (2, ((A : Nat) : Int)), none]) rfl ?_
            refine s_goto (tgt := 10) dX2_link_75 (by decide) ?_
            refine s_mask [true, true, true, true, true, true, false, false] (lv' := [some (2, ((327682 : Nat) : Int)), some (2, ((A : Nat) : Int)), some (2, ((B : Nat) : Int)), some (0, s), some (2, ((f : Nat) : Int)), some (0, n4 + 1), none, none]) rfl ?_
            exact ih4 (n4 + 1) G183 hCG183 (KX.trans hXG4 hXG183) hFG183 (⟨(by omega), (by exact hTLG183), (by exact hFIG183), (by exact hFAG183), (by exact hFBG183), (by exact hFfG183)⟩) (by omega)
  exact L4 _ 0 G2 hCG2 KX.rf hFG2 (⟨(by omega), (by exact hTLG2), (by exact hFIG2), (by exact hFAG2), (by exact hFBG2), (by exact hFfG2)⟩) (Nat.lt_succ_self _)
