/-! THE CLASS: its room -/
def SH (h : Nat × Nat) : Prop := (h.1 < 1048576 ∧ ((65536 ≤ h.1 ∧ h.1 < 131072 ∧ ((h.1 % 64 = 4 ∧ h.2 < 16) ∨ (h.1 % 64 = 24 ∧ h.2 = 0) ∨ (h.1 % 64 = 26 ∧ h.2 = 0))) ∨ (h.1 = 327683 ∧ h.2 = 0) ∨ (h.1 = 327684 ∧ h.2 = 3) ∨ ((h.1 = 196628 ∨ h.1 = 196692) ∧ h.2 < 4)))
theorem HL_sh : ∀ h ∈ HL, SH h := by
  intro h hh
  unfold HL at hh
  unfold SH
  rcases List.mem_append.mp hh with hh | hh
  · obtain ⟨i, hi, hh⟩ := List.mem_flatMap.mp hh
    have hi9 := List.mem_range.mp hi
    rcases List.mem_append.mp hh with hh | hh
    · obtain ⟨p, hp, rfl⟩ := List.mem_map.mp hh
      have hp9 := List.mem_range.mp hp
      dsimp only
      omega
    · rcases List.mem_cons.mp hh with rfl | hh
      · dsimp only; omega
      · rcases List.mem_cons.mp hh with rfl | hh
        · dsimp only; omega
        · exact absurd hh List.not_mem_nil
  · rcases List.mem_append.mp hh with hh | hh
    · obtain ⟨p, hp, rfl⟩ := List.mem_map.mp hh
      have hp9 := List.mem_range.mp hp
      dsimp only
      omega
    · simp only [List.mem_cons, List.not_mem_nil, or_false] at hh
      rcases hh with rfl | rfl | rfl | rfl | rfl | rfl | rfl | rfl | rfl | rfl | rfl <;> dsimp only <;> omega
theorem HL_face {i p : Nat} (hi : i ≤ 40) (hp : p < 16) : (65540 + 64 * i, p) ∈ HL := by
  unfold HL
  by_cases h : i < 40
  · exact List.mem_append_left _ (List.mem_flatMap.mpr ⟨i, List.mem_range.mpr h, List.mem_append_left _ (List.mem_map.mpr ⟨p, List.mem_range.mpr hp, rfl⟩)⟩)
  · have e : i = 40 := by omega
    subst e
    exact List.mem_append_right _ (List.mem_append_left _ (List.mem_map.mpr ⟨p, List.mem_range.mpr hp, rfl⟩))
theorem HL_row {x : Nat} (h : (65536 ≤ x ∧ x < 68096 ∧ (x % 64 = 24 ∨ x % 64 = 26)) ∨ x = 68184) : (x, 0) ∈ HL := by
  unfold HL
  rcases h with ⟨h1, h2, h3⟩ | rfl
  · refine List.mem_append_left _ (List.mem_flatMap.mpr ⟨(x - 65536) / 64, List.mem_range.mpr (by omega), List.mem_append_right _ ?_⟩)
    rcases h3 with h3 | h3
    · refine List.mem_cons.mpr (Or.inl ?_)
      rw [show 65560 + 64 * ((x - 65536) / 64) = x by omega]
    · refine List.mem_cons.mpr (Or.inr (List.mem_cons.mpr (Or.inl ?_)))
      rw [show 65562 + 64 * ((x - 65536) / 64) = x by omega]
  · exact List.mem_append_right _ (List.mem_append_right _ List.mem_cons_self)
theorem cde_s9 {y : Nat} (h : 327680 ≤ y) (h2 : y < 393216) : cde y = 500 + (y - 327680) := by
  rw [cde_s (by omega) (by omega)]; omega
theorem TI.ln {G : LG} (h : TI G) {m : Nat × Nat} (hm : SH m) : ln G m ≤ cpp m := by
  obtain ⟨x, j⟩ := m
  unfold _root_.Jvm.Pilot.CMixinUnitsLaw_law_r3776_235641.ln
  by_cases c1 : (gK G x).1 = 0
  · rw [if_pos c1]; exact Nat.zero_le _
  rw [if_neg c1]
  by_cases c2 : gS G x j < 0
  · rw [if_pos c2]; exact Nat.zero_le _
  rw [if_neg c2]
  by_cases c3 : (gK G (gS G x j).toNat).1 = 0
  · rw [if_pos c3]; exact Nat.zero_le _
  rw [if_neg c3]
  obtain ⟨hk, hv⟩ := h x c1
  have ht := (h _ c3).1
  unfold SH at hm
  dsimp only at hm
  unfold cpp
  dsimp only
  obtain ⟨hx, ⟨h1, h2, h3⟩ | ⟨rfl, rfl⟩ | ⟨rfl, rfl⟩ | ⟨h1, h2⟩⟩ := hm
  · have e := cde_n (x := x) (by omega) (by omega)
    have ex : x % 1048576 = x := Nat.mod_eq_of_lt hx
    rcases h3 with ⟨h3, h4⟩ | ⟨h3, rfl⟩ | ⟨h3, rfl⟩
    · rw [h3] at e
      rw [e] at hk hv ⊢
      have hv9 : 0 ≤ gS G x j ∧ gS G x j % 1048576 = ((x % 1048576 + 4 + j : Nat) : Int) := hv j (by have hk9 : gK G x = (4, 16) := hk; rw [hk9]; exact h4)
      rw [cde_n (by omega) (by omega), show (gS G x j).toNat % 64 = 8 + j by omega] at ht
      have h5 : j = 0 ∨ j = 1 ∨ j = 2 ∨ j = 3 ∨ j = 4 ∨ j = 5 ∨ j = 6 ∨ j = 7 ∨ j = 8 ∨ j = 9 ∨ j = 10 ∨ j = 11 ∨ j = 12 ∨ j = 13 ∨ j = 14 ∨ j = 15 := by omega
      have ht9 : ∃ L, gK G (gS G x j).toNat = (1, L) ∧ 4 ≤ L ∧ L ≤ 400 := by
        rcases h5 with rfl | rfl | rfl | rfl | rfl | rfl | rfl | rfl | rfl | rfl | rfl | rfl | rfl | rfl | rfl | rfl <;> exact ht
      obtain ⟨L, e9, -, h9⟩ := ht9
      rw [e9]; exact h9
    · rw [h3] at e
      rw [e] at hk hv ⊢
      have hv9 : 0 ≤ gS G x 0 ∧ gS G x 0 % 1048576 = ((x % 1048576 + 1 : Nat) : Int) := hv 0 (by have hk9 : gK G x = (15, 0) := hk; rw [hk9]; exact Nat.zero_lt_two)
      rw [cde_n (by omega) (by omega), show (gS G x 0).toNat % 64 = 25 by omega] at ht
      obtain ⟨L, e9, -, h9⟩ : ∃ L, gK G (gS G x 0).toNat = (1, L) ∧ 16 ≤ L ∧ L ≤ 19622 := ht
      rw [e9]; exact h9
    · rw [h3] at e
      rw [e] at hk hv ⊢
      have hv9 : 0 ≤ gS G x 0 ∧ gS G x 0 % 1048576 = ((x % 1048576 + 1 : Nat) : Int) := hv 0 (by have hk9 : gK G x = (15, 0) := hk; rw [hk9]; exact Nat.zero_lt_two)
      rw [cde_n (by omega) (by omega), show (gS G x 0).toNat % 64 = 27 by omega] at ht
      obtain ⟨L, e9, -, h9⟩ : ∃ L, gK G (gS G x 0).toNat = (1, L) ∧ 16 ≤ L ∧ L ≤ 6540 := ht
      rw [e9]; exact h9
  · have hv9 : 0 ≤ gS G 327683 0 ∧ gS G 327683 0 % 1048576 = 327687 := hv 0 (by have hk9 : gK G 327683 = (16, 0) := hk; rw [hk9]; decide)
    rw [cde_mod (y := 327687) (by omega) (by omega)] at ht
    obtain ⟨L, e9, -, h9⟩ : ∃ L, gK G (gS G 327683 0).toNat = (1, L) ∧ 320 ≤ L ∧ L ≤ 810000 := ht
    rw [e9]; exact h9
  · have hv9 : 0 ≤ gS G 327684 3 ∧ gS G 327684 3 % 1048576 = 327690 := hv 3 (by have hk9 : gK G 327684 = (17, 0) := hk; rw [hk9]; decide)
    rw [cde_mod (y := 327690) (by omega) (by omega)] at ht
    obtain ⟨L, e9, -, h9⟩ : ∃ L, gK G (gS G 327684 3).toNat = (1, L) ∧ 64 ≤ L ∧ L ≤ 2412 := ht
    rw [e9]; exact h9
  · have e : cde x = 320 := by rcases h1 with rfl | rfl <;> decide
    rw [e] at hk hv ⊢
    have hk9 : gK G x = (18, 0) := hk
    have h5 : j = 0 ∨ j = 1 ∨ j = 2 ∨ j = 3 := by omega
    have hj : j < lw_len (gK G x) := by rw [hk9]; show j < 5; omega
    have hv9 : 0 ≤ gS G x j ∧ gS G x j % 1048576 = ((x % 1048576 + 1 + j : Nat) : Int) := by
      have := hv j hj
      rcases h5 with rfl | rfl | rfl | rfl <;> exact this
    rw [cde_m (by omega) (by omega), show (gS G x j).toNat % 64 = 21 + j by omega] at ht
    rcases h5 with rfl | rfl | rfl | rfl <;> (obtain ⟨L, e9, -, h9⟩ := ht; rw [e9]; exact h9)
theorem log2_mono {a b : Nat} (h : a ≤ b) : Nat.log2 a ≤ Nat.log2 b := by
  by_cases ha : a = 0
  · subst ha; exact Nat.zero_le _
  · exact (Nat.le_log2 (by omega)).mpr (Nat.le_trans (Nat.log2_self_le ha) h)
theorem wS_mono (h : Nat × Nat) {a b : Nat} (q : a ≤ b) : wS h a ≤ wS h b := by unfold wS; split <;> split <;> omega
theorem wC_mono (h : Nat × Nat) {a b : Nat} (q : a ≤ b) : wC h a ≤ wC h b := by
  have := log2_mono q
  unfold wC; split <;> split <;> omega
theorem cap_s : (HL.map (fun h => wS h (cpp h))).sum ≤ 4424000 := by decide +kernel
theorem cap_c : (HL.map (fun h => wC h (cpp h))).sum ≤ 8000 := by decide +kernel
theorem TI.cap {G : LG} (h : TI G) : Sm wS G ≤ 4424000 ∧ Sm wC G ≤ 8000 :=
  ⟨Nat.le_trans (sum_le (fun x hx => wS_mono x (h.ln (HL_sh x hx)))) cap_s, Nat.le_trans (sum_le (fun x hx => wC_mono x (h.ln (HL_sh x hx)))) cap_c⟩
theorem CI.room {a b : Nat} {G : LG} (h : CI a b G) : gs G ≤ a + 4424000 ∧ gc G ≤ b + 8000 := by
  have h1 := h.1.cap
  have h2 := h.2.2.2.2.2.2.2.2.2.2
  exact ⟨Nat.le_trans h2.1 (Nat.add_le_add_left h1.1 _), Nat.le_trans h2.2 (Nat.add_le_add_left h1.2 _)⟩
theorem ln_gnew {G : LG} {n k L sl : Nat} {d : Nat → Int} (hn : (gK G n).1 = 0) {h : Nat × Nat} (hne : h.1 ≠ n) : ln G h ≤ ln (gnew G n k L sl d) h := by
  unfold ln
  rw [gnew_Kne _ _ _ _ _ hne, gnew_ne _ _ _ _ _ hne]
  by_cases c1 : (gK G h.1).1 = 0
  · rw [if_pos c1]; exact Nat.zero_le _
  rw [if_neg c1, if_neg c1]
  by_cases c2 : gS G h.1 h.2 < 0
  · rw [if_pos c2]; exact Nat.zero_le _
  rw [if_neg c2, if_neg c2]
  by_cases c3 : (gK G (gS G h.1 h.2).toNat).1 = 0
  · rw [if_pos c3]; exact Nat.zero_le _
  · have c4 : (gS G h.1 h.2).toNat ≠ n := fun q => c3 (by rw [q]; exact hn)
    rw [gnew_Kne _ _ _ _ _ c4]; exact Nat.le_refl _
/-- a new cell that grows, or that nobody holds -/
theorem RLC.new {a b : Nat} {G : LG} {n k L sl : Nat} {d : Nat → Int} (h : RLC a b G) (hn : n / 1048576 = 1 + gc G) (hcn : ¬ (cde n = 124 ∨ cde n = 126)) : RLC (a + sl) (b + 1) (gnew G n k L sl d) := by
  obtain ⟨h1, h2, h3, h4, h5, h6, h8, h9, hd, ha⟩ := h
  have hn0 : (gK G n).1 = 0 := hd.1 n (by omega)
  have fx : ∀ x, x < 1048576 → x ≠ n := fun x hx => by omega
  have sx : ∀ x, x < 1048576 → gS (gnew G n k L sl d) x = gS G x := fun x hx => gnew_ne _ _ _ _ _ (fx x hx)
  have kx : ∀ x, x < 1048576 → gK (gnew G n k L sl d) x = gK G x := fun x hx => gnew_Kne _ _ _ _ _ (fx x hx)
  have al : ∀ x, (gK G x).1 ≠ 0 → x ≠ n := fun x hx q => hx (by rw [q]; exact hn0)
  have ks : ∀ {x t M}, gK G x = (t, M) → t ≠ 0 → gK (gnew G n k L sl d) x = (t, M) ∧ gS (gnew G n k L sl d) x = gS G x := fun {x t M} e ht => by
    have hx := al x (by rw [e]; exact ht)
    exact ⟨by rw [gnew_Kne _ _ _ _ _ hx]; exact e, gnew_ne _ _ _ _ _ hx⟩
  have s2 := sx 327683 (by decide)
  have s3 := sx 327684 (by decide)
  have s4 := sx 327685 (by decide)
  have s5 := sx 327681 (by decide)
  have s6 := sx 327688 (by decide)
  have s7 := sx 327701 (by decide)
  have s8 := sx 327702 (by decide)
  have s9 := sx 327703 (by decide)
  have s10 := sx 327704 (by decide)
  have s11 := sx 327705 (by decide)
  have s12 := sx 327707 (by decide)
  have s13 := sx 327710 (by decide)
  refine ⟨fun x hx hx2 => ?_, ?_, ?_, ?_, fun x hx => ?_, ?_, ⟨fun j x hj hk => ?_, ?_⟩, fun i hi => ?_, ⟨fun x hx => ?_, fun i x hi hi2 hx => ?_⟩, ?_, ?_⟩
  · have hxn : x ≠ n := fun q => hcn (by rw [← q]; exact hx2)
    rw [gnew_Kne _ _ _ _ _ hxn] at hx
    obtain ⟨q, M, a1, a2, a3, a4⟩ := h1 x hx hx2
    obtain ⟨k1, k2⟩ := ks a3 (by decide)
    refine ⟨q, M, ?_⟩
    rw [gnew_ne _ _ _ _ _ hxn]; exact ⟨a1, a2, k1, a4⟩
  · obtain ⟨q, M, a1, a2, a3, a4⟩ := h2
    obtain ⟨k1, k2⟩ := ks a3 (by decide)
    refine ⟨q, M, ?_⟩
    rw [s2, s6, k2]; exact ⟨a1, a2, k1, a4⟩
  · obtain ⟨q, M, a1, a2, a3, a4⟩ := h3
    obtain ⟨k1, k2⟩ := ks a3 (by decide)
    refine ⟨q, M, ?_⟩
    rw [s3]; exact ⟨a1, a2, k1, a4⟩
  · obtain ⟨q, M, a1, a2, a3, a4⟩ := h4
    obtain ⟨k1, k2⟩ := ks a3 (by decide)
    refine ⟨q, M, ?_⟩
    rw [s4, k2]; exact ⟨a1, a2, k1, a4⟩
  · obtain ⟨q0, q1, q2, q3, L0, L1, L2, L3, B, a1, a2, ⟨b0, b1, b2, b3⟩, a4⟩ := h5 x hx
    have sk := sx x (by rcases hx with rfl | rfl <;> decide)
    have sA := sx (x - 13) (by rcases hx with rfl | rfl <;> decide)
    have sB := sx (x - 5) (by rcases hx with rfl | rfl <;> decide)
    have t0 := ks b0 (by decide)
    have t1 := ks b1 (by decide)
    have t2 := ks b2 (by decide)
    have t3 := ks b3 (by decide)
    refine ⟨q0, q1, q2, q3, L0, L1, L2, L3, B, ?_⟩
    rw [sk, t0.2, t1.2, sA, sB]; exact ⟨a1, a2, ⟨t0.1, t1.1, t2.1, t3.1⟩, a4⟩
  · unfold E6
    rw [s5, s7, s8, s9, s10, s11, s12]; exact h6
  · rw [sx (131072 + 64 * j + 2) (by omega), sx (131072 + 64 * j + 3) (by omega), s5]
    exact h8.1 j x hj hk
  · rw [s5, sx 327697 (by decide)]; exact h8.2
  · rw [s4] at hi
    obtain ⟨pa, a1, a2, a3, a4, a5⟩ := h9 i hi
    have so := ks a3.2 (by decide)
    have sp := ks a4 (by decide)
    refine ⟨pa, ?_⟩
    rw [so.2, sp.2, s5, s13]; exact ⟨a1, a2, ⟨a3.1, so.1⟩, sp.1, a5⟩
  · have hx9 : 1 + (gc G + 1) ≤ x / 1048576 := hx
    rw [gnew_Kne _ _ _ _ _ (fun q => by rw [q] at hx9; omega)]; exact hd.1 x (by omega)
  · rw [s4] at hi
    rw [kx _ (by omega)]; exact hd.2 i x hi hi2 hx
  · have h7 : Sm wS G ≤ Sm wS (gnew G n k L sl d) := sum_le (fun x hx => wS_mono x (ln_gnew hn0 (fx x.1 (HL_sh x hx).1)))
    show gs G + sl ≤ _
    have := ha.1; omega
  · have h7 : Sm wC G ≤ Sm wC (gnew G n k L sl d) := sum_le (fun x hx => wC_mono x (ln_gnew hn0 (fx x.1 (HL_sh x hx).1)))
    show gc G + 1 ≤ _
    have := ha.2; omega
theorem CI.new {a b : Nat} {G : LG} {n k L sl : Nat} {d : Nat → Int} (h : CI a b G) (hn : n / 1048576 = 1 + gc G) (hcn : ¬ (cde n = 124 ∨ cde n = 126)) (hk : tk (cde n) (k, L)) (hv : ∀ j, j < lw_len (k, L) → tv (cde n) (n % 1048576) j (d j)) : CI (a + sl) (b + 1) (gnew G n k L sl d) := ⟨h.1.new hk hv, h.2.new hn hcn⟩
theorem CI.skip {a b : Nat} {G : LG} {x y : Nat} (h : CI a b G) : CI (a + y) (b + x) (gskip G x y) := by
  obtain ⟨ht, h1, h2, h3, h4, h5, h6, h8, h9, hd, ha⟩ := h
  refine ⟨ht, h1, h2, h3, h4, h5, h6, h8, h9, ⟨fun z hz => hd.1 z ?_, hd.2⟩, ?_, ?_⟩
  · have : 1 + (gc G + x) ≤ z / 1048576 := hz
    omega
  · show gs G + y ≤ a + y + Sm wS G
    have := ha.1; omega
  · show gc G + x ≤ b + x + Sm wC G
    have := ha.2; omega
theorem CI.mono {a b c d : Nat} {G : LG} (h : CI a b G) (h1 : a ≤ c) (h2 : b ≤ d) : CI c d G := by
  obtain ⟨ht, h3, h4, h5, h6, h7, h8, h9, h10, hd, ha⟩ := h
  exact ⟨ht, h3, h4, h5, h6, h7, h8, h9, h10, hd, by have := ha.1; show gs G ≤ c + _; omega, by have := ha.2; show gc G ≤ d + _; omega⟩
/-- a row that is held gives way to one at least twice as long -/
theorem AC.hold {a b : Nat} {G : LG} {x j q t L n k M : Nat} {d : Nat → Int} (h : AC a b G) (hm : (x, j) ∈ HL) (hx : (gK G x).1 ≠ 0) (hq : gS G x j = (q : Int)) (hk : gK G q = (t, L)) (ht : t ≠ 0) (hk9 : k ≠ 0) (hL : 1 ≤ L) (hM : 2 * L ≤ M ∨ (x = 327684 ∧ L < 2412 ∧ 2412 ≤ M ∧ M ≤ 2412)) (hLM : L ≤ M) (hn : (gK G n).1 = 0) (hn2 : 1048576 ≤ n) : AC a b (gset (gnew G n k M M d) x j (n : Int)) := by
  have hx9 := (HL_sh _ hm).1
  have hxn : x ≠ n := fun e => by have : x < 1048576 := hx9; omega
  have hqn : q ≠ n := fun e => ht (by rw [e] at hk; rw [hk] at hn; exact hn)
  have l0 : ln G (x, j) = L := by
    unfold ln
    dsimp only
    rw [if_neg hx, hq, if_neg (by omega), Int.toNat_natCast, hk, if_neg ht]
  have l1 : ln (gset (gnew G n k M M d) x j (n : Int)) (x, j) = M := by
    unfold ln
    dsimp only
    rw [gset_K, gset_at, gnew_Kne _ _ _ _ _ hxn, if_neg hx, if_neg (by omega), Int.toNat_natCast, gnew_K, if_neg hk9]
  have l2 : ∀ y ∈ HL, y ≠ (x, j) → ln G y ≤ ln (gset (gnew G n k M M d) x j (n : Int)) y := fun y hy hne => by
    have h1 := ln_gnew (k := k) (L := M) (sl := M) (d := d) hn (h := y) (fun e => by have : y.1 < 1048576 := (HL_sh y hy).1; omega)
    have h2 : ln (gset (gnew G n k M M d) x j (n : Int)) y = ln (gnew G n k M M d) y := by
      unfold ln
      rw [gset_K, gset_ne _ _ (fun e => hne (Prod.ext e.1 e.2))]
    rw [h2]; exact h1
  have s1 := sum_one_le HL_nd hm (u := fun y => wS y (ln G y)) (w := fun y => wS y (ln (gset (gnew G n k M M d) x j (n : Int)) y)) (fun y hy hne => wS_mono y (l2 y hy hne))
  have s2 := sum_one_le HL_nd hm (u := fun y => wC y (ln G y)) (w := fun y => wC y (ln (gset (gnew G n k M M d) x j (n : Int)) y)) (fun y hy hne => wC_mono y (l2 y hy hne))
  rw [l0, l1] at s1 s2
  have w1 : wS (x, j) L + M ≤ wS (x, j) M := by
    unfold wS
    dsimp only
    rcases hM with hM | ⟨e1, e2, e3, e4⟩
    · split <;> split <;> omega
    · rw [if_neg (by omega), if_pos ⟨e1, e3⟩]; omega
  have w2 : wC (x, j) L + 1 ≤ wC (x, j) M := by
    unfold wC
    dsimp only
    have g1 := log2_mono hLM
    rcases hM with hM | ⟨e1, e2, e3, e4⟩
    · have g2 : Nat.log2 (2 * L) = Nat.log2 L + 1 := Nat.log2_two_mul (by omega)
      have g3 := log2_mono hM
      split <;> split <;> omega
    · rw [if_neg (by omega), if_pos ⟨e1, e3⟩]; omega
  refine ⟨?_, ?_⟩
  · show gs G + M ≤ a + Sm wS (gset (gnew G n k M M d) x j (n : Int))
    have := h.1
    unfold Sm at this ⊢
    omega
  · show gc G + 1 ≤ b + Sm wC (gset (gnew G n k M M d) x j (n : Int))
    have := h.2
    unfold Sm at this ⊢
    omega
