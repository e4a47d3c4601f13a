/-! ROWS OF ROWS, NEW -/
theorem sum_range {N K : Nat} {f : Nat → Nat} (h : ∀ i, i < N → f i = K) : ((List.range N).map f).sum = N * K := by
  induction N with
  | zero => simp
  | succ N ih =>
    rw [List.range_succ, List.map_append, List.sum_append, ih (fun i hi => h i (by omega))]
    simp only [List.map_cons, List.map_nil, List.sum_cons, List.sum_nil]
    rw [h N (by omega), Nat.succ_mul, Nat.add_zero]
theorem hsz_rg (H : Heap) : hsz H = ((List.range H.size).map (fun i => ((H[i]?).map (fun c => c.slots.size)).getD 0)).sum := by
  unfold hsz
  congr 1
  apply List.ext_getElem?
  intro i
  rw [List.getElem?_map, List.getElem?_map, Array.getElem?_toList]
  by_cases hi : i < H.size
  · rw [List.getElem?_range hi, Array.getElem?_eq_getElem hi]
    simp [hi]
  · rw [Array.getElem?_eq_none (by omega), List.getElem?_eq_none (by simp; omega)]
    rfl
theorem hsz_mna {H H1 : Heap} {N K : Nat} (z : H1.size = H.size + 1 + N) (oq : ∀ q, q < H.size → H1[q]? = H[q]?) (h0 : (H1[H.size]?).map (fun c => c.slots.size) = some N) (hi : ∀ i, i < N → (H1[H.size + 1 + i]?).map (fun c => c.slots.size) = some K) : hsz H1 = hsz H + (N + N * K) := by
  rw [hsz_rg H1, hsz_rg H, z, Nat.add_assoc, List.range_add, List.map_append, List.sum_append, List.map_map]
  congr 1
  · congr 1
    apply List.map_congr_left
    intro q hq
    rw [oq q (List.mem_range.mp hq)]
  · rw [Nat.add_comm 1 N, List.range_succ_eq_map, List.map_cons, List.sum_cons, List.map_map]
    congr 1
    · show ((H1[H.size + 0]?).map _).getD 0 = N
      rw [Nat.add_zero, h0]; rfl
    · refine sum_range (fun i hlt => ?_)
      show ((H1[H.size + (i + 1)]?).map _).getD 0 = K
      rw [show H.size + (i + 1) = H.size + 1 + i by omega, hi i hlt]; rfl
/-- the world with a new row n of N new rows b, b + 1, .. of K numbers -/
def gmna (G : LG) (n b N K : Nat) : LG := (fun x y => if x = n then (if y < N then ((b + y : Nat) : Int) else -1) else if b ≤ x ∧ x < b + N then 0 else gS G x y, fun x => if x = n then (4, N) else if b ≤ x ∧ x < b + N then (1, K) else gK G x, gc G + (1 + N), gs G + (N + N * K))
theorem gmna_K0 (G : LG) (n b N K : Nat) : gK (gmna G n b N K) n = (4, N) := if_pos rfl
theorem gmna_K1 (G : LG) {n b N K x : Nat} (h : x ≠ n) (h1 : b ≤ x ∧ x < b + N) : gK (gmna G n b N K) x = (1, K) := (if_neg h).trans (if_pos h1)
theorem gmna_Kne (G : LG) {n b N K x : Nat} (h : x ≠ n) (h1 : ¬ (b ≤ x ∧ x < b + N)) : gK (gmna G n b N K) x = gK G x := (if_neg h).trans (if_neg h1)
theorem gmna_0 (G : LG) (n b N K y : Nat) : gS (gmna G n b N K) n y = if y < N then ((b + y : Nat) : Int) else -1 := if_pos rfl
theorem gmna_1 (G : LG) {n b N K x : Nat} (h : x ≠ n) (h1 : b ≤ x ∧ x < b + N) (y : Nat) : gS (gmna G n b N K) x y = 0 := (if_neg h).trans (if_pos h1)
theorem gmna_ne (G : LG) {n b N K x : Nat} (h : x ≠ n) (h1 : ¬ (b ≤ x ∧ x < b + N)) : gS (gmna G n b N K) x = gS G x := by funext y; exact (if_neg h).trans (if_neg h1)
section MULTI
variable {K9 : KD} {X : CX} {pc : Nat} {lv lv' : List (Option LV)} {st : List LV} {G : LG}
theorem s_mna (n b N K : Nat) {v w : Int} {idx : Nat} (hdg : decode K9.2.1 pc = .ok (.multianewarray idx 2, 4)) (hcl : Cond.classLink K9.1 idx "[[I" ∈ WALL) (hv : v = (N : Int)) (hw : w = (K : Int)) (hN : N ≤ 1000) (hK9 : K ≤ 1000) (hn : (gK G n).1 = 0) (hb : ∀ i, i < N → (gK G (b + i)).1 = 0) (hnb : ¬ (b ≤ n ∧ n < b + N)) (hc : gc G + (1 + N) ≤ 601024) (hs9 : gs G + (N + N * K) ≤ 7293034)
    (kk : WP K9 X (pc + 4) lv ((2, (n : Int)) :: st) (gmna G n b N K)) : WP K9 X pc lv ((0, w) :: (0, v) :: st) G := by
  obtain ⟨p, l, e, R, s, m, args, below, meth, c, D, dT, ad0, G0, Q, base, sbase⟩ := X
  intro ho ad H locs ls hd he hs hl o1 o2
  subst hv hw
  have rw9 := okv_R (okv_h o2)
  have rv9 := okv_R (okv_h (okv_t o2))
  have o9 := okv_t (okv_t o2)
  obtain ⟨hc1, hs1⟩ := room_new ho hd he hc hs9
  have hKK := ho.2.2.2.2.2.2.2.2.1
  have eN : (Int32.ofInt (N : Int)).toNatClampNeg = N := by rw [I_clamp (by omega) rv9.2]; omega
  have eK : (Int32.ofInt (K : Int)).toNatClampNeg = K := by rw [I_clamp (by omega) rw9.2]; omega
  have nneg : ∀ z : Nat, inR (z : Int) → ¬ Int32.ofInt (z : Int) < 0 := fun z hr h9 => by rw [Int32.lt_iff_toInt_lt, I_toInt hr] at h9; exact absurd h9 (by simp)
  have hs5 := hs.1
  have z6 : hsz s.heap ≤ hsz H := by
    have h1 := hd.2.2.2.2.1
    have h2 := ho.2.2.2.2.2.2.2.2.2.2.2.2.2
    have h3 := he.2.2.2
    omega
  intro T hT Xs
  obtain ⟨vm₁, cA, comp, -, fA, fC, hO, -, X', step⟩ := Xs.multianewarray2F ho.1 ho.2.2.2.1 (ty := .int) (ho.2.2.2.2.1 _ hcl) (va_AOA.use ho.2.2.2.2.2.2.2.2.2.1.1.1.aoa) (ho.2.2.2.2.1 _ m_1) (g := F0 m pc ls (.int (Int32.ofInt (K : Int)) :: .int (Int32.ofInt (N : Int)) :: st.map (rv ad))) rfl (by rw [ho.2.1]; exact hdg) rfl (nneg N rv9) (nneg K rw9) (by rw [eN]; omega) (by rw [eK]; show K * 4 ≤ _; omega) (by rw [eK]; omega) (by decide) (by decide) (by rw [eN]; omega) (by rw [eN, eK]; omega)
  rw [eN, eK] at X' step
  have ec : comp = dT 0 := Option.some.inj (fC.symm.trans (hKK.2 0 _ rfl).2)
  have ea : cA = dT 3 := Option.some.inj (fA.symm.trans (hKK.2 3 _ rfl).2)
  subst ec ea
  generalize hF : Jvm.Free.Multi.fill (T.setVm vm₁) (dT 3) (dT 0) N K (defaultValue .int) N = F at X' step
  have hTh : (T.setVm vm₁).heap = H := hT
  obtain ⟨f1, f2, -, -⟩ := Jvm.Free.Multi.fill_facts (T.setVm vm₁) (dT 3) (dT 0) N K (defaultValue .int) N
  rw [hF, hTh] at f1 f2
  have hold : ∀ x : Nat, x < H.size → F.heap[x]? = H[x]? := fun x hx => by
    have := Jvm.Free.Multi.fill_old (T.setVm vm₁) (dT 3) (dT 0) N K (defaultValue .int) (a := x) (by rw [hTh]; exact hx) N
    rw [hF, hTh] at this
    exact this
  have hrow : ∀ j : Nat, j < N → F.heap[H.size + 1 + j]? = some (arrV (dT 0) K (fun _ => .int 0)) := fun j hj => by
    have := Jvm.Free.Multi.fill_inner (T.setVm vm₁) (dT 3) (dT 0) N K (defaultValue .int) N j hj
    rw [hF, hTh] at this
    rw [this]
    exact congrArg some (arrV_new (dT 0) K (.int 0))
  have hout : Jvm.Free.Multi.outerC (dT 3) N H.size N = arrV (dT 3) N (fun i => va_rf (if i < N then some (H.size + 1 + i) else none)) := vr_outer (dT 3) N H.size N
  rw [hout] at f2
  have hzz : hsz F.heap = hsz H + (N + N * K) := hsz_mna f1 hold (by rw [f2]; exact congrArg some (arrV_size _ _ _)) (fun i hi => by rw [hrow i hi]; exact congrArg some (arrV_size _ _ _))
  let ad' : Nat → Nat := fun x => if x = n then H.size else if b ≤ x ∧ x < b + N then H.size + 1 + (x - b) else ad x
  have a0 : ad' n = H.size := if_pos rfl
  have a1 : ∀ x, x ≠ n → b ≤ x ∧ x < b + N → ad' x = H.size + 1 + (x - b) := fun x h h1 => (if_neg h).trans (if_pos h1)
  have a2 : ∀ x, x ≠ n → ¬ (b ≤ x ∧ x < b + N) → ad' x = ad x := fun x h h1 => (if_neg h).trans (if_neg h1)
  obtain ⟨d1, d2, d3, d4, d5, d6, d7⟩ := hd
  have hne : ∀ x, (gK G x).1 ≠ 0 → x ≠ n ∧ ¬ (b ≤ x ∧ x < b + N) := fun x hx => ⟨fun q => hx (by rw [q]; exact hn), fun q => hx (by have h9 := hb (x - b) (by omega); rw [show b + (x - b) = x by omega] at h9; exact h9)⟩
  have hx : ∀ x, (gK G x).1 ≠ 0 → ad' x = ad x := fun x h => a2 x (hne x h).1 (hne x h).2
  have hlt : ∀ x, (gK G x).1 ≠ 0 → ad x < H.size := fun x h => (d1 x h).lt
  have hE : Ext base ad G ad' (gmna G n b N K) := by
    refine ⟨fun x h => ⟨gmna_Kne G (hne x h).1 (hne x h).2, hx x h⟩, fun x h0 h1 => ?_, Nat.le_add_right _ _, Nat.le_add_right _ _⟩
    by_cases hxn : x = n
    · rw [hxn, a0]; omega
    · by_cases hxb : b ≤ x ∧ x < b + N
      · rw [a1 x hxn hxb]; omega
      · rw [gmna_Kne G hxn hxb] at h1; exact absurd h0 h1
  have hd' : HD dT D base sbase ad' (gmna G n b N K) F.heap := by
    refine ⟨fun x h => ?_, fun x y h1 h2 h3 => ?_, fun x j h hj => ?_, ?_, ?_, hc, hs9⟩
    · by_cases hxn : x = n
      · subst hxn
        rw [lwEq (gmna_K0 G x b N K) (by decide), a0]
        show F.heap[H.size]? = some (arrV (dT (4 - 1)) N (fun j => va_rf (nmv ad' (gS (gmna G x b N K) x j))))
        rw [f2]
        refine congrArg some (arrV_cg (fun j hj => ?_))
        rw [gmna_0, if_pos hj, if_pos hj, nmv_nat, a1 (b + j) (fun q => hnb ⟨by omega, by omega⟩) ⟨by omega, by omega⟩, show b + j - b = j by omega]
      · by_cases hxb : b ≤ x ∧ x < b + N
        · rw [lwE1 (gmna_K1 G (K := K) hxn hxb), a1 x hxn hxb]
          show F.heap[H.size + 1 + (x - b)]? = some (arrV (dT 0) K (fun j => .int (Int32.ofInt (gS (gmna G n b N K) x j))))
          rw [hrow (x - b) (by omega)]
          exact congrArg some (arrV_cg (fun j hj => by rw [gmna_1 G hxn hxb]; rfl))
        · rw [gmna_Kne G hxn hxb] at h
          rw [hx x h]
          exact at_mv (gmna_Kne G hxn hxb) (gmna_ne G hxn hxb) (fun j hj => d3 x j h hj) hx ((d1 x h).kept (hold _ (hlt x h)))
    · by_cases hxn : x = n
      · by_cases hyn : y = n
        · rw [hxn, hyn]
        · by_cases hyb : b ≤ y ∧ y < b + N
          · rw [hxn, a0, a1 y hyn hyb] at h3; omega
          · rw [gmna_Kne G hyn hyb] at h2
            rw [hxn, a0, hx y h2] at h3
            have := hlt y h2; omega
      · by_cases hxb : b ≤ x ∧ x < b + N
        · by_cases hyn : y = n
          · rw [hyn, a0, a1 x hxn hxb] at h3; omega
          · by_cases hyb : b ≤ y ∧ y < b + N
            · rw [a1 x hxn hxb, a1 y hyn hyb] at h3; omega
            · rw [gmna_Kne G hyn hyb] at h2
              rw [a1 x hxn hxb, hx y h2] at h3
              have := hlt y h2; omega
        · rw [gmna_Kne G hxn hxb] at h1
          rw [hx x h1] at h3
          have h9 := hlt x h1
          by_cases hyn : y = n
          · rw [hyn, a0] at h3; omega
          · by_cases hyb : b ≤ y ∧ y < b + N
            · rw [a1 y hyn hyb] at h3; omega
            · rw [gmna_Kne G hyn hyb] at h2
              rw [hx y h2] at h3
              exact d2 x y h1 h2 h3
    · by_cases hxn : x = n
      · subst hxn
        rw [gmna_K0] at hj ⊢
        have hj9 : j < N := hj
        rw [gmna_0, if_pos hj9]
        refine okv_r (fun _ => ?_)
        rw [Int.toNat_natCast, gmna_K1 G (fun q => hnb ⟨by omega, by omega⟩) ⟨by omega, by omega⟩]
        exact n_10
      · by_cases hxb : b ≤ x ∧ x < b + N
        · rw [gmna_K1 G hxn hxb, gmna_1 G hxn hxb]
          exact okv_i ⟨by decide, by decide⟩
        · rw [gmna_Kne G hxn hxb] at h hj ⊢
          rw [gmna_ne G hxn hxb]
          exact hE.okE (d3 x j h hj)
    · rw [f1, d4]; show base + gc G + 1 + N = base + (gc G + (1 + N)); omega
    · rw [hzz, d5]; show sbase + gs G + (N + N * K) = sbase + (gs G + (N + N * K)); omega
  have hs' : va_S (AG base ad0 G0) s.heap F.heap locs := ⟨by rw [f1]; omega, fun x h1 h2 => (hold x (Nat.lt_of_lt_of_le h1 hs.1)).trans (hs.2.1 x h1 h2), hs.2.2⟩
  have hl' : lv_is ad' ls K9.2.2.1 lv := ⟨hl.1, hl.2.1, fun j w hk => by rw [hE.rvE (okv_lv o1 hk)]; exact hl.2.2 j w hk⟩
  have hkn : (gK (gmna G n b N K) n).1 ≠ 0 := by rw [gmna_K0]; exact Nat.succ_ne_zero _
  obtain ⟨t, b1, b2⟩ := kk ho ad' F.heap locs ls hd' (he.trans hE) hs' hl' (fun w hw => hE.okE (o1 w hw)) (okv_c (okv_r (fun _ => by rw [Int.toNat_natCast]; exact hkn)) (fun w hw => hE.okE (o9 w hw))) F rfl (stand_exact X')
  have e9 : rv ad' (2, (n : Int)) = .ref H.size := by
    show va_rf (nmv ad' (n : Int)) = .ref H.size
    rw [nmv_nat, a0]
    rfl
  rw [List.map_cons, e9, hE.rvsE o9] at b1
  exact ⟨t, step t (by rw [hT]; exact b1), b2⟩
end MULTI
