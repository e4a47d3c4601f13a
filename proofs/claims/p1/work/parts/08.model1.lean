def wD_X12_in : List Cond := []
def wK_X12_in : List Cond := .code yX12_in cX12_in 3 (some .boolean) :: (wD_X12_in ++ ([] : List Cond))
theorem wd_X12_in : ∀ w ∈ wD_X12_in, w ∈ wK_X12_in := fun w h => List.mem_cons_of_mem _ (List.mem_append_left _ h)
theorem gd_X12_in : (wK_X12_in).all goodWord = true := by decide +kernel
set_option maxHeartbeats 4000000 in
set_option maxRecDepth 100000 in
theorem c_X12_in (l : Launch) (D : va_G) (dT : Nat → ClassId) (sz : Nat) (v : Int32) (lo : Int32) (hi : Int32) : Met l yX12_in wK_X12_in ({ frames := 0, cells := 0, slots := 0, locals := 0 }) (va_Pc [.int v, .int lo, .int hi] (fun U => U.heap.size = sz ∧ va_P D vwCl [] U.heap ∧ va_K D vwCl (tysW dT) U ∧ va_D (fun _ => True) [] ∧ EN (va_A [] sz) U)) (va_Qi (fun (r : Int32) (_u : Unit) => ((v < lo ∨ hi < v) ∧ r = 0) ∨ ((¬ (v < lo ∨ hi < v)) ∧ r = 1)) (fun (_u : Unit) t => True ∧ va_P D vwCl [] t.heap ∧ va_K D vwCl (tysW dT) t ∧ va_D (va_A [] sz) []) (va_A [] sz)) 0 0 (va_A [] sz) := by
  refine Met.ofW (cc := cX12_in) (maxL := 3) (ret := (some .boolean)) (by decide) rfl ?_
  intro p e s m args below meth c s₁ B hml hv
  obtain ⟨rfl, hsz, hP, hK, hD0, hE⟩ := hv
  have hx := B.exec
  have hb := B.bytes
  have hr := B.returns
  have hts := atoms_spec (ws := wK_X12_in) B.pre
  have hown : s.vm.findClass RX12 = some m.cls := findClass_of_methodNamed B.named
  have hlocks := B.notSynchronized
  subst hsz
  have hD := hD0.self (sz := s.heap.size)
  generalize hAe : va_A [] s.heap.size = A at hD hE ⊢
  have hA : ∀ q : Nat, s.heap.size ≤ q → A q := fun q h => by rw [← hAe]; exact Or.inr h
  have hS : va_S A s.heap s.heap [] := va_S.rf
  have hP : va_P D vwCl [] s.heap := hP
  have hl := lv_entry ([.int v, .int lo, .int hi]) (n := 3) (Nat.le_of_ble_eq_true rfl)
  rw [lg_entry_eq]
  generalize (lg_sl ([.int v, .int lo, .int hi]) ++ List.replicate (3 - (lg_sl ([.int v, .int lo, .int hi])).length) Slot.unset).toArray = ls at hl ⊢
  have hl : lv_has ls 3 [(0, .int v), (1, .int lo), (2, .int hi)] := hl
  refine lv_iload_n hx hb dX12_in_0 rfl (lv_at hl 0 rfl) ?_
  refine lv_iload_n hx hb dX12_in_1 rfl (lv_at hl 1 rfl) ?_
  refine lv_icmp_lt (tgt := 14) hx hb dX12_in_2 (by decide) (fun c_1 => ?_) (fun c_1 => ?_)
  · refine lv_iconst (v := 0) hx hb dX12_in_14 (by decide) ?_
    have hP9 := hP.sub (ws' := []) [] rfl
    have hD9 := hD.sub (ws' := []) [] (by decide) rfl
    exact W.zret (v := 0) hx hb hr rfl (fun t ht hW => ⟨⟨_, (), rfl, Or.inl ⟨(by simp only [Int32.lt_iff_toInt_lt, Int32.le_iff_toInt_le, i32_eq, ne_eq, gt_iff_lt, ge_iff_le, i32_0, i32_1, i32_2, i32_3, i32_4, i32_5, i32_6, i32_7, i32_9, i32_10, i32_m1] at c_1 ⊢ <;> omega), rfl⟩, trivial, by rw [ht]; exact hP9, va_K.moved hW.alike hK, hD9⟩, hS.F ht⟩) hS.2.2 dX12_in_15
  · refine lv_iload_n hx hb dX12_in_5 rfl (lv_at hl 0 rfl) ?_
    refine lv_iload_n hx hb dX12_in_6 rfl (lv_at hl 2 rfl) ?_
    refine lv_icmp_gt (tgt := 14) hx hb dX12_in_7 (by decide) (fun c_2 => ?_) (fun c_2 => ?_)
    · refine lv_iconst (v := 0) hx hb dX12_in_14 (by decide) ?_
      have hP9 := hP.sub (ws' := []) [] rfl
      have hD9 := hD.sub (ws' := []) [] (by decide) rfl
      exact W.zret (v := 0) hx hb hr rfl (fun t ht hW => ⟨⟨_, (), rfl, Or.inl ⟨(by simp only [Int32.lt_iff_toInt_lt, Int32.le_iff_toInt_le, i32_eq, ne_eq, gt_iff_lt, ge_iff_le, i32_0, i32_1, i32_2, i32_3, i32_4, i32_5, i32_6, i32_7, i32_9, i32_10, i32_m1] at c_1 c_2 ⊢ <;> omega), rfl⟩, trivial, by rw [ht]; exact hP9, va_K.moved hW.alike hK, hD9⟩, hS.F ht⟩) hS.2.2 dX12_in_15
    · refine lv_iconst (v := 1) hx hb dX12_in_10 (by decide) ?_
      refine lv_goto (tgt := 15) hx hb dX12_in_11 (by decide) ?_
      have hP9 := hP.sub (ws' := []) [] rfl
      have hD9 := hD.sub (ws' := []) [] (by decide) rfl
      exact W.zret (v := 1) hx hb hr rfl (fun t ht hW => ⟨⟨_, (), rfl, Or.inr (⟨(by simp only [Int32.lt_iff_toInt_lt, Int32.le_iff_toInt_le, i32_eq, ne_eq, gt_iff_lt, ge_iff_le, i32_0, i32_1, i32_2, i32_3, i32_4, i32_5, i32_6, i32_7, i32_9, i32_10, i32_m1] at c_1 c_2 ⊢ <;> omega), rfl⟩), trivial, by rw [ht]; exact hP9, va_K.moved hW.alike hK, hD9⟩, hS.F ht⟩) hS.2.2 dX12_in_15

def wD_X12_isName : List Cond := [.methodLink RX12 278 yX12_in, .static yX12_in, .initialized RX12]
def wK_X12_isName : List Cond := .code yX12_isName cX12_isName 1 (some .boolean) :: (wD_X12_isName ++ (wK_X12_in ++ ([] : List Cond)))
theorem wd_X12_isName : ∀ w ∈ wD_X12_isName, w ∈ wK_X12_isName := fun w h => List.mem_cons_of_mem _ (List.mem_append_left _ h)
theorem gd_X12_isName : (wK_X12_isName).all goodWord = true := by decide +kernel
theorem wq_X12_isName_X12_in : ∀ w ∈ wK_X12_in, w ∈ wK_X12_isName := fun w h => List.mem_cons_of_mem _ (List.mem_append_right _ (List.mem_append_left _ h))
set_option maxHeartbeats 4000000 in
set_option maxRecDepth 100000 in
theorem c_X12_isName (l : Launch) (D : va_G) (dT : Nat → ClassId) (sz : Nat) (i : Int32) : Met l yX12_isName wK_X12_isName ({ frames := 1, cells := 0, slots := 0, locals := 22 }) (va_Pc [.int i] (fun U => U.heap.size = sz ∧ va_P D vwCl [] U.heap ∧ va_K D vwCl (tysW dT) U ∧ va_D (fun _ => True) [] ∧ EN (va_A [] sz) U)) (va_Qi (fun (r : Int32) (_u : Unit) => ((i < 0 ∨ 5 < i) ∧ r = 0) ∨ ((¬ (i < 0 ∨ 5 < i)) ∧ r = 1)) (fun (_u : Unit) t => True ∧ va_P D vwCl [] t.heap ∧ va_K D vwCl (tysW dT) t ∧ va_D (va_A [] sz) []) (va_A [] sz)) 0 0 (va_A [] sz) := by
  refine Met.ofW (cc := cX12_isName) (maxL := 1) (ret := (some .boolean)) (by decide) rfl ?_
  intro p e s m args below meth c s₁ B hml hv
  obtain ⟨rfl, hsz, hP, hK, hD0, hE⟩ := hv
  have hx := B.exec
  have hb := B.bytes
  have hr := B.returns
  have hts := atoms_spec (ws := wK_X12_isName) B.pre
  have hown : s.vm.findClass RX12 = some m.cls := findClass_of_methodNamed B.named
  have hlocks := B.notSynchronized
  subst hsz
  have hD := hD0.self (sz := s.heap.size)
  generalize hAe : va_A [] s.heap.size = A at hD hE ⊢
  have hA : ∀ q : Nat, s.heap.size ≤ q → A q := fun q h => by rw [← hAe]; exact Or.inr h
  have hS : va_S A s.heap s.heap [] := va_S.rf
  have hP : va_P D vwCl [] s.heap := hP
  have hl := lv_entry ([.int i]) (n := 1) (Nat.le_of_ble_eq_true rfl)
  rw [lg_entry_eq]
  generalize (lg_sl ([.int i]) ++ List.replicate (1 - (lg_sl ([.int i])).length) Slot.unset).toArray = ls at hl ⊢
  have hl : lv_has ls 1 [(0, .int i)] := hl
  refine lv_iload_n hx hb dX12_isName_0 rfl (lv_at hl 0 rfl) ?_
  refine lv_iconst (v := 0) hx hb dX12_isName_1 (by decide) ?_
  refine lv_iconst (v := 5) hx hb dX12_isName_2 (by decide) ?_
  have hPc := hP.sub (ws' := []) [] rfl
  have hDc := hD.sub (ws' := []) [] (by decide) rfl
  have hFc := va_free (wc := []) hD hS hA [] rfl
  refine va_calli (va_runS (As := [.int i, .int 0, .int 5]) (rest := []) ⟨hx, hb, hml, hown, hts⟩ (c_X12_in l D dT s.heap.size i 0 5) (va_cwS 3 hts (goodIn_app (goodIn_r _ [1, 2, 3] rfl (by decide +kernel)) (goodIn_sub wq_X12_isName_X12_in gd_X12_in)) rfl rfl rfl (by decide +kernel) ⟨Nat.le_of_ble_eq_true rfl, Nat.le_of_ble_eq_true rfl⟩) ⟨(fun a U g mk q => by obtain ⟨z0, z1, zP, zK, zD, zE⟩ := q; exact ⟨z0, z1, zP, va_K.moved (u := U) (U := U.calling g mk a) (Vm.Alike.refl U.vm) zK, zD, EN.frame zE⟩), fun U hU hW => ⟨rfl, by rw [hU], by rw [hU]; exact hPc, va_K.moved hW.alike hK, hDc.weaken (fun _ _ _ _ => trivial), EN.call hE hS hFc hW hU⟩⟩ rfl rfl hl.1 rfl (lv_room (Nat.le_of_ble_eq_true rfl)) dX12_isName_3 ⟨(Nat.le_of_ble_eq_true rfl), (Nat.le_of_ble_eq_true rfl)⟩) hS (fun q _ h => hFc q h) hFc (fun r_1 u_2 t H1 locs ht hvm hw hB hz1 hk1 hS => ?_)
  obtain ⟨-, hP1, hK1, hD1⟩ := hB
  rw [ht] at hP1
  obtain ⟨hP, hD⟩ := va_join (wr := []) (w1 := []) hP hD [] [] rfl rfl (by decide) (by decide) hk1 hFc hP1 hD1
  generalize H1 = H at hP hS ⊢
  have hP : va_P D vwCl [] H := hP
  have hD : va_D A [] := hD
  refine W.widen (k := 0) (n := 0) (Nat.le_of_ble_eq_true rfl) (Nat.le_of_ble_eq_true rfl) ?_
  have hw_3 := hw
  try dsimp only at hw_3
  rcases hw_3 with ⟨hc_4, rfl⟩ | ⟨hc_5, rfl⟩
  · have hP9 := hP.sub (ws' := []) [] rfl
    have hD9 := hD.sub (ws' := []) [] (by decide) rfl
    exact W.zret (v := 0) hx hb hr rfl (fun t ht hW => ⟨⟨_, (), rfl, Or.inl ⟨(by simp only [Int32.lt_iff_toInt_lt, Int32.le_iff_toInt_le, i32_eq, ne_eq, gt_iff_lt, ge_iff_le, i32_0, i32_1, i32_2, i32_3, i32_4, i32_5, i32_6, i32_7, i32_9, i32_10, i32_m1] at hc_4 ⊢ <;> omega), rfl⟩, trivial, by rw [ht]; exact hP9, va_K.moved hW.alike hK, hD9⟩, hS.F ht⟩) hS.2.2 dX12_isName_6
  · have hP9 := hP.sub (ws' := []) [] rfl
    have hD9 := hD.sub (ws' := []) [] (by decide) rfl
    exact W.zret (v := 1) hx hb hr rfl (fun t ht hW => ⟨⟨_, (), rfl, Or.inr (⟨(by simp only [Int32.lt_iff_toInt_lt, Int32.le_iff_toInt_le, i32_eq, ne_eq, gt_iff_lt, ge_iff_le, i32_0, i32_1, i32_2, i32_3, i32_4, i32_5, i32_6, i32_7, i32_9, i32_10, i32_m1] at hc_5 ⊢ <;> omega), rfl⟩), trivial, by rw [ht]; exact hP9, va_K.moved hW.alike hK, hD9⟩, hS.F ht⟩) hS.2.2 dX12_isName_6

def wD_X12_isValue : List Cond := [.methodLink RX12 278 yX12_in, .static yX12_in, .initialized RX12]
def wK_X12_isValue : List Cond := .code yX12_isValue cX12_isValue 1 (some .boolean) :: (wD_X12_isValue ++ (wK_X12_in ++ ([] : List Cond)))
theorem wd_X12_isValue : ∀ w ∈ wD_X12_isValue, w ∈ wK_X12_isValue := fun w h => List.mem_cons_of_mem _ (List.mem_append_left _ h)
theorem gd_X12_isValue : (wK_X12_isValue).all goodWord = true := by decide +kernel
theorem wq_X12_isValue_X12_in : ∀ w ∈ wK_X12_in, w ∈ wK_X12_isValue := fun w h => List.mem_cons_of_mem _ (List.mem_append_right _ (List.mem_append_left _ h))
set_option maxHeartbeats 4000000 in
set_option maxRecDepth 100000 in
theorem c_X12_isValue (l : Launch) (D : va_G) (dT : Nat → ClassId) (sz : Nat) (i : Int32) : Met l yX12_isValue wK_X12_isValue ({ frames := 1, cells := 0, slots := 0, locals := 22 }) (va_Pc [.int i] (fun U => U.heap.size = sz ∧ va_P D vwCl [] U.heap ∧ va_K D vwCl (tysW dT) U ∧ va_D (fun _ => True) [] ∧ EN (va_A [] sz) U)) (va_Qi (fun (r : Int32) (_u : Unit) => ((i < 0 ∨ 9 < i) ∧ r = 0) ∨ ((¬ (i < 0 ∨ 9 < i)) ∧ r = 1)) (fun (_u : Unit) t => True ∧ va_P D vwCl [] t.heap ∧ va_K D vwCl (tysW dT) t ∧ va_D (va_A [] sz) []) (va_A [] sz)) 0 0 (va_A [] sz) := by
  refine Met.ofW (cc := cX12_isValue) (maxL := 1) (ret := (some .boolean)) (by decide) rfl ?_
  intro p e s m args below meth c s₁ B hml hv
  obtain ⟨rfl, hsz, hP, hK, hD0, hE⟩ := hv
  have hx := B.exec
  have hb := B.bytes
  have hr := B.returns
  have hts := atoms_spec (ws := wK_X12_isValue) B.pre
  have hown : s.vm.findClass RX12 = some m.cls := findClass_of_methodNamed B.named
  have hlocks := B.notSynchronized
  subst hsz
  have hD := hD0.self (sz := s.heap.size)
  generalize hAe : va_A [] s.heap.size = A at hD hE ⊢
  have hA : ∀ q : Nat, s.heap.size ≤ q → A q := fun q h => by rw [← hAe]; exact Or.inr h
  have hS : va_S A s.heap s.heap [] := va_S.rf
  have hP : va_P D vwCl [] s.heap := hP
  have hl := lv_entry ([.int i]) (n := 1) (Nat.le_of_ble_eq_true rfl)
  rw [lg_entry_eq]
  generalize (lg_sl ([.int i]) ++ List.replicate (1 - (lg_sl ([.int i])).length) Slot.unset).toArray = ls at hl ⊢
  have hl : lv_has ls 1 [(0, .int i)] := hl
  refine lv_iload_n hx hb dX12_isValue_0 rfl (lv_at hl 0 rfl) ?_
  refine lv_iconst (v := 0) hx hb dX12_isValue_1 (by decide) ?_
  refine lv_bipush (v := 9) hx hb dX12_isValue_2 (by decide) ?_
  have hPc := hP.sub (ws' := []) [] rfl
  have hDc := hD.sub (ws' := []) [] (by decide) rfl
  have hFc := va_free (wc := []) hD hS hA [] rfl
  refine va_calli (va_runS (As := [.int i, .int 0, .int 9]) (rest := []) ⟨hx, hb, hml, hown, hts⟩ (c_X12_in l D dT s.heap.size i 0 9) (va_cwS 3 hts (goodIn_app (goodIn_r _ [1, 2, 3] rfl (by decide +kernel)) (goodIn_sub wq_X12_isValue_X12_in gd_X12_in)) rfl rfl rfl (by decide +kernel) ⟨Nat.le_of_ble_eq_true rfl, Nat.le_of_ble_eq_true rfl⟩) ⟨(fun a U g mk q => by obtain ⟨z0, z1, zP, zK, zD, zE⟩ := q; exact ⟨z0, z1, zP, va_K.moved (u := U) (U := U.calling g mk a) (Vm.Alike.refl U.vm) zK, zD, EN.frame zE⟩), fun U hU hW => ⟨rfl, by rw [hU], by rw [hU]; exact hPc, va_K.moved hW.alike hK, hDc.weaken (fun _ _ _ _ => trivial), EN.call hE hS hFc hW hU⟩⟩ rfl rfl hl.1 rfl (lv_room (Nat.le_of_ble_eq_true rfl)) dX12_isValue_4 ⟨(Nat.le_of_ble_eq_true rfl), (Nat.le_of_ble_eq_true rfl)⟩) hS (fun q _ h => hFc q h) hFc (fun r_1 u_2 t H1 locs ht hvm hw hB hz1 hk1 hS => ?_)
  obtain ⟨-, hP1, hK1, hD1⟩ := hB
  rw [ht] at hP1
  obtain ⟨hP, hD⟩ := va_join (wr := []) (w1 := []) hP hD [] [] rfl rfl (by decide) (by decide) hk1 hFc hP1 hD1
  generalize H1 = H at hP hS ⊢
  have hP : va_P D vwCl [] H := hP
  have hD : va_D A [] := hD
  refine W.widen (k := 0) (n := 0) (Nat.le_of_ble_eq_true rfl) (Nat.le_of_ble_eq_true rfl) ?_
  have hw_3 := hw
  try dsimp only at hw_3
  rcases hw_3 with ⟨hc_4, rfl⟩ | ⟨hc_5, rfl⟩
  · have hP9 := hP.sub (ws' := []) [] rfl
    have hD9 := hD.sub (ws' := []) [] (by decide) rfl
    exact W.zret (v := 0) hx hb hr rfl (fun t ht hW => ⟨⟨_, (), rfl, Or.inl ⟨(by simp only [Int32.lt_iff_toInt_lt, Int32.le_iff_toInt_le, i32_eq, ne_eq, gt_iff_lt, ge_iff_le, i32_0, i32_1, i32_2, i32_3, i32_4, i32_5, i32_6, i32_7, i32_9, i32_10, i32_m1] at hc_4 ⊢ <;> omega), rfl⟩, trivial, by rw [ht]; exact hP9, va_K.moved hW.alike hK, hD9⟩, hS.F ht⟩) hS.2.2 dX12_isValue_7
  · have hP9 := hP.sub (ws' := []) [] rfl
    have hD9 := hD.sub (ws' := []) [] (by decide) rfl
    exact W.zret (v := 1) hx hb hr rfl (fun t ht hW => ⟨⟨_, (), rfl, Or.inr (⟨(by simp only [Int32.lt_iff_toInt_lt, Int32.le_iff_toInt_le, i32_eq, ne_eq, gt_iff_lt, ge_iff_le, i32_0, i32_1, i32_2, i32_3, i32_4, i32_5, i32_6, i32_7, i32_9, i32_10, i32_m1] at hc_5 ⊢ <;> omega), rfl⟩), trivial, by rw [ht]; exact hP9, va_K.moved hW.alike hK, hD9⟩, hS.F ht⟩) hS.2.2 dX12_isValue_7

def wD_X12_partsOf : List Cond := []
def wK_X12_partsOf : List Cond := .code yX12_partsOf cX12_partsOf 1 (some .int) :: (wD_X12_partsOf ++ ([] : List Cond))
theorem wd_X12_partsOf : ∀ w ∈ wD_X12_partsOf, w ∈ wK_X12_partsOf := fun w h => List.mem_cons_of_mem _ (List.mem_append_left _ h)
theorem gd_X12_partsOf : (wK_X12_partsOf).all goodWord = true := by decide +kernel
set_option maxHeartbeats 4000000 in
set_option maxRecDepth 100000 in
theorem c_X12_partsOf (l : Launch) (D : va_G) (dT : Nat → ClassId) (sz : Nat) (k : Int32) : Met l yX12_partsOf wK_X12_partsOf ({ frames := 0, cells := 0, slots := 0, locals := 0 }) (va_Pc [.int k] (fun U => U.heap.size = sz ∧ va_P D vwCl [] U.heap ∧ va_K D vwCl (tysW dT) U ∧ va_D (fun _ => True) [] ∧ EN (va_A [] sz) U)) (va_Qi (fun (r : Int32) (_u : Unit) => ((k < 2) ∧ r = 0) ∨ ((¬ k < 2 ∧ (k = 4 ∨ k = 5)) ∧ r = 1) ∨ ((¬ k < 2 ∧ ¬ (k = 4 ∨ k = 5) ∧ k = 6) ∧ r = 3) ∨ ((¬ k < 2 ∧ ¬ (k = 4 ∨ k = 5) ∧ ¬ k = 6) ∧ r = 2)) (fun (_u : Unit) t => True ∧ va_P D vwCl [] t.heap ∧ va_K D vwCl (tysW dT) t ∧ va_D (va_A [] sz) []) (va_A [] sz)) 0 0 (va_A [] sz) := by
  refine Met.ofW (cc := cX12_partsOf) (maxL := 1) (ret := (some .int)) (by decide) rfl ?_
  intro p e s m args below meth c s₁ B hml hv
  obtain ⟨rfl, hsz, hP, hK, hD0, hE⟩ := hv
  have hx := B.exec
  have hb := B.bytes
  have hr := B.returns
  have hts := atoms_spec (ws := wK_X12_partsOf) B.pre
  have hown : s.vm.findClass RX12 = some m.cls := findClass_of_methodNamed B.named
  have hlocks := B.notSynchronized
  subst hsz
  have hD := hD0.self (sz := s.heap.size)
  generalize hAe : va_A [] s.heap.size = A at hD hE ⊢
  have hA : ∀ q : Nat, s.heap.size ≤ q → A q := fun q h => by rw [← hAe]; exact Or.inr h
  have hS : va_S A s.heap s.heap [] := va_S.rf
  have hP : va_P D vwCl [] s.heap := hP
  have hl := lv_entry ([.int k]) (n := 1) (Nat.le_of_ble_eq_true rfl)
  rw [lg_entry_eq]
  generalize (lg_sl ([.int k]) ++ List.replicate (1 - (lg_sl ([.int k])).length) Slot.unset).toArray = ls at hl ⊢
  have hl : lv_has ls 1 [(0, .int k)] := hl
  refine lv_iload_n hx hb dX12_partsOf_0 rfl (lv_at hl 0 rfl) ?_
  refine lv_iconst (v := 2) hx hb dX12_partsOf_1 (by decide) ?_
  refine lv_icmp_ge (tgt := 9) hx hb dX12_partsOf_2 (by decide) (fun c_1 => ?_) (fun c_1 => ?_)
  · refine lv_iload_n hx hb dX12_partsOf_9 rfl (lv_at hl 0 rfl) ?_
    refine lv_iconst (v := 4) hx hb dX12_partsOf_10 (by decide) ?_
    refine lv_icmp_eq (tgt := 19) hx hb dX12_partsOf_11 (by decide) (fun c_2 => ?_) (fun c_2 => ?_)
    · refine lv_iconst (v := 1) hx hb dX12_partsOf_19 (by decide) ?_
      refine lv_goto (tgt := 34) hx hb dX12_partsOf_20 (by decide) ?_
      have hP9 := hP.sub (ws' := []) [] rfl
      have hD9 := hD.sub (ws' := []) [] (by decide) rfl
      exact W.iret (v := 1) hx hb hr (fun t ht hW => ⟨⟨_, (), rfl, Or.inr (Or.inl ⟨(by simp only [Int32.lt_iff_toInt_lt, Int32.le_iff_toInt_le, i32_eq, ne_eq, gt_iff_lt, ge_iff_le, i32_0, i32_1, i32_2, i32_3, i32_4, i32_5, i32_6, i32_7, i32_9, i32_10, i32_m1] at c_1 c_2 ⊢ <;> omega), rfl⟩), trivial, by rw [ht]; exact hP9, va_K.moved hW.alike hK, hD9⟩, hS.F ht⟩) hS.2.2 dX12_partsOf_34
    · refine lv_iload_n hx hb dX12_partsOf_14 rfl (lv_at hl 0 rfl) ?_
      refine lv_iconst (v := 5) hx hb dX12_partsOf_15 (by decide) ?_
      refine lv_icmp_ne (tgt := 23) hx hb dX12_partsOf_16 (by decide) (fun c_3 => ?_) (fun c_3 => ?_)
      · refine lv_iload_n hx hb dX12_partsOf_23 rfl (lv_at hl 0 rfl) ?_
        refine lv_bipush (v := 6) hx hb dX12_partsOf_24 (by decide) ?_
        refine lv_icmp_ne (tgt := 33) hx hb dX12_partsOf_26 (by decide) (fun c_4 => ?_) (fun c_4 => ?_)
        · refine lv_iconst (v := 2) hx hb dX12_partsOf_33 (by decide) ?_
          have hP9 := hP.sub (ws' := []) [] rfl
          have hD9 := hD.sub (ws' := []) [] (by decide) rfl
          exact W.iret (v := 2) hx hb hr (fun t ht hW => ⟨⟨_, (), rfl, Or.inr (Or.inr (Or.inr (⟨(by simp only [Int32.lt_iff_toInt_lt, Int32.le_iff_toInt_le, i32_eq, ne_eq, gt_iff_lt, ge_iff_le, i32_0, i32_1, i32_2, i32_3, i32_4, i32_5, i32_6, i32_7, i32_9, i32_10, i32_m1] at c_1 c_2 c_3 c_4 ⊢ <;> omega), rfl⟩))), trivial, by rw [ht]; exact hP9, va_K.moved hW.alike hK, hD9⟩, hS.F ht⟩) hS.2.2 dX12_partsOf_34
        · refine lv_iconst (v := 3) hx hb dX12_partsOf_29 (by decide) ?_
          refine lv_goto (tgt := 34) hx hb dX12_partsOf_30 (by decide) ?_
          have hP9 := hP.sub (ws' := []) [] rfl
          have hD9 := hD.sub (ws' := []) [] (by decide) rfl
          exact W.iret (v := 3) hx hb hr (fun t ht hW => ⟨⟨_, (), rfl, Or.inr (Or.inr (Or.inl ⟨(by simp only [Int32.lt_iff_toInt_lt, Int32.le_iff_toInt_le, i32_eq, ne_eq, gt_iff_lt, ge_iff_le, i32_0, i32_1, i32_2, i32_3, i32_4, i32_5, i32_6, i32_7, i32_9, i32_10, i32_m1] at c_1 c_2 c_3 c_4 ⊢ <;> omega), rfl⟩)), trivial, by rw [ht]; exact hP9, va_K.moved hW.alike hK, hD9⟩, hS.F ht⟩) hS.2.2 dX12_partsOf_34
      · refine lv_iconst (v := 1) hx hb dX12_partsOf_19 (by decide) ?_
        refine lv_goto (tgt := 34) hx hb dX12_partsOf_20 (by decide) ?_
        have hP9 := hP.sub (ws' := []) [] rfl
        have hD9 := hD.sub (ws' := []) [] (by decide) rfl
        exact W.iret (v := 1) hx hb hr (fun t ht hW => ⟨⟨_, (), rfl, Or.inr (Or.inl ⟨(by simp only [Int32.lt_iff_toInt_lt, Int32.le_iff_toInt_le, i32_eq, ne_eq, gt_iff_lt, ge_iff_le, i32_0, i32_1, i32_2, i32_3, i32_4, i32_5, i32_6, i32_7, i32_9, i32_10, i32_m1] at c_1 c_2 c_3 ⊢ <;> omega), rfl⟩), trivial, by rw [ht]; exact hP9, va_K.moved hW.alike hK, hD9⟩, hS.F ht⟩) hS.2.2 dX12_partsOf_34
  · refine lv_iconst (v := 0) hx hb dX12_partsOf_5 (by decide) ?_
    refine lv_goto (tgt := 34) hx hb dX12_partsOf_6 (by decide) ?_
    have hP9 := hP.sub (ws' := []) [] rfl
    have hD9 := hD.sub (ws' := []) [] (by decide) rfl
    exact W.iret (v := 0) hx hb hr (fun t ht hW => ⟨⟨_, (), rfl, Or.inl ⟨(by simp only [Int32.lt_iff_toInt_lt, Int32.le_iff_toInt_le, i32_eq, ne_eq, gt_iff_lt, ge_iff_le, i32_0, i32_1, i32_2, i32_3, i32_4, i32_5, i32_6, i32_7, i32_9, i32_10, i32_m1] at c_1 ⊢ <;> omega), rfl⟩, trivial, by rw [ht]; exact hP9, va_K.moved hW.alike hK, hD9⟩, hS.F ht⟩) hS.2.2 dX12_partsOf_34

def wD_X12_goes_f : List Cond := [.fieldLink RX12 271 "MixinUnitsModel" "thrown" "I"]
def wK_X12_goes_f : List Cond := .code yX12_goes cX12_goes 4 (some .boolean) :: (wD_X12_goes_f ++ (wsX120 ++ ([] : List Cond)))
theorem wd_X12_goes_f : ∀ w ∈ wD_X12_goes_f, w ∈ wK_X12_goes_f := fun w h => List.mem_cons_of_mem _ (List.mem_append_left _ h)
theorem gd_X12_goes_f : (wK_X12_goes_f).all goodWord = true := by decide +kernel
theorem wc_X12_goes_f_X12 : ∀ w ∈ wsX120, w ∈ wK_X12_goes_f := fun w h => List.mem_cons_of_mem _ (List.mem_append_right _ (List.mem_append_left _ h))
set_option maxHeartbeats 4000000 in
set_option maxRecDepth 100000 in
/-- goes: _f -/
theorem c_X12_goes_f (l : Launch) (D : va_G) (dT : Nat → ClassId) (sz : Nat) (h : Nat) (fs : List Value) (y1 : Int32) (y2 : Int32) (len : fs.length = 109) : Met l yX12_goes wK_X12_goes_f ({ frames := 0, cells := 0, slots := 0, locals := 0 }) (va_Pc [.ref h, .int 0, .int y1, .int y2] (fun U => U.heap.size = sz ∧ va_P D vwCl [(h, .inr (13, fs))] U.heap ∧ va_K D vwCl (tysW dT) U ∧ va_D (fun _ => True) [(h, .inr (13, fs))] ∧ EN (va_A [(h, .inr (13, fs))] sz) U)) (va_Qi (fun (r : Int32) (_u : Unit) => r = 0) (fun (_u : Unit) t => True ∧ va_P D vwCl [(h, .inr (13, (List.set fs 25 (.int 1))))] t.heap ∧ va_K D vwCl (tysW dT) t ∧ va_D (va_A [(h, .inr (13, fs))] sz) [(h, .inr (13, (List.set fs 25 (.int 1))))]) (va_A [(h, .inr (13, fs))] sz)) 0 0 (va_A [(h, .inr (13, fs))] sz) := by
  refine Met.ofW (cc := cX12_goes) (maxL := 4) (ret := (some .boolean)) (by decide) rfl ?_
  intro p e s m args below meth c s₁ B hml hv
  obtain ⟨rfl, hsz, hP, hK, hD0, hE⟩ := hv
  have hx := B.exec
  have hb := B.bytes
  have hr := B.returns
  have hts := atoms_spec (ws := wK_X12_goes_f) B.pre
  have hown : s.vm.findClass RX12 = some m.cls := findClass_of_methodNamed B.named
  have hlocks := B.notSynchronized
  subst hsz
  have hD := hD0.self (sz := s.heap.size)
  generalize hAe : va_A [(h, .inr (13, fs))] s.heap.size = A at hD hE ⊢
  have hA : ∀ q : Nat, s.heap.size ≤ q → A q := fun q h => by rw [← hAe]; exact Or.inr h
  have hS : va_S A s.heap s.heap [] := va_S.rf
  have hP : va_P D vwCl [(h, .inr (13, fs))] s.heap := hP
  have hl := lv_entry ([.ref h, .int 0, .int y1, .int y2]) (n := 4) (Nat.le_of_ble_eq_true rfl)
  rw [lg_entry_eq]
  generalize (lg_sl ([.ref h, .int 0, .int y1, .int y2]) ++ List.replicate (4 - (lg_sl ([.ref h, .int 0, .int y1, .int y2])).length) Slot.unset).toArray = ls at hl ⊢
  have hl : lv_has ls 4 [(0, .ref h), (1, .int 0), (2, .int y1), (3, .int y2)] := hl
  refine lv_aload_n hx hb dX12_goes_0 rfl (lv_at hl 0 rfl) ?_
  refine lv_iload_n hx hb dX12_goes_1 rfl (lv_at hl 1 rfl) ?_
  refine lv_if_ne (tgt := 9) hx hb dX12_goes_2 (by decide) (fun c_1 => absurd (by decide) c_1) (fun _ => ?_)
  refine lv_iconst (v := 1) hx hb dX12_goes_5 (by decide) ?_
  refine lv_goto (tgt := 26) hx hb dX12_goes_6 (by decide) ?_
  refine va_put (D := D) (ci := 13) (v := .int 1) (ty := .int) (C := RX12) (T := TX12) (N := 109) hx hb hts wc_X12_goes_f_X12 tyX12 tyX12_ok nmX12 hown hK hP hD hS 0 rfl rfl 25 (by decide) (hts (.fieldLink RX12 271 "MixinUnitsModel" "thrown" "I") (wd_X12_goes_f _ (List.mem_of_getElem? (i := 0) rfl))) (fun _ h9 => h9) rfl (by decide +kernel) rfl rfl (ls_lt len (Nat.le_of_ble_eq_true rfl)) dX12_goes_26 (fun H locs hP hD hS => ?_)
  have hP : va_P D vwCl [(h, .inr (13, (List.set fs 25 (.int 1))))] H := hP
  have hD : va_D A [(h, .inr (13, (List.set fs 25 (.int 1))))] := hD
  refine lv_aload_n hx hb dX12_goes_29 rfl (lv_at hl 0 rfl) ?_
  refine va_get (D := D) (ci := 13) (v := .int 1) (C := RX12) (T := TX12) (N := 109) hx hb hts wc_X12_goes_f_X12 hown hK hP 0 rfl rfl 25 (by decide) (hts (.fieldLink RX12 271 "MixinUnitsModel" "thrown" "I") (wd_X12_goes_f _ (List.mem_of_getElem? (i := 0) rfl))) (fun _ h9 => h9) (ls_self len (Nat.le_of_ble_eq_true rfl)) dX12_goes_30 ?_
  refine lv_if_ne (tgt := 40) hx hb dX12_goes_33 (by decide) (fun _ => ?_) (fun c_2 => absurd c_2 (by decide))
  refine lv_iconst (v := 0) hx hb dX12_goes_40 (by decide) ?_
  have hP9 := hP.sub (ws' := [(h, .inr (13, (List.set fs 25 (.int 1))))]) [0] rfl
  have hD9 := hD.sub (ws' := [(h, .inr (13, (List.set fs 25 (.int 1))))]) [0] (by decide) rfl
  exact W.zret (v := 0) hx hb hr rfl (fun t ht hW => ⟨⟨_, (), rfl, rfl, trivial, by rw [ht]; exact hP9, va_K.moved hW.alike hK, hD9⟩, hS.F ht⟩) hS.2.2 dX12_goes_41

def wD_X12_goes_s : List Cond := [.fieldLink RX12 271 "MixinUnitsModel" "thrown" "I"]
def wK_X12_goes_s : List Cond := .code yX12_goes cX12_goes 4 (some .boolean) :: (wD_X12_goes_s ++ (wsX120 ++ ([] : List Cond)))
theorem wd_X12_goes_s : ∀ w ∈ wD_X12_goes_s, w ∈ wK_X12_goes_s := fun w h => List.mem_cons_of_mem _ (List.mem_append_left _ h)
theorem gd_X12_goes_s : (wK_X12_goes_s).all goodWord = true := by decide +kernel
theorem wc_X12_goes_s_X12 : ∀ w ∈ wsX120, w ∈ wK_X12_goes_s := fun w h => List.mem_cons_of_mem _ (List.mem_append_right _ (List.mem_append_left _ h))
set_option maxHeartbeats 4000000 in
set_option maxRecDepth 100000 in
/-- goes: _s -/
theorem c_X12_goes_s (l : Launch) (D : va_G) (dT : Nat → ClassId) (sz : Nat) (h : Nat) (fs : List Value) (y2 : Int32) (len : fs.length = 109) : Met l yX12_goes wK_X12_goes_s ({ frames := 0, cells := 0, slots := 0, locals := 0 }) (va_Pc [.ref h, .int 1, .int 0, .int y2] (fun U => U.heap.size = sz ∧ va_P D vwCl [(h, .inr (13, fs))] U.heap ∧ va_K D vwCl (tysW dT) U ∧ va_D (fun _ => True) [(h, .inr (13, fs))] ∧ EN (va_A [(h, .inr (13, fs))] sz) U)) (va_Qi (fun (r : Int32) (_u : Unit) => r = 0) (fun (_u : Unit) t => True ∧ va_P D vwCl [(h, .inr (13, (List.set fs 25 (.int 2))))] t.heap ∧ va_K D vwCl (tysW dT) t ∧ va_D (va_A [(h, .inr (13, fs))] sz) [(h, .inr (13, (List.set fs 25 (.int 2))))]) (va_A [(h, .inr (13, fs))] sz)) 0 0 (va_A [(h, .inr (13, fs))] sz) := by
  refine Met.ofW (cc := cX12_goes) (maxL := 4) (ret := (some .boolean)) (by decide) rfl ?_
  intro p e s m args below meth c s₁ B hml hv
  obtain ⟨rfl, hsz, hP, hK, hD0, hE⟩ := hv
  have hx := B.exec
  have hb := B.bytes
  have hr := B.returns
  have hts := atoms_spec (ws := wK_X12_goes_s) B.pre
  have hown : s.vm.findClass RX12 = some m.cls := findClass_of_methodNamed B.named
  have hlocks := B.notSynchronized
  subst hsz
  have hD := hD0.self (sz := s.heap.size)
  generalize hAe : va_A [(h, .inr (13, fs))] s.heap.size = A at hD hE ⊢
  have hA : ∀ q : Nat, s.heap.size ≤ q → A q := fun q h => by rw [← hAe]; exact Or.inr h
  have hS : va_S A s.heap s.heap [] := va_S.rf
  have hP : va_P D vwCl [(h, .inr (13, fs))] s.heap := hP
  have hl := lv_entry ([.ref h, .int 1, .int 0, .int y2]) (n := 4) (Nat.le_of_ble_eq_true rfl)
  rw [lg_entry_eq]
  generalize (lg_sl ([.ref h, .int 1, .int 0, .int y2]) ++ List.replicate (4 - (lg_sl ([.ref h, .int 1, .int 0, .int y2])).length) Slot.unset).toArray = ls at hl ⊢
  have hl : lv_has ls 4 [(0, .ref h), (1, .int 1), (2, .int 0), (3, .int y2)] := hl
  refine lv_aload_n hx hb dX12_goes_0 rfl (lv_at hl 0 rfl) ?_
  refine lv_iload_n hx hb dX12_goes_1 rfl (lv_at hl 1 rfl) ?_
  refine lv_if_ne (tgt := 9) hx hb dX12_goes_2 (by decide) (fun _ => ?_) (fun c_1 => absurd c_1 (by decide))
  refine lv_iload_n hx hb dX12_goes_9 rfl (lv_at hl 2 rfl) ?_
  refine lv_if_ne (tgt := 17) hx hb dX12_goes_10 (by decide) (fun c_2 => absurd (by decide) c_2) (fun _ => ?_)
  refine lv_iconst (v := 2) hx hb dX12_goes_13 (by decide) ?_
  refine lv_goto (tgt := 26) hx hb dX12_goes_14 (by decide) ?_
  refine va_put (D := D) (ci := 13) (v := .int 2) (ty := .int) (C := RX12) (T := TX12) (N := 109) hx hb hts wc_X12_goes_s_X12 tyX12 tyX12_ok nmX12 hown hK hP hD hS 0 rfl rfl 25 (by decide) (hts (.fieldLink RX12 271 "MixinUnitsModel" "thrown" "I") (wd_X12_goes_s _ (List.mem_of_getElem? (i := 0) rfl))) (fun _ h9 => h9) rfl (by decide +kernel) rfl rfl (ls_lt len (Nat.le_of_ble_eq_true rfl)) dX12_goes_26 (fun H locs hP hD hS => ?_)
  have hP : va_P D vwCl [(h, .inr (13, (List.set fs 25 (.int 2))))] H := hP
  have hD : va_D A [(h, .inr (13, (List.set fs 25 (.int 2))))] := hD
  refine lv_aload_n hx hb dX12_goes_29 rfl (lv_at hl 0 rfl) ?_
  refine va_get (D := D) (ci := 13) (v := .int 2) (C := RX12) (T := TX12) (N := 109) hx hb hts wc_X12_goes_s_X12 hown hK hP 0 rfl rfl 25 (by decide) (hts (.fieldLink RX12 271 "MixinUnitsModel" "thrown" "I") (wd_X12_goes_s _ (List.mem_of_getElem? (i := 0) rfl))) (fun _ h9 => h9) (ls_self len (Nat.le_of_ble_eq_true rfl)) dX12_goes_30 ?_
  refine lv_if_ne (tgt := 40) hx hb dX12_goes_33 (by decide) (fun _ => ?_) (fun c_3 => absurd c_3 (by decide))
  refine lv_iconst (v := 0) hx hb dX12_goes_40 (by decide) ?_
  have hP9 := hP.sub (ws' := [(h, .inr (13, (List.set fs 25 (.int 2))))]) [0] rfl
  have hD9 := hD.sub (ws' := [(h, .inr (13, (List.set fs 25 (.int 2))))]) [0] (by decide) rfl
  exact W.zret (v := 0) hx hb hr rfl (fun t ht hW => ⟨⟨_, (), rfl, rfl, trivial, by rw [ht]; exact hP9, va_K.moved hW.alike hK, hD9⟩, hS.F ht⟩) hS.2.2 dX12_goes_41

def wD_X12_goes_t : List Cond := [.fieldLink RX12 271 "MixinUnitsModel" "thrown" "I"]
def wK_X12_goes_t : List Cond := .code yX12_goes cX12_goes 4 (some .boolean) :: (wD_X12_goes_t ++ (wsX120 ++ ([] : List Cond)))
theorem wd_X12_goes_t : ∀ w ∈ wD_X12_goes_t, w ∈ wK_X12_goes_t := fun w h => List.mem_cons_of_mem _ (List.mem_append_left _ h)
theorem gd_X12_goes_t : (wK_X12_goes_t).all goodWord = true := by decide +kernel
theorem wc_X12_goes_t_X12 : ∀ w ∈ wsX120, w ∈ wK_X12_goes_t := fun w h => List.mem_cons_of_mem _ (List.mem_append_right _ (List.mem_append_left _ h))
set_option maxHeartbeats 4000000 in
set_option maxRecDepth 100000 in
/-- goes: _t -/
theorem c_X12_goes_t (l : Launch) (D : va_G) (dT : Nat → ClassId) (sz : Nat) (h : Nat) (fs : List Value) (len : fs.length = 109) : Met l yX12_goes wK_X12_goes_t ({ frames := 0, cells := 0, slots := 0, locals := 0 }) (va_Pc [.ref h, .int 1, .int 1, .int 0] (fun U => U.heap.size = sz ∧ va_P D vwCl [(h, .inr (13, fs))] U.heap ∧ va_K D vwCl (tysW dT) U ∧ va_D (fun _ => True) [(h, .inr (13, fs))] ∧ EN (va_A [(h, .inr (13, fs))] sz) U)) (va_Qi (fun (r : Int32) (_u : Unit) => r = 0) (fun (_u : Unit) t => True ∧ va_P D vwCl [(h, .inr (13, (List.set fs 25 (.int 3))))] t.heap ∧ va_K D vwCl (tysW dT) t ∧ va_D (va_A [(h, .inr (13, fs))] sz) [(h, .inr (13, (List.set fs 25 (.int 3))))]) (va_A [(h, .inr (13, fs))] sz)) 0 0 (va_A [(h, .inr (13, fs))] sz) := by
  refine Met.ofW (cc := cX12_goes) (maxL := 4) (ret := (some .boolean)) (by decide) rfl ?_
  intro p e s m args below meth c s₁ B hml hv
  obtain ⟨rfl, hsz, hP, hK, hD0, hE⟩ := hv
  have hx := B.exec
  have hb := B.bytes
  have hr := B.returns
  have hts := atoms_spec (ws := wK_X12_goes_t) B.pre
  have hown : s.vm.findClass RX12 = some m.cls := findClass_of_methodNamed B.named
  have hlocks := B.notSynchronized
  subst hsz
  have hD := hD0.self (sz := s.heap.size)
  generalize hAe : va_A [(h, .inr (13, fs))] s.heap.size = A at hD hE ⊢
  have hA : ∀ q : Nat, s.heap.size ≤ q → A q := fun q h => by rw [← hAe]; exact Or.inr h
  have hS : va_S A s.heap s.heap [] := va_S.rf
  have hP : va_P D vwCl [(h, .inr (13, fs))] s.heap := hP
  have hl := lv_entry ([.ref h, .int 1, .int 1, .int 0]) (n := 4) (Nat.le_of_ble_eq_true rfl)
  rw [lg_entry_eq]
  generalize (lg_sl ([.ref h, .int 1, .int 1, .int 0]) ++ List.replicate (4 - (lg_sl ([.ref h, .int 1, .int 1, .int 0])).length) Slot.unset).toArray = ls at hl ⊢
  have hl : lv_has ls 4 [(0, .ref h), (1, .int 1), (2, .int 1), (3, .int 0)] := hl
  refine lv_aload_n hx hb dX12_goes_0 rfl (lv_at hl 0 rfl) ?_
  refine lv_iload_n hx hb dX12_goes_1 rfl (lv_at hl 1 rfl) ?_
  refine lv_if_ne (tgt := 9) hx hb dX12_goes_2 (by decide) (fun _ => ?_) (fun c_1 => absurd c_1 (by decide))
  refine lv_iload_n hx hb dX12_goes_9 rfl (lv_at hl 2 rfl) ?_
  refine lv_if_ne (tgt := 17) hx hb dX12_goes_10 (by decide) (fun _ => ?_) (fun c_2 => absurd c_2 (by decide))
  refine lv_iload_n hx hb dX12_goes_17 rfl (lv_at hl 3 rfl) ?_
  refine lv_if_ne (tgt := 25) hx hb dX12_goes_18 (by decide) (fun c_3 => absurd (by decide) c_3) (fun _ => ?_)
  refine lv_iconst (v := 3) hx hb dX12_goes_21 (by decide) ?_
  refine lv_goto (tgt := 26) hx hb dX12_goes_22 (by decide) ?_
  refine va_put (D := D) (ci := 13) (v := .int 3) (ty := .int) (C := RX12) (T := TX12) (N := 109) hx hb hts wc_X12_goes_t_X12 tyX12 tyX12_ok nmX12 hown hK hP hD hS 0 rfl rfl 25 (by decide) (hts (.fieldLink RX12 271 "MixinUnitsModel" "thrown" "I") (wd_X12_goes_t _ (List.mem_of_getElem? (i := 0) rfl))) (fun _ h9 => h9) rfl (by decide +kernel) rfl rfl (ls_lt len (Nat.le_of_ble_eq_true rfl)) dX12_goes_26 (fun H locs hP hD hS => ?_)
  have hP : va_P D vwCl [(h, .inr (13, (List.set fs 25 (.int 3))))] H := hP
  have hD : va_D A [(h, .inr (13, (List.set fs 25 (.int 3))))] := hD
  refine lv_aload_n hx hb dX12_goes_29 rfl (lv_at hl 0 rfl) ?_
  refine va_get (D := D) (ci := 13) (v := .int 3) (C := RX12) (T := TX12) (N := 109) hx hb hts wc_X12_goes_t_X12 hown hK hP 0 rfl rfl 25 (by decide) (hts (.fieldLink RX12 271 "MixinUnitsModel" "thrown" "I") (wd_X12_goes_t _ (List.mem_of_getElem? (i := 0) rfl))) (fun _ h9 => h9) (ls_self len (Nat.le_of_ble_eq_true rfl)) dX12_goes_30 ?_
  refine lv_if_ne (tgt := 40) hx hb dX12_goes_33 (by decide) (fun _ => ?_) (fun c_4 => absurd c_4 (by decide))
  refine lv_iconst (v := 0) hx hb dX12_goes_40 (by decide) ?_
  have hP9 := hP.sub (ws' := [(h, .inr (13, (List.set fs 25 (.int 3))))]) [0] rfl
  have hD9 := hD.sub (ws' := [(h, .inr (13, (List.set fs 25 (.int 3))))]) [0] (by decide) rfl
  exact W.zret (v := 0) hx hb hr rfl (fun t ht hW => ⟨⟨_, (), rfl, rfl, trivial, by rw [ht]; exact hP9, va_K.moved hW.alike hK, hD9⟩, hS.F ht⟩) hS.2.2 dX12_goes_41

def wD_X12_goes_ok : List Cond := [.fieldLink RX12 271 "MixinUnitsModel" "thrown" "I"]
def wK_X12_goes_ok : List Cond := .code yX12_goes cX12_goes 4 (some .boolean) :: (wD_X12_goes_ok ++ (wsX120 ++ ([] : List Cond)))
theorem wd_X12_goes_ok : ∀ w ∈ wD_X12_goes_ok, w ∈ wK_X12_goes_ok := fun w h => List.mem_cons_of_mem _ (List.mem_append_left _ h)
theorem gd_X12_goes_ok : (wK_X12_goes_ok).all goodWord = true := by decide +kernel
theorem wc_X12_goes_ok_X12 : ∀ w ∈ wsX120, w ∈ wK_X12_goes_ok := fun w h => List.mem_cons_of_mem _ (List.mem_append_right _ (List.mem_append_left _ h))
set_option maxHeartbeats 4000000 in
set_option maxRecDepth 100000 in
/-- goes: _ok -/
theorem c_X12_goes_ok (l : Launch) (D : va_G) (dT : Nat → ClassId) (sz : Nat) (h : Nat) (fs : List Value) (len : fs.length = 109) : Met l yX12_goes wK_X12_goes_ok ({ frames := 0, cells := 0, slots := 0, locals := 0 }) (va_Pc [.ref h, .int 1, .int 1, .int 1] (fun U => U.heap.size = sz ∧ va_P D vwCl [(h, .inr (13, fs))] U.heap ∧ va_K D vwCl (tysW dT) U ∧ va_D (fun _ => True) [(h, .inr (13, fs))] ∧ EN (va_A [(h, .inr (13, fs))] sz) U)) (va_Qi (fun (r : Int32) (_u : Unit) => r = 1) (fun (_u : Unit) t => True ∧ va_P D vwCl [(h, .inr (13, (List.set fs 25 (.int 0))))] t.heap ∧ va_K D vwCl (tysW dT) t ∧ va_D (va_A [(h, .inr (13, fs))] sz) [(h, .inr (13, (List.set fs 25 (.int 0))))]) (va_A [(h, .inr (13, fs))] sz)) 0 0 (va_A [(h, .inr (13, fs))] sz) := by
  refine Met.ofW (cc := cX12_goes) (maxL := 4) (ret := (some .boolean)) (by decide) rfl ?_
  intro p e s m args below meth c s₁ B hml hv
  obtain ⟨rfl, hsz, hP, hK, hD0, hE⟩ := hv
  have hx := B.exec
  have hb := B.bytes
  have hr := B.returns
  have hts := atoms_spec (ws := wK_X12_goes_ok) B.pre
  have hown : s.vm.findClass RX12 = some m.cls := findClass_of_methodNamed B.named
  have hlocks := B.notSynchronized
  subst hsz
  have hD := hD0.self (sz := s.heap.size)
  generalize hAe : va_A [(h, .inr (13, fs))] s.heap.size = A at hD hE ⊢
  have hA : ∀ q : Nat, s.heap.size ≤ q → A q := fun q h => by rw [← hAe]; exact Or.inr h
  have hS : va_S A s.heap s.heap [] := va_S.rf
  have hP : va_P D vwCl [(h, .inr (13, fs))] s.heap := hP
  have hl := lv_entry ([.ref h, .int 1, .int 1, .int 1]) (n := 4) (Nat.le_of_ble_eq_true rfl)
  rw [lg_entry_eq]
  generalize (lg_sl ([.ref h, .int 1, .int 1, .int 1]) ++ List.replicate (4 - (lg_sl ([.ref h, .int 1, .int 1, .int 1])).length) Slot.unset).toArray = ls at hl ⊢
  have hl : lv_has ls 4 [(0, .ref h), (1, .int 1), (2, .int 1), (3, .int 1)] := hl
  refine lv_aload_n hx hb dX12_goes_0 rfl (lv_at hl 0 rfl) ?_
  refine lv_iload_n hx hb dX12_goes_1 rfl (lv_at hl 1 rfl) ?_
  refine lv_if_ne (tgt := 9) hx hb dX12_goes_2 (by decide) (fun _ => ?_) (fun c_1 => absurd c_1 (by decide))
  refine lv_iload_n hx hb dX12_goes_9 rfl (lv_at hl 2 rfl) ?_
  refine lv_if_ne (tgt := 17) hx hb dX12_goes_10 (by decide) (fun _ => ?_) (fun c_2 => absurd c_2 (by decide))
  refine lv_iload_n hx hb dX12_goes_17 rfl (lv_at hl 3 rfl) ?_
  refine lv_if_ne (tgt := 25) hx hb dX12_goes_18 (by decide) (fun _ => ?_) (fun c_3 => absurd c_3 (by decide))
  refine lv_iconst (v := 0) hx hb dX12_goes_25 (by decide) ?_
  refine va_put (D := D) (ci := 13) (v := .int 0) (ty := .int) (C := RX12) (T := TX12) (N := 109) hx hb hts wc_X12_goes_ok_X12 tyX12 tyX12_ok nmX12 hown hK hP hD hS 0 rfl rfl 25 (by decide) (hts (.fieldLink RX12 271 "MixinUnitsModel" "thrown" "I") (wd_X12_goes_ok _ (List.mem_of_getElem? (i := 0) rfl))) (fun _ h9 => h9) rfl (by decide +kernel) rfl rfl (ls_lt len (Nat.le_of_ble_eq_true rfl)) dX12_goes_26 (fun H locs hP hD hS => ?_)
  have hP : va_P D vwCl [(h, .inr (13, (List.set fs 25 (.int 0))))] H := hP
  have hD : va_D A [(h, .inr (13, (List.set fs 25 (.int 0))))] := hD
  refine lv_aload_n hx hb dX12_goes_29 rfl (lv_at hl 0 rfl) ?_
  refine va_get (D := D) (ci := 13) (v := .int 0) (C := RX12) (T := TX12) (N := 109) hx hb hts wc_X12_goes_ok_X12 hown hK hP 0 rfl rfl 25 (by decide) (hts (.fieldLink RX12 271 "MixinUnitsModel" "thrown" "I") (wd_X12_goes_ok _ (List.mem_of_getElem? (i := 0) rfl))) (fun _ h9 => h9) (ls_self len (Nat.le_of_ble_eq_true rfl)) dX12_goes_30 ?_
  refine lv_if_ne (tgt := 40) hx hb dX12_goes_33 (by decide) (fun c_4 => absurd (by decide) c_4) (fun _ => ?_)
  refine lv_iconst (v := 1) hx hb dX12_goes_36 (by decide) ?_
  refine lv_goto (tgt := 41) hx hb dX12_goes_37 (by decide) ?_
  have hP9 := hP.sub (ws' := [(h, .inr (13, (List.set fs 25 (.int 0))))]) [0] rfl
  have hD9 := hD.sub (ws' := [(h, .inr (13, (List.set fs 25 (.int 0))))]) [0] (by decide) rfl
  exact W.zret (v := 1) hx hb hr rfl (fun t ht hW => ⟨⟨_, (), rfl, rfl, trivial, by rw [ht]; exact hP9, va_K.moved hW.alike hK, hD9⟩, hS.F ht⟩) hS.2.2 dX12_goes_41

def wD_X12_thrown : List Cond := [.fieldLink RX12 271 "MixinUnitsModel" "thrown" "I"]
def wK_X12_thrown : List Cond := .code yX12_thrown cX12_thrown 1 (some .int) :: (wD_X12_thrown ++ (wsX120 ++ ([] : List Cond)))
theorem wd_X12_thrown : ∀ w ∈ wD_X12_thrown, w ∈ wK_X12_thrown := fun w h => List.mem_cons_of_mem _ (List.mem_append_left _ h)
theorem gd_X12_thrown : (wK_X12_thrown).all goodWord = true := by decide +kernel
theorem wc_X12_thrown_X12 : ∀ w ∈ wsX120, w ∈ wK_X12_thrown := fun w h => List.mem_cons_of_mem _ (List.mem_append_right _ (List.mem_append_left _ h))
set_option maxHeartbeats 4000000 in
set_option maxRecDepth 100000 in
theorem c_X12_thrown (l : Launch) (D : va_G) (dT : Nat → ClassId) (sz : Nat) (h : Nat) (fs : List Value) (v : Int32) (thr : fs[25]? = some (.int v)) : Met l yX12_thrown wK_X12_thrown ({ frames := 0, cells := 0, slots := 0, locals := 0 }) (va_Pc [.ref h] (fun U => U.heap.size = sz ∧ va_P D vwCl [(h, .inr (13, fs))] U.heap ∧ va_K D vwCl (tysW dT) U ∧ va_D (fun _ => True) [(h, .inr (13, fs))] ∧ EN (va_A [(h, .inr (13, fs))] sz) U)) (va_Qi (fun (r : Int32) (_u : Unit) => r = v) (fun (_u : Unit) t => True ∧ va_P D vwCl [(h, .inr (13, fs))] t.heap ∧ va_K D vwCl (tysW dT) t ∧ va_D (va_A [(h, .inr (13, fs))] sz) [(h, .inr (13, fs))]) (va_A [(h, .inr (13, fs))] sz)) 0 0 (va_A [(h, .inr (13, fs))] sz) := by
  refine Met.ofW (cc := cX12_thrown) (maxL := 1) (ret := (some .int)) (by decide) rfl ?_
  intro p e s m args below meth c s₁ B hml hv
  obtain ⟨rfl, hsz, hP, hK, hD0, hE⟩ := hv
  have hx := B.exec
  have hb := B.bytes
  have hr := B.returns
  have hts := atoms_spec (ws := wK_X12_thrown) B.pre
  have hown : s.vm.findClass RX12 = some m.cls := findClass_of_methodNamed B.named
  have hlocks := B.notSynchronized
  subst hsz
  have hD := hD0.self (sz := s.heap.size)
  generalize hAe : va_A [(h, .inr (13, fs))] s.heap.size = A at hD hE ⊢
  have hA : ∀ q : Nat, s.heap.size ≤ q → A q := fun q h => by rw [← hAe]; exact Or.inr h
  have hS : va_S A s.heap s.heap [] := va_S.rf
  have hP : va_P D vwCl [(h, .inr (13, fs))] s.heap := hP
  have hl := lv_entry ([.ref h]) (n := 1) (Nat.le_of_ble_eq_true rfl)
  rw [lg_entry_eq]
  generalize (lg_sl ([.ref h]) ++ List.replicate (1 - (lg_sl ([.ref h])).length) Slot.unset).toArray = ls at hl ⊢
  have hl : lv_has ls 1 [(0, .ref h)] := hl
  refine lv_aload_n hx hb dX12_thrown_0 rfl (lv_at hl 0 rfl) ?_
  refine va_get (D := D) (ci := 13) (v := .int v) (C := RX12) (T := TX12) (N := 109) hx hb hts wc_X12_thrown_X12 hown hK hP 0 rfl rfl 25 (by decide) (hts (.fieldLink RX12 271 "MixinUnitsModel" "thrown" "I") (wd_X12_thrown _ (List.mem_of_getElem? (i := 0) rfl))) (fun _ h9 => h9) thr dX12_thrown_1 ?_
  have hP9 := hP.sub (ws' := [(h, .inr (13, fs))]) [0] rfl
  have hD9 := hD.sub (ws' := [(h, .inr (13, fs))]) [0] (by decide) rfl
  exact W.iret (v := v) hx hb hr (fun t ht hW => ⟨⟨_, (), rfl, rfl, trivial, by rw [ht]; exact hP9, va_K.moved hW.alike hK, hD9⟩, hS.F ht⟩) hS.2.2 dX12_thrown_4

def wD_X12_isType : List Cond := [.fieldLink RX12 275 "MixinUnitsModel" "types" "I", .methodLink RX12 278 yX12_in, .static yX12_in, .initialized RX12]
def wK_X12_isType : List Cond := .code yX12_isType cX12_isType 2 (some .boolean) :: (wD_X12_isType ++ (wsX120 ++ (wK_X12_in ++ ([] : List Cond))))
theorem wd_X12_isType : ∀ w ∈ wD_X12_isType, w ∈ wK_X12_isType := fun w h => List.mem_cons_of_mem _ (List.mem_append_left _ h)
theorem gd_X12_isType : (wK_X12_isType).all goodWord = true := by decide +kernel
theorem wc_X12_isType_X12 : ∀ w ∈ wsX120, w ∈ wK_X12_isType := fun w h => List.mem_cons_of_mem _ (List.mem_append_right _ (List.mem_append_left _ h))
theorem wq_X12_isType_X12_in : ∀ w ∈ wK_X12_in, w ∈ wK_X12_isType := fun w h => List.mem_cons_of_mem _ (List.mem_append_right _ (List.mem_append_right _ (List.mem_append_left _ h)))
set_option maxHeartbeats 4000000 in
set_option maxRecDepth 100000 in
/-- isType of a fresh reference -/
theorem c_X12_isType (l : Launch) (D : va_G) (dT : Nat → ClassId) (sz : Nat) (h : Nat) (fs : List Value) (tm : Nat → Nat) (its : Int32) (hF : FM fs tm) : Met l yX12_isType wK_X12_isType ({ frames := 1, cells := 0, slots := 0, locals := 22 }) (va_Pc [.ref h, .int its] (fun U => U.heap.size = sz ∧ va_P D vwCl [(h, .inr (13, fs))] U.heap ∧ va_K D vwCl (tysW dT) U ∧ va_D (fun _ => True) [(h, .inr (13, fs))] ∧ EN (va_A [(h, .inr (13, fs))] sz) U)) (va_Qi (fun (r : Int32) (_u : Unit) => r = 0) (fun (_u : Unit) t => True ∧ va_P D vwCl [(h, .inr (13, fs))] t.heap ∧ va_K D vwCl (tysW dT) t ∧ va_D (va_A [(h, .inr (13, fs))] sz) [(h, .inr (13, fs))]) (va_A [(h, .inr (13, fs))] sz)) 0 0 (va_A [(h, .inr (13, fs))] sz) := by
  refine Met.ofW (cc := cX12_isType) (maxL := 2) (ret := (some .boolean)) (by decide) rfl ?_
  intro p e s m args below meth c s₁ B hml hv
  obtain ⟨rfl, hsz, hP, hK, hD0, hE⟩ := hv
  have hx := B.exec
  have hb := B.bytes
  have hr := B.returns
  have hts := atoms_spec (ws := wK_X12_isType) B.pre
  have hown : s.vm.findClass RX12 = some m.cls := findClass_of_methodNamed B.named
  have hlocks := B.notSynchronized
  subst hsz
  have hD := hD0.self (sz := s.heap.size)
  generalize hAe : va_A [(h, .inr (13, fs))] s.heap.size = A at hD hE ⊢
  have hA : ∀ q : Nat, s.heap.size ≤ q → A q := fun q h => by rw [← hAe]; exact Or.inr h
  have hS : va_S A s.heap s.heap [] := va_S.rf
  have hP : va_P D vwCl [(h, .inr (13, fs))] s.heap := hP
  have hl := lv_entry ([.ref h, .int its]) (n := 2) (Nat.le_of_ble_eq_true rfl)
  rw [lg_entry_eq]
  generalize (lg_sl ([.ref h, .int its]) ++ List.replicate (2 - (lg_sl ([.ref h, .int its])).length) Slot.unset).toArray = ls at hl ⊢
  have hl : lv_has ls 2 [(0, .ref h), (1, .int its)] := hl
  refine lv_iload_n hx hb dX12_isType_0 rfl (lv_at hl 1 rfl) ?_
  refine lv_iconst (v := 0) hx hb dX12_isType_1 (by decide) ?_
  refine lv_aload_n hx hb dX12_isType_2 rfl (lv_at hl 0 rfl) ?_
  refine va_get (D := D) (ci := 13) (v := .int 0) (C := RX12) (T := TX12) (N := 109) hx hb hts wc_X12_isType_X12 hown hK hP 0 rfl rfl 0 (by decide) (hts (.fieldLink RX12 275 "MixinUnitsModel" "types" "I") (wd_X12_isType _ (List.mem_of_getElem? (i := 0) rfl))) (fun _ h9 => h9) (FM.at hF (j := 0) (q := (0, .int 0)) rfl) dX12_isType_3 ?_
  refine lv_iconst (v := 1) hx hb dX12_isType_6 (by decide) ?_
  refine lv_isub hx hb dX12_isType_7 ?_
  refine lv_topi (fun x_1 ex_1 => ?_)
  obtain rfl : x_1 = (-1) := ex_1.trans (by decide)
  have hPc := hP.sub (ws' := []) [] rfl
  have hDc := hD.sub (ws' := []) [] (by decide) rfl
  have hFc := va_free (wc := []) hD hS hA [] rfl
  refine va_calli (va_runS (As := [.int its, .int 0, .int (-1)]) (rest := []) ⟨hx, hb, hml, hown, hts⟩ (c_X12_in l D dT s.heap.size its 0 (-1)) (va_cwS 3 hts (goodIn_app (goodIn_r _ [2, 3, 4] rfl (by decide +kernel)) (goodIn_sub wq_X12_isType_X12_in gd_X12_in)) rfl rfl rfl (by decide +kernel) ⟨Nat.le_of_ble_eq_true rfl, Nat.le_of_ble_eq_true rfl⟩) ⟨(fun a U g mk q => by obtain ⟨z0, z1, zP, zK, zD, zE⟩ := q; exact ⟨z0, z1, zP, va_K.moved (u := U) (U := U.calling g mk a) (Vm.Alike.refl U.vm) zK, zD, EN.frame zE⟩), fun U hU hW => ⟨rfl, by rw [hU], by rw [hU]; exact hPc, va_K.moved hW.alike hK, hDc.weaken (fun _ _ _ _ => trivial), EN.call hE hS hFc hW hU⟩⟩ rfl rfl hl.1 rfl (lv_room (Nat.le_of_ble_eq_true rfl)) dX12_isType_8 ⟨(Nat.le_of_ble_eq_true rfl), (Nat.le_of_ble_eq_true rfl)⟩) hS (fun q _ h => hFc q h) hFc (fun r_2 u_3 t H1 locs ht hvm hw hB hz1 hk1 hS => ?_)
  obtain ⟨-, hP1, hK1, hD1⟩ := hB
  rw [ht] at hP1
  obtain ⟨hP, hD⟩ := va_join (wr := [(h, .inr (13, fs))]) (w1 := []) hP hD [] [0] rfl rfl (by decide) (by decide) hk1 hFc hP1 hD1
  generalize H1 = H at hP hS ⊢
  have hP : va_P D vwCl [(h, .inr (13, fs))] H := hP
  have hD : va_D A [(h, .inr (13, fs))] := hD
  refine W.widen (k := 0) (n := 0) (Nat.le_of_ble_eq_true rfl) (Nat.le_of_ble_eq_true rfl) ?_
  have hw_4 := hw
  try dsimp only at hw_4
  rcases hw_4 with ⟨hc_5, rfl⟩ | ⟨hc_6, rfl⟩
  · have hP9 := hP.sub (ws' := [(h, .inr (13, fs))]) [0] rfl
    have hD9 := hD.sub (ws' := [(h, .inr (13, fs))]) [0] (by decide) rfl
    exact W.zret (v := 0) hx hb hr rfl (fun t ht hW => ⟨⟨_, (), rfl, rfl, trivial, by rw [ht]; exact hP9, va_K.moved hW.alike hK, hD9⟩, hS.F ht⟩) hS.2.2 dX12_isType_11
  · exfalso; simp only [Int32.lt_iff_toInt_lt, Int32.le_iff_toInt_le, i32_eq, ne_eq, gt_iff_lt, ge_iff_le, i32_0, i32_1, i32_2, i32_3, i32_4, i32_5, i32_6, i32_7, i32_9, i32_10, i32_m1] at hc_6 ⊢ <;> omega

def wD_X12_isExpression : List Cond := [.fieldLink RX12 282 "MixinUnitsModel" "expressions" "I", .methodLink RX12 278 yX12_in, .static yX12_in, .initialized RX12]
def wK_X12_isExpression : List Cond := .code yX12_isExpression cX12_isExpression 2 (some .boolean) :: (wD_X12_isExpression ++ (wsX120 ++ (wK_X12_in ++ ([] : List Cond))))
theorem wd_X12_isExpression : ∀ w ∈ wD_X12_isExpression, w ∈ wK_X12_isExpression := fun w h => List.mem_cons_of_mem _ (List.mem_append_left _ h)
theorem gd_X12_isExpression : (wK_X12_isExpression).all goodWord = true := by decide +kernel
theorem wc_X12_isExpression_X12 : ∀ w ∈ wsX120, w ∈ wK_X12_isExpression := fun w h => List.mem_cons_of_mem _ (List.mem_append_right _ (List.mem_append_left _ h))
theorem wq_X12_isExpression_X12_in : ∀ w ∈ wK_X12_in, w ∈ wK_X12_isExpression := fun w h => List.mem_cons_of_mem _ (List.mem_append_right _ (List.mem_append_right _ (List.mem_append_left _ h)))
set_option maxHeartbeats 4000000 in
set_option maxRecDepth 100000 in
/-- isExpression of a fresh reference -/
theorem c_X12_isExpression (l : Launch) (D : va_G) (dT : Nat → ClassId) (sz : Nat) (h : Nat) (fs : List Value) (tm : Nat → Nat) (its : Int32) (hF : FM fs tm) : Met l yX12_isExpression wK_X12_isExpression ({ frames := 1, cells := 0, slots := 0, locals := 22 }) (va_Pc [.ref h, .int its] (fun U => U.heap.size = sz ∧ va_P D vwCl [(h, .inr (13, fs))] U.heap ∧ va_K D vwCl (tysW dT) U ∧ va_D (fun _ => True) [(h, .inr (13, fs))] ∧ EN (va_A [(h, .inr (13, fs))] sz) U)) (va_Qi (fun (r : Int32) (_u : Unit) => r = 0) (fun (_u : Unit) t => True ∧ va_P D vwCl [(h, .inr (13, fs))] t.heap ∧ va_K D vwCl (tysW dT) t ∧ va_D (va_A [(h, .inr (13, fs))] sz) [(h, .inr (13, fs))]) (va_A [(h, .inr (13, fs))] sz)) 0 0 (va_A [(h, .inr (13, fs))] sz) := by
  refine Met.ofW (cc := cX12_isExpression) (maxL := 2) (ret := (some .boolean)) (by decide) rfl ?_
  intro p e s m args below meth c s₁ B hml hv
  obtain ⟨rfl, hsz, hP, hK, hD0, hE⟩ := hv
  have hx := B.exec
  have hb := B.bytes
  have hr := B.returns
  have hts := atoms_spec (ws := wK_X12_isExpression) B.pre
  have hown : s.vm.findClass RX12 = some m.cls := findClass_of_methodNamed B.named
  have hlocks := B.notSynchronized
  subst hsz
  have hD := hD0.self (sz := s.heap.size)
  generalize hAe : va_A [(h, .inr (13, fs))] s.heap.size = A at hD hE ⊢
  have hA : ∀ q : Nat, s.heap.size ≤ q → A q := fun q h => by rw [← hAe]; exact Or.inr h
  have hS : va_S A s.heap s.heap [] := va_S.rf
  have hP : va_P D vwCl [(h, .inr (13, fs))] s.heap := hP
  have hl := lv_entry ([.ref h, .int its]) (n := 2) (Nat.le_of_ble_eq_true rfl)
  rw [lg_entry_eq]
  generalize (lg_sl ([.ref h, .int its]) ++ List.replicate (2 - (lg_sl ([.ref h, .int its])).length) Slot.unset).toArray = ls at hl ⊢
  have hl : lv_has ls 2 [(0, .ref h), (1, .int its)] := hl
  refine lv_iload_n hx hb dX12_isExpression_0 rfl (lv_at hl 1 rfl) ?_
  refine lv_iconst (v := 0) hx hb dX12_isExpression_1 (by decide) ?_
  refine lv_aload_n hx hb dX12_isExpression_2 rfl (lv_at hl 0 rfl) ?_
  refine va_get (D := D) (ci := 13) (v := .int 0) (C := RX12) (T := TX12) (N := 109) hx hb hts wc_X12_isExpression_X12 hown hK hP 0 rfl rfl 6 (by decide) (hts (.fieldLink RX12 282 "MixinUnitsModel" "expressions" "I") (wd_X12_isExpression _ (List.mem_of_getElem? (i := 0) rfl))) (fun _ h9 => h9) (FM.at hF (j := 1) (q := (6, .int 0)) rfl) dX12_isExpression_3 ?_
  refine lv_iconst (v := 1) hx hb dX12_isExpression_6 (by decide) ?_
  refine lv_isub hx hb dX12_isExpression_7 ?_
  refine lv_topi (fun x_1 ex_1 => ?_)
  obtain rfl : x_1 = (-1) := ex_1.trans (by decide)
  have hPc := hP.sub (ws' := []) [] rfl
  have hDc := hD.sub (ws' := []) [] (by decide) rfl
  have hFc := va_free (wc := []) hD hS hA [] rfl
  refine va_calli (va_runS (As := [.int its, .int 0, .int (-1)]) (rest := []) ⟨hx, hb, hml, hown, hts⟩ (c_X12_in l D dT s.heap.size its 0 (-1)) (va_cwS 3 hts (goodIn_app (goodIn_r _ [2, 3, 4] rfl (by decide +kernel)) (goodIn_sub wq_X12_isExpression_X12_in gd_X12_in)) rfl rfl rfl (by decide +kernel) ⟨Nat.le_of_ble_eq_true rfl, Nat.le_of_ble_eq_true rfl⟩) ⟨(fun a U g mk q => by obtain ⟨z0, z1, zP, zK, zD, zE⟩ := q; exact ⟨z0, z1, zP, va_K.moved (u := U) (U := U.calling g mk a) (Vm.Alike.refl U.vm) zK, zD, EN.frame zE⟩), fun U hU hW => ⟨rfl, by rw [hU], by rw [hU]; exact hPc, va_K.moved hW.alike hK, hDc.weaken (fun _ _ _ _ => trivial), EN.call hE hS hFc hW hU⟩⟩ rfl rfl hl.1 rfl (lv_room (Nat.le_of_ble_eq_true rfl)) dX12_isExpression_8 ⟨(Nat.le_of_ble_eq_true rfl), (Nat.le_of_ble_eq_true rfl)⟩) hS (fun q _ h => hFc q h) hFc (fun r_2 u_3 t H1 locs ht hvm hw hB hz1 hk1 hS => ?_)
  obtain ⟨-, hP1, hK1, hD1⟩ := hB
  rw [ht] at hP1
  obtain ⟨hP, hD⟩ := va_join (wr := [(h, .inr (13, fs))]) (w1 := []) hP hD [] [0] rfl rfl (by decide) (by decide) hk1 hFc hP1 hD1
  generalize H1 = H at hP hS ⊢
  have hP : va_P D vwCl [(h, .inr (13, fs))] H := hP
  have hD : va_D A [(h, .inr (13, fs))] := hD
  refine W.widen (k := 0) (n := 0) (Nat.le_of_ble_eq_true rfl) (Nat.le_of_ble_eq_true rfl) ?_
  have hw_4 := hw
  try dsimp only at hw_4
  rcases hw_4 with ⟨hc_5, rfl⟩ | ⟨hc_6, rfl⟩
  · have hP9 := hP.sub (ws' := [(h, .inr (13, fs))]) [0] rfl
    have hD9 := hD.sub (ws' := [(h, .inr (13, fs))]) [0] (by decide) rfl
    exact W.zret (v := 0) hx hb hr rfl (fun t ht hW => ⟨⟨_, (), rfl, rfl, trivial, by rw [ht]; exact hP9, va_K.moved hW.alike hK, hD9⟩, hS.F ht⟩) hS.2.2 dX12_isExpression_11
  · exfalso; simp only [Int32.lt_iff_toInt_lt, Int32.le_iff_toInt_le, i32_eq, ne_eq, gt_iff_lt, ge_iff_le, i32_0, i32_1, i32_2, i32_3, i32_4, i32_5, i32_6, i32_7, i32_9, i32_10, i32_m1] at hc_6 ⊢ <;> omega

def wD_X12_isUnit : List Cond := [.fieldLink RX12 285 "MixinUnitsModel" "units" "I", .methodLink RX12 278 yX12_in, .static yX12_in, .initialized RX12]
def wK_X12_isUnit : List Cond := .code yX12_isUnit cX12_isUnit 2 (some .boolean) :: (wD_X12_isUnit ++ (wsX120 ++ (wK_X12_in ++ ([] : List Cond))))
theorem wd_X12_isUnit : ∀ w ∈ wD_X12_isUnit, w ∈ wK_X12_isUnit := fun w h => List.mem_cons_of_mem _ (List.mem_append_left _ h)
theorem gd_X12_isUnit : (wK_X12_isUnit).all goodWord = true := by decide +kernel
theorem wc_X12_isUnit_X12 : ∀ w ∈ wsX120, w ∈ wK_X12_isUnit := fun w h => List.mem_cons_of_mem _ (List.mem_append_right _ (List.mem_append_left _ h))
theorem wq_X12_isUnit_X12_in : ∀ w ∈ wK_X12_in, w ∈ wK_X12_isUnit := fun w h => List.mem_cons_of_mem _ (List.mem_append_right _ (List.mem_append_right _ (List.mem_append_left _ h)))
set_option maxHeartbeats 4000000 in
set_option maxRecDepth 100000 in
/-- isUnit of a fresh reference -/
theorem c_X12_isUnit (l : Launch) (D : va_G) (dT : Nat → ClassId) (sz : Nat) (h : Nat) (fs : List Value) (tm : Nat → Nat) (its : Int32) (hF : FM fs tm) : Met l yX12_isUnit wK_X12_isUnit ({ frames := 1, cells := 0, slots := 0, locals := 22 }) (va_Pc [.ref h, .int its] (fun U => U.heap.size = sz ∧ va_P D vwCl [(h, .inr (13, fs))] U.heap ∧ va_K D vwCl (tysW dT) U ∧ va_D (fun _ => True) [(h, .inr (13, fs))] ∧ EN (va_A [(h, .inr (13, fs))] sz) U)) (va_Qi (fun (r : Int32) (_u : Unit) => r = 0) (fun (_u : Unit) t => True ∧ va_P D vwCl [(h, .inr (13, fs))] t.heap ∧ va_K D vwCl (tysW dT) t ∧ va_D (va_A [(h, .inr (13, fs))] sz) [(h, .inr (13, fs))]) (va_A [(h, .inr (13, fs))] sz)) 0 0 (va_A [(h, .inr (13, fs))] sz) := by
  refine Met.ofW (cc := cX12_isUnit) (maxL := 2) (ret := (some .boolean)) (by decide) rfl ?_
  intro p e s m args below meth c s₁ B hml hv
  obtain ⟨rfl, hsz, hP, hK, hD0, hE⟩ := hv
  have hx := B.exec
  have hb := B.bytes
  have hr := B.returns
  have hts := atoms_spec (ws := wK_X12_isUnit) B.pre
  have hown : s.vm.findClass RX12 = some m.cls := findClass_of_methodNamed B.named
  have hlocks := B.notSynchronized
  subst hsz
  have hD := hD0.self (sz := s.heap.size)
  generalize hAe : va_A [(h, .inr (13, fs))] s.heap.size = A at hD hE ⊢
  have hA : ∀ q : Nat, s.heap.size ≤ q → A q := fun q h => by rw [← hAe]; exact Or.inr h
  have hS : va_S A s.heap s.heap [] := va_S.rf
  have hP : va_P D vwCl [(h, .inr (13, fs))] s.heap := hP
  have hl := lv_entry ([.ref h, .int its]) (n := 2) (Nat.le_of_ble_eq_true rfl)
  rw [lg_entry_eq]
  generalize (lg_sl ([.ref h, .int its]) ++ List.replicate (2 - (lg_sl ([.ref h, .int its])).length) Slot.unset).toArray = ls at hl ⊢
  have hl : lv_has ls 2 [(0, .ref h), (1, .int its)] := hl
  refine lv_iload_n hx hb dX12_isUnit_0 rfl (lv_at hl 1 rfl) ?_
  refine lv_iconst (v := 0) hx hb dX12_isUnit_1 (by decide) ?_
  refine lv_aload_n hx hb dX12_isUnit_2 rfl (lv_at hl 0 rfl) ?_
  refine va_get (D := D) (ci := 13) (v := .int 0) (C := RX12) (T := TX12) (N := 109) hx hb hts wc_X12_isUnit_X12 hown hK hP 0 rfl rfl 12 (by decide) (hts (.fieldLink RX12 285 "MixinUnitsModel" "units" "I") (wd_X12_isUnit _ (List.mem_of_getElem? (i := 0) rfl))) (fun _ h9 => h9) (FM.at hF (j := 2) (q := (12, .int 0)) rfl) dX12_isUnit_3 ?_
  refine lv_iconst (v := 1) hx hb dX12_isUnit_6 (by decide) ?_
  refine lv_isub hx hb dX12_isUnit_7 ?_
  refine lv_topi (fun x_1 ex_1 => ?_)
  obtain rfl : x_1 = (-1) := ex_1.trans (by decide)
  have hPc := hP.sub (ws' := []) [] rfl
  have hDc := hD.sub (ws' := []) [] (by decide) rfl
  have hFc := va_free (wc := []) hD hS hA [] rfl
  refine va_calli (va_runS (As := [.int its, .int 0, .int (-1)]) (rest := []) ⟨hx, hb, hml, hown, hts⟩ (c_X12_in l D dT s.heap.size its 0 (-1)) (va_cwS 3 hts (goodIn_app (goodIn_r _ [2, 3, 4] rfl (by decide +kernel)) (goodIn_sub wq_X12_isUnit_X12_in gd_X12_in)) rfl rfl rfl (by decide +kernel) ⟨Nat.le_of_ble_eq_true rfl, Nat.le_of_ble_eq_true rfl⟩) ⟨(fun a U g mk q => by obtain ⟨z0, z1, zP, zK, zD, zE⟩ := q; exact ⟨z0, z1, zP, va_K.moved (u := U) (U := U.calling g mk a) (Vm.Alike.refl U.vm) zK, zD, EN.frame zE⟩), fun U hU hW => ⟨rfl, by rw [hU], by rw [hU]; exact hPc, va_K.moved hW.alike hK, hDc.weaken (fun _ _ _ _ => trivial), EN.call hE hS hFc hW hU⟩⟩ rfl rfl hl.1 rfl (lv_room (Nat.le_of_ble_eq_true rfl)) dX12_isUnit_8 ⟨(Nat.le_of_ble_eq_true rfl), (Nat.le_of_ble_eq_true rfl)⟩) hS (fun q _ h => hFc q h) hFc (fun r_2 u_3 t H1 locs ht hvm hw hB hz1 hk1 hS => ?_)
  obtain ⟨-, hP1, hK1, hD1⟩ := hB
  rw [ht] at hP1
  obtain ⟨hP, hD⟩ := va_join (wr := [(h, .inr (13, fs))]) (w1 := []) hP hD [] [0] rfl rfl (by decide) (by decide) hk1 hFc hP1 hD1
  generalize H1 = H at hP hS ⊢
  have hP : va_P D vwCl [(h, .inr (13, fs))] H := hP
  have hD : va_D A [(h, .inr (13, fs))] := hD
  refine W.widen (k := 0) (n := 0) (Nat.le_of_ble_eq_true rfl) (Nat.le_of_ble_eq_true rfl) ?_
  have hw_4 := hw
  try dsimp only at hw_4
  rcases hw_4 with ⟨hc_5, rfl⟩ | ⟨hc_6, rfl⟩
  · have hP9 := hP.sub (ws' := [(h, .inr (13, fs))]) [0] rfl
    have hD9 := hD.sub (ws' := [(h, .inr (13, fs))]) [0] (by decide) rfl
    exact W.zret (v := 0) hx hb hr rfl (fun t ht hW => ⟨⟨_, (), rfl, rfl, trivial, by rw [ht]; exact hP9, va_K.moved hW.alike hK, hD9⟩, hS.F ht⟩) hS.2.2 dX12_isUnit_11
  · exfalso; simp only [Int32.lt_iff_toInt_lt, Int32.le_iff_toInt_le, i32_eq, ne_eq, gt_iff_lt, ge_iff_le, i32_0, i32_1, i32_2, i32_3, i32_4, i32_5, i32_6, i32_7, i32_9, i32_10, i32_m1] at hc_6 ⊢ <;> omega

def wD_X12_isNode : List Cond := [.fieldLink RX12 288 "MixinUnitsModel" "nodes" "I", .methodLink RX12 278 yX12_in, .static yX12_in, .initialized RX12]
def wK_X12_isNode : List Cond := .code yX12_isNode cX12_isNode 2 (some .boolean) :: (wD_X12_isNode ++ (wsX120 ++ (wK_X12_in ++ ([] : List Cond))))
theorem wd_X12_isNode : ∀ w ∈ wD_X12_isNode, w ∈ wK_X12_isNode := fun w h => List.mem_cons_of_mem _ (List.mem_append_left _ h)
theorem gd_X12_isNode : (wK_X12_isNode).all goodWord = true := by decide +kernel
theorem wc_X12_isNode_X12 : ∀ w ∈ wsX120, w ∈ wK_X12_isNode := fun w h => List.mem_cons_of_mem _ (List.mem_append_right _ (List.mem_append_left _ h))
theorem wq_X12_isNode_X12_in : ∀ w ∈ wK_X12_in, w ∈ wK_X12_isNode := fun w h => List.mem_cons_of_mem _ (List.mem_append_right _ (List.mem_append_right _ (List.mem_append_left _ h)))
set_option maxHeartbeats 4000000 in
set_option maxRecDepth 100000 in
/-- isNode of a fresh reference -/
theorem c_X12_isNode (l : Launch) (D : va_G) (dT : Nat → ClassId) (sz : Nat) (h : Nat) (fs : List Value) (tm : Nat → Nat) (its : Int32) (hF : FM fs tm) : Met l yX12_isNode wK_X12_isNode ({ frames := 1, cells := 0, slots := 0, locals := 22 }) (va_Pc [.ref h, .int its] (fun U => U.heap.size = sz ∧ va_P D vwCl [(h, .inr (13, fs))] U.heap ∧ va_K D vwCl (tysW dT) U ∧ va_D (fun _ => True) [(h, .inr (13, fs))] ∧ EN (va_A [(h, .inr (13, fs))] sz) U)) (va_Qi (fun (r : Int32) (_u : Unit) => r = 0) (fun (_u : Unit) t => True ∧ va_P D vwCl [(h, .inr (13, fs))] t.heap ∧ va_K D vwCl (tysW dT) t ∧ va_D (va_A [(h, .inr (13, fs))] sz) [(h, .inr (13, fs))]) (va_A [(h, .inr (13, fs))] sz)) 0 0 (va_A [(h, .inr (13, fs))] sz) := by
  refine Met.ofW (cc := cX12_isNode) (maxL := 2) (ret := (some .boolean)) (by decide) rfl ?_
  intro p e s m args below meth c s₁ B hml hv
  obtain ⟨rfl, hsz, hP, hK, hD0, hE⟩ := hv
  have hx := B.exec
  have hb := B.bytes
  have hr := B.returns
  have hts := atoms_spec (ws := wK_X12_isNode) B.pre
  have hown : s.vm.findClass RX12 = some m.cls := findClass_of_methodNamed B.named
  have hlocks := B.notSynchronized
  subst hsz
  have hD := hD0.self (sz := s.heap.size)
  generalize hAe : va_A [(h, .inr (13, fs))] s.heap.size = A at hD hE ⊢
  have hA : ∀ q : Nat, s.heap.size ≤ q → A q := fun q h => by rw [← hAe]; exact Or.inr h
  have hS : va_S A s.heap s.heap [] := va_S.rf
  have hP : va_P D vwCl [(h, .inr (13, fs))] s.heap := hP
  have hl := lv_entry ([.ref h, .int its]) (n := 2) (Nat.le_of_ble_eq_true rfl)
  rw [lg_entry_eq]
  generalize (lg_sl ([.ref h, .int its]) ++ List.replicate (2 - (lg_sl ([.ref h, .int its])).length) Slot.unset).toArray = ls at hl ⊢
  have hl : lv_has ls 2 [(0, .ref h), (1, .int its)] := hl
  refine lv_iload_n hx hb dX12_isNode_0 rfl (lv_at hl 1 rfl) ?_
  refine lv_iconst (v := 0) hx hb dX12_isNode_1 (by decide) ?_
  refine lv_aload_n hx hb dX12_isNode_2 rfl (lv_at hl 0 rfl) ?_
  refine va_get (D := D) (ci := 13) (v := .int 0) (C := RX12) (T := TX12) (N := 109) hx hb hts wc_X12_isNode_X12 hown hK hP 0 rfl rfl 18 (by decide) (hts (.fieldLink RX12 288 "MixinUnitsModel" "nodes" "I") (wd_X12_isNode _ (List.mem_of_getElem? (i := 0) rfl))) (fun _ h9 => h9) (FM.at hF (j := 3) (q := (18, .int 0)) rfl) dX12_isNode_3 ?_
  refine lv_iconst (v := 1) hx hb dX12_isNode_6 (by decide) ?_
  refine lv_isub hx hb dX12_isNode_7 ?_
  refine lv_topi (fun x_1 ex_1 => ?_)
  obtain rfl : x_1 = (-1) := ex_1.trans (by decide)
  have hPc := hP.sub (ws' := []) [] rfl
  have hDc := hD.sub (ws' := []) [] (by decide) rfl
  have hFc := va_free (wc := []) hD hS hA [] rfl
  refine va_calli (va_runS (As := [.int its, .int 0, .int (-1)]) (rest := []) ⟨hx, hb, hml, hown, hts⟩ (c_X12_in l D dT s.heap.size its 0 (-1)) (va_cwS 3 hts (goodIn_app (goodIn_r _ [2, 3, 4] rfl (by decide +kernel)) (goodIn_sub wq_X12_isNode_X12_in gd_X12_in)) rfl rfl rfl (by decide +kernel) ⟨Nat.le_of_ble_eq_true rfl, Nat.le_of_ble_eq_true rfl⟩) ⟨(fun a U g mk q => by obtain ⟨z0, z1, zP, zK, zD, zE⟩ := q; exact ⟨z0, z1, zP, va_K.moved (u := U) (U := U.calling g mk a) (Vm.Alike.refl U.vm) zK, zD, EN.frame zE⟩), fun U hU hW => ⟨rfl, by rw [hU], by rw [hU]; exact hPc, va_K.moved hW.alike hK, hDc.weaken (fun _ _ _ _ => trivial), EN.call hE hS hFc hW hU⟩⟩ rfl rfl hl.1 rfl (lv_room (Nat.le_of_ble_eq_true rfl)) dX12_isNode_8 ⟨(Nat.le_of_ble_eq_true rfl), (Nat.le_of_ble_eq_true rfl)⟩) hS (fun q _ h => hFc q h) hFc (fun r_2 u_3 t H1 locs ht hvm hw hB hz1 hk1 hS => ?_)
  obtain ⟨-, hP1, hK1, hD1⟩ := hB
  rw [ht] at hP1
  obtain ⟨hP, hD⟩ := va_join (wr := [(h, .inr (13, fs))]) (w1 := []) hP hD [] [0] rfl rfl (by decide) (by decide) hk1 hFc hP1 hD1
  generalize H1 = H at hP hS ⊢
  have hP : va_P D vwCl [(h, .inr (13, fs))] H := hP
  have hD : va_D A [(h, .inr (13, fs))] := hD
  refine W.widen (k := 0) (n := 0) (Nat.le_of_ble_eq_true rfl) (Nat.le_of_ble_eq_true rfl) ?_
  have hw_4 := hw
  try dsimp only at hw_4
  rcases hw_4 with ⟨hc_5, rfl⟩ | ⟨hc_6, rfl⟩
  · have hP9 := hP.sub (ws' := [(h, .inr (13, fs))]) [0] rfl
    have hD9 := hD.sub (ws' := [(h, .inr (13, fs))]) [0] (by decide) rfl
    exact W.zret (v := 0) hx hb hr rfl (fun t ht hW => ⟨⟨_, (), rfl, rfl, trivial, by rw [ht]; exact hP9, va_K.moved hW.alike hK, hD9⟩, hS.F ht⟩) hS.2.2 dX12_isNode_11
  · exfalso; simp only [Int32.lt_iff_toInt_lt, Int32.le_iff_toInt_le, i32_eq, ne_eq, gt_iff_lt, ge_iff_le, i32_0, i32_1, i32_2, i32_3, i32_4, i32_5, i32_6, i32_7, i32_9, i32_10, i32_m1] at hc_6 ⊢ <;> omega

def wD_X12_tells : List Cond := [.fieldLink RX12 271 "MixinUnitsModel" "thrown" "I"]
def wK_X12_tells : List Cond := .code yX12_tells cX12_tells 2 (some .int) :: (wD_X12_tells ++ (wsX120 ++ ([] : List Cond)))
theorem wd_X12_tells : ∀ w ∈ wD_X12_tells, w ∈ wK_X12_tells := fun w h => List.mem_cons_of_mem _ (List.mem_append_left _ h)
theorem gd_X12_tells : (wK_X12_tells).all goodWord = true := by decide +kernel
theorem wc_X12_tells_X12 : ∀ w ∈ wsX120, w ∈ wK_X12_tells := fun w h => List.mem_cons_of_mem _ (List.mem_append_right _ (List.mem_append_left _ h))
set_option maxHeartbeats 4000000 in
set_option maxRecDepth 100000 in
theorem c_X12_tells (l : Launch) (D : va_G) (dT : Nat → ClassId) (sz : Nat) (h : Nat) (fs : List Value) (v : Int32) (len : fs.length = 109) : Met l yX12_tells wK_X12_tells ({ frames := 0, cells := 0, slots := 0, locals := 0 }) (va_Pc [.ref h, .int v] (fun U => U.heap.size = sz ∧ va_P D vwCl [(h, .inr (13, fs))] U.heap ∧ va_K D vwCl (tysW dT) U ∧ va_D (fun _ => True) [(h, .inr (13, fs))] ∧ EN (va_A [(h, .inr (13, fs))] sz) U)) (va_Qi (fun (r : Int32) (_u : Unit) => r = v) (fun (_u : Unit) t => True ∧ va_P D vwCl [(h, .inr (13, (List.set fs 25 (.int 0))))] t.heap ∧ va_K D vwCl (tysW dT) t ∧ va_D (va_A [(h, .inr (13, fs))] sz) [(h, .inr (13, (List.set fs 25 (.int 0))))]) (va_A [(h, .inr (13, fs))] sz)) 0 0 (va_A [(h, .inr (13, fs))] sz) := by
  refine Met.ofW (cc := cX12_tells) (maxL := 2) (ret := (some .int)) (by decide) rfl ?_
  intro p e s m args below meth c s₁ B hml hv
  obtain ⟨rfl, hsz, hP, hK, hD0, hE⟩ := hv
  have hx := B.exec
  have hb := B.bytes
  have hr := B.returns
  have hts := atoms_spec (ws := wK_X12_tells) B.pre
  have hown : s.vm.findClass RX12 = some m.cls := findClass_of_methodNamed B.named
  have hlocks := B.notSynchronized
  subst hsz
  have hD := hD0.self (sz := s.heap.size)
  generalize hAe : va_A [(h, .inr (13, fs))] s.heap.size = A at hD hE ⊢
  have hA : ∀ q : Nat, s.heap.size ≤ q → A q := fun q h => by rw [← hAe]; exact Or.inr h
  have hS : va_S A s.heap s.heap [] := va_S.rf
  have hP : va_P D vwCl [(h, .inr (13, fs))] s.heap := hP
  have hl := lv_entry ([.ref h, .int v]) (n := 2) (Nat.le_of_ble_eq_true rfl)
  rw [lg_entry_eq]
  generalize (lg_sl ([.ref h, .int v]) ++ List.replicate (2 - (lg_sl ([.ref h, .int v])).length) Slot.unset).toArray = ls at hl ⊢
  have hl : lv_has ls 2 [(0, .ref h), (1, .int v)] := hl
  refine lv_aload_n hx hb dX12_tells_0 rfl (lv_at hl 0 rfl) ?_
  refine lv_iconst (v := 0) hx hb dX12_tells_1 (by decide) ?_
  refine va_put (D := D) (ci := 13) (v := .int 0) (ty := .int) (C := RX12) (T := TX12) (N := 109) hx hb hts wc_X12_tells_X12 tyX12 tyX12_ok nmX12 hown hK hP hD hS 0 rfl rfl 25 (by decide) (hts (.fieldLink RX12 271 "MixinUnitsModel" "thrown" "I") (wd_X12_tells _ (List.mem_of_getElem? (i := 0) rfl))) (fun _ h9 => h9) rfl (by decide +kernel) rfl rfl (ls_lt len (Nat.le_of_ble_eq_true rfl)) dX12_tells_2 (fun H locs hP hD hS => ?_)
  have hP : va_P D vwCl [(h, .inr (13, (List.set fs 25 (.int 0))))] H := hP
  have hD : va_D A [(h, .inr (13, (List.set fs 25 (.int 0))))] := hD
  refine lv_iload_n hx hb dX12_tells_5 rfl (lv_at hl 1 rfl) ?_
  have hP9 := hP.sub (ws' := [(h, .inr (13, (List.set fs 25 (.int 0))))]) [0] rfl
  have hD9 := hD.sub (ws' := [(h, .inr (13, (List.set fs 25 (.int 0))))]) [0] (by decide) rfl
  exact W.iret (v := v) hx hb hr (fun t ht hW => ⟨⟨_, (), rfl, rfl, trivial, by rw [ht]; exact hP9, va_K.moved hW.alike hK, hD9⟩, hS.F ht⟩) hS.2.2 dX12_tells_6

def wD_X12_made : List Cond := [.fieldLink RX12 25 "MixinUnitsModel" "eKind" "[I", .fieldLink RX12 282 "MixinUnitsModel" "expressions" "I", .fieldLink RX12 28 "MixinUnitsModel" "eFirst" "[I", .fieldLink RX12 31 "MixinUnitsModel" "eSecond" "[I", .fieldLink RX12 34 "MixinUnitsModel" "eThird" "[I", .fieldLink RX12 37 "MixinUnitsModel" "eWeight" "[I"]
def wK_X12_made : List Cond := .code yX12_made cX12_made 6 (some .int) :: (wD_X12_made ++ (wsX120 ++ ([] : List Cond)))
theorem wd_X12_made : ∀ w ∈ wD_X12_made, w ∈ wK_X12_made := fun w h => List.mem_cons_of_mem _ (List.mem_append_left _ h)
theorem gd_X12_made : (wK_X12_made).all goodWord = true := by decide +kernel
theorem wc_X12_made_X12 : ∀ w ∈ wsX120, w ∈ wK_X12_made := fun w h => List.mem_cons_of_mem _ (List.mem_append_right _ (List.mem_append_left _ h))
set_option maxHeartbeats 4000000 in
set_option maxRecDepth 100000 in
theorem c_X12_made (l : Launch) (D : va_G) (dT : Nat → ClassId) (sz : Nat) (h : Nat) (fs : List Value) (tm : Nat → Nat) (gm : Nat → Nat → Int32) (kd : Int32) (fi : Int32) (se : Int32) (th : Int32) (we : Int32) (hF : FM fs tm) : Met l yX12_made wK_X12_made ({ frames := 0, cells := 0, slots := 0, locals := 0 }) (va_Pc [.ref h, .int kd, .int fi, .int se, .int th, .int we] (fun U => U.heap.size = sz ∧ va_P D vwCl [(h, .inr (13, fs)), (tm 5, .inl (dT 0, 120, .inl (gm 5))), (tm 6, .inl (dT 0, 120, .inl (gm 6))), (tm 7, .inl (dT 0, 120, .inl (gm 7))), (tm 8, .inl (dT 0, 120, .inl (gm 8))), (tm 9, .inl (dT 0, 120, .inl (gm 9)))] U.heap ∧ va_K D vwCl (tysW dT) U ∧ va_D (fun _ => True) [(h, .inr (13, fs)), (tm 5, .inl (dT 0, 120, .inl (gm 5))), (tm 6, .inl (dT 0, 120, .inl (gm 6))), (tm 7, .inl (dT 0, 120, .inl (gm 7))), (tm 8, .inl (dT 0, 120, .inl (gm 8))), (tm 9, .inl (dT 0, 120, .inl (gm 9)))] ∧ EN (va_A [(h, .inr (13, fs)), (tm 5, .inl (dT 0, 120, .inl (gm 5))), (tm 6, .inl (dT 0, 120, .inl (gm 6))), (tm 7, .inl (dT 0, 120, .inl (gm 7))), (tm 8, .inl (dT 0, 120, .inl (gm 8))), (tm 9, .inl (dT 0, 120, .inl (gm 9)))] sz) U)) (va_Qi (fun (r : Int32) (_u : Unit) => r = 0) (fun (_u : Unit) t => True ∧ va_P D vwCl [(h, .inr (13, (List.set fs 6 (.int 1))))] t.heap ∧ va_K D vwCl (tysW dT) t ∧ va_D (va_A [(h, .inr (13, fs)), (tm 5, .inl (dT 0, 120, .inl (gm 5))), (tm 6, .inl (dT 0, 120, .inl (gm 6))), (tm 7, .inl (dT 0, 120, .inl (gm 7))), (tm 8, .inl (dT 0, 120, .inl (gm 8))), (tm 9, .inl (dT 0, 120, .inl (gm 9)))] sz) [(h, .inr (13, (List.set fs 6 (.int 1))))]) (va_A [(h, .inr (13, fs)), (tm 5, .inl (dT 0, 120, .inl (gm 5))), (tm 6, .inl (dT 0, 120, .inl (gm 6))), (tm 7, .inl (dT 0, 120, .inl (gm 7))), (tm 8, .inl (dT 0, 120, .inl (gm 8))), (tm 9, .inl (dT 0, 120, .inl (gm 9)))] sz)) 0 0 (va_A [(h, .inr (13, fs)), (tm 5, .inl (dT 0, 120, .inl (gm 5))), (tm 6, .inl (dT 0, 120, .inl (gm 6))), (tm 7, .inl (dT 0, 120, .inl (gm 7))), (tm 8, .inl (dT 0, 120, .inl (gm 8))), (tm 9, .inl (dT 0, 120, .inl (gm 9)))] sz) := by
  refine Met.ofW (cc := cX12_made) (maxL := 6) (ret := (some .int)) (by decide) rfl ?_
  intro p e s m args below meth c s₁ B hml hv
  obtain ⟨rfl, hsz, hP, hK, hD0, hE⟩ := hv
  have hx := B.exec
  have hb := B.bytes
  have hr := B.returns
  have hts := atoms_spec (ws := wK_X12_made) B.pre
  have hown : s.vm.findClass RX12 = some m.cls := findClass_of_methodNamed B.named
  have hlocks := B.notSynchronized
  subst hsz
  have hD := hD0.self (sz := s.heap.size)
  generalize hAe : va_A [(h, .inr (13, fs)), (tm 5, .inl (dT 0, 120, .inl (gm 5))), (tm 6, .inl (dT 0, 120, .inl (gm 6))), (tm 7, .inl (dT 0, 120, .inl (gm 7))), (tm 8, .inl (dT 0, 120, .inl (gm 8))), (tm 9, .inl (dT 0, 120, .inl (gm 9)))] s.heap.size = A at hD hE ⊢
  have hA : ∀ q : Nat, s.heap.size ≤ q → A q := fun q h => by rw [← hAe]; exact Or.inr h
  have hS : va_S A s.heap s.heap [] := va_S.rf
  have hP : va_P D vwCl [(h, .inr (13, fs)), (tm 5, .inl (dT 0, 120, .inl (gm 5))), (tm 6, .inl (dT 0, 120, .inl (gm 6))), (tm 7, .inl (dT 0, 120, .inl (gm 7))), (tm 8, .inl (dT 0, 120, .inl (gm 8))), (tm 9, .inl (dT 0, 120, .inl (gm 9)))] s.heap := hP
  have hl := lv_entry ([.ref h, .int kd, .int fi, .int se, .int th, .int we]) (n := 6) (Nat.le_of_ble_eq_true rfl)
  rw [lg_entry_eq]
  generalize (lg_sl ([.ref h, .int kd, .int fi, .int se, .int th, .int we]) ++ List.replicate (6 - (lg_sl ([.ref h, .int kd, .int fi, .int se, .int th, .int we])).length) Slot.unset).toArray = ls at hl ⊢
  have hl : lv_has ls 6 [(0, .ref h), (1, .int kd), (2, .int fi), (3, .int se), (4, .int th), (5, .int we)] := hl
  refine lv_aload_n hx hb dX12_made_0 rfl (lv_at hl 0 rfl) ?_
  refine va_get (D := D) (ci := 13) (v := .ref (tm 5)) (C := RX12) (T := TX12) (N := 109) hx hb hts wc_X12_made_X12 hown hK hP 0 rfl rfl 7 (by decide) (hts (.fieldLink RX12 25 "MixinUnitsModel" "eKind" "[I") (wd_X12_made _ (List.mem_of_getElem? (i := 0) rfl))) (fun _ h9 => h9) (FM.at hF (j := 13) (q := (7, .ref (tm 5))) rfl) dX12_made_1 ?_
  refine lv_aload_n hx hb dX12_made_4 rfl (lv_at hl 0 rfl) ?_
  refine va_get (D := D) (ci := 13) (v := .int 0) (C := RX12) (T := TX12) (N := 109) hx hb hts wc_X12_made_X12 hown hK hP 0 rfl rfl 6 (by decide) (hts (.fieldLink RX12 282 "MixinUnitsModel" "expressions" "I") (wd_X12_made _ (List.mem_of_getElem? (i := 1) rfl))) (fun _ h9 => h9) (FM.at hF (j := 1) (q := (6, .int 0)) rfl) dX12_made_5 ?_
  refine lv_iload_n hx hb dX12_made_8 rfl (lv_at hl 1 rfl) ?_
  refine va_iast hx hb hK hP hD hS 1 0 rfl rfl (vp_in_lit (by decide) (by decide)) dX12_made_9 (fun H locs hP hD hS => ?_)
  have hP : va_P D vwCl [(h, .inr (13, fs)), (tm 5, .inl (dT 0, 120, .inl (upd (gm 5) (Int32.toNatClampNeg 0) kd))), (tm 6, .inl (dT 0, 120, .inl (gm 6))), (tm 7, .inl (dT 0, 120, .inl (gm 7))), (tm 8, .inl (dT 0, 120, .inl (gm 8))), (tm 9, .inl (dT 0, 120, .inl (gm 9)))] H := hP
  have hD : va_D A [(h, .inr (13, fs)), (tm 5, .inl (dT 0, 120, .inl (upd (gm 5) (Int32.toNatClampNeg 0) kd))), (tm 6, .inl (dT 0, 120, .inl (gm 6))), (tm 7, .inl (dT 0, 120, .inl (gm 7))), (tm 8, .inl (dT 0, 120, .inl (gm 8))), (tm 9, .inl (dT 0, 120, .inl (gm 9)))] := hD
  obtain ⟨f_1, hf_1⟩ : ∃ g9 : Nat → Int32, g9 = upd (gm 5) (Int32.toNatClampNeg 0) kd := ⟨_, rfl⟩
  rw [← hf_1] at hP hD
  clear hf_1
  refine lv_aload_n hx hb dX12_made_10 rfl (lv_at hl 0 rfl) ?_
  refine va_get (D := D) (ci := 13) (v := .ref (tm 6)) (C := RX12) (T := TX12) (N := 109) hx hb hts wc_X12_made_X12 hown hK hP 0 rfl rfl 8 (by decide) (hts (.fieldLink RX12 28 "MixinUnitsModel" "eFirst" "[I") (wd_X12_made _ (List.mem_of_getElem? (i := 2) rfl))) (fun _ h9 => h9) (FM.at hF (j := 14) (q := (8, .ref (tm 6))) rfl) dX12_made_11 ?_
  refine lv_aload_n hx hb dX12_made_14 rfl (lv_at hl 0 rfl) ?_
  refine va_get (D := D) (ci := 13) (v := .int 0) (C := RX12) (T := TX12) (N := 109) hx hb hts wc_X12_made_X12 hown hK hP 0 rfl rfl 6 (by decide) (hts (.fieldLink RX12 282 "MixinUnitsModel" "expressions" "I") (wd_X12_made _ (List.mem_of_getElem? (i := 1) rfl))) (fun _ h9 => h9) (FM.at hF (j := 1) (q := (6, .int 0)) rfl) dX12_made_15 ?_
  refine lv_iload_n hx hb dX12_made_18 rfl (lv_at hl 2 rfl) ?_
  refine va_iast hx hb hK hP hD hS 2 0 rfl rfl (vp_in_lit (by decide) (by decide)) dX12_made_19 (fun H locs hP hD hS => ?_)
  have hP : va_P D vwCl [(h, .inr (13, fs)), (tm 5, .inl (dT 0, 120, .inl f_1)), (tm 6, .inl (dT 0, 120, .inl (upd (gm 6) (Int32.toNatClampNeg 0) fi))), (tm 7, .inl (dT 0, 120, .inl (gm 7))), (tm 8, .inl (dT 0, 120, .inl (gm 8))), (tm 9, .inl (dT 0, 120, .inl (gm 9)))] H := hP
  have hD : va_D A [(h, .inr (13, fs)), (tm 5, .inl (dT 0, 120, .inl f_1)), (tm 6, .inl (dT 0, 120, .inl (upd (gm 6) (Int32.toNatClampNeg 0) fi))), (tm 7, .inl (dT 0, 120, .inl (gm 7))), (tm 8, .inl (dT 0, 120, .inl (gm 8))), (tm 9, .inl (dT 0, 120, .inl (gm 9)))] := hD
  obtain ⟨f_2, hf_2⟩ : ∃ g9 : Nat → Int32, g9 = upd (gm 6) (Int32.toNatClampNeg 0) fi := ⟨_, rfl⟩
  rw [← hf_2] at hP hD
  clear hf_2
  refine lv_aload_n hx hb dX12_made_20 rfl (lv_at hl 0 rfl) ?_
  refine va_get (D := D) (ci := 13) (v := .ref (tm 7)) (C := RX12) (T := TX12) (N := 109) hx hb hts wc_X12_made_X12 hown hK hP 0 rfl rfl 9 (by decide) (hts (.fieldLink RX12 31 "MixinUnitsModel" "eSecond" "[I") (wd_X12_made _ (List.mem_of_getElem? (i := 3) rfl))) (fun _ h9 => h9) (FM.at hF (j := 15) (q := (9, .ref (tm 7))) rfl) dX12_made_21 ?_
  refine lv_aload_n hx hb dX12_made_24 rfl (lv_at hl 0 rfl) ?_
  refine va_get (D := D) (ci := 13) (v := .int 0) (C := RX12) (T := TX12) (N := 109) hx hb hts wc_X12_made_X12 hown hK hP 0 rfl rfl 6 (by decide) (hts (.fieldLink RX12 282 "MixinUnitsModel" "expressions" "I") (wd_X12_made _ (List.mem_of_getElem? (i := 1) rfl))) (fun _ h9 => h9) (FM.at hF (j := 1) (q := (6, .int 0)) rfl) dX12_made_25 ?_
  refine lv_iload_n hx hb dX12_made_28 rfl (lv_at hl 3 rfl) ?_
  refine va_iast hx hb hK hP hD hS 3 0 rfl rfl (vp_in_lit (by decide) (by decide)) dX12_made_29 (fun H locs hP hD hS => ?_)
  have hP : va_P D vwCl [(h, .inr (13, fs)), (tm 5, .inl (dT 0, 120, .inl f_1)), (tm 6, .inl (dT 0, 120, .inl f_2)), (tm 7, .inl (dT 0, 120, .inl (upd (gm 7) (Int32.toNatClampNeg 0) se))), (tm 8, .inl (dT 0, 120, .inl (gm 8))), (tm 9, .inl (dT 0, 120, .inl (gm 9)))] H := hP
  have hD : va_D A [(h, .inr (13, fs)), (tm 5, .inl (dT 0, 120, .inl f_1)), (tm 6, .inl (dT 0, 120, .inl f_2)), (tm 7, .inl (dT 0, 120, .inl (upd (gm 7) (Int32.toNatClampNeg 0) se))), (tm 8, .inl (dT 0, 120, .inl (gm 8))), (tm 9, .inl (dT 0, 120, .inl (gm 9)))] := hD
  obtain ⟨f_3, hf_3⟩ : ∃ g9 : Nat → Int32, g9 = upd (gm 7) (Int32.toNatClampNeg 0) se := ⟨_, rfl⟩
  rw [← hf_3] at hP hD
  clear hf_3
  refine lv_aload_n hx hb dX12_made_30 rfl (lv_at hl 0 rfl) ?_
  refine va_get (D := D) (ci := 13) (v := .ref (tm 8)) (C := RX12) (T := TX12) (N := 109) hx hb hts wc_X12_made_X12 hown hK hP 0 rfl rfl 10 (by decide) (hts (.fieldLink RX12 34 "MixinUnitsModel" "eThird" "[I") (wd_X12_made _ (List.mem_of_getElem? (i := 4) rfl))) (fun _ h9 => h9) (FM.at hF (j := 16) (q := (10, .ref (tm 8))) rfl) dX12_made_31 ?_
  refine lv_aload_n hx hb dX12_made_34 rfl (lv_at hl 0 rfl) ?_
  refine va_get (D := D) (ci := 13) (v := .int 0) (C := RX12) (T := TX12) (N := 109) hx hb hts wc_X12_made_X12 hown hK hP 0 rfl rfl 6 (by decide) (hts (.fieldLink RX12 282 "MixinUnitsModel" "expressions" "I") (wd_X12_made _ (List.mem_of_getElem? (i := 1) rfl))) (fun _ h9 => h9) (FM.at hF (j := 1) (q := (6, .int 0)) rfl) dX12_made_35 ?_
  refine lv_iload hx hb dX12_made_38 (lv_at hl 4 rfl) ?_
  refine va_iast hx hb hK hP hD hS 4 0 rfl rfl (vp_in_lit (by decide) (by decide)) dX12_made_40 (fun H locs hP hD hS => ?_)
  have hP : va_P D vwCl [(h, .inr (13, fs)), (tm 5, .inl (dT 0, 120, .inl f_1)), (tm 6, .inl (dT 0, 120, .inl f_2)), (tm 7, .inl (dT 0, 120, .inl f_3)), (tm 8, .inl (dT 0, 120, .inl (upd (gm 8) (Int32.toNatClampNeg 0) th))), (tm 9, .inl (dT 0, 120, .inl (gm 9)))] H := hP
  have hD : va_D A [(h, .inr (13, fs)), (tm 5, .inl (dT 0, 120, .inl f_1)), (tm 6, .inl (dT 0, 120, .inl f_2)), (tm 7, .inl (dT 0, 120, .inl f_3)), (tm 8, .inl (dT 0, 120, .inl (upd (gm 8) (Int32.toNatClampNeg 0) th))), (tm 9, .inl (dT 0, 120, .inl (gm 9)))] := hD
  obtain ⟨f_4, hf_4⟩ : ∃ g9 : Nat → Int32, g9 = upd (gm 8) (Int32.toNatClampNeg 0) th := ⟨_, rfl⟩
  rw [← hf_4] at hP hD
  clear hf_4
  refine lv_aload_n hx hb dX12_made_41 rfl (lv_at hl 0 rfl) ?_
  refine va_get (D := D) (ci := 13) (v := .ref (tm 9)) (C := RX12) (T := TX12) (N := 109) hx hb hts wc_X12_made_X12 hown hK hP 0 rfl rfl 11 (by decide) (hts (.fieldLink RX12 37 "MixinUnitsModel" "eWeight" "[I") (wd_X12_made _ (List.mem_of_getElem? (i := 5) rfl))) (fun _ h9 => h9) (FM.at hF (j := 17) (q := (11, .ref (tm 9))) rfl) dX12_made_42 ?_
  refine lv_aload_n hx hb dX12_made_45 rfl (lv_at hl 0 rfl) ?_
  refine va_get (D := D) (ci := 13) (v := .int 0) (C := RX12) (T := TX12) (N := 109) hx hb hts wc_X12_made_X12 hown hK hP 0 rfl rfl 6 (by decide) (hts (.fieldLink RX12 282 "MixinUnitsModel" "expressions" "I") (wd_X12_made _ (List.mem_of_getElem? (i := 1) rfl))) (fun _ h9 => h9) (FM.at hF (j := 1) (q := (6, .int 0)) rfl) dX12_made_46 ?_
  refine lv_iload hx hb dX12_made_49 (lv_at hl 5 rfl) ?_
  refine va_iast hx hb hK hP hD hS 5 0 rfl rfl (vp_in_lit (by decide) (by decide)) dX12_made_51 (fun H locs hP hD hS => ?_)
  have hP : va_P D vwCl [(h, .inr (13, fs)), (tm 5, .inl (dT 0, 120, .inl f_1)), (tm 6, .inl (dT 0, 120, .inl f_2)), (tm 7, .inl (dT 0, 120, .inl f_3)), (tm 8, .inl (dT 0, 120, .inl f_4)), (tm 9, .inl (dT 0, 120, .inl (upd (gm 9) (Int32.toNatClampNeg 0) we)))] H := hP
  have hD : va_D A [(h, .inr (13, fs)), (tm 5, .inl (dT 0, 120, .inl f_1)), (tm 6, .inl (dT 0, 120, .inl f_2)), (tm 7, .inl (dT 0, 120, .inl f_3)), (tm 8, .inl (dT 0, 120, .inl f_4)), (tm 9, .inl (dT 0, 120, .inl (upd (gm 9) (Int32.toNatClampNeg 0) we)))] := hD
  obtain ⟨f_5, hf_5⟩ : ∃ g9 : Nat → Int32, g9 = upd (gm 9) (Int32.toNatClampNeg 0) we := ⟨_, rfl⟩
  rw [← hf_5] at hP hD
  clear hf_5
  refine lv_aload_n hx hb dX12_made_52 rfl (lv_at hl 0 rfl) ?_
  refine lv_dup hx hb dX12_made_53 rfl ?_
  refine va_get (D := D) (ci := 13) (v := .int 0) (C := RX12) (T := TX12) (N := 109) hx hb hts wc_X12_made_X12 hown hK hP 0 rfl rfl 6 (by decide) (hts (.fieldLink RX12 282 "MixinUnitsModel" "expressions" "I") (wd_X12_made _ (List.mem_of_getElem? (i := 1) rfl))) (fun _ h9 => h9) (FM.at hF (j := 1) (q := (6, .int 0)) rfl) dX12_made_54 ?_
  refine lv_iconst (v := 1) hx hb dX12_made_57 (by decide) ?_
  refine lv_iadd hx hb dX12_made_58 ?_
  refine lv_topi (fun x_6 ex_6 => ?_)
  obtain rfl : x_6 = 1 := ex_6.trans (by decide)
  refine va_put (D := D) (ci := 13) (v := .int 1) (ty := .int) (C := RX12) (T := TX12) (N := 109) hx hb hts wc_X12_made_X12 tyX12 tyX12_ok nmX12 hown hK hP hD hS 0 rfl rfl 6 (by decide) (hts (.fieldLink RX12 282 "MixinUnitsModel" "expressions" "I") (wd_X12_made _ (List.mem_of_getElem? (i := 1) rfl))) (fun _ h9 => h9) rfl (by decide +kernel) rfl rfl (ls_lt (FM.len hF) (Nat.le_of_ble_eq_true rfl)) dX12_made_59 (fun H locs hP hD hS => ?_)
  have hP : va_P D vwCl [(h, .inr (13, (List.set fs 6 (.int 1)))), (tm 5, .inl (dT 0, 120, .inl f_1)), (tm 6, .inl (dT 0, 120, .inl f_2)), (tm 7, .inl (dT 0, 120, .inl f_3)), (tm 8, .inl (dT 0, 120, .inl f_4)), (tm 9, .inl (dT 0, 120, .inl f_5))] H := hP
  have hD : va_D A [(h, .inr (13, (List.set fs 6 (.int 1)))), (tm 5, .inl (dT 0, 120, .inl f_1)), (tm 6, .inl (dT 0, 120, .inl f_2)), (tm 7, .inl (dT 0, 120, .inl f_3)), (tm 8, .inl (dT 0, 120, .inl f_4)), (tm 9, .inl (dT 0, 120, .inl f_5))] := hD
  refine lv_aload_n hx hb dX12_made_62 rfl (lv_at hl 0 rfl) ?_
  refine va_get (D := D) (ci := 13) (v := .int 1) (C := RX12) (T := TX12) (N := 109) hx hb hts wc_X12_made_X12 hown hK hP 0 rfl rfl 6 (by decide) (hts (.fieldLink RX12 282 "MixinUnitsModel" "expressions" "I") (wd_X12_made _ (List.mem_of_getElem? (i := 1) rfl))) (fun _ h9 => h9) (ls_self (FM.len hF) (Nat.le_of_ble_eq_true rfl)) dX12_made_63 ?_
  refine lv_iconst (v := 1) hx hb dX12_made_66 (by decide) ?_
  refine lv_isub hx hb dX12_made_67 ?_
  refine lv_topi (fun x_7 ex_7 => ?_)
  obtain rfl : x_7 = 0 := ex_7.trans (by decide)
  have hP9 := hP.sub (ws' := [(h, .inr (13, (List.set fs 6 (.int 1))))]) [0] rfl
  have hD9 := hD.sub (ws' := [(h, .inr (13, (List.set fs 6 (.int 1))))]) [0] (by decide) rfl
  exact W.iret (v := 0) hx hb hr (fun t ht hW => ⟨⟨_, (), rfl, rfl, trivial, by rw [ht]; exact hP9, va_K.moved hW.alike hK, hD9⟩, hS.F ht⟩) hS.2.2 dX12_made_68

def wD_X12_type : List Cond := [.methodLink RX12 278 yX12_in, .static yX12_in, .initialized RX12, .fieldLink RX12 275 "MixinUnitsModel" "types" "I", .methodLink RX12 298 yX12_goes, .instanceMethod yX12_goes, .selects RX12 yX12_goes yX12_goes, .fieldLink RX12 7 "MixinUnitsModel" "tKind" "[I", .fieldLink RX12 13 "MixinUnitsModel" "tFirst" "[I", .fieldLink RX12 16 "MixinUnitsModel" "tSecond" "[I", .fieldLink RX12 19 "MixinUnitsModel" "tWeight" "[I", .fieldLink RX12 22 "MixinUnitsModel" "tNames" "[I", .methodLink RX12 295 yX12_isType, .instanceMethod yX12_isType, .selects RX12 yX12_isType yX12_isType, .methodLink RX12 291 yX12_isName, .static yX12_isName]
def wK_X12_type : List Cond := .code yX12_type cX12_type 7 (some .int) :: (wD_X12_type ++ (wK_X12_in ++ (wsX120 ++ (wK_X12_goes_f ++ (wK_X12_goes_ok ++ (wK_X12_isType ++ (wK_X12_goes_s ++ (wK_X12_isName ++ ([] : List Cond)))))))))
theorem wd_X12_type : ∀ w ∈ wD_X12_type, w ∈ wK_X12_type := fun w h => List.mem_cons_of_mem _ (List.mem_append_left _ h)
theorem gd_X12_type : (wK_X12_type).all goodWord = true := by decide +kernel
theorem wq_X12_type_X12_in : ∀ w ∈ wK_X12_in, w ∈ wK_X12_type := fun w h => List.mem_cons_of_mem _ (List.mem_append_right _ (List.mem_append_left _ h))
theorem wc_X12_type_X12 : ∀ w ∈ wsX120, w ∈ wK_X12_type := fun w h => List.mem_cons_of_mem _ (List.mem_append_right _ (List.mem_append_right _ (List.mem_append_left _ h)))
theorem wq_X12_type_X12_goes_f : ∀ w ∈ wK_X12_goes_f, w ∈ wK_X12_type := fun w h => List.mem_cons_of_mem _ (List.mem_append_right _ (List.mem_append_right _ (List.mem_append_right _ (List.mem_append_left _ h))))
theorem wq_X12_type_X12_goes_ok : ∀ w ∈ wK_X12_goes_ok, w ∈ wK_X12_type := fun w h => List.mem_cons_of_mem _ (List.mem_append_right _ (List.mem_append_right _ (List.mem_append_right _ (List.mem_append_right _ (List.mem_append_left _ h)))))
theorem wq_X12_type_X12_isType : ∀ w ∈ wK_X12_isType, w ∈ wK_X12_type := fun w h => List.mem_cons_of_mem _ (List.mem_append_right _ (List.mem_append_right _ (List.mem_append_right _ (List.mem_append_right _ (List.mem_append_right _ (List.mem_append_left _ h))))))
theorem wq_X12_type_X12_goes_s : ∀ w ∈ wK_X12_goes_s, w ∈ wK_X12_type := fun w h => List.mem_cons_of_mem _ (List.mem_append_right _ (List.mem_append_right _ (List.mem_append_right _ (List.mem_append_right _ (List.mem_append_right _ (List.mem_append_right _ (List.mem_append_left _ h)))))))
theorem wq_X12_type_X12_isName : ∀ w ∈ wK_X12_isName, w ∈ wK_X12_type := fun w h => List.mem_cons_of_mem _ (List.mem_append_right _ (List.mem_append_right _ (List.mem_append_right _ (List.mem_append_right _ (List.mem_append_right _ (List.mem_append_right _ (List.mem_append_right _ (List.mem_append_left _ h))))))))
set_option maxHeartbeats 4000000 in
set_option maxRecDepth 100000 in
/-- type on a fresh reference -/
theorem c_X12_type (l : Launch) (D : va_G) (dT : Nat → ClassId) (sz : Nat) (h : Nat) (fs : List Value) (tm : Nat → Nat) (gm : Nat → Nat → Int32) (k : Int32) (f : Int32) (g : Int32) (hF : FM fs tm) : Met l yX12_type wK_X12_type ({ frames := 2, cells := 0, slots := 0, locals := 43 }) (va_Pc [.ref h, .int k, .int f, .int g] (fun U => U.heap.size = sz ∧ va_P D vwCl [(h, .inr (13, fs)), (tm 0, .inl (dT 0, 60, .inl (gm 0))), (tm 1, .inl (dT 0, 60, .inl (gm 1))), (tm 2, .inl (dT 0, 60, .inl (gm 2))), (tm 3, .inl (dT 0, 60, .inl (gm 3))), (tm 4, .inl (dT 0, 60, .inl (gm 4)))] U.heap ∧ va_K D vwCl (tysW dT) U ∧ va_D (fun _ => True) [(h, .inr (13, fs)), (tm 0, .inl (dT 0, 60, .inl (gm 0))), (tm 1, .inl (dT 0, 60, .inl (gm 1))), (tm 2, .inl (dT 0, 60, .inl (gm 2))), (tm 3, .inl (dT 0, 60, .inl (gm 3))), (tm 4, .inl (dT 0, 60, .inl (gm 4)))] ∧ EN (va_A [(h, .inr (13, fs)), (tm 0, .inl (dT 0, 60, .inl (gm 0))), (tm 1, .inl (dT 0, 60, .inl (gm 1))), (tm 2, .inl (dT 0, 60, .inl (gm 2))), (tm 3, .inl (dT 0, 60, .inl (gm 3))), (tm 4, .inl (dT 0, 60, .inl (gm 4)))] sz) U)) (va_Qi (fun (r : Int32) (_u : Unit) => r = 0) (fun (_u : Unit) t => ∃ (fs2 : List Value), fs2[25]? = some (.int (sp_type k f)) ∧ va_P D vwCl [(h, .inr (13, fs2))] t.heap ∧ va_K D vwCl (tysW dT) t ∧ va_D (va_A [(h, .inr (13, fs)), (tm 0, .inl (dT 0, 60, .inl (gm 0))), (tm 1, .inl (dT 0, 60, .inl (gm 1))), (tm 2, .inl (dT 0, 60, .inl (gm 2))), (tm 3, .inl (dT 0, 60, .inl (gm 3))), (tm 4, .inl (dT 0, 60, .inl (gm 4)))] sz) [(h, .inr (13, fs2))]) (va_A [(h, .inr (13, fs)), (tm 0, .inl (dT 0, 60, .inl (gm 0))), (tm 1, .inl (dT 0, 60, .inl (gm 1))), (tm 2, .inl (dT 0, 60, .inl (gm 2))), (tm 3, .inl (dT 0, 60, .inl (gm 3))), (tm 4, .inl (dT 0, 60, .inl (gm 4)))] sz)) 0 0 (va_A [(h, .inr (13, fs)), (tm 0, .inl (dT 0, 60, .inl (gm 0))), (tm 1, .inl (dT 0, 60, .inl (gm 1))), (tm 2, .inl (dT 0, 60, .inl (gm 2))), (tm 3, .inl (dT 0, 60, .inl (gm 3))), (tm 4, .inl (dT 0, 60, .inl (gm 4)))] sz) := by
  refine Met.ofW (cc := cX12_type) (maxL := 7) (ret := (some .int)) (by decide) rfl ?_
  intro p e s m args below meth c s₁ B hml hv
  obtain ⟨rfl, hsz, hP, hK, hD0, hE⟩ := hv
  have hx := B.exec
  have hb := B.bytes
  have hr := B.returns
  have hts := atoms_spec (ws := wK_X12_type) B.pre
  have hown : s.vm.findClass RX12 = some m.cls := findClass_of_methodNamed B.named
  have hlocks := B.notSynchronized
  subst hsz
  have hD := hD0.self (sz := s.heap.size)
  generalize hAe : va_A [(h, .inr (13, fs)), (tm 0, .inl (dT 0, 60, .inl (gm 0))), (tm 1, .inl (dT 0, 60, .inl (gm 1))), (tm 2, .inl (dT 0, 60, .inl (gm 2))), (tm 3, .inl (dT 0, 60, .inl (gm 3))), (tm 4, .inl (dT 0, 60, .inl (gm 4)))] s.heap.size = A at hD hE ⊢
  have hA : ∀ q : Nat, s.heap.size ≤ q → A q := fun q h => by rw [← hAe]; exact Or.inr h
  have hS : va_S A s.heap s.heap [] := va_S.rf
  have hP : va_P D vwCl [(h, .inr (13, fs)), (tm 0, .inl (dT 0, 60, .inl (gm 0))), (tm 1, .inl (dT 0, 60, .inl (gm 1))), (tm 2, .inl (dT 0, 60, .inl (gm 2))), (tm 3, .inl (dT 0, 60, .inl (gm 3))), (tm 4, .inl (dT 0, 60, .inl (gm 4)))] s.heap := hP
  have hl := lv_entry ([.ref h, .int k, .int f, .int g]) (n := 7) (Nat.le_of_ble_eq_true rfl)
  rw [lg_entry_eq]
  generalize (lg_sl ([.ref h, .int k, .int f, .int g]) ++ List.replicate (7 - (lg_sl ([.ref h, .int k, .int f, .int g])).length) Slot.unset).toArray = ls at hl ⊢
  have hl : lv_has ls 7 [(0, .ref h), (1, .int k), (2, .int f), (3, .int g)] := hl
  refine lv_iload_n hx hb dX12_type_0 rfl (lv_at hl 1 rfl) ?_
  refine lv_iconst (v := 0) hx hb dX12_type_1 (by decide) ?_
  refine lv_iconst (v := 2) hx hb dX12_type_2 (by decide) ?_
  have hPc := hP.sub (ws' := []) [] rfl
  have hDc := hD.sub (ws' := []) [] (by decide) rfl
  have hFc := va_free (wc := []) hD hS hA [] rfl
  refine va_calli (va_runS (As := [.int k, .int 0, .int 2]) (rest := []) ⟨hx, hb, hml, hown, hts⟩ (c_X12_in l D dT s.heap.size k 0 2) (va_cwS 3 hts (goodIn_app (goodIn_r _ [1, 2, 3] rfl (by decide +kernel)) (goodIn_sub wq_X12_type_X12_in gd_X12_in)) rfl rfl rfl (by decide +kernel) ⟨Nat.le_of_ble_eq_true rfl, Nat.le_of_ble_eq_true rfl⟩) ⟨(fun a U g mk q => by obtain ⟨z0, z1, zP, zK, zD, zE⟩ := q; exact ⟨z0, z1, zP, va_K.moved (u := U) (U := U.calling g mk a) (Vm.Alike.refl U.vm) zK, zD, EN.frame zE⟩), fun U hU hW => ⟨rfl, by rw [hU], by rw [hU]; exact hPc, va_K.moved hW.alike hK, hDc.weaken (fun _ _ _ _ => trivial), EN.call hE hS hFc hW hU⟩⟩ rfl rfl hl.1 rfl (lv_room (Nat.le_of_ble_eq_true rfl)) dX12_type_3 ⟨(Nat.le_of_ble_eq_true rfl), (Nat.le_of_ble_eq_true rfl)⟩) hS (fun q _ h => hFc q h) hFc (fun r_1 u_2 t H1 locs ht hvm hw hB hz1 hk1 hS => ?_)
  obtain ⟨-, hP1, hK1, hD1⟩ := hB
  rw [ht] at hP1
  obtain ⟨hP, hD⟩ := va_join (wr := [(h, .inr (13, fs)), (tm 0, .inl (dT 0, 60, .inl (gm 0))), (tm 1, .inl (dT 0, 60, .inl (gm 1))), (tm 2, .inl (dT 0, 60, .inl (gm 2))), (tm 3, .inl (dT 0, 60, .inl (gm 3))), (tm 4, .inl (dT 0, 60, .inl (gm 4)))]) (w1 := []) hP hD [] [0, 1, 2, 3, 4, 5] rfl rfl (by decide) (by decide) hk1 hFc hP1 hD1
  generalize H1 = H at hP hS ⊢
  have hP : va_P D vwCl [(h, .inr (13, fs)), (tm 0, .inl (dT 0, 60, .inl (gm 0))), (tm 1, .inl (dT 0, 60, .inl (gm 1))), (tm 2, .inl (dT 0, 60, .inl (gm 2))), (tm 3, .inl (dT 0, 60, .inl (gm 3))), (tm 4, .inl (dT 0, 60, .inl (gm 4)))] H := hP
  have hD : va_D A [(h, .inr (13, fs)), (tm 0, .inl (dT 0, 60, .inl (gm 0))), (tm 1, .inl (dT 0, 60, .inl (gm 1))), (tm 2, .inl (dT 0, 60, .inl (gm 2))), (tm 3, .inl (dT 0, 60, .inl (gm 3))), (tm 4, .inl (dT 0, 60, .inl (gm 4)))] := hD
  refine W.widen (k := 0) (n := 0) (Nat.le_of_ble_eq_true rfl) (Nat.le_of_ble_eq_true rfl) ?_
  have hw_3 := hw
  try dsimp only at hw_3
  rcases hw_3 with ⟨hc_4, rfl⟩ | ⟨hc_5, rfl⟩
  · refine lv_if_eq (tgt := 25) hx hb dX12_type_6 (by decide) (fun _ => ?_) (fun c_6 => absurd (by decide) c_6)
    refine lv_iconst (v := 0) hx hb dX12_type_25 (by decide) ?_
    refine lv_istore (lv' := [(4, .int 0), (0, .ref h), (1, .int k), (2, .int f), (3, .int g)]) hx hb dX12_type_26 hl (by decide) rfl (fun ls hl => ?_)
    refine lv_iload_n hx hb dX12_type_28 rfl (lv_at hl 2 rfl) ?_
    refine lv_iconst (v := 1) hx hb dX12_type_29 (by decide) ?_
    refine lv_icmp_ne (tgt := 49) hx hb dX12_type_30 (by decide) (fun c_7 => ?_) (fun c_7 => ?_)
    · refine lv_iconst (v := 1) hx hb dX12_type_49 (by decide) ?_
      refine lv_goto (tgt := 54) hx hb dX12_type_50 (by decide) ?_
      refine lv_istore (lv' := [(5, .int 1), (4, .int 0), (0, .ref h), (1, .int k), (2, .int f), (3, .int g)]) hx hb dX12_type_54 hl (by decide) rfl (fun ls hl => ?_)
      refine lv_iload hx hb dX12_type_56 (lv_at hl 1 rfl) ?_
      refine lv_if_eq (tgt := 89) hx hb dX12_type_58 (by decide) (fun _ => ?_) (fun c_8 => absurd (by decide) c_8)
      refine lv_iconst (v := 1) hx hb dX12_type_89 (by decide) ?_
      refine lv_istore (lv' := [(6, .int 1), (5, .int 1), (4, .int 0), (0, .ref h), (1, .int k), (2, .int f), (3, .int g)]) hx hb dX12_type_90 hl (by decide) rfl (fun ls hl => ?_)
      refine lv_aload_n hx hb dX12_type_92 rfl (lv_at hl 3 rfl) ?_
      refine lv_iload hx hb dX12_type_93 (lv_at hl 2 rfl) ?_
      refine lv_iload hx hb dX12_type_95 (lv_at hl 1 rfl) ?_
      refine lv_aload_n hx hb dX12_type_97 rfl (lv_at hl 3 rfl) ?_
      refine va_get (D := D) (ci := 13) (v := .int 0) (C := RX12) (T := TX12) (N := 109) hx hb hts wc_X12_type_X12 hown hK hP 0 rfl rfl 0 (by decide) (hts (.fieldLink RX12 275 "MixinUnitsModel" "types" "I") (wd_X12_type _ (List.mem_of_getElem? (i := 3) rfl))) (fun _ h9 => h9) (FM.at hF (j := 0) (q := (0, .int 0)) rfl) dX12_type_98 ?_
      refine lv_bipush (v := 60) hx hb dX12_type_101 (by decide) ?_
      refine lv_icmp_ge (tgt := 117) hx hb dX12_type_103 (by decide) (fun c_9 => absurd c_9 (by decide)) (fun _ => ?_)
      refine lv_iload hx hb dX12_type_106 (lv_at hl 0 rfl) ?_
      refine lv_bipush (v := 12) hx hb dX12_type_108 (by decide) ?_
      refine lv_icmp_gt (tgt := 117) hx hb dX12_type_110 (by decide) (fun c_10 => absurd c_10 (by decide)) (fun _ => ?_)
      refine lv_iconst (v := 1) hx hb dX12_type_113 (by decide) ?_
      refine lv_goto (tgt := 118) hx hb dX12_type_114 (by decide) ?_
      have hPc := hP.sub (ws' := [(h, .inr (13, fs))]) [0] rfl
      have hDc := hD.sub (ws' := [(h, .inr (13, fs))]) [0] (by decide) rfl
      have hFc := va_free (wc := [(h, .inr (13, fs))]) hD hS hA [0] rfl
      refine va_calli (va_runV (As := [.int 0, .int 1, .int 1]) (rest := []) ⟨hx, hb, hml, hown, hts⟩ (c_X12_goes_f l D dT H.size h fs 1 1 (FM.len hF)) (cwV 3 hts (goodIn_app (goodIn_r _ [5, 6, 7, 3] rfl (by decide +kernel)) (goodIn_sub wq_X12_type_X12_goes_f gd_X12_goes_f)) rfl rfl rfl (by decide +kernel) ⟨Nat.le_of_ble_eq_true rfl, Nat.le_of_ble_eq_true rfl⟩) ⟨(fun a U g mk q => by obtain ⟨z0, z1, zP, zK, zD, zE⟩ := q; exact ⟨z0, z1, zP, va_K.moved (u := U) (U := U.calling g mk a) (Vm.Alike.refl U.vm) zK, zD, EN.frame zE⟩), va_recv hK hP (ci := 13) (q0 := 0) rfl rfl, fun U hU hW => ⟨rfl, by rw [hU], by rw [hU]; exact hPc, va_K.moved hW.alike hK, hDc.weaken (fun _ _ _ _ => trivial), EN.call hE hS hFc hW hU⟩⟩ rfl rfl hl.1 rfl (lv_room (Nat.le_of_ble_eq_true rfl)) dX12_type_118 ⟨(Nat.le_of_ble_eq_true rfl), (Nat.le_of_ble_eq_true rfl)⟩) hS (fun q _ h => hFc q h) hFc (fun r_11 u_12 t H1 locs ht hvm hw hB hz1 hk1 hS => ?_)
      obtain ⟨-, hP1, hK1, hD1⟩ := hB
      rw [ht] at hP1
      obtain ⟨hP, hD⟩ := va_join (wr := [(tm 0, .inl (dT 0, 60, .inl (gm 0))), (tm 1, .inl (dT 0, 60, .inl (gm 1))), (tm 2, .inl (dT 0, 60, .inl (gm 2))), (tm 3, .inl (dT 0, 60, .inl (gm 3))), (tm 4, .inl (dT 0, 60, .inl (gm 4)))]) (w1 := [(h, .inr (13, (List.set fs 25 (.int 1))))]) hP hD [0] [1, 2, 3, 4, 5] rfl rfl (by decide) (by decide) hk1 hFc hP1 hD1
      generalize H1 = H at hP hS ⊢
      have hP : va_P D vwCl [(tm 0, .inl (dT 0, 60, .inl (gm 0))), (tm 1, .inl (dT 0, 60, .inl (gm 1))), (tm 2, .inl (dT 0, 60, .inl (gm 2))), (tm 3, .inl (dT 0, 60, .inl (gm 3))), (tm 4, .inl (dT 0, 60, .inl (gm 4))), (h, .inr (13, (List.set fs 25 (.int 1))))] H := hP
      have hD : va_D A [(tm 0, .inl (dT 0, 60, .inl (gm 0))), (tm 1, .inl (dT 0, 60, .inl (gm 1))), (tm 2, .inl (dT 0, 60, .inl (gm 2))), (tm 3, .inl (dT 0, 60, .inl (gm 3))), (tm 4, .inl (dT 0, 60, .inl (gm 4))), (h, .inr (13, (List.set fs 25 (.int 1))))] := hD
      refine W.widen (k := 0) (n := 0) (Nat.le_of_ble_eq_true rfl) (Nat.le_of_ble_eq_true rfl) ?_
      have hw_13 := hw
      try dsimp only at hw_13
      obtain rfl : r_11 = 0 := hw_13
      refine lv_if_ne (tgt := 126) hx hb dX12_type_121 (by decide) (fun c_14 => absurd (by decide) c_14) (fun _ => ?_)
      refine lv_iconst (v := 0) hx hb dX12_type_124 (by decide) ?_
      have hP9 := hP.sub (ws' := [(h, .inr (13, (List.set fs 25 (.int 1))))]) [5] rfl
      have hD9 := hD.sub (ws' := [(h, .inr (13, (List.set fs 25 (.int 1))))]) [5] (by decide) rfl
      exact W.iret (v := 0) hx hb hr (fun t ht hW => ⟨⟨_, (), rfl, rfl, (List.set fs 25 (.int 1)), (by rw [show sp_type k f = 1 from (sp_type_a (by simp only [Int32.lt_iff_toInt_lt, Int32.le_iff_toInt_le, i32_eq, ne_eq, gt_iff_lt, ge_iff_le, i32_0, i32_1, i32_2, i32_3, i32_4, i32_5, i32_6, i32_7, i32_9, i32_10, i32_m1] at hc_4 c_7 ⊢ <;> omega))]; exact (ls_self (FM.len hF) (Nat.le_of_ble_eq_true rfl))), by rw [ht]; exact hP9, va_K.moved hW.alike hK, hD9⟩, hS.F ht⟩) hS.2.2 dX12_type_125
    · exfalso; simp only [Int32.lt_iff_toInt_lt, Int32.le_iff_toInt_le, i32_eq, ne_eq, gt_iff_lt, ge_iff_le, i32_0, i32_1, i32_2, i32_3, i32_4, i32_5, i32_6, i32_7, i32_9, i32_10, i32_m1] at hc_4 c_7 ⊢ <;> omega
  · refine lv_if_eq (tgt := 25) hx hb dX12_type_6 (by decide) (fun c_15 => absurd c_15 (by decide)) (fun _ => ?_)
    refine lv_iload_n hx hb dX12_type_9 rfl (lv_at hl 1 rfl) ?_
    refine lv_iconst (v := 2) hx hb dX12_type_10 (by decide) ?_
    refine lv_icmp_ne (tgt := 21) hx hb dX12_type_11 (by decide) (fun c_16 => ?_) (fun c_16 => ?_)
    · refine lv_iconst (v := 1) hx hb dX12_type_21 (by decide) ?_
      refine lv_goto (tgt := 26) hx hb dX12_type_22 (by decide) ?_
      refine lv_istore (lv' := [(4, .int 1), (0, .ref h), (1, .int k), (2, .int f), (3, .int g)]) hx hb dX12_type_26 hl (by decide) rfl (fun ls hl => ?_)
      refine lv_iload_n hx hb dX12_type_28 rfl (lv_at hl 2 rfl) ?_
      refine lv_iconst (v := 1) hx hb dX12_type_29 (by decide) ?_
      refine lv_icmp_ne (tgt := 49) hx hb dX12_type_30 (by decide) (fun c_17 => ?_) (fun c_17 => ?_)
      · refine lv_iconst (v := 1) hx hb dX12_type_49 (by decide) ?_
        refine lv_goto (tgt := 54) hx hb dX12_type_50 (by decide) ?_
        refine lv_istore (lv' := [(5, .int 1), (4, .int 1), (0, .ref h), (1, .int k), (2, .int f), (3, .int g)]) hx hb dX12_type_54 hl (by decide) rfl (fun ls hl => ?_)
        refine lv_iload hx hb dX12_type_56 (lv_at hl 1 rfl) ?_
        refine lv_if_eq (tgt := 89) hx hb dX12_type_58 (by decide) (fun c_18 => absurd c_18 (by decide)) (fun _ => ?_)
        refine lv_iload hx hb dX12_type_61 (lv_at hl 0 rfl) ?_
        refine lv_if_eq (tgt := 89) hx hb dX12_type_63 (by decide) (fun c_19 => absurd c_19 (by decide)) (fun _ => ?_)
        refine lv_iload_n hx hb dX12_type_66 rfl (lv_at hl 3 rfl) ?_
        refine lv_iconst (v := 1) hx hb dX12_type_67 (by decide) ?_
        refine lv_icmp_ne (tgt := 89) hx hb dX12_type_68 (by decide) (fun _ => ?_) (fun c_20 => absurd c_20 (c_17))
        refine lv_iconst (v := 1) hx hb dX12_type_89 (by decide) ?_
        refine lv_istore (lv' := [(6, .int 1), (5, .int 1), (4, .int 1), (0, .ref h), (1, .int k), (2, .int f), (3, .int g)]) hx hb dX12_type_90 hl (by decide) rfl (fun ls hl => ?_)
        refine lv_aload_n hx hb dX12_type_92 rfl (lv_at hl 3 rfl) ?_
        refine lv_iload hx hb dX12_type_93 (lv_at hl 2 rfl) ?_
        refine lv_iload hx hb dX12_type_95 (lv_at hl 1 rfl) ?_
        refine lv_aload_n hx hb dX12_type_97 rfl (lv_at hl 3 rfl) ?_
        refine va_get (D := D) (ci := 13) (v := .int 0) (C := RX12) (T := TX12) (N := 109) hx hb hts wc_X12_type_X12 hown hK hP 0 rfl rfl 0 (by decide) (hts (.fieldLink RX12 275 "MixinUnitsModel" "types" "I") (wd_X12_type _ (List.mem_of_getElem? (i := 3) rfl))) (fun _ h9 => h9) (FM.at hF (j := 0) (q := (0, .int 0)) rfl) dX12_type_98 ?_
        refine lv_bipush (v := 60) hx hb dX12_type_101 (by decide) ?_
        refine lv_icmp_ge (tgt := 117) hx hb dX12_type_103 (by decide) (fun c_21 => absurd c_21 (by decide)) (fun _ => ?_)
        refine lv_iload hx hb dX12_type_106 (lv_at hl 0 rfl) ?_
        refine lv_bipush (v := 12) hx hb dX12_type_108 (by decide) ?_
        refine lv_icmp_gt (tgt := 117) hx hb dX12_type_110 (by decide) (fun c_22 => absurd c_22 (by decide)) (fun _ => ?_)
        refine lv_iconst (v := 1) hx hb dX12_type_113 (by decide) ?_
        refine lv_goto (tgt := 118) hx hb dX12_type_114 (by decide) ?_
        have hPc := hP.sub (ws' := [(h, .inr (13, fs))]) [0] rfl
        have hDc := hD.sub (ws' := [(h, .inr (13, fs))]) [0] (by decide) rfl
        have hFc := va_free (wc := [(h, .inr (13, fs))]) hD hS hA [0] rfl
        refine va_calli (va_runV (As := [.int 1, .int 1, .int 1]) (rest := []) ⟨hx, hb, hml, hown, hts⟩ (c_X12_goes_ok l D dT H.size h fs (FM.len hF)) (cwV 3 hts (goodIn_app (goodIn_r _ [5, 6, 7, 3] rfl (by decide +kernel)) (goodIn_sub wq_X12_type_X12_goes_ok gd_X12_goes_ok)) rfl rfl rfl (by decide +kernel) ⟨Nat.le_of_ble_eq_true rfl, Nat.le_of_ble_eq_true rfl⟩) ⟨(fun a U g mk q => by obtain ⟨z0, z1, zP, zK, zD, zE⟩ := q; exact ⟨z0, z1, zP, va_K.moved (u := U) (U := U.calling g mk a) (Vm.Alike.refl U.vm) zK, zD, EN.frame zE⟩), va_recv hK hP (ci := 13) (q0 := 0) rfl rfl, fun U hU hW => ⟨rfl, by rw [hU], by rw [hU]; exact hPc, va_K.moved hW.alike hK, hDc.weaken (fun _ _ _ _ => trivial), EN.call hE hS hFc hW hU⟩⟩ rfl rfl hl.1 rfl (lv_room (Nat.le_of_ble_eq_true rfl)) dX12_type_118 ⟨(Nat.le_of_ble_eq_true rfl), (Nat.le_of_ble_eq_true rfl)⟩) hS (fun q _ h => hFc q h) hFc (fun r_23 u_24 t H1 locs ht hvm hw hB hz1 hk1 hS => ?_)
        obtain ⟨-, hP1, hK1, hD1⟩ := hB
        rw [ht] at hP1
        obtain ⟨hP, hD⟩ := va_join (wr := [(tm 0, .inl (dT 0, 60, .inl (gm 0))), (tm 1, .inl (dT 0, 60, .inl (gm 1))), (tm 2, .inl (dT 0, 60, .inl (gm 2))), (tm 3, .inl (dT 0, 60, .inl (gm 3))), (tm 4, .inl (dT 0, 60, .inl (gm 4)))]) (w1 := [(h, .inr (13, (List.set fs 25 (.int 0))))]) hP hD [0] [1, 2, 3, 4, 5] rfl rfl (by decide) (by decide) hk1 hFc hP1 hD1
        generalize H1 = H at hP hS ⊢
        have hP : va_P D vwCl [(tm 0, .inl (dT 0, 60, .inl (gm 0))), (tm 1, .inl (dT 0, 60, .inl (gm 1))), (tm 2, .inl (dT 0, 60, .inl (gm 2))), (tm 3, .inl (dT 0, 60, .inl (gm 3))), (tm 4, .inl (dT 0, 60, .inl (gm 4))), (h, .inr (13, (List.set fs 25 (.int 0))))] H := hP
        have hD : va_D A [(tm 0, .inl (dT 0, 60, .inl (gm 0))), (tm 1, .inl (dT 0, 60, .inl (gm 1))), (tm 2, .inl (dT 0, 60, .inl (gm 2))), (tm 3, .inl (dT 0, 60, .inl (gm 3))), (tm 4, .inl (dT 0, 60, .inl (gm 4))), (h, .inr (13, (List.set fs 25 (.int 0))))] := hD
        refine W.widen (k := 0) (n := 0) (Nat.le_of_ble_eq_true rfl) (Nat.le_of_ble_eq_true rfl) ?_
        have hw_25 := hw
        try dsimp only at hw_25
        obtain rfl : r_23 = 1 := hw_25
        refine lv_if_ne (tgt := 126) hx hb dX12_type_121 (by decide) (fun _ => ?_) (fun c_26 => absurd c_26 (by decide))
        refine lv_aload_n hx hb dX12_type_126 rfl (lv_at hl 3 rfl) ?_
        refine va_get (D := D) (ci := 13) (v := .ref (tm 0)) (C := RX12) (T := TX12) (N := 109) hx hb hts wc_X12_type_X12 hown hK hP 5 rfl rfl 1 (by decide) (hts (.fieldLink RX12 7 "MixinUnitsModel" "tKind" "[I") (wd_X12_type _ (List.mem_of_getElem? (i := 7) rfl))) (fun _ h9 => h9) (ls_ne (by decide) (FM.at hF (j := 8) (q := (1, .ref (tm 0))) rfl)) dX12_type_127 ?_
        refine lv_aload_n hx hb dX12_type_130 rfl (lv_at hl 3 rfl) ?_
        refine va_get (D := D) (ci := 13) (v := .int 0) (C := RX12) (T := TX12) (N := 109) hx hb hts wc_X12_type_X12 hown hK hP 5 rfl rfl 0 (by decide) (hts (.fieldLink RX12 275 "MixinUnitsModel" "types" "I") (wd_X12_type _ (List.mem_of_getElem? (i := 3) rfl))) (fun _ h9 => h9) (ls_ne (by decide) (FM.at hF (j := 0) (q := (0, .int 0)) rfl)) dX12_type_131 ?_
        refine lv_iload_n hx hb dX12_type_134 rfl (lv_at hl 4 rfl) ?_
        refine va_iast hx hb hK hP hD hS 0 0 rfl rfl (vp_in_lit (by decide) (by decide)) dX12_type_135 (fun H locs hP hD hS => ?_)
        have hP : va_P D vwCl [(tm 0, .inl (dT 0, 60, .inl (upd (gm 0) (Int32.toNatClampNeg 0) k))), (tm 1, .inl (dT 0, 60, .inl (gm 1))), (tm 2, .inl (dT 0, 60, .inl (gm 2))), (tm 3, .inl (dT 0, 60, .inl (gm 3))), (tm 4, .inl (dT 0, 60, .inl (gm 4))), (h, .inr (13, (List.set fs 25 (.int 0))))] H := hP
        have hD : va_D A [(tm 0, .inl (dT 0, 60, .inl (upd (gm 0) (Int32.toNatClampNeg 0) k))), (tm 1, .inl (dT 0, 60, .inl (gm 1))), (tm 2, .inl (dT 0, 60, .inl (gm 2))), (tm 3, .inl (dT 0, 60, .inl (gm 3))), (tm 4, .inl (dT 0, 60, .inl (gm 4))), (h, .inr (13, (List.set fs 25 (.int 0))))] := hD
        obtain ⟨f_27, hf_27⟩ : ∃ g9 : Nat → Int32, g9 = upd (gm 0) (Int32.toNatClampNeg 0) k := ⟨_, rfl⟩
        rw [← hf_27] at hP hD
        clear hf_27
        refine lv_aload_n hx hb dX12_type_136 rfl (lv_at hl 3 rfl) ?_
        refine va_get (D := D) (ci := 13) (v := .ref (tm 1)) (C := RX12) (T := TX12) (N := 109) hx hb hts wc_X12_type_X12 hown hK hP 5 rfl rfl 2 (by decide) (hts (.fieldLink RX12 13 "MixinUnitsModel" "tFirst" "[I") (wd_X12_type _ (List.mem_of_getElem? (i := 8) rfl))) (fun _ h9 => h9) (ls_ne (by decide) (FM.at hF (j := 9) (q := (2, .ref (tm 1))) rfl)) dX12_type_137 ?_
        refine lv_aload_n hx hb dX12_type_140 rfl (lv_at hl 3 rfl) ?_
        refine va_get (D := D) (ci := 13) (v := .int 0) (C := RX12) (T := TX12) (N := 109) hx hb hts wc_X12_type_X12 hown hK hP 5 rfl rfl 0 (by decide) (hts (.fieldLink RX12 275 "MixinUnitsModel" "types" "I") (wd_X12_type _ (List.mem_of_getElem? (i := 3) rfl))) (fun _ h9 => h9) (ls_ne (by decide) (FM.at hF (j := 0) (q := (0, .int 0)) rfl)) dX12_type_141 ?_
        refine lv_iload_n hx hb dX12_type_144 rfl (lv_at hl 4 rfl) ?_
        refine lv_if_ne (tgt := 152) hx hb dX12_type_145 (by decide) (fun c_28 => ?_) (fun c_28 => ?_)
        · exfalso; simp only [Int32.lt_iff_toInt_lt, Int32.le_iff_toInt_le, i32_eq, ne_eq, gt_iff_lt, ge_iff_le, i32_0, i32_1, i32_2, i32_3, i32_4, i32_5, i32_6, i32_7, i32_9, i32_10, i32_m1] at hc_5 c_16 c_17 c_28 ⊢ <;> omega
        · refine lv_iconst (v := 0) hx hb dX12_type_148 (by decide) ?_
          refine lv_goto (tgt := 153) hx hb dX12_type_149 (by decide) ?_
          refine va_iast hx hb hK hP hD hS 1 0 rfl rfl (vp_in_lit (by decide) (by decide)) dX12_type_153 (fun H locs hP hD hS => ?_)
          have hP : va_P D vwCl [(tm 0, .inl (dT 0, 60, .inl f_27)), (tm 1, .inl (dT 0, 60, .inl (upd (gm 1) (Int32.toNatClampNeg 0) 0))), (tm 2, .inl (dT 0, 60, .inl (gm 2))), (tm 3, .inl (dT 0, 60, .inl (gm 3))), (tm 4, .inl (dT 0, 60, .inl (gm 4))), (h, .inr (13, (List.set fs 25 (.int 0))))] H := hP
          have hD : va_D A [(tm 0, .inl (dT 0, 60, .inl f_27)), (tm 1, .inl (dT 0, 60, .inl (upd (gm 1) (Int32.toNatClampNeg 0) 0))), (tm 2, .inl (dT 0, 60, .inl (gm 2))), (tm 3, .inl (dT 0, 60, .inl (gm 3))), (tm 4, .inl (dT 0, 60, .inl (gm 4))), (h, .inr (13, (List.set fs 25 (.int 0))))] := hD
          obtain ⟨f_29, hf_29⟩ : ∃ g9 : Nat → Int32, g9 = upd (gm 1) (Int32.toNatClampNeg 0) 0 := ⟨_, rfl⟩
          rw [← hf_29] at hP hD
          clear hf_29
          refine lv_aload_n hx hb dX12_type_154 rfl (lv_at hl 3 rfl) ?_
          refine va_get (D := D) (ci := 13) (v := .ref (tm 2)) (C := RX12) (T := TX12) (N := 109) hx hb hts wc_X12_type_X12 hown hK hP 5 rfl rfl 3 (by decide) (hts (.fieldLink RX12 16 "MixinUnitsModel" "tSecond" "[I") (wd_X12_type _ (List.mem_of_getElem? (i := 9) rfl))) (fun _ h9 => h9) (ls_ne (by decide) (FM.at hF (j := 10) (q := (3, .ref (tm 2))) rfl)) dX12_type_155 ?_
          refine lv_aload_n hx hb dX12_type_158 rfl (lv_at hl 3 rfl) ?_
          refine va_get (D := D) (ci := 13) (v := .int 0) (C := RX12) (T := TX12) (N := 109) hx hb hts wc_X12_type_X12 hown hK hP 5 rfl rfl 0 (by decide) (hts (.fieldLink RX12 275 "MixinUnitsModel" "types" "I") (wd_X12_type _ (List.mem_of_getElem? (i := 3) rfl))) (fun _ h9 => h9) (ls_ne (by decide) (FM.at hF (j := 0) (q := (0, .int 0)) rfl)) dX12_type_159 ?_
          refine lv_iload_n hx hb dX12_type_162 rfl (lv_at hl 4 rfl) ?_
          refine lv_iconst (v := 1) hx hb dX12_type_163 (by decide) ?_
          refine lv_icmp_ne (tgt := 171) hx hb dX12_type_164 (by decide) (fun _ => ?_) (fun c_30 => absurd c_30 (c_17))
          refine lv_iconst (v := 0) hx hb dX12_type_171 (by decide) ?_
          refine va_iast hx hb hK hP hD hS 2 0 rfl rfl (vp_in_lit (by decide) (by decide)) dX12_type_172 (fun H locs hP hD hS => ?_)
          have hP : va_P D vwCl [(tm 0, .inl (dT 0, 60, .inl f_27)), (tm 1, .inl (dT 0, 60, .inl f_29)), (tm 2, .inl (dT 0, 60, .inl (upd (gm 2) (Int32.toNatClampNeg 0) 0))), (tm 3, .inl (dT 0, 60, .inl (gm 3))), (tm 4, .inl (dT 0, 60, .inl (gm 4))), (h, .inr (13, (List.set fs 25 (.int 0))))] H := hP
          have hD : va_D A [(tm 0, .inl (dT 0, 60, .inl f_27)), (tm 1, .inl (dT 0, 60, .inl f_29)), (tm 2, .inl (dT 0, 60, .inl (upd (gm 2) (Int32.toNatClampNeg 0) 0))), (tm 3, .inl (dT 0, 60, .inl (gm 3))), (tm 4, .inl (dT 0, 60, .inl (gm 4))), (h, .inr (13, (List.set fs 25 (.int 0))))] := hD
          obtain ⟨f_31, hf_31⟩ : ∃ g9 : Nat → Int32, g9 = upd (gm 2) (Int32.toNatClampNeg 0) 0 := ⟨_, rfl⟩
          rw [← hf_31] at hP hD
          clear hf_31
          refine lv_aload_n hx hb dX12_type_173 rfl (lv_at hl 3 rfl) ?_
          refine va_get (D := D) (ci := 13) (v := .ref (tm 3)) (C := RX12) (T := TX12) (N := 109) hx hb hts wc_X12_type_X12 hown hK hP 5 rfl rfl 4 (by decide) (hts (.fieldLink RX12 19 "MixinUnitsModel" "tWeight" "[I") (wd_X12_type _ (List.mem_of_getElem? (i := 10) rfl))) (fun _ h9 => h9) (ls_ne (by decide) (FM.at hF (j := 11) (q := (4, .ref (tm 3))) rfl)) dX12_type_174 ?_
          refine lv_aload_n hx hb dX12_type_177 rfl (lv_at hl 3 rfl) ?_
          refine va_get (D := D) (ci := 13) (v := .int 0) (C := RX12) (T := TX12) (N := 109) hx hb hts wc_X12_type_X12 hown hK hP 5 rfl rfl 0 (by decide) (hts (.fieldLink RX12 275 "MixinUnitsModel" "types" "I") (wd_X12_type _ (List.mem_of_getElem? (i := 3) rfl))) (fun _ h9 => h9) (ls_ne (by decide) (FM.at hF (j := 0) (q := (0, .int 0)) rfl)) dX12_type_178 ?_
          refine lv_iload hx hb dX12_type_181 (lv_at hl 0 rfl) ?_
          refine va_iast hx hb hK hP hD hS 3 0 rfl rfl (vp_in_lit (by decide) (by decide)) dX12_type_183 (fun H locs hP hD hS => ?_)
          have hP : va_P D vwCl [(tm 0, .inl (dT 0, 60, .inl f_27)), (tm 1, .inl (dT 0, 60, .inl f_29)), (tm 2, .inl (dT 0, 60, .inl f_31)), (tm 3, .inl (dT 0, 60, .inl (upd (gm 3) (Int32.toNatClampNeg 0) 1))), (tm 4, .inl (dT 0, 60, .inl (gm 4))), (h, .inr (13, (List.set fs 25 (.int 0))))] H := hP
          have hD : va_D A [(tm 0, .inl (dT 0, 60, .inl f_27)), (tm 1, .inl (dT 0, 60, .inl f_29)), (tm 2, .inl (dT 0, 60, .inl f_31)), (tm 3, .inl (dT 0, 60, .inl (upd (gm 3) (Int32.toNatClampNeg 0) 1))), (tm 4, .inl (dT 0, 60, .inl (gm 4))), (h, .inr (13, (List.set fs 25 (.int 0))))] := hD
          obtain ⟨f_32, hf_32⟩ : ∃ g9 : Nat → Int32, g9 = upd (gm 3) (Int32.toNatClampNeg 0) 1 := ⟨_, rfl⟩
          rw [← hf_32] at hP hD
          clear hf_32
          refine lv_aload_n hx hb dX12_type_184 rfl (lv_at hl 3 rfl) ?_
          refine va_get (D := D) (ci := 13) (v := .ref (tm 4)) (C := RX12) (T := TX12) (N := 109) hx hb hts wc_X12_type_X12 hown hK hP 5 rfl rfl 5 (by decide) (hts (.fieldLink RX12 22 "MixinUnitsModel" "tNames" "[I") (wd_X12_type _ (List.mem_of_getElem? (i := 11) rfl))) (fun _ h9 => h9) (ls_ne (by decide) (FM.at hF (j := 12) (q := (5, .ref (tm 4))) rfl)) dX12_type_185 ?_
          refine lv_aload_n hx hb dX12_type_188 rfl (lv_at hl 3 rfl) ?_
          refine va_get (D := D) (ci := 13) (v := .int 0) (C := RX12) (T := TX12) (N := 109) hx hb hts wc_X12_type_X12 hown hK hP 5 rfl rfl 0 (by decide) (hts (.fieldLink RX12 275 "MixinUnitsModel" "types" "I") (wd_X12_type _ (List.mem_of_getElem? (i := 3) rfl))) (fun _ h9 => h9) (ls_ne (by decide) (FM.at hF (j := 0) (q := (0, .int 0)) rfl)) dX12_type_189 ?_
          refine lv_iload_n hx hb dX12_type_192 rfl (lv_at hl 4 rfl) ?_
          refine lv_iconst (v := 2) hx hb dX12_type_193 (by decide) ?_
          refine lv_icmp_ne (tgt := 203) hx hb dX12_type_194 (by decide) (fun _ => ?_) (fun c_33 => absurd c_33 (c_16))
          refine lv_iload_n hx hb dX12_type_203 rfl (lv_at hl 4 rfl) ?_
          refine lv_iconst (v := 1) hx hb dX12_type_204 (by decide) ?_
          refine lv_icmp_ne (tgt := 224) hx hb dX12_type_205 (by decide) (fun _ => ?_) (fun c_34 => absurd c_34 (c_17))
          refine lv_iconst (v := 0) hx hb dX12_type_224 (by decide) ?_
          refine va_iast hx hb hK hP hD hS 4 0 rfl rfl (vp_in_lit (by decide) (by decide)) dX12_type_225 (fun H locs hP hD hS => ?_)
          have hP : va_P D vwCl [(tm 0, .inl (dT 0, 60, .inl f_27)), (tm 1, .inl (dT 0, 60, .inl f_29)), (tm 2, .inl (dT 0, 60, .inl f_31)), (tm 3, .inl (dT 0, 60, .inl f_32)), (tm 4, .inl (dT 0, 60, .inl (upd (gm 4) (Int32.toNatClampNeg 0) 0))), (h, .inr (13, (List.set fs 25 (.int 0))))] H := hP
          have hD : va_D A [(tm 0, .inl (dT 0, 60, .inl f_27)), (tm 1, .inl (dT 0, 60, .inl f_29)), (tm 2, .inl (dT 0, 60, .inl f_31)), (tm 3, .inl (dT 0, 60, .inl f_32)), (tm 4, .inl (dT 0, 60, .inl (upd (gm 4) (Int32.toNatClampNeg 0) 0))), (h, .inr (13, (List.set fs 25 (.int 0))))] := hD
          obtain ⟨f_35, hf_35⟩ : ∃ g9 : Nat → Int32, g9 = upd (gm 4) (Int32.toNatClampNeg 0) 0 := ⟨_, rfl⟩
          rw [← hf_35] at hP hD
          clear hf_35
          refine lv_aload_n hx hb dX12_type_226 rfl (lv_at hl 3 rfl) ?_
          refine lv_dup hx hb dX12_type_227 rfl ?_
          refine va_get (D := D) (ci := 13) (v := .int 0) (C := RX12) (T := TX12) (N := 109) hx hb hts wc_X12_type_X12 hown hK hP 5 rfl rfl 0 (by decide) (hts (.fieldLink RX12 275 "MixinUnitsModel" "types" "I") (wd_X12_type _ (List.mem_of_getElem? (i := 3) rfl))) (fun _ h9 => h9) (ls_ne (by decide) (FM.at hF (j := 0) (q := (0, .int 0)) rfl)) dX12_type_228 ?_
          refine lv_iconst (v := 1) hx hb dX12_type_231 (by decide) ?_
          refine lv_iadd hx hb dX12_type_232 ?_
          refine lv_topi (fun x_36 ex_36 => ?_)
          obtain rfl : x_36 = 1 := ex_36.trans (by decide)
          refine va_put (D := D) (ci := 13) (v := .int 1) (ty := .int) (C := RX12) (T := TX12) (N := 109) hx hb hts wc_X12_type_X12 tyX12 tyX12_ok nmX12 hown hK hP hD hS 5 rfl rfl 0 (by decide) (hts (.fieldLink RX12 275 "MixinUnitsModel" "types" "I") (wd_X12_type _ (List.mem_of_getElem? (i := 3) rfl))) (fun _ h9 => h9) rfl (by decide +kernel) rfl rfl (ls_lt (ls_len (FM.len hF)) (Nat.le_of_ble_eq_true rfl)) dX12_type_233 (fun H locs hP hD hS => ?_)
          have hP : va_P D vwCl [(tm 0, .inl (dT 0, 60, .inl f_27)), (tm 1, .inl (dT 0, 60, .inl f_29)), (tm 2, .inl (dT 0, 60, .inl f_31)), (tm 3, .inl (dT 0, 60, .inl f_32)), (tm 4, .inl (dT 0, 60, .inl f_35)), (h, .inr (13, (List.set (List.set fs 25 (.int 0)) 0 (.int 1))))] H := hP
          have hD : va_D A [(tm 0, .inl (dT 0, 60, .inl f_27)), (tm 1, .inl (dT 0, 60, .inl f_29)), (tm 2, .inl (dT 0, 60, .inl f_31)), (tm 3, .inl (dT 0, 60, .inl f_32)), (tm 4, .inl (dT 0, 60, .inl f_35)), (h, .inr (13, (List.set (List.set fs 25 (.int 0)) 0 (.int 1))))] := hD
          refine lv_aload_n hx hb dX12_type_236 rfl (lv_at hl 3 rfl) ?_
          refine va_get (D := D) (ci := 13) (v := .int 1) (C := RX12) (T := TX12) (N := 109) hx hb hts wc_X12_type_X12 hown hK hP 5 rfl rfl 0 (by decide) (hts (.fieldLink RX12 275 "MixinUnitsModel" "types" "I") (wd_X12_type _ (List.mem_of_getElem? (i := 3) rfl))) (fun _ h9 => h9) (ls_self (ls_len (FM.len hF)) (Nat.le_of_ble_eq_true rfl)) dX12_type_237 ?_
          refine lv_iconst (v := 1) hx hb dX12_type_240 (by decide) ?_
          refine lv_isub hx hb dX12_type_241 ?_
          refine lv_topi (fun x_37 ex_37 => ?_)
          obtain rfl : x_37 = 0 := ex_37.trans (by decide)
          have hP9 := hP.sub (ws' := [(h, .inr (13, (List.set (List.set fs 25 (.int 0)) 0 (.int 1))))]) [5] rfl
          have hD9 := hD.sub (ws' := [(h, .inr (13, (List.set (List.set fs 25 (.int 0)) 0 (.int 1))))]) [5] (by decide) rfl
          exact W.iret (v := 0) hx hb hr (fun t ht hW => ⟨⟨_, (), rfl, rfl, (List.set (List.set fs 25 (.int 0)) 0 (.int 1)), (by rw [show sp_type k f = 0 from (sp_type_d (by simp only [Int32.lt_iff_toInt_lt, Int32.le_iff_toInt_le, i32_eq, ne_eq, gt_iff_lt, ge_iff_le, i32_0, i32_1, i32_2, i32_3, i32_4, i32_5, i32_6, i32_7, i32_9, i32_10, i32_m1] at hc_5 c_16 c_17 c_28 ⊢ <;> omega) (by simp only [Int32.lt_iff_toInt_lt, Int32.le_iff_toInt_le, i32_eq, ne_eq, gt_iff_lt, ge_iff_le, i32_0, i32_1, i32_2, i32_3, i32_4, i32_5, i32_6, i32_7, i32_9, i32_10, i32_m1] at hc_5 c_16 c_17 c_28 ⊢ <;> omega) (by simp only [Int32.lt_iff_toInt_lt, Int32.le_iff_toInt_le, i32_eq, ne_eq, gt_iff_lt, ge_iff_le, i32_0, i32_1, i32_2, i32_3, i32_4, i32_5, i32_6, i32_7, i32_9, i32_10, i32_m1] at hc_5 c_16 c_17 c_28 ⊢ <;> omega))]; exact (ls_ne (by decide) (ls_self (FM.len hF) (Nat.le_of_ble_eq_true rfl)))), by rw [ht]; exact hP9, va_K.moved hW.alike hK, hD9⟩, hS.F ht⟩) hS.2.2 dX12_type_242
      · refine lv_aload_n hx hb dX12_type_33 rfl (lv_at hl 1 rfl) ?_
        refine lv_iload_n hx hb dX12_type_34 rfl (lv_at hl 3 rfl) ?_
        have hPc := hP.sub (ws' := [(h, .inr (13, fs))]) [0] rfl
        have hDc := hD.sub (ws' := [(h, .inr (13, fs))]) [0] (by decide) rfl
        have hFc := va_free (wc := [(h, .inr (13, fs))]) hD hS hA [0] rfl
        refine va_calli (va_runV (As := [.int f]) (rest := []) ⟨hx, hb, hml, hown, hts⟩ (c_X12_isType l D dT H.size h fs tm f hF) (cwV 1 hts (goodIn_app (goodIn_r _ [13, 14, 15, 3] rfl (by decide +kernel)) (goodIn_sub wq_X12_type_X12_isType gd_X12_isType)) rfl rfl rfl (by decide +kernel) ⟨Nat.le_of_ble_eq_true rfl, Nat.le_of_ble_eq_true rfl⟩) ⟨(fun a U g mk q => by obtain ⟨z0, z1, zP, zK, zD, zE⟩ := q; exact ⟨z0, z1, zP, va_K.moved (u := U) (U := U.calling g mk a) (Vm.Alike.refl U.vm) zK, zD, EN.frame zE⟩), va_recv hK hP (ci := 13) (q0 := 0) rfl rfl, fun U hU hW => ⟨rfl, by rw [hU], by rw [hU]; exact hPc, va_K.moved hW.alike hK, hDc.weaken (fun _ _ _ _ => trivial), EN.call hE hS hFc hW hU⟩⟩ rfl rfl hl.1 rfl (lv_room (Nat.le_of_ble_eq_true rfl)) dX12_type_35 ⟨(Nat.le_of_ble_eq_true rfl), (Nat.le_of_ble_eq_true rfl)⟩) hS (fun q _ h => hFc q h) hFc (fun r_38 u_39 t H1 locs ht hvm hw hB hz1 hk1 hS => ?_)
        obtain ⟨-, hP1, hK1, hD1⟩ := hB
        rw [ht] at hP1
        obtain ⟨hP, hD⟩ := va_join (wr := [(tm 0, .inl (dT 0, 60, .inl (gm 0))), (tm 1, .inl (dT 0, 60, .inl (gm 1))), (tm 2, .inl (dT 0, 60, .inl (gm 2))), (tm 3, .inl (dT 0, 60, .inl (gm 3))), (tm 4, .inl (dT 0, 60, .inl (gm 4)))]) (w1 := [(h, .inr (13, fs))]) hP hD [0] [1, 2, 3, 4, 5] rfl rfl (by decide) (by decide) hk1 hFc hP1 hD1
        generalize H1 = H at hP hS ⊢
        have hP : va_P D vwCl [(tm 0, .inl (dT 0, 60, .inl (gm 0))), (tm 1, .inl (dT 0, 60, .inl (gm 1))), (tm 2, .inl (dT 0, 60, .inl (gm 2))), (tm 3, .inl (dT 0, 60, .inl (gm 3))), (tm 4, .inl (dT 0, 60, .inl (gm 4))), (h, .inr (13, fs))] H := hP
        have hD : va_D A [(tm 0, .inl (dT 0, 60, .inl (gm 0))), (tm 1, .inl (dT 0, 60, .inl (gm 1))), (tm 2, .inl (dT 0, 60, .inl (gm 2))), (tm 3, .inl (dT 0, 60, .inl (gm 3))), (tm 4, .inl (dT 0, 60, .inl (gm 4))), (h, .inr (13, fs))] := hD
        refine W.widen (k := 0) (n := 0) (Nat.le_of_ble_eq_true rfl) (Nat.le_of_ble_eq_true rfl) ?_
        have hw_40 := hw
        try dsimp only at hw_40
        obtain rfl : r_38 = 0 := hw_40
        refine lv_if_eq (tgt := 53) hx hb dX12_type_38 (by decide) (fun _ => ?_) (fun c_41 => absurd (by decide) c_41)
        refine lv_iconst (v := 0) hx hb dX12_type_53 (by decide) ?_
        refine lv_istore (lv' := [(5, .int 0), (4, .int 1), (0, .ref h), (1, .int k), (2, .int f), (3, .int g)]) hx hb dX12_type_54 hl (by decide) rfl (fun ls hl => ?_)
        refine lv_iload hx hb dX12_type_56 (lv_at hl 1 rfl) ?_
        refine lv_if_eq (tgt := 89) hx hb dX12_type_58 (by decide) (fun c_42 => absurd c_42 (by decide)) (fun _ => ?_)
        refine lv_iload hx hb dX12_type_61 (lv_at hl 0 rfl) ?_
        refine lv_if_eq (tgt := 89) hx hb dX12_type_63 (by decide) (fun _ => ?_) (fun c_43 => absurd (by decide) c_43)
        refine lv_iconst (v := 1) hx hb dX12_type_89 (by decide) ?_
        refine lv_istore (lv' := [(6, .int 1), (5, .int 0), (4, .int 1), (0, .ref h), (1, .int k), (2, .int f), (3, .int g)]) hx hb dX12_type_90 hl (by decide) rfl (fun ls hl => ?_)
        refine lv_aload_n hx hb dX12_type_92 rfl (lv_at hl 3 rfl) ?_
        refine lv_iload hx hb dX12_type_93 (lv_at hl 2 rfl) ?_
        refine lv_iload hx hb dX12_type_95 (lv_at hl 1 rfl) ?_
        refine lv_aload_n hx hb dX12_type_97 rfl (lv_at hl 3 rfl) ?_
        refine va_get (D := D) (ci := 13) (v := .int 0) (C := RX12) (T := TX12) (N := 109) hx hb hts wc_X12_type_X12 hown hK hP 5 rfl rfl 0 (by decide) (hts (.fieldLink RX12 275 "MixinUnitsModel" "types" "I") (wd_X12_type _ (List.mem_of_getElem? (i := 3) rfl))) (fun _ h9 => h9) (FM.at hF (j := 0) (q := (0, .int 0)) rfl) dX12_type_98 ?_
        refine lv_bipush (v := 60) hx hb dX12_type_101 (by decide) ?_
        refine lv_icmp_ge (tgt := 117) hx hb dX12_type_103 (by decide) (fun c_44 => absurd c_44 (by decide)) (fun _ => ?_)
        refine lv_iload hx hb dX12_type_106 (lv_at hl 0 rfl) ?_
        refine lv_bipush (v := 12) hx hb dX12_type_108 (by decide) ?_
        refine lv_icmp_gt (tgt := 117) hx hb dX12_type_110 (by decide) (fun c_45 => absurd c_45 (by decide)) (fun _ => ?_)
        refine lv_iconst (v := 1) hx hb dX12_type_113 (by decide) ?_
        refine lv_goto (tgt := 118) hx hb dX12_type_114 (by decide) ?_
        have hPc := hP.sub (ws' := [(h, .inr (13, fs))]) [5] rfl
        have hDc := hD.sub (ws' := [(h, .inr (13, fs))]) [5] (by decide) rfl
        have hFc := va_free (wc := [(h, .inr (13, fs))]) hD hS hA [5] rfl
        refine va_calli (va_runV (As := [.int 1, .int 0, .int 1]) (rest := []) ⟨hx, hb, hml, hown, hts⟩ (c_X12_goes_s l D dT H.size h fs 1 (FM.len hF)) (cwV 3 hts (goodIn_app (goodIn_r _ [5, 6, 7, 3] rfl (by decide +kernel)) (goodIn_sub wq_X12_type_X12_goes_s gd_X12_goes_s)) rfl rfl rfl (by decide +kernel) ⟨Nat.le_of_ble_eq_true rfl, Nat.le_of_ble_eq_true rfl⟩) ⟨(fun a U g mk q => by obtain ⟨z0, z1, zP, zK, zD, zE⟩ := q; exact ⟨z0, z1, zP, va_K.moved (u := U) (U := U.calling g mk a) (Vm.Alike.refl U.vm) zK, zD, EN.frame zE⟩), va_recv hK hP (ci := 13) (q0 := 5) rfl rfl, fun U hU hW => ⟨rfl, by rw [hU], by rw [hU]; exact hPc, va_K.moved hW.alike hK, hDc.weaken (fun _ _ _ _ => trivial), EN.call hE hS hFc hW hU⟩⟩ rfl rfl hl.1 rfl (lv_room (Nat.le_of_ble_eq_true rfl)) dX12_type_118 ⟨(Nat.le_of_ble_eq_true rfl), (Nat.le_of_ble_eq_true rfl)⟩) hS (fun q _ h => hFc q h) hFc (fun r_46 u_47 t H1 locs ht hvm hw hB hz1 hk1 hS => ?_)
        obtain ⟨-, hP1, hK1, hD1⟩ := hB
        rw [ht] at hP1
        obtain ⟨hP, hD⟩ := va_join (wr := [(tm 0, .inl (dT 0, 60, .inl (gm 0))), (tm 1, .inl (dT 0, 60, .inl (gm 1))), (tm 2, .inl (dT 0, 60, .inl (gm 2))), (tm 3, .inl (dT 0, 60, .inl (gm 3))), (tm 4, .inl (dT 0, 60, .inl (gm 4)))]) (w1 := [(h, .inr (13, (List.set fs 25 (.int 2))))]) hP hD [5] [0, 1, 2, 3, 4] rfl rfl (by decide) (by decide) hk1 hFc hP1 hD1
        generalize H1 = H at hP hS ⊢
        have hP : va_P D vwCl [(tm 0, .inl (dT 0, 60, .inl (gm 0))), (tm 1, .inl (dT 0, 60, .inl (gm 1))), (tm 2, .inl (dT 0, 60, .inl (gm 2))), (tm 3, .inl (dT 0, 60, .inl (gm 3))), (tm 4, .inl (dT 0, 60, .inl (gm 4))), (h, .inr (13, (List.set fs 25 (.int 2))))] H := hP
        have hD : va_D A [(tm 0, .inl (dT 0, 60, .inl (gm 0))), (tm 1, .inl (dT 0, 60, .inl (gm 1))), (tm 2, .inl (dT 0, 60, .inl (gm 2))), (tm 3, .inl (dT 0, 60, .inl (gm 3))), (tm 4, .inl (dT 0, 60, .inl (gm 4))), (h, .inr (13, (List.set fs 25 (.int 2))))] := hD
        refine W.widen (k := 0) (n := 0) (Nat.le_of_ble_eq_true rfl) (Nat.le_of_ble_eq_true rfl) ?_
        have hw_48 := hw
        try dsimp only at hw_48
        obtain rfl : r_46 = 0 := hw_48
        refine lv_if_ne (tgt := 126) hx hb dX12_type_121 (by decide) (fun c_49 => absurd (by decide) c_49) (fun _ => ?_)
        refine lv_iconst (v := 0) hx hb dX12_type_124 (by decide) ?_
        have hP9 := hP.sub (ws' := [(h, .inr (13, (List.set fs 25 (.int 2))))]) [5] rfl
        have hD9 := hD.sub (ws' := [(h, .inr (13, (List.set fs 25 (.int 2))))]) [5] (by decide) rfl
        exact W.iret (v := 0) hx hb hr (fun t ht hW => ⟨⟨_, (), rfl, rfl, (List.set fs 25 (.int 2)), (by rw [show sp_type k f = 2 from (sp_type_c (by simp only [Int32.lt_iff_toInt_lt, Int32.le_iff_toInt_le, i32_eq, ne_eq, gt_iff_lt, ge_iff_le, i32_0, i32_1, i32_2, i32_3, i32_4, i32_5, i32_6, i32_7, i32_9, i32_10, i32_m1] at hc_5 c_16 c_17 ⊢ <;> omega) (by simp only [Int32.lt_iff_toInt_lt, Int32.le_iff_toInt_le, i32_eq, ne_eq, gt_iff_lt, ge_iff_le, i32_0, i32_1, i32_2, i32_3, i32_4, i32_5, i32_6, i32_7, i32_9, i32_10, i32_m1] at hc_5 c_16 c_17 ⊢ <;> omega) (by simp only [Int32.lt_iff_toInt_lt, Int32.le_iff_toInt_le, i32_eq, ne_eq, gt_iff_lt, ge_iff_le, i32_0, i32_1, i32_2, i32_3, i32_4, i32_5, i32_6, i32_7, i32_9, i32_10, i32_m1] at hc_5 c_16 c_17 ⊢ <;> omega))]; exact (ls_self (FM.len hF) (Nat.le_of_ble_eq_true rfl))), by rw [ht]; exact hP9, va_K.moved hW.alike hK, hD9⟩, hS.F ht⟩) hS.2.2 dX12_type_125
    · refine lv_iload_n hx hb dX12_type_14 rfl (lv_at hl 2 rfl) ?_
      have hPc := hP.sub (ws' := []) [] rfl
      have hDc := hD.sub (ws' := []) [] (by decide) rfl
      have hFc := va_free (wc := []) hD hS hA [] rfl
      refine va_calli (va_runS (As := [.int f]) (rest := []) ⟨hx, hb, hml, hown, hts⟩ (c_X12_isName l D dT H.size f) (va_cwS 1 hts (goodIn_app (goodIn_r _ [16, 17, 3] rfl (by decide +kernel)) (goodIn_sub wq_X12_type_X12_isName gd_X12_isName)) rfl rfl rfl (by decide +kernel) ⟨Nat.le_of_ble_eq_true rfl, Nat.le_of_ble_eq_true rfl⟩) ⟨(fun a U g mk q => by obtain ⟨z0, z1, zP, zK, zD, zE⟩ := q; exact ⟨z0, z1, zP, va_K.moved (u := U) (U := U.calling g mk a) (Vm.Alike.refl U.vm) zK, zD, EN.frame zE⟩), fun U hU hW => ⟨rfl, by rw [hU], by rw [hU]; exact hPc, va_K.moved hW.alike hK, hDc.weaken (fun _ _ _ _ => trivial), EN.call hE hS hFc hW hU⟩⟩ rfl rfl hl.1 rfl (lv_room (Nat.le_of_ble_eq_true rfl)) dX12_type_15 ⟨(Nat.le_of_ble_eq_true rfl), (Nat.le_of_ble_eq_true rfl)⟩) hS (fun q _ h => hFc q h) hFc (fun r_50 u_51 t H1 locs ht hvm hw hB hz1 hk1 hS => ?_)
      obtain ⟨-, hP1, hK1, hD1⟩ := hB
      rw [ht] at hP1
      obtain ⟨hP, hD⟩ := va_join (wr := [(h, .inr (13, fs)), (tm 0, .inl (dT 0, 60, .inl (gm 0))), (tm 1, .inl (dT 0, 60, .inl (gm 1))), (tm 2, .inl (dT 0, 60, .inl (gm 2))), (tm 3, .inl (dT 0, 60, .inl (gm 3))), (tm 4, .inl (dT 0, 60, .inl (gm 4)))]) (w1 := []) hP hD [] [0, 1, 2, 3, 4, 5] rfl rfl (by decide) (by decide) hk1 hFc hP1 hD1
      generalize H1 = H at hP hS ⊢
      have hP : va_P D vwCl [(h, .inr (13, fs)), (tm 0, .inl (dT 0, 60, .inl (gm 0))), (tm 1, .inl (dT 0, 60, .inl (gm 1))), (tm 2, .inl (dT 0, 60, .inl (gm 2))), (tm 3, .inl (dT 0, 60, .inl (gm 3))), (tm 4, .inl (dT 0, 60, .inl (gm 4)))] H := hP
      have hD : va_D A [(h, .inr (13, fs)), (tm 0, .inl (dT 0, 60, .inl (gm 0))), (tm 1, .inl (dT 0, 60, .inl (gm 1))), (tm 2, .inl (dT 0, 60, .inl (gm 2))), (tm 3, .inl (dT 0, 60, .inl (gm 3))), (tm 4, .inl (dT 0, 60, .inl (gm 4)))] := hD
      refine W.widen (k := 0) (n := 0) (Nat.le_of_ble_eq_true rfl) (Nat.le_of_ble_eq_true rfl) ?_
      have hw_52 := hw
      try dsimp only at hw_52
      rcases hw_52 with ⟨hc_53, rfl⟩ | ⟨hc_54, rfl⟩
      · refine lv_if_eq (tgt := 25) hx hb dX12_type_18 (by decide) (fun _ => ?_) (fun c_55 => absurd (by decide) c_55)
        refine lv_iconst (v := 0) hx hb dX12_type_25 (by decide) ?_
        refine lv_istore (lv' := [(4, .int 0), (0, .ref h), (1, .int k), (2, .int f), (3, .int g)]) hx hb dX12_type_26 hl (by decide) rfl (fun ls hl => ?_)
        refine lv_iload_n hx hb dX12_type_28 rfl (lv_at hl 2 rfl) ?_
        refine lv_iconst (v := 1) hx hb dX12_type_29 (by decide) ?_
        refine lv_icmp_ne (tgt := 49) hx hb dX12_type_30 (by decide) (fun c_56 => ?_) (fun c_56 => ?_)
        · refine lv_iconst (v := 1) hx hb dX12_type_49 (by decide) ?_
          refine lv_goto (tgt := 54) hx hb dX12_type_50 (by decide) ?_
          refine lv_istore (lv' := [(5, .int 1), (4, .int 0), (0, .ref h), (1, .int k), (2, .int f), (3, .int g)]) hx hb dX12_type_54 hl (by decide) rfl (fun ls hl => ?_)
          refine lv_iload hx hb dX12_type_56 (lv_at hl 1 rfl) ?_
          refine lv_if_eq (tgt := 89) hx hb dX12_type_58 (by decide) (fun _ => ?_) (fun c_57 => absurd (by decide) c_57)
          refine lv_iconst (v := 1) hx hb dX12_type_89 (by decide) ?_
          refine lv_istore (lv' := [(6, .int 1), (5, .int 1), (4, .int 0), (0, .ref h), (1, .int k), (2, .int f), (3, .int g)]) hx hb dX12_type_90 hl (by decide) rfl (fun ls hl => ?_)
          refine lv_aload_n hx hb dX12_type_92 rfl (lv_at hl 3 rfl) ?_
          refine lv_iload hx hb dX12_type_93 (lv_at hl 2 rfl) ?_
          refine lv_iload hx hb dX12_type_95 (lv_at hl 1 rfl) ?_
          refine lv_aload_n hx hb dX12_type_97 rfl (lv_at hl 3 rfl) ?_
          refine va_get (D := D) (ci := 13) (v := .int 0) (C := RX12) (T := TX12) (N := 109) hx hb hts wc_X12_type_X12 hown hK hP 0 rfl rfl 0 (by decide) (hts (.fieldLink RX12 275 "MixinUnitsModel" "types" "I") (wd_X12_type _ (List.mem_of_getElem? (i := 3) rfl))) (fun _ h9 => h9) (FM.at hF (j := 0) (q := (0, .int 0)) rfl) dX12_type_98 ?_
          refine lv_bipush (v := 60) hx hb dX12_type_101 (by decide) ?_
          refine lv_icmp_ge (tgt := 117) hx hb dX12_type_103 (by decide) (fun c_58 => absurd c_58 (by decide)) (fun _ => ?_)
          refine lv_iload hx hb dX12_type_106 (lv_at hl 0 rfl) ?_
          refine lv_bipush (v := 12) hx hb dX12_type_108 (by decide) ?_
          refine lv_icmp_gt (tgt := 117) hx hb dX12_type_110 (by decide) (fun c_59 => absurd c_59 (by decide)) (fun _ => ?_)
          refine lv_iconst (v := 1) hx hb dX12_type_113 (by decide) ?_
          refine lv_goto (tgt := 118) hx hb dX12_type_114 (by decide) ?_
          have hPc := hP.sub (ws' := [(h, .inr (13, fs))]) [0] rfl
          have hDc := hD.sub (ws' := [(h, .inr (13, fs))]) [0] (by decide) rfl
          have hFc := va_free (wc := [(h, .inr (13, fs))]) hD hS hA [0] rfl
          refine va_calli (va_runV (As := [.int 0, .int 1, .int 1]) (rest := []) ⟨hx, hb, hml, hown, hts⟩ (c_X12_goes_f l D dT H.size h fs 1 1 (FM.len hF)) (cwV 3 hts (goodIn_app (goodIn_r _ [5, 6, 7, 3] rfl (by decide +kernel)) (goodIn_sub wq_X12_type_X12_goes_f gd_X12_goes_f)) rfl rfl rfl (by decide +kernel) ⟨Nat.le_of_ble_eq_true rfl, Nat.le_of_ble_eq_true rfl⟩) ⟨(fun a U g mk q => by obtain ⟨z0, z1, zP, zK, zD, zE⟩ := q; exact ⟨z0, z1, zP, va_K.moved (u := U) (U := U.calling g mk a) (Vm.Alike.refl U.vm) zK, zD, EN.frame zE⟩), va_recv hK hP (ci := 13) (q0 := 0) rfl rfl, fun U hU hW => ⟨rfl, by rw [hU], by rw [hU]; exact hPc, va_K.moved hW.alike hK, hDc.weaken (fun _ _ _ _ => trivial), EN.call hE hS hFc hW hU⟩⟩ rfl rfl hl.1 rfl (lv_room (Nat.le_of_ble_eq_true rfl)) dX12_type_118 ⟨(Nat.le_of_ble_eq_true rfl), (Nat.le_of_ble_eq_true rfl)⟩) hS (fun q _ h => hFc q h) hFc (fun r_60 u_61 t H1 locs ht hvm hw hB hz1 hk1 hS => ?_)
          obtain ⟨-, hP1, hK1, hD1⟩ := hB
          rw [ht] at hP1
          obtain ⟨hP, hD⟩ := va_join (wr := [(tm 0, .inl (dT 0, 60, .inl (gm 0))), (tm 1, .inl (dT 0, 60, .inl (gm 1))), (tm 2, .inl (dT 0, 60, .inl (gm 2))), (tm 3, .inl (dT 0, 60, .inl (gm 3))), (tm 4, .inl (dT 0, 60, .inl (gm 4)))]) (w1 := [(h, .inr (13, (List.set fs 25 (.int 1))))]) hP hD [0] [1, 2, 3, 4, 5] rfl rfl (by decide) (by decide) hk1 hFc hP1 hD1
          generalize H1 = H at hP hS ⊢
          have hP : va_P D vwCl [(tm 0, .inl (dT 0, 60, .inl (gm 0))), (tm 1, .inl (dT 0, 60, .inl (gm 1))), (tm 2, .inl (dT 0, 60, .inl (gm 2))), (tm 3, .inl (dT 0, 60, .inl (gm 3))), (tm 4, .inl (dT 0, 60, .inl (gm 4))), (h, .inr (13, (List.set fs 25 (.int 1))))] H := hP
          have hD : va_D A [(tm 0, .inl (dT 0, 60, .inl (gm 0))), (tm 1, .inl (dT 0, 60, .inl (gm 1))), (tm 2, .inl (dT 0, 60, .inl (gm 2))), (tm 3, .inl (dT 0, 60, .inl (gm 3))), (tm 4, .inl (dT 0, 60, .inl (gm 4))), (h, .inr (13, (List.set fs 25 (.int 1))))] := hD
          refine W.widen (k := 0) (n := 0) (Nat.le_of_ble_eq_true rfl) (Nat.le_of_ble_eq_true rfl) ?_
          have hw_62 := hw
          try dsimp only at hw_62
          obtain rfl : r_60 = 0 := hw_62
          refine lv_if_ne (tgt := 126) hx hb dX12_type_121 (by decide) (fun c_63 => absurd (by decide) c_63) (fun _ => ?_)
          refine lv_iconst (v := 0) hx hb dX12_type_124 (by decide) ?_
          have hP9 := hP.sub (ws' := [(h, .inr (13, (List.set fs 25 (.int 1))))]) [5] rfl
          have hD9 := hD.sub (ws' := [(h, .inr (13, (List.set fs 25 (.int 1))))]) [5] (by decide) rfl
          exact W.iret (v := 0) hx hb hr (fun t ht hW => ⟨⟨_, (), rfl, rfl, (List.set fs 25 (.int 1)), (by rw [show sp_type k f = 1 from (sp_type_b (by simp only [Int32.lt_iff_toInt_lt, Int32.le_iff_toInt_le, i32_eq, ne_eq, gt_iff_lt, ge_iff_le, i32_0, i32_1, i32_2, i32_3, i32_4, i32_5, i32_6, i32_7, i32_9, i32_10, i32_m1] at hc_5 c_16 hc_53 c_56 ⊢ <;> omega) (by simp only [Int32.lt_iff_toInt_lt, Int32.le_iff_toInt_le, i32_eq, ne_eq, gt_iff_lt, ge_iff_le, i32_0, i32_1, i32_2, i32_3, i32_4, i32_5, i32_6, i32_7, i32_9, i32_10, i32_m1] at hc_5 c_16 hc_53 c_56 ⊢ <;> omega))]; exact (ls_self (FM.len hF) (Nat.le_of_ble_eq_true rfl))), by rw [ht]; exact hP9, va_K.moved hW.alike hK, hD9⟩, hS.F ht⟩) hS.2.2 dX12_type_125
        · exfalso; simp only [Int32.lt_iff_toInt_lt, Int32.le_iff_toInt_le, i32_eq, ne_eq, gt_iff_lt, ge_iff_le, i32_0, i32_1, i32_2, i32_3, i32_4, i32_5, i32_6, i32_7, i32_9, i32_10, i32_m1] at hc_5 c_16 hc_53 c_56 ⊢ <;> omega
      · refine lv_if_eq (tgt := 25) hx hb dX12_type_18 (by decide) (fun c_64 => absurd c_64 (by decide)) (fun _ => ?_)
        refine lv_iconst (v := 1) hx hb dX12_type_21 (by decide) ?_
        refine lv_goto (tgt := 26) hx hb dX12_type_22 (by decide) ?_
        refine lv_istore (lv' := [(4, .int 1), (0, .ref h), (1, .int k), (2, .int f), (3, .int g)]) hx hb dX12_type_26 hl (by decide) rfl (fun ls hl => ?_)
        refine lv_iload_n hx hb dX12_type_28 rfl (lv_at hl 2 rfl) ?_
        refine lv_iconst (v := 1) hx hb dX12_type_29 (by decide) ?_
        refine lv_icmp_ne (tgt := 49) hx hb dX12_type_30 (by decide) (fun c_65 => ?_) (fun c_65 => ?_)
        · refine lv_iconst (v := 1) hx hb dX12_type_49 (by decide) ?_
          refine lv_goto (tgt := 54) hx hb dX12_type_50 (by decide) ?_
          refine lv_istore (lv' := [(5, .int 1), (4, .int 1), (0, .ref h), (1, .int k), (2, .int f), (3, .int g)]) hx hb dX12_type_54 hl (by decide) rfl (fun ls hl => ?_)
          refine lv_iload hx hb dX12_type_56 (lv_at hl 1 rfl) ?_
          refine lv_if_eq (tgt := 89) hx hb dX12_type_58 (by decide) (fun c_66 => absurd c_66 (by decide)) (fun _ => ?_)
          refine lv_iload hx hb dX12_type_61 (lv_at hl 0 rfl) ?_
          refine lv_if_eq (tgt := 89) hx hb dX12_type_63 (by decide) (fun c_67 => absurd c_67 (by decide)) (fun _ => ?_)
          refine lv_iload_n hx hb dX12_type_66 rfl (lv_at hl 3 rfl) ?_
          refine lv_iconst (v := 1) hx hb dX12_type_67 (by decide) ?_
          refine lv_icmp_ne (tgt := 89) hx hb dX12_type_68 (by decide) (fun _ => ?_) (fun c_68 => absurd c_68 (c_65))
          refine lv_iconst (v := 1) hx hb dX12_type_89 (by decide) ?_
          refine lv_istore (lv' := [(6, .int 1), (5, .int 1), (4, .int 1), (0, .ref h), (1, .int k), (2, .int f), (3, .int g)]) hx hb dX12_type_90 hl (by decide) rfl (fun ls hl => ?_)
          refine lv_aload_n hx hb dX12_type_92 rfl (lv_at hl 3 rfl) ?_
          refine lv_iload hx hb dX12_type_93 (lv_at hl 2 rfl) ?_
          refine lv_iload hx hb dX12_type_95 (lv_at hl 1 rfl) ?_
          refine lv_aload_n hx hb dX12_type_97 rfl (lv_at hl 3 rfl) ?_
          refine va_get (D := D) (ci := 13) (v := .int 0) (C := RX12) (T := TX12) (N := 109) hx hb hts wc_X12_type_X12 hown hK hP 0 rfl rfl 0 (by decide) (hts (.fieldLink RX12 275 "MixinUnitsModel" "types" "I") (wd_X12_type _ (List.mem_of_getElem? (i := 3) rfl))) (fun _ h9 => h9) (FM.at hF (j := 0) (q := (0, .int 0)) rfl) dX12_type_98 ?_
          refine lv_bipush (v := 60) hx hb dX12_type_101 (by decide) ?_
          refine lv_icmp_ge (tgt := 117) hx hb dX12_type_103 (by decide) (fun c_69 => absurd c_69 (by decide)) (fun _ => ?_)
          refine lv_iload hx hb dX12_type_106 (lv_at hl 0 rfl) ?_
          refine lv_bipush (v := 12) hx hb dX12_type_108 (by decide) ?_
          refine lv_icmp_gt (tgt := 117) hx hb dX12_type_110 (by decide) (fun c_70 => absurd c_70 (by decide)) (fun _ => ?_)
          refine lv_iconst (v := 1) hx hb dX12_type_113 (by decide) ?_
          refine lv_goto (tgt := 118) hx hb dX12_type_114 (by decide) ?_
          have hPc := hP.sub (ws' := [(h, .inr (13, fs))]) [0] rfl
          have hDc := hD.sub (ws' := [(h, .inr (13, fs))]) [0] (by decide) rfl
          have hFc := va_free (wc := [(h, .inr (13, fs))]) hD hS hA [0] rfl
          refine va_calli (va_runV (As := [.int 1, .int 1, .int 1]) (rest := []) ⟨hx, hb, hml, hown, hts⟩ (c_X12_goes_ok l D dT H.size h fs (FM.len hF)) (cwV 3 hts (goodIn_app (goodIn_r _ [5, 6, 7, 3] rfl (by decide +kernel)) (goodIn_sub wq_X12_type_X12_goes_ok gd_X12_goes_ok)) rfl rfl rfl (by decide +kernel) ⟨Nat.le_of_ble_eq_true rfl, Nat.le_of_ble_eq_true rfl⟩) ⟨(fun a U g mk q => by obtain ⟨z0, z1, zP, zK, zD, zE⟩ := q; exact ⟨z0, z1, zP, va_K.moved (u := U) (U := U.calling g mk a) (Vm.Alike.refl U.vm) zK, zD, EN.frame zE⟩), va_recv hK hP (ci := 13) (q0 := 0) rfl rfl, fun U hU hW => ⟨rfl, by rw [hU], by rw [hU]; exact hPc, va_K.moved hW.alike hK, hDc.weaken (fun _ _ _ _ => trivial), EN.call hE hS hFc hW hU⟩⟩ rfl rfl hl.1 rfl (lv_room (Nat.le_of_ble_eq_true rfl)) dX12_type_118 ⟨(Nat.le_of_ble_eq_true rfl), (Nat.le_of_ble_eq_true rfl)⟩) hS (fun q _ h => hFc q h) hFc (fun r_71 u_72 t H1 locs ht hvm hw hB hz1 hk1 hS => ?_)
          obtain ⟨-, hP1, hK1, hD1⟩ := hB
          rw [ht] at hP1
          obtain ⟨hP, hD⟩ := va_join (wr := [(tm 0, .inl (dT 0, 60, .inl (gm 0))), (tm 1, .inl (dT 0, 60, .inl (gm 1))), (tm 2, .inl (dT 0, 60, .inl (gm 2))), (tm 3, .inl (dT 0, 60, .inl (gm 3))), (tm 4, .inl (dT 0, 60, .inl (gm 4)))]) (w1 := [(h, .inr (13, (List.set fs 25 (.int 0))))]) hP hD [0] [1, 2, 3, 4, 5] rfl rfl (by decide) (by decide) hk1 hFc hP1 hD1
          generalize H1 = H at hP hS ⊢
          have hP : va_P D vwCl [(tm 0, .inl (dT 0, 60, .inl (gm 0))), (tm 1, .inl (dT 0, 60, .inl (gm 1))), (tm 2, .inl (dT 0, 60, .inl (gm 2))), (tm 3, .inl (dT 0, 60, .inl (gm 3))), (tm 4, .inl (dT 0, 60, .inl (gm 4))), (h, .inr (13, (List.set fs 25 (.int 0))))] H := hP
          have hD : va_D A [(tm 0, .inl (dT 0, 60, .inl (gm 0))), (tm 1, .inl (dT 0, 60, .inl (gm 1))), (tm 2, .inl (dT 0, 60, .inl (gm 2))), (tm 3, .inl (dT 0, 60, .inl (gm 3))), (tm 4, .inl (dT 0, 60, .inl (gm 4))), (h, .inr (13, (List.set fs 25 (.int 0))))] := hD
          refine W.widen (k := 0) (n := 0) (Nat.le_of_ble_eq_true rfl) (Nat.le_of_ble_eq_true rfl) ?_
          have hw_73 := hw
          try dsimp only at hw_73
          obtain rfl : r_71 = 1 := hw_73
          refine lv_if_ne (tgt := 126) hx hb dX12_type_121 (by decide) (fun _ => ?_) (fun c_74 => absurd c_74 (by decide))
          refine lv_aload_n hx hb dX12_type_126 rfl (lv_at hl 3 rfl) ?_
          refine va_get (D := D) (ci := 13) (v := .ref (tm 0)) (C := RX12) (T := TX12) (N := 109) hx hb hts wc_X12_type_X12 hown hK hP 5 rfl rfl 1 (by decide) (hts (.fieldLink RX12 7 "MixinUnitsModel" "tKind" "[I") (wd_X12_type _ (List.mem_of_getElem? (i := 7) rfl))) (fun _ h9 => h9) (ls_ne (by decide) (FM.at hF (j := 8) (q := (1, .ref (tm 0))) rfl)) dX12_type_127 ?_
          refine lv_aload_n hx hb dX12_type_130 rfl (lv_at hl 3 rfl) ?_
          refine va_get (D := D) (ci := 13) (v := .int 0) (C := RX12) (T := TX12) (N := 109) hx hb hts wc_X12_type_X12 hown hK hP 5 rfl rfl 0 (by decide) (hts (.fieldLink RX12 275 "MixinUnitsModel" "types" "I") (wd_X12_type _ (List.mem_of_getElem? (i := 3) rfl))) (fun _ h9 => h9) (ls_ne (by decide) (FM.at hF (j := 0) (q := (0, .int 0)) rfl)) dX12_type_131 ?_
          refine lv_iload_n hx hb dX12_type_134 rfl (lv_at hl 4 rfl) ?_
          refine va_iast hx hb hK hP hD hS 0 0 rfl rfl (vp_in_lit (by decide) (by decide)) dX12_type_135 (fun H locs hP hD hS => ?_)
          have hP : va_P D vwCl [(tm 0, .inl (dT 0, 60, .inl (upd (gm 0) (Int32.toNatClampNeg 0) k))), (tm 1, .inl (dT 0, 60, .inl (gm 1))), (tm 2, .inl (dT 0, 60, .inl (gm 2))), (tm 3, .inl (dT 0, 60, .inl (gm 3))), (tm 4, .inl (dT 0, 60, .inl (gm 4))), (h, .inr (13, (List.set fs 25 (.int 0))))] H := hP
          have hD : va_D A [(tm 0, .inl (dT 0, 60, .inl (upd (gm 0) (Int32.toNatClampNeg 0) k))), (tm 1, .inl (dT 0, 60, .inl (gm 1))), (tm 2, .inl (dT 0, 60, .inl (gm 2))), (tm 3, .inl (dT 0, 60, .inl (gm 3))), (tm 4, .inl (dT 0, 60, .inl (gm 4))), (h, .inr (13, (List.set fs 25 (.int 0))))] := hD
          obtain ⟨f_75, hf_75⟩ : ∃ g9 : Nat → Int32, g9 = upd (gm 0) (Int32.toNatClampNeg 0) k := ⟨_, rfl⟩
          rw [← hf_75] at hP hD
          clear hf_75
          refine lv_aload_n hx hb dX12_type_136 rfl (lv_at hl 3 rfl) ?_
          refine va_get (D := D) (ci := 13) (v := .ref (tm 1)) (C := RX12) (T := TX12) (N := 109) hx hb hts wc_X12_type_X12 hown hK hP 5 rfl rfl 2 (by decide) (hts (.fieldLink RX12 13 "MixinUnitsModel" "tFirst" "[I") (wd_X12_type _ (List.mem_of_getElem? (i := 8) rfl))) (fun _ h9 => h9) (ls_ne (by decide) (FM.at hF (j := 9) (q := (2, .ref (tm 1))) rfl)) dX12_type_137 ?_
          refine lv_aload_n hx hb dX12_type_140 rfl (lv_at hl 3 rfl) ?_
          refine va_get (D := D) (ci := 13) (v := .int 0) (C := RX12) (T := TX12) (N := 109) hx hb hts wc_X12_type_X12 hown hK hP 5 rfl rfl 0 (by decide) (hts (.fieldLink RX12 275 "MixinUnitsModel" "types" "I") (wd_X12_type _ (List.mem_of_getElem? (i := 3) rfl))) (fun _ h9 => h9) (ls_ne (by decide) (FM.at hF (j := 0) (q := (0, .int 0)) rfl)) dX12_type_141 ?_
          refine lv_iload_n hx hb dX12_type_144 rfl (lv_at hl 4 rfl) ?_
          refine lv_if_ne (tgt := 152) hx hb dX12_type_145 (by decide) (fun c_76 => ?_) (fun c_76 => ?_)
          · refine lv_iload_n hx hb dX12_type_152 rfl (lv_at hl 5 rfl) ?_
            refine va_iast hx hb hK hP hD hS 1 0 rfl rfl (vp_in_lit (by decide) (by decide)) dX12_type_153 (fun H locs hP hD hS => ?_)
            have hP : va_P D vwCl [(tm 0, .inl (dT 0, 60, .inl f_75)), (tm 1, .inl (dT 0, 60, .inl (upd (gm 1) (Int32.toNatClampNeg 0) f))), (tm 2, .inl (dT 0, 60, .inl (gm 2))), (tm 3, .inl (dT 0, 60, .inl (gm 3))), (tm 4, .inl (dT 0, 60, .inl (gm 4))), (h, .inr (13, (List.set fs 25 (.int 0))))] H := hP
            have hD : va_D A [(tm 0, .inl (dT 0, 60, .inl f_75)), (tm 1, .inl (dT 0, 60, .inl (upd (gm 1) (Int32.toNatClampNeg 0) f))), (tm 2, .inl (dT 0, 60, .inl (gm 2))), (tm 3, .inl (dT 0, 60, .inl (gm 3))), (tm 4, .inl (dT 0, 60, .inl (gm 4))), (h, .inr (13, (List.set fs 25 (.int 0))))] := hD
            obtain ⟨f_77, hf_77⟩ : ∃ g9 : Nat → Int32, g9 = upd (gm 1) (Int32.toNatClampNeg 0) f := ⟨_, rfl⟩
            rw [← hf_77] at hP hD
            clear hf_77
            refine lv_aload_n hx hb dX12_type_154 rfl (lv_at hl 3 rfl) ?_
            refine va_get (D := D) (ci := 13) (v := .ref (tm 2)) (C := RX12) (T := TX12) (N := 109) hx hb hts wc_X12_type_X12 hown hK hP 5 rfl rfl 3 (by decide) (hts (.fieldLink RX12 16 "MixinUnitsModel" "tSecond" "[I") (wd_X12_type _ (List.mem_of_getElem? (i := 9) rfl))) (fun _ h9 => h9) (ls_ne (by decide) (FM.at hF (j := 10) (q := (3, .ref (tm 2))) rfl)) dX12_type_155 ?_
            refine lv_aload_n hx hb dX12_type_158 rfl (lv_at hl 3 rfl) ?_
            refine va_get (D := D) (ci := 13) (v := .int 0) (C := RX12) (T := TX12) (N := 109) hx hb hts wc_X12_type_X12 hown hK hP 5 rfl rfl 0 (by decide) (hts (.fieldLink RX12 275 "MixinUnitsModel" "types" "I") (wd_X12_type _ (List.mem_of_getElem? (i := 3) rfl))) (fun _ h9 => h9) (ls_ne (by decide) (FM.at hF (j := 0) (q := (0, .int 0)) rfl)) dX12_type_159 ?_
            refine lv_iload_n hx hb dX12_type_162 rfl (lv_at hl 4 rfl) ?_
            refine lv_iconst (v := 1) hx hb dX12_type_163 (by decide) ?_
            refine lv_icmp_ne (tgt := 171) hx hb dX12_type_164 (by decide) (fun _ => ?_) (fun c_78 => absurd c_78 (c_65))
            refine lv_iconst (v := 0) hx hb dX12_type_171 (by decide) ?_
            refine va_iast hx hb hK hP hD hS 2 0 rfl rfl (vp_in_lit (by decide) (by decide)) dX12_type_172 (fun H locs hP hD hS => ?_)
            have hP : va_P D vwCl [(tm 0, .inl (dT 0, 60, .inl f_75)), (tm 1, .inl (dT 0, 60, .inl f_77)), (tm 2, .inl (dT 0, 60, .inl (upd (gm 2) (Int32.toNatClampNeg 0) 0))), (tm 3, .inl (dT 0, 60, .inl (gm 3))), (tm 4, .inl (dT 0, 60, .inl (gm 4))), (h, .inr (13, (List.set fs 25 (.int 0))))] H := hP
            have hD : va_D A [(tm 0, .inl (dT 0, 60, .inl f_75)), (tm 1, .inl (dT 0, 60, .inl f_77)), (tm 2, .inl (dT 0, 60, .inl (upd (gm 2) (Int32.toNatClampNeg 0) 0))), (tm 3, .inl (dT 0, 60, .inl (gm 3))), (tm 4, .inl (dT 0, 60, .inl (gm 4))), (h, .inr (13, (List.set fs 25 (.int 0))))] := hD
            obtain ⟨f_79, hf_79⟩ : ∃ g9 : Nat → Int32, g9 = upd (gm 2) (Int32.toNatClampNeg 0) 0 := ⟨_, rfl⟩
            rw [← hf_79] at hP hD
            clear hf_79
            refine lv_aload_n hx hb dX12_type_173 rfl (lv_at hl 3 rfl) ?_
            refine va_get (D := D) (ci := 13) (v := .ref (tm 3)) (C := RX12) (T := TX12) (N := 109) hx hb hts wc_X12_type_X12 hown hK hP 5 rfl rfl 4 (by decide) (hts (.fieldLink RX12 19 "MixinUnitsModel" "tWeight" "[I") (wd_X12_type _ (List.mem_of_getElem? (i := 10) rfl))) (fun _ h9 => h9) (ls_ne (by decide) (FM.at hF (j := 11) (q := (4, .ref (tm 3))) rfl)) dX12_type_174 ?_
            refine lv_aload_n hx hb dX12_type_177 rfl (lv_at hl 3 rfl) ?_
            refine va_get (D := D) (ci := 13) (v := .int 0) (C := RX12) (T := TX12) (N := 109) hx hb hts wc_X12_type_X12 hown hK hP 5 rfl rfl 0 (by decide) (hts (.fieldLink RX12 275 "MixinUnitsModel" "types" "I") (wd_X12_type _ (List.mem_of_getElem? (i := 3) rfl))) (fun _ h9 => h9) (ls_ne (by decide) (FM.at hF (j := 0) (q := (0, .int 0)) rfl)) dX12_type_178 ?_
            refine lv_iload hx hb dX12_type_181 (lv_at hl 0 rfl) ?_
            refine va_iast hx hb hK hP hD hS 3 0 rfl rfl (vp_in_lit (by decide) (by decide)) dX12_type_183 (fun H locs hP hD hS => ?_)
            have hP : va_P D vwCl [(tm 0, .inl (dT 0, 60, .inl f_75)), (tm 1, .inl (dT 0, 60, .inl f_77)), (tm 2, .inl (dT 0, 60, .inl f_79)), (tm 3, .inl (dT 0, 60, .inl (upd (gm 3) (Int32.toNatClampNeg 0) 1))), (tm 4, .inl (dT 0, 60, .inl (gm 4))), (h, .inr (13, (List.set fs 25 (.int 0))))] H := hP
            have hD : va_D A [(tm 0, .inl (dT 0, 60, .inl f_75)), (tm 1, .inl (dT 0, 60, .inl f_77)), (tm 2, .inl (dT 0, 60, .inl f_79)), (tm 3, .inl (dT 0, 60, .inl (upd (gm 3) (Int32.toNatClampNeg 0) 1))), (tm 4, .inl (dT 0, 60, .inl (gm 4))), (h, .inr (13, (List.set fs 25 (.int 0))))] := hD
            obtain ⟨f_80, hf_80⟩ : ∃ g9 : Nat → Int32, g9 = upd (gm 3) (Int32.toNatClampNeg 0) 1 := ⟨_, rfl⟩
            rw [← hf_80] at hP hD
            clear hf_80
            refine lv_aload_n hx hb dX12_type_184 rfl (lv_at hl 3 rfl) ?_
            refine va_get (D := D) (ci := 13) (v := .ref (tm 4)) (C := RX12) (T := TX12) (N := 109) hx hb hts wc_X12_type_X12 hown hK hP 5 rfl rfl 5 (by decide) (hts (.fieldLink RX12 22 "MixinUnitsModel" "tNames" "[I") (wd_X12_type _ (List.mem_of_getElem? (i := 11) rfl))) (fun _ h9 => h9) (ls_ne (by decide) (FM.at hF (j := 12) (q := (5, .ref (tm 4))) rfl)) dX12_type_185 ?_
            refine lv_aload_n hx hb dX12_type_188 rfl (lv_at hl 3 rfl) ?_
            refine va_get (D := D) (ci := 13) (v := .int 0) (C := RX12) (T := TX12) (N := 109) hx hb hts wc_X12_type_X12 hown hK hP 5 rfl rfl 0 (by decide) (hts (.fieldLink RX12 275 "MixinUnitsModel" "types" "I") (wd_X12_type _ (List.mem_of_getElem? (i := 3) rfl))) (fun _ h9 => h9) (ls_ne (by decide) (FM.at hF (j := 0) (q := (0, .int 0)) rfl)) dX12_type_189 ?_
            refine lv_iload_n hx hb dX12_type_192 rfl (lv_at hl 4 rfl) ?_
            refine lv_iconst (v := 2) hx hb dX12_type_193 (by decide) ?_
            refine lv_icmp_ne (tgt := 203) hx hb dX12_type_194 (by decide) (fun c_81 => absurd (c_16) c_81) (fun _ => ?_)
            refine lv_iconst (v := 1) hx hb dX12_type_197 (by decide) ?_
            refine lv_iload_n hx hb dX12_type_198 rfl (lv_at hl 5 rfl) ?_
            refine lv_ishl hx hb dX12_type_199 ?_
            refine lv_topi (fun x_82 ex_82 => ?_)
            refine lv_goto (tgt := 225) hx hb dX12_type_200 (by decide) ?_
            refine va_iast hx hb hK hP hD hS 4 0 rfl rfl (vp_in_lit (by decide) (by decide)) dX12_type_225 (fun H locs hP hD hS => ?_)
            have hP : va_P D vwCl [(tm 0, .inl (dT 0, 60, .inl f_75)), (tm 1, .inl (dT 0, 60, .inl f_77)), (tm 2, .inl (dT 0, 60, .inl f_79)), (tm 3, .inl (dT 0, 60, .inl f_80)), (tm 4, .inl (dT 0, 60, .inl (upd (gm 4) (Int32.toNatClampNeg 0) x_82))), (h, .inr (13, (List.set fs 25 (.int 0))))] H := hP
            have hD : va_D A [(tm 0, .inl (dT 0, 60, .inl f_75)), (tm 1, .inl (dT 0, 60, .inl f_77)), (tm 2, .inl (dT 0, 60, .inl f_79)), (tm 3, .inl (dT 0, 60, .inl f_80)), (tm 4, .inl (dT 0, 60, .inl (upd (gm 4) (Int32.toNatClampNeg 0) x_82))), (h, .inr (13, (List.set fs 25 (.int 0))))] := hD
            obtain ⟨f_83, hf_83⟩ : ∃ g9 : Nat → Int32, g9 = upd (gm 4) (Int32.toNatClampNeg 0) x_82 := ⟨_, rfl⟩
            rw [← hf_83] at hP hD
            clear hf_83
            refine lv_aload_n hx hb dX12_type_226 rfl (lv_at hl 3 rfl) ?_
            refine lv_dup hx hb dX12_type_227 rfl ?_
            refine va_get (D := D) (ci := 13) (v := .int 0) (C := RX12) (T := TX12) (N := 109) hx hb hts wc_X12_type_X12 hown hK hP 5 rfl rfl 0 (by decide) (hts (.fieldLink RX12 275 "MixinUnitsModel" "types" "I") (wd_X12_type _ (List.mem_of_getElem? (i := 3) rfl))) (fun _ h9 => h9) (ls_ne (by decide) (FM.at hF (j := 0) (q := (0, .int 0)) rfl)) dX12_type_228 ?_
            refine lv_iconst (v := 1) hx hb dX12_type_231 (by decide) ?_
            refine lv_iadd hx hb dX12_type_232 ?_
            refine lv_topi (fun x_84 ex_84 => ?_)
            obtain rfl : x_84 = 1 := ex_84.trans (by decide)
            refine va_put (D := D) (ci := 13) (v := .int 1) (ty := .int) (C := RX12) (T := TX12) (N := 109) hx hb hts wc_X12_type_X12 tyX12 tyX12_ok nmX12 hown hK hP hD hS 5 rfl rfl 0 (by decide) (hts (.fieldLink RX12 275 "MixinUnitsModel" "types" "I") (wd_X12_type _ (List.mem_of_getElem? (i := 3) rfl))) (fun _ h9 => h9) rfl (by decide +kernel) rfl rfl (ls_lt (ls_len (FM.len hF)) (Nat.le_of_ble_eq_true rfl)) dX12_type_233 (fun H locs hP hD hS => ?_)
            have hP : va_P D vwCl [(tm 0, .inl (dT 0, 60, .inl f_75)), (tm 1, .inl (dT 0, 60, .inl f_77)), (tm 2, .inl (dT 0, 60, .inl f_79)), (tm 3, .inl (dT 0, 60, .inl f_80)), (tm 4, .inl (dT 0, 60, .inl f_83)), (h, .inr (13, (List.set (List.set fs 25 (.int 0)) 0 (.int 1))))] H := hP
            have hD : va_D A [(tm 0, .inl (dT 0, 60, .inl f_75)), (tm 1, .inl (dT 0, 60, .inl f_77)), (tm 2, .inl (dT 0, 60, .inl f_79)), (tm 3, .inl (dT 0, 60, .inl f_80)), (tm 4, .inl (dT 0, 60, .inl f_83)), (h, .inr (13, (List.set (List.set fs 25 (.int 0)) 0 (.int 1))))] := hD
            refine lv_aload_n hx hb dX12_type_236 rfl (lv_at hl 3 rfl) ?_
            refine va_get (D := D) (ci := 13) (v := .int 1) (C := RX12) (T := TX12) (N := 109) hx hb hts wc_X12_type_X12 hown hK hP 5 rfl rfl 0 (by decide) (hts (.fieldLink RX12 275 "MixinUnitsModel" "types" "I") (wd_X12_type _ (List.mem_of_getElem? (i := 3) rfl))) (fun _ h9 => h9) (ls_self (ls_len (FM.len hF)) (Nat.le_of_ble_eq_true rfl)) dX12_type_237 ?_
            refine lv_iconst (v := 1) hx hb dX12_type_240 (by decide) ?_
            refine lv_isub hx hb dX12_type_241 ?_
            refine lv_topi (fun x_85 ex_85 => ?_)
            obtain rfl : x_85 = 0 := ex_85.trans (by decide)
            have hP9 := hP.sub (ws' := [(h, .inr (13, (List.set (List.set fs 25 (.int 0)) 0 (.int 1))))]) [5] rfl
            have hD9 := hD.sub (ws' := [(h, .inr (13, (List.set (List.set fs 25 (.int 0)) 0 (.int 1))))]) [5] (by decide) rfl
            exact W.iret (v := 0) hx hb hr (fun t ht hW => ⟨⟨_, (), rfl, rfl, (List.set (List.set fs 25 (.int 0)) 0 (.int 1)), (by rw [show sp_type k f = 0 from (sp_type_d (by simp only [Int32.lt_iff_toInt_lt, Int32.le_iff_toInt_le, i32_eq, ne_eq, gt_iff_lt, ge_iff_le, i32_0, i32_1, i32_2, i32_3, i32_4, i32_5, i32_6, i32_7, i32_9, i32_10, i32_m1] at hc_5 c_16 hc_54 c_65 c_76 ⊢ <;> omega) (by simp only [Int32.lt_iff_toInt_lt, Int32.le_iff_toInt_le, i32_eq, ne_eq, gt_iff_lt, ge_iff_le, i32_0, i32_1, i32_2, i32_3, i32_4, i32_5, i32_6, i32_7, i32_9, i32_10, i32_m1] at hc_5 c_16 hc_54 c_65 c_76 ⊢ <;> omega) (by simp only [Int32.lt_iff_toInt_lt, Int32.le_iff_toInt_le, i32_eq, ne_eq, gt_iff_lt, ge_iff_le, i32_0, i32_1, i32_2, i32_3, i32_4, i32_5, i32_6, i32_7, i32_9, i32_10, i32_m1] at hc_5 c_16 hc_54 c_65 c_76 ⊢ <;> omega))]; exact (ls_ne (by decide) (ls_self (FM.len hF) (Nat.le_of_ble_eq_true rfl)))), by rw [ht]; exact hP9, va_K.moved hW.alike hK, hD9⟩, hS.F ht⟩) hS.2.2 dX12_type_242
          · exfalso; simp only [Int32.lt_iff_toInt_lt, Int32.le_iff_toInt_le, i32_eq, ne_eq, gt_iff_lt, ge_iff_le, i32_0, i32_1, i32_2, i32_3, i32_4, i32_5, i32_6, i32_7, i32_9, i32_10, i32_m1] at hc_5 c_16 hc_54 c_65 c_76 ⊢ <;> omega
        · exfalso; simp only [Int32.lt_iff_toInt_lt, Int32.le_iff_toInt_le, i32_eq, ne_eq, gt_iff_lt, ge_iff_le, i32_0, i32_1, i32_2, i32_3, i32_4, i32_5, i32_6, i32_7, i32_9, i32_10, i32_m1] at hc_5 c_16 hc_54 c_65 ⊢ <;> omega

def wD_X12_leaf : List Cond := [.fieldLink RX12 282 "MixinUnitsModel" "expressions" "I", .methodLink RX12 298 yX12_goes, .instanceMethod yX12_goes, .selects RX12 yX12_goes yX12_goes, .initialized RX12, .methodLink RX12 305 yX12_made, .instanceMethod yX12_made, .selects RX12 yX12_made yX12_made, .methodLink RX12 302 yX12_isValue, .static yX12_isValue]
def wK_X12_leaf : List Cond := .code yX12_leaf cX12_leaf 3 (some .int) :: (wD_X12_leaf ++ (wsX120 ++ (wK_X12_goes_ok ++ (wK_X12_made ++ (wK_X12_isValue ++ (wK_X12_goes_f ++ ([] : List Cond)))))))
theorem wd_X12_leaf : ∀ w ∈ wD_X12_leaf, w ∈ wK_X12_leaf := fun w h => List.mem_cons_of_mem _ (List.mem_append_left _ h)
theorem gd_X12_leaf : (wK_X12_leaf).all goodWord = true := by decide +kernel
theorem wc_X12_leaf_X12 : ∀ w ∈ wsX120, w ∈ wK_X12_leaf := fun w h => List.mem_cons_of_mem _ (List.mem_append_right _ (List.mem_append_left _ h))
theorem wq_X12_leaf_X12_goes_ok : ∀ w ∈ wK_X12_goes_ok, w ∈ wK_X12_leaf := fun w h => List.mem_cons_of_mem _ (List.mem_append_right _ (List.mem_append_right _ (List.mem_append_left _ h)))
theorem wq_X12_leaf_X12_made : ∀ w ∈ wK_X12_made, w ∈ wK_X12_leaf := fun w h => List.mem_cons_of_mem _ (List.mem_append_right _ (List.mem_append_right _ (List.mem_append_right _ (List.mem_append_left _ h))))
theorem wq_X12_leaf_X12_isValue : ∀ w ∈ wK_X12_isValue, w ∈ wK_X12_leaf := fun w h => List.mem_cons_of_mem _ (List.mem_append_right _ (List.mem_append_right _ (List.mem_append_right _ (List.mem_append_right _ (List.mem_append_left _ h)))))
theorem wq_X12_leaf_X12_goes_f : ∀ w ∈ wK_X12_goes_f, w ∈ wK_X12_leaf := fun w h => List.mem_cons_of_mem _ (List.mem_append_right _ (List.mem_append_right _ (List.mem_append_right _ (List.mem_append_right _ (List.mem_append_right _ (List.mem_append_left _ h))))))
set_option maxHeartbeats 4000000 in
set_option maxRecDepth 100000 in
/-- leaf on a fresh reference -/
theorem c_X12_leaf (l : Launch) (D : va_G) (dT : Nat → ClassId) (sz : Nat) (h : Nat) (fs : List Value) (tm : Nat → Nat) (gm : Nat → Nat → Int32) (b : Int32) (n : Int32) (hF : FM fs tm) : Met l yX12_leaf wK_X12_leaf ({ frames := 2, cells := 0, slots := 0, locals := 42 }) (va_Pc [.ref h, .int b, .int n] (fun U => U.heap.size = sz ∧ va_P D vwCl [(h, .inr (13, fs)), (tm 5, .inl (dT 0, 120, .inl (gm 5))), (tm 6, .inl (dT 0, 120, .inl (gm 6))), (tm 7, .inl (dT 0, 120, .inl (gm 7))), (tm 8, .inl (dT 0, 120, .inl (gm 8))), (tm 9, .inl (dT 0, 120, .inl (gm 9)))] U.heap ∧ va_K D vwCl (tysW dT) U ∧ va_D (fun _ => True) [(h, .inr (13, fs)), (tm 5, .inl (dT 0, 120, .inl (gm 5))), (tm 6, .inl (dT 0, 120, .inl (gm 6))), (tm 7, .inl (dT 0, 120, .inl (gm 7))), (tm 8, .inl (dT 0, 120, .inl (gm 8))), (tm 9, .inl (dT 0, 120, .inl (gm 9)))] ∧ EN (va_A [(h, .inr (13, fs)), (tm 5, .inl (dT 0, 120, .inl (gm 5))), (tm 6, .inl (dT 0, 120, .inl (gm 6))), (tm 7, .inl (dT 0, 120, .inl (gm 7))), (tm 8, .inl (dT 0, 120, .inl (gm 8))), (tm 9, .inl (dT 0, 120, .inl (gm 9)))] sz) U)) (va_Qi (fun (r : Int32) (_u : Unit) => r = 0) (fun (_u : Unit) t => ∃ (fs2 : List Value), fs2[25]? = some (.int (sp_leaf b n)) ∧ va_P D vwCl [(h, .inr (13, fs2))] t.heap ∧ va_K D vwCl (tysW dT) t ∧ va_D (va_A [(h, .inr (13, fs)), (tm 5, .inl (dT 0, 120, .inl (gm 5))), (tm 6, .inl (dT 0, 120, .inl (gm 6))), (tm 7, .inl (dT 0, 120, .inl (gm 7))), (tm 8, .inl (dT 0, 120, .inl (gm 8))), (tm 9, .inl (dT 0, 120, .inl (gm 9)))] sz) [(h, .inr (13, fs2))]) (va_A [(h, .inr (13, fs)), (tm 5, .inl (dT 0, 120, .inl (gm 5))), (tm 6, .inl (dT 0, 120, .inl (gm 6))), (tm 7, .inl (dT 0, 120, .inl (gm 7))), (tm 8, .inl (dT 0, 120, .inl (gm 8))), (tm 9, .inl (dT 0, 120, .inl (gm 9)))] sz)) 0 0 (va_A [(h, .inr (13, fs)), (tm 5, .inl (dT 0, 120, .inl (gm 5))), (tm 6, .inl (dT 0, 120, .inl (gm 6))), (tm 7, .inl (dT 0, 120, .inl (gm 7))), (tm 8, .inl (dT 0, 120, .inl (gm 8))), (tm 9, .inl (dT 0, 120, .inl (gm 9)))] sz) := by
  refine Met.ofW (cc := cX12_leaf) (maxL := 3) (ret := (some .int)) (by decide) rfl ?_
  intro p e s m args below meth c s₁ B hml hv
  obtain ⟨rfl, hsz, hP, hK, hD0, hE⟩ := hv
  have hx := B.exec
  have hb := B.bytes
  have hr := B.returns
  have hts := atoms_spec (ws := wK_X12_leaf) B.pre
  have hown : s.vm.findClass RX12 = some m.cls := findClass_of_methodNamed B.named
  have hlocks := B.notSynchronized
  subst hsz
  have hD := hD0.self (sz := s.heap.size)
  generalize hAe : va_A [(h, .inr (13, fs)), (tm 5, .inl (dT 0, 120, .inl (gm 5))), (tm 6, .inl (dT 0, 120, .inl (gm 6))), (tm 7, .inl (dT 0, 120, .inl (gm 7))), (tm 8, .inl (dT 0, 120, .inl (gm 8))), (tm 9, .inl (dT 0, 120, .inl (gm 9)))] s.heap.size = A at hD hE ⊢
  have hA : ∀ q : Nat, s.heap.size ≤ q → A q := fun q h => by rw [← hAe]; exact Or.inr h
  have hS : va_S A s.heap s.heap [] := va_S.rf
  have hP : va_P D vwCl [(h, .inr (13, fs)), (tm 5, .inl (dT 0, 120, .inl (gm 5))), (tm 6, .inl (dT 0, 120, .inl (gm 6))), (tm 7, .inl (dT 0, 120, .inl (gm 7))), (tm 8, .inl (dT 0, 120, .inl (gm 8))), (tm 9, .inl (dT 0, 120, .inl (gm 9)))] s.heap := hP
  have hl := lv_entry ([.ref h, .int b, .int n]) (n := 3) (Nat.le_of_ble_eq_true rfl)
  rw [lg_entry_eq]
  generalize (lg_sl ([.ref h, .int b, .int n]) ++ List.replicate (3 - (lg_sl ([.ref h, .int b, .int n])).length) Slot.unset).toArray = ls at hl ⊢
  have hl : lv_has ls 3 [(0, .ref h), (1, .int b), (2, .int n)] := hl
  refine lv_aload_n hx hb dX12_leaf_0 rfl (lv_at hl 0 rfl) ?_
  refine lv_iload_n hx hb dX12_leaf_1 rfl (lv_at hl 1 rfl) ?_
  refine lv_if_eq (tgt := 12) hx hb dX12_leaf_2 (by decide) (fun c_1 => ?_) (fun c_1 => ?_)
  · refine lv_iconst (v := 1) hx hb dX12_leaf_12 (by decide) ?_
    refine lv_goto (tgt := 17) hx hb dX12_leaf_13 (by decide) ?_
    refine lv_aload_n hx hb dX12_leaf_17 rfl (lv_at hl 0 rfl) ?_
    refine va_get (D := D) (ci := 13) (v := .int 0) (C := RX12) (T := TX12) (N := 109) hx hb hts wc_X12_leaf_X12 hown hK hP 0 rfl rfl 6 (by decide) (hts (.fieldLink RX12 282 "MixinUnitsModel" "expressions" "I") (wd_X12_leaf _ (List.mem_of_getElem? (i := 0) rfl))) (fun _ h9 => h9) (FM.at hF (j := 1) (q := (6, .int 0)) rfl) dX12_leaf_18 ?_
    refine lv_bipush (v := 120) hx hb dX12_leaf_21 (by decide) ?_
    refine lv_icmp_ge (tgt := 30) hx hb dX12_leaf_23 (by decide) (fun c_2 => absurd c_2 (by decide)) (fun _ => ?_)
    refine lv_iconst (v := 1) hx hb dX12_leaf_26 (by decide) ?_
    refine lv_goto (tgt := 31) hx hb dX12_leaf_27 (by decide) ?_
    refine lv_iconst (v := 1) hx hb dX12_leaf_31 (by decide) ?_
    have hPc := hP.sub (ws' := [(h, .inr (13, fs))]) [0] rfl
    have hDc := hD.sub (ws' := [(h, .inr (13, fs))]) [0] (by decide) rfl
    have hFc := va_free (wc := [(h, .inr (13, fs))]) hD hS hA [0] rfl
    refine va_calli (va_runV (As := [.int 1, .int 1, .int 1]) (rest := []) ⟨hx, hb, hml, hown, hts⟩ (c_X12_goes_ok l D dT s.heap.size h fs (FM.len hF)) (cwV 3 hts (goodIn_app (goodIn_r _ [2, 3, 4, 5] rfl (by decide +kernel)) (goodIn_sub wq_X12_leaf_X12_goes_ok gd_X12_goes_ok)) rfl rfl rfl (by decide +kernel) ⟨Nat.le_of_ble_eq_true rfl, Nat.le_of_ble_eq_true rfl⟩) ⟨(fun a U g mk q => by obtain ⟨z0, z1, zP, zK, zD, zE⟩ := q; exact ⟨z0, z1, zP, va_K.moved (u := U) (U := U.calling g mk a) (Vm.Alike.refl U.vm) zK, zD, EN.frame zE⟩), va_recv hK hP (ci := 13) (q0 := 0) rfl rfl, fun U hU hW => ⟨rfl, by rw [hU], by rw [hU]; exact hPc, va_K.moved hW.alike hK, hDc.weaken (fun _ _ _ _ => trivial), EN.call hE hS hFc hW hU⟩⟩ rfl rfl hl.1 rfl (lv_room (Nat.le_of_ble_eq_true rfl)) dX12_leaf_32 ⟨(Nat.le_of_ble_eq_true rfl), (Nat.le_of_ble_eq_true rfl)⟩) hS (fun q _ h => hFc q h) hFc (fun r_3 u_4 t H1 locs ht hvm hw hB hz1 hk1 hS => ?_)
    obtain ⟨-, hP1, hK1, hD1⟩ := hB
    rw [ht] at hP1
    obtain ⟨hP, hD⟩ := va_join (wr := [(tm 5, .inl (dT 0, 120, .inl (gm 5))), (tm 6, .inl (dT 0, 120, .inl (gm 6))), (tm 7, .inl (dT 0, 120, .inl (gm 7))), (tm 8, .inl (dT 0, 120, .inl (gm 8))), (tm 9, .inl (dT 0, 120, .inl (gm 9)))]) (w1 := [(h, .inr (13, (List.set fs 25 (.int 0))))]) hP hD [0] [1, 2, 3, 4, 5] rfl rfl (by decide) (by decide) hk1 hFc hP1 hD1
    generalize H1 = H at hP hS ⊢
    have hP : va_P D vwCl [(tm 5, .inl (dT 0, 120, .inl (gm 5))), (tm 6, .inl (dT 0, 120, .inl (gm 6))), (tm 7, .inl (dT 0, 120, .inl (gm 7))), (tm 8, .inl (dT 0, 120, .inl (gm 8))), (tm 9, .inl (dT 0, 120, .inl (gm 9))), (h, .inr (13, (List.set fs 25 (.int 0))))] H := hP
    have hD : va_D A [(tm 5, .inl (dT 0, 120, .inl (gm 5))), (tm 6, .inl (dT 0, 120, .inl (gm 6))), (tm 7, .inl (dT 0, 120, .inl (gm 7))), (tm 8, .inl (dT 0, 120, .inl (gm 8))), (tm 9, .inl (dT 0, 120, .inl (gm 9))), (h, .inr (13, (List.set fs 25 (.int 0))))] := hD
    refine W.widen (k := 0) (n := 0) (Nat.le_of_ble_eq_true rfl) (Nat.le_of_ble_eq_true rfl) ?_
    have hw_5 := hw
    try dsimp only at hw_5
    obtain rfl : r_3 = 1 := hw_5
    refine lv_if_eq (tgt := 58) hx hb dX12_leaf_35 (by decide) (fun c_6 => absurd c_6 (by decide)) (fun _ => ?_)
    refine lv_aload_n hx hb dX12_leaf_38 rfl (lv_at hl 0 rfl) ?_
    refine lv_iload_n hx hb dX12_leaf_39 rfl (lv_at hl 1 rfl) ?_
    refine lv_if_eq (tgt := 47) hx hb dX12_leaf_40 (by decide) (fun _ => ?_) (fun c_7 => absurd (c_1) c_7)
    refine lv_iconst (v := 0) hx hb dX12_leaf_47 (by decide) ?_
    refine lv_iload_n hx hb dX12_leaf_48 rfl (lv_at hl 2 rfl) ?_
    refine lv_iconst (v := 0) hx hb dX12_leaf_49 (by decide) ?_
    refine lv_iconst (v := 0) hx hb dX12_leaf_50 (by decide) ?_
    refine lv_iconst (v := 1) hx hb dX12_leaf_51 (by decide) ?_
    have hPc := hP.sub (ws' := [(h, .inr (13, (List.set fs 25 (.int 0)))), (tm 5, .inl (dT 0, 120, .inl (gm 5))), (tm 6, .inl (dT 0, 120, .inl (gm 6))), (tm 7, .inl (dT 0, 120, .inl (gm 7))), (tm 8, .inl (dT 0, 120, .inl (gm 8))), (tm 9, .inl (dT 0, 120, .inl (gm 9)))]) [5, 0, 1, 2, 3, 4] rfl
    have hDc := hD.sub (ws' := [(h, .inr (13, (List.set fs 25 (.int 0)))), (tm 5, .inl (dT 0, 120, .inl (gm 5))), (tm 6, .inl (dT 0, 120, .inl (gm 6))), (tm 7, .inl (dT 0, 120, .inl (gm 7))), (tm 8, .inl (dT 0, 120, .inl (gm 8))), (tm 9, .inl (dT 0, 120, .inl (gm 9)))]) [5, 0, 1, 2, 3, 4] (by decide) rfl
    have hFc := va_free (wc := [(h, .inr (13, (List.set fs 25 (.int 0)))), (tm 5, .inl (dT 0, 120, .inl (gm 5))), (tm 6, .inl (dT 0, 120, .inl (gm 6))), (tm 7, .inl (dT 0, 120, .inl (gm 7))), (tm 8, .inl (dT 0, 120, .inl (gm 8))), (tm 9, .inl (dT 0, 120, .inl (gm 9)))]) hD hS hA [5, 0, 1, 2, 3, 4] rfl
    refine va_calli (va_runV (As := [.int 0, .int n, .int 0, .int 0, .int 1]) (rest := []) ⟨hx, hb, hml, hown, hts⟩ (c_X12_made l D dT H.size h (List.set fs 25 (.int 0)) tm gm 0 n 0 0 1 (FM.s25 hF)) (cwV 5 hts (goodIn_app (goodIn_r _ [6, 7, 8, 5] rfl (by decide +kernel)) (goodIn_sub wq_X12_leaf_X12_made gd_X12_made)) rfl rfl rfl (by decide +kernel) ⟨Nat.le_of_ble_eq_true rfl, Nat.le_of_ble_eq_true rfl⟩) ⟨(fun a U g mk q => by obtain ⟨z0, z1, zP, zK, zD, zE⟩ := q; exact ⟨z0, z1, zP, va_K.moved (u := U) (U := U.calling g mk a) (Vm.Alike.refl U.vm) zK, zD, EN.frame zE⟩), va_recv hK hP (ci := 13) (q0 := 5) rfl rfl, fun U hU hW => ⟨rfl, by rw [hU], by rw [hU]; exact hPc, va_K.moved hW.alike hK, hDc.weaken (fun _ _ _ _ => trivial), EN.call hE hS hFc hW hU⟩⟩ rfl rfl hl.1 rfl (lv_room (Nat.le_of_ble_eq_true rfl)) dX12_leaf_52 ⟨(Nat.le_of_ble_eq_true rfl), (Nat.le_of_ble_eq_true rfl)⟩) hS (fun q _ h => hFc q h) hFc (fun r_8 u_9 t H1 locs ht hvm hw hB hz1 hk1 hS => ?_)
    obtain ⟨-, hP1, hK1, hD1⟩ := hB
    rw [ht] at hP1
    obtain ⟨hP, hD⟩ := va_join (wr := []) (w1 := [(h, .inr (13, (List.set ((List.set fs 25 (.int 0))) 6 (.int 1))))]) hP hD [5, 0, 1, 2, 3, 4] [] rfl rfl (by decide) (by decide) hk1 hFc hP1 hD1
    generalize H1 = H at hP hS ⊢
    have hP : va_P D vwCl [(h, .inr (13, (List.set ((List.set fs 25 (.int 0))) 6 (.int 1))))] H := hP
    have hD : va_D A [(h, .inr (13, (List.set ((List.set fs 25 (.int 0))) 6 (.int 1))))] := hD
    refine W.widen (k := 0) (n := 0) (Nat.le_of_ble_eq_true rfl) (Nat.le_of_ble_eq_true rfl) ?_
    have hw_10 := hw
    try dsimp only at hw_10
    obtain rfl : r_8 = 0 := hw_10
    refine lv_goto (tgt := 59) hx hb dX12_leaf_55 (by decide) ?_
    have hP9 := hP.sub (ws' := [(h, .inr (13, (List.set ((List.set fs 25 (.int 0))) 6 (.int 1))))]) [0] rfl
    have hD9 := hD.sub (ws' := [(h, .inr (13, (List.set ((List.set fs 25 (.int 0))) 6 (.int 1))))]) [0] (by decide) rfl
    exact W.iret (v := 0) hx hb hr (fun t ht hW => ⟨⟨_, (), rfl, rfl, (List.set ((List.set fs 25 (.int 0))) 6 (.int 1)), (by rw [show sp_leaf b n = 0 from (sp_leaf_b (by simp only [Int32.lt_iff_toInt_lt, Int32.le_iff_toInt_le, i32_eq, ne_eq, gt_iff_lt, ge_iff_le, i32_0, i32_1, i32_2, i32_3, i32_4, i32_5, i32_6, i32_7, i32_9, i32_10, i32_m1] at c_1 ⊢ <;> omega))]; exact (ls_ne (by decide) (ls_self (FM.len hF) (Nat.le_of_ble_eq_true rfl)))), by rw [ht]; exact hP9, va_K.moved hW.alike hK, hD9⟩, hS.F ht⟩) hS.2.2 dX12_leaf_59
  · refine lv_iload_n hx hb dX12_leaf_5 rfl (lv_at hl 2 rfl) ?_
    have hPc := hP.sub (ws' := []) [] rfl
    have hDc := hD.sub (ws' := []) [] (by decide) rfl
    have hFc := va_free (wc := []) hD hS hA [] rfl
    refine va_calli (va_runS (As := [.int n]) (rest := [.ref h]) ⟨hx, hb, hml, hown, hts⟩ (c_X12_isValue l D dT s.heap.size n) (va_cwS 1 hts (goodIn_app (goodIn_r _ [9, 10, 5] rfl (by decide +kernel)) (goodIn_sub wq_X12_leaf_X12_isValue gd_X12_isValue)) rfl rfl rfl (by decide +kernel) ⟨Nat.le_of_ble_eq_true rfl, Nat.le_of_ble_eq_true rfl⟩) ⟨(fun a U g mk q => by obtain ⟨z0, z1, zP, zK, zD, zE⟩ := q; exact ⟨z0, z1, zP, va_K.moved (u := U) (U := U.calling g mk a) (Vm.Alike.refl U.vm) zK, zD, EN.frame zE⟩), fun U hU hW => ⟨rfl, by rw [hU], by rw [hU]; exact hPc, va_K.moved hW.alike hK, hDc.weaken (fun _ _ _ _ => trivial), EN.call hE hS hFc hW hU⟩⟩ rfl rfl hl.1 rfl (lv_room (Nat.le_of_ble_eq_true rfl)) dX12_leaf_6 ⟨(Nat.le_of_ble_eq_true rfl), (Nat.le_of_ble_eq_true rfl)⟩) hS (fun q _ h => hFc q h) hFc (fun r_11 u_12 t H1 locs ht hvm hw hB hz1 hk1 hS => ?_)
    obtain ⟨-, hP1, hK1, hD1⟩ := hB
    rw [ht] at hP1
    obtain ⟨hP, hD⟩ := va_join (wr := [(h, .inr (13, fs)), (tm 5, .inl (dT 0, 120, .inl (gm 5))), (tm 6, .inl (dT 0, 120, .inl (gm 6))), (tm 7, .inl (dT 0, 120, .inl (gm 7))), (tm 8, .inl (dT 0, 120, .inl (gm 8))), (tm 9, .inl (dT 0, 120, .inl (gm 9)))]) (w1 := []) hP hD [] [0, 1, 2, 3, 4, 5] rfl rfl (by decide) (by decide) hk1 hFc hP1 hD1
    generalize H1 = H at hP hS ⊢
    have hP : va_P D vwCl [(h, .inr (13, fs)), (tm 5, .inl (dT 0, 120, .inl (gm 5))), (tm 6, .inl (dT 0, 120, .inl (gm 6))), (tm 7, .inl (dT 0, 120, .inl (gm 7))), (tm 8, .inl (dT 0, 120, .inl (gm 8))), (tm 9, .inl (dT 0, 120, .inl (gm 9)))] H := hP
    have hD : va_D A [(h, .inr (13, fs)), (tm 5, .inl (dT 0, 120, .inl (gm 5))), (tm 6, .inl (dT 0, 120, .inl (gm 6))), (tm 7, .inl (dT 0, 120, .inl (gm 7))), (tm 8, .inl (dT 0, 120, .inl (gm 8))), (tm 9, .inl (dT 0, 120, .inl (gm 9)))] := hD
    refine W.widen (k := 0) (n := 0) (Nat.le_of_ble_eq_true rfl) (Nat.le_of_ble_eq_true rfl) ?_
    have hw_13 := hw
    try dsimp only at hw_13
    rcases hw_13 with ⟨hc_14, rfl⟩ | ⟨hc_15, rfl⟩
    · refine lv_if_eq (tgt := 16) hx hb dX12_leaf_9 (by decide) (fun _ => ?_) (fun c_16 => absurd (by decide) c_16)
      refine lv_iconst (v := 0) hx hb dX12_leaf_16 (by decide) ?_
      refine lv_aload_n hx hb dX12_leaf_17 rfl (lv_at hl 0 rfl) ?_
      refine va_get (D := D) (ci := 13) (v := .int 0) (C := RX12) (T := TX12) (N := 109) hx hb hts wc_X12_leaf_X12 hown hK hP 0 rfl rfl 6 (by decide) (hts (.fieldLink RX12 282 "MixinUnitsModel" "expressions" "I") (wd_X12_leaf _ (List.mem_of_getElem? (i := 0) rfl))) (fun _ h9 => h9) (FM.at hF (j := 1) (q := (6, .int 0)) rfl) dX12_leaf_18 ?_
      refine lv_bipush (v := 120) hx hb dX12_leaf_21 (by decide) ?_
      refine lv_icmp_ge (tgt := 30) hx hb dX12_leaf_23 (by decide) (fun c_17 => absurd c_17 (by decide)) (fun _ => ?_)
      refine lv_iconst (v := 1) hx hb dX12_leaf_26 (by decide) ?_
      refine lv_goto (tgt := 31) hx hb dX12_leaf_27 (by decide) ?_
      refine lv_iconst (v := 1) hx hb dX12_leaf_31 (by decide) ?_
      have hPc := hP.sub (ws' := [(h, .inr (13, fs))]) [0] rfl
      have hDc := hD.sub (ws' := [(h, .inr (13, fs))]) [0] (by decide) rfl
      have hFc := va_free (wc := [(h, .inr (13, fs))]) hD hS hA [0] rfl
      refine va_calli (va_runV (As := [.int 0, .int 1, .int 1]) (rest := []) ⟨hx, hb, hml, hown, hts⟩ (c_X12_goes_f l D dT H.size h fs 1 1 (FM.len hF)) (cwV 3 hts (goodIn_app (goodIn_r _ [2, 3, 4, 5] rfl (by decide +kernel)) (goodIn_sub wq_X12_leaf_X12_goes_f gd_X12_goes_f)) rfl rfl rfl (by decide +kernel) ⟨Nat.le_of_ble_eq_true rfl, Nat.le_of_ble_eq_true rfl⟩) ⟨(fun a U g mk q => by obtain ⟨z0, z1, zP, zK, zD, zE⟩ := q; exact ⟨z0, z1, zP, va_K.moved (u := U) (U := U.calling g mk a) (Vm.Alike.refl U.vm) zK, zD, EN.frame zE⟩), va_recv hK hP (ci := 13) (q0 := 0) rfl rfl, fun U hU hW => ⟨rfl, by rw [hU], by rw [hU]; exact hPc, va_K.moved hW.alike hK, hDc.weaken (fun _ _ _ _ => trivial), EN.call hE hS hFc hW hU⟩⟩ rfl rfl hl.1 rfl (lv_room (Nat.le_of_ble_eq_true rfl)) dX12_leaf_32 ⟨(Nat.le_of_ble_eq_true rfl), (Nat.le_of_ble_eq_true rfl)⟩) hS (fun q _ h => hFc q h) hFc (fun r_18 u_19 t H1 locs ht hvm hw hB hz1 hk1 hS => ?_)
      obtain ⟨-, hP1, hK1, hD1⟩ := hB
      rw [ht] at hP1
      obtain ⟨hP, hD⟩ := va_join (wr := [(tm 5, .inl (dT 0, 120, .inl (gm 5))), (tm 6, .inl (dT 0, 120, .inl (gm 6))), (tm 7, .inl (dT 0, 120, .inl (gm 7))), (tm 8, .inl (dT 0, 120, .inl (gm 8))), (tm 9, .inl (dT 0, 120, .inl (gm 9)))]) (w1 := [(h, .inr (13, (List.set fs 25 (.int 1))))]) hP hD [0] [1, 2, 3, 4, 5] rfl rfl (by decide) (by decide) hk1 hFc hP1 hD1
      generalize H1 = H at hP hS ⊢
      have hP : va_P D vwCl [(tm 5, .inl (dT 0, 120, .inl (gm 5))), (tm 6, .inl (dT 0, 120, .inl (gm 6))), (tm 7, .inl (dT 0, 120, .inl (gm 7))), (tm 8, .inl (dT 0, 120, .inl (gm 8))), (tm 9, .inl (dT 0, 120, .inl (gm 9))), (h, .inr (13, (List.set fs 25 (.int 1))))] H := hP
      have hD : va_D A [(tm 5, .inl (dT 0, 120, .inl (gm 5))), (tm 6, .inl (dT 0, 120, .inl (gm 6))), (tm 7, .inl (dT 0, 120, .inl (gm 7))), (tm 8, .inl (dT 0, 120, .inl (gm 8))), (tm 9, .inl (dT 0, 120, .inl (gm 9))), (h, .inr (13, (List.set fs 25 (.int 1))))] := hD
      refine W.widen (k := 0) (n := 0) (Nat.le_of_ble_eq_true rfl) (Nat.le_of_ble_eq_true rfl) ?_
      have hw_20 := hw
      try dsimp only at hw_20
      obtain rfl : r_18 = 0 := hw_20
      refine lv_if_eq (tgt := 58) hx hb dX12_leaf_35 (by decide) (fun _ => ?_) (fun c_21 => absurd (by decide) c_21)
      refine lv_iconst (v := 0) hx hb dX12_leaf_58 (by decide) ?_
      have hP9 := hP.sub (ws' := [(h, .inr (13, (List.set fs 25 (.int 1))))]) [5] rfl
      have hD9 := hD.sub (ws' := [(h, .inr (13, (List.set fs 25 (.int 1))))]) [5] (by decide) rfl
      exact W.iret (v := 0) hx hb hr (fun t ht hW => ⟨⟨_, (), rfl, rfl, (List.set fs 25 (.int 1)), (by rw [show sp_leaf b n = 1 from (sp_leaf_a (by simp only [Int32.lt_iff_toInt_lt, Int32.le_iff_toInt_le, i32_eq, ne_eq, gt_iff_lt, ge_iff_le, i32_0, i32_1, i32_2, i32_3, i32_4, i32_5, i32_6, i32_7, i32_9, i32_10, i32_m1] at c_1 hc_14 ⊢ <;> omega))]; exact (ls_self (FM.len hF) (Nat.le_of_ble_eq_true rfl))), by rw [ht]; exact hP9, va_K.moved hW.alike hK, hD9⟩, hS.F ht⟩) hS.2.2 dX12_leaf_59
    · refine lv_if_eq (tgt := 16) hx hb dX12_leaf_9 (by decide) (fun c_22 => absurd c_22 (by decide)) (fun _ => ?_)
      refine lv_iconst (v := 1) hx hb dX12_leaf_12 (by decide) ?_
      refine lv_goto (tgt := 17) hx hb dX12_leaf_13 (by decide) ?_
      refine lv_aload_n hx hb dX12_leaf_17 rfl (lv_at hl 0 rfl) ?_
      refine va_get (D := D) (ci := 13) (v := .int 0) (C := RX12) (T := TX12) (N := 109) hx hb hts wc_X12_leaf_X12 hown hK hP 0 rfl rfl 6 (by decide) (hts (.fieldLink RX12 282 "MixinUnitsModel" "expressions" "I") (wd_X12_leaf _ (List.mem_of_getElem? (i := 0) rfl))) (fun _ h9 => h9) (FM.at hF (j := 1) (q := (6, .int 0)) rfl) dX12_leaf_18 ?_
      refine lv_bipush (v := 120) hx hb dX12_leaf_21 (by decide) ?_
      refine lv_icmp_ge (tgt := 30) hx hb dX12_leaf_23 (by decide) (fun c_23 => absurd c_23 (by decide)) (fun _ => ?_)
      refine lv_iconst (v := 1) hx hb dX12_leaf_26 (by decide) ?_
      refine lv_goto (tgt := 31) hx hb dX12_leaf_27 (by decide) ?_
      refine lv_iconst (v := 1) hx hb dX12_leaf_31 (by decide) ?_
      have hPc := hP.sub (ws' := [(h, .inr (13, fs))]) [0] rfl
      have hDc := hD.sub (ws' := [(h, .inr (13, fs))]) [0] (by decide) rfl
      have hFc := va_free (wc := [(h, .inr (13, fs))]) hD hS hA [0] rfl
      refine va_calli (va_runV (As := [.int 1, .int 1, .int 1]) (rest := []) ⟨hx, hb, hml, hown, hts⟩ (c_X12_goes_ok l D dT H.size h fs (FM.len hF)) (cwV 3 hts (goodIn_app (goodIn_r _ [2, 3, 4, 5] rfl (by decide +kernel)) (goodIn_sub wq_X12_leaf_X12_goes_ok gd_X12_goes_ok)) rfl rfl rfl (by decide +kernel) ⟨Nat.le_of_ble_eq_true rfl, Nat.le_of_ble_eq_true rfl⟩) ⟨(fun a U g mk q => by obtain ⟨z0, z1, zP, zK, zD, zE⟩ := q; exact ⟨z0, z1, zP, va_K.moved (u := U) (U := U.calling g mk a) (Vm.Alike.refl U.vm) zK, zD, EN.frame zE⟩), va_recv hK hP (ci := 13) (q0 := 0) rfl rfl, fun U hU hW => ⟨rfl, by rw [hU], by rw [hU]; exact hPc, va_K.moved hW.alike hK, hDc.weaken (fun _ _ _ _ => trivial), EN.call hE hS hFc hW hU⟩⟩ rfl rfl hl.1 rfl (lv_room (Nat.le_of_ble_eq_true rfl)) dX12_leaf_32 ⟨(Nat.le_of_ble_eq_true rfl), (Nat.le_of_ble_eq_true rfl)⟩) hS (fun q _ h => hFc q h) hFc (fun r_24 u_25 t H1 locs ht hvm hw hB hz1 hk1 hS => ?_)
      obtain ⟨-, hP1, hK1, hD1⟩ := hB
      rw [ht] at hP1
      obtain ⟨hP, hD⟩ := va_join (wr := [(tm 5, .inl (dT 0, 120, .inl (gm 5))), (tm 6, .inl (dT 0, 120, .inl (gm 6))), (tm 7, .inl (dT 0, 120, .inl (gm 7))), (tm 8, .inl (dT 0, 120, .inl (gm 8))), (tm 9, .inl (dT 0, 120, .inl (gm 9)))]) (w1 := [(h, .inr (13, (List.set fs 25 (.int 0))))]) hP hD [0] [1, 2, 3, 4, 5] rfl rfl (by decide) (by decide) hk1 hFc hP1 hD1
      generalize H1 = H at hP hS ⊢
      have hP : va_P D vwCl [(tm 5, .inl (dT 0, 120, .inl (gm 5))), (tm 6, .inl (dT 0, 120, .inl (gm 6))), (tm 7, .inl (dT 0, 120, .inl (gm 7))), (tm 8, .inl (dT 0, 120, .inl (gm 8))), (tm 9, .inl (dT 0, 120, .inl (gm 9))), (h, .inr (13, (List.set fs 25 (.int 0))))] H := hP
      have hD : va_D A [(tm 5, .inl (dT 0, 120, .inl (gm 5))), (tm 6, .inl (dT 0, 120, .inl (gm 6))), (tm 7, .inl (dT 0, 120, .inl (gm 7))), (tm 8, .inl (dT 0, 120, .inl (gm 8))), (tm 9, .inl (dT 0, 120, .inl (gm 9))), (h, .inr (13, (List.set fs 25 (.int 0))))] := hD
      refine W.widen (k := 0) (n := 0) (Nat.le_of_ble_eq_true rfl) (Nat.le_of_ble_eq_true rfl) ?_
      have hw_26 := hw
      try dsimp only at hw_26
      obtain rfl : r_24 = 1 := hw_26
      refine lv_if_eq (tgt := 58) hx hb dX12_leaf_35 (by decide) (fun c_27 => absurd c_27 (by decide)) (fun _ => ?_)
      refine lv_aload_n hx hb dX12_leaf_38 rfl (lv_at hl 0 rfl) ?_
      refine lv_iload_n hx hb dX12_leaf_39 rfl (lv_at hl 1 rfl) ?_
      refine lv_if_eq (tgt := 47) hx hb dX12_leaf_40 (by decide) (fun c_28 => absurd c_28 (c_1)) (fun _ => ?_)
      refine lv_iconst (v := 1) hx hb dX12_leaf_43 (by decide) ?_
      refine lv_goto (tgt := 48) hx hb dX12_leaf_44 (by decide) ?_
      refine lv_iload_n hx hb dX12_leaf_48 rfl (lv_at hl 2 rfl) ?_
      refine lv_iconst (v := 0) hx hb dX12_leaf_49 (by decide) ?_
      refine lv_iconst (v := 0) hx hb dX12_leaf_50 (by decide) ?_
      refine lv_iconst (v := 1) hx hb dX12_leaf_51 (by decide) ?_
      have hPc := hP.sub (ws' := [(h, .inr (13, (List.set fs 25 (.int 0)))), (tm 5, .inl (dT 0, 120, .inl (gm 5))), (tm 6, .inl (dT 0, 120, .inl (gm 6))), (tm 7, .inl (dT 0, 120, .inl (gm 7))), (tm 8, .inl (dT 0, 120, .inl (gm 8))), (tm 9, .inl (dT 0, 120, .inl (gm 9)))]) [5, 0, 1, 2, 3, 4] rfl
      have hDc := hD.sub (ws' := [(h, .inr (13, (List.set fs 25 (.int 0)))), (tm 5, .inl (dT 0, 120, .inl (gm 5))), (tm 6, .inl (dT 0, 120, .inl (gm 6))), (tm 7, .inl (dT 0, 120, .inl (gm 7))), (tm 8, .inl (dT 0, 120, .inl (gm 8))), (tm 9, .inl (dT 0, 120, .inl (gm 9)))]) [5, 0, 1, 2, 3, 4] (by decide) rfl
      have hFc := va_free (wc := [(h, .inr (13, (List.set fs 25 (.int 0)))), (tm 5, .inl (dT 0, 120, .inl (gm 5))), (tm 6, .inl (dT 0, 120, .inl (gm 6))), (tm 7, .inl (dT 0, 120, .inl (gm 7))), (tm 8, .inl (dT 0, 120, .inl (gm 8))), (tm 9, .inl (dT 0, 120, .inl (gm 9)))]) hD hS hA [5, 0, 1, 2, 3, 4] rfl
      refine va_calli (va_runV (As := [.int 1, .int n, .int 0, .int 0, .int 1]) (rest := []) ⟨hx, hb, hml, hown, hts⟩ (c_X12_made l D dT H.size h (List.set fs 25 (.int 0)) tm gm 1 n 0 0 1 (FM.s25 hF)) (cwV 5 hts (goodIn_app (goodIn_r _ [6, 7, 8, 5] rfl (by decide +kernel)) (goodIn_sub wq_X12_leaf_X12_made gd_X12_made)) rfl rfl rfl (by decide +kernel) ⟨Nat.le_of_ble_eq_true rfl, Nat.le_of_ble_eq_true rfl⟩) ⟨(fun a U g mk q => by obtain ⟨z0, z1, zP, zK, zD, zE⟩ := q; exact ⟨z0, z1, zP, va_K.moved (u := U) (U := U.calling g mk a) (Vm.Alike.refl U.vm) zK, zD, EN.frame zE⟩), va_recv hK hP (ci := 13) (q0 := 5) rfl rfl, fun U hU hW => ⟨rfl, by rw [hU], by rw [hU]; exact hPc, va_K.moved hW.alike hK, hDc.weaken (fun _ _ _ _ => trivial), EN.call hE hS hFc hW hU⟩⟩ rfl rfl hl.1 rfl (lv_room (Nat.le_of_ble_eq_true rfl)) dX12_leaf_52 ⟨(Nat.le_of_ble_eq_true rfl), (Nat.le_of_ble_eq_true rfl)⟩) hS (fun q _ h => hFc q h) hFc (fun r_29 u_30 t H1 locs ht hvm hw hB hz1 hk1 hS => ?_)
      obtain ⟨-, hP1, hK1, hD1⟩ := hB
      rw [ht] at hP1
      obtain ⟨hP, hD⟩ := va_join (wr := []) (w1 := [(h, .inr (13, (List.set ((List.set fs 25 (.int 0))) 6 (.int 1))))]) hP hD [5, 0, 1, 2, 3, 4] [] rfl rfl (by decide) (by decide) hk1 hFc hP1 hD1
      generalize H1 = H at hP hS ⊢
      have hP : va_P D vwCl [(h, .inr (13, (List.set ((List.set fs 25 (.int 0))) 6 (.int 1))))] H := hP
      have hD : va_D A [(h, .inr (13, (List.set ((List.set fs 25 (.int 0))) 6 (.int 1))))] := hD
      refine W.widen (k := 0) (n := 0) (Nat.le_of_ble_eq_true rfl) (Nat.le_of_ble_eq_true rfl) ?_
      have hw_31 := hw
      try dsimp only at hw_31
      obtain rfl : r_29 = 0 := hw_31
      refine lv_goto (tgt := 59) hx hb dX12_leaf_55 (by decide) ?_
      have hP9 := hP.sub (ws' := [(h, .inr (13, (List.set ((List.set fs 25 (.int 0))) 6 (.int 1))))]) [0] rfl
      have hD9 := hD.sub (ws' := [(h, .inr (13, (List.set ((List.set fs 25 (.int 0))) 6 (.int 1))))]) [0] (by decide) rfl
      exact W.iret (v := 0) hx hb hr (fun t ht hW => ⟨⟨_, (), rfl, rfl, (List.set ((List.set fs 25 (.int 0))) 6 (.int 1)), (by rw [show sp_leaf b n = 0 from (sp_leaf_b (by simp only [Int32.lt_iff_toInt_lt, Int32.le_iff_toInt_le, i32_eq, ne_eq, gt_iff_lt, ge_iff_le, i32_0, i32_1, i32_2, i32_3, i32_4, i32_5, i32_6, i32_7, i32_9, i32_10, i32_m1] at c_1 hc_15 ⊢ <;> omega))]; exact (ls_ne (by decide) (ls_self (FM.len hF) (Nat.le_of_ble_eq_true rfl)))), by rw [ht]; exact hP9, va_K.moved hW.alike hK, hD9⟩, hS.F ht⟩) hS.2.2 dX12_leaf_59

def wD_X12_expression : List Cond := [.methodLink RX12 278 yX12_in, .static yX12_in, .initialized RX12, .fieldLink RX12 282 "MixinUnitsModel" "expressions" "I", .methodLink RX12 298 yX12_goes, .instanceMethod yX12_goes, .selects RX12 yX12_goes yX12_goes, .methodLink RX12 309 yX12_partsOf, .static yX12_partsOf, .methodLink RX12 313 yX12_isExpression, .instanceMethod yX12_isExpression, .selects RX12 yX12_isExpression yX12_isExpression]
def wK_X12_expression : List Cond := .code yX12_expression cX12_expression 9 (some .int) :: (wD_X12_expression ++ (wK_X12_in ++ (wsX120 ++ (wK_X12_goes_f ++ (wK_X12_partsOf ++ (wK_X12_isExpression ++ (wK_X12_goes_s ++ ([] : List Cond))))))))
theorem wd_X12_expression : ∀ w ∈ wD_X12_expression, w ∈ wK_X12_expression := fun w h => List.mem_cons_of_mem _ (List.mem_append_left _ h)
theorem gd_X12_expression : (wK_X12_expression).all goodWord = true := by decide +kernel
theorem wq_X12_expression_X12_in : ∀ w ∈ wK_X12_in, w ∈ wK_X12_expression := fun w h => List.mem_cons_of_mem _ (List.mem_append_right _ (List.mem_append_left _ h))
theorem wc_X12_expression_X12 : ∀ w ∈ wsX120, w ∈ wK_X12_expression := fun w h => List.mem_cons_of_mem _ (List.mem_append_right _ (List.mem_append_right _ (List.mem_append_left _ h)))
theorem wq_X12_expression_X12_goes_f : ∀ w ∈ wK_X12_goes_f, w ∈ wK_X12_expression := fun w h => List.mem_cons_of_mem _ (List.mem_append_right _ (List.mem_append_right _ (List.mem_append_right _ (List.mem_append_left _ h))))
theorem wq_X12_expression_X12_partsOf : ∀ w ∈ wK_X12_partsOf, w ∈ wK_X12_expression := fun w h => List.mem_cons_of_mem _ (List.mem_append_right _ (List.mem_append_right _ (List.mem_append_right _ (List.mem_append_right _ (List.mem_append_left _ h)))))
theorem wq_X12_expression_X12_isExpression : ∀ w ∈ wK_X12_isExpression, w ∈ wK_X12_expression := fun w h => List.mem_cons_of_mem _ (List.mem_append_right _ (List.mem_append_right _ (List.mem_append_right _ (List.mem_append_right _ (List.mem_append_right _ (List.mem_append_left _ h))))))
theorem wq_X12_expression_X12_goes_s : ∀ w ∈ wK_X12_goes_s, w ∈ wK_X12_expression := fun w h => List.mem_cons_of_mem _ (List.mem_append_right _ (List.mem_append_right _ (List.mem_append_right _ (List.mem_append_right _ (List.mem_append_right _ (List.mem_append_right _ (List.mem_append_left _ h)))))))
set_option maxHeartbeats 4000000 in
set_option maxRecDepth 100000 in
/-- expression on a fresh reference -/
theorem c_X12_expression (l : Launch) (D : va_G) (dT : Nat → ClassId) (sz : Nat) (h : Nat) (fs : List Value) (tm : Nat → Nat) (k : Int32) (f : Int32) (g : Int32) (j : Int32) (hF : FM fs tm) : Met l yX12_expression wK_X12_expression ({ frames := 2, cells := 0, slots := 0, locals := 43 }) (va_Pc [.ref h, .int k, .int f, .int g, .int j] (fun U => U.heap.size = sz ∧ va_P D vwCl [(h, .inr (13, fs))] U.heap ∧ va_K D vwCl (tysW dT) U ∧ va_D (fun _ => True) [(h, .inr (13, fs))] ∧ EN (va_A [(h, .inr (13, fs))] sz) U)) (va_Qi (fun (r : Int32) (_u : Unit) => r = 0) (fun (_u : Unit) t => ∃ (fs2 : List Value), fs2[25]? = some (.int (sp_expr k)) ∧ va_P D vwCl [(h, .inr (13, fs2))] t.heap ∧ va_K D vwCl (tysW dT) t ∧ va_D (va_A [(h, .inr (13, fs))] sz) [(h, .inr (13, fs2))]) (va_A [(h, .inr (13, fs))] sz)) 0 0 (va_A [(h, .inr (13, fs))] sz) := by
  refine Met.ofW (cc := cX12_expression) (maxL := 9) (ret := (some .int)) (by decide) rfl ?_
  intro p e s m args below meth c s₁ B hml hv
  obtain ⟨rfl, hsz, hP, hK, hD0, hE⟩ := hv
  have hx := B.exec
  have hb := B.bytes
  have hr := B.returns
  have hts := atoms_spec (ws := wK_X12_expression) B.pre
  have hown : s.vm.findClass RX12 = some m.cls := findClass_of_methodNamed B.named
  have hlocks := B.notSynchronized
  subst hsz
  have hD := hD0.self (sz := s.heap.size)
  generalize hAe : va_A [(h, .inr (13, fs))] s.heap.size = A at hD hE ⊢
  have hA : ∀ q : Nat, s.heap.size ≤ q → A q := fun q h => by rw [← hAe]; exact Or.inr h
  have hS : va_S A s.heap s.heap [] := va_S.rf
  have hP : va_P D vwCl [(h, .inr (13, fs))] s.heap := hP
  have hl := lv_entry ([.ref h, .int k, .int f, .int g, .int j]) (n := 9) (Nat.le_of_ble_eq_true rfl)
  rw [lg_entry_eq]
  generalize (lg_sl ([.ref h, .int k, .int f, .int g, .int j]) ++ List.replicate (9 - (lg_sl ([.ref h, .int k, .int f, .int g, .int j])).length) Slot.unset).toArray = ls at hl ⊢
  have hl : lv_has ls 9 [(0, .ref h), (1, .int k), (2, .int f), (3, .int g), (4, .int j)] := hl
  refine lv_iload_n hx hb dX12_expression_0 rfl (lv_at hl 1 rfl) ?_
  refine lv_iconst (v := 0) hx hb dX12_expression_1 (by decide) ?_
  refine lv_iconst (v := 4) hx hb dX12_expression_2 (by decide) ?_
  have hPc := hP.sub (ws' := []) [] rfl
  have hDc := hD.sub (ws' := []) [] (by decide) rfl
  have hFc := va_free (wc := []) hD hS hA [] rfl
  refine va_calli (va_runS (As := [.int k, .int 0, .int 4]) (rest := []) ⟨hx, hb, hml, hown, hts⟩ (c_X12_in l D dT s.heap.size k 0 4) (va_cwS 3 hts (goodIn_app (goodIn_r _ [1, 2, 3] rfl (by decide +kernel)) (goodIn_sub wq_X12_expression_X12_in gd_X12_in)) rfl rfl rfl (by decide +kernel) ⟨Nat.le_of_ble_eq_true rfl, Nat.le_of_ble_eq_true rfl⟩) ⟨(fun a U g mk q => by obtain ⟨z0, z1, zP, zK, zD, zE⟩ := q; exact ⟨z0, z1, zP, va_K.moved (u := U) (U := U.calling g mk a) (Vm.Alike.refl U.vm) zK, zD, EN.frame zE⟩), fun U hU hW => ⟨rfl, by rw [hU], by rw [hU]; exact hPc, va_K.moved hW.alike hK, hDc.weaken (fun _ _ _ _ => trivial), EN.call hE hS hFc hW hU⟩⟩ rfl rfl hl.1 rfl (lv_room (Nat.le_of_ble_eq_true rfl)) dX12_expression_3 ⟨(Nat.le_of_ble_eq_true rfl), (Nat.le_of_ble_eq_true rfl)⟩) hS (fun q _ h => hFc q h) hFc (fun r_1 u_2 t H1 locs ht hvm hw hB hz1 hk1 hS => ?_)
  obtain ⟨-, hP1, hK1, hD1⟩ := hB
  rw [ht] at hP1
  obtain ⟨hP, hD⟩ := va_join (wr := [(h, .inr (13, fs))]) (w1 := []) hP hD [] [0] rfl rfl (by decide) (by decide) hk1 hFc hP1 hD1
  generalize H1 = H at hP hS ⊢
  have hP : va_P D vwCl [(h, .inr (13, fs))] H := hP
  have hD : va_D A [(h, .inr (13, fs))] := hD
  refine W.widen (k := 0) (n := 0) (Nat.le_of_ble_eq_true rfl) (Nat.le_of_ble_eq_true rfl) ?_
  have hw_3 := hw
  try dsimp only at hw_3
  rcases hw_3 with ⟨hc_4, rfl⟩ | ⟨hc_5, rfl⟩
  · refine lv_istore (lv' := [(5, .int 0), (0, .ref h), (1, .int k), (2, .int f), (3, .int g), (4, .int j)]) hx hb dX12_expression_6 hl (by decide) rfl (fun ls hl => ?_)
    refine lv_iload hx hb dX12_expression_8 (lv_at hl 0 rfl) ?_
    refine lv_if_eq (tgt := 22) hx hb dX12_expression_10 (by decide) (fun _ => ?_) (fun c_6 => absurd (by decide) c_6)
    refine lv_iconst (v := 0) hx hb dX12_expression_22 (by decide) ?_
    refine lv_istore (lv' := [(6, .int 0), (5, .int 0), (0, .ref h), (1, .int k), (2, .int f), (3, .int g), (4, .int j)]) hx hb dX12_expression_23 hl (by decide) rfl (fun ls hl => ?_)
    refine lv_iload hx hb dX12_expression_25 (lv_at hl 0 rfl) ?_
    refine lv_iconst (v := 1) hx hb dX12_expression_27 (by decide) ?_
    refine lv_icmp_lt (tgt := 39) hx hb dX12_expression_28 (by decide) (fun _ => ?_) (fun c_7 => absurd (by decide) c_7)
    refine lv_iload hx hb dX12_expression_39 (lv_at hl 0 rfl) ?_
    refine lv_iconst (v := 2) hx hb dX12_expression_41 (by decide) ?_
    refine lv_icmp_lt (tgt := 53) hx hb dX12_expression_42 (by decide) (fun _ => ?_) (fun c_8 => absurd (by decide) c_8)
    refine lv_iload hx hb dX12_expression_53 (lv_at hl 0 rfl) ?_
    refine lv_iconst (v := 3) hx hb dX12_expression_55 (by decide) ?_
    refine lv_icmp_lt (tgt := 68) hx hb dX12_expression_56 (by decide) (fun _ => ?_) (fun c_9 => absurd (by decide) c_9)
    refine lv_iconst (v := 1) hx hb dX12_expression_68 (by decide) ?_
    refine lv_goto (tgt := 73) hx hb dX12_expression_69 (by decide) ?_
    refine lv_istore (lv' := [(7, .int 1), (6, .int 0), (5, .int 0), (0, .ref h), (1, .int k), (2, .int f), (3, .int g), (4, .int j)]) hx hb dX12_expression_73 hl (by decide) rfl (fun ls hl => ?_)
    refine lv_iconst (v := 1) hx hb dX12_expression_75 (by decide) ?_
    refine lv_istore (lv' := [(8, .int 1), (7, .int 1), (6, .int 0), (5, .int 0), (0, .ref h), (1, .int k), (2, .int f), (3, .int g), (4, .int j)]) hx hb dX12_expression_76 hl (by decide) rfl (fun ls hl => ?_)
    refine lv_iload hx hb dX12_expression_78 (lv_at hl 3 rfl) ?_
    refine lv_if_eq (tgt := 134) hx hb dX12_expression_80 (by decide) (fun _ => ?_) (fun c_10 => absurd (by decide) c_10)
    refine lv_aload_n hx hb dX12_expression_134 rfl (lv_at hl 4 rfl) ?_
    refine lv_iload hx hb dX12_expression_135 (lv_at hl 3 rfl) ?_
    refine lv_iload hx hb dX12_expression_137 (lv_at hl 1 rfl) ?_
    refine lv_aload_n hx hb dX12_expression_139 rfl (lv_at hl 4 rfl) ?_
    refine va_get (D := D) (ci := 13) (v := .int 0) (C := RX12) (T := TX12) (N := 109) hx hb hts wc_X12_expression_X12 hown hK hP 0 rfl rfl 6 (by decide) (hts (.fieldLink RX12 282 "MixinUnitsModel" "expressions" "I") (wd_X12_expression _ (List.mem_of_getElem? (i := 3) rfl))) (fun _ h9 => h9) (FM.at hF (j := 1) (q := (6, .int 0)) rfl) dX12_expression_140 ?_
    refine lv_bipush (v := 120) hx hb dX12_expression_143 (by decide) ?_
    refine lv_icmp_ge (tgt := 159) hx hb dX12_expression_145 (by decide) (fun c_11 => absurd c_11 (by decide)) (fun _ => ?_)
    refine lv_iload hx hb dX12_expression_148 (lv_at hl 0 rfl) ?_
    refine lv_bipush (v := 12) hx hb dX12_expression_150 (by decide) ?_
    refine lv_icmp_gt (tgt := 159) hx hb dX12_expression_152 (by decide) (fun c_12 => absurd c_12 (by decide)) (fun _ => ?_)
    refine lv_iconst (v := 1) hx hb dX12_expression_155 (by decide) ?_
    refine lv_goto (tgt := 160) hx hb dX12_expression_156 (by decide) ?_
    have hPc := hP.sub (ws' := [(h, .inr (13, fs))]) [0] rfl
    have hDc := hD.sub (ws' := [(h, .inr (13, fs))]) [0] (by decide) rfl
    have hFc := va_free (wc := [(h, .inr (13, fs))]) hD hS hA [0] rfl
    refine va_calli (va_runV (As := [.int 0, .int 1, .int 1]) (rest := []) ⟨hx, hb, hml, hown, hts⟩ (c_X12_goes_f l D dT H.size h fs 1 1 (FM.len hF)) (cwV 3 hts (goodIn_app (goodIn_r _ [5, 6, 7, 3] rfl (by decide +kernel)) (goodIn_sub wq_X12_expression_X12_goes_f gd_X12_goes_f)) rfl rfl rfl (by decide +kernel) ⟨Nat.le_of_ble_eq_true rfl, Nat.le_of_ble_eq_true rfl⟩) ⟨(fun a U g mk q => by obtain ⟨z0, z1, zP, zK, zD, zE⟩ := q; exact ⟨z0, z1, zP, va_K.moved (u := U) (U := U.calling g mk a) (Vm.Alike.refl U.vm) zK, zD, EN.frame zE⟩), va_recv hK hP (ci := 13) (q0 := 0) rfl rfl, fun U hU hW => ⟨rfl, by rw [hU], by rw [hU]; exact hPc, va_K.moved hW.alike hK, hDc.weaken (fun _ _ _ _ => trivial), EN.call hE hS hFc hW hU⟩⟩ rfl rfl hl.1 rfl (lv_room (Nat.le_of_ble_eq_true rfl)) dX12_expression_160 ⟨(Nat.le_of_ble_eq_true rfl), (Nat.le_of_ble_eq_true rfl)⟩) hS (fun q _ h => hFc q h) hFc (fun r_13 u_14 t H1 locs ht hvm hw hB hz1 hk1 hS => ?_)
    obtain ⟨-, hP1, hK1, hD1⟩ := hB
    rw [ht] at hP1
    obtain ⟨hP, hD⟩ := va_join (wr := []) (w1 := [(h, .inr (13, (List.set fs 25 (.int 1))))]) hP hD [0] [] rfl rfl (by decide) (by decide) hk1 hFc hP1 hD1
    generalize H1 = H at hP hS ⊢
    have hP : va_P D vwCl [(h, .inr (13, (List.set fs 25 (.int 1))))] H := hP
    have hD : va_D A [(h, .inr (13, (List.set fs 25 (.int 1))))] := hD
    refine W.widen (k := 0) (n := 0) (Nat.le_of_ble_eq_true rfl) (Nat.le_of_ble_eq_true rfl) ?_
    have hw_15 := hw
    try dsimp only at hw_15
    obtain rfl : r_13 = 0 := hw_15
    refine lv_if_ne (tgt := 168) hx hb dX12_expression_163 (by decide) (fun c_16 => absurd (by decide) c_16) (fun _ => ?_)
    refine lv_iconst (v := 0) hx hb dX12_expression_166 (by decide) ?_
    have hP9 := hP.sub (ws' := [(h, .inr (13, (List.set fs 25 (.int 1))))]) [0] rfl
    have hD9 := hD.sub (ws' := [(h, .inr (13, (List.set fs 25 (.int 1))))]) [0] (by decide) rfl
    exact W.iret (v := 0) hx hb hr (fun t ht hW => ⟨⟨_, (), rfl, rfl, (List.set fs 25 (.int 1)), (by rw [show sp_expr k = 1 from (sp_expr_a (by simp only [Int32.lt_iff_toInt_lt, Int32.le_iff_toInt_le, i32_eq, ne_eq, gt_iff_lt, ge_iff_le, i32_0, i32_1, i32_2, i32_3, i32_4, i32_5, i32_6, i32_7, i32_9, i32_10, i32_m1] at hc_4 ⊢ <;> omega))]; exact (ls_self (FM.len hF) (Nat.le_of_ble_eq_true rfl))), by rw [ht]; exact hP9, va_K.moved hW.alike hK, hD9⟩, hS.F ht⟩) hS.2.2 dX12_expression_167
  · rcases k04 hc_5 with rfl | rfl | rfl | rfl | rfl
    · refine lv_istore (lv' := [(5, .int 1), (0, .ref h), (1, .int 0), (2, .int f), (3, .int g), (4, .int j)]) hx hb dX12_expression_6 hl (by decide) rfl (fun ls hl => ?_)
      refine lv_iload hx hb dX12_expression_8 (lv_at hl 0 rfl) ?_
      refine lv_if_eq (tgt := 22) hx hb dX12_expression_10 (by decide) (fun c_17 => absurd c_17 (by decide)) (fun _ => ?_)
      refine lv_iload_n hx hb dX12_expression_13 rfl (lv_at hl 2 rfl) ?_
      refine lv_iconst (v := 2) hx hb dX12_expression_14 (by decide) ?_
      refine lv_iadd hx hb dX12_expression_15 ?_
      refine lv_topi (fun x_18 ex_18 => ?_)
      obtain rfl : x_18 = 2 := ex_18.trans (by decide)
      have hPc := hP.sub (ws' := []) [] rfl
      have hDc := hD.sub (ws' := []) [] (by decide) rfl
      have hFc := va_free (wc := []) hD hS hA [] rfl
      refine va_calli (va_runS (As := [.int 2]) (rest := []) ⟨hx, hb, hml, hown, hts⟩ (c_X12_partsOf l D dT H.size 2) (va_cwS 1 hts (goodIn_app (goodIn_r _ [8, 9, 3] rfl (by decide +kernel)) (goodIn_sub wq_X12_expression_X12_partsOf gd_X12_partsOf)) rfl rfl rfl (by decide +kernel) ⟨Nat.le_of_ble_eq_true rfl, Nat.le_of_ble_eq_true rfl⟩) ⟨(fun a U g mk q => by obtain ⟨z0, z1, zP, zK, zD, zE⟩ := q; exact ⟨z0, z1, zP, va_K.moved (u := U) (U := U.calling g mk a) (Vm.Alike.refl U.vm) zK, zD, EN.frame zE⟩), fun U hU hW => ⟨rfl, by rw [hU], by rw [hU]; exact hPc, va_K.moved hW.alike hK, hDc.weaken (fun _ _ _ _ => trivial), EN.call hE hS hFc hW hU⟩⟩ rfl rfl hl.1 rfl (lv_room (Nat.le_of_ble_eq_true rfl)) dX12_expression_16 ⟨(Nat.le_of_ble_eq_true rfl), (Nat.le_of_ble_eq_true rfl)⟩) hS (fun q _ h => hFc q h) hFc (fun r_19 u_20 t H1 locs ht hvm hw hB hz1 hk1 hS => ?_)
      obtain ⟨-, hP1, hK1, hD1⟩ := hB
      rw [ht] at hP1
      obtain ⟨hP, hD⟩ := va_join (wr := [(h, .inr (13, fs))]) (w1 := []) hP hD [] [0] rfl rfl (by decide) (by decide) hk1 hFc hP1 hD1
      generalize H1 = H at hP hS ⊢
      have hP : va_P D vwCl [(h, .inr (13, fs))] H := hP
      have hD : va_D A [(h, .inr (13, fs))] := hD
      refine W.widen (k := 0) (n := 0) (Nat.le_of_ble_eq_true rfl) (Nat.le_of_ble_eq_true rfl) ?_
      have hw_21 := hw
      try dsimp only at hw_21
      rcases hw_21 with ⟨hc_22, rfl⟩ | ⟨hc_23, rfl⟩ | ⟨hc_24, rfl⟩ | ⟨hc_25, rfl⟩
      · exact absurd hc_22 (by decide)
      · exact absurd hc_23 (by decide)
      · exact absurd hc_24 (by decide)
      · refine lv_goto (tgt := 23) hx hb dX12_expression_19 (by decide) ?_
        refine lv_istore (lv' := [(6, .int 2), (5, .int 1), (0, .ref h), (1, .int 0), (2, .int f), (3, .int g), (4, .int j)]) hx hb dX12_expression_23 hl (by decide) rfl (fun ls hl => ?_)
        refine lv_iload hx hb dX12_expression_25 (lv_at hl 0 rfl) ?_
        refine lv_iconst (v := 1) hx hb dX12_expression_27 (by decide) ?_
        refine lv_icmp_lt (tgt := 39) hx hb dX12_expression_28 (by decide) (fun c_26 => absurd c_26 (by decide)) (fun _ => ?_)
        refine lv_aload_n hx hb dX12_expression_31 rfl (lv_at hl 2 rfl) ?_
        refine lv_iload_n hx hb dX12_expression_32 rfl (lv_at hl 4 rfl) ?_
        have hPc := hP.sub (ws' := [(h, .inr (13, fs))]) [0] rfl
        have hDc := hD.sub (ws' := [(h, .inr (13, fs))]) [0] (by decide) rfl
        have hFc := va_free (wc := [(h, .inr (13, fs))]) hD hS hA [0] rfl
        refine va_calli (va_runV (As := [.int f]) (rest := []) ⟨hx, hb, hml, hown, hts⟩ (c_X12_isExpression l D dT H.size h fs tm f hF) (cwV 1 hts (goodIn_app (goodIn_r _ [10, 11, 12, 3] rfl (by decide +kernel)) (goodIn_sub wq_X12_expression_X12_isExpression gd_X12_isExpression)) rfl rfl rfl (by decide +kernel) ⟨Nat.le_of_ble_eq_true rfl, Nat.le_of_ble_eq_true rfl⟩) ⟨(fun a U g mk q => by obtain ⟨z0, z1, zP, zK, zD, zE⟩ := q; exact ⟨z0, z1, zP, va_K.moved (u := U) (U := U.calling g mk a) (Vm.Alike.refl U.vm) zK, zD, EN.frame zE⟩), va_recv hK hP (ci := 13) (q0 := 0) rfl rfl, fun U hU hW => ⟨rfl, by rw [hU], by rw [hU]; exact hPc, va_K.moved hW.alike hK, hDc.weaken (fun _ _ _ _ => trivial), EN.call hE hS hFc hW hU⟩⟩ rfl rfl hl.1 rfl (lv_room (Nat.le_of_ble_eq_true rfl)) dX12_expression_33 ⟨(Nat.le_of_ble_eq_true rfl), (Nat.le_of_ble_eq_true rfl)⟩) hS (fun q _ h => hFc q h) hFc (fun r_27 u_28 t H1 locs ht hvm hw hB hz1 hk1 hS => ?_)
        obtain ⟨-, hP1, hK1, hD1⟩ := hB
        rw [ht] at hP1
        obtain ⟨hP, hD⟩ := va_join (wr := []) (w1 := [(h, .inr (13, fs))]) hP hD [0] [] rfl rfl (by decide) (by decide) hk1 hFc hP1 hD1
        generalize H1 = H at hP hS ⊢
        have hP : va_P D vwCl [(h, .inr (13, fs))] H := hP
        have hD : va_D A [(h, .inr (13, fs))] := hD
        refine W.widen (k := 0) (n := 0) (Nat.le_of_ble_eq_true rfl) (Nat.le_of_ble_eq_true rfl) ?_
        have hw_29 := hw
        try dsimp only at hw_29
        obtain rfl : r_27 = 0 := hw_29
        refine lv_if_eq (tgt := 72) hx hb dX12_expression_36 (by decide) (fun _ => ?_) (fun c_30 => absurd (by decide) c_30)
        refine lv_iconst (v := 0) hx hb dX12_expression_72 (by decide) ?_
        refine lv_istore (lv' := [(7, .int 0), (6, .int 2), (5, .int 1), (0, .ref h), (1, .int 0), (2, .int f), (3, .int g), (4, .int j)]) hx hb dX12_expression_73 hl (by decide) rfl (fun ls hl => ?_)
        refine lv_iconst (v := 1) hx hb dX12_expression_75 (by decide) ?_
        refine lv_istore (lv' := [(8, .int 1), (7, .int 0), (6, .int 2), (5, .int 1), (0, .ref h), (1, .int 0), (2, .int f), (3, .int g), (4, .int j)]) hx hb dX12_expression_76 hl (by decide) rfl (fun ls hl => ?_)
        refine lv_iload hx hb dX12_expression_78 (lv_at hl 3 rfl) ?_
        refine lv_if_eq (tgt := 134) hx hb dX12_expression_80 (by decide) (fun c_31 => absurd c_31 (by decide)) (fun _ => ?_)
        refine lv_iload hx hb dX12_expression_83 (lv_at hl 1 rfl) ?_
        refine lv_if_eq (tgt := 134) hx hb dX12_expression_85 (by decide) (fun _ => ?_) (fun c_32 => absurd (by decide) c_32)
        refine lv_aload_n hx hb dX12_expression_134 rfl (lv_at hl 4 rfl) ?_
        refine lv_iload hx hb dX12_expression_135 (lv_at hl 3 rfl) ?_
        refine lv_iload hx hb dX12_expression_137 (lv_at hl 1 rfl) ?_
        refine lv_aload_n hx hb dX12_expression_139 rfl (lv_at hl 4 rfl) ?_
        refine va_get (D := D) (ci := 13) (v := .int 0) (C := RX12) (T := TX12) (N := 109) hx hb hts wc_X12_expression_X12 hown hK hP 0 rfl rfl 6 (by decide) (hts (.fieldLink RX12 282 "MixinUnitsModel" "expressions" "I") (wd_X12_expression _ (List.mem_of_getElem? (i := 3) rfl))) (fun _ h9 => h9) (FM.at hF (j := 1) (q := (6, .int 0)) rfl) dX12_expression_140 ?_
        refine lv_bipush (v := 120) hx hb dX12_expression_143 (by decide) ?_
        refine lv_icmp_ge (tgt := 159) hx hb dX12_expression_145 (by decide) (fun c_33 => absurd c_33 (by decide)) (fun _ => ?_)
        refine lv_iload hx hb dX12_expression_148 (lv_at hl 0 rfl) ?_
        refine lv_bipush (v := 12) hx hb dX12_expression_150 (by decide) ?_
        refine lv_icmp_gt (tgt := 159) hx hb dX12_expression_152 (by decide) (fun c_34 => absurd c_34 (by decide)) (fun _ => ?_)
        refine lv_iconst (v := 1) hx hb dX12_expression_155 (by decide) ?_
        refine lv_goto (tgt := 160) hx hb dX12_expression_156 (by decide) ?_
        have hPc := hP.sub (ws' := [(h, .inr (13, fs))]) [0] rfl
        have hDc := hD.sub (ws' := [(h, .inr (13, fs))]) [0] (by decide) rfl
        have hFc := va_free (wc := [(h, .inr (13, fs))]) hD hS hA [0] rfl
        refine va_calli (va_runV (As := [.int 1, .int 0, .int 1]) (rest := []) ⟨hx, hb, hml, hown, hts⟩ (c_X12_goes_s l D dT H.size h fs 1 (FM.len hF)) (cwV 3 hts (goodIn_app (goodIn_r _ [5, 6, 7, 3] rfl (by decide +kernel)) (goodIn_sub wq_X12_expression_X12_goes_s gd_X12_goes_s)) rfl rfl rfl (by decide +kernel) ⟨Nat.le_of_ble_eq_true rfl, Nat.le_of_ble_eq_true rfl⟩) ⟨(fun a U g mk q => by obtain ⟨z0, z1, zP, zK, zD, zE⟩ := q; exact ⟨z0, z1, zP, va_K.moved (u := U) (U := U.calling g mk a) (Vm.Alike.refl U.vm) zK, zD, EN.frame zE⟩), va_recv hK hP (ci := 13) (q0 := 0) rfl rfl, fun U hU hW => ⟨rfl, by rw [hU], by rw [hU]; exact hPc, va_K.moved hW.alike hK, hDc.weaken (fun _ _ _ _ => trivial), EN.call hE hS hFc hW hU⟩⟩ rfl rfl hl.1 rfl (lv_room (Nat.le_of_ble_eq_true rfl)) dX12_expression_160 ⟨(Nat.le_of_ble_eq_true rfl), (Nat.le_of_ble_eq_true rfl)⟩) hS (fun q _ h => hFc q h) hFc (fun r_35 u_36 t H1 locs ht hvm hw hB hz1 hk1 hS => ?_)
        obtain ⟨-, hP1, hK1, hD1⟩ := hB
        rw [ht] at hP1
        obtain ⟨hP, hD⟩ := va_join (wr := []) (w1 := [(h, .inr (13, (List.set fs 25 (.int 2))))]) hP hD [0] [] rfl rfl (by decide) (by decide) hk1 hFc hP1 hD1
        generalize H1 = H at hP hS ⊢
        have hP : va_P D vwCl [(h, .inr (13, (List.set fs 25 (.int 2))))] H := hP
        have hD : va_D A [(h, .inr (13, (List.set fs 25 (.int 2))))] := hD
        refine W.widen (k := 0) (n := 0) (Nat.le_of_ble_eq_true rfl) (Nat.le_of_ble_eq_true rfl) ?_
        have hw_37 := hw
        try dsimp only at hw_37
        obtain rfl : r_35 = 0 := hw_37
        refine lv_if_ne (tgt := 168) hx hb dX12_expression_163 (by decide) (fun c_38 => absurd (by decide) c_38) (fun _ => ?_)
        refine lv_iconst (v := 0) hx hb dX12_expression_166 (by decide) ?_
        have hP9 := hP.sub (ws' := [(h, .inr (13, (List.set fs 25 (.int 2))))]) [0] rfl
        have hD9 := hD.sub (ws' := [(h, .inr (13, (List.set fs 25 (.int 2))))]) [0] (by decide) rfl
        exact W.iret (v := 0) hx hb hr (fun t ht hW => ⟨⟨_, (), rfl, rfl, (List.set fs 25 (.int 2)), (by rw [show sp_expr 0 = 2 from (sp_expr_b (by simp only [Int32.lt_iff_toInt_lt, Int32.le_iff_toInt_le, i32_eq, ne_eq, gt_iff_lt, ge_iff_le, i32_0, i32_1, i32_2, i32_3, i32_4, i32_5, i32_6, i32_7, i32_9, i32_10, i32_m1] at hc_5 hc_25 ⊢ <;> omega))]; exact (ls_self (FM.len hF) (Nat.le_of_ble_eq_true rfl))), by rw [ht]; exact hP9, va_K.moved hW.alike hK, hD9⟩, hS.F ht⟩) hS.2.2 dX12_expression_167
    · refine lv_istore (lv' := [(5, .int 1), (0, .ref h), (1, .int 1), (2, .int f), (3, .int g), (4, .int j)]) hx hb dX12_expression_6 hl (by decide) rfl (fun ls hl => ?_)
      refine lv_iload hx hb dX12_expression_8 (lv_at hl 0 rfl) ?_
      refine lv_if_eq (tgt := 22) hx hb dX12_expression_10 (by decide) (fun c_39 => absurd c_39 (by decide)) (fun _ => ?_)
      refine lv_iload_n hx hb dX12_expression_13 rfl (lv_at hl 2 rfl) ?_
      refine lv_iconst (v := 2) hx hb dX12_expression_14 (by decide) ?_
      refine lv_iadd hx hb dX12_expression_15 ?_
      refine lv_topi (fun x_40 ex_40 => ?_)
      obtain rfl : x_40 = 3 := ex_40.trans (by decide)
      have hPc := hP.sub (ws' := []) [] rfl
      have hDc := hD.sub (ws' := []) [] (by decide) rfl
      have hFc := va_free (wc := []) hD hS hA [] rfl
      refine va_calli (va_runS (As := [.int 3]) (rest := []) ⟨hx, hb, hml, hown, hts⟩ (c_X12_partsOf l D dT H.size 3) (va_cwS 1 hts (goodIn_app (goodIn_r _ [8, 9, 3] rfl (by decide +kernel)) (goodIn_sub wq_X12_expression_X12_partsOf gd_X12_partsOf)) rfl rfl rfl (by decide +kernel) ⟨Nat.le_of_ble_eq_true rfl, Nat.le_of_ble_eq_true rfl⟩) ⟨(fun a U g mk q => by obtain ⟨z0, z1, zP, zK, zD, zE⟩ := q; exact ⟨z0, z1, zP, va_K.moved (u := U) (U := U.calling g mk a) (Vm.Alike.refl U.vm) zK, zD, EN.frame zE⟩), fun U hU hW => ⟨rfl, by rw [hU], by rw [hU]; exact hPc, va_K.moved hW.alike hK, hDc.weaken (fun _ _ _ _ => trivial), EN.call hE hS hFc hW hU⟩⟩ rfl rfl hl.1 rfl (lv_room (Nat.le_of_ble_eq_true rfl)) dX12_expression_16 ⟨(Nat.le_of_ble_eq_true rfl), (Nat.le_of_ble_eq_true rfl)⟩) hS (fun q _ h => hFc q h) hFc (fun r_41 u_42 t H1 locs ht hvm hw hB hz1 hk1 hS => ?_)
      obtain ⟨-, hP1, hK1, hD1⟩ := hB
      rw [ht] at hP1
      obtain ⟨hP, hD⟩ := va_join (wr := [(h, .inr (13, fs))]) (w1 := []) hP hD [] [0] rfl rfl (by decide) (by decide) hk1 hFc hP1 hD1
      generalize H1 = H at hP hS ⊢
      have hP : va_P D vwCl [(h, .inr (13, fs))] H := hP
      have hD : va_D A [(h, .inr (13, fs))] := hD
      refine W.widen (k := 0) (n := 0) (Nat.le_of_ble_eq_true rfl) (Nat.le_of_ble_eq_true rfl) ?_
      have hw_43 := hw
      try dsimp only at hw_43
      rcases hw_43 with ⟨hc_44, rfl⟩ | ⟨hc_45, rfl⟩ | ⟨hc_46, rfl⟩ | ⟨hc_47, rfl⟩
      · exact absurd hc_44 (by decide)
      · exact absurd hc_45 (by decide)
      · exact absurd hc_46 (by decide)
      · refine lv_goto (tgt := 23) hx hb dX12_expression_19 (by decide) ?_
        refine lv_istore (lv' := [(6, .int 2), (5, .int 1), (0, .ref h), (1, .int 1), (2, .int f), (3, .int g), (4, .int j)]) hx hb dX12_expression_23 hl (by decide) rfl (fun ls hl => ?_)
        refine lv_iload hx hb dX12_expression_25 (lv_at hl 0 rfl) ?_
        refine lv_iconst (v := 1) hx hb dX12_expression_27 (by decide) ?_
        refine lv_icmp_lt (tgt := 39) hx hb dX12_expression_28 (by decide) (fun c_48 => absurd c_48 (by decide)) (fun _ => ?_)
        refine lv_aload_n hx hb dX12_expression_31 rfl (lv_at hl 2 rfl) ?_
        refine lv_iload_n hx hb dX12_expression_32 rfl (lv_at hl 4 rfl) ?_
        have hPc := hP.sub (ws' := [(h, .inr (13, fs))]) [0] rfl
        have hDc := hD.sub (ws' := [(h, .inr (13, fs))]) [0] (by decide) rfl
        have hFc := va_free (wc := [(h, .inr (13, fs))]) hD hS hA [0] rfl
        refine va_calli (va_runV (As := [.int f]) (rest := []) ⟨hx, hb, hml, hown, hts⟩ (c_X12_isExpression l D dT H.size h fs tm f hF) (cwV 1 hts (goodIn_app (goodIn_r _ [10, 11, 12, 3] rfl (by decide +kernel)) (goodIn_sub wq_X12_expression_X12_isExpression gd_X12_isExpression)) rfl rfl rfl (by decide +kernel) ⟨Nat.le_of_ble_eq_true rfl, Nat.le_of_ble_eq_true rfl⟩) ⟨(fun a U g mk q => by obtain ⟨z0, z1, zP, zK, zD, zE⟩ := q; exact ⟨z0, z1, zP, va_K.moved (u := U) (U := U.calling g mk a) (Vm.Alike.refl U.vm) zK, zD, EN.frame zE⟩), va_recv hK hP (ci := 13) (q0 := 0) rfl rfl, fun U hU hW => ⟨rfl, by rw [hU], by rw [hU]; exact hPc, va_K.moved hW.alike hK, hDc.weaken (fun _ _ _ _ => trivial), EN.call hE hS hFc hW hU⟩⟩ rfl rfl hl.1 rfl (lv_room (Nat.le_of_ble_eq_true rfl)) dX12_expression_33 ⟨(Nat.le_of_ble_eq_true rfl), (Nat.le_of_ble_eq_true rfl)⟩) hS (fun q _ h => hFc q h) hFc (fun r_49 u_50 t H1 locs ht hvm hw hB hz1 hk1 hS => ?_)
        obtain ⟨-, hP1, hK1, hD1⟩ := hB
        rw [ht] at hP1
        obtain ⟨hP, hD⟩ := va_join (wr := []) (w1 := [(h, .inr (13, fs))]) hP hD [0] [] rfl rfl (by decide) (by decide) hk1 hFc hP1 hD1
        generalize H1 = H at hP hS ⊢
        have hP : va_P D vwCl [(h, .inr (13, fs))] H := hP
        have hD : va_D A [(h, .inr (13, fs))] := hD
        refine W.widen (k := 0) (n := 0) (Nat.le_of_ble_eq_true rfl) (Nat.le_of_ble_eq_true rfl) ?_
        have hw_51 := hw
        try dsimp only at hw_51
        obtain rfl : r_49 = 0 := hw_51
        refine lv_if_eq (tgt := 72) hx hb dX12_expression_36 (by decide) (fun _ => ?_) (fun c_52 => absurd (by decide) c_52)
        refine lv_iconst (v := 0) hx hb dX12_expression_72 (by decide) ?_
        refine lv_istore (lv' := [(7, .int 0), (6, .int 2), (5, .int 1), (0, .ref h), (1, .int 1), (2, .int f), (3, .int g), (4, .int j)]) hx hb dX12_expression_73 hl (by decide) rfl (fun ls hl => ?_)
        refine lv_iconst (v := 1) hx hb dX12_expression_75 (by decide) ?_
        refine lv_istore (lv' := [(8, .int 1), (7, .int 0), (6, .int 2), (5, .int 1), (0, .ref h), (1, .int 1), (2, .int f), (3, .int g), (4, .int j)]) hx hb dX12_expression_76 hl (by decide) rfl (fun ls hl => ?_)
        refine lv_iload hx hb dX12_expression_78 (lv_at hl 3 rfl) ?_
        refine lv_if_eq (tgt := 134) hx hb dX12_expression_80 (by decide) (fun c_53 => absurd c_53 (by decide)) (fun _ => ?_)
        refine lv_iload hx hb dX12_expression_83 (lv_at hl 1 rfl) ?_
        refine lv_if_eq (tgt := 134) hx hb dX12_expression_85 (by decide) (fun _ => ?_) (fun c_54 => absurd (by decide) c_54)
        refine lv_aload_n hx hb dX12_expression_134 rfl (lv_at hl 4 rfl) ?_
        refine lv_iload hx hb dX12_expression_135 (lv_at hl 3 rfl) ?_
        refine lv_iload hx hb dX12_expression_137 (lv_at hl 1 rfl) ?_
        refine lv_aload_n hx hb dX12_expression_139 rfl (lv_at hl 4 rfl) ?_
        refine va_get (D := D) (ci := 13) (v := .int 0) (C := RX12) (T := TX12) (N := 109) hx hb hts wc_X12_expression_X12 hown hK hP 0 rfl rfl 6 (by decide) (hts (.fieldLink RX12 282 "MixinUnitsModel" "expressions" "I") (wd_X12_expression _ (List.mem_of_getElem? (i := 3) rfl))) (fun _ h9 => h9) (FM.at hF (j := 1) (q := (6, .int 0)) rfl) dX12_expression_140 ?_
        refine lv_bipush (v := 120) hx hb dX12_expression_143 (by decide) ?_
        refine lv_icmp_ge (tgt := 159) hx hb dX12_expression_145 (by decide) (fun c_55 => absurd c_55 (by decide)) (fun _ => ?_)
        refine lv_iload hx hb dX12_expression_148 (lv_at hl 0 rfl) ?_
        refine lv_bipush (v := 12) hx hb dX12_expression_150 (by decide) ?_
        refine lv_icmp_gt (tgt := 159) hx hb dX12_expression_152 (by decide) (fun c_56 => absurd c_56 (by decide)) (fun _ => ?_)
        refine lv_iconst (v := 1) hx hb dX12_expression_155 (by decide) ?_
        refine lv_goto (tgt := 160) hx hb dX12_expression_156 (by decide) ?_
        have hPc := hP.sub (ws' := [(h, .inr (13, fs))]) [0] rfl
        have hDc := hD.sub (ws' := [(h, .inr (13, fs))]) [0] (by decide) rfl
        have hFc := va_free (wc := [(h, .inr (13, fs))]) hD hS hA [0] rfl
        refine va_calli (va_runV (As := [.int 1, .int 0, .int 1]) (rest := []) ⟨hx, hb, hml, hown, hts⟩ (c_X12_goes_s l D dT H.size h fs 1 (FM.len hF)) (cwV 3 hts (goodIn_app (goodIn_r _ [5, 6, 7, 3] rfl (by decide +kernel)) (goodIn_sub wq_X12_expression_X12_goes_s gd_X12_goes_s)) rfl rfl rfl (by decide +kernel) ⟨Nat.le_of_ble_eq_true rfl, Nat.le_of_ble_eq_true rfl⟩) ⟨(fun a U g mk q => by obtain ⟨z0, z1, zP, zK, zD, zE⟩ := q; exact ⟨z0, z1, zP, va_K.moved (u := U) (U := U.calling g mk a) (Vm.Alike.refl U.vm) zK, zD, EN.frame zE⟩), va_recv hK hP (ci := 13) (q0 := 0) rfl rfl, fun U hU hW => ⟨rfl, by rw [hU], by rw [hU]; exact hPc, va_K.moved hW.alike hK, hDc.weaken (fun _ _ _ _ => trivial), EN.call hE hS hFc hW hU⟩⟩ rfl rfl hl.1 rfl (lv_room (Nat.le_of_ble_eq_true rfl)) dX12_expression_160 ⟨(Nat.le_of_ble_eq_true rfl), (Nat.le_of_ble_eq_true rfl)⟩) hS (fun q _ h => hFc q h) hFc (fun r_57 u_58 t H1 locs ht hvm hw hB hz1 hk1 hS => ?_)
        obtain ⟨-, hP1, hK1, hD1⟩ := hB
        rw [ht] at hP1
        obtain ⟨hP, hD⟩ := va_join (wr := []) (w1 := [(h, .inr (13, (List.set fs 25 (.int 2))))]) hP hD [0] [] rfl rfl (by decide) (by decide) hk1 hFc hP1 hD1
        generalize H1 = H at hP hS ⊢
        have hP : va_P D vwCl [(h, .inr (13, (List.set fs 25 (.int 2))))] H := hP
        have hD : va_D A [(h, .inr (13, (List.set fs 25 (.int 2))))] := hD
        refine W.widen (k := 0) (n := 0) (Nat.le_of_ble_eq_true rfl) (Nat.le_of_ble_eq_true rfl) ?_
        have hw_59 := hw
        try dsimp only at hw_59
        obtain rfl : r_57 = 0 := hw_59
        refine lv_if_ne (tgt := 168) hx hb dX12_expression_163 (by decide) (fun c_60 => absurd (by decide) c_60) (fun _ => ?_)
        refine lv_iconst (v := 0) hx hb dX12_expression_166 (by decide) ?_
        have hP9 := hP.sub (ws' := [(h, .inr (13, (List.set fs 25 (.int 2))))]) [0] rfl
        have hD9 := hD.sub (ws' := [(h, .inr (13, (List.set fs 25 (.int 2))))]) [0] (by decide) rfl
        exact W.iret (v := 0) hx hb hr (fun t ht hW => ⟨⟨_, (), rfl, rfl, (List.set fs 25 (.int 2)), (by rw [show sp_expr 1 = 2 from (sp_expr_b (by simp only [Int32.lt_iff_toInt_lt, Int32.le_iff_toInt_le, i32_eq, ne_eq, gt_iff_lt, ge_iff_le, i32_0, i32_1, i32_2, i32_3, i32_4, i32_5, i32_6, i32_7, i32_9, i32_10, i32_m1] at hc_5 hc_47 ⊢ <;> omega))]; exact (ls_self (FM.len hF) (Nat.le_of_ble_eq_true rfl))), by rw [ht]; exact hP9, va_K.moved hW.alike hK, hD9⟩, hS.F ht⟩) hS.2.2 dX12_expression_167
    · refine lv_istore (lv' := [(5, .int 1), (0, .ref h), (1, .int 2), (2, .int f), (3, .int g), (4, .int j)]) hx hb dX12_expression_6 hl (by decide) rfl (fun ls hl => ?_)
      refine lv_iload hx hb dX12_expression_8 (lv_at hl 0 rfl) ?_
      refine lv_if_eq (tgt := 22) hx hb dX12_expression_10 (by decide) (fun c_61 => absurd c_61 (by decide)) (fun _ => ?_)
      refine lv_iload_n hx hb dX12_expression_13 rfl (lv_at hl 2 rfl) ?_
      refine lv_iconst (v := 2) hx hb dX12_expression_14 (by decide) ?_
      refine lv_iadd hx hb dX12_expression_15 ?_
      refine lv_topi (fun x_62 ex_62 => ?_)
      obtain rfl : x_62 = 4 := ex_62.trans (by decide)
      have hPc := hP.sub (ws' := []) [] rfl
      have hDc := hD.sub (ws' := []) [] (by decide) rfl
      have hFc := va_free (wc := []) hD hS hA [] rfl
      refine va_calli (va_runS (As := [.int 4]) (rest := []) ⟨hx, hb, hml, hown, hts⟩ (c_X12_partsOf l D dT H.size 4) (va_cwS 1 hts (goodIn_app (goodIn_r _ [8, 9, 3] rfl (by decide +kernel)) (goodIn_sub wq_X12_expression_X12_partsOf gd_X12_partsOf)) rfl rfl rfl (by decide +kernel) ⟨Nat.le_of_ble_eq_true rfl, Nat.le_of_ble_eq_true rfl⟩) ⟨(fun a U g mk q => by obtain ⟨z0, z1, zP, zK, zD, zE⟩ := q; exact ⟨z0, z1, zP, va_K.moved (u := U) (U := U.calling g mk a) (Vm.Alike.refl U.vm) zK, zD, EN.frame zE⟩), fun U hU hW => ⟨rfl, by rw [hU], by rw [hU]; exact hPc, va_K.moved hW.alike hK, hDc.weaken (fun _ _ _ _ => trivial), EN.call hE hS hFc hW hU⟩⟩ rfl rfl hl.1 rfl (lv_room (Nat.le_of_ble_eq_true rfl)) dX12_expression_16 ⟨(Nat.le_of_ble_eq_true rfl), (Nat.le_of_ble_eq_true rfl)⟩) hS (fun q _ h => hFc q h) hFc (fun r_63 u_64 t H1 locs ht hvm hw hB hz1 hk1 hS => ?_)
      obtain ⟨-, hP1, hK1, hD1⟩ := hB
      rw [ht] at hP1
      obtain ⟨hP, hD⟩ := va_join (wr := [(h, .inr (13, fs))]) (w1 := []) hP hD [] [0] rfl rfl (by decide) (by decide) hk1 hFc hP1 hD1
      generalize H1 = H at hP hS ⊢
      have hP : va_P D vwCl [(h, .inr (13, fs))] H := hP
      have hD : va_D A [(h, .inr (13, fs))] := hD
      refine W.widen (k := 0) (n := 0) (Nat.le_of_ble_eq_true rfl) (Nat.le_of_ble_eq_true rfl) ?_
      have hw_65 := hw
      try dsimp only at hw_65
      rcases hw_65 with ⟨hc_66, rfl⟩ | ⟨hc_67, rfl⟩ | ⟨hc_68, rfl⟩ | ⟨hc_69, rfl⟩
      · exact absurd hc_66 (by decide)
      · refine lv_goto (tgt := 23) hx hb dX12_expression_19 (by decide) ?_
        refine lv_istore (lv' := [(6, .int 1), (5, .int 1), (0, .ref h), (1, .int 2), (2, .int f), (3, .int g), (4, .int j)]) hx hb dX12_expression_23 hl (by decide) rfl (fun ls hl => ?_)
        refine lv_iload hx hb dX12_expression_25 (lv_at hl 0 rfl) ?_
        refine lv_iconst (v := 1) hx hb dX12_expression_27 (by decide) ?_
        refine lv_icmp_lt (tgt := 39) hx hb dX12_expression_28 (by decide) (fun c_70 => absurd c_70 (by decide)) (fun _ => ?_)
        refine lv_aload_n hx hb dX12_expression_31 rfl (lv_at hl 2 rfl) ?_
        refine lv_iload_n hx hb dX12_expression_32 rfl (lv_at hl 4 rfl) ?_
        have hPc := hP.sub (ws' := [(h, .inr (13, fs))]) [0] rfl
        have hDc := hD.sub (ws' := [(h, .inr (13, fs))]) [0] (by decide) rfl
        have hFc := va_free (wc := [(h, .inr (13, fs))]) hD hS hA [0] rfl
        refine va_calli (va_runV (As := [.int f]) (rest := []) ⟨hx, hb, hml, hown, hts⟩ (c_X12_isExpression l D dT H.size h fs tm f hF) (cwV 1 hts (goodIn_app (goodIn_r _ [10, 11, 12, 3] rfl (by decide +kernel)) (goodIn_sub wq_X12_expression_X12_isExpression gd_X12_isExpression)) rfl rfl rfl (by decide +kernel) ⟨Nat.le_of_ble_eq_true rfl, Nat.le_of_ble_eq_true rfl⟩) ⟨(fun a U g mk q => by obtain ⟨z0, z1, zP, zK, zD, zE⟩ := q; exact ⟨z0, z1, zP, va_K.moved (u := U) (U := U.calling g mk a) (Vm.Alike.refl U.vm) zK, zD, EN.frame zE⟩), va_recv hK hP (ci := 13) (q0 := 0) rfl rfl, fun U hU hW => ⟨rfl, by rw [hU], by rw [hU]; exact hPc, va_K.moved hW.alike hK, hDc.weaken (fun _ _ _ _ => trivial), EN.call hE hS hFc hW hU⟩⟩ rfl rfl hl.1 rfl (lv_room (Nat.le_of_ble_eq_true rfl)) dX12_expression_33 ⟨(Nat.le_of_ble_eq_true rfl), (Nat.le_of_ble_eq_true rfl)⟩) hS (fun q _ h => hFc q h) hFc (fun r_71 u_72 t H1 locs ht hvm hw hB hz1 hk1 hS => ?_)
        obtain ⟨-, hP1, hK1, hD1⟩ := hB
        rw [ht] at hP1
        obtain ⟨hP, hD⟩ := va_join (wr := []) (w1 := [(h, .inr (13, fs))]) hP hD [0] [] rfl rfl (by decide) (by decide) hk1 hFc hP1 hD1
        generalize H1 = H at hP hS ⊢
        have hP : va_P D vwCl [(h, .inr (13, fs))] H := hP
        have hD : va_D A [(h, .inr (13, fs))] := hD
        refine W.widen (k := 0) (n := 0) (Nat.le_of_ble_eq_true rfl) (Nat.le_of_ble_eq_true rfl) ?_
        have hw_73 := hw
        try dsimp only at hw_73
        obtain rfl : r_71 = 0 := hw_73
        refine lv_if_eq (tgt := 72) hx hb dX12_expression_36 (by decide) (fun _ => ?_) (fun c_74 => absurd (by decide) c_74)
        refine lv_iconst (v := 0) hx hb dX12_expression_72 (by decide) ?_
        refine lv_istore (lv' := [(7, .int 0), (6, .int 1), (5, .int 1), (0, .ref h), (1, .int 2), (2, .int f), (3, .int g), (4, .int j)]) hx hb dX12_expression_73 hl (by decide) rfl (fun ls hl => ?_)
        refine lv_iconst (v := 1) hx hb dX12_expression_75 (by decide) ?_
        refine lv_istore (lv' := [(8, .int 1), (7, .int 0), (6, .int 1), (5, .int 1), (0, .ref h), (1, .int 2), (2, .int f), (3, .int g), (4, .int j)]) hx hb dX12_expression_76 hl (by decide) rfl (fun ls hl => ?_)
        refine lv_iload hx hb dX12_expression_78 (lv_at hl 3 rfl) ?_
        refine lv_if_eq (tgt := 134) hx hb dX12_expression_80 (by decide) (fun c_75 => absurd c_75 (by decide)) (fun _ => ?_)
        refine lv_iload hx hb dX12_expression_83 (lv_at hl 1 rfl) ?_
        refine lv_if_eq (tgt := 134) hx hb dX12_expression_85 (by decide) (fun _ => ?_) (fun c_76 => absurd (by decide) c_76)
        refine lv_aload_n hx hb dX12_expression_134 rfl (lv_at hl 4 rfl) ?_
        refine lv_iload hx hb dX12_expression_135 (lv_at hl 3 rfl) ?_
        refine lv_iload hx hb dX12_expression_137 (lv_at hl 1 rfl) ?_
        refine lv_aload_n hx hb dX12_expression_139 rfl (lv_at hl 4 rfl) ?_
        refine va_get (D := D) (ci := 13) (v := .int 0) (C := RX12) (T := TX12) (N := 109) hx hb hts wc_X12_expression_X12 hown hK hP 0 rfl rfl 6 (by decide) (hts (.fieldLink RX12 282 "MixinUnitsModel" "expressions" "I") (wd_X12_expression _ (List.mem_of_getElem? (i := 3) rfl))) (fun _ h9 => h9) (FM.at hF (j := 1) (q := (6, .int 0)) rfl) dX12_expression_140 ?_
        refine lv_bipush (v := 120) hx hb dX12_expression_143 (by decide) ?_
        refine lv_icmp_ge (tgt := 159) hx hb dX12_expression_145 (by decide) (fun c_77 => absurd c_77 (by decide)) (fun _ => ?_)
        refine lv_iload hx hb dX12_expression_148 (lv_at hl 0 rfl) ?_
        refine lv_bipush (v := 12) hx hb dX12_expression_150 (by decide) ?_
        refine lv_icmp_gt (tgt := 159) hx hb dX12_expression_152 (by decide) (fun c_78 => absurd c_78 (by decide)) (fun _ => ?_)
        refine lv_iconst (v := 1) hx hb dX12_expression_155 (by decide) ?_
        refine lv_goto (tgt := 160) hx hb dX12_expression_156 (by decide) ?_
        have hPc := hP.sub (ws' := [(h, .inr (13, fs))]) [0] rfl
        have hDc := hD.sub (ws' := [(h, .inr (13, fs))]) [0] (by decide) rfl
        have hFc := va_free (wc := [(h, .inr (13, fs))]) hD hS hA [0] rfl
        refine va_calli (va_runV (As := [.int 1, .int 0, .int 1]) (rest := []) ⟨hx, hb, hml, hown, hts⟩ (c_X12_goes_s l D dT H.size h fs 1 (FM.len hF)) (cwV 3 hts (goodIn_app (goodIn_r _ [5, 6, 7, 3] rfl (by decide +kernel)) (goodIn_sub wq_X12_expression_X12_goes_s gd_X12_goes_s)) rfl rfl rfl (by decide +kernel) ⟨Nat.le_of_ble_eq_true rfl, Nat.le_of_ble_eq_true rfl⟩) ⟨(fun a U g mk q => by obtain ⟨z0, z1, zP, zK, zD, zE⟩ := q; exact ⟨z0, z1, zP, va_K.moved (u := U) (U := U.calling g mk a) (Vm.Alike.refl U.vm) zK, zD, EN.frame zE⟩), va_recv hK hP (ci := 13) (q0 := 0) rfl rfl, fun U hU hW => ⟨rfl, by rw [hU], by rw [hU]; exact hPc, va_K.moved hW.alike hK, hDc.weaken (fun _ _ _ _ => trivial), EN.call hE hS hFc hW hU⟩⟩ rfl rfl hl.1 rfl (lv_room (Nat.le_of_ble_eq_true rfl)) dX12_expression_160 ⟨(Nat.le_of_ble_eq_true rfl), (Nat.le_of_ble_eq_true rfl)⟩) hS (fun q _ h => hFc q h) hFc (fun r_79 u_80 t H1 locs ht hvm hw hB hz1 hk1 hS => ?_)
        obtain ⟨-, hP1, hK1, hD1⟩ := hB
        rw [ht] at hP1
        obtain ⟨hP, hD⟩ := va_join (wr := []) (w1 := [(h, .inr (13, (List.set fs 25 (.int 2))))]) hP hD [0] [] rfl rfl (by decide) (by decide) hk1 hFc hP1 hD1
        generalize H1 = H at hP hS ⊢
        have hP : va_P D vwCl [(h, .inr (13, (List.set fs 25 (.int 2))))] H := hP
        have hD : va_D A [(h, .inr (13, (List.set fs 25 (.int 2))))] := hD
        refine W.widen (k := 0) (n := 0) (Nat.le_of_ble_eq_true rfl) (Nat.le_of_ble_eq_true rfl) ?_
        have hw_81 := hw
        try dsimp only at hw_81
        obtain rfl : r_79 = 0 := hw_81
        refine lv_if_ne (tgt := 168) hx hb dX12_expression_163 (by decide) (fun c_82 => absurd (by decide) c_82) (fun _ => ?_)
        refine lv_iconst (v := 0) hx hb dX12_expression_166 (by decide) ?_
        have hP9 := hP.sub (ws' := [(h, .inr (13, (List.set fs 25 (.int 2))))]) [0] rfl
        have hD9 := hD.sub (ws' := [(h, .inr (13, (List.set fs 25 (.int 2))))]) [0] (by decide) rfl
        exact W.iret (v := 0) hx hb hr (fun t ht hW => ⟨⟨_, (), rfl, rfl, (List.set fs 25 (.int 2)), (by rw [show sp_expr 2 = 2 from (sp_expr_b (by simp only [Int32.lt_iff_toInt_lt, Int32.le_iff_toInt_le, i32_eq, ne_eq, gt_iff_lt, ge_iff_le, i32_0, i32_1, i32_2, i32_3, i32_4, i32_5, i32_6, i32_7, i32_9, i32_10, i32_m1] at hc_5 hc_67 ⊢ <;> omega))]; exact (ls_self (FM.len hF) (Nat.le_of_ble_eq_true rfl))), by rw [ht]; exact hP9, va_K.moved hW.alike hK, hD9⟩, hS.F ht⟩) hS.2.2 dX12_expression_167
      · exact absurd hc_68 (by decide)
      · exact absurd hc_69 (by decide)
    · refine lv_istore (lv' := [(5, .int 1), (0, .ref h), (1, .int 3), (2, .int f), (3, .int g), (4, .int j)]) hx hb dX12_expression_6 hl (by decide) rfl (fun ls hl => ?_)
      refine lv_iload hx hb dX12_expression_8 (lv_at hl 0 rfl) ?_
      refine lv_if_eq (tgt := 22) hx hb dX12_expression_10 (by decide) (fun c_83 => absurd c_83 (by decide)) (fun _ => ?_)
      refine lv_iload_n hx hb dX12_expression_13 rfl (lv_at hl 2 rfl) ?_
      refine lv_iconst (v := 2) hx hb dX12_expression_14 (by decide) ?_
      refine lv_iadd hx hb dX12_expression_15 ?_
      refine lv_topi (fun x_84 ex_84 => ?_)
      obtain rfl : x_84 = 5 := ex_84.trans (by decide)
      have hPc := hP.sub (ws' := []) [] rfl
      have hDc := hD.sub (ws' := []) [] (by decide) rfl
      have hFc := va_free (wc := []) hD hS hA [] rfl
      refine va_calli (va_runS (As := [.int 5]) (rest := []) ⟨hx, hb, hml, hown, hts⟩ (c_X12_partsOf l D dT H.size 5) (va_cwS 1 hts (goodIn_app (goodIn_r _ [8, 9, 3] rfl (by decide +kernel)) (goodIn_sub wq_X12_expression_X12_partsOf gd_X12_partsOf)) rfl rfl rfl (by decide +kernel) ⟨Nat.le_of_ble_eq_true rfl, Nat.le_of_ble_eq_true rfl⟩) ⟨(fun a U g mk q => by obtain ⟨z0, z1, zP, zK, zD, zE⟩ := q; exact ⟨z0, z1, zP, va_K.moved (u := U) (U := U.calling g mk a) (Vm.Alike.refl U.vm) zK, zD, EN.frame zE⟩), fun U hU hW => ⟨rfl, by rw [hU], by rw [hU]; exact hPc, va_K.moved hW.alike hK, hDc.weaken (fun _ _ _ _ => trivial), EN.call hE hS hFc hW hU⟩⟩ rfl rfl hl.1 rfl (lv_room (Nat.le_of_ble_eq_true rfl)) dX12_expression_16 ⟨(Nat.le_of_ble_eq_true rfl), (Nat.le_of_ble_eq_true rfl)⟩) hS (fun q _ h => hFc q h) hFc (fun r_85 u_86 t H1 locs ht hvm hw hB hz1 hk1 hS => ?_)
      obtain ⟨-, hP1, hK1, hD1⟩ := hB
      rw [ht] at hP1
      obtain ⟨hP, hD⟩ := va_join (wr := [(h, .inr (13, fs))]) (w1 := []) hP hD [] [0] rfl rfl (by decide) (by decide) hk1 hFc hP1 hD1
      generalize H1 = H at hP hS ⊢
      have hP : va_P D vwCl [(h, .inr (13, fs))] H := hP
      have hD : va_D A [(h, .inr (13, fs))] := hD
      refine W.widen (k := 0) (n := 0) (Nat.le_of_ble_eq_true rfl) (Nat.le_of_ble_eq_true rfl) ?_
      have hw_87 := hw
      try dsimp only at hw_87
      rcases hw_87 with ⟨hc_88, rfl⟩ | ⟨hc_89, rfl⟩ | ⟨hc_90, rfl⟩ | ⟨hc_91, rfl⟩
      · exact absurd hc_88 (by decide)
      · refine lv_goto (tgt := 23) hx hb dX12_expression_19 (by decide) ?_
        refine lv_istore (lv' := [(6, .int 1), (5, .int 1), (0, .ref h), (1, .int 3), (2, .int f), (3, .int g), (4, .int j)]) hx hb dX12_expression_23 hl (by decide) rfl (fun ls hl => ?_)
        refine lv_iload hx hb dX12_expression_25 (lv_at hl 0 rfl) ?_
        refine lv_iconst (v := 1) hx hb dX12_expression_27 (by decide) ?_
        refine lv_icmp_lt (tgt := 39) hx hb dX12_expression_28 (by decide) (fun c_92 => absurd c_92 (by decide)) (fun _ => ?_)
        refine lv_aload_n hx hb dX12_expression_31 rfl (lv_at hl 2 rfl) ?_
        refine lv_iload_n hx hb dX12_expression_32 rfl (lv_at hl 4 rfl) ?_
        have hPc := hP.sub (ws' := [(h, .inr (13, fs))]) [0] rfl
        have hDc := hD.sub (ws' := [(h, .inr (13, fs))]) [0] (by decide) rfl
        have hFc := va_free (wc := [(h, .inr (13, fs))]) hD hS hA [0] rfl
        refine va_calli (va_runV (As := [.int f]) (rest := []) ⟨hx, hb, hml, hown, hts⟩ (c_X12_isExpression l D dT H.size h fs tm f hF) (cwV 1 hts (goodIn_app (goodIn_r _ [10, 11, 12, 3] rfl (by decide +kernel)) (goodIn_sub wq_X12_expression_X12_isExpression gd_X12_isExpression)) rfl rfl rfl (by decide +kernel) ⟨Nat.le_of_ble_eq_true rfl, Nat.le_of_ble_eq_true rfl⟩) ⟨(fun a U g mk q => by obtain ⟨z0, z1, zP, zK, zD, zE⟩ := q; exact ⟨z0, z1, zP, va_K.moved (u := U) (U := U.calling g mk a) (Vm.Alike.refl U.vm) zK, zD, EN.frame zE⟩), va_recv hK hP (ci := 13) (q0 := 0) rfl rfl, fun U hU hW => ⟨rfl, by rw [hU], by rw [hU]; exact hPc, va_K.moved hW.alike hK, hDc.weaken (fun _ _ _ _ => trivial), EN.call hE hS hFc hW hU⟩⟩ rfl rfl hl.1 rfl (lv_room (Nat.le_of_ble_eq_true rfl)) dX12_expression_33 ⟨(Nat.le_of_ble_eq_true rfl), (Nat.le_of_ble_eq_true rfl)⟩) hS (fun q _ h => hFc q h) hFc (fun r_93 u_94 t H1 locs ht hvm hw hB hz1 hk1 hS => ?_)
        obtain ⟨-, hP1, hK1, hD1⟩ := hB
        rw [ht] at hP1
        obtain ⟨hP, hD⟩ := va_join (wr := []) (w1 := [(h, .inr (13, fs))]) hP hD [0] [] rfl rfl (by decide) (by decide) hk1 hFc hP1 hD1
        generalize H1 = H at hP hS ⊢
        have hP : va_P D vwCl [(h, .inr (13, fs))] H := hP
        have hD : va_D A [(h, .inr (13, fs))] := hD
        refine W.widen (k := 0) (n := 0) (Nat.le_of_ble_eq_true rfl) (Nat.le_of_ble_eq_true rfl) ?_
        have hw_95 := hw
        try dsimp only at hw_95
        obtain rfl : r_93 = 0 := hw_95
        refine lv_if_eq (tgt := 72) hx hb dX12_expression_36 (by decide) (fun _ => ?_) (fun c_96 => absurd (by decide) c_96)
        refine lv_iconst (v := 0) hx hb dX12_expression_72 (by decide) ?_
        refine lv_istore (lv' := [(7, .int 0), (6, .int 1), (5, .int 1), (0, .ref h), (1, .int 3), (2, .int f), (3, .int g), (4, .int j)]) hx hb dX12_expression_73 hl (by decide) rfl (fun ls hl => ?_)
        refine lv_iconst (v := 1) hx hb dX12_expression_75 (by decide) ?_
        refine lv_istore (lv' := [(8, .int 1), (7, .int 0), (6, .int 1), (5, .int 1), (0, .ref h), (1, .int 3), (2, .int f), (3, .int g), (4, .int j)]) hx hb dX12_expression_76 hl (by decide) rfl (fun ls hl => ?_)
        refine lv_iload hx hb dX12_expression_78 (lv_at hl 3 rfl) ?_
        refine lv_if_eq (tgt := 134) hx hb dX12_expression_80 (by decide) (fun c_97 => absurd c_97 (by decide)) (fun _ => ?_)
        refine lv_iload hx hb dX12_expression_83 (lv_at hl 1 rfl) ?_
        refine lv_if_eq (tgt := 134) hx hb dX12_expression_85 (by decide) (fun _ => ?_) (fun c_98 => absurd (by decide) c_98)
        refine lv_aload_n hx hb dX12_expression_134 rfl (lv_at hl 4 rfl) ?_
        refine lv_iload hx hb dX12_expression_135 (lv_at hl 3 rfl) ?_
        refine lv_iload hx hb dX12_expression_137 (lv_at hl 1 rfl) ?_
        refine lv_aload_n hx hb dX12_expression_139 rfl (lv_at hl 4 rfl) ?_
        refine va_get (D := D) (ci := 13) (v := .int 0) (C := RX12) (T := TX12) (N := 109) hx hb hts wc_X12_expression_X12 hown hK hP 0 rfl rfl 6 (by decide) (hts (.fieldLink RX12 282 "MixinUnitsModel" "expressions" "I") (wd_X12_expression _ (List.mem_of_getElem? (i := 3) rfl))) (fun _ h9 => h9) (FM.at hF (j := 1) (q := (6, .int 0)) rfl) dX12_expression_140 ?_
        refine lv_bipush (v := 120) hx hb dX12_expression_143 (by decide) ?_
        refine lv_icmp_ge (tgt := 159) hx hb dX12_expression_145 (by decide) (fun c_99 => absurd c_99 (by decide)) (fun _ => ?_)
        refine lv_iload hx hb dX12_expression_148 (lv_at hl 0 rfl) ?_
        refine lv_bipush (v := 12) hx hb dX12_expression_150 (by decide) ?_
        refine lv_icmp_gt (tgt := 159) hx hb dX12_expression_152 (by decide) (fun c_100 => absurd c_100 (by decide)) (fun _ => ?_)
        refine lv_iconst (v := 1) hx hb dX12_expression_155 (by decide) ?_
        refine lv_goto (tgt := 160) hx hb dX12_expression_156 (by decide) ?_
        have hPc := hP.sub (ws' := [(h, .inr (13, fs))]) [0] rfl
        have hDc := hD.sub (ws' := [(h, .inr (13, fs))]) [0] (by decide) rfl
        have hFc := va_free (wc := [(h, .inr (13, fs))]) hD hS hA [0] rfl
        refine va_calli (va_runV (As := [.int 1, .int 0, .int 1]) (rest := []) ⟨hx, hb, hml, hown, hts⟩ (c_X12_goes_s l D dT H.size h fs 1 (FM.len hF)) (cwV 3 hts (goodIn_app (goodIn_r _ [5, 6, 7, 3] rfl (by decide +kernel)) (goodIn_sub wq_X12_expression_X12_goes_s gd_X12_goes_s)) rfl rfl rfl (by decide +kernel) ⟨Nat.le_of_ble_eq_true rfl, Nat.le_of_ble_eq_true rfl⟩) ⟨(fun a U g mk q => by obtain ⟨z0, z1, zP, zK, zD, zE⟩ := q; exact ⟨z0, z1, zP, va_K.moved (u := U) (U := U.calling g mk a) (Vm.Alike.refl U.vm) zK, zD, EN.frame zE⟩), va_recv hK hP (ci := 13) (q0 := 0) rfl rfl, fun U hU hW => ⟨rfl, by rw [hU], by rw [hU]; exact hPc, va_K.moved hW.alike hK, hDc.weaken (fun _ _ _ _ => trivial), EN.call hE hS hFc hW hU⟩⟩ rfl rfl hl.1 rfl (lv_room (Nat.le_of_ble_eq_true rfl)) dX12_expression_160 ⟨(Nat.le_of_ble_eq_true rfl), (Nat.le_of_ble_eq_true rfl)⟩) hS (fun q _ h => hFc q h) hFc (fun r_101 u_102 t H1 locs ht hvm hw hB hz1 hk1 hS => ?_)
        obtain ⟨-, hP1, hK1, hD1⟩ := hB
        rw [ht] at hP1
        obtain ⟨hP, hD⟩ := va_join (wr := []) (w1 := [(h, .inr (13, (List.set fs 25 (.int 2))))]) hP hD [0] [] rfl rfl (by decide) (by decide) hk1 hFc hP1 hD1
        generalize H1 = H at hP hS ⊢
        have hP : va_P D vwCl [(h, .inr (13, (List.set fs 25 (.int 2))))] H := hP
        have hD : va_D A [(h, .inr (13, (List.set fs 25 (.int 2))))] := hD
        refine W.widen (k := 0) (n := 0) (Nat.le_of_ble_eq_true rfl) (Nat.le_of_ble_eq_true rfl) ?_
        have hw_103 := hw
        try dsimp only at hw_103
        obtain rfl : r_101 = 0 := hw_103
        refine lv_if_ne (tgt := 168) hx hb dX12_expression_163 (by decide) (fun c_104 => absurd (by decide) c_104) (fun _ => ?_)
        refine lv_iconst (v := 0) hx hb dX12_expression_166 (by decide) ?_
        have hP9 := hP.sub (ws' := [(h, .inr (13, (List.set fs 25 (.int 2))))]) [0] rfl
        have hD9 := hD.sub (ws' := [(h, .inr (13, (List.set fs 25 (.int 2))))]) [0] (by decide) rfl
        exact W.iret (v := 0) hx hb hr (fun t ht hW => ⟨⟨_, (), rfl, rfl, (List.set fs 25 (.int 2)), (by rw [show sp_expr 3 = 2 from (sp_expr_b (by simp only [Int32.lt_iff_toInt_lt, Int32.le_iff_toInt_le, i32_eq, ne_eq, gt_iff_lt, ge_iff_le, i32_0, i32_1, i32_2, i32_3, i32_4, i32_5, i32_6, i32_7, i32_9, i32_10, i32_m1] at hc_5 hc_89 ⊢ <;> omega))]; exact (ls_self (FM.len hF) (Nat.le_of_ble_eq_true rfl))), by rw [ht]; exact hP9, va_K.moved hW.alike hK, hD9⟩, hS.F ht⟩) hS.2.2 dX12_expression_167
      · exact absurd hc_90 (by decide)
      · exact absurd hc_91 (by decide)
    · refine lv_istore (lv' := [(5, .int 1), (0, .ref h), (1, .int 4), (2, .int f), (3, .int g), (4, .int j)]) hx hb dX12_expression_6 hl (by decide) rfl (fun ls hl => ?_)
      refine lv_iload hx hb dX12_expression_8 (lv_at hl 0 rfl) ?_
      refine lv_if_eq (tgt := 22) hx hb dX12_expression_10 (by decide) (fun c_105 => absurd c_105 (by decide)) (fun _ => ?_)
      refine lv_iload_n hx hb dX12_expression_13 rfl (lv_at hl 2 rfl) ?_
      refine lv_iconst (v := 2) hx hb dX12_expression_14 (by decide) ?_
      refine lv_iadd hx hb dX12_expression_15 ?_
      refine lv_topi (fun x_106 ex_106 => ?_)
      obtain rfl : x_106 = 6 := ex_106.trans (by decide)
      have hPc := hP.sub (ws' := []) [] rfl
      have hDc := hD.sub (ws' := []) [] (by decide) rfl
      have hFc := va_free (wc := []) hD hS hA [] rfl
      refine va_calli (va_runS (As := [.int 6]) (rest := []) ⟨hx, hb, hml, hown, hts⟩ (c_X12_partsOf l D dT H.size 6) (va_cwS 1 hts (goodIn_app (goodIn_r _ [8, 9, 3] rfl (by decide +kernel)) (goodIn_sub wq_X12_expression_X12_partsOf gd_X12_partsOf)) rfl rfl rfl (by decide +kernel) ⟨Nat.le_of_ble_eq_true rfl, Nat.le_of_ble_eq_true rfl⟩) ⟨(fun a U g mk q => by obtain ⟨z0, z1, zP, zK, zD, zE⟩ := q; exact ⟨z0, z1, zP, va_K.moved (u := U) (U := U.calling g mk a) (Vm.Alike.refl U.vm) zK, zD, EN.frame zE⟩), fun U hU hW => ⟨rfl, by rw [hU], by rw [hU]; exact hPc, va_K.moved hW.alike hK, hDc.weaken (fun _ _ _ _ => trivial), EN.call hE hS hFc hW hU⟩⟩ rfl rfl hl.1 rfl (lv_room (Nat.le_of_ble_eq_true rfl)) dX12_expression_16 ⟨(Nat.le_of_ble_eq_true rfl), (Nat.le_of_ble_eq_true rfl)⟩) hS (fun q _ h => hFc q h) hFc (fun r_107 u_108 t H1 locs ht hvm hw hB hz1 hk1 hS => ?_)
      obtain ⟨-, hP1, hK1, hD1⟩ := hB
      rw [ht] at hP1
      obtain ⟨hP, hD⟩ := va_join (wr := [(h, .inr (13, fs))]) (w1 := []) hP hD [] [0] rfl rfl (by decide) (by decide) hk1 hFc hP1 hD1
      generalize H1 = H at hP hS ⊢
      have hP : va_P D vwCl [(h, .inr (13, fs))] H := hP
      have hD : va_D A [(h, .inr (13, fs))] := hD
      refine W.widen (k := 0) (n := 0) (Nat.le_of_ble_eq_true rfl) (Nat.le_of_ble_eq_true rfl) ?_
      have hw_109 := hw
      try dsimp only at hw_109
      rcases hw_109 with ⟨hc_110, rfl⟩ | ⟨hc_111, rfl⟩ | ⟨hc_112, rfl⟩ | ⟨hc_113, rfl⟩
      · exact absurd hc_110 (by decide)
      · exact absurd hc_111 (by decide)
      · refine lv_goto (tgt := 23) hx hb dX12_expression_19 (by decide) ?_
        refine lv_istore (lv' := [(6, .int 3), (5, .int 1), (0, .ref h), (1, .int 4), (2, .int f), (3, .int g), (4, .int j)]) hx hb dX12_expression_23 hl (by decide) rfl (fun ls hl => ?_)
        refine lv_iload hx hb dX12_expression_25 (lv_at hl 0 rfl) ?_
        refine lv_iconst (v := 1) hx hb dX12_expression_27 (by decide) ?_
        refine lv_icmp_lt (tgt := 39) hx hb dX12_expression_28 (by decide) (fun c_114 => absurd c_114 (by decide)) (fun _ => ?_)
        refine lv_aload_n hx hb dX12_expression_31 rfl (lv_at hl 2 rfl) ?_
        refine lv_iload_n hx hb dX12_expression_32 rfl (lv_at hl 4 rfl) ?_
        have hPc := hP.sub (ws' := [(h, .inr (13, fs))]) [0] rfl
        have hDc := hD.sub (ws' := [(h, .inr (13, fs))]) [0] (by decide) rfl
        have hFc := va_free (wc := [(h, .inr (13, fs))]) hD hS hA [0] rfl
        refine va_calli (va_runV (As := [.int f]) (rest := []) ⟨hx, hb, hml, hown, hts⟩ (c_X12_isExpression l D dT H.size h fs tm f hF) (cwV 1 hts (goodIn_app (goodIn_r _ [10, 11, 12, 3] rfl (by decide +kernel)) (goodIn_sub wq_X12_expression_X12_isExpression gd_X12_isExpression)) rfl rfl rfl (by decide +kernel) ⟨Nat.le_of_ble_eq_true rfl, Nat.le_of_ble_eq_true rfl⟩) ⟨(fun a U g mk q => by obtain ⟨z0, z1, zP, zK, zD, zE⟩ := q; exact ⟨z0, z1, zP, va_K.moved (u := U) (U := U.calling g mk a) (Vm.Alike.refl U.vm) zK, zD, EN.frame zE⟩), va_recv hK hP (ci := 13) (q0 := 0) rfl rfl, fun U hU hW => ⟨rfl, by rw [hU], by rw [hU]; exact hPc, va_K.moved hW.alike hK, hDc.weaken (fun _ _ _ _ => trivial), EN.call hE hS hFc hW hU⟩⟩ rfl rfl hl.1 rfl (lv_room (Nat.le_of_ble_eq_true rfl)) dX12_expression_33 ⟨(Nat.le_of_ble_eq_true rfl), (Nat.le_of_ble_eq_true rfl)⟩) hS (fun q _ h => hFc q h) hFc (fun r_115 u_116 t H1 locs ht hvm hw hB hz1 hk1 hS => ?_)
        obtain ⟨-, hP1, hK1, hD1⟩ := hB
        rw [ht] at hP1
        obtain ⟨hP, hD⟩ := va_join (wr := []) (w1 := [(h, .inr (13, fs))]) hP hD [0] [] rfl rfl (by decide) (by decide) hk1 hFc hP1 hD1
        generalize H1 = H at hP hS ⊢
        have hP : va_P D vwCl [(h, .inr (13, fs))] H := hP
        have hD : va_D A [(h, .inr (13, fs))] := hD
        refine W.widen (k := 0) (n := 0) (Nat.le_of_ble_eq_true rfl) (Nat.le_of_ble_eq_true rfl) ?_
        have hw_117 := hw
        try dsimp only at hw_117
        obtain rfl : r_115 = 0 := hw_117
        refine lv_if_eq (tgt := 72) hx hb dX12_expression_36 (by decide) (fun _ => ?_) (fun c_118 => absurd (by decide) c_118)
        refine lv_iconst (v := 0) hx hb dX12_expression_72 (by decide) ?_
        refine lv_istore (lv' := [(7, .int 0), (6, .int 3), (5, .int 1), (0, .ref h), (1, .int 4), (2, .int f), (3, .int g), (4, .int j)]) hx hb dX12_expression_73 hl (by decide) rfl (fun ls hl => ?_)
        refine lv_iconst (v := 1) hx hb dX12_expression_75 (by decide) ?_
        refine lv_istore (lv' := [(8, .int 1), (7, .int 0), (6, .int 3), (5, .int 1), (0, .ref h), (1, .int 4), (2, .int f), (3, .int g), (4, .int j)]) hx hb dX12_expression_76 hl (by decide) rfl (fun ls hl => ?_)
        refine lv_iload hx hb dX12_expression_78 (lv_at hl 3 rfl) ?_
        refine lv_if_eq (tgt := 134) hx hb dX12_expression_80 (by decide) (fun c_119 => absurd c_119 (by decide)) (fun _ => ?_)
        refine lv_iload hx hb dX12_expression_83 (lv_at hl 1 rfl) ?_
        refine lv_if_eq (tgt := 134) hx hb dX12_expression_85 (by decide) (fun _ => ?_) (fun c_120 => absurd (by decide) c_120)
        refine lv_aload_n hx hb dX12_expression_134 rfl (lv_at hl 4 rfl) ?_
        refine lv_iload hx hb dX12_expression_135 (lv_at hl 3 rfl) ?_
        refine lv_iload hx hb dX12_expression_137 (lv_at hl 1 rfl) ?_
        refine lv_aload_n hx hb dX12_expression_139 rfl (lv_at hl 4 rfl) ?_
        refine va_get (D := D) (ci := 13) (v := .int 0) (C := RX12) (T := TX12) (N := 109) hx hb hts wc_X12_expression_X12 hown hK hP 0 rfl rfl 6 (by decide) (hts (.fieldLink RX12 282 "MixinUnitsModel" "expressions" "I") (wd_X12_expression _ (List.mem_of_getElem? (i := 3) rfl))) (fun _ h9 => h9) (FM.at hF (j := 1) (q := (6, .int 0)) rfl) dX12_expression_140 ?_
        refine lv_bipush (v := 120) hx hb dX12_expression_143 (by decide) ?_
        refine lv_icmp_ge (tgt := 159) hx hb dX12_expression_145 (by decide) (fun c_121 => absurd c_121 (by decide)) (fun _ => ?_)
        refine lv_iload hx hb dX12_expression_148 (lv_at hl 0 rfl) ?_
        refine lv_bipush (v := 12) hx hb dX12_expression_150 (by decide) ?_
        refine lv_icmp_gt (tgt := 159) hx hb dX12_expression_152 (by decide) (fun c_122 => absurd c_122 (by decide)) (fun _ => ?_)
        refine lv_iconst (v := 1) hx hb dX12_expression_155 (by decide) ?_
        refine lv_goto (tgt := 160) hx hb dX12_expression_156 (by decide) ?_
        have hPc := hP.sub (ws' := [(h, .inr (13, fs))]) [0] rfl
        have hDc := hD.sub (ws' := [(h, .inr (13, fs))]) [0] (by decide) rfl
        have hFc := va_free (wc := [(h, .inr (13, fs))]) hD hS hA [0] rfl
        refine va_calli (va_runV (As := [.int 1, .int 0, .int 1]) (rest := []) ⟨hx, hb, hml, hown, hts⟩ (c_X12_goes_s l D dT H.size h fs 1 (FM.len hF)) (cwV 3 hts (goodIn_app (goodIn_r _ [5, 6, 7, 3] rfl (by decide +kernel)) (goodIn_sub wq_X12_expression_X12_goes_s gd_X12_goes_s)) rfl rfl rfl (by decide +kernel) ⟨Nat.le_of_ble_eq_true rfl, Nat.le_of_ble_eq_true rfl⟩) ⟨(fun a U g mk q => by obtain ⟨z0, z1, zP, zK, zD, zE⟩ := q; exact ⟨z0, z1, zP, va_K.moved (u := U) (U := U.calling g mk a) (Vm.Alike.refl U.vm) zK, zD, EN.frame zE⟩), va_recv hK hP (ci := 13) (q0 := 0) rfl rfl, fun U hU hW => ⟨rfl, by rw [hU], by rw [hU]; exact hPc, va_K.moved hW.alike hK, hDc.weaken (fun _ _ _ _ => trivial), EN.call hE hS hFc hW hU⟩⟩ rfl rfl hl.1 rfl (lv_room (Nat.le_of_ble_eq_true rfl)) dX12_expression_160 ⟨(Nat.le_of_ble_eq_true rfl), (Nat.le_of_ble_eq_true rfl)⟩) hS (fun q _ h => hFc q h) hFc (fun r_123 u_124 t H1 locs ht hvm hw hB hz1 hk1 hS => ?_)
        obtain ⟨-, hP1, hK1, hD1⟩ := hB
        rw [ht] at hP1
        obtain ⟨hP, hD⟩ := va_join (wr := []) (w1 := [(h, .inr (13, (List.set fs 25 (.int 2))))]) hP hD [0] [] rfl rfl (by decide) (by decide) hk1 hFc hP1 hD1
        generalize H1 = H at hP hS ⊢
        have hP : va_P D vwCl [(h, .inr (13, (List.set fs 25 (.int 2))))] H := hP
        have hD : va_D A [(h, .inr (13, (List.set fs 25 (.int 2))))] := hD
        refine W.widen (k := 0) (n := 0) (Nat.le_of_ble_eq_true rfl) (Nat.le_of_ble_eq_true rfl) ?_
        have hw_125 := hw
        try dsimp only at hw_125
        obtain rfl : r_123 = 0 := hw_125
        refine lv_if_ne (tgt := 168) hx hb dX12_expression_163 (by decide) (fun c_126 => absurd (by decide) c_126) (fun _ => ?_)
        refine lv_iconst (v := 0) hx hb dX12_expression_166 (by decide) ?_
        have hP9 := hP.sub (ws' := [(h, .inr (13, (List.set fs 25 (.int 2))))]) [0] rfl
        have hD9 := hD.sub (ws' := [(h, .inr (13, (List.set fs 25 (.int 2))))]) [0] (by decide) rfl
        exact W.iret (v := 0) hx hb hr (fun t ht hW => ⟨⟨_, (), rfl, rfl, (List.set fs 25 (.int 2)), (by rw [show sp_expr 4 = 2 from (sp_expr_b (by simp only [Int32.lt_iff_toInt_lt, Int32.le_iff_toInt_le, i32_eq, ne_eq, gt_iff_lt, ge_iff_le, i32_0, i32_1, i32_2, i32_3, i32_4, i32_5, i32_6, i32_7, i32_9, i32_10, i32_m1] at hc_5 hc_112 ⊢ <;> omega))]; exact (ls_self (FM.len hF) (Nat.le_of_ble_eq_true rfl))), by rw [ht]; exact hP9, va_K.moved hW.alike hK, hD9⟩, hS.F ht⟩) hS.2.2 dX12_expression_167
      · exact absurd hc_113 (by decide)
