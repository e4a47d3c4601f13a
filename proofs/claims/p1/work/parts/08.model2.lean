def wD_X12_unit : List Cond := [.fieldLink RX12 285 "MixinUnitsModel" "units" "I", .methodLink RX12 298 yX12_goes, .instanceMethod yX12_goes, .selects RX12 yX12_goes yX12_goes, .initialized RX12, .fieldLink RX12 40 "MixinUnitsModel" "versions" "[I"]
def wK_X12_unit : List Cond := .code yX12_unit cX12_unit 1 (some .int) :: (wD_X12_unit ++ (wsX120 ++ (wK_X12_goes_ok ++ ([] : List Cond))))
theorem wd_X12_unit : ∀ w ∈ wD_X12_unit, w ∈ wK_X12_unit := fun w h => List.mem_cons_of_mem _ (List.mem_append_left _ h)
theorem gd_X12_unit : (wK_X12_unit).all goodWord = true := by decide +kernel
theorem wc_X12_unit_X12 : ∀ w ∈ wsX120, w ∈ wK_X12_unit := fun w h => List.mem_cons_of_mem _ (List.mem_append_right _ (List.mem_append_left _ h))
theorem wq_X12_unit_X12_goes_ok : ∀ w ∈ wK_X12_goes_ok, w ∈ wK_X12_unit := fun w h => List.mem_cons_of_mem _ (List.mem_append_right _ (List.mem_append_right _ (List.mem_append_left _ h)))
set_option maxHeartbeats 4000000 in
set_option maxRecDepth 100000 in
/-- unit on a fresh reference -/
theorem c_X12_unit (l : Launch) (D : va_G) (dT : Nat → ClassId) (sz : Nat) (h : Nat) (fs : List Value) (tm : Nat → Nat) (gm : Nat → Nat → Int32) (hF : FM fs tm) : Met l yX12_unit wK_X12_unit ({ frames := 1, cells := 0, slots := 0, locals := 23 }) (va_Pc [.ref h] (fun U => U.heap.size = sz ∧ va_P D vwCl [(h, .inr (13, fs)), (tm 10, .inl (dT 0, 8, .inl (gm 10)))] U.heap ∧ va_K D vwCl (tysW dT) U ∧ va_D (fun _ => True) [(h, .inr (13, fs)), (tm 10, .inl (dT 0, 8, .inl (gm 10)))] ∧ EN (va_A [(h, .inr (13, fs)), (tm 10, .inl (dT 0, 8, .inl (gm 10)))] sz) U)) (va_Qi (fun (r : Int32) (_u : Unit) => r = 0) (fun (_u : Unit) t => ∃ (fs2 : List Value), fs2[25]? = some (.int 0) ∧ va_P D vwCl [(h, .inr (13, fs2))] t.heap ∧ va_K D vwCl (tysW dT) t ∧ va_D (va_A [(h, .inr (13, fs)), (tm 10, .inl (dT 0, 8, .inl (gm 10)))] sz) [(h, .inr (13, fs2))]) (va_A [(h, .inr (13, fs)), (tm 10, .inl (dT 0, 8, .inl (gm 10)))] sz)) 0 0 (va_A [(h, .inr (13, fs)), (tm 10, .inl (dT 0, 8, .inl (gm 10)))] sz) := by
  refine Met.ofW (cc := cX12_unit) (maxL := 1) (ret := (some .int)) (by decide) rfl ?_
  intro p e s m args below meth c s₁ B hml hv
  obtain ⟨rfl, hsz, hP, hK, hD0, hE⟩ := hv
  have hx := B.exec
  have hb := B.bytes
  have hr := B.returns
  have hts := atoms_spec (ws := wK_X12_unit) B.pre
  have hown : s.vm.findClass RX12 = some m.cls := findClass_of_methodNamed B.named
  have hlocks := B.notSynchronized
  subst hsz
  have hD := hD0.self (sz := s.heap.size)
  generalize hAe : va_A [(h, .inr (13, fs)), (tm 10, .inl (dT 0, 8, .inl (gm 10)))] s.heap.size = A at hD hE ⊢
  have hA : ∀ q : Nat, s.heap.size ≤ q → A q := fun q h => by rw [← hAe]; exact Or.inr h
  have hS : va_S A s.heap s.heap [] := va_S.rf
  have hP : va_P D vwCl [(h, .inr (13, fs)), (tm 10, .inl (dT 0, 8, .inl (gm 10)))] s.heap := hP
  have hl := lv_entry ([.ref h]) (n := 1) (Nat.le_of_ble_eq_true rfl)
  rw [lg_entry_eq]
  generalize (lg_sl ([.ref h]) ++ List.replicate (1 - (lg_sl ([.ref h])).length) Slot.unset).toArray = ls at hl ⊢
  have hl : lv_has ls 1 [(0, .ref h)] := hl
  refine lv_aload_n hx hb dX12_unit_0 rfl (lv_at hl 0 rfl) ?_
  refine lv_aload_n hx hb dX12_unit_1 rfl (lv_at hl 0 rfl) ?_
  refine va_get (D := D) (ci := 13) (v := .int 0) (C := RX12) (T := TX12) (N := 109) hx hb hts wc_X12_unit_X12 hown hK hP 0 rfl rfl 12 (by decide) (hts (.fieldLink RX12 285 "MixinUnitsModel" "units" "I") (wd_X12_unit _ (List.mem_of_getElem? (i := 0) rfl))) (fun _ h9 => h9) (FM.at hF (j := 2) (q := (12, .int 0)) rfl) dX12_unit_2 ?_
  refine lv_bipush (v := 8) hx hb dX12_unit_5 (by decide) ?_
  refine lv_icmp_ge (tgt := 14) hx hb dX12_unit_7 (by decide) (fun c_1 => absurd c_1 (by decide)) (fun _ => ?_)
  refine lv_iconst (v := 1) hx hb dX12_unit_10 (by decide) ?_
  refine lv_goto (tgt := 15) hx hb dX12_unit_11 (by decide) ?_
  refine lv_iconst (v := 1) hx hb dX12_unit_15 (by decide) ?_
  refine lv_iconst (v := 1) hx hb dX12_unit_16 (by decide) ?_
  have hPc := hP.sub (ws' := [(h, .inr (13, fs))]) [0] rfl
  have hDc := hD.sub (ws' := [(h, .inr (13, fs))]) [0] (by decide) rfl
  have hFc := va_free (wc := [(h, .inr (13, fs))]) hD hS hA [0] rfl
  refine va_calli (va_runV (As := [.int 1, .int 1, .int 1]) (rest := []) ⟨hx, hb, hml, hown, hts⟩ (c_X12_goes_ok l D dT s.heap.size h fs (FM.len hF)) (cwV 3 hts (goodIn_app (goodIn_r _ [2, 3, 4, 5] rfl (by decide +kernel)) (goodIn_sub wq_X12_unit_X12_goes_ok gd_X12_goes_ok)) rfl rfl rfl (by decide +kernel) ⟨Nat.le_of_ble_eq_true rfl, Nat.le_of_ble_eq_true rfl⟩) ⟨(fun a U g mk q => by obtain ⟨z0, z1, zP, zK, zD, zE⟩ := q; exact ⟨z0, z1, zP, va_K.moved (u := U) (U := U.calling g mk a) (Vm.Alike.refl U.vm) zK, zD, EN.frame zE⟩), va_recv hK hP (ci := 13) (q0 := 0) rfl rfl, fun U hU hW => ⟨rfl, by rw [hU], by rw [hU]; exact hPc, va_K.moved hW.alike hK, hDc.weaken (fun _ _ _ _ => trivial), EN.call hE hS hFc hW hU⟩⟩ rfl rfl hl.1 rfl (lv_room (Nat.le_of_ble_eq_true rfl)) dX12_unit_17 ⟨(Nat.le_of_ble_eq_true rfl), (Nat.le_of_ble_eq_true rfl)⟩) hS (fun q _ h => hFc q h) hFc (fun r_2 u_3 t H1 locs ht hvm hw hB hz1 hk1 hS => ?_)
  obtain ⟨-, hP1, hK1, hD1⟩ := hB
  rw [ht] at hP1
  obtain ⟨hP, hD⟩ := va_join (wr := [(tm 10, .inl (dT 0, 8, .inl (gm 10)))]) (w1 := [(h, .inr (13, (List.set fs 25 (.int 0))))]) hP hD [0] [1] rfl rfl (by decide) (by decide) hk1 hFc hP1 hD1
  generalize H1 = H at hP hS ⊢
  have hP : va_P D vwCl [(tm 10, .inl (dT 0, 8, .inl (gm 10))), (h, .inr (13, (List.set fs 25 (.int 0))))] H := hP
  have hD : va_D A [(tm 10, .inl (dT 0, 8, .inl (gm 10))), (h, .inr (13, (List.set fs 25 (.int 0))))] := hD
  refine W.widen (k := 0) (n := 0) (Nat.le_of_ble_eq_true rfl) (Nat.le_of_ble_eq_true rfl) ?_
  have hw_4 := hw
  try dsimp only at hw_4
  obtain rfl : r_2 = 1 := hw_4
  refine lv_if_ne (tgt := 25) hx hb dX12_unit_20 (by decide) (fun _ => ?_) (fun c_5 => absurd c_5 (by decide))
  refine lv_aload_n hx hb dX12_unit_25 rfl (lv_at hl 0 rfl) ?_
  refine va_get (D := D) (ci := 13) (v := .ref (tm 10)) (C := RX12) (T := TX12) (N := 109) hx hb hts wc_X12_unit_X12 hown hK hP 1 rfl rfl 13 (by decide) (hts (.fieldLink RX12 40 "MixinUnitsModel" "versions" "[I") (wd_X12_unit _ (List.mem_of_getElem? (i := 5) rfl))) (fun _ h9 => h9) (ls_ne (by decide) (FM.at hF (j := 18) (q := (13, .ref (tm 10))) rfl)) dX12_unit_26 ?_
  refine lv_aload_n hx hb dX12_unit_29 rfl (lv_at hl 0 rfl) ?_
  refine va_get (D := D) (ci := 13) (v := .int 0) (C := RX12) (T := TX12) (N := 109) hx hb hts wc_X12_unit_X12 hown hK hP 1 rfl rfl 12 (by decide) (hts (.fieldLink RX12 285 "MixinUnitsModel" "units" "I") (wd_X12_unit _ (List.mem_of_getElem? (i := 0) rfl))) (fun _ h9 => h9) (ls_ne (by decide) (FM.at hF (j := 2) (q := (12, .int 0)) rfl)) dX12_unit_30 ?_
  refine lv_iconst (v := 1) hx hb dX12_unit_33 (by decide) ?_
  refine va_iast hx hb hK hP hD hS 0 0 rfl rfl (vp_in_lit (by decide) (by decide)) dX12_unit_34 (fun H locs hP hD hS => ?_)
  have hP : va_P D vwCl [(tm 10, .inl (dT 0, 8, .inl (upd (gm 10) (Int32.toNatClampNeg 0) 1))), (h, .inr (13, (List.set fs 25 (.int 0))))] H := hP
  have hD : va_D A [(tm 10, .inl (dT 0, 8, .inl (upd (gm 10) (Int32.toNatClampNeg 0) 1))), (h, .inr (13, (List.set fs 25 (.int 0))))] := hD
  obtain ⟨f_6, hf_6⟩ : ∃ g9 : Nat → Int32, g9 = upd (gm 10) (Int32.toNatClampNeg 0) 1 := ⟨_, rfl⟩
  rw [← hf_6] at hP hD
  clear hf_6
  refine lv_aload_n hx hb dX12_unit_35 rfl (lv_at hl 0 rfl) ?_
  refine lv_dup hx hb dX12_unit_36 rfl ?_
  refine va_get (D := D) (ci := 13) (v := .int 0) (C := RX12) (T := TX12) (N := 109) hx hb hts wc_X12_unit_X12 hown hK hP 1 rfl rfl 12 (by decide) (hts (.fieldLink RX12 285 "MixinUnitsModel" "units" "I") (wd_X12_unit _ (List.mem_of_getElem? (i := 0) rfl))) (fun _ h9 => h9) (ls_ne (by decide) (FM.at hF (j := 2) (q := (12, .int 0)) rfl)) dX12_unit_37 ?_
  refine lv_iconst (v := 1) hx hb dX12_unit_40 (by decide) ?_
  refine lv_iadd hx hb dX12_unit_41 ?_
  refine lv_topi (fun x_7 ex_7 => ?_)
  obtain rfl : x_7 = 1 := ex_7.trans (by decide)
  refine va_put (D := D) (ci := 13) (v := .int 1) (ty := .int) (C := RX12) (T := TX12) (N := 109) hx hb hts wc_X12_unit_X12 tyX12 tyX12_ok nmX12 hown hK hP hD hS 1 rfl rfl 12 (by decide) (hts (.fieldLink RX12 285 "MixinUnitsModel" "units" "I") (wd_X12_unit _ (List.mem_of_getElem? (i := 0) rfl))) (fun _ h9 => h9) rfl (by decide +kernel) rfl rfl (ls_lt (ls_len (FM.len hF)) (Nat.le_of_ble_eq_true rfl)) dX12_unit_42 (fun H locs hP hD hS => ?_)
  have hP : va_P D vwCl [(tm 10, .inl (dT 0, 8, .inl f_6)), (h, .inr (13, (List.set (List.set fs 25 (.int 0)) 12 (.int 1))))] H := hP
  have hD : va_D A [(tm 10, .inl (dT 0, 8, .inl f_6)), (h, .inr (13, (List.set (List.set fs 25 (.int 0)) 12 (.int 1))))] := hD
  refine lv_aload_n hx hb dX12_unit_45 rfl (lv_at hl 0 rfl) ?_
  refine va_get (D := D) (ci := 13) (v := .int 1) (C := RX12) (T := TX12) (N := 109) hx hb hts wc_X12_unit_X12 hown hK hP 1 rfl rfl 12 (by decide) (hts (.fieldLink RX12 285 "MixinUnitsModel" "units" "I") (wd_X12_unit _ (List.mem_of_getElem? (i := 0) rfl))) (fun _ h9 => h9) (ls_self (ls_len (FM.len hF)) (Nat.le_of_ble_eq_true rfl)) dX12_unit_46 ?_
  refine lv_iconst (v := 1) hx hb dX12_unit_49 (by decide) ?_
  refine lv_isub hx hb dX12_unit_50 ?_
  refine lv_topi (fun x_8 ex_8 => ?_)
  obtain rfl : x_8 = 0 := ex_8.trans (by decide)
  have hP9 := hP.sub (ws' := [(h, .inr (13, (List.set (List.set fs 25 (.int 0)) 12 (.int 1))))]) [1] rfl
  have hD9 := hD.sub (ws' := [(h, .inr (13, (List.set (List.set fs 25 (.int 0)) 12 (.int 1))))]) [1] (by decide) rfl
  exact W.iret (v := 0) hx hb hr (fun t ht hW => ⟨⟨_, (), rfl, rfl, (List.set (List.set fs 25 (.int 0)) 12 (.int 1)), (ls_ne (by decide) (ls_self (FM.len hF) (Nat.le_of_ble_eq_true rfl))), by rw [ht]; exact hP9, va_K.moved hW.alike hK, hD9⟩, hS.F ht⟩) hS.2.2 dX12_unit_51

def wD_X12_version : List Cond := [.methodLink RX12 320 yX12_isUnit, .instanceMethod yX12_isUnit, .selects RX12 yX12_isUnit yX12_isUnit, .initialized RX12, .methodLink RX12 298 yX12_goes, .instanceMethod yX12_goes, .selects RX12 yX12_goes yX12_goes]
def wK_X12_version : List Cond := .code yX12_version cX12_version 5 (some .int) :: (wD_X12_version ++ (wK_X12_isUnit ++ (wK_X12_goes_f ++ ([] : List Cond))))
theorem wd_X12_version : ∀ w ∈ wD_X12_version, w ∈ wK_X12_version := fun w h => List.mem_cons_of_mem _ (List.mem_append_left _ h)
theorem gd_X12_version : (wK_X12_version).all goodWord = true := by decide +kernel
theorem wq_X12_version_X12_isUnit : ∀ w ∈ wK_X12_isUnit, w ∈ wK_X12_version := fun w h => List.mem_cons_of_mem _ (List.mem_append_right _ (List.mem_append_left _ h))
theorem wq_X12_version_X12_goes_f : ∀ w ∈ wK_X12_goes_f, w ∈ wK_X12_version := fun w h => List.mem_cons_of_mem _ (List.mem_append_right _ (List.mem_append_right _ (List.mem_append_left _ h)))
set_option maxHeartbeats 4000000 in
set_option maxRecDepth 100000 in
/-- version on a fresh reference -/
theorem c_X12_version (l : Launch) (D : va_G) (dT : Nat → ClassId) (sz : Nat) (h : Nat) (fs : List Value) (tm : Nat → Nat) (u : Int32) (hF : FM fs tm) : Met l yX12_version wK_X12_version ({ frames := 2, cells := 0, slots := 0, locals := 43 }) (va_Pc [.ref h, .int u] (fun U => U.heap.size = sz ∧ va_P D vwCl [(h, .inr (13, fs))] U.heap ∧ va_K D vwCl (tysW dT) U ∧ va_D (fun _ => True) [(h, .inr (13, fs))] ∧ EN (va_A [(h, .inr (13, fs))] sz) U)) (va_Qi (fun (r : Int32) (_u : Unit) => r = 0) (fun (_u : Unit) t => ∃ (fs2 : List Value), fs2[25]? = some (.int 1) ∧ va_P D vwCl [(h, .inr (13, fs2))] t.heap ∧ va_K D vwCl (tysW dT) t ∧ va_D (va_A [(h, .inr (13, fs))] sz) [(h, .inr (13, fs2))]) (va_A [(h, .inr (13, fs))] sz)) 0 0 (va_A [(h, .inr (13, fs))] sz) := by
  refine Met.ofW (cc := cX12_version) (maxL := 5) (ret := (some .int)) (by decide) rfl ?_
  intro p e s m args below meth c s₁ B hml hv
  obtain ⟨rfl, hsz, hP, hK, hD0, hE⟩ := hv
  have hx := B.exec
  have hb := B.bytes
  have hr := B.returns
  have hts := atoms_spec (ws := wK_X12_version) B.pre
  have hown : s.vm.findClass RX12 = some m.cls := findClass_of_methodNamed B.named
  have hlocks := B.notSynchronized
  subst hsz
  have hD := hD0.self (sz := s.heap.size)
  generalize hAe : va_A [(h, .inr (13, fs))] s.heap.size = A at hD hE ⊢
  have hA : ∀ q : Nat, s.heap.size ≤ q → A q := fun q h => by rw [← hAe]; exact Or.inr h
  have hS : va_S A s.heap s.heap [] := va_S.rf
  have hP : va_P D vwCl [(h, .inr (13, fs))] s.heap := hP
  have hl := lv_entry ([.ref h, .int u]) (n := 5) (Nat.le_of_ble_eq_true rfl)
  rw [lg_entry_eq]
  generalize (lg_sl ([.ref h, .int u]) ++ List.replicate (5 - (lg_sl ([.ref h, .int u])).length) Slot.unset).toArray = ls at hl ⊢
  have hl : lv_has ls 5 [(0, .ref h), (1, .int u)] := hl
  refine lv_aload_n hx hb dX12_version_0 rfl (lv_at hl 0 rfl) ?_
  refine lv_iload_n hx hb dX12_version_1 rfl (lv_at hl 1 rfl) ?_
  have hPc := hP.sub (ws' := [(h, .inr (13, fs))]) [0] rfl
  have hDc := hD.sub (ws' := [(h, .inr (13, fs))]) [0] (by decide) rfl
  have hFc := va_free (wc := [(h, .inr (13, fs))]) hD hS hA [0] rfl
  refine va_calli (va_runV (As := [.int u]) (rest := []) ⟨hx, hb, hml, hown, hts⟩ (c_X12_isUnit l D dT s.heap.size h fs tm u hF) (cwV 1 hts (goodIn_app (goodIn_r _ [1, 2, 3, 4] rfl (by decide +kernel)) (goodIn_sub wq_X12_version_X12_isUnit gd_X12_isUnit)) rfl rfl rfl (by decide +kernel) ⟨Nat.le_of_ble_eq_true rfl, Nat.le_of_ble_eq_true rfl⟩) ⟨(fun a U g mk q => by obtain ⟨z0, z1, zP, zK, zD, zE⟩ := q; exact ⟨z0, z1, zP, va_K.moved (u := U) (U := U.calling g mk a) (Vm.Alike.refl U.vm) zK, zD, EN.frame zE⟩), va_recv hK hP (ci := 13) (q0 := 0) rfl rfl, fun U hU hW => ⟨rfl, by rw [hU], by rw [hU]; exact hPc, va_K.moved hW.alike hK, hDc.weaken (fun _ _ _ _ => trivial), EN.call hE hS hFc hW hU⟩⟩ rfl rfl hl.1 rfl (lv_room (Nat.le_of_ble_eq_true rfl)) dX12_version_2 ⟨(Nat.le_of_ble_eq_true rfl), (Nat.le_of_ble_eq_true rfl)⟩) hS (fun q _ h => hFc q h) hFc (fun r_1 u_2 t H1 locs ht hvm hw hB hz1 hk1 hS => ?_)
  obtain ⟨-, hP1, hK1, hD1⟩ := hB
  rw [ht] at hP1
  obtain ⟨hP, hD⟩ := va_join (wr := []) (w1 := [(h, .inr (13, fs))]) hP hD [0] [] rfl rfl (by decide) (by decide) hk1 hFc hP1 hD1
  generalize H1 = H at hP hS ⊢
  have hP : va_P D vwCl [(h, .inr (13, fs))] H := hP
  have hD : va_D A [(h, .inr (13, fs))] := hD
  refine W.widen (k := 0) (n := 0) (Nat.le_of_ble_eq_true rfl) (Nat.le_of_ble_eq_true rfl) ?_
  have hw_3 := hw
  try dsimp only at hw_3
  obtain rfl : r_1 = 0 := hw_3
  refine lv_istore_n (lv' := [(2, .int 0), (0, .ref h), (1, .int u)]) hx hb dX12_version_5 rfl hl (by decide) rfl (fun ls hl => ?_)
  refine lv_aload_n hx hb dX12_version_6 rfl (lv_at hl 1 rfl) ?_
  refine lv_iload_n hx hb dX12_version_7 rfl (lv_at hl 0 rfl) ?_
  refine lv_iload_n hx hb dX12_version_8 rfl (lv_at hl 0 rfl) ?_
  refine lv_if_eq (tgt := 26) hx hb dX12_version_9 (by decide) (fun _ => ?_) (fun c_4 => absurd (by decide) c_4)
  refine lv_iconst (v := 0) hx hb dX12_version_26 (by decide) ?_
  refine lv_iconst (v := 1) hx hb dX12_version_27 (by decide) ?_
  have hPc := hP.sub (ws' := [(h, .inr (13, fs))]) [0] rfl
  have hDc := hD.sub (ws' := [(h, .inr (13, fs))]) [0] (by decide) rfl
  have hFc := va_free (wc := [(h, .inr (13, fs))]) hD hS hA [0] rfl
  refine va_calli (va_runV (As := [.int 0, .int 0, .int 1]) (rest := []) ⟨hx, hb, hml, hown, hts⟩ (c_X12_goes_f l D dT H.size h fs 0 1 (FM.len hF)) (cwV 3 hts (goodIn_app (goodIn_r _ [5, 6, 7, 4] rfl (by decide +kernel)) (goodIn_sub wq_X12_version_X12_goes_f gd_X12_goes_f)) rfl rfl rfl (by decide +kernel) ⟨Nat.le_of_ble_eq_true rfl, Nat.le_of_ble_eq_true rfl⟩) ⟨(fun a U g mk q => by obtain ⟨z0, z1, zP, zK, zD, zE⟩ := q; exact ⟨z0, z1, zP, va_K.moved (u := U) (U := U.calling g mk a) (Vm.Alike.refl U.vm) zK, zD, EN.frame zE⟩), va_recv hK hP (ci := 13) (q0 := 0) rfl rfl, fun U hU hW => ⟨rfl, by rw [hU], by rw [hU]; exact hPc, va_K.moved hW.alike hK, hDc.weaken (fun _ _ _ _ => trivial), EN.call hE hS hFc hW hU⟩⟩ rfl rfl hl.1 rfl (lv_room (Nat.le_of_ble_eq_true rfl)) dX12_version_28 ⟨(Nat.le_of_ble_eq_true rfl), (Nat.le_of_ble_eq_true rfl)⟩) hS (fun q _ h => hFc q h) hFc (fun r_5 u_6 t H1 locs ht hvm hw hB hz1 hk1 hS => ?_)
  obtain ⟨-, hP1, hK1, hD1⟩ := hB
  rw [ht] at hP1
  obtain ⟨hP, hD⟩ := va_join (wr := []) (w1 := [(h, .inr (13, (List.set fs 25 (.int 1))))]) hP hD [0] [] rfl rfl (by decide) (by decide) hk1 hFc hP1 hD1
  generalize H1 = H at hP hS ⊢
  have hP : va_P D vwCl [(h, .inr (13, (List.set fs 25 (.int 1))))] H := hP
  have hD : va_D A [(h, .inr (13, (List.set fs 25 (.int 1))))] := hD
  refine W.widen (k := 0) (n := 0) (Nat.le_of_ble_eq_true rfl) (Nat.le_of_ble_eq_true rfl) ?_
  have hw_7 := hw
  try dsimp only at hw_7
  obtain rfl : r_5 = 0 := hw_7
  refine lv_if_ne (tgt := 36) hx hb dX12_version_31 (by decide) (fun c_8 => absurd (by decide) c_8) (fun _ => ?_)
  refine lv_iconst (v := 0) hx hb dX12_version_34 (by decide) ?_
  have hP9 := hP.sub (ws' := [(h, .inr (13, (List.set fs 25 (.int 1))))]) [0] rfl
  have hD9 := hD.sub (ws' := [(h, .inr (13, (List.set fs 25 (.int 1))))]) [0] (by decide) rfl
  exact W.iret (v := 0) hx hb hr (fun t ht hW => ⟨⟨_, (), rfl, rfl, (List.set fs 25 (.int 1)), (ls_self (FM.len hF) (Nat.le_of_ble_eq_true rfl)), by rw [ht]; exact hP9, va_K.moved hW.alike hK, hD9⟩, hS.F ht⟩) hS.2.2 dX12_version_35

def wD_X12_setType : List Cond := [.methodLink RX12 320 yX12_isUnit, .instanceMethod yX12_isUnit, .selects RX12 yX12_isUnit yX12_isUnit, .initialized RX12, .methodLink RX12 291 yX12_isName, .static yX12_isName, .methodLink RX12 298 yX12_goes, .instanceMethod yX12_goes, .selects RX12 yX12_goes yX12_goes]
def wK_X12_setType : List Cond := .code yX12_setType cX12_setType 4 none :: (wD_X12_setType ++ (wK_X12_isUnit ++ (wK_X12_isName ++ (wK_X12_goes_f ++ ([] : List Cond)))))
theorem wd_X12_setType : ∀ w ∈ wD_X12_setType, w ∈ wK_X12_setType := fun w h => List.mem_cons_of_mem _ (List.mem_append_left _ h)
theorem gd_X12_setType : (wK_X12_setType).all goodWord = true := by decide +kernel
theorem wq_X12_setType_X12_isUnit : ∀ w ∈ wK_X12_isUnit, w ∈ wK_X12_setType := fun w h => List.mem_cons_of_mem _ (List.mem_append_right _ (List.mem_append_left _ h))
theorem wq_X12_setType_X12_isName : ∀ w ∈ wK_X12_isName, w ∈ wK_X12_setType := fun w h => List.mem_cons_of_mem _ (List.mem_append_right _ (List.mem_append_right _ (List.mem_append_left _ h)))
theorem wq_X12_setType_X12_goes_f : ∀ w ∈ wK_X12_goes_f, w ∈ wK_X12_setType := fun w h => List.mem_cons_of_mem _ (List.mem_append_right _ (List.mem_append_right _ (List.mem_append_right _ (List.mem_append_left _ h))))
set_option maxHeartbeats 4000000 in
set_option maxRecDepth 100000 in
/-- setType on a fresh reference -/
theorem c_X12_setType (l : Launch) (D : va_G) (dT : Nat → ClassId) (sz : Nat) (h : Nat) (fs : List Value) (tm : Nat → Nat) (u : Int32) (n : Int32) (y : Int32) (hF : FM fs tm) : Met l yX12_setType wK_X12_setType ({ frames := 2, cells := 0, slots := 0, locals := 43 }) (va_Pc [.ref h, .int u, .int n, .int y] (fun U => U.heap.size = sz ∧ va_P D vwCl [(h, .inr (13, fs))] U.heap ∧ va_K D vwCl (tysW dT) U ∧ va_D (fun _ => True) [(h, .inr (13, fs))] ∧ EN (va_A [(h, .inr (13, fs))] sz) U)) (va_Qv (fun (_u : Unit) => True) (fun (_u : Unit) t => ∃ (fs2 : List Value), fs2[25]? = some (.int 1) ∧ va_P D vwCl [(h, .inr (13, fs2))] t.heap ∧ va_K D vwCl (tysW dT) t ∧ va_D (va_A [(h, .inr (13, fs))] sz) [(h, .inr (13, fs2))]) (va_A [(h, .inr (13, fs))] sz)) 0 0 (va_A [(h, .inr (13, fs))] sz) := by
  refine Met.ofW (cc := cX12_setType) (maxL := 4) (ret := none) (by decide) rfl ?_
  intro p e s m args below meth c s₁ B hml hv
  obtain ⟨rfl, hsz, hP, hK, hD0, hE⟩ := hv
  have hx := B.exec
  have hb := B.bytes
  have hr := B.returns
  have hts := atoms_spec (ws := wK_X12_setType) B.pre
  have hown : s.vm.findClass RX12 = some m.cls := findClass_of_methodNamed B.named
  have hlocks := B.notSynchronized
  subst hsz
  have hD := hD0.self (sz := s.heap.size)
  generalize hAe : va_A [(h, .inr (13, fs))] s.heap.size = A at hD hE ⊢
  have hA : ∀ q : Nat, s.heap.size ≤ q → A q := fun q h => by rw [← hAe]; exact Or.inr h
  have hS : va_S A s.heap s.heap [] := va_S.rf
  have hP : va_P D vwCl [(h, .inr (13, fs))] s.heap := hP
  have hl := lv_entry ([.ref h, .int u, .int n, .int y]) (n := 4) (Nat.le_of_ble_eq_true rfl)
  rw [lg_entry_eq]
  generalize (lg_sl ([.ref h, .int u, .int n, .int y]) ++ List.replicate (4 - (lg_sl ([.ref h, .int u, .int n, .int y])).length) Slot.unset).toArray = ls at hl ⊢
  have hl : lv_has ls 4 [(0, .ref h), (1, .int u), (2, .int n), (3, .int y)] := hl
  refine lv_aload_n hx hb dX12_setType_0 rfl (lv_at hl 0 rfl) ?_
  refine lv_aload_n hx hb dX12_setType_1 rfl (lv_at hl 0 rfl) ?_
  refine lv_iload_n hx hb dX12_setType_2 rfl (lv_at hl 1 rfl) ?_
  have hPc := hP.sub (ws' := [(h, .inr (13, fs))]) [0] rfl
  have hDc := hD.sub (ws' := [(h, .inr (13, fs))]) [0] (by decide) rfl
  have hFc := va_free (wc := [(h, .inr (13, fs))]) hD hS hA [0] rfl
  refine va_calli (va_runV (As := [.int u]) (rest := [.ref h]) ⟨hx, hb, hml, hown, hts⟩ (c_X12_isUnit l D dT s.heap.size h fs tm u hF) (cwV 1 hts (goodIn_app (goodIn_r _ [1, 2, 3, 4] rfl (by decide +kernel)) (goodIn_sub wq_X12_setType_X12_isUnit gd_X12_isUnit)) rfl rfl rfl (by decide +kernel) ⟨Nat.le_of_ble_eq_true rfl, Nat.le_of_ble_eq_true rfl⟩) ⟨(fun a U g mk q => by obtain ⟨z0, z1, zP, zK, zD, zE⟩ := q; exact ⟨z0, z1, zP, va_K.moved (u := U) (U := U.calling g mk a) (Vm.Alike.refl U.vm) zK, zD, EN.frame zE⟩), va_recv hK hP (ci := 13) (q0 := 0) rfl rfl, fun U hU hW => ⟨rfl, by rw [hU], by rw [hU]; exact hPc, va_K.moved hW.alike hK, hDc.weaken (fun _ _ _ _ => trivial), EN.call hE hS hFc hW hU⟩⟩ rfl rfl hl.1 rfl (lv_room (Nat.le_of_ble_eq_true rfl)) dX12_setType_3 ⟨(Nat.le_of_ble_eq_true rfl), (Nat.le_of_ble_eq_true rfl)⟩) hS (fun q _ h => hFc q h) hFc (fun r_1 u_2 t H1 locs ht hvm hw hB hz1 hk1 hS => ?_)
  obtain ⟨-, hP1, hK1, hD1⟩ := hB
  rw [ht] at hP1
  obtain ⟨hP, hD⟩ := va_join (wr := []) (w1 := [(h, .inr (13, fs))]) hP hD [0] [] rfl rfl (by decide) (by decide) hk1 hFc hP1 hD1
  generalize H1 = H at hP hS ⊢
  have hP : va_P D vwCl [(h, .inr (13, fs))] H := hP
  have hD : va_D A [(h, .inr (13, fs))] := hD
  refine W.widen (k := 0) (n := 0) (Nat.le_of_ble_eq_true rfl) (Nat.le_of_ble_eq_true rfl) ?_
  have hw_3 := hw
  try dsimp only at hw_3
  obtain rfl : r_1 = 0 := hw_3
  refine lv_if_eq (tgt := 32) hx hb dX12_setType_6 (by decide) (fun _ => ?_) (fun c_4 => absurd (by decide) c_4)
  refine lv_iconst (v := 0) hx hb dX12_setType_32 (by decide) ?_
  refine lv_iload_n hx hb dX12_setType_33 rfl (lv_at hl 2 rfl) ?_
  have hPc := hP.sub (ws' := []) [] rfl
  have hDc := hD.sub (ws' := []) [] (by decide) rfl
  have hFc := va_free (wc := []) hD hS hA [] rfl
  refine va_calli (va_runS (As := [.int n]) (rest := [.int 0, .ref h]) ⟨hx, hb, hml, hown, hts⟩ (c_X12_isName l D dT H.size n) (va_cwS 1 hts (goodIn_app (goodIn_r _ [5, 6, 4] rfl (by decide +kernel)) (goodIn_sub wq_X12_setType_X12_isName gd_X12_isName)) rfl rfl rfl (by decide +kernel) ⟨Nat.le_of_ble_eq_true rfl, Nat.le_of_ble_eq_true rfl⟩) ⟨(fun a U g mk q => by obtain ⟨z0, z1, zP, zK, zD, zE⟩ := q; exact ⟨z0, z1, zP, va_K.moved (u := U) (U := U.calling g mk a) (Vm.Alike.refl U.vm) zK, zD, EN.frame zE⟩), fun U hU hW => ⟨rfl, by rw [hU], by rw [hU]; exact hPc, va_K.moved hW.alike hK, hDc.weaken (fun _ _ _ _ => trivial), EN.call hE hS hFc hW hU⟩⟩ rfl rfl hl.1 rfl (lv_room (Nat.le_of_ble_eq_true rfl)) dX12_setType_34 ⟨(Nat.le_of_ble_eq_true rfl), (Nat.le_of_ble_eq_true rfl)⟩) hS (fun q _ h => hFc q h) hFc (fun r_5 u_6 t H1 locs ht hvm hw hB hz1 hk1 hS => ?_)
  obtain ⟨-, hP1, hK1, hD1⟩ := hB
  rw [ht] at hP1
  obtain ⟨hP, hD⟩ := va_join (wr := [(h, .inr (13, fs))]) (w1 := []) hP hD [] [0] rfl rfl (by decide) (by decide) hk1 hFc hP1 hD1
  generalize H1 = H at hP hS ⊢
  have hP : va_P D vwCl [(h, .inr (13, fs))] H := hP
  have hD : va_D A [(h, .inr (13, fs))] := hD
  refine W.widen (k := 0) (n := 0) (Nat.le_of_ble_eq_true rfl) (Nat.le_of_ble_eq_true rfl) ?_
  have hw_7 := hw
  try dsimp only at hw_7
  rcases hw_7 with ⟨hc_8, rfl⟩ | ⟨hc_9, rfl⟩
  · refine lv_iconst (v := 1) hx hb dX12_setType_37 (by decide) ?_
    have hPc := hP.sub (ws' := [(h, .inr (13, fs))]) [0] rfl
    have hDc := hD.sub (ws' := [(h, .inr (13, fs))]) [0] (by decide) rfl
    have hFc := va_free (wc := [(h, .inr (13, fs))]) hD hS hA [0] rfl
    refine va_calli (va_runV (As := [.int 0, .int 0, .int 1]) (rest := []) ⟨hx, hb, hml, hown, hts⟩ (c_X12_goes_f l D dT H.size h fs 0 1 (FM.len hF)) (cwV 3 hts (goodIn_app (goodIn_r _ [7, 8, 9, 4] rfl (by decide +kernel)) (goodIn_sub wq_X12_setType_X12_goes_f gd_X12_goes_f)) rfl rfl rfl (by decide +kernel) ⟨Nat.le_of_ble_eq_true rfl, Nat.le_of_ble_eq_true rfl⟩) ⟨(fun a U g mk q => by obtain ⟨z0, z1, zP, zK, zD, zE⟩ := q; exact ⟨z0, z1, zP, va_K.moved (u := U) (U := U.calling g mk a) (Vm.Alike.refl U.vm) zK, zD, EN.frame zE⟩), va_recv hK hP (ci := 13) (q0 := 0) rfl rfl, fun U hU hW => ⟨rfl, by rw [hU], by rw [hU]; exact hPc, va_K.moved hW.alike hK, hDc.weaken (fun _ _ _ _ => trivial), EN.call hE hS hFc hW hU⟩⟩ rfl rfl hl.1 rfl (lv_room (Nat.le_of_ble_eq_true rfl)) dX12_setType_38 ⟨(Nat.le_of_ble_eq_true rfl), (Nat.le_of_ble_eq_true rfl)⟩) hS (fun q _ h => hFc q h) hFc (fun r_10 u_11 t H1 locs ht hvm hw hB hz1 hk1 hS => ?_)
    obtain ⟨-, hP1, hK1, hD1⟩ := hB
    rw [ht] at hP1
    obtain ⟨hP, hD⟩ := va_join (wr := []) (w1 := [(h, .inr (13, (List.set fs 25 (.int 1))))]) hP hD [0] [] rfl rfl (by decide) (by decide) hk1 hFc hP1 hD1
    generalize H1 = H at hP hS ⊢
    have hP : va_P D vwCl [(h, .inr (13, (List.set fs 25 (.int 1))))] H := hP
    have hD : va_D A [(h, .inr (13, (List.set fs 25 (.int 1))))] := hD
    refine W.widen (k := 0) (n := 0) (Nat.le_of_ble_eq_true rfl) (Nat.le_of_ble_eq_true rfl) ?_
    have hw_12 := hw
    try dsimp only at hw_12
    obtain rfl : r_10 = 0 := hw_12
    refine lv_if_eq (tgt := 60) hx hb dX12_setType_41 (by decide) (fun _ => ?_) (fun c_13 => absurd (by decide) c_13)
    have hP9 := hP.sub (ws' := [(h, .inr (13, (List.set fs 25 (.int 1))))]) [0] rfl
    have hD9 := hD.sub (ws' := [(h, .inr (13, (List.set fs 25 (.int 1))))]) [0] (by decide) rfl
    exact W.vret hx hb hr (fun t ht hW => ⟨⟨(), rfl, trivial, (List.set fs 25 (.int 1)), (ls_self (FM.len hF) (Nat.le_of_ble_eq_true rfl)), by rw [ht]; exact hP9, va_K.moved hW.alike hK, hD9⟩, hS.F ht⟩) hS.2.2 dX12_setType_60
  · refine lv_iconst (v := 1) hx hb dX12_setType_37 (by decide) ?_
    have hPc := hP.sub (ws' := [(h, .inr (13, fs))]) [0] rfl
    have hDc := hD.sub (ws' := [(h, .inr (13, fs))]) [0] (by decide) rfl
    have hFc := va_free (wc := [(h, .inr (13, fs))]) hD hS hA [0] rfl
    refine va_calli (va_runV (As := [.int 0, .int 1, .int 1]) (rest := []) ⟨hx, hb, hml, hown, hts⟩ (c_X12_goes_f l D dT H.size h fs 1 1 (FM.len hF)) (cwV 3 hts (goodIn_app (goodIn_r _ [7, 8, 9, 4] rfl (by decide +kernel)) (goodIn_sub wq_X12_setType_X12_goes_f gd_X12_goes_f)) rfl rfl rfl (by decide +kernel) ⟨Nat.le_of_ble_eq_true rfl, Nat.le_of_ble_eq_true rfl⟩) ⟨(fun a U g mk q => by obtain ⟨z0, z1, zP, zK, zD, zE⟩ := q; exact ⟨z0, z1, zP, va_K.moved (u := U) (U := U.calling g mk a) (Vm.Alike.refl U.vm) zK, zD, EN.frame zE⟩), va_recv hK hP (ci := 13) (q0 := 0) rfl rfl, fun U hU hW => ⟨rfl, by rw [hU], by rw [hU]; exact hPc, va_K.moved hW.alike hK, hDc.weaken (fun _ _ _ _ => trivial), EN.call hE hS hFc hW hU⟩⟩ rfl rfl hl.1 rfl (lv_room (Nat.le_of_ble_eq_true rfl)) dX12_setType_38 ⟨(Nat.le_of_ble_eq_true rfl), (Nat.le_of_ble_eq_true rfl)⟩) hS (fun q _ h => hFc q h) hFc (fun r_14 u_15 t H1 locs ht hvm hw hB hz1 hk1 hS => ?_)
    obtain ⟨-, hP1, hK1, hD1⟩ := hB
    rw [ht] at hP1
    obtain ⟨hP, hD⟩ := va_join (wr := []) (w1 := [(h, .inr (13, (List.set fs 25 (.int 1))))]) hP hD [0] [] rfl rfl (by decide) (by decide) hk1 hFc hP1 hD1
    generalize H1 = H at hP hS ⊢
    have hP : va_P D vwCl [(h, .inr (13, (List.set fs 25 (.int 1))))] H := hP
    have hD : va_D A [(h, .inr (13, (List.set fs 25 (.int 1))))] := hD
    refine W.widen (k := 0) (n := 0) (Nat.le_of_ble_eq_true rfl) (Nat.le_of_ble_eq_true rfl) ?_
    have hw_16 := hw
    try dsimp only at hw_16
    obtain rfl : r_14 = 0 := hw_16
    refine lv_if_eq (tgt := 60) hx hb dX12_setType_41 (by decide) (fun _ => ?_) (fun c_17 => absurd (by decide) c_17)
    have hP9 := hP.sub (ws' := [(h, .inr (13, (List.set fs 25 (.int 1))))]) [0] rfl
    have hD9 := hD.sub (ws' := [(h, .inr (13, (List.set fs 25 (.int 1))))]) [0] (by decide) rfl
    exact W.vret hx hb hr (fun t ht hW => ⟨⟨(), rfl, trivial, (List.set fs 25 (.int 1)), (ls_self (FM.len hF) (Nat.le_of_ble_eq_true rfl)), by rw [ht]; exact hP9, va_K.moved hW.alike hK, hD9⟩, hS.F ht⟩) hS.2.2 dX12_setType_60

def wD_X12_setValue : List Cond := [.methodLink RX12 320 yX12_isUnit, .instanceMethod yX12_isUnit, .selects RX12 yX12_isUnit yX12_isUnit, .initialized RX12, .methodLink RX12 302 yX12_isValue, .static yX12_isValue, .methodLink RX12 298 yX12_goes, .instanceMethod yX12_goes, .selects RX12 yX12_goes yX12_goes, .methodLink RX12 278 yX12_in, .static yX12_in]
def wK_X12_setValue : List Cond := .code yX12_setValue cX12_setValue 9 none :: (wD_X12_setValue ++ (wK_X12_isUnit ++ (wK_X12_isValue ++ (wK_X12_goes_f ++ (wK_X12_in ++ ([] : List Cond))))))
theorem wd_X12_setValue : ∀ w ∈ wD_X12_setValue, w ∈ wK_X12_setValue := fun w h => List.mem_cons_of_mem _ (List.mem_append_left _ h)
theorem gd_X12_setValue : (wK_X12_setValue).all goodWord = true := by decide +kernel
theorem wq_X12_setValue_X12_isUnit : ∀ w ∈ wK_X12_isUnit, w ∈ wK_X12_setValue := fun w h => List.mem_cons_of_mem _ (List.mem_append_right _ (List.mem_append_left _ h))
theorem wq_X12_setValue_X12_isValue : ∀ w ∈ wK_X12_isValue, w ∈ wK_X12_setValue := fun w h => List.mem_cons_of_mem _ (List.mem_append_right _ (List.mem_append_right _ (List.mem_append_left _ h)))
theorem wq_X12_setValue_X12_goes_f : ∀ w ∈ wK_X12_goes_f, w ∈ wK_X12_setValue := fun w h => List.mem_cons_of_mem _ (List.mem_append_right _ (List.mem_append_right _ (List.mem_append_right _ (List.mem_append_left _ h))))
theorem wq_X12_setValue_X12_in : ∀ w ∈ wK_X12_in, w ∈ wK_X12_setValue := fun w h => List.mem_cons_of_mem _ (List.mem_append_right _ (List.mem_append_right _ (List.mem_append_right _ (List.mem_append_right _ (List.mem_append_left _ h)))))
set_option maxHeartbeats 4000000 in
set_option maxRecDepth 100000 in
/-- setValue on a fresh reference -/
theorem c_X12_setValue (l : Launch) (D : va_G) (dT : Nat → ClassId) (sz : Nat) (h : Nat) (fs : List Value) (tm : Nat → Nat) (u : Int32) (n : Int32) (y : Int32) (ex : Int32) (fl : Int32) (hF : FM fs tm) : Met l yX12_setValue wK_X12_setValue ({ frames := 2, cells := 0, slots := 0, locals := 43 }) (va_Pc [.ref h, .int u, .int n, .int y, .int ex, .int fl] (fun U => U.heap.size = sz ∧ va_P D vwCl [(h, .inr (13, fs))] U.heap ∧ va_K D vwCl (tysW dT) U ∧ va_D (fun _ => True) [(h, .inr (13, fs))] ∧ EN (va_A [(h, .inr (13, fs))] sz) U)) (va_Qv (fun (_u : Unit) => True) (fun (_u : Unit) t => ∃ (fs2 : List Value), fs2[25]? = some (.int 1) ∧ va_P D vwCl [(h, .inr (13, fs2))] t.heap ∧ va_K D vwCl (tysW dT) t ∧ va_D (va_A [(h, .inr (13, fs))] sz) [(h, .inr (13, fs2))]) (va_A [(h, .inr (13, fs))] sz)) 0 0 (va_A [(h, .inr (13, fs))] sz) := by
  refine Met.ofW (cc := cX12_setValue) (maxL := 9) (ret := none) (by decide) rfl ?_
  intro p e s m args below meth c s₁ B hml hv
  obtain ⟨rfl, hsz, hP, hK, hD0, hE⟩ := hv
  have hx := B.exec
  have hb := B.bytes
  have hr := B.returns
  have hts := atoms_spec (ws := wK_X12_setValue) B.pre
  have hown : s.vm.findClass RX12 = some m.cls := findClass_of_methodNamed B.named
  have hlocks := B.notSynchronized
  subst hsz
  have hD := hD0.self (sz := s.heap.size)
  generalize hAe : va_A [(h, .inr (13, fs))] s.heap.size = A at hD hE ⊢
  have hA : ∀ q : Nat, s.heap.size ≤ q → A q := fun q h => by rw [← hAe]; exact Or.inr h
  have hS : va_S A s.heap s.heap [] := va_S.rf
  have hP : va_P D vwCl [(h, .inr (13, fs))] s.heap := hP
  have hl := lv_entry ([.ref h, .int u, .int n, .int y, .int ex, .int fl]) (n := 9) (Nat.le_of_ble_eq_true rfl)
  rw [lg_entry_eq]
  generalize (lg_sl ([.ref h, .int u, .int n, .int y, .int ex, .int fl]) ++ List.replicate (9 - (lg_sl ([.ref h, .int u, .int n, .int y, .int ex, .int fl])).length) Slot.unset).toArray = ls at hl ⊢
  have hl : lv_has ls 9 [(0, .ref h), (1, .int u), (2, .int n), (3, .int y), (4, .int ex), (5, .int fl)] := hl
  refine lv_aload_n hx hb dX12_setValue_0 rfl (lv_at hl 0 rfl) ?_
  refine lv_iload_n hx hb dX12_setValue_1 rfl (lv_at hl 1 rfl) ?_
  have hPc := hP.sub (ws' := [(h, .inr (13, fs))]) [0] rfl
  have hDc := hD.sub (ws' := [(h, .inr (13, fs))]) [0] (by decide) rfl
  have hFc := va_free (wc := [(h, .inr (13, fs))]) hD hS hA [0] rfl
  refine va_calli (va_runV (As := [.int u]) (rest := []) ⟨hx, hb, hml, hown, hts⟩ (c_X12_isUnit l D dT s.heap.size h fs tm u hF) (cwV 1 hts (goodIn_app (goodIn_r _ [1, 2, 3, 4] rfl (by decide +kernel)) (goodIn_sub wq_X12_setValue_X12_isUnit gd_X12_isUnit)) rfl rfl rfl (by decide +kernel) ⟨Nat.le_of_ble_eq_true rfl, Nat.le_of_ble_eq_true rfl⟩) ⟨(fun a U g mk q => by obtain ⟨z0, z1, zP, zK, zD, zE⟩ := q; exact ⟨z0, z1, zP, va_K.moved (u := U) (U := U.calling g mk a) (Vm.Alike.refl U.vm) zK, zD, EN.frame zE⟩), va_recv hK hP (ci := 13) (q0 := 0) rfl rfl, fun U hU hW => ⟨rfl, by rw [hU], by rw [hU]; exact hPc, va_K.moved hW.alike hK, hDc.weaken (fun _ _ _ _ => trivial), EN.call hE hS hFc hW hU⟩⟩ rfl rfl hl.1 rfl (lv_room (Nat.le_of_ble_eq_true rfl)) dX12_setValue_2 ⟨(Nat.le_of_ble_eq_true rfl), (Nat.le_of_ble_eq_true rfl)⟩) hS (fun q _ h => hFc q h) hFc (fun r_1 u_2 t H1 locs ht hvm hw hB hz1 hk1 hS => ?_)
  obtain ⟨-, hP1, hK1, hD1⟩ := hB
  rw [ht] at hP1
  obtain ⟨hP, hD⟩ := va_join (wr := []) (w1 := [(h, .inr (13, fs))]) hP hD [0] [] rfl rfl (by decide) (by decide) hk1 hFc hP1 hD1
  generalize H1 = H at hP hS ⊢
  have hP : va_P D vwCl [(h, .inr (13, fs))] H := hP
  have hD : va_D A [(h, .inr (13, fs))] := hD
  refine W.widen (k := 0) (n := 0) (Nat.le_of_ble_eq_true rfl) (Nat.le_of_ble_eq_true rfl) ?_
  have hw_3 := hw
  try dsimp only at hw_3
  obtain rfl : r_1 = 0 := hw_3
  refine lv_if_eq (tgt := 35) hx hb dX12_setValue_5 (by decide) (fun _ => ?_) (fun c_4 => absurd (by decide) c_4)
  refine lv_iconst (v := 0) hx hb dX12_setValue_35 (by decide) ?_
  refine lv_istore (lv' := [(6, .int 0), (0, .ref h), (1, .int u), (2, .int n), (3, .int y), (4, .int ex), (5, .int fl)]) hx hb dX12_setValue_36 hl (by decide) rfl (fun ls hl => ?_)
  refine lv_iload_n hx hb dX12_setValue_38 rfl (lv_at hl 3 rfl) ?_
  have hPc := hP.sub (ws' := []) [] rfl
  have hDc := hD.sub (ws' := []) [] (by decide) rfl
  have hFc := va_free (wc := []) hD hS hA [] rfl
  refine va_calli (va_runS (As := [.int n]) (rest := []) ⟨hx, hb, hml, hown, hts⟩ (c_X12_isValue l D dT H.size n) (va_cwS 1 hts (goodIn_app (goodIn_r _ [5, 6, 4] rfl (by decide +kernel)) (goodIn_sub wq_X12_setValue_X12_isValue gd_X12_isValue)) rfl rfl rfl (by decide +kernel) ⟨Nat.le_of_ble_eq_true rfl, Nat.le_of_ble_eq_true rfl⟩) ⟨(fun a U g mk q => by obtain ⟨z0, z1, zP, zK, zD, zE⟩ := q; exact ⟨z0, z1, zP, va_K.moved (u := U) (U := U.calling g mk a) (Vm.Alike.refl U.vm) zK, zD, EN.frame zE⟩), fun U hU hW => ⟨rfl, by rw [hU], by rw [hU]; exact hPc, va_K.moved hW.alike hK, hDc.weaken (fun _ _ _ _ => trivial), EN.call hE hS hFc hW hU⟩⟩ rfl rfl hl.1 rfl (lv_room (Nat.le_of_ble_eq_true rfl)) dX12_setValue_39 ⟨(Nat.le_of_ble_eq_true rfl), (Nat.le_of_ble_eq_true rfl)⟩) hS (fun q _ h => hFc q h) hFc (fun r_5 u_6 t H1 locs ht hvm hw hB hz1 hk1 hS => ?_)
  obtain ⟨-, hP1, hK1, hD1⟩ := hB
  rw [ht] at hP1
  obtain ⟨hP, hD⟩ := va_join (wr := [(h, .inr (13, fs))]) (w1 := []) hP hD [] [0] rfl rfl (by decide) (by decide) hk1 hFc hP1 hD1
  generalize H1 = H at hP hS ⊢
  have hP : va_P D vwCl [(h, .inr (13, fs))] H := hP
  have hD : va_D A [(h, .inr (13, fs))] := hD
  refine W.widen (k := 0) (n := 0) (Nat.le_of_ble_eq_true rfl) (Nat.le_of_ble_eq_true rfl) ?_
  have hw_7 := hw
  try dsimp only at hw_7
  rcases hw_7 with ⟨hc_8, rfl⟩ | ⟨hc_9, rfl⟩
  · refine lv_if_eq (tgt := 77) hx hb dX12_setValue_42 (by decide) (fun _ => ?_) (fun c_10 => absurd (by decide) c_10)
    refine lv_iconst (v := 0) hx hb dX12_setValue_77 (by decide) ?_
    refine lv_istore (lv' := [(7, .int 0), (6, .int 0), (0, .ref h), (1, .int u), (2, .int n), (3, .int y), (4, .int ex), (5, .int fl)]) hx hb dX12_setValue_78 hl (by decide) rfl (fun ls hl => ?_)
    refine lv_aload_n hx hb dX12_setValue_80 rfl (lv_at hl 2 rfl) ?_
    refine lv_iload hx hb dX12_setValue_81 (lv_at hl 1 rfl) ?_
    refine lv_iload hx hb dX12_setValue_83 (lv_at hl 0 rfl) ?_
    refine lv_iconst (v := 1) hx hb dX12_setValue_85 (by decide) ?_
    have hPc := hP.sub (ws' := [(h, .inr (13, fs))]) [0] rfl
    have hDc := hD.sub (ws' := [(h, .inr (13, fs))]) [0] (by decide) rfl
    have hFc := va_free (wc := [(h, .inr (13, fs))]) hD hS hA [0] rfl
    refine va_calli (va_runV (As := [.int 0, .int 0, .int 1]) (rest := []) ⟨hx, hb, hml, hown, hts⟩ (c_X12_goes_f l D dT H.size h fs 0 1 (FM.len hF)) (cwV 3 hts (goodIn_app (goodIn_r _ [7, 8, 9, 4] rfl (by decide +kernel)) (goodIn_sub wq_X12_setValue_X12_goes_f gd_X12_goes_f)) rfl rfl rfl (by decide +kernel) ⟨Nat.le_of_ble_eq_true rfl, Nat.le_of_ble_eq_true rfl⟩) ⟨(fun a U g mk q => by obtain ⟨z0, z1, zP, zK, zD, zE⟩ := q; exact ⟨z0, z1, zP, va_K.moved (u := U) (U := U.calling g mk a) (Vm.Alike.refl U.vm) zK, zD, EN.frame zE⟩), va_recv hK hP (ci := 13) (q0 := 0) rfl rfl, fun U hU hW => ⟨rfl, by rw [hU], by rw [hU]; exact hPc, va_K.moved hW.alike hK, hDc.weaken (fun _ _ _ _ => trivial), EN.call hE hS hFc hW hU⟩⟩ rfl rfl hl.1 rfl (lv_room (Nat.le_of_ble_eq_true rfl)) dX12_setValue_86 ⟨(Nat.le_of_ble_eq_true rfl), (Nat.le_of_ble_eq_true rfl)⟩) hS (fun q _ h => hFc q h) hFc (fun r_11 u_12 t H1 locs ht hvm hw hB hz1 hk1 hS => ?_)
    obtain ⟨-, hP1, hK1, hD1⟩ := hB
    rw [ht] at hP1
    obtain ⟨hP, hD⟩ := va_join (wr := []) (w1 := [(h, .inr (13, (List.set fs 25 (.int 1))))]) hP hD [0] [] rfl rfl (by decide) (by decide) hk1 hFc hP1 hD1
    generalize H1 = H at hP hS ⊢
    have hP : va_P D vwCl [(h, .inr (13, (List.set fs 25 (.int 1))))] H := hP
    have hD : va_D A [(h, .inr (13, (List.set fs 25 (.int 1))))] := hD
    refine W.widen (k := 0) (n := 0) (Nat.le_of_ble_eq_true rfl) (Nat.le_of_ble_eq_true rfl) ?_
    have hw_13 := hw
    try dsimp only at hw_13
    obtain rfl : r_11 = 0 := hw_13
    refine lv_if_eq (tgt := 130) hx hb dX12_setValue_89 (by decide) (fun _ => ?_) (fun c_14 => absurd (by decide) c_14)
    have hP9 := hP.sub (ws' := [(h, .inr (13, (List.set fs 25 (.int 1))))]) [0] rfl
    have hD9 := hD.sub (ws' := [(h, .inr (13, (List.set fs 25 (.int 1))))]) [0] (by decide) rfl
    exact W.vret hx hb hr (fun t ht hW => ⟨⟨(), rfl, trivial, (List.set fs 25 (.int 1)), (ls_self (FM.len hF) (Nat.le_of_ble_eq_true rfl)), by rw [ht]; exact hP9, va_K.moved hW.alike hK, hD9⟩, hS.F ht⟩) hS.2.2 dX12_setValue_130
  · refine lv_if_eq (tgt := 77) hx hb dX12_setValue_42 (by decide) (fun c_15 => absurd c_15 (by decide)) (fun _ => ?_)
    refine lv_iload hx hb dX12_setValue_45 (lv_at hl 6 rfl) ?_
    refine lv_iconst (v := 0) hx hb dX12_setValue_47 (by decide) ?_
    refine lv_bipush (v := 7) hx hb dX12_setValue_48 (by decide) ?_
    have hPc := hP.sub (ws' := []) [] rfl
    have hDc := hD.sub (ws' := []) [] (by decide) rfl
    have hFc := va_free (wc := []) hD hS hA [] rfl
    refine va_calli (va_runS (As := [.int fl, .int 0, .int 7]) (rest := []) ⟨hx, hb, hml, hown, hts⟩ (c_X12_in l D dT H.size fl 0 7) (va_cwS 3 hts (goodIn_app (goodIn_r _ [10, 11, 4] rfl (by decide +kernel)) (goodIn_sub wq_X12_setValue_X12_in gd_X12_in)) rfl rfl rfl (by decide +kernel) ⟨Nat.le_of_ble_eq_true rfl, Nat.le_of_ble_eq_true rfl⟩) ⟨(fun a U g mk q => by obtain ⟨z0, z1, zP, zK, zD, zE⟩ := q; exact ⟨z0, z1, zP, va_K.moved (u := U) (U := U.calling g mk a) (Vm.Alike.refl U.vm) zK, zD, EN.frame zE⟩), fun U hU hW => ⟨rfl, by rw [hU], by rw [hU]; exact hPc, va_K.moved hW.alike hK, hDc.weaken (fun _ _ _ _ => trivial), EN.call hE hS hFc hW hU⟩⟩ rfl rfl hl.1 rfl (lv_room (Nat.le_of_ble_eq_true rfl)) dX12_setValue_50 ⟨(Nat.le_of_ble_eq_true rfl), (Nat.le_of_ble_eq_true rfl)⟩) hS (fun q _ h => hFc q h) hFc (fun r_16 u_17 t H1 locs ht hvm hw hB hz1 hk1 hS => ?_)
    obtain ⟨-, hP1, hK1, hD1⟩ := hB
    rw [ht] at hP1
    obtain ⟨hP, hD⟩ := va_join (wr := [(h, .inr (13, fs))]) (w1 := []) hP hD [] [0] rfl rfl (by decide) (by decide) hk1 hFc hP1 hD1
    generalize H1 = H at hP hS ⊢
    have hP : va_P D vwCl [(h, .inr (13, fs))] H := hP
    have hD : va_D A [(h, .inr (13, fs))] := hD
    refine W.widen (k := 0) (n := 0) (Nat.le_of_ble_eq_true rfl) (Nat.le_of_ble_eq_true rfl) ?_
    have hw_18 := hw
    try dsimp only at hw_18
    rcases hw_18 with ⟨hc_19, rfl⟩ | ⟨hc_20, rfl⟩
    · refine lv_if_eq (tgt := 77) hx hb dX12_setValue_53 (by decide) (fun _ => ?_) (fun c_21 => absurd (by decide) c_21)
      refine lv_iconst (v := 0) hx hb dX12_setValue_77 (by decide) ?_
      refine lv_istore (lv' := [(7, .int 0), (6, .int 0), (0, .ref h), (1, .int u), (2, .int n), (3, .int y), (4, .int ex), (5, .int fl)]) hx hb dX12_setValue_78 hl (by decide) rfl (fun ls hl => ?_)
      refine lv_aload_n hx hb dX12_setValue_80 rfl (lv_at hl 2 rfl) ?_
      refine lv_iload hx hb dX12_setValue_81 (lv_at hl 1 rfl) ?_
      refine lv_iload hx hb dX12_setValue_83 (lv_at hl 0 rfl) ?_
      refine lv_iconst (v := 1) hx hb dX12_setValue_85 (by decide) ?_
      have hPc := hP.sub (ws' := [(h, .inr (13, fs))]) [0] rfl
      have hDc := hD.sub (ws' := [(h, .inr (13, fs))]) [0] (by decide) rfl
      have hFc := va_free (wc := [(h, .inr (13, fs))]) hD hS hA [0] rfl
      refine va_calli (va_runV (As := [.int 0, .int 0, .int 1]) (rest := []) ⟨hx, hb, hml, hown, hts⟩ (c_X12_goes_f l D dT H.size h fs 0 1 (FM.len hF)) (cwV 3 hts (goodIn_app (goodIn_r _ [7, 8, 9, 4] rfl (by decide +kernel)) (goodIn_sub wq_X12_setValue_X12_goes_f gd_X12_goes_f)) rfl rfl rfl (by decide +kernel) ⟨Nat.le_of_ble_eq_true rfl, Nat.le_of_ble_eq_true rfl⟩) ⟨(fun a U g mk q => by obtain ⟨z0, z1, zP, zK, zD, zE⟩ := q; exact ⟨z0, z1, zP, va_K.moved (u := U) (U := U.calling g mk a) (Vm.Alike.refl U.vm) zK, zD, EN.frame zE⟩), va_recv hK hP (ci := 13) (q0 := 0) rfl rfl, fun U hU hW => ⟨rfl, by rw [hU], by rw [hU]; exact hPc, va_K.moved hW.alike hK, hDc.weaken (fun _ _ _ _ => trivial), EN.call hE hS hFc hW hU⟩⟩ rfl rfl hl.1 rfl (lv_room (Nat.le_of_ble_eq_true rfl)) dX12_setValue_86 ⟨(Nat.le_of_ble_eq_true rfl), (Nat.le_of_ble_eq_true rfl)⟩) hS (fun q _ h => hFc q h) hFc (fun r_22 u_23 t H1 locs ht hvm hw hB hz1 hk1 hS => ?_)
      obtain ⟨-, hP1, hK1, hD1⟩ := hB
      rw [ht] at hP1
      obtain ⟨hP, hD⟩ := va_join (wr := []) (w1 := [(h, .inr (13, (List.set fs 25 (.int 1))))]) hP hD [0] [] rfl rfl (by decide) (by decide) hk1 hFc hP1 hD1
      generalize H1 = H at hP hS ⊢
      have hP : va_P D vwCl [(h, .inr (13, (List.set fs 25 (.int 1))))] H := hP
      have hD : va_D A [(h, .inr (13, (List.set fs 25 (.int 1))))] := hD
      refine W.widen (k := 0) (n := 0) (Nat.le_of_ble_eq_true rfl) (Nat.le_of_ble_eq_true rfl) ?_
      have hw_24 := hw
      try dsimp only at hw_24
      obtain rfl : r_22 = 0 := hw_24
      refine lv_if_eq (tgt := 130) hx hb dX12_setValue_89 (by decide) (fun _ => ?_) (fun c_25 => absurd (by decide) c_25)
      have hP9 := hP.sub (ws' := [(h, .inr (13, (List.set fs 25 (.int 1))))]) [0] rfl
      have hD9 := hD.sub (ws' := [(h, .inr (13, (List.set fs 25 (.int 1))))]) [0] (by decide) rfl
      exact W.vret hx hb hr (fun t ht hW => ⟨⟨(), rfl, trivial, (List.set fs 25 (.int 1)), (ls_self (FM.len hF) (Nat.le_of_ble_eq_true rfl)), by rw [ht]; exact hP9, va_K.moved hW.alike hK, hD9⟩, hS.F ht⟩) hS.2.2 dX12_setValue_130
    · refine lv_if_eq (tgt := 77) hx hb dX12_setValue_53 (by decide) (fun c_26 => absurd c_26 (by decide)) (fun _ => ?_)
      refine lv_iload hx hb dX12_setValue_56 (lv_at hl 5 rfl) ?_
      refine lv_iconst (v := (-1)) hx hb dX12_setValue_58 (by decide) ?_
      refine lv_icmp_ne (tgt := 73) hx hb dX12_setValue_59 (by decide) (fun c_27 => ?_) (fun c_27 => ?_)
      · refine lv_iconst (v := 1) hx hb dX12_setValue_73 (by decide) ?_
        refine lv_goto (tgt := 78) hx hb dX12_setValue_74 (by decide) ?_
        refine lv_istore (lv' := [(7, .int 1), (6, .int 0), (0, .ref h), (1, .int u), (2, .int n), (3, .int y), (4, .int ex), (5, .int fl)]) hx hb dX12_setValue_78 hl (by decide) rfl (fun ls hl => ?_)
        refine lv_aload_n hx hb dX12_setValue_80 rfl (lv_at hl 2 rfl) ?_
        refine lv_iload hx hb dX12_setValue_81 (lv_at hl 1 rfl) ?_
        refine lv_iload hx hb dX12_setValue_83 (lv_at hl 0 rfl) ?_
        refine lv_iconst (v := 1) hx hb dX12_setValue_85 (by decide) ?_
        have hPc := hP.sub (ws' := [(h, .inr (13, fs))]) [0] rfl
        have hDc := hD.sub (ws' := [(h, .inr (13, fs))]) [0] (by decide) rfl
        have hFc := va_free (wc := [(h, .inr (13, fs))]) hD hS hA [0] rfl
        refine va_calli (va_runV (As := [.int 0, .int 1, .int 1]) (rest := []) ⟨hx, hb, hml, hown, hts⟩ (c_X12_goes_f l D dT H.size h fs 1 1 (FM.len hF)) (cwV 3 hts (goodIn_app (goodIn_r _ [7, 8, 9, 4] rfl (by decide +kernel)) (goodIn_sub wq_X12_setValue_X12_goes_f gd_X12_goes_f)) rfl rfl rfl (by decide +kernel) ⟨Nat.le_of_ble_eq_true rfl, Nat.le_of_ble_eq_true rfl⟩) ⟨(fun a U g mk q => by obtain ⟨z0, z1, zP, zK, zD, zE⟩ := q; exact ⟨z0, z1, zP, va_K.moved (u := U) (U := U.calling g mk a) (Vm.Alike.refl U.vm) zK, zD, EN.frame zE⟩), va_recv hK hP (ci := 13) (q0 := 0) rfl rfl, fun U hU hW => ⟨rfl, by rw [hU], by rw [hU]; exact hPc, va_K.moved hW.alike hK, hDc.weaken (fun _ _ _ _ => trivial), EN.call hE hS hFc hW hU⟩⟩ rfl rfl hl.1 rfl (lv_room (Nat.le_of_ble_eq_true rfl)) dX12_setValue_86 ⟨(Nat.le_of_ble_eq_true rfl), (Nat.le_of_ble_eq_true rfl)⟩) hS (fun q _ h => hFc q h) hFc (fun r_28 u_29 t H1 locs ht hvm hw hB hz1 hk1 hS => ?_)
        obtain ⟨-, hP1, hK1, hD1⟩ := hB
        rw [ht] at hP1
        obtain ⟨hP, hD⟩ := va_join (wr := []) (w1 := [(h, .inr (13, (List.set fs 25 (.int 1))))]) hP hD [0] [] rfl rfl (by decide) (by decide) hk1 hFc hP1 hD1
        generalize H1 = H at hP hS ⊢
        have hP : va_P D vwCl [(h, .inr (13, (List.set fs 25 (.int 1))))] H := hP
        have hD : va_D A [(h, .inr (13, (List.set fs 25 (.int 1))))] := hD
        refine W.widen (k := 0) (n := 0) (Nat.le_of_ble_eq_true rfl) (Nat.le_of_ble_eq_true rfl) ?_
        have hw_30 := hw
        try dsimp only at hw_30
        obtain rfl : r_28 = 0 := hw_30
        refine lv_if_eq (tgt := 130) hx hb dX12_setValue_89 (by decide) (fun _ => ?_) (fun c_31 => absurd (by decide) c_31)
        have hP9 := hP.sub (ws' := [(h, .inr (13, (List.set fs 25 (.int 1))))]) [0] rfl
        have hD9 := hD.sub (ws' := [(h, .inr (13, (List.set fs 25 (.int 1))))]) [0] (by decide) rfl
        exact W.vret hx hb hr (fun t ht hW => ⟨⟨(), rfl, trivial, (List.set fs 25 (.int 1)), (ls_self (FM.len hF) (Nat.le_of_ble_eq_true rfl)), by rw [ht]; exact hP9, va_K.moved hW.alike hK, hD9⟩, hS.F ht⟩) hS.2.2 dX12_setValue_130
      · refine lv_iload hx hb dX12_setValue_62 (lv_at hl 6 rfl) ?_
        refine lv_if_eq (tgt := 73) hx hb dX12_setValue_64 (by decide) (fun c_32 => ?_) (fun c_32 => ?_)
        · refine lv_iconst (v := 1) hx hb dX12_setValue_73 (by decide) ?_
          refine lv_goto (tgt := 78) hx hb dX12_setValue_74 (by decide) ?_
          refine lv_istore (lv' := [(7, .int 1), (6, .int 0), (0, .ref h), (1, .int u), (2, .int n), (3, .int y), (4, .int ex), (5, .int fl)]) hx hb dX12_setValue_78 hl (by decide) rfl (fun ls hl => ?_)
          refine lv_aload_n hx hb dX12_setValue_80 rfl (lv_at hl 2 rfl) ?_
          refine lv_iload hx hb dX12_setValue_81 (lv_at hl 1 rfl) ?_
          refine lv_iload hx hb dX12_setValue_83 (lv_at hl 0 rfl) ?_
          refine lv_iconst (v := 1) hx hb dX12_setValue_85 (by decide) ?_
          have hPc := hP.sub (ws' := [(h, .inr (13, fs))]) [0] rfl
          have hDc := hD.sub (ws' := [(h, .inr (13, fs))]) [0] (by decide) rfl
          have hFc := va_free (wc := [(h, .inr (13, fs))]) hD hS hA [0] rfl
          refine va_calli (va_runV (As := [.int 0, .int 1, .int 1]) (rest := []) ⟨hx, hb, hml, hown, hts⟩ (c_X12_goes_f l D dT H.size h fs 1 1 (FM.len hF)) (cwV 3 hts (goodIn_app (goodIn_r _ [7, 8, 9, 4] rfl (by decide +kernel)) (goodIn_sub wq_X12_setValue_X12_goes_f gd_X12_goes_f)) rfl rfl rfl (by decide +kernel) ⟨Nat.le_of_ble_eq_true rfl, Nat.le_of_ble_eq_true rfl⟩) ⟨(fun a U g mk q => by obtain ⟨z0, z1, zP, zK, zD, zE⟩ := q; exact ⟨z0, z1, zP, va_K.moved (u := U) (U := U.calling g mk a) (Vm.Alike.refl U.vm) zK, zD, EN.frame zE⟩), va_recv hK hP (ci := 13) (q0 := 0) rfl rfl, fun U hU hW => ⟨rfl, by rw [hU], by rw [hU]; exact hPc, va_K.moved hW.alike hK, hDc.weaken (fun _ _ _ _ => trivial), EN.call hE hS hFc hW hU⟩⟩ rfl rfl hl.1 rfl (lv_room (Nat.le_of_ble_eq_true rfl)) dX12_setValue_86 ⟨(Nat.le_of_ble_eq_true rfl), (Nat.le_of_ble_eq_true rfl)⟩) hS (fun q _ h => hFc q h) hFc (fun r_33 u_34 t H1 locs ht hvm hw hB hz1 hk1 hS => ?_)
          obtain ⟨-, hP1, hK1, hD1⟩ := hB
          rw [ht] at hP1
          obtain ⟨hP, hD⟩ := va_join (wr := []) (w1 := [(h, .inr (13, (List.set fs 25 (.int 1))))]) hP hD [0] [] rfl rfl (by decide) (by decide) hk1 hFc hP1 hD1
          generalize H1 = H at hP hS ⊢
          have hP : va_P D vwCl [(h, .inr (13, (List.set fs 25 (.int 1))))] H := hP
          have hD : va_D A [(h, .inr (13, (List.set fs 25 (.int 1))))] := hD
          refine W.widen (k := 0) (n := 0) (Nat.le_of_ble_eq_true rfl) (Nat.le_of_ble_eq_true rfl) ?_
          have hw_35 := hw
          try dsimp only at hw_35
          obtain rfl : r_33 = 0 := hw_35
          refine lv_if_eq (tgt := 130) hx hb dX12_setValue_89 (by decide) (fun _ => ?_) (fun c_36 => absurd (by decide) c_36)
          have hP9 := hP.sub (ws' := [(h, .inr (13, (List.set fs 25 (.int 1))))]) [0] rfl
          have hD9 := hD.sub (ws' := [(h, .inr (13, (List.set fs 25 (.int 1))))]) [0] (by decide) rfl
          exact W.vret hx hb hr (fun t ht hW => ⟨⟨(), rfl, trivial, (List.set fs 25 (.int 1)), (ls_self (FM.len hF) (Nat.le_of_ble_eq_true rfl)), by rw [ht]; exact hP9, va_K.moved hW.alike hK, hD9⟩, hS.F ht⟩) hS.2.2 dX12_setValue_130
        · refine lv_iload hx hb dX12_setValue_67 (lv_at hl 6 rfl) ?_
          refine lv_iconst (v := 4) hx hb dX12_setValue_69 (by decide) ?_
          refine lv_icmp_ne (tgt := 77) hx hb dX12_setValue_70 (by decide) (fun c_37 => ?_) (fun c_37 => ?_)
          · refine lv_iconst (v := 0) hx hb dX12_setValue_77 (by decide) ?_
            refine lv_istore (lv' := [(7, .int 0), (6, .int 0), (0, .ref h), (1, .int u), (2, .int n), (3, .int y), (4, .int ex), (5, .int fl)]) hx hb dX12_setValue_78 hl (by decide) rfl (fun ls hl => ?_)
            refine lv_aload_n hx hb dX12_setValue_80 rfl (lv_at hl 2 rfl) ?_
            refine lv_iload hx hb dX12_setValue_81 (lv_at hl 1 rfl) ?_
            refine lv_iload hx hb dX12_setValue_83 (lv_at hl 0 rfl) ?_
            refine lv_iconst (v := 1) hx hb dX12_setValue_85 (by decide) ?_
            have hPc := hP.sub (ws' := [(h, .inr (13, fs))]) [0] rfl
            have hDc := hD.sub (ws' := [(h, .inr (13, fs))]) [0] (by decide) rfl
            have hFc := va_free (wc := [(h, .inr (13, fs))]) hD hS hA [0] rfl
            refine va_calli (va_runV (As := [.int 0, .int 0, .int 1]) (rest := []) ⟨hx, hb, hml, hown, hts⟩ (c_X12_goes_f l D dT H.size h fs 0 1 (FM.len hF)) (cwV 3 hts (goodIn_app (goodIn_r _ [7, 8, 9, 4] rfl (by decide +kernel)) (goodIn_sub wq_X12_setValue_X12_goes_f gd_X12_goes_f)) rfl rfl rfl (by decide +kernel) ⟨Nat.le_of_ble_eq_true rfl, Nat.le_of_ble_eq_true rfl⟩) ⟨(fun a U g mk q => by obtain ⟨z0, z1, zP, zK, zD, zE⟩ := q; exact ⟨z0, z1, zP, va_K.moved (u := U) (U := U.calling g mk a) (Vm.Alike.refl U.vm) zK, zD, EN.frame zE⟩), va_recv hK hP (ci := 13) (q0 := 0) rfl rfl, fun U hU hW => ⟨rfl, by rw [hU], by rw [hU]; exact hPc, va_K.moved hW.alike hK, hDc.weaken (fun _ _ _ _ => trivial), EN.call hE hS hFc hW hU⟩⟩ rfl rfl hl.1 rfl (lv_room (Nat.le_of_ble_eq_true rfl)) dX12_setValue_86 ⟨(Nat.le_of_ble_eq_true rfl), (Nat.le_of_ble_eq_true rfl)⟩) hS (fun q _ h => hFc q h) hFc (fun r_38 u_39 t H1 locs ht hvm hw hB hz1 hk1 hS => ?_)
            obtain ⟨-, hP1, hK1, hD1⟩ := hB
            rw [ht] at hP1
            obtain ⟨hP, hD⟩ := va_join (wr := []) (w1 := [(h, .inr (13, (List.set fs 25 (.int 1))))]) hP hD [0] [] rfl rfl (by decide) (by decide) hk1 hFc hP1 hD1
            generalize H1 = H at hP hS ⊢
            have hP : va_P D vwCl [(h, .inr (13, (List.set fs 25 (.int 1))))] H := hP
            have hD : va_D A [(h, .inr (13, (List.set fs 25 (.int 1))))] := hD
            refine W.widen (k := 0) (n := 0) (Nat.le_of_ble_eq_true rfl) (Nat.le_of_ble_eq_true rfl) ?_
            have hw_40 := hw
            try dsimp only at hw_40
            obtain rfl : r_38 = 0 := hw_40
            refine lv_if_eq (tgt := 130) hx hb dX12_setValue_89 (by decide) (fun _ => ?_) (fun c_41 => absurd (by decide) c_41)
            have hP9 := hP.sub (ws' := [(h, .inr (13, (List.set fs 25 (.int 1))))]) [0] rfl
            have hD9 := hD.sub (ws' := [(h, .inr (13, (List.set fs 25 (.int 1))))]) [0] (by decide) rfl
            exact W.vret hx hb hr (fun t ht hW => ⟨⟨(), rfl, trivial, (List.set fs 25 (.int 1)), (ls_self (FM.len hF) (Nat.le_of_ble_eq_true rfl)), by rw [ht]; exact hP9, va_K.moved hW.alike hK, hD9⟩, hS.F ht⟩) hS.2.2 dX12_setValue_130
          · refine lv_iconst (v := 1) hx hb dX12_setValue_73 (by decide) ?_
            refine lv_goto (tgt := 78) hx hb dX12_setValue_74 (by decide) ?_
            refine lv_istore (lv' := [(7, .int 1), (6, .int 0), (0, .ref h), (1, .int u), (2, .int n), (3, .int y), (4, .int ex), (5, .int fl)]) hx hb dX12_setValue_78 hl (by decide) rfl (fun ls hl => ?_)
            refine lv_aload_n hx hb dX12_setValue_80 rfl (lv_at hl 2 rfl) ?_
            refine lv_iload hx hb dX12_setValue_81 (lv_at hl 1 rfl) ?_
            refine lv_iload hx hb dX12_setValue_83 (lv_at hl 0 rfl) ?_
            refine lv_iconst (v := 1) hx hb dX12_setValue_85 (by decide) ?_
            have hPc := hP.sub (ws' := [(h, .inr (13, fs))]) [0] rfl
            have hDc := hD.sub (ws' := [(h, .inr (13, fs))]) [0] (by decide) rfl
            have hFc := va_free (wc := [(h, .inr (13, fs))]) hD hS hA [0] rfl
            refine va_calli (va_runV (As := [.int 0, .int 1, .int 1]) (rest := []) ⟨hx, hb, hml, hown, hts⟩ (c_X12_goes_f l D dT H.size h fs 1 1 (FM.len hF)) (cwV 3 hts (goodIn_app (goodIn_r _ [7, 8, 9, 4] rfl (by decide +kernel)) (goodIn_sub wq_X12_setValue_X12_goes_f gd_X12_goes_f)) rfl rfl rfl (by decide +kernel) ⟨Nat.le_of_ble_eq_true rfl, Nat.le_of_ble_eq_true rfl⟩) ⟨(fun a U g mk q => by obtain ⟨z0, z1, zP, zK, zD, zE⟩ := q; exact ⟨z0, z1, zP, va_K.moved (u := U) (U := U.calling g mk a) (Vm.Alike.refl U.vm) zK, zD, EN.frame zE⟩), va_recv hK hP (ci := 13) (q0 := 0) rfl rfl, fun U hU hW => ⟨rfl, by rw [hU], by rw [hU]; exact hPc, va_K.moved hW.alike hK, hDc.weaken (fun _ _ _ _ => trivial), EN.call hE hS hFc hW hU⟩⟩ rfl rfl hl.1 rfl (lv_room (Nat.le_of_ble_eq_true rfl)) dX12_setValue_86 ⟨(Nat.le_of_ble_eq_true rfl), (Nat.le_of_ble_eq_true rfl)⟩) hS (fun q _ h => hFc q h) hFc (fun r_42 u_43 t H1 locs ht hvm hw hB hz1 hk1 hS => ?_)
            obtain ⟨-, hP1, hK1, hD1⟩ := hB
            rw [ht] at hP1
            obtain ⟨hP, hD⟩ := va_join (wr := []) (w1 := [(h, .inr (13, (List.set fs 25 (.int 1))))]) hP hD [0] [] rfl rfl (by decide) (by decide) hk1 hFc hP1 hD1
            generalize H1 = H at hP hS ⊢
            have hP : va_P D vwCl [(h, .inr (13, (List.set fs 25 (.int 1))))] H := hP
            have hD : va_D A [(h, .inr (13, (List.set fs 25 (.int 1))))] := hD
            refine W.widen (k := 0) (n := 0) (Nat.le_of_ble_eq_true rfl) (Nat.le_of_ble_eq_true rfl) ?_
            have hw_44 := hw
            try dsimp only at hw_44
            obtain rfl : r_42 = 0 := hw_44
            refine lv_if_eq (tgt := 130) hx hb dX12_setValue_89 (by decide) (fun _ => ?_) (fun c_45 => absurd (by decide) c_45)
            have hP9 := hP.sub (ws' := [(h, .inr (13, (List.set fs 25 (.int 1))))]) [0] rfl
            have hD9 := hD.sub (ws' := [(h, .inr (13, (List.set fs 25 (.int 1))))]) [0] (by decide) rfl
            exact W.vret hx hb hr (fun t ht hW => ⟨⟨(), rfl, trivial, (List.set fs 25 (.int 1)), (ls_self (FM.len hF) (Nat.le_of_ble_eq_true rfl)), by rw [ht]; exact hP9, va_K.moved hW.alike hK, hD9⟩, hS.F ht⟩) hS.2.2 dX12_setValue_130

def wD_X12_remove : List Cond := [.methodLink RX12 320 yX12_isUnit, .instanceMethod yX12_isUnit, .selects RX12 yX12_isUnit yX12_isUnit, .initialized RX12, .methodLink RX12 302 yX12_isValue, .static yX12_isValue, .methodLink RX12 298 yX12_goes, .instanceMethod yX12_goes, .selects RX12 yX12_goes yX12_goes]
def wK_X12_remove : List Cond := .code yX12_remove cX12_remove 5 (some .boolean) :: (wD_X12_remove ++ (wK_X12_isUnit ++ (wK_X12_isValue ++ (wK_X12_goes_f ++ ([] : List Cond)))))
theorem wd_X12_remove : ∀ w ∈ wD_X12_remove, w ∈ wK_X12_remove := fun w h => List.mem_cons_of_mem _ (List.mem_append_left _ h)
theorem gd_X12_remove : (wK_X12_remove).all goodWord = true := by decide +kernel
theorem wq_X12_remove_X12_isUnit : ∀ w ∈ wK_X12_isUnit, w ∈ wK_X12_remove := fun w h => List.mem_cons_of_mem _ (List.mem_append_right _ (List.mem_append_left _ h))
theorem wq_X12_remove_X12_isValue : ∀ w ∈ wK_X12_isValue, w ∈ wK_X12_remove := fun w h => List.mem_cons_of_mem _ (List.mem_append_right _ (List.mem_append_right _ (List.mem_append_left _ h)))
theorem wq_X12_remove_X12_goes_f : ∀ w ∈ wK_X12_goes_f, w ∈ wK_X12_remove := fun w h => List.mem_cons_of_mem _ (List.mem_append_right _ (List.mem_append_right _ (List.mem_append_right _ (List.mem_append_left _ h))))
set_option maxHeartbeats 4000000 in
set_option maxRecDepth 100000 in
/-- remove on a fresh reference -/
theorem c_X12_remove (l : Launch) (D : va_G) (dT : Nat → ClassId) (sz : Nat) (h : Nat) (fs : List Value) (tm : Nat → Nat) (u : Int32) (n : Int32) (hF : FM fs tm) : Met l yX12_remove wK_X12_remove ({ frames := 2, cells := 0, slots := 0, locals := 43 }) (va_Pc [.ref h, .int u, .int n] (fun U => U.heap.size = sz ∧ va_P D vwCl [(h, .inr (13, fs))] U.heap ∧ va_K D vwCl (tysW dT) U ∧ va_D (fun _ => True) [(h, .inr (13, fs))] ∧ EN (va_A [(h, .inr (13, fs))] sz) U)) (va_Qi (fun (r : Int32) (_u : Unit) => r = 0) (fun (_u : Unit) t => ∃ (fs2 : List Value), fs2[25]? = some (.int 1) ∧ va_P D vwCl [(h, .inr (13, fs2))] t.heap ∧ va_K D vwCl (tysW dT) t ∧ va_D (va_A [(h, .inr (13, fs))] sz) [(h, .inr (13, fs2))]) (va_A [(h, .inr (13, fs))] sz)) 0 0 (va_A [(h, .inr (13, fs))] sz) := by
  refine Met.ofW (cc := cX12_remove) (maxL := 5) (ret := (some .boolean)) (by decide) rfl ?_
  intro p e s m args below meth c s₁ B hml hv
  obtain ⟨rfl, hsz, hP, hK, hD0, hE⟩ := hv
  have hx := B.exec
  have hb := B.bytes
  have hr := B.returns
  have hts := atoms_spec (ws := wK_X12_remove) B.pre
  have hown : s.vm.findClass RX12 = some m.cls := findClass_of_methodNamed B.named
  have hlocks := B.notSynchronized
  subst hsz
  have hD := hD0.self (sz := s.heap.size)
  generalize hAe : va_A [(h, .inr (13, fs))] s.heap.size = A at hD hE ⊢
  have hA : ∀ q : Nat, s.heap.size ≤ q → A q := fun q h => by rw [← hAe]; exact Or.inr h
  have hS : va_S A s.heap s.heap [] := va_S.rf
  have hP : va_P D vwCl [(h, .inr (13, fs))] s.heap := hP
  have hl := lv_entry ([.ref h, .int u, .int n]) (n := 5) (Nat.le_of_ble_eq_true rfl)
  rw [lg_entry_eq]
  generalize (lg_sl ([.ref h, .int u, .int n]) ++ List.replicate (5 - (lg_sl ([.ref h, .int u, .int n])).length) Slot.unset).toArray = ls at hl ⊢
  have hl : lv_has ls 5 [(0, .ref h), (1, .int u), (2, .int n)] := hl
  refine lv_aload_n hx hb dX12_remove_0 rfl (lv_at hl 0 rfl) ?_
  refine lv_aload_n hx hb dX12_remove_1 rfl (lv_at hl 0 rfl) ?_
  refine lv_iload_n hx hb dX12_remove_2 rfl (lv_at hl 1 rfl) ?_
  have hPc := hP.sub (ws' := [(h, .inr (13, fs))]) [0] rfl
  have hDc := hD.sub (ws' := [(h, .inr (13, fs))]) [0] (by decide) rfl
  have hFc := va_free (wc := [(h, .inr (13, fs))]) hD hS hA [0] rfl
  refine va_calli (va_runV (As := [.int u]) (rest := [.ref h]) ⟨hx, hb, hml, hown, hts⟩ (c_X12_isUnit l D dT s.heap.size h fs tm u hF) (cwV 1 hts (goodIn_app (goodIn_r _ [1, 2, 3, 4] rfl (by decide +kernel)) (goodIn_sub wq_X12_remove_X12_isUnit gd_X12_isUnit)) rfl rfl rfl (by decide +kernel) ⟨Nat.le_of_ble_eq_true rfl, Nat.le_of_ble_eq_true rfl⟩) ⟨(fun a U g mk q => by obtain ⟨z0, z1, zP, zK, zD, zE⟩ := q; exact ⟨z0, z1, zP, va_K.moved (u := U) (U := U.calling g mk a) (Vm.Alike.refl U.vm) zK, zD, EN.frame zE⟩), va_recv hK hP (ci := 13) (q0 := 0) rfl rfl, fun U hU hW => ⟨rfl, by rw [hU], by rw [hU]; exact hPc, va_K.moved hW.alike hK, hDc.weaken (fun _ _ _ _ => trivial), EN.call hE hS hFc hW hU⟩⟩ rfl rfl hl.1 rfl (lv_room (Nat.le_of_ble_eq_true rfl)) dX12_remove_3 ⟨(Nat.le_of_ble_eq_true rfl), (Nat.le_of_ble_eq_true rfl)⟩) hS (fun q _ h => hFc q h) hFc (fun r_1 u_2 t H1 locs ht hvm hw hB hz1 hk1 hS => ?_)
  obtain ⟨-, hP1, hK1, hD1⟩ := hB
  rw [ht] at hP1
  obtain ⟨hP, hD⟩ := va_join (wr := []) (w1 := [(h, .inr (13, fs))]) hP hD [0] [] rfl rfl (by decide) (by decide) hk1 hFc hP1 hD1
  generalize H1 = H at hP hS ⊢
  have hP : va_P D vwCl [(h, .inr (13, fs))] H := hP
  have hD : va_D A [(h, .inr (13, fs))] := hD
  refine W.widen (k := 0) (n := 0) (Nat.le_of_ble_eq_true rfl) (Nat.le_of_ble_eq_true rfl) ?_
  have hw_3 := hw
  try dsimp only at hw_3
  obtain rfl : r_1 = 0 := hw_3
  refine lv_iload_n hx hb dX12_remove_6 rfl (lv_at hl 2 rfl) ?_
  have hPc := hP.sub (ws' := []) [] rfl
  have hDc := hD.sub (ws' := []) [] (by decide) rfl
  have hFc := va_free (wc := []) hD hS hA [] rfl
  refine va_calli (va_runS (As := [.int n]) (rest := [.int 0, .ref h]) ⟨hx, hb, hml, hown, hts⟩ (c_X12_isValue l D dT H.size n) (va_cwS 1 hts (goodIn_app (goodIn_r _ [5, 6, 4] rfl (by decide +kernel)) (goodIn_sub wq_X12_remove_X12_isValue gd_X12_isValue)) rfl rfl rfl (by decide +kernel) ⟨Nat.le_of_ble_eq_true rfl, Nat.le_of_ble_eq_true rfl⟩) ⟨(fun a U g mk q => by obtain ⟨z0, z1, zP, zK, zD, zE⟩ := q; exact ⟨z0, z1, zP, va_K.moved (u := U) (U := U.calling g mk a) (Vm.Alike.refl U.vm) zK, zD, EN.frame zE⟩), fun U hU hW => ⟨rfl, by rw [hU], by rw [hU]; exact hPc, va_K.moved hW.alike hK, hDc.weaken (fun _ _ _ _ => trivial), EN.call hE hS hFc hW hU⟩⟩ rfl rfl hl.1 rfl (lv_room (Nat.le_of_ble_eq_true rfl)) dX12_remove_7 ⟨(Nat.le_of_ble_eq_true rfl), (Nat.le_of_ble_eq_true rfl)⟩) hS (fun q _ h => hFc q h) hFc (fun r_4 u_5 t H1 locs ht hvm hw hB hz1 hk1 hS => ?_)
  obtain ⟨-, hP1, hK1, hD1⟩ := hB
  rw [ht] at hP1
  obtain ⟨hP, hD⟩ := va_join (wr := [(h, .inr (13, fs))]) (w1 := []) hP hD [] [0] rfl rfl (by decide) (by decide) hk1 hFc hP1 hD1
  generalize H1 = H at hP hS ⊢
  have hP : va_P D vwCl [(h, .inr (13, fs))] H := hP
  have hD : va_D A [(h, .inr (13, fs))] := hD
  refine W.widen (k := 0) (n := 0) (Nat.le_of_ble_eq_true rfl) (Nat.le_of_ble_eq_true rfl) ?_
  have hw_6 := hw
  try dsimp only at hw_6
  rcases hw_6 with ⟨hc_7, rfl⟩ | ⟨hc_8, rfl⟩
  · refine lv_iconst (v := 1) hx hb dX12_remove_10 (by decide) ?_
    have hPc := hP.sub (ws' := [(h, .inr (13, fs))]) [0] rfl
    have hDc := hD.sub (ws' := [(h, .inr (13, fs))]) [0] (by decide) rfl
    have hFc := va_free (wc := [(h, .inr (13, fs))]) hD hS hA [0] rfl
    refine va_calli (va_runV (As := [.int 0, .int 0, .int 1]) (rest := []) ⟨hx, hb, hml, hown, hts⟩ (c_X12_goes_f l D dT H.size h fs 0 1 (FM.len hF)) (cwV 3 hts (goodIn_app (goodIn_r _ [7, 8, 9, 4] rfl (by decide +kernel)) (goodIn_sub wq_X12_remove_X12_goes_f gd_X12_goes_f)) rfl rfl rfl (by decide +kernel) ⟨Nat.le_of_ble_eq_true rfl, Nat.le_of_ble_eq_true rfl⟩) ⟨(fun a U g mk q => by obtain ⟨z0, z1, zP, zK, zD, zE⟩ := q; exact ⟨z0, z1, zP, va_K.moved (u := U) (U := U.calling g mk a) (Vm.Alike.refl U.vm) zK, zD, EN.frame zE⟩), va_recv hK hP (ci := 13) (q0 := 0) rfl rfl, fun U hU hW => ⟨rfl, by rw [hU], by rw [hU]; exact hPc, va_K.moved hW.alike hK, hDc.weaken (fun _ _ _ _ => trivial), EN.call hE hS hFc hW hU⟩⟩ rfl rfl hl.1 rfl (lv_room (Nat.le_of_ble_eq_true rfl)) dX12_remove_11 ⟨(Nat.le_of_ble_eq_true rfl), (Nat.le_of_ble_eq_true rfl)⟩) hS (fun q _ h => hFc q h) hFc (fun r_9 u_10 t H1 locs ht hvm hw hB hz1 hk1 hS => ?_)
    obtain ⟨-, hP1, hK1, hD1⟩ := hB
    rw [ht] at hP1
    obtain ⟨hP, hD⟩ := va_join (wr := []) (w1 := [(h, .inr (13, (List.set fs 25 (.int 1))))]) hP hD [0] [] rfl rfl (by decide) (by decide) hk1 hFc hP1 hD1
    generalize H1 = H at hP hS ⊢
    have hP : va_P D vwCl [(h, .inr (13, (List.set fs 25 (.int 1))))] H := hP
    have hD : va_D A [(h, .inr (13, (List.set fs 25 (.int 1))))] := hD
    refine W.widen (k := 0) (n := 0) (Nat.le_of_ble_eq_true rfl) (Nat.le_of_ble_eq_true rfl) ?_
    have hw_11 := hw
    try dsimp only at hw_11
    obtain rfl : r_9 = 0 := hw_11
    refine lv_if_ne (tgt := 19) hx hb dX12_remove_14 (by decide) (fun c_12 => absurd (by decide) c_12) (fun _ => ?_)
    refine lv_iconst (v := 0) hx hb dX12_remove_17 (by decide) ?_
    have hP9 := hP.sub (ws' := [(h, .inr (13, (List.set fs 25 (.int 1))))]) [0] rfl
    have hD9 := hD.sub (ws' := [(h, .inr (13, (List.set fs 25 (.int 1))))]) [0] (by decide) rfl
    exact W.zret (v := 0) hx hb hr rfl (fun t ht hW => ⟨⟨_, (), rfl, rfl, (List.set fs 25 (.int 1)), (ls_self (FM.len hF) (Nat.le_of_ble_eq_true rfl)), by rw [ht]; exact hP9, va_K.moved hW.alike hK, hD9⟩, hS.F ht⟩) hS.2.2 dX12_remove_18
  · refine lv_iconst (v := 1) hx hb dX12_remove_10 (by decide) ?_
    have hPc := hP.sub (ws' := [(h, .inr (13, fs))]) [0] rfl
    have hDc := hD.sub (ws' := [(h, .inr (13, fs))]) [0] (by decide) rfl
    have hFc := va_free (wc := [(h, .inr (13, fs))]) hD hS hA [0] rfl
    refine va_calli (va_runV (As := [.int 0, .int 1, .int 1]) (rest := []) ⟨hx, hb, hml, hown, hts⟩ (c_X12_goes_f l D dT H.size h fs 1 1 (FM.len hF)) (cwV 3 hts (goodIn_app (goodIn_r _ [7, 8, 9, 4] rfl (by decide +kernel)) (goodIn_sub wq_X12_remove_X12_goes_f gd_X12_goes_f)) rfl rfl rfl (by decide +kernel) ⟨Nat.le_of_ble_eq_true rfl, Nat.le_of_ble_eq_true rfl⟩) ⟨(fun a U g mk q => by obtain ⟨z0, z1, zP, zK, zD, zE⟩ := q; exact ⟨z0, z1, zP, va_K.moved (u := U) (U := U.calling g mk a) (Vm.Alike.refl U.vm) zK, zD, EN.frame zE⟩), va_recv hK hP (ci := 13) (q0 := 0) rfl rfl, fun U hU hW => ⟨rfl, by rw [hU], by rw [hU]; exact hPc, va_K.moved hW.alike hK, hDc.weaken (fun _ _ _ _ => trivial), EN.call hE hS hFc hW hU⟩⟩ rfl rfl hl.1 rfl (lv_room (Nat.le_of_ble_eq_true rfl)) dX12_remove_11 ⟨(Nat.le_of_ble_eq_true rfl), (Nat.le_of_ble_eq_true rfl)⟩) hS (fun q _ h => hFc q h) hFc (fun r_13 u_14 t H1 locs ht hvm hw hB hz1 hk1 hS => ?_)
    obtain ⟨-, hP1, hK1, hD1⟩ := hB
    rw [ht] at hP1
    obtain ⟨hP, hD⟩ := va_join (wr := []) (w1 := [(h, .inr (13, (List.set fs 25 (.int 1))))]) hP hD [0] [] rfl rfl (by decide) (by decide) hk1 hFc hP1 hD1
    generalize H1 = H at hP hS ⊢
    have hP : va_P D vwCl [(h, .inr (13, (List.set fs 25 (.int 1))))] H := hP
    have hD : va_D A [(h, .inr (13, (List.set fs 25 (.int 1))))] := hD
    refine W.widen (k := 0) (n := 0) (Nat.le_of_ble_eq_true rfl) (Nat.le_of_ble_eq_true rfl) ?_
    have hw_15 := hw
    try dsimp only at hw_15
    obtain rfl : r_13 = 0 := hw_15
    refine lv_if_ne (tgt := 19) hx hb dX12_remove_14 (by decide) (fun c_16 => absurd (by decide) c_16) (fun _ => ?_)
    refine lv_iconst (v := 0) hx hb dX12_remove_17 (by decide) ?_
    have hP9 := hP.sub (ws' := [(h, .inr (13, (List.set fs 25 (.int 1))))]) [0] rfl
    have hD9 := hD.sub (ws' := [(h, .inr (13, (List.set fs 25 (.int 1))))]) [0] (by decide) rfl
    exact W.zret (v := 0) hx hb hr rfl (fun t ht hW => ⟨⟨_, (), rfl, rfl, (List.set fs 25 (.int 1)), (ls_self (FM.len hF) (Nat.le_of_ble_eq_true rfl)), by rw [ht]; exact hP9, va_K.moved hW.alike hK, hD9⟩, hS.F ht⟩) hS.2.2 dX12_remove_18

def wD_X12_unitNode : List Cond := [.methodLink RX12 320 yX12_isUnit, .instanceMethod yX12_isUnit, .selects RX12 yX12_isUnit yX12_isUnit, .initialized RX12, .fieldLink RX12 288 "MixinUnitsModel" "nodes" "I", .methodLink RX12 298 yX12_goes, .instanceMethod yX12_goes, .selects RX12 yX12_goes yX12_goes]
def wK_X12_unitNode : List Cond := .code yX12_unitNode cX12_unitNode 4 (some .int) :: (wD_X12_unitNode ++ (wK_X12_isUnit ++ (wsX120 ++ (wK_X12_goes_f ++ ([] : List Cond)))))
theorem wd_X12_unitNode : ∀ w ∈ wD_X12_unitNode, w ∈ wK_X12_unitNode := fun w h => List.mem_cons_of_mem _ (List.mem_append_left _ h)
theorem gd_X12_unitNode : (wK_X12_unitNode).all goodWord = true := by decide +kernel
theorem wq_X12_unitNode_X12_isUnit : ∀ w ∈ wK_X12_isUnit, w ∈ wK_X12_unitNode := fun w h => List.mem_cons_of_mem _ (List.mem_append_right _ (List.mem_append_left _ h))
theorem wc_X12_unitNode_X12 : ∀ w ∈ wsX120, w ∈ wK_X12_unitNode := fun w h => List.mem_cons_of_mem _ (List.mem_append_right _ (List.mem_append_right _ (List.mem_append_left _ h)))
theorem wq_X12_unitNode_X12_goes_f : ∀ w ∈ wK_X12_goes_f, w ∈ wK_X12_unitNode := fun w h => List.mem_cons_of_mem _ (List.mem_append_right _ (List.mem_append_right _ (List.mem_append_right _ (List.mem_append_left _ h))))
set_option maxHeartbeats 4000000 in
set_option maxRecDepth 100000 in
/-- unitNode on a fresh reference -/
theorem c_X12_unitNode (l : Launch) (D : va_G) (dT : Nat → ClassId) (sz : Nat) (h : Nat) (fs : List Value) (tm : Nat → Nat) (u : Int32) (n : Int32) (hF : FM fs tm) : Met l yX12_unitNode wK_X12_unitNode ({ frames := 2, cells := 0, slots := 0, locals := 43 }) (va_Pc [.ref h, .int u, .int n] (fun U => U.heap.size = sz ∧ va_P D vwCl [(h, .inr (13, fs))] U.heap ∧ va_K D vwCl (tysW dT) U ∧ va_D (fun _ => True) [(h, .inr (13, fs))] ∧ EN (va_A [(h, .inr (13, fs))] sz) U)) (va_Qi (fun (r : Int32) (_u : Unit) => r = 0) (fun (_u : Unit) t => ∃ (fs2 : List Value), fs2[25]? = some (.int 1) ∧ va_P D vwCl [(h, .inr (13, fs2))] t.heap ∧ va_K D vwCl (tysW dT) t ∧ va_D (va_A [(h, .inr (13, fs))] sz) [(h, .inr (13, fs2))]) (va_A [(h, .inr (13, fs))] sz)) 0 0 (va_A [(h, .inr (13, fs))] sz) := by
  refine Met.ofW (cc := cX12_unitNode) (maxL := 4) (ret := (some .int)) (by decide) rfl ?_
  intro p e s m args below meth c s₁ B hml hv
  obtain ⟨rfl, hsz, hP, hK, hD0, hE⟩ := hv
  have hx := B.exec
  have hb := B.bytes
  have hr := B.returns
  have hts := atoms_spec (ws := wK_X12_unitNode) B.pre
  have hown : s.vm.findClass RX12 = some m.cls := findClass_of_methodNamed B.named
  have hlocks := B.notSynchronized
  subst hsz
  have hD := hD0.self (sz := s.heap.size)
  generalize hAe : va_A [(h, .inr (13, fs))] s.heap.size = A at hD hE ⊢
  have hA : ∀ q : Nat, s.heap.size ≤ q → A q := fun q h => by rw [← hAe]; exact Or.inr h
  have hS : va_S A s.heap s.heap [] := va_S.rf
  have hP : va_P D vwCl [(h, .inr (13, fs))] s.heap := hP
  have hl := lv_entry ([.ref h, .int u, .int n]) (n := 4) (Nat.le_of_ble_eq_true rfl)
  rw [lg_entry_eq]
  generalize (lg_sl ([.ref h, .int u, .int n]) ++ List.replicate (4 - (lg_sl ([.ref h, .int u, .int n])).length) Slot.unset).toArray = ls at hl ⊢
  have hl : lv_has ls 4 [(0, .ref h), (1, .int u), (2, .int n)] := hl
  refine lv_aload_n hx hb dX12_unitNode_0 rfl (lv_at hl 0 rfl) ?_
  refine lv_iload_n hx hb dX12_unitNode_1 rfl (lv_at hl 1 rfl) ?_
  have hPc := hP.sub (ws' := [(h, .inr (13, fs))]) [0] rfl
  have hDc := hD.sub (ws' := [(h, .inr (13, fs))]) [0] (by decide) rfl
  have hFc := va_free (wc := [(h, .inr (13, fs))]) hD hS hA [0] rfl
  refine va_calli (va_runV (As := [.int u]) (rest := []) ⟨hx, hb, hml, hown, hts⟩ (c_X12_isUnit l D dT s.heap.size h fs tm u hF) (cwV 1 hts (goodIn_app (goodIn_r _ [1, 2, 3, 4] rfl (by decide +kernel)) (goodIn_sub wq_X12_unitNode_X12_isUnit gd_X12_isUnit)) rfl rfl rfl (by decide +kernel) ⟨Nat.le_of_ble_eq_true rfl, Nat.le_of_ble_eq_true rfl⟩) ⟨(fun a U g mk q => by obtain ⟨z0, z1, zP, zK, zD, zE⟩ := q; exact ⟨z0, z1, zP, va_K.moved (u := U) (U := U.calling g mk a) (Vm.Alike.refl U.vm) zK, zD, EN.frame zE⟩), va_recv hK hP (ci := 13) (q0 := 0) rfl rfl, fun U hU hW => ⟨rfl, by rw [hU], by rw [hU]; exact hPc, va_K.moved hW.alike hK, hDc.weaken (fun _ _ _ _ => trivial), EN.call hE hS hFc hW hU⟩⟩ rfl rfl hl.1 rfl (lv_room (Nat.le_of_ble_eq_true rfl)) dX12_unitNode_2 ⟨(Nat.le_of_ble_eq_true rfl), (Nat.le_of_ble_eq_true rfl)⟩) hS (fun q _ h => hFc q h) hFc (fun r_1 u_2 t H1 locs ht hvm hw hB hz1 hk1 hS => ?_)
  obtain ⟨-, hP1, hK1, hD1⟩ := hB
  rw [ht] at hP1
  obtain ⟨hP, hD⟩ := va_join (wr := []) (w1 := [(h, .inr (13, fs))]) hP hD [0] [] rfl rfl (by decide) (by decide) hk1 hFc hP1 hD1
  generalize H1 = H at hP hS ⊢
  have hP : va_P D vwCl [(h, .inr (13, fs))] H := hP
  have hD : va_D A [(h, .inr (13, fs))] := hD
  refine W.widen (k := 0) (n := 0) (Nat.le_of_ble_eq_true rfl) (Nat.le_of_ble_eq_true rfl) ?_
  have hw_3 := hw
  try dsimp only at hw_3
  obtain rfl : r_1 = 0 := hw_3
  refine lv_if_eq (tgt := 33) hx hb dX12_unitNode_5 (by decide) (fun _ => ?_) (fun c_4 => absurd (by decide) c_4)
  refine lv_iconst (v := 0) hx hb dX12_unitNode_33 (by decide) ?_
  refine lv_istore_n (lv' := [(3, .int 0), (0, .ref h), (1, .int u), (2, .int n)]) hx hb dX12_unitNode_34 rfl hl (by decide) rfl (fun ls hl => ?_)
  refine lv_aload_n hx hb dX12_unitNode_35 rfl (lv_at hl 1 rfl) ?_
  refine lv_iload_n hx hb dX12_unitNode_36 rfl (lv_at hl 0 rfl) ?_
  refine lv_aload_n hx hb dX12_unitNode_37 rfl (lv_at hl 1 rfl) ?_
  refine va_get (D := D) (ci := 13) (v := .int 0) (C := RX12) (T := TX12) (N := 109) hx hb hts wc_X12_unitNode_X12 hown hK hP 0 rfl rfl 18 (by decide) (hts (.fieldLink RX12 288 "MixinUnitsModel" "nodes" "I") (wd_X12_unitNode _ (List.mem_of_getElem? (i := 4) rfl))) (fun _ h9 => h9) (FM.at hF (j := 3) (q := (18, .int 0)) rfl) dX12_unitNode_38 ?_
  refine lv_bipush (v := 40) hx hb dX12_unitNode_41 (by decide) ?_
  refine lv_icmp_ge (tgt := 50) hx hb dX12_unitNode_43 (by decide) (fun c_5 => absurd c_5 (by decide)) (fun _ => ?_)
  refine lv_iconst (v := 1) hx hb dX12_unitNode_46 (by decide) ?_
  refine lv_goto (tgt := 51) hx hb dX12_unitNode_47 (by decide) ?_
  refine lv_iconst (v := 1) hx hb dX12_unitNode_51 (by decide) ?_
  have hPc := hP.sub (ws' := [(h, .inr (13, fs))]) [0] rfl
  have hDc := hD.sub (ws' := [(h, .inr (13, fs))]) [0] (by decide) rfl
  have hFc := va_free (wc := [(h, .inr (13, fs))]) hD hS hA [0] rfl
  refine va_calli (va_runV (As := [.int 0, .int 1, .int 1]) (rest := []) ⟨hx, hb, hml, hown, hts⟩ (c_X12_goes_f l D dT H.size h fs 1 1 (FM.len hF)) (cwV 3 hts (goodIn_app (goodIn_r _ [6, 7, 8, 4] rfl (by decide +kernel)) (goodIn_sub wq_X12_unitNode_X12_goes_f gd_X12_goes_f)) rfl rfl rfl (by decide +kernel) ⟨Nat.le_of_ble_eq_true rfl, Nat.le_of_ble_eq_true rfl⟩) ⟨(fun a U g mk q => by obtain ⟨z0, z1, zP, zK, zD, zE⟩ := q; exact ⟨z0, z1, zP, va_K.moved (u := U) (U := U.calling g mk a) (Vm.Alike.refl U.vm) zK, zD, EN.frame zE⟩), va_recv hK hP (ci := 13) (q0 := 0) rfl rfl, fun U hU hW => ⟨rfl, by rw [hU], by rw [hU]; exact hPc, va_K.moved hW.alike hK, hDc.weaken (fun _ _ _ _ => trivial), EN.call hE hS hFc hW hU⟩⟩ rfl rfl hl.1 rfl (lv_room (Nat.le_of_ble_eq_true rfl)) dX12_unitNode_52 ⟨(Nat.le_of_ble_eq_true rfl), (Nat.le_of_ble_eq_true rfl)⟩) hS (fun q _ h => hFc q h) hFc (fun r_6 u_7 t H1 locs ht hvm hw hB hz1 hk1 hS => ?_)
  obtain ⟨-, hP1, hK1, hD1⟩ := hB
  rw [ht] at hP1
  obtain ⟨hP, hD⟩ := va_join (wr := []) (w1 := [(h, .inr (13, (List.set fs 25 (.int 1))))]) hP hD [0] [] rfl rfl (by decide) (by decide) hk1 hFc hP1 hD1
  generalize H1 = H at hP hS ⊢
  have hP : va_P D vwCl [(h, .inr (13, (List.set fs 25 (.int 1))))] H := hP
  have hD : va_D A [(h, .inr (13, (List.set fs 25 (.int 1))))] := hD
  refine W.widen (k := 0) (n := 0) (Nat.le_of_ble_eq_true rfl) (Nat.le_of_ble_eq_true rfl) ?_
  have hw_8 := hw
  try dsimp only at hw_8
  obtain rfl : r_6 = 0 := hw_8
  refine lv_if_eq (tgt := 71) hx hb dX12_unitNode_55 (by decide) (fun _ => ?_) (fun c_9 => absurd (by decide) c_9)
  refine lv_iconst (v := 0) hx hb dX12_unitNode_71 (by decide) ?_
  have hP9 := hP.sub (ws' := [(h, .inr (13, (List.set fs 25 (.int 1))))]) [0] rfl
  have hD9 := hD.sub (ws' := [(h, .inr (13, (List.set fs 25 (.int 1))))]) [0] (by decide) rfl
  exact W.iret (v := 0) hx hb hr (fun t ht hW => ⟨⟨_, (), rfl, rfl, (List.set fs 25 (.int 1)), (ls_self (FM.len hF) (Nat.le_of_ble_eq_true rfl)), by rw [ht]; exact hP9, va_K.moved hW.alike hK, hD9⟩, hS.F ht⟩) hS.2.2 dX12_unitNode_72

def wD_X12_node : List Cond := [.methodLink RX12 330 yX12_isNode, .instanceMethod yX12_isNode, .selects RX12 yX12_isNode yX12_isNode, .initialized RX12, .methodLink RX12 278 yX12_in, .static yX12_in, .fieldLink RX12 288 "MixinUnitsModel" "nodes" "I", .methodLink RX12 298 yX12_goes, .instanceMethod yX12_goes, .selects RX12 yX12_goes yX12_goes]
def wK_X12_node : List Cond := .code yX12_node cX12_node 7 (some .int) :: (wD_X12_node ++ (wK_X12_isNode ++ (wK_X12_in ++ (wsX120 ++ (wK_X12_goes_f ++ (wK_X12_goes_s ++ ([] : List Cond)))))))
theorem wd_X12_node : ∀ w ∈ wD_X12_node, w ∈ wK_X12_node := fun w h => List.mem_cons_of_mem _ (List.mem_append_left _ h)
theorem gd_X12_node : (wK_X12_node).all goodWord = true := by decide +kernel
theorem wq_X12_node_X12_isNode : ∀ w ∈ wK_X12_isNode, w ∈ wK_X12_node := fun w h => List.mem_cons_of_mem _ (List.mem_append_right _ (List.mem_append_left _ h))
theorem wq_X12_node_X12_in : ∀ w ∈ wK_X12_in, w ∈ wK_X12_node := fun w h => List.mem_cons_of_mem _ (List.mem_append_right _ (List.mem_append_right _ (List.mem_append_left _ h)))
theorem wc_X12_node_X12 : ∀ w ∈ wsX120, w ∈ wK_X12_node := fun w h => List.mem_cons_of_mem _ (List.mem_append_right _ (List.mem_append_right _ (List.mem_append_right _ (List.mem_append_left _ h))))
theorem wq_X12_node_X12_goes_f : ∀ w ∈ wK_X12_goes_f, w ∈ wK_X12_node := fun w h => List.mem_cons_of_mem _ (List.mem_append_right _ (List.mem_append_right _ (List.mem_append_right _ (List.mem_append_right _ (List.mem_append_left _ h)))))
theorem wq_X12_node_X12_goes_s : ∀ w ∈ wK_X12_goes_s, w ∈ wK_X12_node := fun w h => List.mem_cons_of_mem _ (List.mem_append_right _ (List.mem_append_right _ (List.mem_append_right _ (List.mem_append_right _ (List.mem_append_right _ (List.mem_append_left _ h))))))
set_option maxHeartbeats 4000000 in
set_option maxRecDepth 100000 in
/-- node on a fresh reference -/
theorem c_X12_node (l : Launch) (D : va_G) (dT : Nat → ClassId) (sz : Nat) (h : Nat) (fs : List Value) (tm : Nat → Nat) (k : Int32) (f : Int32) (g : Int32) (b : Int32) (hF : FM fs tm) : Met l yX12_node wK_X12_node ({ frames := 2, cells := 0, slots := 0, locals := 43 }) (va_Pc [.ref h, .int k, .int f, .int g, .int b] (fun U => U.heap.size = sz ∧ va_P D vwCl [(h, .inr (13, fs))] U.heap ∧ va_K D vwCl (tysW dT) U ∧ va_D (fun _ => True) [(h, .inr (13, fs))] ∧ EN (va_A [(h, .inr (13, fs))] sz) U)) (va_Qi (fun (r : Int32) (_u : Unit) => r = 0) (fun (_u : Unit) t => ∃ (fs2 : List Value), fs2[25]? = some (.int (sp_node k)) ∧ va_P D vwCl [(h, .inr (13, fs2))] t.heap ∧ va_K D vwCl (tysW dT) t ∧ va_D (va_A [(h, .inr (13, fs))] sz) [(h, .inr (13, fs2))]) (va_A [(h, .inr (13, fs))] sz)) 0 0 (va_A [(h, .inr (13, fs))] sz) := by
  refine Met.ofW (cc := cX12_node) (maxL := 7) (ret := (some .int)) (by decide) rfl ?_
  intro p e s m args below meth c s₁ B hml hv
  obtain ⟨rfl, hsz, hP, hK, hD0, hE⟩ := hv
  have hx := B.exec
  have hb := B.bytes
  have hr := B.returns
  have hts := atoms_spec (ws := wK_X12_node) B.pre
  have hown : s.vm.findClass RX12 = some m.cls := findClass_of_methodNamed B.named
  have hlocks := B.notSynchronized
  subst hsz
  have hD := hD0.self (sz := s.heap.size)
  generalize hAe : va_A [(h, .inr (13, fs))] s.heap.size = A at hD hE ⊢
  have hA : ∀ q : Nat, s.heap.size ≤ q → A q := fun q h => by rw [← hAe]; exact Or.inr h
  have hS : va_S A s.heap s.heap [] := va_S.rf
  have hP : va_P D vwCl [(h, .inr (13, fs))] s.heap := hP
  have hl := lv_entry ([.ref h, .int k, .int f, .int g, .int b]) (n := 7) (Nat.le_of_ble_eq_true rfl)
  rw [lg_entry_eq]
  generalize (lg_sl ([.ref h, .int k, .int f, .int g, .int b]) ++ List.replicate (7 - (lg_sl ([.ref h, .int k, .int f, .int g, .int b])).length) Slot.unset).toArray = ls at hl ⊢
  have hl : lv_has ls 7 [(0, .ref h), (1, .int k), (2, .int f), (3, .int g), (4, .int b)] := hl
  refine lv_aload_n hx hb dX12_node_0 rfl (lv_at hl 0 rfl) ?_
  refine lv_iload_n hx hb dX12_node_1 rfl (lv_at hl 2 rfl) ?_
  have hPc := hP.sub (ws' := [(h, .inr (13, fs))]) [0] rfl
  have hDc := hD.sub (ws' := [(h, .inr (13, fs))]) [0] (by decide) rfl
  have hFc := va_free (wc := [(h, .inr (13, fs))]) hD hS hA [0] rfl
  refine va_calli (va_runV (As := [.int f]) (rest := []) ⟨hx, hb, hml, hown, hts⟩ (c_X12_isNode l D dT s.heap.size h fs tm f hF) (cwV 1 hts (goodIn_app (goodIn_r _ [1, 2, 3, 4] rfl (by decide +kernel)) (goodIn_sub wq_X12_node_X12_isNode gd_X12_isNode)) rfl rfl rfl (by decide +kernel) ⟨Nat.le_of_ble_eq_true rfl, Nat.le_of_ble_eq_true rfl⟩) ⟨(fun a U g mk q => by obtain ⟨z0, z1, zP, zK, zD, zE⟩ := q; exact ⟨z0, z1, zP, va_K.moved (u := U) (U := U.calling g mk a) (Vm.Alike.refl U.vm) zK, zD, EN.frame zE⟩), va_recv hK hP (ci := 13) (q0 := 0) rfl rfl, fun U hU hW => ⟨rfl, by rw [hU], by rw [hU]; exact hPc, va_K.moved hW.alike hK, hDc.weaken (fun _ _ _ _ => trivial), EN.call hE hS hFc hW hU⟩⟩ rfl rfl hl.1 rfl (lv_room (Nat.le_of_ble_eq_true rfl)) dX12_node_2 ⟨(Nat.le_of_ble_eq_true rfl), (Nat.le_of_ble_eq_true rfl)⟩) hS (fun q _ h => hFc q h) hFc (fun r_1 u_2 t H1 locs ht hvm hw hB hz1 hk1 hS => ?_)
  obtain ⟨-, hP1, hK1, hD1⟩ := hB
  rw [ht] at hP1
  obtain ⟨hP, hD⟩ := va_join (wr := []) (w1 := [(h, .inr (13, fs))]) hP hD [0] [] rfl rfl (by decide) (by decide) hk1 hFc hP1 hD1
  generalize H1 = H at hP hS ⊢
  have hP : va_P D vwCl [(h, .inr (13, fs))] H := hP
  have hD : va_D A [(h, .inr (13, fs))] := hD
  refine W.widen (k := 0) (n := 0) (Nat.le_of_ble_eq_true rfl) (Nat.le_of_ble_eq_true rfl) ?_
  have hw_3 := hw
  try dsimp only at hw_3
  obtain rfl : r_1 = 0 := hw_3
  refine lv_if_eq (tgt := 20) hx hb dX12_node_5 (by decide) (fun _ => ?_) (fun c_4 => absurd (by decide) c_4)
  refine lv_iconst (v := 0) hx hb dX12_node_20 (by decide) ?_
  refine lv_istore (lv' := [(5, .int 0), (0, .ref h), (1, .int k), (2, .int f), (3, .int g), (4, .int b)]) hx hb dX12_node_21 hl (by decide) rfl (fun ls hl => ?_)
  refine lv_iload hx hb dX12_node_23 (lv_at hl 0 rfl) ?_
  refine lv_if_eq (tgt := 46) hx hb dX12_node_25 (by decide) (fun _ => ?_) (fun c_5 => absurd (by decide) c_5)
  refine lv_iconst (v := 1) hx hb dX12_node_46 (by decide) ?_
  refine lv_istore (lv' := [(6, .int 1), (5, .int 0), (0, .ref h), (1, .int k), (2, .int f), (3, .int g), (4, .int b)]) hx hb dX12_node_47 hl (by decide) rfl (fun ls hl => ?_)
  refine lv_aload_n hx hb dX12_node_49 rfl (lv_at hl 2 rfl) ?_
  refine lv_iload_n hx hb dX12_node_50 rfl (lv_at hl 3 rfl) ?_
  refine lv_iconst (v := 0) hx hb dX12_node_51 (by decide) ?_
  refine lv_iconst (v := 2) hx hb dX12_node_52 (by decide) ?_
  have hPc := hP.sub (ws' := []) [] rfl
  have hDc := hD.sub (ws' := []) [] (by decide) rfl
  have hFc := va_free (wc := []) hD hS hA [] rfl
  refine va_calli (va_runS (As := [.int k, .int 0, .int 2]) (rest := [.ref h]) ⟨hx, hb, hml, hown, hts⟩ (c_X12_in l D dT H.size k 0 2) (va_cwS 3 hts (goodIn_app (goodIn_r _ [5, 6, 4] rfl (by decide +kernel)) (goodIn_sub wq_X12_node_X12_in gd_X12_in)) rfl rfl rfl (by decide +kernel) ⟨Nat.le_of_ble_eq_true rfl, Nat.le_of_ble_eq_true rfl⟩) ⟨(fun a U g mk q => by obtain ⟨z0, z1, zP, zK, zD, zE⟩ := q; exact ⟨z0, z1, zP, va_K.moved (u := U) (U := U.calling g mk a) (Vm.Alike.refl U.vm) zK, zD, EN.frame zE⟩), fun U hU hW => ⟨rfl, by rw [hU], by rw [hU]; exact hPc, va_K.moved hW.alike hK, hDc.weaken (fun _ _ _ _ => trivial), EN.call hE hS hFc hW hU⟩⟩ rfl rfl hl.1 rfl (lv_room (Nat.le_of_ble_eq_true rfl)) dX12_node_53 ⟨(Nat.le_of_ble_eq_true rfl), (Nat.le_of_ble_eq_true rfl)⟩) hS (fun q _ h => hFc q h) hFc (fun r_6 u_7 t H1 locs ht hvm hw hB hz1 hk1 hS => ?_)
  obtain ⟨-, hP1, hK1, hD1⟩ := hB
  rw [ht] at hP1
  obtain ⟨hP, hD⟩ := va_join (wr := [(h, .inr (13, fs))]) (w1 := []) hP hD [] [0] rfl rfl (by decide) (by decide) hk1 hFc hP1 hD1
  generalize H1 = H at hP hS ⊢
  have hP : va_P D vwCl [(h, .inr (13, fs))] H := hP
  have hD : va_D A [(h, .inr (13, fs))] := hD
  refine W.widen (k := 0) (n := 0) (Nat.le_of_ble_eq_true rfl) (Nat.le_of_ble_eq_true rfl) ?_
  have hw_8 := hw
  try dsimp only at hw_8
  rcases hw_8 with ⟨hc_9, rfl⟩ | ⟨hc_10, rfl⟩
  · refine lv_iload hx hb dX12_node_56 (lv_at hl 1 rfl) ?_
    refine lv_aload_n hx hb dX12_node_58 rfl (lv_at hl 2 rfl) ?_
    refine va_get (D := D) (ci := 13) (v := .int 0) (C := RX12) (T := TX12) (N := 109) hx hb hts wc_X12_node_X12 hown hK hP 0 rfl rfl 18 (by decide) (hts (.fieldLink RX12 288 "MixinUnitsModel" "nodes" "I") (wd_X12_node _ (List.mem_of_getElem? (i := 6) rfl))) (fun _ h9 => h9) (FM.at hF (j := 3) (q := (18, .int 0)) rfl) dX12_node_59 ?_
    refine lv_bipush (v := 40) hx hb dX12_node_62 (by decide) ?_
    refine lv_icmp_ge (tgt := 78) hx hb dX12_node_64 (by decide) (fun c_11 => absurd c_11 (by decide)) (fun _ => ?_)
    refine lv_iload hx hb dX12_node_67 (lv_at hl 0 rfl) ?_
    refine lv_bipush (v := 24) hx hb dX12_node_69 (by decide) ?_
    refine lv_icmp_gt (tgt := 78) hx hb dX12_node_71 (by decide) (fun c_12 => absurd c_12 (by decide)) (fun _ => ?_)
    refine lv_iconst (v := 1) hx hb dX12_node_74 (by decide) ?_
    refine lv_goto (tgt := 79) hx hb dX12_node_75 (by decide) ?_
    have hPc := hP.sub (ws' := [(h, .inr (13, fs))]) [0] rfl
    have hDc := hD.sub (ws' := [(h, .inr (13, fs))]) [0] (by decide) rfl
    have hFc := va_free (wc := [(h, .inr (13, fs))]) hD hS hA [0] rfl
    refine va_calli (va_runV (As := [.int 0, .int 0, .int 1]) (rest := []) ⟨hx, hb, hml, hown, hts⟩ (c_X12_goes_f l D dT H.size h fs 0 1 (FM.len hF)) (cwV 3 hts (goodIn_app (goodIn_r _ [8, 9, 10, 4] rfl (by decide +kernel)) (goodIn_sub wq_X12_node_X12_goes_f gd_X12_goes_f)) rfl rfl rfl (by decide +kernel) ⟨Nat.le_of_ble_eq_true rfl, Nat.le_of_ble_eq_true rfl⟩) ⟨(fun a U g mk q => by obtain ⟨z0, z1, zP, zK, zD, zE⟩ := q; exact ⟨z0, z1, zP, va_K.moved (u := U) (U := U.calling g mk a) (Vm.Alike.refl U.vm) zK, zD, EN.frame zE⟩), va_recv hK hP (ci := 13) (q0 := 0) rfl rfl, fun U hU hW => ⟨rfl, by rw [hU], by rw [hU]; exact hPc, va_K.moved hW.alike hK, hDc.weaken (fun _ _ _ _ => trivial), EN.call hE hS hFc hW hU⟩⟩ rfl rfl hl.1 rfl (lv_room (Nat.le_of_ble_eq_true rfl)) dX12_node_79 ⟨(Nat.le_of_ble_eq_true rfl), (Nat.le_of_ble_eq_true rfl)⟩) hS (fun q _ h => hFc q h) hFc (fun r_13 u_14 t H1 locs ht hvm hw hB hz1 hk1 hS => ?_)
    obtain ⟨-, hP1, hK1, hD1⟩ := hB
    rw [ht] at hP1
    obtain ⟨hP, hD⟩ := va_join (wr := []) (w1 := [(h, .inr (13, (List.set fs 25 (.int 1))))]) hP hD [0] [] rfl rfl (by decide) (by decide) hk1 hFc hP1 hD1
    generalize H1 = H at hP hS ⊢
    have hP : va_P D vwCl [(h, .inr (13, (List.set fs 25 (.int 1))))] H := hP
    have hD : va_D A [(h, .inr (13, (List.set fs 25 (.int 1))))] := hD
    refine W.widen (k := 0) (n := 0) (Nat.le_of_ble_eq_true rfl) (Nat.le_of_ble_eq_true rfl) ?_
    have hw_15 := hw
    try dsimp only at hw_15
    obtain rfl : r_13 = 0 := hw_15
    refine lv_if_ne (tgt := 87) hx hb dX12_node_82 (by decide) (fun c_16 => absurd (by decide) c_16) (fun _ => ?_)
    refine lv_iconst (v := 0) hx hb dX12_node_85 (by decide) ?_
    have hP9 := hP.sub (ws' := [(h, .inr (13, (List.set fs 25 (.int 1))))]) [0] rfl
    have hD9 := hD.sub (ws' := [(h, .inr (13, (List.set fs 25 (.int 1))))]) [0] (by decide) rfl
    exact W.iret (v := 0) hx hb hr (fun t ht hW => ⟨⟨_, (), rfl, rfl, (List.set fs 25 (.int 1)), (by rw [show sp_node k = 1 from (sp_node_a (by simp only [Int32.lt_iff_toInt_lt, Int32.le_iff_toInt_le, i32_eq, ne_eq, gt_iff_lt, ge_iff_le, i32_0, i32_1, i32_2, i32_3, i32_4, i32_5, i32_6, i32_7, i32_9, i32_10, i32_m1] at hc_9 ⊢ <;> omega))]; exact (ls_self (FM.len hF) (Nat.le_of_ble_eq_true rfl))), by rw [ht]; exact hP9, va_K.moved hW.alike hK, hD9⟩, hS.F ht⟩) hS.2.2 dX12_node_86
  · refine lv_iload hx hb dX12_node_56 (lv_at hl 1 rfl) ?_
    refine lv_aload_n hx hb dX12_node_58 rfl (lv_at hl 2 rfl) ?_
    refine va_get (D := D) (ci := 13) (v := .int 0) (C := RX12) (T := TX12) (N := 109) hx hb hts wc_X12_node_X12 hown hK hP 0 rfl rfl 18 (by decide) (hts (.fieldLink RX12 288 "MixinUnitsModel" "nodes" "I") (wd_X12_node _ (List.mem_of_getElem? (i := 6) rfl))) (fun _ h9 => h9) (FM.at hF (j := 3) (q := (18, .int 0)) rfl) dX12_node_59 ?_
    refine lv_bipush (v := 40) hx hb dX12_node_62 (by decide) ?_
    refine lv_icmp_ge (tgt := 78) hx hb dX12_node_64 (by decide) (fun c_17 => absurd c_17 (by decide)) (fun _ => ?_)
    refine lv_iload hx hb dX12_node_67 (lv_at hl 0 rfl) ?_
    refine lv_bipush (v := 24) hx hb dX12_node_69 (by decide) ?_
    refine lv_icmp_gt (tgt := 78) hx hb dX12_node_71 (by decide) (fun c_18 => absurd c_18 (by decide)) (fun _ => ?_)
    refine lv_iconst (v := 1) hx hb dX12_node_74 (by decide) ?_
    refine lv_goto (tgt := 79) hx hb dX12_node_75 (by decide) ?_
    have hPc := hP.sub (ws' := [(h, .inr (13, fs))]) [0] rfl
    have hDc := hD.sub (ws' := [(h, .inr (13, fs))]) [0] (by decide) rfl
    have hFc := va_free (wc := [(h, .inr (13, fs))]) hD hS hA [0] rfl
    refine va_calli (va_runV (As := [.int 1, .int 0, .int 1]) (rest := []) ⟨hx, hb, hml, hown, hts⟩ (c_X12_goes_s l D dT H.size h fs 1 (FM.len hF)) (cwV 3 hts (goodIn_app (goodIn_r _ [8, 9, 10, 4] rfl (by decide +kernel)) (goodIn_sub wq_X12_node_X12_goes_s gd_X12_goes_s)) rfl rfl rfl (by decide +kernel) ⟨Nat.le_of_ble_eq_true rfl, Nat.le_of_ble_eq_true rfl⟩) ⟨(fun a U g mk q => by obtain ⟨z0, z1, zP, zK, zD, zE⟩ := q; exact ⟨z0, z1, zP, va_K.moved (u := U) (U := U.calling g mk a) (Vm.Alike.refl U.vm) zK, zD, EN.frame zE⟩), va_recv hK hP (ci := 13) (q0 := 0) rfl rfl, fun U hU hW => ⟨rfl, by rw [hU], by rw [hU]; exact hPc, va_K.moved hW.alike hK, hDc.weaken (fun _ _ _ _ => trivial), EN.call hE hS hFc hW hU⟩⟩ rfl rfl hl.1 rfl (lv_room (Nat.le_of_ble_eq_true rfl)) dX12_node_79 ⟨(Nat.le_of_ble_eq_true rfl), (Nat.le_of_ble_eq_true rfl)⟩) hS (fun q _ h => hFc q h) hFc (fun r_19 u_20 t H1 locs ht hvm hw hB hz1 hk1 hS => ?_)
    obtain ⟨-, hP1, hK1, hD1⟩ := hB
    rw [ht] at hP1
    obtain ⟨hP, hD⟩ := va_join (wr := []) (w1 := [(h, .inr (13, (List.set fs 25 (.int 2))))]) hP hD [0] [] rfl rfl (by decide) (by decide) hk1 hFc hP1 hD1
    generalize H1 = H at hP hS ⊢
    have hP : va_P D vwCl [(h, .inr (13, (List.set fs 25 (.int 2))))] H := hP
    have hD : va_D A [(h, .inr (13, (List.set fs 25 (.int 2))))] := hD
    refine W.widen (k := 0) (n := 0) (Nat.le_of_ble_eq_true rfl) (Nat.le_of_ble_eq_true rfl) ?_
    have hw_21 := hw
    try dsimp only at hw_21
    obtain rfl : r_19 = 0 := hw_21
    refine lv_if_ne (tgt := 87) hx hb dX12_node_82 (by decide) (fun c_22 => absurd (by decide) c_22) (fun _ => ?_)
    refine lv_iconst (v := 0) hx hb dX12_node_85 (by decide) ?_
    have hP9 := hP.sub (ws' := [(h, .inr (13, (List.set fs 25 (.int 2))))]) [0] rfl
    have hD9 := hD.sub (ws' := [(h, .inr (13, (List.set fs 25 (.int 2))))]) [0] (by decide) rfl
    exact W.iret (v := 0) hx hb hr (fun t ht hW => ⟨⟨_, (), rfl, rfl, (List.set fs 25 (.int 2)), (by rw [show sp_node k = 2 from (sp_node_b (by simp only [Int32.lt_iff_toInt_lt, Int32.le_iff_toInt_le, i32_eq, ne_eq, gt_iff_lt, ge_iff_le, i32_0, i32_1, i32_2, i32_3, i32_4, i32_5, i32_6, i32_7, i32_9, i32_10, i32_m1] at hc_10 ⊢ <;> omega))]; exact (ls_self (FM.len hF) (Nat.le_of_ble_eq_true rfl))), by rw [ht]; exact hP9, va_K.moved hW.alike hK, hD9⟩, hS.F ht⟩) hS.2.2 dX12_node_86

def wD_X12_choose : List Cond := [.methodLink RX12 330 yX12_isNode, .instanceMethod yX12_isNode, .selects RX12 yX12_isNode yX12_isNode, .initialized RX12, .fieldLink RX12 288 "MixinUnitsModel" "nodes" "I", .methodLink RX12 298 yX12_goes, .instanceMethod yX12_goes, .selects RX12 yX12_goes yX12_goes]
def wK_X12_choose : List Cond := .code yX12_choose cX12_choose 6 (some .int) :: (wD_X12_choose ++ (wK_X12_isNode ++ (wsX120 ++ (wK_X12_goes_f ++ ([] : List Cond)))))
theorem wd_X12_choose : ∀ w ∈ wD_X12_choose, w ∈ wK_X12_choose := fun w h => List.mem_cons_of_mem _ (List.mem_append_left _ h)
theorem gd_X12_choose : (wK_X12_choose).all goodWord = true := by decide +kernel
theorem wq_X12_choose_X12_isNode : ∀ w ∈ wK_X12_isNode, w ∈ wK_X12_choose := fun w h => List.mem_cons_of_mem _ (List.mem_append_right _ (List.mem_append_left _ h))
theorem wc_X12_choose_X12 : ∀ w ∈ wsX120, w ∈ wK_X12_choose := fun w h => List.mem_cons_of_mem _ (List.mem_append_right _ (List.mem_append_right _ (List.mem_append_left _ h)))
theorem wq_X12_choose_X12_goes_f : ∀ w ∈ wK_X12_goes_f, w ∈ wK_X12_choose := fun w h => List.mem_cons_of_mem _ (List.mem_append_right _ (List.mem_append_right _ (List.mem_append_right _ (List.mem_append_left _ h))))
set_option maxHeartbeats 4000000 in
set_option maxRecDepth 100000 in
/-- choose on a fresh reference -/
theorem c_X12_choose (l : Launch) (D : va_G) (dT : Nat → ClassId) (sz : Nat) (h : Nat) (fs : List Value) (tm : Nat → Nat) (f : Int32) (g : Int32) (j : Int32) (hF : FM fs tm) : Met l yX12_choose wK_X12_choose ({ frames := 2, cells := 0, slots := 0, locals := 43 }) (va_Pc [.ref h, .int f, .int g, .int j] (fun U => U.heap.size = sz ∧ va_P D vwCl [(h, .inr (13, fs))] U.heap ∧ va_K D vwCl (tysW dT) U ∧ va_D (fun _ => True) [(h, .inr (13, fs))] ∧ EN (va_A [(h, .inr (13, fs))] sz) U)) (va_Qi (fun (r : Int32) (_u : Unit) => r = 0) (fun (_u : Unit) t => ∃ (fs2 : List Value), fs2[25]? = some (.int 1) ∧ va_P D vwCl [(h, .inr (13, fs2))] t.heap ∧ va_K D vwCl (tysW dT) t ∧ va_D (va_A [(h, .inr (13, fs))] sz) [(h, .inr (13, fs2))]) (va_A [(h, .inr (13, fs))] sz)) 0 0 (va_A [(h, .inr (13, fs))] sz) := by
  refine Met.ofW (cc := cX12_choose) (maxL := 6) (ret := (some .int)) (by decide) rfl ?_
  intro p e s m args below meth c s₁ B hml hv
  obtain ⟨rfl, hsz, hP, hK, hD0, hE⟩ := hv
  have hx := B.exec
  have hb := B.bytes
  have hr := B.returns
  have hts := atoms_spec (ws := wK_X12_choose) B.pre
  have hown : s.vm.findClass RX12 = some m.cls := findClass_of_methodNamed B.named
  have hlocks := B.notSynchronized
  subst hsz
  have hD := hD0.self (sz := s.heap.size)
  generalize hAe : va_A [(h, .inr (13, fs))] s.heap.size = A at hD hE ⊢
  have hA : ∀ q : Nat, s.heap.size ≤ q → A q := fun q h => by rw [← hAe]; exact Or.inr h
  have hS : va_S A s.heap s.heap [] := va_S.rf
  have hP : va_P D vwCl [(h, .inr (13, fs))] s.heap := hP
  have hl := lv_entry ([.ref h, .int f, .int g, .int j]) (n := 6) (Nat.le_of_ble_eq_true rfl)
  rw [lg_entry_eq]
  generalize (lg_sl ([.ref h, .int f, .int g, .int j]) ++ List.replicate (6 - (lg_sl ([.ref h, .int f, .int g, .int j])).length) Slot.unset).toArray = ls at hl ⊢
  have hl : lv_has ls 6 [(0, .ref h), (1, .int f), (2, .int g), (3, .int j)] := hl
  refine lv_aload_n hx hb dX12_choose_0 rfl (lv_at hl 0 rfl) ?_
  refine lv_iload_n hx hb dX12_choose_1 rfl (lv_at hl 1 rfl) ?_
  have hPc := hP.sub (ws' := [(h, .inr (13, fs))]) [0] rfl
  have hDc := hD.sub (ws' := [(h, .inr (13, fs))]) [0] (by decide) rfl
  have hFc := va_free (wc := [(h, .inr (13, fs))]) hD hS hA [0] rfl
  refine va_calli (va_runV (As := [.int f]) (rest := []) ⟨hx, hb, hml, hown, hts⟩ (c_X12_isNode l D dT s.heap.size h fs tm f hF) (cwV 1 hts (goodIn_app (goodIn_r _ [1, 2, 3, 4] rfl (by decide +kernel)) (goodIn_sub wq_X12_choose_X12_isNode gd_X12_isNode)) rfl rfl rfl (by decide +kernel) ⟨Nat.le_of_ble_eq_true rfl, Nat.le_of_ble_eq_true rfl⟩) ⟨(fun a U g mk q => by obtain ⟨z0, z1, zP, zK, zD, zE⟩ := q; exact ⟨z0, z1, zP, va_K.moved (u := U) (U := U.calling g mk a) (Vm.Alike.refl U.vm) zK, zD, EN.frame zE⟩), va_recv hK hP (ci := 13) (q0 := 0) rfl rfl, fun U hU hW => ⟨rfl, by rw [hU], by rw [hU]; exact hPc, va_K.moved hW.alike hK, hDc.weaken (fun _ _ _ _ => trivial), EN.call hE hS hFc hW hU⟩⟩ rfl rfl hl.1 rfl (lv_room (Nat.le_of_ble_eq_true rfl)) dX12_choose_2 ⟨(Nat.le_of_ble_eq_true rfl), (Nat.le_of_ble_eq_true rfl)⟩) hS (fun q _ h => hFc q h) hFc (fun r_1 u_2 t H1 locs ht hvm hw hB hz1 hk1 hS => ?_)
  obtain ⟨-, hP1, hK1, hD1⟩ := hB
  rw [ht] at hP1
  obtain ⟨hP, hD⟩ := va_join (wr := []) (w1 := [(h, .inr (13, fs))]) hP hD [0] [] rfl rfl (by decide) (by decide) hk1 hFc hP1 hD1
  generalize H1 = H at hP hS ⊢
  have hP : va_P D vwCl [(h, .inr (13, fs))] H := hP
  have hD : va_D A [(h, .inr (13, fs))] := hD
  refine W.widen (k := 0) (n := 0) (Nat.le_of_ble_eq_true rfl) (Nat.le_of_ble_eq_true rfl) ?_
  have hw_3 := hw
  try dsimp only at hw_3
  obtain rfl : r_1 = 0 := hw_3
  refine lv_if_eq (tgt := 28) hx hb dX12_choose_5 (by decide) (fun _ => ?_) (fun c_4 => absurd (by decide) c_4)
  refine lv_iconst (v := 0) hx hb dX12_choose_28 (by decide) ?_
  refine lv_istore (lv' := [(4, .int 0), (0, .ref h), (1, .int f), (2, .int g), (3, .int j)]) hx hb dX12_choose_29 hl (by decide) rfl (fun ls hl => ?_)
  refine lv_iload hx hb dX12_choose_31 (lv_at hl 0 rfl) ?_
  refine lv_if_eq (tgt := 61) hx hb dX12_choose_33 (by decide) (fun _ => ?_) (fun c_5 => absurd (by decide) c_5)
  refine lv_iconst (v := 1) hx hb dX12_choose_61 (by decide) ?_
  refine lv_istore (lv' := [(5, .int 1), (4, .int 0), (0, .ref h), (1, .int f), (2, .int g), (3, .int j)]) hx hb dX12_choose_62 hl (by decide) rfl (fun ls hl => ?_)
  refine lv_aload_n hx hb dX12_choose_64 rfl (lv_at hl 2 rfl) ?_
  refine lv_iload hx hb dX12_choose_65 (lv_at hl 1 rfl) ?_
  refine lv_aload_n hx hb dX12_choose_67 rfl (lv_at hl 2 rfl) ?_
  refine va_get (D := D) (ci := 13) (v := .int 0) (C := RX12) (T := TX12) (N := 109) hx hb hts wc_X12_choose_X12 hown hK hP 0 rfl rfl 18 (by decide) (hts (.fieldLink RX12 288 "MixinUnitsModel" "nodes" "I") (wd_X12_choose _ (List.mem_of_getElem? (i := 4) rfl))) (fun _ h9 => h9) (FM.at hF (j := 3) (q := (18, .int 0)) rfl) dX12_choose_68 ?_
  refine lv_bipush (v := 40) hx hb dX12_choose_71 (by decide) ?_
  refine lv_icmp_ge (tgt := 87) hx hb dX12_choose_73 (by decide) (fun c_6 => absurd c_6 (by decide)) (fun _ => ?_)
  refine lv_iload hx hb dX12_choose_76 (lv_at hl 0 rfl) ?_
  refine lv_bipush (v := 24) hx hb dX12_choose_78 (by decide) ?_
  refine lv_icmp_gt (tgt := 87) hx hb dX12_choose_80 (by decide) (fun c_7 => absurd c_7 (by decide)) (fun _ => ?_)
  refine lv_iconst (v := 1) hx hb dX12_choose_83 (by decide) ?_
  refine lv_goto (tgt := 88) hx hb dX12_choose_84 (by decide) ?_
  refine lv_iconst (v := 1) hx hb dX12_choose_88 (by decide) ?_
  have hPc := hP.sub (ws' := [(h, .inr (13, fs))]) [0] rfl
  have hDc := hD.sub (ws' := [(h, .inr (13, fs))]) [0] (by decide) rfl
  have hFc := va_free (wc := [(h, .inr (13, fs))]) hD hS hA [0] rfl
  refine va_calli (va_runV (As := [.int 0, .int 1, .int 1]) (rest := []) ⟨hx, hb, hml, hown, hts⟩ (c_X12_goes_f l D dT H.size h fs 1 1 (FM.len hF)) (cwV 3 hts (goodIn_app (goodIn_r _ [6, 7, 8, 4] rfl (by decide +kernel)) (goodIn_sub wq_X12_choose_X12_goes_f gd_X12_goes_f)) rfl rfl rfl (by decide +kernel) ⟨Nat.le_of_ble_eq_true rfl, Nat.le_of_ble_eq_true rfl⟩) ⟨(fun a U g mk q => by obtain ⟨z0, z1, zP, zK, zD, zE⟩ := q; exact ⟨z0, z1, zP, va_K.moved (u := U) (U := U.calling g mk a) (Vm.Alike.refl U.vm) zK, zD, EN.frame zE⟩), va_recv hK hP (ci := 13) (q0 := 0) rfl rfl, fun U hU hW => ⟨rfl, by rw [hU], by rw [hU]; exact hPc, va_K.moved hW.alike hK, hDc.weaken (fun _ _ _ _ => trivial), EN.call hE hS hFc hW hU⟩⟩ rfl rfl hl.1 rfl (lv_room (Nat.le_of_ble_eq_true rfl)) dX12_choose_89 ⟨(Nat.le_of_ble_eq_true rfl), (Nat.le_of_ble_eq_true rfl)⟩) hS (fun q _ h => hFc q h) hFc (fun r_8 u_9 t H1 locs ht hvm hw hB hz1 hk1 hS => ?_)
  obtain ⟨-, hP1, hK1, hD1⟩ := hB
  rw [ht] at hP1
  obtain ⟨hP, hD⟩ := va_join (wr := []) (w1 := [(h, .inr (13, (List.set fs 25 (.int 1))))]) hP hD [0] [] rfl rfl (by decide) (by decide) hk1 hFc hP1 hD1
  generalize H1 = H at hP hS ⊢
  have hP : va_P D vwCl [(h, .inr (13, (List.set fs 25 (.int 1))))] H := hP
  have hD : va_D A [(h, .inr (13, (List.set fs 25 (.int 1))))] := hD
  refine W.widen (k := 0) (n := 0) (Nat.le_of_ble_eq_true rfl) (Nat.le_of_ble_eq_true rfl) ?_
  have hw_10 := hw
  try dsimp only at hw_10
  obtain rfl : r_8 = 0 := hw_10
  refine lv_if_eq (tgt := 109) hx hb dX12_choose_92 (by decide) (fun _ => ?_) (fun c_11 => absurd (by decide) c_11)
  refine lv_iconst (v := 0) hx hb dX12_choose_109 (by decide) ?_
  have hP9 := hP.sub (ws' := [(h, .inr (13, (List.set fs 25 (.int 1))))]) [0] rfl
  have hD9 := hD.sub (ws' := [(h, .inr (13, (List.set fs 25 (.int 1))))]) [0] (by decide) rfl
  exact W.iret (v := 0) hx hb hr (fun t ht hW => ⟨⟨_, (), rfl, rfl, (List.set fs 25 (.int 1)), (ls_self (FM.len hF) (Nat.le_of_ble_eq_true rfl)), by rw [ht]; exact hP9, va_K.moved hW.alike hK, hD9⟩, hS.F ht⟩) hS.2.2 dX12_choose_110
