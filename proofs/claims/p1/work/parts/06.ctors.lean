set_option maxHeartbeats 4000000 in
set_option maxRecDepth 100000 in
theorem fill_loop {p : Program} {l : Launch} {e : Env} {s : State} {m : MethodId} {args : Array Value} {below : List Frame} {meth : Method} {c : Code} {Q : State → Prop} {A : Nat → Prop} {H0 : Heap} {D : va_G} {dT : Nat → ClassId} {R : Room} {h n : Nat} {x : Int32} {cells slots : Nat} (hn : n < 2 ^ 31) (hx : p.tables.exec = Jvm.exec) (hb : c.code = cJ7_fill_53178) (hK : va_K D vwCl (tysW dT) s)
    (kx : ∀ (g : Nat → Int32) (H : Heap) (locs : List Loc) (ls : Array Slot), va_P D vwCl [(h, .inl (dT 0, n, .inl g))] H → va_D A [(h, .inl (dT 0, n, .inl g))] → va_S A H0 H locs → W p l e R s m args below meth c H locs cells slots Q (F0 m 20 ls [])) :
    ∀ (k j : Nat) (i : Int32) (g : Nat → Int32) (H : Heap) (locs : List Loc) (ls : Array Slot), j ≤ n → n - j < k → i = nI j → va_P D vwCl [(h, .inl (dT 0, n, .inl g))] H → va_D A [(h, .inl (dT 0, n, .inl g))] → va_S A H0 H locs → lv_has ls 4 [(2, .int i), (0, .ref h), (1, .int x), (3, .int (nI n))] → W p l e R s m args below meth c H locs cells slots Q (F0 m 5 ls []) := by
  intro k
  induction k with
  | zero => intro j i g H locs ls hj hk; omega
  | succ k ih =>
    intro j i g H locs ls hj hk ei hP hD hS hl
    refine lv_iload_n hx hb dJ7_fill_53178_5 rfl (lv_at hl 0 rfl) ?_
    refine lv_iload_n hx hb dJ7_fill_53178_6 rfl (lv_at hl 3 rfl) ?_
    refine lv_icmp_ge (tgt := 20) hx hb dJ7_fill_53178_7 (by decide) (fun c_1 => ?_) (fun c_1 => ?_)
    · exact kx g H locs ls hP hD hS
    · have hlt : j < n := by
        rcases Nat.lt_or_ge j n with q | q
        · exact q
        · exact absurd (by rw [ei]; exact nI_le q (by omega)) c_1
      have hin9 : vp_in i n := by rw [ei]; exact vp_in_nI hlt (by omega)
      refine lv_aload_n hx hb dJ7_fill_53178_10 rfl (lv_at hl 1 rfl) ?_
      refine lv_iload_n hx hb dJ7_fill_53178_11 rfl (lv_at hl 0 rfl) ?_
      refine lv_iload_n hx hb dJ7_fill_53178_12 rfl (lv_at hl 2 rfl) ?_
      refine va_iast hx hb hK hP hD hS 0 0 rfl rfl hin9 dJ7_fill_53178_13 (fun H locs hP hD hS => ?_)
      have hP : va_P D vwCl [(h, .inl (dT 0, n, .inl (upd g (Int32.toNatClampNeg i) x)))] H := hP
      have hD : va_D A [(h, .inl (dT 0, n, .inl (upd g (Int32.toNatClampNeg i) x)))] := hD
      obtain ⟨f_2, hf_2⟩ : ∃ g9 : Nat → Int32, g9 = upd g (Int32.toNatClampNeg i) x := ⟨_, rfl⟩
      rw [← hf_2] at hP hD
      obtain ⟨x_3, ex_3⟩ : ∃ y : Int32, y = i + 1 := ⟨_, rfl⟩
      refine lv_iinc (v := x_3) (lv' := [(2, .int x_3), (0, .ref h), (1, .int x), (3, .int (nI n))]) hx hb dJ7_fill_53178_14 hl (k := 0) rfl (by rw [ex_3]; rfl) (by decide) rfl (fun ls hl => ?_)
      refine lv_goto (tgt := 5) hx hb dJ7_fill_53178_17 (by decide) ?_
      exact ih (j + 1) x_3 _ _ _ _ (by omega) (by omega) (by rw [ex_3, ei]; exact nI_1 j) hP hD hS hl
def wD_fill : List Cond := []
def wK_fill : List Cond := .code yJ7_fill_53178 cJ7_fill_53178 4 none :: (wD_fill ++ ([] : List Cond))
theorem wd_fill : ∀ w ∈ wD_fill, w ∈ wK_fill := fun w h => List.mem_cons_of_mem _ (List.mem_append_left _ h)
theorem gd_fill : (wK_fill).all goodWord = true := by decide +kernel
set_option maxHeartbeats 4000000 in
set_option maxRecDepth 100000 in
theorem c_fill (l : Launch) (D : va_G) (dT : Nat → ClassId) (sz : Nat) (h : Nat) (n : Nat) (f : Nat → Int32) (x : Int32) (hn : n < 2 ^ 31) : Met l yJ7_fill_53178 wK_fill ({ frames := 0, cells := 0, slots := 0, locals := 0 }) (va_Pc [.ref h, .int x] (fun U => U.heap.size = sz ∧ va_P D vwCl [(h, .inl (dT 0, n, .inl f))] U.heap ∧ va_K D vwCl (tysW dT) U ∧ va_D (fun _ => True) [(h, .inl (dT 0, n, .inl f))] ∧ EN (va_A [(h, .inl (dT 0, n, .inl f))] sz) U)) (va_Qv (fun (_u : Unit) => True) (fun (_u : Unit) t => ∃ (f2 : Nat → Int32), True ∧ va_P D vwCl [(h, .inl (dT 0, n, .inl f2))] t.heap ∧ va_K D vwCl (tysW dT) t ∧ va_D (va_A [(h, .inl (dT 0, n, .inl f))] sz) [(h, .inl (dT 0, n, .inl f2))]) (va_A [(h, .inl (dT 0, n, .inl f))] sz)) 0 0 (va_A [(h, .inl (dT 0, n, .inl f))] sz) := by
  refine Met.ofW (cc := cJ7_fill_53178) (maxL := 4) (ret := none) (by decide) rfl ?_
  intro p e s m args below meth c s₁ B hml hv
  obtain ⟨rfl, hsz, hP, hK, hD0, hE⟩ := hv
  have hx := B.exec
  have hb := B.bytes
  have hr := B.returns
  have hts := atoms_spec (ws := wK_fill) B.pre
  have hown : s.vm.findClass RJ7 = some m.cls := findClass_of_methodNamed B.named
  have hlocks := B.notSynchronized
  subst hsz
  have hD := hD0.self (sz := s.heap.size)
  generalize hAe : va_A [(h, .inl (dT 0, n, .inl f))] s.heap.size = A at hD hE ⊢
  have hA : ∀ q : Nat, s.heap.size ≤ q → A q := fun q h => by rw [← hAe]; exact Or.inr h
  have hS : va_S A s.heap s.heap [] := va_S.rf
  have hP : va_P D vwCl [(h, .inl (dT 0, n, .inl f))] s.heap := hP
  have hl := lv_entry ([.ref h, .int x]) (n := 4) (Nat.le_of_ble_eq_true rfl)
  rw [lg_entry_eq]
  generalize (lg_sl ([.ref h, .int x]) ++ List.replicate (4 - (lg_sl ([.ref h, .int x])).length) Slot.unset).toArray = ls at hl ⊢
  have hl : lv_has ls 4 [(0, .ref h), (1, .int x)] := hl
  refine lv_iconst (v := 0) hx hb dJ7_fill_53178_0 (by decide) ?_
  refine lv_istore_n (lv' := [(2, .int 0), (0, .ref h), (1, .int x)]) hx hb dJ7_fill_53178_1 rfl hl (by decide) rfl (fun ls hl => ?_)
  refine lv_aload_n hx hb dJ7_fill_53178_2 rfl (lv_at hl 1 rfl) ?_
  refine va_alen hx hb hK hP 0 0 rfl rfl (v := nI n) rfl dJ7_fill_53178_3 ?_
  refine lv_istore_n (lv' := [(3, .int (nI n)), (2, .int 0), (0, .ref h), (1, .int x)]) hx hb dJ7_fill_53178_4 rfl hl (by decide) rfl (fun ls hl => ?_)
  exact fill_loop hn hx hb hK (fun g H locs ls hP hD hS => by
    have hP9 := hP.sub (ws' := [(h, .inl (dT 0, n, .inl g))]) [0] rfl
    have hD9 := hD.sub (ws' := [(h, .inl (dT 0, n, .inl g))]) [0] (by decide) rfl
    exact W.vret hx hb hr (fun t ht hW => ⟨⟨(), rfl, trivial, g, trivial, by rw [ht]; exact hP9, va_K.moved hW.alike hK, hD9⟩, hS.F ht⟩) hS.2.2 dJ7_fill_53178_20) (n + 1) 0 0 f _ _ ls (Nat.zero_le _) (by omega) nI_0.symm hP hD hS (lv_sub hl [1, 2, 3, 0] rfl)

def wD_X10_init : List Cond := [.methodLink RX10 3 objectInit, .instanceMethod objectInit, .code objectInit ⟨#[0xb1]⟩ 1 none, .arrayClass .int, .fieldLink RX10 9 "MixinUnits$Version" "types" "[I", .fieldLink RX10 15 "MixinUnits$Version" "valueTypes" "[I", .fieldLink RX10 18 "MixinUnits$Version" "expressions" "[I", .fieldLink RX10 21 "MixinUnits$Version" "flags" "[I", .methodLink RX10 24 yJ7_fill_53178, .static yJ7_fill_53178, .initialized RJ7]
def wK_X10_init : List Cond := .code yX10_init cX10_init 1 none :: (wD_X10_init ++ (wsX100 ++ (wK_fill ++ ([] : List Cond))))
theorem wd_X10_init : ∀ w ∈ wD_X10_init, w ∈ wK_X10_init := fun w h => List.mem_cons_of_mem _ (List.mem_append_left _ h)
theorem gd_X10_init : (wK_X10_init).all goodWord = true := by decide +kernel
theorem wc_X10_init_X10 : ∀ w ∈ wsX100, w ∈ wK_X10_init := fun w h => List.mem_cons_of_mem _ (List.mem_append_right _ (List.mem_append_left _ h))
theorem wq_X10_init_fill : ∀ w ∈ wK_fill, w ∈ wK_X10_init := fun w h => List.mem_cons_of_mem _ (List.mem_append_right _ (List.mem_append_right _ (List.mem_append_left _ h)))
set_option maxHeartbeats 4000000 in
set_option maxRecDepth 100000 in
/-- Version() -/
theorem c_X10_init (l : Launch) (D : va_G) (dT : Nat → ClassId) (sz : Nat) (h : Nat) : Met l yX10_init wK_X10_init ({ frames := 1, cells := 4, slots := 36, locals := 23 }) (va_Pc [.ref h] (fun U => U.heap.size = sz ∧ va_P D vwCl [(h, .inr (11, [.null, .null, .null, .null]))] U.heap ∧ va_K D vwCl (tysW dT) U ∧ va_D (fun _ => True) [(h, .inr (11, [.null, .null, .null, .null]))] ∧ EN (va_A [(h, .inr (11, [.null, .null, .null, .null]))] sz) U)) (va_Qv (fun (_u : Unit) => True) (fun (_u : Unit) t => ∃ (q0 : Nat), ∃ (q1 : Nat), ∃ (q2 : Nat), ∃ (q3 : Nat), True ∧ va_P D vwCl [(h, .inr (11, [.ref q0, .ref q1, .ref q2, .ref q3]))] t.heap ∧ va_K D vwCl (tysW dT) t ∧ va_D (va_A [(h, .inr (11, [.null, .null, .null, .null]))] sz) [(h, .inr (11, [.ref q0, .ref q1, .ref q2, .ref q3]))]) (va_A [(h, .inr (11, [.null, .null, .null, .null]))] sz)) 4 36 (va_A [(h, .inr (11, [.null, .null, .null, .null]))] sz) := by
  refine Met.ofW (cc := cX10_init) (maxL := 1) (ret := none) (by decide) rfl ?_
  intro p e s m args below meth c s₁ B hml hv
  obtain ⟨rfl, hsz, hP, hK, hD0, hE⟩ := hv
  have hx := B.exec
  have hb := B.bytes
  have hr := B.returns
  have hts := atoms_spec (ws := wK_X10_init) B.pre
  have hown : s.vm.findClass RX10 = some m.cls := findClass_of_methodNamed B.named
  have hlocks := B.notSynchronized
  have hin : meth.name = "<init>" := (name_of_methodNamed B.named B.method).1
  subst hsz
  have hD := hD0.self (sz := s.heap.size)
  generalize hAe : va_A [(h, .inr (11, [.null, .null, .null, .null]))] s.heap.size = A at hD hE ⊢
  have hA : ∀ q : Nat, s.heap.size ≤ q → A q := fun q h => by rw [← hAe]; exact Or.inr h
  have hS : va_S A s.heap s.heap [] := va_S.rf
  have hP : va_P D vwCl [(h, .inr (11, [.null, .null, .null, .null]))] s.heap := hP
  have hl := lv_entry ([.ref h]) (n := 1) (Nat.le_of_ble_eq_true rfl)
  rw [lg_entry_eq]
  generalize (lg_sl ([.ref h]) ++ List.replicate (1 - (lg_sl ([.ref h])).length) Slot.unset).toArray = ls at hl ⊢
  have hl : lv_has ls 1 [(0, .ref h)] := hl
  refine lv_aload_n hx hb dX10_init_0 rfl (lv_at hl 0 rfl) ?_
  refine W.objInit hx hb hown (hts (.methodLink RX10 3 objectInit) (wd_X10_init _ (List.mem_of_getElem? (i := 0) rfl))) (hts (.instanceMethod objectInit) (wd_X10_init _ (List.mem_of_getElem? (i := 1) rfl))) (hts (.code objectInit ⟨#[0xb1]⟩ 1 none) (wd_X10_init _ (List.mem_of_getElem? (i := 2) rfl))) rfl (by rw [hml]; exact hl.1) rfl dX10_init_1 (Nat.le_of_ble_eq_true rfl) (Nat.le_of_ble_eq_true rfl) ?_
  refine W.eq (g2 := F0 m 4 ls []) rfl ?_
  refine lv_aload_n hx hb dX10_init_4 rfl (lv_at hl 0 rfl) ?_
  refine lv_bipush (v := 6) hx hb dX10_init_5 (by decide) ?_
  refine va_newa1 (atype := .int) (ty := .int) (N' := 6) (a0 := (6, .inl (fun _ => 0))) 0 hx hb (hts (.arrayClass .int) (wd_X10_init _ (List.mem_of_getElem? (i := 3) rfl))) rfl rfl hK hP hD hS hA (fun _ => rfl) (by decide) (by decide) (Nat.le_of_ble_eq_true rfl) (Nat.le_of_ble_eq_true rfl) (Nat.le_of_ble_eq_true rfl) dX10_init_7 (fun q_1 H hP hD hS => ?_)
  have hP : va_P D vwCl [(h, .inr (11, [.null, .null, .null, .null])), (q_1, .inl (dT 0, 6, .inl (fun _ => 0)))] H := hP
  have hD : va_D A [(h, .inr (11, [.null, .null, .null, .null])), (q_1, .inl (dT 0, 6, .inl (fun _ => 0)))] := hD
  refine W.widen (k := 1) (n := 6) (Nat.le_of_ble_eq_true rfl) (Nat.le_of_ble_eq_true rfl) ?_
  refine va_putF (D := D) (ci := 11) (v := .ref q_1) (ty := .array .int) (C := RX10) (T := TX10) (N := 4) hx hb hts wc_X10_init_X10 tyX10 tyX10_ok nmX10 hown hK hP hD hS 0 rfl rfl 0 (by decide) (hts (.fieldLink RX10 9 "MixinUnits$Version" "types" "[I") (wd_X10_init _ (List.mem_of_getElem? (i := 4) rfl))) (fun _ h9 => h9) rfl hin rfl (by decide +kernel) rfl rfl (Nat.le_of_ble_eq_true rfl) dX10_init_9 (fun H locs hP hD hS => ?_)
  have hP : va_P D vwCl [(h, .inr (11, [.ref q_1, .null, .null, .null])), (q_1, .inl (dT 0, 6, .inl (fun _ => 0)))] H := hP
  have hD : va_D A [(h, .inr (11, [.ref q_1, .null, .null, .null])), (q_1, .inl (dT 0, 6, .inl (fun _ => 0)))] := hD
  refine lv_aload_n hx hb dX10_init_12 rfl (lv_at hl 0 rfl) ?_
  refine lv_bipush (v := 10) hx hb dX10_init_13 (by decide) ?_
  refine va_newa1 (atype := .int) (ty := .int) (N' := 10) (a0 := (10, .inl (fun _ => 0))) 0 hx hb (hts (.arrayClass .int) (wd_X10_init _ (List.mem_of_getElem? (i := 3) rfl))) rfl rfl hK hP hD hS hA (fun _ => rfl) (by decide) (by decide) (Nat.le_of_ble_eq_true rfl) (Nat.le_of_ble_eq_true rfl) (Nat.le_of_ble_eq_true rfl) dX10_init_15 (fun q_2 H hP hD hS => ?_)
  have hP : va_P D vwCl [(h, .inr (11, [.ref q_1, .null, .null, .null])), (q_1, .inl (dT 0, 6, .inl (fun _ => 0))), (q_2, .inl (dT 0, 10, .inl (fun _ => 0)))] H := hP
  have hD : va_D A [(h, .inr (11, [.ref q_1, .null, .null, .null])), (q_1, .inl (dT 0, 6, .inl (fun _ => 0))), (q_2, .inl (dT 0, 10, .inl (fun _ => 0)))] := hD
  refine W.widen (k := 2) (n := 16) (Nat.le_of_ble_eq_true rfl) (Nat.le_of_ble_eq_true rfl) ?_
  refine va_putF (D := D) (ci := 11) (v := .ref q_2) (ty := .array .int) (C := RX10) (T := TX10) (N := 4) hx hb hts wc_X10_init_X10 tyX10 tyX10_ok nmX10 hown hK hP hD hS 0 rfl rfl 1 (by decide) (hts (.fieldLink RX10 15 "MixinUnits$Version" "valueTypes" "[I") (wd_X10_init _ (List.mem_of_getElem? (i := 5) rfl))) (fun _ h9 => h9) rfl hin rfl (by decide +kernel) rfl rfl (Nat.le_of_ble_eq_true rfl) dX10_init_17 (fun H locs hP hD hS => ?_)
  have hP : va_P D vwCl [(h, .inr (11, [.ref q_1, .ref q_2, .null, .null])), (q_1, .inl (dT 0, 6, .inl (fun _ => 0))), (q_2, .inl (dT 0, 10, .inl (fun _ => 0)))] H := hP
  have hD : va_D A [(h, .inr (11, [.ref q_1, .ref q_2, .null, .null])), (q_1, .inl (dT 0, 6, .inl (fun _ => 0))), (q_2, .inl (dT 0, 10, .inl (fun _ => 0)))] := hD
  refine lv_aload_n hx hb dX10_init_20 rfl (lv_at hl 0 rfl) ?_
  refine lv_bipush (v := 10) hx hb dX10_init_21 (by decide) ?_
  refine va_newa1 (atype := .int) (ty := .int) (N' := 10) (a0 := (10, .inl (fun _ => 0))) 0 hx hb (hts (.arrayClass .int) (wd_X10_init _ (List.mem_of_getElem? (i := 3) rfl))) rfl rfl hK hP hD hS hA (fun _ => rfl) (by decide) (by decide) (Nat.le_of_ble_eq_true rfl) (Nat.le_of_ble_eq_true rfl) (Nat.le_of_ble_eq_true rfl) dX10_init_23 (fun q_3 H hP hD hS => ?_)
  have hP : va_P D vwCl [(h, .inr (11, [.ref q_1, .ref q_2, .null, .null])), (q_1, .inl (dT 0, 6, .inl (fun _ => 0))), (q_2, .inl (dT 0, 10, .inl (fun _ => 0))), (q_3, .inl (dT 0, 10, .inl (fun _ => 0)))] H := hP
  have hD : va_D A [(h, .inr (11, [.ref q_1, .ref q_2, .null, .null])), (q_1, .inl (dT 0, 6, .inl (fun _ => 0))), (q_2, .inl (dT 0, 10, .inl (fun _ => 0))), (q_3, .inl (dT 0, 10, .inl (fun _ => 0)))] := hD
  refine W.widen (k := 3) (n := 26) (Nat.le_of_ble_eq_true rfl) (Nat.le_of_ble_eq_true rfl) ?_
  refine va_putF (D := D) (ci := 11) (v := .ref q_3) (ty := .array .int) (C := RX10) (T := TX10) (N := 4) hx hb hts wc_X10_init_X10 tyX10 tyX10_ok nmX10 hown hK hP hD hS 0 rfl rfl 2 (by decide) (hts (.fieldLink RX10 18 "MixinUnits$Version" "expressions" "[I") (wd_X10_init _ (List.mem_of_getElem? (i := 6) rfl))) (fun _ h9 => h9) rfl hin rfl (by decide +kernel) rfl rfl (Nat.le_of_ble_eq_true rfl) dX10_init_25 (fun H locs hP hD hS => ?_)
  have hP : va_P D vwCl [(h, .inr (11, [.ref q_1, .ref q_2, .ref q_3, .null])), (q_1, .inl (dT 0, 6, .inl (fun _ => 0))), (q_2, .inl (dT 0, 10, .inl (fun _ => 0))), (q_3, .inl (dT 0, 10, .inl (fun _ => 0)))] H := hP
  have hD : va_D A [(h, .inr (11, [.ref q_1, .ref q_2, .ref q_3, .null])), (q_1, .inl (dT 0, 6, .inl (fun _ => 0))), (q_2, .inl (dT 0, 10, .inl (fun _ => 0))), (q_3, .inl (dT 0, 10, .inl (fun _ => 0)))] := hD
  refine lv_aload_n hx hb dX10_init_28 rfl (lv_at hl 0 rfl) ?_
  refine lv_bipush (v := 10) hx hb dX10_init_29 (by decide) ?_
  refine va_newa1 (atype := .int) (ty := .int) (N' := 10) (a0 := (10, .inl (fun _ => 0))) 0 hx hb (hts (.arrayClass .int) (wd_X10_init _ (List.mem_of_getElem? (i := 3) rfl))) rfl rfl hK hP hD hS hA (fun _ => rfl) (by decide) (by decide) (Nat.le_of_ble_eq_true rfl) (Nat.le_of_ble_eq_true rfl) (Nat.le_of_ble_eq_true rfl) dX10_init_31 (fun q_4 H hP hD hS => ?_)
  have hP : va_P D vwCl [(h, .inr (11, [.ref q_1, .ref q_2, .ref q_3, .null])), (q_1, .inl (dT 0, 6, .inl (fun _ => 0))), (q_2, .inl (dT 0, 10, .inl (fun _ => 0))), (q_3, .inl (dT 0, 10, .inl (fun _ => 0))), (q_4, .inl (dT 0, 10, .inl (fun _ => 0)))] H := hP
  have hD : va_D A [(h, .inr (11, [.ref q_1, .ref q_2, .ref q_3, .null])), (q_1, .inl (dT 0, 6, .inl (fun _ => 0))), (q_2, .inl (dT 0, 10, .inl (fun _ => 0))), (q_3, .inl (dT 0, 10, .inl (fun _ => 0))), (q_4, .inl (dT 0, 10, .inl (fun _ => 0)))] := hD
  refine W.widen (k := 4) (n := 36) (Nat.le_of_ble_eq_true rfl) (Nat.le_of_ble_eq_true rfl) ?_
  refine va_putF (D := D) (ci := 11) (v := .ref q_4) (ty := .array .int) (C := RX10) (T := TX10) (N := 4) hx hb hts wc_X10_init_X10 tyX10 tyX10_ok nmX10 hown hK hP hD hS 0 rfl rfl 3 (by decide) (hts (.fieldLink RX10 21 "MixinUnits$Version" "flags" "[I") (wd_X10_init _ (List.mem_of_getElem? (i := 7) rfl))) (fun _ h9 => h9) rfl hin rfl (by decide +kernel) rfl rfl (Nat.le_of_ble_eq_true rfl) dX10_init_33 (fun H locs hP hD hS => ?_)
  have hP : va_P D vwCl [(h, .inr (11, [.ref q_1, .ref q_2, .ref q_3, .ref q_4])), (q_1, .inl (dT 0, 6, .inl (fun _ => 0))), (q_2, .inl (dT 0, 10, .inl (fun _ => 0))), (q_3, .inl (dT 0, 10, .inl (fun _ => 0))), (q_4, .inl (dT 0, 10, .inl (fun _ => 0)))] H := hP
  have hD : va_D A [(h, .inr (11, [.ref q_1, .ref q_2, .ref q_3, .ref q_4])), (q_1, .inl (dT 0, 6, .inl (fun _ => 0))), (q_2, .inl (dT 0, 10, .inl (fun _ => 0))), (q_3, .inl (dT 0, 10, .inl (fun _ => 0))), (q_4, .inl (dT 0, 10, .inl (fun _ => 0)))] := hD
  refine lv_aload_n hx hb dX10_init_36 rfl (lv_at hl 0 rfl) ?_
  refine va_get (D := D) (ci := 11) (v := .ref q_1) (C := RX10) (T := TX10) (N := 4) hx hb hts wc_X10_init_X10 hown hK hP 0 rfl rfl 0 (by decide) (hts (.fieldLink RX10 9 "MixinUnits$Version" "types" "[I") (wd_X10_init _ (List.mem_of_getElem? (i := 4) rfl))) (fun _ h9 => h9) rfl dX10_init_37 ?_
  refine lv_bipush (v := (-2)) hx hb dX10_init_40 (by decide) ?_
  have hPc := hP.sub (ws' := [(q_1, .inl (dT 0, 6, .inl (fun _ => 0)))]) [1] rfl
  have hDc := hD.sub (ws' := [(q_1, .inl (dT 0, 6, .inl (fun _ => 0)))]) [1] (by decide) rfl
  have hFc := va_free (wc := [(q_1, .inl (dT 0, 6, .inl (fun _ => 0)))]) hD hS hA [1] rfl
  refine va_callv (va_runS (As := [.ref q_1, .int (-2)]) (rest := []) ⟨hx, hb, hml, hown, hts⟩ (c_fill l D dT H.size q_1 6 (fun _ => 0) (-2) (by decide)) (va_cwS 2 hts (goodIn_app (goodIn_r _ [9, 10, 11] rfl (by decide +kernel)) (goodIn_sub wq_X10_init_fill gd_fill)) rfl rfl rfl (by decide +kernel) ⟨Nat.le_of_ble_eq_true rfl, Nat.le_of_ble_eq_true rfl⟩) ⟨(fun a U g mk q => by obtain ⟨z0, z1, zP, zK, zD, zE⟩ := q; exact ⟨z0, z1, zP, va_K.moved (u := U) (U := U.calling g mk a) (Vm.Alike.refl U.vm) zK, zD, EN.frame zE⟩), fun U hU hW => ⟨rfl, by rw [hU], by rw [hU]; exact hPc, va_K.moved hW.alike hK, hDc.weaken (fun _ _ _ _ => trivial), EN.call hE hS hFc hW hU⟩⟩ rfl rfl hl.1 rfl (lv_room (Nat.le_of_ble_eq_true rfl)) dX10_init_42 ⟨(Nat.le_of_ble_eq_true rfl), (Nat.le_of_ble_eq_true rfl)⟩) hS (fun q _ h => hFc q h) hFc (fun u_5 t H1 locs ht hvm hw hB hz1 hk1 hS => ?_)
  obtain ⟨f2_6, -, hP1, hK1, hD1⟩ := hB
  rw [ht] at hP1
  obtain ⟨hP, hD⟩ := va_join (wr := [(h, .inr (11, [.ref q_1, .ref q_2, .ref q_3, .ref q_4])), (q_2, .inl (dT 0, 10, .inl (fun _ => 0))), (q_3, .inl (dT 0, 10, .inl (fun _ => 0))), (q_4, .inl (dT 0, 10, .inl (fun _ => 0)))]) (w1 := [(q_1, .inl (dT 0, 6, .inl f2_6))]) hP hD [1] [0, 2, 3, 4] rfl rfl (by decide) (by decide) hk1 hFc hP1 hD1
  generalize H1 = H at hP hS ⊢
  have hP : va_P D vwCl [(h, .inr (11, [.ref q_1, .ref q_2, .ref q_3, .ref q_4])), (q_2, .inl (dT 0, 10, .inl (fun _ => 0))), (q_3, .inl (dT 0, 10, .inl (fun _ => 0))), (q_4, .inl (dT 0, 10, .inl (fun _ => 0))), (q_1, .inl (dT 0, 6, .inl f2_6))] H := hP
  have hD : va_D A [(h, .inr (11, [.ref q_1, .ref q_2, .ref q_3, .ref q_4])), (q_2, .inl (dT 0, 10, .inl (fun _ => 0))), (q_3, .inl (dT 0, 10, .inl (fun _ => 0))), (q_4, .inl (dT 0, 10, .inl (fun _ => 0))), (q_1, .inl (dT 0, 6, .inl f2_6))] := hD
  refine W.widen (k := 4) (n := 36) (Nat.le_of_ble_eq_true rfl) (Nat.le_of_ble_eq_true rfl) ?_
  refine lv_aload_n hx hb dX10_init_45 rfl (lv_at hl 0 rfl) ?_
  refine va_get (D := D) (ci := 11) (v := .ref q_2) (C := RX10) (T := TX10) (N := 4) hx hb hts wc_X10_init_X10 hown hK hP 0 rfl rfl 1 (by decide) (hts (.fieldLink RX10 15 "MixinUnits$Version" "valueTypes" "[I") (wd_X10_init _ (List.mem_of_getElem? (i := 5) rfl))) (fun _ h9 => h9) rfl dX10_init_46 ?_
  refine lv_bipush (v := (-2)) hx hb dX10_init_49 (by decide) ?_
  have hPc := hP.sub (ws' := [(q_2, .inl (dT 0, 10, .inl (fun _ => 0)))]) [1] rfl
  have hDc := hD.sub (ws' := [(q_2, .inl (dT 0, 10, .inl (fun _ => 0)))]) [1] (by decide) rfl
  have hFc := va_free (wc := [(q_2, .inl (dT 0, 10, .inl (fun _ => 0)))]) hD hS hA [1] rfl
  refine va_callv (va_runS (As := [.ref q_2, .int (-2)]) (rest := []) ⟨hx, hb, hml, hown, hts⟩ (c_fill l D dT H.size q_2 10 (fun _ => 0) (-2) (by decide)) (va_cwS 2 hts (goodIn_app (goodIn_r _ [9, 10, 11] rfl (by decide +kernel)) (goodIn_sub wq_X10_init_fill gd_fill)) rfl rfl rfl (by decide +kernel) ⟨Nat.le_of_ble_eq_true rfl, Nat.le_of_ble_eq_true rfl⟩) ⟨(fun a U g mk q => by obtain ⟨z0, z1, zP, zK, zD, zE⟩ := q; exact ⟨z0, z1, zP, va_K.moved (u := U) (U := U.calling g mk a) (Vm.Alike.refl U.vm) zK, zD, EN.frame zE⟩), fun U hU hW => ⟨rfl, by rw [hU], by rw [hU]; exact hPc, va_K.moved hW.alike hK, hDc.weaken (fun _ _ _ _ => trivial), EN.call hE hS hFc hW hU⟩⟩ rfl rfl hl.1 rfl (lv_room (Nat.le_of_ble_eq_true rfl)) dX10_init_51 ⟨(Nat.le_of_ble_eq_true rfl), (Nat.le_of_ble_eq_true rfl)⟩) hS (fun q _ h => hFc q h) hFc (fun u_7 t H1 locs ht hvm hw hB hz1 hk1 hS => ?_)
  obtain ⟨f2_8, -, hP1, hK1, hD1⟩ := hB
  rw [ht] at hP1
  obtain ⟨hP, hD⟩ := va_join (wr := [(h, .inr (11, [.ref q_1, .ref q_2, .ref q_3, .ref q_4])), (q_3, .inl (dT 0, 10, .inl (fun _ => 0))), (q_4, .inl (dT 0, 10, .inl (fun _ => 0))), (q_1, .inl (dT 0, 6, .inl f2_6))]) (w1 := [(q_2, .inl (dT 0, 10, .inl f2_8))]) hP hD [1] [0, 2, 3, 4] rfl rfl (by decide) (by decide) hk1 hFc hP1 hD1
  generalize H1 = H at hP hS ⊢
  have hP : va_P D vwCl [(h, .inr (11, [.ref q_1, .ref q_2, .ref q_3, .ref q_4])), (q_3, .inl (dT 0, 10, .inl (fun _ => 0))), (q_4, .inl (dT 0, 10, .inl (fun _ => 0))), (q_1, .inl (dT 0, 6, .inl f2_6)), (q_2, .inl (dT 0, 10, .inl f2_8))] H := hP
  have hD : va_D A [(h, .inr (11, [.ref q_1, .ref q_2, .ref q_3, .ref q_4])), (q_3, .inl (dT 0, 10, .inl (fun _ => 0))), (q_4, .inl (dT 0, 10, .inl (fun _ => 0))), (q_1, .inl (dT 0, 6, .inl f2_6)), (q_2, .inl (dT 0, 10, .inl f2_8))] := hD
  refine W.widen (k := 4) (n := 36) (Nat.le_of_ble_eq_true rfl) (Nat.le_of_ble_eq_true rfl) ?_
  have hP9 := hP.sub (ws' := [(h, .inr (11, [.ref q_1, .ref q_2, .ref q_3, .ref q_4]))]) [0] rfl
  have hD9 := hD.sub (ws' := [(h, .inr (11, [.ref q_1, .ref q_2, .ref q_3, .ref q_4]))]) [0] (by decide) rfl
  exact W.vret hx hb hr (fun t ht hW => ⟨⟨(), rfl, trivial, q_1, q_2, q_3, q_4, trivial, by rw [ht]; exact hP9, va_K.moved hW.alike hK, hD9⟩, hS.F ht⟩) hS.2.2 dX10_init_54

def wD_X7_init : List Cond := [.methodLink RX7 1 objectInit, .instanceMethod objectInit, .code objectInit ⟨#[0xb1]⟩ 1 none, .arrayClass .int, .fieldLink RX7 9 "MixinUnits$Things" "made" "[I", .fieldLink RX7 13 "MixinUnits$Things" "heads" "[I", .methodLink RX7 16 yJ7_fill_53178, .static yJ7_fill_53178, .initialized RJ7]
def wK_X7_init : List Cond := .code yX7_init cX7_init 1 none :: (wD_X7_init ++ (wsX70 ++ (wK_fill ++ ([] : List Cond))))
theorem wd_X7_init : ∀ w ∈ wD_X7_init, w ∈ wK_X7_init := fun w h => List.mem_cons_of_mem _ (List.mem_append_left _ h)
theorem gd_X7_init : (wK_X7_init).all goodWord = true := by decide +kernel
theorem wc_X7_init_X7 : ∀ w ∈ wsX70, w ∈ wK_X7_init := fun w h => List.mem_cons_of_mem _ (List.mem_append_right _ (List.mem_append_left _ h))
theorem wq_X7_init_fill : ∀ w ∈ wK_fill, w ∈ wK_X7_init := fun w h => List.mem_cons_of_mem _ (List.mem_append_right _ (List.mem_append_right _ (List.mem_append_left _ h)))
set_option maxHeartbeats 4000000 in
set_option maxRecDepth 100000 in
/-- Things() -/
theorem c_X7_init (l : Launch) (D : va_G) (dT : Nat → ClassId) (sz : Nat) (h : Nat) : Met l yX7_init wK_X7_init ({ frames := 1, cells := 2, slots := 384, locals := 23 }) (va_Pc [.ref h] (fun U => U.heap.size = sz ∧ va_P D vwCl [(h, .inr (8, [.null, .int 0, .null]))] U.heap ∧ va_K D vwCl (tysW dT) U ∧ va_D (fun _ => True) [(h, .inr (8, [.null, .int 0, .null]))] ∧ EN (va_A [(h, .inr (8, [.null, .int 0, .null]))] sz) U)) (va_Qv (fun (_u : Unit) => True) (fun (_u : Unit) t => ∃ (q0 : Nat), ∃ (q2 : Nat), True ∧ va_P D vwCl [(h, .inr (8, [.ref q0, .int 0, .ref q2]))] t.heap ∧ va_K D vwCl (tysW dT) t ∧ va_D (va_A [(h, .inr (8, [.null, .int 0, .null]))] sz) [(h, .inr (8, [.ref q0, .int 0, .ref q2]))]) (va_A [(h, .inr (8, [.null, .int 0, .null]))] sz)) 2 384 (va_A [(h, .inr (8, [.null, .int 0, .null]))] sz) := by
  refine Met.ofW (cc := cX7_init) (maxL := 1) (ret := none) (by decide) rfl ?_
  intro p e s m args below meth c s₁ B hml hv
  obtain ⟨rfl, hsz, hP, hK, hD0, hE⟩ := hv
  have hx := B.exec
  have hb := B.bytes
  have hr := B.returns
  have hts := atoms_spec (ws := wK_X7_init) B.pre
  have hown : s.vm.findClass RX7 = some m.cls := findClass_of_methodNamed B.named
  have hlocks := B.notSynchronized
  have hin : meth.name = "<init>" := (name_of_methodNamed B.named B.method).1
  subst hsz
  have hD := hD0.self (sz := s.heap.size)
  generalize hAe : va_A [(h, .inr (8, [.null, .int 0, .null]))] s.heap.size = A at hD hE ⊢
  have hA : ∀ q : Nat, s.heap.size ≤ q → A q := fun q h => by rw [← hAe]; exact Or.inr h
  have hS : va_S A s.heap s.heap [] := va_S.rf
  have hP : va_P D vwCl [(h, .inr (8, [.null, .int 0, .null]))] s.heap := hP
  have hl := lv_entry ([.ref h]) (n := 1) (Nat.le_of_ble_eq_true rfl)
  rw [lg_entry_eq]
  generalize (lg_sl ([.ref h]) ++ List.replicate (1 - (lg_sl ([.ref h])).length) Slot.unset).toArray = ls at hl ⊢
  have hl : lv_has ls 1 [(0, .ref h)] := hl
  refine lv_aload_n hx hb dX7_init_0 rfl (lv_at hl 0 rfl) ?_
  refine W.objInit hx hb hown (hts (.methodLink RX7 1 objectInit) (wd_X7_init _ (List.mem_of_getElem? (i := 0) rfl))) (hts (.instanceMethod objectInit) (wd_X7_init _ (List.mem_of_getElem? (i := 1) rfl))) (hts (.code objectInit ⟨#[0xb1]⟩ 1 none) (wd_X7_init _ (List.mem_of_getElem? (i := 2) rfl))) rfl (by rw [hml]; exact hl.1) rfl dX7_init_1 (Nat.le_of_ble_eq_true rfl) (Nat.le_of_ble_eq_true rfl) ?_
  refine W.eq (g2 := F0 m 4 ls []) rfl ?_
  refine lv_aload_n hx hb dX7_init_4 rfl (lv_at hl 0 rfl) ?_
  refine lv_sipush (v := 320) hx hb dX7_init_5 (by decide) ?_
  refine va_newa1 (atype := .int) (ty := .int) (N' := 320) (a0 := (320, .inl (fun _ => 0))) 0 hx hb (hts (.arrayClass .int) (wd_X7_init _ (List.mem_of_getElem? (i := 3) rfl))) rfl rfl hK hP hD hS hA (fun _ => rfl) (by decide) (by decide) (Nat.le_of_ble_eq_true rfl) (Nat.le_of_ble_eq_true rfl) (Nat.le_of_ble_eq_true rfl) dX7_init_8 (fun q_1 H hP hD hS => ?_)
  have hP : va_P D vwCl [(h, .inr (8, [.null, .int 0, .null])), (q_1, .inl (dT 0, 320, .inl (fun _ => 0)))] H := hP
  have hD : va_D A [(h, .inr (8, [.null, .int 0, .null])), (q_1, .inl (dT 0, 320, .inl (fun _ => 0)))] := hD
  refine W.widen (k := 1) (n := 320) (Nat.le_of_ble_eq_true rfl) (Nat.le_of_ble_eq_true rfl) ?_
  refine va_put (D := D) (ci := 8) (v := .ref q_1) (ty := .array .int) (C := RX7) (T := TX7) (N := 3) hx hb hts wc_X7_init_X7 tyX7 tyX7_ok nmX7 hown hK hP hD hS 0 rfl rfl 0 (by decide) (hts (.fieldLink RX7 9 "MixinUnits$Things" "made" "[I") (wd_X7_init _ (List.mem_of_getElem? (i := 4) rfl))) (fun _ h9 => h9) rfl (by decide +kernel) rfl rfl (Nat.le_of_ble_eq_true rfl) dX7_init_10 (fun H locs hP hD hS => ?_)
  have hP : va_P D vwCl [(h, .inr (8, [.ref q_1, .int 0, .null])), (q_1, .inl (dT 0, 320, .inl (fun _ => 0)))] H := hP
  have hD : va_D A [(h, .inr (8, [.ref q_1, .int 0, .null])), (q_1, .inl (dT 0, 320, .inl (fun _ => 0)))] := hD
  refine lv_aload_n hx hb dX7_init_13 rfl (lv_at hl 0 rfl) ?_
  refine lv_bipush (v := 64) hx hb dX7_init_14 (by decide) ?_
  refine va_newa1 (atype := .int) (ty := .int) (N' := 64) (a0 := (64, .inl (fun _ => 0))) 0 hx hb (hts (.arrayClass .int) (wd_X7_init _ (List.mem_of_getElem? (i := 3) rfl))) rfl rfl hK hP hD hS hA (fun _ => rfl) (by decide) (by decide) (Nat.le_of_ble_eq_true rfl) (Nat.le_of_ble_eq_true rfl) (Nat.le_of_ble_eq_true rfl) dX7_init_16 (fun q_2 H hP hD hS => ?_)
  have hP : va_P D vwCl [(h, .inr (8, [.ref q_1, .int 0, .null])), (q_1, .inl (dT 0, 320, .inl (fun _ => 0))), (q_2, .inl (dT 0, 64, .inl (fun _ => 0)))] H := hP
  have hD : va_D A [(h, .inr (8, [.ref q_1, .int 0, .null])), (q_1, .inl (dT 0, 320, .inl (fun _ => 0))), (q_2, .inl (dT 0, 64, .inl (fun _ => 0)))] := hD
  refine W.widen (k := 2) (n := 384) (Nat.le_of_ble_eq_true rfl) (Nat.le_of_ble_eq_true rfl) ?_
  refine va_putF (D := D) (ci := 8) (v := .ref q_2) (ty := .array .int) (C := RX7) (T := TX7) (N := 3) hx hb hts wc_X7_init_X7 tyX7 tyX7_ok nmX7 hown hK hP hD hS 0 rfl rfl 2 (by decide) (hts (.fieldLink RX7 13 "MixinUnits$Things" "heads" "[I") (wd_X7_init _ (List.mem_of_getElem? (i := 5) rfl))) (fun _ h9 => h9) rfl hin rfl (by decide +kernel) rfl rfl (Nat.le_of_ble_eq_true rfl) dX7_init_18 (fun H locs hP hD hS => ?_)
  have hP : va_P D vwCl [(h, .inr (8, [.ref q_1, .int 0, .ref q_2])), (q_1, .inl (dT 0, 320, .inl (fun _ => 0))), (q_2, .inl (dT 0, 64, .inl (fun _ => 0)))] H := hP
  have hD : va_D A [(h, .inr (8, [.ref q_1, .int 0, .ref q_2])), (q_1, .inl (dT 0, 320, .inl (fun _ => 0))), (q_2, .inl (dT 0, 64, .inl (fun _ => 0)))] := hD
  refine lv_aload_n hx hb dX7_init_21 rfl (lv_at hl 0 rfl) ?_
  refine va_get (D := D) (ci := 8) (v := .ref q_2) (C := RX7) (T := TX7) (N := 3) hx hb hts wc_X7_init_X7 hown hK hP 0 rfl rfl 2 (by decide) (hts (.fieldLink RX7 13 "MixinUnits$Things" "heads" "[I") (wd_X7_init _ (List.mem_of_getElem? (i := 5) rfl))) (fun _ h9 => h9) rfl dX7_init_22 ?_
  refine lv_iconst (v := (-1)) hx hb dX7_init_25 (by decide) ?_
  have hPc := hP.sub (ws' := [(q_2, .inl (dT 0, 64, .inl (fun _ => 0)))]) [2] rfl
  have hDc := hD.sub (ws' := [(q_2, .inl (dT 0, 64, .inl (fun _ => 0)))]) [2] (by decide) rfl
  have hFc := va_free (wc := [(q_2, .inl (dT 0, 64, .inl (fun _ => 0)))]) hD hS hA [2] rfl
  refine va_callv (va_runS (As := [.ref q_2, .int (-1)]) (rest := []) ⟨hx, hb, hml, hown, hts⟩ (c_fill l D dT H.size q_2 64 (fun _ => 0) (-1) (by decide)) (va_cwS 2 hts (goodIn_app (goodIn_r _ [7, 8, 9] rfl (by decide +kernel)) (goodIn_sub wq_X7_init_fill gd_fill)) rfl rfl rfl (by decide +kernel) ⟨Nat.le_of_ble_eq_true rfl, Nat.le_of_ble_eq_true rfl⟩) ⟨(fun a U g mk q => by obtain ⟨z0, z1, zP, zK, zD, zE⟩ := q; exact ⟨z0, z1, zP, va_K.moved (u := U) (U := U.calling g mk a) (Vm.Alike.refl U.vm) zK, zD, EN.frame zE⟩), fun U hU hW => ⟨rfl, by rw [hU], by rw [hU]; exact hPc, va_K.moved hW.alike hK, hDc.weaken (fun _ _ _ _ => trivial), EN.call hE hS hFc hW hU⟩⟩ rfl rfl hl.1 rfl (lv_room (Nat.le_of_ble_eq_true rfl)) dX7_init_26 ⟨(Nat.le_of_ble_eq_true rfl), (Nat.le_of_ble_eq_true rfl)⟩) hS (fun q _ h => hFc q h) hFc (fun u_3 t H1 locs ht hvm hw hB hz1 hk1 hS => ?_)
  obtain ⟨f2_4, -, hP1, hK1, hD1⟩ := hB
  rw [ht] at hP1
  obtain ⟨hP, hD⟩ := va_join (wr := [(h, .inr (8, [.ref q_1, .int 0, .ref q_2])), (q_1, .inl (dT 0, 320, .inl (fun _ => 0)))]) (w1 := [(q_2, .inl (dT 0, 64, .inl f2_4))]) hP hD [2] [0, 1] rfl rfl (by decide) (by decide) hk1 hFc hP1 hD1
  generalize H1 = H at hP hS ⊢
  have hP : va_P D vwCl [(h, .inr (8, [.ref q_1, .int 0, .ref q_2])), (q_1, .inl (dT 0, 320, .inl (fun _ => 0))), (q_2, .inl (dT 0, 64, .inl f2_4))] H := hP
  have hD : va_D A [(h, .inr (8, [.ref q_1, .int 0, .ref q_2])), (q_1, .inl (dT 0, 320, .inl (fun _ => 0))), (q_2, .inl (dT 0, 64, .inl f2_4))] := hD
  refine W.widen (k := 2) (n := 384) (Nat.le_of_ble_eq_true rfl) (Nat.le_of_ble_eq_true rfl) ?_
  have hP9 := hP.sub (ws' := [(h, .inr (8, [.ref q_1, .int 0, .ref q_2]))]) [0] rfl
  have hD9 := hD.sub (ws' := [(h, .inr (8, [.ref q_1, .int 0, .ref q_2]))]) [0] (by decide) rfl
  exact W.vret hx hb hr (fun t ht hW => ⟨⟨(), rfl, trivial, q_1, q_2, trivial, by rw [ht]; exact hP9, va_K.moved hW.alike hK, hD9⟩, hS.F ht⟩) hS.2.2 dX7_init_29

def wD_X1_init : List Cond := [.methodLink RX1 3 objectInit, .instanceMethod objectInit, .code objectInit ⟨#[0xb1]⟩ 1 none, .classLink RX1 9 "[[I", .arrayClass .int, .fieldLink RX1 11 "MixinUnits$Filling" "told" "[[I", .fieldLink RX1 16 "MixinUnits$Filling" "toldSizes" "[I", .fieldLink RX1 20 "MixinUnits$Filling" "uses" "[I", .fieldLink RX1 23 "MixinUnits$Filling" "rows" "[[I", .fieldLink RX1 26 "MixinUnits$Filling" "sizes" "[I"]
def wK_X1_init : List Cond := .code yX1_init cX1_init 1 none :: (wD_X1_init ++ (wsX10 ++ ([] : List Cond)))
theorem wd_X1_init : ∀ w ∈ wD_X1_init, w ∈ wK_X1_init := fun w h => List.mem_cons_of_mem _ (List.mem_append_left _ h)
theorem gd_X1_init : (wK_X1_init).all goodWord = true := by decide +kernel
theorem wc_X1_init_X1 : ∀ w ∈ wsX10, w ∈ wK_X1_init := fun w h => List.mem_cons_of_mem _ (List.mem_append_right _ (List.mem_append_left _ h))
set_option maxHeartbeats 4000000 in
set_option maxRecDepth 100000 in
/-- Filling() -/
theorem c_X1_init (l : Launch) (D : va_G) (dT : Nat → ClassId) (sz : Nat) (h : Nat) : Met l yX1_init wK_X1_init ({ frames := 1, cells := 17, slots := 2430, locals := 12 }) (va_Pc [.ref h] (fun U => U.heap.size = sz ∧ va_P D vwCl [(h, .inr (2, [.null, .null, .null, .null, .null]))] U.heap ∧ va_K D vwCl (tysW dT) U ∧ va_D (fun _ => True) [(h, .inr (2, [.null, .null, .null, .null, .null]))] ∧ EN (va_A [(h, .inr (2, [.null, .null, .null, .null, .null]))] sz) U)) (va_Qv (fun (_u : Unit) => True) (fun (_u : Unit) t => ∃ (q0 : Nat), ∃ (q1 : Nat), ∃ (q2 : Nat), ∃ (q3 : Nat), ∃ (q4 : Nat), True ∧ va_P D vwCl [(h, .inr (2, [.ref q0, .ref q1, .ref q2, .ref q3, .ref q4]))] t.heap ∧ va_K D vwCl (tysW dT) t ∧ va_D (va_A [(h, .inr (2, [.null, .null, .null, .null, .null]))] sz) [(h, .inr (2, [.ref q0, .ref q1, .ref q2, .ref q3, .ref q4]))]) (va_A [(h, .inr (2, [.null, .null, .null, .null, .null]))] sz)) 17 2430 (va_A [(h, .inr (2, [.null, .null, .null, .null, .null]))] sz) := by
  refine Met.ofW (cc := cX1_init) (maxL := 1) (ret := none) (by decide) rfl ?_
  intro p e s m args below meth c s₁ B hml hv
  obtain ⟨rfl, hsz, hP, hK, hD0, hE⟩ := hv
  have hx := B.exec
  have hb := B.bytes
  have hr := B.returns
  have hts := atoms_spec (ws := wK_X1_init) B.pre
  have hown : s.vm.findClass RX1 = some m.cls := findClass_of_methodNamed B.named
  have hlocks := B.notSynchronized
  have hin : meth.name = "<init>" := (name_of_methodNamed B.named B.method).1
  subst hsz
  have hD := hD0.self (sz := s.heap.size)
  generalize hAe : va_A [(h, .inr (2, [.null, .null, .null, .null, .null]))] s.heap.size = A at hD hE ⊢
  have hA : ∀ q : Nat, s.heap.size ≤ q → A q := fun q h => by rw [← hAe]; exact Or.inr h
  have hS : va_S A s.heap s.heap [] := va_S.rf
  have hP : va_P D vwCl [(h, .inr (2, [.null, .null, .null, .null, .null]))] s.heap := hP
  have hl := lv_entry ([.ref h]) (n := 1) (Nat.le_of_ble_eq_true rfl)
  rw [lg_entry_eq]
  generalize (lg_sl ([.ref h]) ++ List.replicate (1 - (lg_sl ([.ref h])).length) Slot.unset).toArray = ls at hl ⊢
  have hl : lv_has ls 1 [(0, .ref h)] := hl
  refine lv_aload_n hx hb dX1_init_0 rfl (lv_at hl 0 rfl) ?_
  refine W.objInit hx hb hown (hts (.methodLink RX1 3 objectInit) (wd_X1_init _ (List.mem_of_getElem? (i := 0) rfl))) (hts (.instanceMethod objectInit) (wd_X1_init _ (List.mem_of_getElem? (i := 1) rfl))) (hts (.code objectInit ⟨#[0xb1]⟩ 1 none) (wd_X1_init _ (List.mem_of_getElem? (i := 2) rfl))) rfl (by rw [hml]; exact hl.1) rfl dX1_init_1 (Nat.le_of_ble_eq_true rfl) (Nat.le_of_ble_eq_true rfl) ?_
  refine W.eq (g2 := F0 m 4 ls []) rfl ?_
  refine lv_aload_n hx hb dX1_init_4 rfl (lv_at hl 0 rfl) ?_
  refine lv_bipush (v := 6) hx hb dX1_init_5 (by decide) ?_
  refine lv_sipush (v := 200) hx hb dX1_init_7 (by decide) ?_
  refine va_mna1 (N' := 6) (K' := 200) hx hb hown (hts (.classLink RX1 9 "[[I") (wd_X1_init _ (List.mem_of_getElem? (i := 3) rfl))) hE.1.aoa (hts (.arrayClass .int) (wd_X1_init _ (List.mem_of_getElem? (i := 4) rfl))) hK hP hD hS hA (by decide) (by decide) (by decide) (by decide) (by decide) (Nat.le_of_ble_eq_true rfl) (Nat.le_of_ble_eq_true rfl) (Nat.le_of_ble_eq_true rfl) (Nat.le_of_ble_eq_true rfl) (Nat.le_of_ble_eq_true rfl) dX1_init_10 (fun q_1 r_2 f_3 hf_3 H hP hD hS => ?_)
  have hP : va_P D vwCl [(h, .inr (2, [.null, .null, .null, .null, .null])), (q_1, .inl (dT 3, 6, .inr (.inr (.inr (.inr f_3))))), (r_2, .inl (dT 0, 200, .inl (fun _ => 0)))] H := hP
  have hD : va_D A [(h, .inr (2, [.null, .null, .null, .null, .null])), (q_1, .inl (dT 3, 6, .inr (.inr (.inr (.inr f_3))))), (r_2, .inl (dT 0, 200, .inl (fun _ => 0)))] := hD
  refine W.widen (k := 7) (n := 1206) (Nat.le_of_ble_eq_true rfl) (Nat.le_of_ble_eq_true rfl) ?_
  refine va_putF (D := D) (ci := 2) (v := .ref q_1) (ty := .array (.array .int)) (C := RX1) (T := TX1) (N := 5) hx hb hts wc_X1_init_X1 tyX1 tyX1_ok nmX1 hown hK hP hD hS 0 rfl rfl 0 (by decide) (hts (.fieldLink RX1 11 "MixinUnits$Filling" "told" "[[I") (wd_X1_init _ (List.mem_of_getElem? (i := 5) rfl))) (fun _ h9 => h9) rfl hin rfl (by decide +kernel) rfl rfl (Nat.le_of_ble_eq_true rfl) dX1_init_14 (fun H locs hP hD hS => ?_)
  have hP : va_P D vwCl [(h, .inr (2, [.ref q_1, .null, .null, .null, .null])), (q_1, .inl (dT 3, 6, .inr (.inr (.inr (.inr f_3))))), (r_2, .inl (dT 0, 200, .inl (fun _ => 0)))] H := hP
  have hD : va_D A [(h, .inr (2, [.ref q_1, .null, .null, .null, .null])), (q_1, .inl (dT 3, 6, .inr (.inr (.inr (.inr f_3))))), (r_2, .inl (dT 0, 200, .inl (fun _ => 0)))] := hD
  refine lv_aload_n hx hb dX1_init_17 rfl (lv_at hl 0 rfl) ?_
  refine lv_bipush (v := 6) hx hb dX1_init_18 (by decide) ?_
  refine va_newa1 (atype := .int) (ty := .int) (N' := 6) (a0 := (6, .inl (fun _ => 0))) 0 hx hb (hts (.arrayClass .int) (wd_X1_init _ (List.mem_of_getElem? (i := 4) rfl))) rfl rfl hK hP hD hS hA (fun _ => rfl) (by decide) (by decide) (Nat.le_of_ble_eq_true rfl) (Nat.le_of_ble_eq_true rfl) (Nat.le_of_ble_eq_true rfl) dX1_init_20 (fun q_4 H hP hD hS => ?_)
  have hP : va_P D vwCl [(h, .inr (2, [.ref q_1, .null, .null, .null, .null])), (q_1, .inl (dT 3, 6, .inr (.inr (.inr (.inr f_3))))), (r_2, .inl (dT 0, 200, .inl (fun _ => 0))), (q_4, .inl (dT 0, 6, .inl (fun _ => 0)))] H := hP
  have hD : va_D A [(h, .inr (2, [.ref q_1, .null, .null, .null, .null])), (q_1, .inl (dT 3, 6, .inr (.inr (.inr (.inr f_3))))), (r_2, .inl (dT 0, 200, .inl (fun _ => 0))), (q_4, .inl (dT 0, 6, .inl (fun _ => 0)))] := hD
  refine W.widen (k := 8) (n := 1212) (Nat.le_of_ble_eq_true rfl) (Nat.le_of_ble_eq_true rfl) ?_
  refine va_putF (D := D) (ci := 2) (v := .ref q_4) (ty := .array .int) (C := RX1) (T := TX1) (N := 5) hx hb hts wc_X1_init_X1 tyX1 tyX1_ok nmX1 hown hK hP hD hS 0 rfl rfl 1 (by decide) (hts (.fieldLink RX1 16 "MixinUnits$Filling" "toldSizes" "[I") (wd_X1_init _ (List.mem_of_getElem? (i := 6) rfl))) (fun _ h9 => h9) rfl hin rfl (by decide +kernel) rfl rfl (Nat.le_of_ble_eq_true rfl) dX1_init_22 (fun H locs hP hD hS => ?_)
  have hP : va_P D vwCl [(h, .inr (2, [.ref q_1, .ref q_4, .null, .null, .null])), (q_1, .inl (dT 3, 6, .inr (.inr (.inr (.inr f_3))))), (r_2, .inl (dT 0, 200, .inl (fun _ => 0))), (q_4, .inl (dT 0, 6, .inl (fun _ => 0)))] H := hP
  have hD : va_D A [(h, .inr (2, [.ref q_1, .ref q_4, .null, .null, .null])), (q_1, .inl (dT 3, 6, .inr (.inr (.inr (.inr f_3))))), (r_2, .inl (dT 0, 200, .inl (fun _ => 0))), (q_4, .inl (dT 0, 6, .inl (fun _ => 0)))] := hD
  refine lv_aload_n hx hb dX1_init_25 rfl (lv_at hl 0 rfl) ?_
  refine lv_bipush (v := 6) hx hb dX1_init_26 (by decide) ?_
  refine va_newa1 (atype := .int) (ty := .int) (N' := 6) (a0 := (6, .inl (fun _ => 0))) 0 hx hb (hts (.arrayClass .int) (wd_X1_init _ (List.mem_of_getElem? (i := 4) rfl))) rfl rfl hK hP hD hS hA (fun _ => rfl) (by decide) (by decide) (Nat.le_of_ble_eq_true rfl) (Nat.le_of_ble_eq_true rfl) (Nat.le_of_ble_eq_true rfl) dX1_init_28 (fun q_5 H hP hD hS => ?_)
  have hP : va_P D vwCl [(h, .inr (2, [.ref q_1, .ref q_4, .null, .null, .null])), (q_1, .inl (dT 3, 6, .inr (.inr (.inr (.inr f_3))))), (r_2, .inl (dT 0, 200, .inl (fun _ => 0))), (q_4, .inl (dT 0, 6, .inl (fun _ => 0))), (q_5, .inl (dT 0, 6, .inl (fun _ => 0)))] H := hP
  have hD : va_D A [(h, .inr (2, [.ref q_1, .ref q_4, .null, .null, .null])), (q_1, .inl (dT 3, 6, .inr (.inr (.inr (.inr f_3))))), (r_2, .inl (dT 0, 200, .inl (fun _ => 0))), (q_4, .inl (dT 0, 6, .inl (fun _ => 0))), (q_5, .inl (dT 0, 6, .inl (fun _ => 0)))] := hD
  refine W.widen (k := 9) (n := 1218) (Nat.le_of_ble_eq_true rfl) (Nat.le_of_ble_eq_true rfl) ?_
  refine va_putF (D := D) (ci := 2) (v := .ref q_5) (ty := .array .int) (C := RX1) (T := TX1) (N := 5) hx hb hts wc_X1_init_X1 tyX1 tyX1_ok nmX1 hown hK hP hD hS 0 rfl rfl 2 (by decide) (hts (.fieldLink RX1 20 "MixinUnits$Filling" "uses" "[I") (wd_X1_init _ (List.mem_of_getElem? (i := 7) rfl))) (fun _ h9 => h9) rfl hin rfl (by decide +kernel) rfl rfl (Nat.le_of_ble_eq_true rfl) dX1_init_30 (fun H locs hP hD hS => ?_)
  have hP : va_P D vwCl [(h, .inr (2, [.ref q_1, .ref q_4, .ref q_5, .null, .null])), (q_1, .inl (dT 3, 6, .inr (.inr (.inr (.inr f_3))))), (r_2, .inl (dT 0, 200, .inl (fun _ => 0))), (q_4, .inl (dT 0, 6, .inl (fun _ => 0))), (q_5, .inl (dT 0, 6, .inl (fun _ => 0)))] H := hP
  have hD : va_D A [(h, .inr (2, [.ref q_1, .ref q_4, .ref q_5, .null, .null])), (q_1, .inl (dT 3, 6, .inr (.inr (.inr (.inr f_3))))), (r_2, .inl (dT 0, 200, .inl (fun _ => 0))), (q_4, .inl (dT 0, 6, .inl (fun _ => 0))), (q_5, .inl (dT 0, 6, .inl (fun _ => 0)))] := hD
  refine lv_aload_n hx hb dX1_init_33 rfl (lv_at hl 0 rfl) ?_
  refine lv_bipush (v := 6) hx hb dX1_init_34 (by decide) ?_
  refine lv_sipush (v := 200) hx hb dX1_init_36 (by decide) ?_
  refine va_mna1 (N' := 6) (K' := 200) hx hb hown (hts (.classLink RX1 9 "[[I") (wd_X1_init _ (List.mem_of_getElem? (i := 3) rfl))) hE.1.aoa (hts (.arrayClass .int) (wd_X1_init _ (List.mem_of_getElem? (i := 4) rfl))) hK hP hD hS hA (by decide) (by decide) (by decide) (by decide) (by decide) (Nat.le_of_ble_eq_true rfl) (Nat.le_of_ble_eq_true rfl) (Nat.le_of_ble_eq_true rfl) (Nat.le_of_ble_eq_true rfl) (Nat.le_of_ble_eq_true rfl) dX1_init_39 (fun q_6 r_7 f_8 hf_8 H hP hD hS => ?_)
  have hP : va_P D vwCl [(h, .inr (2, [.ref q_1, .ref q_4, .ref q_5, .null, .null])), (q_1, .inl (dT 3, 6, .inr (.inr (.inr (.inr f_3))))), (r_2, .inl (dT 0, 200, .inl (fun _ => 0))), (q_4, .inl (dT 0, 6, .inl (fun _ => 0))), (q_5, .inl (dT 0, 6, .inl (fun _ => 0))), (q_6, .inl (dT 3, 6, .inr (.inr (.inr (.inr f_8))))), (r_7, .inl (dT 0, 200, .inl (fun _ => 0)))] H := hP
  have hD : va_D A [(h, .inr (2, [.ref q_1, .ref q_4, .ref q_5, .null, .null])), (q_1, .inl (dT 3, 6, .inr (.inr (.inr (.inr f_3))))), (r_2, .inl (dT 0, 200, .inl (fun _ => 0))), (q_4, .inl (dT 0, 6, .inl (fun _ => 0))), (q_5, .inl (dT 0, 6, .inl (fun _ => 0))), (q_6, .inl (dT 3, 6, .inr (.inr (.inr (.inr f_8))))), (r_7, .inl (dT 0, 200, .inl (fun _ => 0)))] := hD
  refine W.widen (k := 16) (n := 2424) (Nat.le_of_ble_eq_true rfl) (Nat.le_of_ble_eq_true rfl) ?_
  refine va_putF (D := D) (ci := 2) (v := .ref q_6) (ty := .array (.array .int)) (C := RX1) (T := TX1) (N := 5) hx hb hts wc_X1_init_X1 tyX1 tyX1_ok nmX1 hown hK hP hD hS 0 rfl rfl 3 (by decide) (hts (.fieldLink RX1 23 "MixinUnits$Filling" "rows" "[[I") (wd_X1_init _ (List.mem_of_getElem? (i := 8) rfl))) (fun _ h9 => h9) rfl hin rfl (by decide +kernel) rfl rfl (Nat.le_of_ble_eq_true rfl) dX1_init_43 (fun H locs hP hD hS => ?_)
  have hP : va_P D vwCl [(h, .inr (2, [.ref q_1, .ref q_4, .ref q_5, .ref q_6, .null])), (q_1, .inl (dT 3, 6, .inr (.inr (.inr (.inr f_3))))), (r_2, .inl (dT 0, 200, .inl (fun _ => 0))), (q_4, .inl (dT 0, 6, .inl (fun _ => 0))), (q_5, .inl (dT 0, 6, .inl (fun _ => 0))), (q_6, .inl (dT 3, 6, .inr (.inr (.inr (.inr f_8))))), (r_7, .inl (dT 0, 200, .inl (fun _ => 0)))] H := hP
  have hD : va_D A [(h, .inr (2, [.ref q_1, .ref q_4, .ref q_5, .ref q_6, .null])), (q_1, .inl (dT 3, 6, .inr (.inr (.inr (.inr f_3))))), (r_2, .inl (dT 0, 200, .inl (fun _ => 0))), (q_4, .inl (dT 0, 6, .inl (fun _ => 0))), (q_5, .inl (dT 0, 6, .inl (fun _ => 0))), (q_6, .inl (dT 3, 6, .inr (.inr (.inr (.inr f_8))))), (r_7, .inl (dT 0, 200, .inl (fun _ => 0)))] := hD
  refine lv_aload_n hx hb dX1_init_46 rfl (lv_at hl 0 rfl) ?_
  refine lv_bipush (v := 6) hx hb dX1_init_47 (by decide) ?_
  refine va_newa1 (atype := .int) (ty := .int) (N' := 6) (a0 := (6, .inl (fun _ => 0))) 0 hx hb (hts (.arrayClass .int) (wd_X1_init _ (List.mem_of_getElem? (i := 4) rfl))) rfl rfl hK hP hD hS hA (fun _ => rfl) (by decide) (by decide) (Nat.le_of_ble_eq_true rfl) (Nat.le_of_ble_eq_true rfl) (Nat.le_of_ble_eq_true rfl) dX1_init_49 (fun q_9 H hP hD hS => ?_)
  have hP : va_P D vwCl [(h, .inr (2, [.ref q_1, .ref q_4, .ref q_5, .ref q_6, .null])), (q_1, .inl (dT 3, 6, .inr (.inr (.inr (.inr f_3))))), (r_2, .inl (dT 0, 200, .inl (fun _ => 0))), (q_4, .inl (dT 0, 6, .inl (fun _ => 0))), (q_5, .inl (dT 0, 6, .inl (fun _ => 0))), (q_6, .inl (dT 3, 6, .inr (.inr (.inr (.inr f_8))))), (r_7, .inl (dT 0, 200, .inl (fun _ => 0))), (q_9, .inl (dT 0, 6, .inl (fun _ => 0)))] H := hP
  have hD : va_D A [(h, .inr (2, [.ref q_1, .ref q_4, .ref q_5, .ref q_6, .null])), (q_1, .inl (dT 3, 6, .inr (.inr (.inr (.inr f_3))))), (r_2, .inl (dT 0, 200, .inl (fun _ => 0))), (q_4, .inl (dT 0, 6, .inl (fun _ => 0))), (q_5, .inl (dT 0, 6, .inl (fun _ => 0))), (q_6, .inl (dT 3, 6, .inr (.inr (.inr (.inr f_8))))), (r_7, .inl (dT 0, 200, .inl (fun _ => 0))), (q_9, .inl (dT 0, 6, .inl (fun _ => 0)))] := hD
  refine W.widen (k := 17) (n := 2430) (Nat.le_of_ble_eq_true rfl) (Nat.le_of_ble_eq_true rfl) ?_
  refine va_putF (D := D) (ci := 2) (v := .ref q_9) (ty := .array .int) (C := RX1) (T := TX1) (N := 5) hx hb hts wc_X1_init_X1 tyX1 tyX1_ok nmX1 hown hK hP hD hS 0 rfl rfl 4 (by decide) (hts (.fieldLink RX1 26 "MixinUnits$Filling" "sizes" "[I") (wd_X1_init _ (List.mem_of_getElem? (i := 9) rfl))) (fun _ h9 => h9) rfl hin rfl (by decide +kernel) rfl rfl (Nat.le_of_ble_eq_true rfl) dX1_init_51 (fun H locs hP hD hS => ?_)
  have hP : va_P D vwCl [(h, .inr (2, [.ref q_1, .ref q_4, .ref q_5, .ref q_6, .ref q_9])), (q_1, .inl (dT 3, 6, .inr (.inr (.inr (.inr f_3))))), (r_2, .inl (dT 0, 200, .inl (fun _ => 0))), (q_4, .inl (dT 0, 6, .inl (fun _ => 0))), (q_5, .inl (dT 0, 6, .inl (fun _ => 0))), (q_6, .inl (dT 3, 6, .inr (.inr (.inr (.inr f_8))))), (r_7, .inl (dT 0, 200, .inl (fun _ => 0))), (q_9, .inl (dT 0, 6, .inl (fun _ => 0)))] H := hP
  have hD : va_D A [(h, .inr (2, [.ref q_1, .ref q_4, .ref q_5, .ref q_6, .ref q_9])), (q_1, .inl (dT 3, 6, .inr (.inr (.inr (.inr f_3))))), (r_2, .inl (dT 0, 200, .inl (fun _ => 0))), (q_4, .inl (dT 0, 6, .inl (fun _ => 0))), (q_5, .inl (dT 0, 6, .inl (fun _ => 0))), (q_6, .inl (dT 3, 6, .inr (.inr (.inr (.inr f_8))))), (r_7, .inl (dT 0, 200, .inl (fun _ => 0))), (q_9, .inl (dT 0, 6, .inl (fun _ => 0)))] := hD
  have hP9 := hP.sub (ws' := [(h, .inr (2, [.ref q_1, .ref q_4, .ref q_5, .ref q_6, .ref q_9]))]) [0] rfl
  have hD9 := hD.sub (ws' := [(h, .inr (2, [.ref q_1, .ref q_4, .ref q_5, .ref q_6, .ref q_9]))]) [0] (by decide) rfl
  exact W.vret hx hb hr (fun t ht hW => ⟨⟨(), rfl, trivial, q_1, q_4, q_5, q_6, q_9, trivial, by rw [ht]; exact hP9, va_K.moved hW.alike hK, hD9⟩, hS.F ht⟩) hS.2.2 dX1_init_54

def wD_X0_init : List Cond := [.methodLink RX0 3 objectInit, .instanceMethod objectInit, .code objectInit ⟨#[0xb1]⟩ 1 none, .arrayClass .int, .fieldLink RX0 9 "MixinUnits$Face" "types" "[I", .fieldLink RX0 15 "MixinUnits$Face" "values" "[I", .classLink RX0 18 "[[I", .fieldLink RX0 20 "MixinUnits$Face" "rows" "[[I", .fieldLink RX0 23 "MixinUnits$Face" "sizes" "[I", .arrayClass .boolean, .fieldLink RX0 26 "MixinUnits$Face" "showsNumber" "[Z", .fieldLink RX0 30 "MixinUnits$Face" "numbers" "[I"]
def wK_X0_init : List Cond := .code yX0_init cX0_init 1 none :: (wD_X0_init ++ (wsX00 ++ ([] : List Cond)))
theorem wd_X0_init : ∀ w ∈ wD_X0_init, w ∈ wK_X0_init := fun w h => List.mem_cons_of_mem _ (List.mem_append_left _ h)
theorem gd_X0_init : (wK_X0_init).all goodWord = true := by decide +kernel
theorem wc_X0_init_X0 : ∀ w ∈ wsX00, w ∈ wK_X0_init := fun w h => List.mem_cons_of_mem _ (List.mem_append_right _ (List.mem_append_left _ h))
set_option maxHeartbeats 4000000 in
set_option maxRecDepth 100000 in
/-- Face() -/
theorem c_X0_init (l : Launch) (D : va_G) (dT : Nat → ClassId) (sz : Nat) (h : Nat) : Met l yX0_init wK_X0_init ({ frames := 1, cells := 22, slots := 132, locals := 12 }) (va_Pc [.ref h] (fun U => U.heap.size = sz ∧ va_P D vwCl [(h, .inr (1, [.int 0, .null, .null, .null, .null, .null, .null]))] U.heap ∧ va_K D vwCl (tysW dT) U ∧ va_D (fun _ => True) [(h, .inr (1, [.int 0, .null, .null, .null, .null, .null, .null]))] ∧ EN (va_A [(h, .inr (1, [.int 0, .null, .null, .null, .null, .null, .null]))] sz) U)) (va_Qv (fun (_u : Unit) => True) (fun (_u : Unit) t => ∃ (q1 : Nat), ∃ (q2 : Nat), ∃ (q3 : Nat), ∃ (q4 : Nat), ∃ (q5 : Nat), ∃ (q6 : Nat), True ∧ va_P D vwCl [(h, .inr (1, [.int 0, .ref q1, .ref q2, .ref q3, .ref q4, .ref q5, .ref q6]))] t.heap ∧ va_K D vwCl (tysW dT) t ∧ va_D (va_A [(h, .inr (1, [.int 0, .null, .null, .null, .null, .null, .null]))] sz) [(h, .inr (1, [.int 0, .ref q1, .ref q2, .ref q3, .ref q4, .ref q5, .ref q6]))]) (va_A [(h, .inr (1, [.int 0, .null, .null, .null, .null, .null, .null]))] sz)) 22 132 (va_A [(h, .inr (1, [.int 0, .null, .null, .null, .null, .null, .null]))] sz) := by
  refine Met.ofW (cc := cX0_init) (maxL := 1) (ret := none) (by decide) rfl ?_
  intro p e s m args below meth c s₁ B hml hv
  obtain ⟨rfl, hsz, hP, hK, hD0, hE⟩ := hv
  have hx := B.exec
  have hb := B.bytes
  have hr := B.returns
  have hts := atoms_spec (ws := wK_X0_init) B.pre
  have hown : s.vm.findClass RX0 = some m.cls := findClass_of_methodNamed B.named
  have hlocks := B.notSynchronized
  have hin : meth.name = "<init>" := (name_of_methodNamed B.named B.method).1
  subst hsz
  have hD := hD0.self (sz := s.heap.size)
  generalize hAe : va_A [(h, .inr (1, [.int 0, .null, .null, .null, .null, .null, .null]))] s.heap.size = A at hD hE ⊢
  have hA : ∀ q : Nat, s.heap.size ≤ q → A q := fun q h => by rw [← hAe]; exact Or.inr h
  have hS : va_S A s.heap s.heap [] := va_S.rf
  have hP : va_P D vwCl [(h, .inr (1, [.int 0, .null, .null, .null, .null, .null, .null]))] s.heap := hP
  have hl := lv_entry ([.ref h]) (n := 1) (Nat.le_of_ble_eq_true rfl)
  rw [lg_entry_eq]
  generalize (lg_sl ([.ref h]) ++ List.replicate (1 - (lg_sl ([.ref h])).length) Slot.unset).toArray = ls at hl ⊢
  have hl : lv_has ls 1 [(0, .ref h)] := hl
  refine lv_aload_n hx hb dX0_init_0 rfl (lv_at hl 0 rfl) ?_
  refine W.objInit hx hb hown (hts (.methodLink RX0 3 objectInit) (wd_X0_init _ (List.mem_of_getElem? (i := 0) rfl))) (hts (.instanceMethod objectInit) (wd_X0_init _ (List.mem_of_getElem? (i := 1) rfl))) (hts (.code objectInit ⟨#[0xb1]⟩ 1 none) (wd_X0_init _ (List.mem_of_getElem? (i := 2) rfl))) rfl (by rw [hml]; exact hl.1) rfl dX0_init_1 (Nat.le_of_ble_eq_true rfl) (Nat.le_of_ble_eq_true rfl) ?_
  refine W.eq (g2 := F0 m 4 ls []) rfl ?_
  refine lv_aload_n hx hb dX0_init_4 rfl (lv_at hl 0 rfl) ?_
  refine lv_bipush (v := 6) hx hb dX0_init_5 (by decide) ?_
  refine va_newa1 (atype := .int) (ty := .int) (N' := 6) (a0 := (6, .inl (fun _ => 0))) 0 hx hb (hts (.arrayClass .int) (wd_X0_init _ (List.mem_of_getElem? (i := 3) rfl))) rfl rfl hK hP hD hS hA (fun _ => rfl) (by decide) (by decide) (Nat.le_of_ble_eq_true rfl) (Nat.le_of_ble_eq_true rfl) (Nat.le_of_ble_eq_true rfl) dX0_init_7 (fun q_1 H hP hD hS => ?_)
  have hP : va_P D vwCl [(h, .inr (1, [.int 0, .null, .null, .null, .null, .null, .null])), (q_1, .inl (dT 0, 6, .inl (fun _ => 0)))] H := hP
  have hD : va_D A [(h, .inr (1, [.int 0, .null, .null, .null, .null, .null, .null])), (q_1, .inl (dT 0, 6, .inl (fun _ => 0)))] := hD
  refine W.widen (k := 1) (n := 6) (Nat.le_of_ble_eq_true rfl) (Nat.le_of_ble_eq_true rfl) ?_
  refine va_putF (D := D) (ci := 1) (v := .ref q_1) (ty := .array .int) (C := RX0) (T := TX0) (N := 7) hx hb hts wc_X0_init_X0 tyX0 tyX0_ok nmX0 hown hK hP hD hS 0 rfl rfl 1 (by decide) (hts (.fieldLink RX0 9 "MixinUnits$Face" "types" "[I") (wd_X0_init _ (List.mem_of_getElem? (i := 4) rfl))) (fun _ h9 => h9) rfl hin rfl (by decide +kernel) rfl rfl (Nat.le_of_ble_eq_true rfl) dX0_init_9 (fun H locs hP hD hS => ?_)
  have hP : va_P D vwCl [(h, .inr (1, [.int 0, .ref q_1, .null, .null, .null, .null, .null])), (q_1, .inl (dT 0, 6, .inl (fun _ => 0)))] H := hP
  have hD : va_D A [(h, .inr (1, [.int 0, .ref q_1, .null, .null, .null, .null, .null])), (q_1, .inl (dT 0, 6, .inl (fun _ => 0)))] := hD
  refine lv_aload_n hx hb dX0_init_12 rfl (lv_at hl 0 rfl) ?_
  refine lv_bipush (v := 10) hx hb dX0_init_13 (by decide) ?_
  refine va_newa1 (atype := .int) (ty := .int) (N' := 10) (a0 := (10, .inl (fun _ => 0))) 0 hx hb (hts (.arrayClass .int) (wd_X0_init _ (List.mem_of_getElem? (i := 3) rfl))) rfl rfl hK hP hD hS hA (fun _ => rfl) (by decide) (by decide) (Nat.le_of_ble_eq_true rfl) (Nat.le_of_ble_eq_true rfl) (Nat.le_of_ble_eq_true rfl) dX0_init_15 (fun q_2 H hP hD hS => ?_)
  have hP : va_P D vwCl [(h, .inr (1, [.int 0, .ref q_1, .null, .null, .null, .null, .null])), (q_1, .inl (dT 0, 6, .inl (fun _ => 0))), (q_2, .inl (dT 0, 10, .inl (fun _ => 0)))] H := hP
  have hD : va_D A [(h, .inr (1, [.int 0, .ref q_1, .null, .null, .null, .null, .null])), (q_1, .inl (dT 0, 6, .inl (fun _ => 0))), (q_2, .inl (dT 0, 10, .inl (fun _ => 0)))] := hD
  refine W.widen (k := 2) (n := 16) (Nat.le_of_ble_eq_true rfl) (Nat.le_of_ble_eq_true rfl) ?_
  refine va_putF (D := D) (ci := 1) (v := .ref q_2) (ty := .array .int) (C := RX0) (T := TX0) (N := 7) hx hb hts wc_X0_init_X0 tyX0 tyX0_ok nmX0 hown hK hP hD hS 0 rfl rfl 2 (by decide) (hts (.fieldLink RX0 15 "MixinUnits$Face" "values" "[I") (wd_X0_init _ (List.mem_of_getElem? (i := 5) rfl))) (fun _ h9 => h9) rfl hin rfl (by decide +kernel) rfl rfl (Nat.le_of_ble_eq_true rfl) dX0_init_17 (fun H locs hP hD hS => ?_)
  have hP : va_P D vwCl [(h, .inr (1, [.int 0, .ref q_1, .ref q_2, .null, .null, .null, .null])), (q_1, .inl (dT 0, 6, .inl (fun _ => 0))), (q_2, .inl (dT 0, 10, .inl (fun _ => 0)))] H := hP
  have hD : va_D A [(h, .inr (1, [.int 0, .ref q_1, .ref q_2, .null, .null, .null, .null])), (q_1, .inl (dT 0, 6, .inl (fun _ => 0))), (q_2, .inl (dT 0, 10, .inl (fun _ => 0)))] := hD
  refine lv_aload_n hx hb dX0_init_20 rfl (lv_at hl 0 rfl) ?_
  refine lv_bipush (v := 16) hx hb dX0_init_21 (by decide) ?_
  refine lv_iconst (v := 4) hx hb dX0_init_23 (by decide) ?_
  refine va_mna1 (N' := 16) (K' := 4) hx hb hown (hts (.classLink RX0 18 "[[I") (wd_X0_init _ (List.mem_of_getElem? (i := 6) rfl))) hE.1.aoa (hts (.arrayClass .int) (wd_X0_init _ (List.mem_of_getElem? (i := 3) rfl))) hK hP hD hS hA (by decide) (by decide) (by decide) (by decide) (by decide) (Nat.le_of_ble_eq_true rfl) (Nat.le_of_ble_eq_true rfl) (Nat.le_of_ble_eq_true rfl) (Nat.le_of_ble_eq_true rfl) (Nat.le_of_ble_eq_true rfl) dX0_init_24 (fun q_3 r_4 f_5 hf_5 H hP hD hS => ?_)
  have hP : va_P D vwCl [(h, .inr (1, [.int 0, .ref q_1, .ref q_2, .null, .null, .null, .null])), (q_1, .inl (dT 0, 6, .inl (fun _ => 0))), (q_2, .inl (dT 0, 10, .inl (fun _ => 0))), (q_3, .inl (dT 3, 16, .inr (.inr (.inr (.inr f_5))))), (r_4, .inl (dT 0, 4, .inl (fun _ => 0)))] H := hP
  have hD : va_D A [(h, .inr (1, [.int 0, .ref q_1, .ref q_2, .null, .null, .null, .null])), (q_1, .inl (dT 0, 6, .inl (fun _ => 0))), (q_2, .inl (dT 0, 10, .inl (fun _ => 0))), (q_3, .inl (dT 3, 16, .inr (.inr (.inr (.inr f_5))))), (r_4, .inl (dT 0, 4, .inl (fun _ => 0)))] := hD
  refine W.widen (k := 19) (n := 96) (Nat.le_of_ble_eq_true rfl) (Nat.le_of_ble_eq_true rfl) ?_
  refine va_putF (D := D) (ci := 1) (v := .ref q_3) (ty := .array (.array .int)) (C := RX0) (T := TX0) (N := 7) hx hb hts wc_X0_init_X0 tyX0 tyX0_ok nmX0 hown hK hP hD hS 0 rfl rfl 3 (by decide) (hts (.fieldLink RX0 20 "MixinUnits$Face" "rows" "[[I") (wd_X0_init _ (List.mem_of_getElem? (i := 7) rfl))) (fun _ h9 => h9) rfl hin rfl (by decide +kernel) rfl rfl (Nat.le_of_ble_eq_true rfl) dX0_init_28 (fun H locs hP hD hS => ?_)
  have hP : va_P D vwCl [(h, .inr (1, [.int 0, .ref q_1, .ref q_2, .ref q_3, .null, .null, .null])), (q_1, .inl (dT 0, 6, .inl (fun _ => 0))), (q_2, .inl (dT 0, 10, .inl (fun _ => 0))), (q_3, .inl (dT 3, 16, .inr (.inr (.inr (.inr f_5))))), (r_4, .inl (dT 0, 4, .inl (fun _ => 0)))] H := hP
  have hD : va_D A [(h, .inr (1, [.int 0, .ref q_1, .ref q_2, .ref q_3, .null, .null, .null])), (q_1, .inl (dT 0, 6, .inl (fun _ => 0))), (q_2, .inl (dT 0, 10, .inl (fun _ => 0))), (q_3, .inl (dT 3, 16, .inr (.inr (.inr (.inr f_5))))), (r_4, .inl (dT 0, 4, .inl (fun _ => 0)))] := hD
  refine lv_aload_n hx hb dX0_init_31 rfl (lv_at hl 0 rfl) ?_
  refine lv_bipush (v := 16) hx hb dX0_init_32 (by decide) ?_
  refine va_newa1 (atype := .int) (ty := .int) (N' := 16) (a0 := (16, .inl (fun _ => 0))) 0 hx hb (hts (.arrayClass .int) (wd_X0_init _ (List.mem_of_getElem? (i := 3) rfl))) rfl rfl hK hP hD hS hA (fun _ => rfl) (by decide) (by decide) (Nat.le_of_ble_eq_true rfl) (Nat.le_of_ble_eq_true rfl) (Nat.le_of_ble_eq_true rfl) dX0_init_34 (fun q_6 H hP hD hS => ?_)
  have hP : va_P D vwCl [(h, .inr (1, [.int 0, .ref q_1, .ref q_2, .ref q_3, .null, .null, .null])), (q_1, .inl (dT 0, 6, .inl (fun _ => 0))), (q_2, .inl (dT 0, 10, .inl (fun _ => 0))), (q_3, .inl (dT 3, 16, .inr (.inr (.inr (.inr f_5))))), (r_4, .inl (dT 0, 4, .inl (fun _ => 0))), (q_6, .inl (dT 0, 16, .inl (fun _ => 0)))] H := hP
  have hD : va_D A [(h, .inr (1, [.int 0, .ref q_1, .ref q_2, .ref q_3, .null, .null, .null])), (q_1, .inl (dT 0, 6, .inl (fun _ => 0))), (q_2, .inl (dT 0, 10, .inl (fun _ => 0))), (q_3, .inl (dT 3, 16, .inr (.inr (.inr (.inr f_5))))), (r_4, .inl (dT 0, 4, .inl (fun _ => 0))), (q_6, .inl (dT 0, 16, .inl (fun _ => 0)))] := hD
  refine W.widen (k := 20) (n := 112) (Nat.le_of_ble_eq_true rfl) (Nat.le_of_ble_eq_true rfl) ?_
  refine va_putF (D := D) (ci := 1) (v := .ref q_6) (ty := .array .int) (C := RX0) (T := TX0) (N := 7) hx hb hts wc_X0_init_X0 tyX0 tyX0_ok nmX0 hown hK hP hD hS 0 rfl rfl 4 (by decide) (hts (.fieldLink RX0 23 "MixinUnits$Face" "sizes" "[I") (wd_X0_init _ (List.mem_of_getElem? (i := 8) rfl))) (fun _ h9 => h9) rfl hin rfl (by decide +kernel) rfl rfl (Nat.le_of_ble_eq_true rfl) dX0_init_36 (fun H locs hP hD hS => ?_)
  have hP : va_P D vwCl [(h, .inr (1, [.int 0, .ref q_1, .ref q_2, .ref q_3, .ref q_6, .null, .null])), (q_1, .inl (dT 0, 6, .inl (fun _ => 0))), (q_2, .inl (dT 0, 10, .inl (fun _ => 0))), (q_3, .inl (dT 3, 16, .inr (.inr (.inr (.inr f_5))))), (r_4, .inl (dT 0, 4, .inl (fun _ => 0))), (q_6, .inl (dT 0, 16, .inl (fun _ => 0)))] H := hP
  have hD : va_D A [(h, .inr (1, [.int 0, .ref q_1, .ref q_2, .ref q_3, .ref q_6, .null, .null])), (q_1, .inl (dT 0, 6, .inl (fun _ => 0))), (q_2, .inl (dT 0, 10, .inl (fun _ => 0))), (q_3, .inl (dT 3, 16, .inr (.inr (.inr (.inr f_5))))), (r_4, .inl (dT 0, 4, .inl (fun _ => 0))), (q_6, .inl (dT 0, 16, .inl (fun _ => 0)))] := hD
  refine lv_aload_n hx hb dX0_init_39 rfl (lv_at hl 0 rfl) ?_
  refine lv_bipush (v := 10) hx hb dX0_init_40 (by decide) ?_
  refine va_newa1 (atype := .boolean) (ty := .boolean) (N' := 10) (a0 := (10, .inl (fun _ => 0))) 2 hx hb (hts (.arrayClass .boolean) (wd_X0_init _ (List.mem_of_getElem? (i := 9) rfl))) rfl rfl hK hP hD hS hA (fun _ => rfl) (by decide) (by decide) (Nat.le_of_ble_eq_true rfl) (Nat.le_of_ble_eq_true rfl) (Nat.le_of_ble_eq_true rfl) dX0_init_42 (fun q_7 H hP hD hS => ?_)
  have hP : va_P D vwCl [(h, .inr (1, [.int 0, .ref q_1, .ref q_2, .ref q_3, .ref q_6, .null, .null])), (q_1, .inl (dT 0, 6, .inl (fun _ => 0))), (q_2, .inl (dT 0, 10, .inl (fun _ => 0))), (q_3, .inl (dT 3, 16, .inr (.inr (.inr (.inr f_5))))), (r_4, .inl (dT 0, 4, .inl (fun _ => 0))), (q_6, .inl (dT 0, 16, .inl (fun _ => 0))), (q_7, .inl (dT 2, 10, .inl (fun _ => 0)))] H := hP
  have hD : va_D A [(h, .inr (1, [.int 0, .ref q_1, .ref q_2, .ref q_3, .ref q_6, .null, .null])), (q_1, .inl (dT 0, 6, .inl (fun _ => 0))), (q_2, .inl (dT 0, 10, .inl (fun _ => 0))), (q_3, .inl (dT 3, 16, .inr (.inr (.inr (.inr f_5))))), (r_4, .inl (dT 0, 4, .inl (fun _ => 0))), (q_6, .inl (dT 0, 16, .inl (fun _ => 0))), (q_7, .inl (dT 2, 10, .inl (fun _ => 0)))] := hD
  refine W.widen (k := 21) (n := 122) (Nat.le_of_ble_eq_true rfl) (Nat.le_of_ble_eq_true rfl) ?_
  refine va_putF (D := D) (ci := 1) (v := .ref q_7) (ty := .array .boolean) (C := RX0) (T := TX0) (N := 7) hx hb hts wc_X0_init_X0 tyX0 tyX0_ok nmX0 hown hK hP hD hS 0 rfl rfl 5 (by decide) (hts (.fieldLink RX0 26 "MixinUnits$Face" "showsNumber" "[Z") (wd_X0_init _ (List.mem_of_getElem? (i := 10) rfl))) (fun _ h9 => h9) rfl hin rfl (by decide +kernel) rfl rfl (Nat.le_of_ble_eq_true rfl) dX0_init_44 (fun H locs hP hD hS => ?_)
  have hP : va_P D vwCl [(h, .inr (1, [.int 0, .ref q_1, .ref q_2, .ref q_3, .ref q_6, .ref q_7, .null])), (q_1, .inl (dT 0, 6, .inl (fun _ => 0))), (q_2, .inl (dT 0, 10, .inl (fun _ => 0))), (q_3, .inl (dT 3, 16, .inr (.inr (.inr (.inr f_5))))), (r_4, .inl (dT 0, 4, .inl (fun _ => 0))), (q_6, .inl (dT 0, 16, .inl (fun _ => 0))), (q_7, .inl (dT 2, 10, .inl (fun _ => 0)))] H := hP
  have hD : va_D A [(h, .inr (1, [.int 0, .ref q_1, .ref q_2, .ref q_3, .ref q_6, .ref q_7, .null])), (q_1, .inl (dT 0, 6, .inl (fun _ => 0))), (q_2, .inl (dT 0, 10, .inl (fun _ => 0))), (q_3, .inl (dT 3, 16, .inr (.inr (.inr (.inr f_5))))), (r_4, .inl (dT 0, 4, .inl (fun _ => 0))), (q_6, .inl (dT 0, 16, .inl (fun _ => 0))), (q_7, .inl (dT 2, 10, .inl (fun _ => 0)))] := hD
  refine lv_aload_n hx hb dX0_init_47 rfl (lv_at hl 0 rfl) ?_
  refine lv_bipush (v := 10) hx hb dX0_init_48 (by decide) ?_
  refine va_newa1 (atype := .int) (ty := .int) (N' := 10) (a0 := (10, .inl (fun _ => 0))) 0 hx hb (hts (.arrayClass .int) (wd_X0_init _ (List.mem_of_getElem? (i := 3) rfl))) rfl rfl hK hP hD hS hA (fun _ => rfl) (by decide) (by decide) (Nat.le_of_ble_eq_true rfl) (Nat.le_of_ble_eq_true rfl) (Nat.le_of_ble_eq_true rfl) dX0_init_50 (fun q_8 H hP hD hS => ?_)
  have hP : va_P D vwCl [(h, .inr (1, [.int 0, .ref q_1, .ref q_2, .ref q_3, .ref q_6, .ref q_7, .null])), (q_1, .inl (dT 0, 6, .inl (fun _ => 0))), (q_2, .inl (dT 0, 10, .inl (fun _ => 0))), (q_3, .inl (dT 3, 16, .inr (.inr (.inr (.inr f_5))))), (r_4, .inl (dT 0, 4, .inl (fun _ => 0))), (q_6, .inl (dT 0, 16, .inl (fun _ => 0))), (q_7, .inl (dT 2, 10, .inl (fun _ => 0))), (q_8, .inl (dT 0, 10, .inl (fun _ => 0)))] H := hP
  have hD : va_D A [(h, .inr (1, [.int 0, .ref q_1, .ref q_2, .ref q_3, .ref q_6, .ref q_7, .null])), (q_1, .inl (dT 0, 6, .inl (fun _ => 0))), (q_2, .inl (dT 0, 10, .inl (fun _ => 0))), (q_3, .inl (dT 3, 16, .inr (.inr (.inr (.inr f_5))))), (r_4, .inl (dT 0, 4, .inl (fun _ => 0))), (q_6, .inl (dT 0, 16, .inl (fun _ => 0))), (q_7, .inl (dT 2, 10, .inl (fun _ => 0))), (q_8, .inl (dT 0, 10, .inl (fun _ => 0)))] := hD
  refine W.widen (k := 22) (n := 132) (Nat.le_of_ble_eq_true rfl) (Nat.le_of_ble_eq_true rfl) ?_
  refine va_putF (D := D) (ci := 1) (v := .ref q_8) (ty := .array .int) (C := RX0) (T := TX0) (N := 7) hx hb hts wc_X0_init_X0 tyX0 tyX0_ok nmX0 hown hK hP hD hS 0 rfl rfl 6 (by decide) (hts (.fieldLink RX0 30 "MixinUnits$Face" "numbers" "[I") (wd_X0_init _ (List.mem_of_getElem? (i := 11) rfl))) (fun _ h9 => h9) rfl hin rfl (by decide +kernel) rfl rfl (Nat.le_of_ble_eq_true rfl) dX0_init_52 (fun H locs hP hD hS => ?_)
  have hP : va_P D vwCl [(h, .inr (1, [.int 0, .ref q_1, .ref q_2, .ref q_3, .ref q_6, .ref q_7, .ref q_8])), (q_1, .inl (dT 0, 6, .inl (fun _ => 0))), (q_2, .inl (dT 0, 10, .inl (fun _ => 0))), (q_3, .inl (dT 3, 16, .inr (.inr (.inr (.inr f_5))))), (r_4, .inl (dT 0, 4, .inl (fun _ => 0))), (q_6, .inl (dT 0, 16, .inl (fun _ => 0))), (q_7, .inl (dT 2, 10, .inl (fun _ => 0))), (q_8, .inl (dT 0, 10, .inl (fun _ => 0)))] H := hP
  have hD : va_D A [(h, .inr (1, [.int 0, .ref q_1, .ref q_2, .ref q_3, .ref q_6, .ref q_7, .ref q_8])), (q_1, .inl (dT 0, 6, .inl (fun _ => 0))), (q_2, .inl (dT 0, 10, .inl (fun _ => 0))), (q_3, .inl (dT 3, 16, .inr (.inr (.inr (.inr f_5))))), (r_4, .inl (dT 0, 4, .inl (fun _ => 0))), (q_6, .inl (dT 0, 16, .inl (fun _ => 0))), (q_7, .inl (dT 2, 10, .inl (fun _ => 0))), (q_8, .inl (dT 0, 10, .inl (fun _ => 0)))] := hD
  have hP9 := hP.sub (ws' := [(h, .inr (1, [.int 0, .ref q_1, .ref q_2, .ref q_3, .ref q_6, .ref q_7, .ref q_8]))]) [0] rfl
  have hD9 := hD.sub (ws' := [(h, .inr (1, [.int 0, .ref q_1, .ref q_2, .ref q_3, .ref q_6, .ref q_7, .ref q_8]))]) [0] (by decide) rfl
  exact W.vret hx hb hr (fun t ht hW => ⟨⟨(), rfl, trivial, q_1, q_2, q_3, q_6, q_7, q_8, trivial, by rw [ht]; exact hP9, va_K.moved hW.alike hK, hD9⟩, hS.F ht⟩) hS.2.2 dX0_init_55

def wD_X6_init : List Cond := [.methodLink RX6 3 objectInit, .instanceMethod objectInit, .code objectInit ⟨#[0xb1]⟩ 1 none, .arrayClass .int, .fieldLink RX6 9 "MixinUnits$Row" "cells" "[I"]
def wK_X6_init : List Cond := .code yX6_init cX6_init 1 none :: (wD_X6_init ++ (wsX60 ++ ([] : List Cond)))
theorem wd_X6_init : ∀ w ∈ wD_X6_init, w ∈ wK_X6_init := fun w h => List.mem_cons_of_mem _ (List.mem_append_left _ h)
theorem gd_X6_init : (wK_X6_init).all goodWord = true := by decide +kernel
theorem wc_X6_init_X6 : ∀ w ∈ wsX60, w ∈ wK_X6_init := fun w h => List.mem_cons_of_mem _ (List.mem_append_right _ (List.mem_append_left _ h))
set_option maxHeartbeats 4000000 in
set_option maxRecDepth 100000 in
/-- Row() -/
theorem c_X6_init (l : Launch) (D : va_G) (dT : Nat → ClassId) (sz : Nat) (h : Nat) : Met l yX6_init wK_X6_init ({ frames := 1, cells := 1, slots := 16, locals := 12 }) (va_Pc [.ref h] (fun U => U.heap.size = sz ∧ va_P D vwCl [(h, .inr (7, [.null, .int 0]))] U.heap ∧ va_K D vwCl (tysW dT) U ∧ va_D (fun _ => True) [(h, .inr (7, [.null, .int 0]))] ∧ EN (va_A [(h, .inr (7, [.null, .int 0]))] sz) U)) (va_Qv (fun (_u : Unit) => True) (fun (_u : Unit) t => ∃ (q0 : Nat), True ∧ va_P D vwCl [(h, .inr (7, [.ref q0, .int 0]))] t.heap ∧ va_K D vwCl (tysW dT) t ∧ va_D (va_A [(h, .inr (7, [.null, .int 0]))] sz) [(h, .inr (7, [.ref q0, .int 0]))]) (va_A [(h, .inr (7, [.null, .int 0]))] sz)) 1 16 (va_A [(h, .inr (7, [.null, .int 0]))] sz) := by
  refine Met.ofW (cc := cX6_init) (maxL := 1) (ret := none) (by decide) rfl ?_
  intro p e s m args below meth c s₁ B hml hv
  obtain ⟨rfl, hsz, hP, hK, hD0, hE⟩ := hv
  have hx := B.exec
  have hb := B.bytes
  have hr := B.returns
  have hts := atoms_spec (ws := wK_X6_init) B.pre
  have hown : s.vm.findClass RX6 = some m.cls := findClass_of_methodNamed B.named
  have hlocks := B.notSynchronized
  have hin : meth.name = "<init>" := (name_of_methodNamed B.named B.method).1
  subst hsz
  have hD := hD0.self (sz := s.heap.size)
  generalize hAe : va_A [(h, .inr (7, [.null, .int 0]))] s.heap.size = A at hD hE ⊢
  have hA : ∀ q : Nat, s.heap.size ≤ q → A q := fun q h => by rw [← hAe]; exact Or.inr h
  have hS : va_S A s.heap s.heap [] := va_S.rf
  have hP : va_P D vwCl [(h, .inr (7, [.null, .int 0]))] s.heap := hP
  have hl := lv_entry ([.ref h]) (n := 1) (Nat.le_of_ble_eq_true rfl)
  rw [lg_entry_eq]
  generalize (lg_sl ([.ref h]) ++ List.replicate (1 - (lg_sl ([.ref h])).length) Slot.unset).toArray = ls at hl ⊢
  have hl : lv_has ls 1 [(0, .ref h)] := hl
  refine lv_aload_n hx hb dX6_init_0 rfl (lv_at hl 0 rfl) ?_
  refine W.objInit hx hb hown (hts (.methodLink RX6 3 objectInit) (wd_X6_init _ (List.mem_of_getElem? (i := 0) rfl))) (hts (.instanceMethod objectInit) (wd_X6_init _ (List.mem_of_getElem? (i := 1) rfl))) (hts (.code objectInit ⟨#[0xb1]⟩ 1 none) (wd_X6_init _ (List.mem_of_getElem? (i := 2) rfl))) rfl (by rw [hml]; exact hl.1) rfl dX6_init_1 (Nat.le_of_ble_eq_true rfl) (Nat.le_of_ble_eq_true rfl) ?_
  refine W.eq (g2 := F0 m 4 ls []) rfl ?_
  refine lv_aload_n hx hb dX6_init_4 rfl (lv_at hl 0 rfl) ?_
  refine lv_bipush (v := 16) hx hb dX6_init_5 (by decide) ?_
  refine va_newa1 (atype := .int) (ty := .int) (N' := 16) (a0 := (16, .inl (fun _ => 0))) 0 hx hb (hts (.arrayClass .int) (wd_X6_init _ (List.mem_of_getElem? (i := 3) rfl))) rfl rfl hK hP hD hS hA (fun _ => rfl) (by decide) (by decide) (Nat.le_of_ble_eq_true rfl) (Nat.le_of_ble_eq_true rfl) (Nat.le_of_ble_eq_true rfl) dX6_init_7 (fun q_1 H hP hD hS => ?_)
  have hP : va_P D vwCl [(h, .inr (7, [.null, .int 0])), (q_1, .inl (dT 0, 16, .inl (fun _ => 0)))] H := hP
  have hD : va_D A [(h, .inr (7, [.null, .int 0])), (q_1, .inl (dT 0, 16, .inl (fun _ => 0)))] := hD
  refine W.widen (k := 1) (n := 16) (Nat.le_of_ble_eq_true rfl) (Nat.le_of_ble_eq_true rfl) ?_
  refine va_put (D := D) (ci := 7) (v := .ref q_1) (ty := .array .int) (C := RX6) (T := TX6) (N := 2) hx hb hts wc_X6_init_X6 tyX6 tyX6_ok nmX6 hown hK hP hD hS 0 rfl rfl 0 (by decide) (hts (.fieldLink RX6 9 "MixinUnits$Row" "cells" "[I") (wd_X6_init _ (List.mem_of_getElem? (i := 4) rfl))) (fun _ h9 => h9) rfl (by decide +kernel) rfl rfl (Nat.le_of_ble_eq_true rfl) dX6_init_9 (fun H locs hP hD hS => ?_)
  have hP : va_P D vwCl [(h, .inr (7, [.ref q_1, .int 0])), (q_1, .inl (dT 0, 16, .inl (fun _ => 0)))] H := hP
  have hD : va_D A [(h, .inr (7, [.ref q_1, .int 0])), (q_1, .inl (dT 0, 16, .inl (fun _ => 0)))] := hD
  have hP9 := hP.sub (ws' := [(h, .inr (7, [.ref q_1, .int 0]))]) [0] rfl
  have hD9 := hD.sub (ws' := [(h, .inr (7, [.ref q_1, .int 0]))]) [0] (by decide) rfl
  exact W.vret hx hb hr (fun t ht hW => ⟨⟨(), rfl, trivial, q_1, trivial, by rw [ht]; exact hP9, va_K.moved hW.alike hK, hD9⟩, hS.F ht⟩) hS.2.2 dX6_init_12

def wD_X9_init : List Cond := [.methodLink RX9 1 objectInit, .instanceMethod objectInit, .code objectInit ⟨#[0xb1]⟩ 1 none, .arrayClass .int, .fieldLink RX9 7 "MixinUnits$Values" "firsts" "[I", .fieldLink RX9 13 "MixinUnits$Values" "seconds" "[I", .arrayClass .long, .fieldLink RX9 16 "MixinUnits$Values" "counts" "[J", .fieldLink RX9 20 "MixinUnits$Values" "rounds" "[I"]
def wK_X9_init : List Cond := .code yX9_init cX9_init 1 none :: (wD_X9_init ++ (wsX90 ++ ([] : List Cond)))
theorem wd_X9_init : ∀ w ∈ wD_X9_init, w ∈ wK_X9_init := fun w h => List.mem_cons_of_mem _ (List.mem_append_left _ h)
theorem gd_X9_init : (wK_X9_init).all goodWord = true := by decide +kernel
theorem wc_X9_init_X9 : ∀ w ∈ wsX90, w ∈ wK_X9_init := fun w h => List.mem_cons_of_mem _ (List.mem_append_right _ (List.mem_append_left _ h))
set_option maxHeartbeats 4000000 in
set_option maxRecDepth 100000 in
/-- Values() -/
theorem c_X9_init (l : Launch) (D : va_G) (dT : Nat → ClassId) (sz : Nat) (h : Nat) : Met l yX9_init wK_X9_init ({ frames := 1, cells := 4, slots := 128, locals := 12 }) (va_Pc [.ref h] (fun U => U.heap.size = sz ∧ va_P D vwCl [(h, .inr (10, [.null, .null, .null, .null, .int 0]))] U.heap ∧ va_K D vwCl (tysW dT) U ∧ va_D (fun _ => True) [(h, .inr (10, [.null, .null, .null, .null, .int 0]))] ∧ EN (va_A [(h, .inr (10, [.null, .null, .null, .null, .int 0]))] sz) U)) (va_Qv (fun (_u : Unit) => True) (fun (_u : Unit) t => ∃ (q0 : Nat), ∃ (q1 : Nat), ∃ (q2 : Nat), ∃ (q3 : Nat), True ∧ va_P D vwCl [(h, .inr (10, [.ref q0, .ref q1, .ref q2, .ref q3, .int 0]))] t.heap ∧ va_K D vwCl (tysW dT) t ∧ va_D (va_A [(h, .inr (10, [.null, .null, .null, .null, .int 0]))] sz) [(h, .inr (10, [.ref q0, .ref q1, .ref q2, .ref q3, .int 0]))]) (va_A [(h, .inr (10, [.null, .null, .null, .null, .int 0]))] sz)) 4 128 (va_A [(h, .inr (10, [.null, .null, .null, .null, .int 0]))] sz) := by
  refine Met.ofW (cc := cX9_init) (maxL := 1) (ret := none) (by decide) rfl ?_
  intro p e s m args below meth c s₁ B hml hv
  obtain ⟨rfl, hsz, hP, hK, hD0, hE⟩ := hv
  have hx := B.exec
  have hb := B.bytes
  have hr := B.returns
  have hts := atoms_spec (ws := wK_X9_init) B.pre
  have hown : s.vm.findClass RX9 = some m.cls := findClass_of_methodNamed B.named
  have hlocks := B.notSynchronized
  have hin : meth.name = "<init>" := (name_of_methodNamed B.named B.method).1
  subst hsz
  have hD := hD0.self (sz := s.heap.size)
  generalize hAe : va_A [(h, .inr (10, [.null, .null, .null, .null, .int 0]))] s.heap.size = A at hD hE ⊢
  have hA : ∀ q : Nat, s.heap.size ≤ q → A q := fun q h => by rw [← hAe]; exact Or.inr h
  have hS : va_S A s.heap s.heap [] := va_S.rf
  have hP : va_P D vwCl [(h, .inr (10, [.null, .null, .null, .null, .int 0]))] s.heap := hP
  have hl := lv_entry ([.ref h]) (n := 1) (Nat.le_of_ble_eq_true rfl)
  rw [lg_entry_eq]
  generalize (lg_sl ([.ref h]) ++ List.replicate (1 - (lg_sl ([.ref h])).length) Slot.unset).toArray = ls at hl ⊢
  have hl : lv_has ls 1 [(0, .ref h)] := hl
  refine lv_aload_n hx hb dX9_init_0 rfl (lv_at hl 0 rfl) ?_
  refine W.objInit hx hb hown (hts (.methodLink RX9 1 objectInit) (wd_X9_init _ (List.mem_of_getElem? (i := 0) rfl))) (hts (.instanceMethod objectInit) (wd_X9_init _ (List.mem_of_getElem? (i := 1) rfl))) (hts (.code objectInit ⟨#[0xb1]⟩ 1 none) (wd_X9_init _ (List.mem_of_getElem? (i := 2) rfl))) rfl (by rw [hml]; exact hl.1) rfl dX9_init_1 (Nat.le_of_ble_eq_true rfl) (Nat.le_of_ble_eq_true rfl) ?_
  refine W.eq (g2 := F0 m 4 ls []) rfl ?_
  refine lv_aload_n hx hb dX9_init_4 rfl (lv_at hl 0 rfl) ?_
  refine lv_bipush (v := 32) hx hb dX9_init_5 (by decide) ?_
  refine va_newa1 (atype := .int) (ty := .int) (N' := 32) (a0 := (32, .inl (fun _ => 0))) 0 hx hb (hts (.arrayClass .int) (wd_X9_init _ (List.mem_of_getElem? (i := 3) rfl))) rfl rfl hK hP hD hS hA (fun _ => rfl) (by decide) (by decide) (Nat.le_of_ble_eq_true rfl) (Nat.le_of_ble_eq_true rfl) (Nat.le_of_ble_eq_true rfl) dX9_init_7 (fun q_1 H hP hD hS => ?_)
  have hP : va_P D vwCl [(h, .inr (10, [.null, .null, .null, .null, .int 0])), (q_1, .inl (dT 0, 32, .inl (fun _ => 0)))] H := hP
  have hD : va_D A [(h, .inr (10, [.null, .null, .null, .null, .int 0])), (q_1, .inl (dT 0, 32, .inl (fun _ => 0)))] := hD
  refine W.widen (k := 1) (n := 32) (Nat.le_of_ble_eq_true rfl) (Nat.le_of_ble_eq_true rfl) ?_
  refine va_put (D := D) (ci := 10) (v := .ref q_1) (ty := .array .int) (C := RX9) (T := TX9) (N := 5) hx hb hts wc_X9_init_X9 tyX9 tyX9_ok nmX9 hown hK hP hD hS 0 rfl rfl 0 (by decide) (hts (.fieldLink RX9 7 "MixinUnits$Values" "firsts" "[I") (wd_X9_init _ (List.mem_of_getElem? (i := 4) rfl))) (fun _ h9 => h9) rfl (by decide +kernel) rfl rfl (Nat.le_of_ble_eq_true rfl) dX9_init_9 (fun H locs hP hD hS => ?_)
  have hP : va_P D vwCl [(h, .inr (10, [.ref q_1, .null, .null, .null, .int 0])), (q_1, .inl (dT 0, 32, .inl (fun _ => 0)))] H := hP
  have hD : va_D A [(h, .inr (10, [.ref q_1, .null, .null, .null, .int 0])), (q_1, .inl (dT 0, 32, .inl (fun _ => 0)))] := hD
  refine lv_aload_n hx hb dX9_init_12 rfl (lv_at hl 0 rfl) ?_
  refine lv_bipush (v := 32) hx hb dX9_init_13 (by decide) ?_
  refine va_newa1 (atype := .int) (ty := .int) (N' := 32) (a0 := (32, .inl (fun _ => 0))) 0 hx hb (hts (.arrayClass .int) (wd_X9_init _ (List.mem_of_getElem? (i := 3) rfl))) rfl rfl hK hP hD hS hA (fun _ => rfl) (by decide) (by decide) (Nat.le_of_ble_eq_true rfl) (Nat.le_of_ble_eq_true rfl) (Nat.le_of_ble_eq_true rfl) dX9_init_15 (fun q_2 H hP hD hS => ?_)
  have hP : va_P D vwCl [(h, .inr (10, [.ref q_1, .null, .null, .null, .int 0])), (q_1, .inl (dT 0, 32, .inl (fun _ => 0))), (q_2, .inl (dT 0, 32, .inl (fun _ => 0)))] H := hP
  have hD : va_D A [(h, .inr (10, [.ref q_1, .null, .null, .null, .int 0])), (q_1, .inl (dT 0, 32, .inl (fun _ => 0))), (q_2, .inl (dT 0, 32, .inl (fun _ => 0)))] := hD
  refine W.widen (k := 2) (n := 64) (Nat.le_of_ble_eq_true rfl) (Nat.le_of_ble_eq_true rfl) ?_
  refine va_put (D := D) (ci := 10) (v := .ref q_2) (ty := .array .int) (C := RX9) (T := TX9) (N := 5) hx hb hts wc_X9_init_X9 tyX9 tyX9_ok nmX9 hown hK hP hD hS 0 rfl rfl 1 (by decide) (hts (.fieldLink RX9 13 "MixinUnits$Values" "seconds" "[I") (wd_X9_init _ (List.mem_of_getElem? (i := 5) rfl))) (fun _ h9 => h9) rfl (by decide +kernel) rfl rfl (Nat.le_of_ble_eq_true rfl) dX9_init_17 (fun H locs hP hD hS => ?_)
  have hP : va_P D vwCl [(h, .inr (10, [.ref q_1, .ref q_2, .null, .null, .int 0])), (q_1, .inl (dT 0, 32, .inl (fun _ => 0))), (q_2, .inl (dT 0, 32, .inl (fun _ => 0)))] H := hP
  have hD : va_D A [(h, .inr (10, [.ref q_1, .ref q_2, .null, .null, .int 0])), (q_1, .inl (dT 0, 32, .inl (fun _ => 0))), (q_2, .inl (dT 0, 32, .inl (fun _ => 0)))] := hD
  refine lv_aload_n hx hb dX9_init_20 rfl (lv_at hl 0 rfl) ?_
  refine lv_bipush (v := 32) hx hb dX9_init_21 (by decide) ?_
  refine va_newa1 (atype := .long) (ty := .long) (N' := 32) (a0 := (32, .inr (.inl (fun _ => 0)))) 1 hx hb (hts (.arrayClass .long) (wd_X9_init _ (List.mem_of_getElem? (i := 6) rfl))) rfl rfl hK hP hD hS hA (fun _ => rfl) (by decide) (by decide) (Nat.le_of_ble_eq_true rfl) (Nat.le_of_ble_eq_true rfl) (Nat.le_of_ble_eq_true rfl) dX9_init_23 (fun q_3 H hP hD hS => ?_)
  have hP : va_P D vwCl [(h, .inr (10, [.ref q_1, .ref q_2, .null, .null, .int 0])), (q_1, .inl (dT 0, 32, .inl (fun _ => 0))), (q_2, .inl (dT 0, 32, .inl (fun _ => 0))), (q_3, .inl (dT 1, 32, .inr (.inl (fun _ => 0))))] H := hP
  have hD : va_D A [(h, .inr (10, [.ref q_1, .ref q_2, .null, .null, .int 0])), (q_1, .inl (dT 0, 32, .inl (fun _ => 0))), (q_2, .inl (dT 0, 32, .inl (fun _ => 0))), (q_3, .inl (dT 1, 32, .inr (.inl (fun _ => 0))))] := hD
  refine W.widen (k := 3) (n := 96) (Nat.le_of_ble_eq_true rfl) (Nat.le_of_ble_eq_true rfl) ?_
  refine va_put (D := D) (ci := 10) (v := .ref q_3) (ty := .array .long) (C := RX9) (T := TX9) (N := 5) hx hb hts wc_X9_init_X9 tyX9 tyX9_ok nmX9 hown hK hP hD hS 0 rfl rfl 2 (by decide) (hts (.fieldLink RX9 16 "MixinUnits$Values" "counts" "[J") (wd_X9_init _ (List.mem_of_getElem? (i := 7) rfl))) (fun _ h9 => h9) rfl (by decide +kernel) rfl rfl (Nat.le_of_ble_eq_true rfl) dX9_init_25 (fun H locs hP hD hS => ?_)
  have hP : va_P D vwCl [(h, .inr (10, [.ref q_1, .ref q_2, .ref q_3, .null, .int 0])), (q_1, .inl (dT 0, 32, .inl (fun _ => 0))), (q_2, .inl (dT 0, 32, .inl (fun _ => 0))), (q_3, .inl (dT 1, 32, .inr (.inl (fun _ => 0))))] H := hP
  have hD : va_D A [(h, .inr (10, [.ref q_1, .ref q_2, .ref q_3, .null, .int 0])), (q_1, .inl (dT 0, 32, .inl (fun _ => 0))), (q_2, .inl (dT 0, 32, .inl (fun _ => 0))), (q_3, .inl (dT 1, 32, .inr (.inl (fun _ => 0))))] := hD
  refine lv_aload_n hx hb dX9_init_28 rfl (lv_at hl 0 rfl) ?_
  refine lv_bipush (v := 32) hx hb dX9_init_29 (by decide) ?_
  refine va_newa1 (atype := .int) (ty := .int) (N' := 32) (a0 := (32, .inl (fun _ => 0))) 0 hx hb (hts (.arrayClass .int) (wd_X9_init _ (List.mem_of_getElem? (i := 3) rfl))) rfl rfl hK hP hD hS hA (fun _ => rfl) (by decide) (by decide) (Nat.le_of_ble_eq_true rfl) (Nat.le_of_ble_eq_true rfl) (Nat.le_of_ble_eq_true rfl) dX9_init_31 (fun q_4 H hP hD hS => ?_)
  have hP : va_P D vwCl [(h, .inr (10, [.ref q_1, .ref q_2, .ref q_3, .null, .int 0])), (q_1, .inl (dT 0, 32, .inl (fun _ => 0))), (q_2, .inl (dT 0, 32, .inl (fun _ => 0))), (q_3, .inl (dT 1, 32, .inr (.inl (fun _ => 0)))), (q_4, .inl (dT 0, 32, .inl (fun _ => 0)))] H := hP
  have hD : va_D A [(h, .inr (10, [.ref q_1, .ref q_2, .ref q_3, .null, .int 0])), (q_1, .inl (dT 0, 32, .inl (fun _ => 0))), (q_2, .inl (dT 0, 32, .inl (fun _ => 0))), (q_3, .inl (dT 1, 32, .inr (.inl (fun _ => 0)))), (q_4, .inl (dT 0, 32, .inl (fun _ => 0)))] := hD
  refine W.widen (k := 4) (n := 128) (Nat.le_of_ble_eq_true rfl) (Nat.le_of_ble_eq_true rfl) ?_
  refine va_put (D := D) (ci := 10) (v := .ref q_4) (ty := .array .int) (C := RX9) (T := TX9) (N := 5) hx hb hts wc_X9_init_X9 tyX9 tyX9_ok nmX9 hown hK hP hD hS 0 rfl rfl 3 (by decide) (hts (.fieldLink RX9 20 "MixinUnits$Values" "rounds" "[I") (wd_X9_init _ (List.mem_of_getElem? (i := 8) rfl))) (fun _ h9 => h9) rfl (by decide +kernel) rfl rfl (Nat.le_of_ble_eq_true rfl) dX9_init_33 (fun H locs hP hD hS => ?_)
  have hP : va_P D vwCl [(h, .inr (10, [.ref q_1, .ref q_2, .ref q_3, .ref q_4, .int 0])), (q_1, .inl (dT 0, 32, .inl (fun _ => 0))), (q_2, .inl (dT 0, 32, .inl (fun _ => 0))), (q_3, .inl (dT 1, 32, .inr (.inl (fun _ => 0)))), (q_4, .inl (dT 0, 32, .inl (fun _ => 0)))] H := hP
  have hD : va_D A [(h, .inr (10, [.ref q_1, .ref q_2, .ref q_3, .ref q_4, .int 0])), (q_1, .inl (dT 0, 32, .inl (fun _ => 0))), (q_2, .inl (dT 0, 32, .inl (fun _ => 0))), (q_3, .inl (dT 1, 32, .inr (.inl (fun _ => 0)))), (q_4, .inl (dT 0, 32, .inl (fun _ => 0)))] := hD
  have hP9 := hP.sub (ws' := [(h, .inr (10, [.ref q_1, .ref q_2, .ref q_3, .ref q_4, .int 0]))]) [0] rfl
  have hD9 := hD.sub (ws' := [(h, .inr (10, [.ref q_1, .ref q_2, .ref q_3, .ref q_4, .int 0]))]) [0] (by decide) rfl
  exact W.vret hx hb hr (fun t ht hW => ⟨⟨(), rfl, trivial, q_1, q_2, q_3, q_4, trivial, by rw [ht]; exact hP9, va_K.moved hW.alike hK, hD9⟩, hS.F ht⟩) hS.2.2 dX9_init_36

def wD_X8_init : List Cond := [.methodLink RX8 3 objectInit, .instanceMethod objectInit, .code objectInit ⟨#[0xb1]⟩ 1 none, .arrayClass .int, .fieldLink RX8 9 "MixinUnits$UnitFinder" "spare" "[I", .fieldLink RX8 15 "MixinUnits$UnitFinder" "stack" "[I", .fieldLink RX8 18 "MixinUnits$UnitFinder" "program" "LMixinUnits$Program;", .fieldLink RX8 22 "MixinUnits$UnitFinder" "filling" "LMixinUnits$Filling;"]
def wK_X8_init : List Cond := .code yX8_init cX8_init 3 none :: (wD_X8_init ++ (wsX80 ++ ([] : List Cond)))
theorem wd_X8_init : ∀ w ∈ wD_X8_init, w ∈ wK_X8_init := fun w h => List.mem_cons_of_mem _ (List.mem_append_left _ h)
theorem gd_X8_init : (wK_X8_init).all goodWord = true := by decide +kernel
theorem wc_X8_init_X8 : ∀ w ∈ wsX80, w ∈ wK_X8_init := fun w h => List.mem_cons_of_mem _ (List.mem_append_right _ (List.mem_append_left _ h))
set_option maxHeartbeats 4000000 in
set_option maxRecDepth 100000 in
/-- UnitFinder(program, filling) -/
theorem c_X8_init (l : Launch) (D : va_G) (dT : Nat → ClassId) (sz : Nat) (h : Nat) (pr : Nat) (fi : Nat) : Met l yX8_init wK_X8_init ({ frames := 1, cells := 2, slots := 264, locals := 12 }) (va_Pc [.ref h, .ref pr, .ref fi] (fun U => U.heap.size = sz ∧ va_P D vwCl [(h, .inr (9, [.null, .null, .null, .null, .int 0]))] U.heap ∧ va_K D vwCl (tysW dT) U ∧ va_D (fun _ => True) [(h, .inr (9, [.null, .null, .null, .null, .int 0]))] ∧ EN (va_A [(h, .inr (9, [.null, .null, .null, .null, .int 0]))] sz) U)) (va_Qv (fun (_u : Unit) => True) (fun (_u : Unit) t => ∃ (q2 : Nat), ∃ (q3 : Nat), True ∧ va_P D vwCl [(h, .inr (9, [.ref pr, .ref fi, .ref q2, .ref q3, .int 0]))] t.heap ∧ va_K D vwCl (tysW dT) t ∧ va_D (va_A [(h, .inr (9, [.null, .null, .null, .null, .int 0]))] sz) [(h, .inr (9, [.ref pr, .ref fi, .ref q2, .ref q3, .int 0]))]) (va_A [(h, .inr (9, [.null, .null, .null, .null, .int 0]))] sz)) 2 264 (va_A [(h, .inr (9, [.null, .null, .null, .null, .int 0]))] sz) := by
  refine Met.ofW (cc := cX8_init) (maxL := 3) (ret := none) (by decide) rfl ?_
  intro p e s m args below meth c s₁ B hml hv
  obtain ⟨rfl, hsz, hP, hK, hD0, hE⟩ := hv
  have hx := B.exec
  have hb := B.bytes
  have hr := B.returns
  have hts := atoms_spec (ws := wK_X8_init) B.pre
  have hown : s.vm.findClass RX8 = some m.cls := findClass_of_methodNamed B.named
  have hlocks := B.notSynchronized
  have hin : meth.name = "<init>" := (name_of_methodNamed B.named B.method).1
  subst hsz
  have hD := hD0.self (sz := s.heap.size)
  generalize hAe : va_A [(h, .inr (9, [.null, .null, .null, .null, .int 0]))] s.heap.size = A at hD hE ⊢
  have hA : ∀ q : Nat, s.heap.size ≤ q → A q := fun q h => by rw [← hAe]; exact Or.inr h
  have hS : va_S A s.heap s.heap [] := va_S.rf
  have hP : va_P D vwCl [(h, .inr (9, [.null, .null, .null, .null, .int 0]))] s.heap := hP
  have hl := lv_entry ([.ref h, .ref pr, .ref fi]) (n := 3) (Nat.le_of_ble_eq_true rfl)
  rw [lg_entry_eq]
  generalize (lg_sl ([.ref h, .ref pr, .ref fi]) ++ List.replicate (3 - (lg_sl ([.ref h, .ref pr, .ref fi])).length) Slot.unset).toArray = ls at hl ⊢
  have hl : lv_has ls 3 [(0, .ref h), (1, .ref pr), (2, .ref fi)] := hl
  refine lv_aload_n hx hb dX8_init_0 rfl (lv_at hl 0 rfl) ?_
  refine W.objInit hx hb hown (hts (.methodLink RX8 3 objectInit) (wd_X8_init _ (List.mem_of_getElem? (i := 0) rfl))) (hts (.instanceMethod objectInit) (wd_X8_init _ (List.mem_of_getElem? (i := 1) rfl))) (hts (.code objectInit ⟨#[0xb1]⟩ 1 none) (wd_X8_init _ (List.mem_of_getElem? (i := 2) rfl))) rfl (by rw [hml]; exact hl.1) rfl dX8_init_1 (Nat.le_of_ble_eq_true rfl) (Nat.le_of_ble_eq_true rfl) ?_
  refine W.eq (g2 := F0 m 4 ls []) rfl ?_
  refine lv_aload_n hx hb dX8_init_4 rfl (lv_at hl 0 rfl) ?_
  refine lv_sipush (v := 200) hx hb dX8_init_5 (by decide) ?_
  refine va_newa1 (atype := .int) (ty := .int) (N' := 200) (a0 := (200, .inl (fun _ => 0))) 0 hx hb (hts (.arrayClass .int) (wd_X8_init _ (List.mem_of_getElem? (i := 3) rfl))) rfl rfl hK hP hD hS hA (fun _ => rfl) (by decide) (by decide) (Nat.le_of_ble_eq_true rfl) (Nat.le_of_ble_eq_true rfl) (Nat.le_of_ble_eq_true rfl) dX8_init_8 (fun q_1 H hP hD hS => ?_)
  have hP : va_P D vwCl [(h, .inr (9, [.null, .null, .null, .null, .int 0])), (q_1, .inl (dT 0, 200, .inl (fun _ => 0)))] H := hP
  have hD : va_D A [(h, .inr (9, [.null, .null, .null, .null, .int 0])), (q_1, .inl (dT 0, 200, .inl (fun _ => 0)))] := hD
  refine W.widen (k := 1) (n := 200) (Nat.le_of_ble_eq_true rfl) (Nat.le_of_ble_eq_true rfl) ?_
  refine va_putF (D := D) (ci := 9) (v := .ref q_1) (ty := .array .int) (C := RX8) (T := TX8) (N := 5) hx hb hts wc_X8_init_X8 tyX8 tyX8_ok nmX8 hown hK hP hD hS 0 rfl rfl 2 (by decide) (hts (.fieldLink RX8 9 "MixinUnits$UnitFinder" "spare" "[I") (wd_X8_init _ (List.mem_of_getElem? (i := 4) rfl))) (fun _ h9 => h9) rfl hin rfl (by decide +kernel) rfl rfl (Nat.le_of_ble_eq_true rfl) dX8_init_10 (fun H locs hP hD hS => ?_)
  have hP : va_P D vwCl [(h, .inr (9, [.null, .null, .ref q_1, .null, .int 0])), (q_1, .inl (dT 0, 200, .inl (fun _ => 0)))] H := hP
  have hD : va_D A [(h, .inr (9, [.null, .null, .ref q_1, .null, .int 0])), (q_1, .inl (dT 0, 200, .inl (fun _ => 0)))] := hD
  refine lv_aload_n hx hb dX8_init_13 rfl (lv_at hl 0 rfl) ?_
  refine lv_bipush (v := 64) hx hb dX8_init_14 (by decide) ?_
  refine va_newa1 (atype := .int) (ty := .int) (N' := 64) (a0 := (64, .inl (fun _ => 0))) 0 hx hb (hts (.arrayClass .int) (wd_X8_init _ (List.mem_of_getElem? (i := 3) rfl))) rfl rfl hK hP hD hS hA (fun _ => rfl) (by decide) (by decide) (Nat.le_of_ble_eq_true rfl) (Nat.le_of_ble_eq_true rfl) (Nat.le_of_ble_eq_true rfl) dX8_init_16 (fun q_2 H hP hD hS => ?_)
  have hP : va_P D vwCl [(h, .inr (9, [.null, .null, .ref q_1, .null, .int 0])), (q_1, .inl (dT 0, 200, .inl (fun _ => 0))), (q_2, .inl (dT 0, 64, .inl (fun _ => 0)))] H := hP
  have hD : va_D A [(h, .inr (9, [.null, .null, .ref q_1, .null, .int 0])), (q_1, .inl (dT 0, 200, .inl (fun _ => 0))), (q_2, .inl (dT 0, 64, .inl (fun _ => 0)))] := hD
  refine W.widen (k := 2) (n := 264) (Nat.le_of_ble_eq_true rfl) (Nat.le_of_ble_eq_true rfl) ?_
  refine va_put (D := D) (ci := 9) (v := .ref q_2) (ty := .array .int) (C := RX8) (T := TX8) (N := 5) hx hb hts wc_X8_init_X8 tyX8 tyX8_ok nmX8 hown hK hP hD hS 0 rfl rfl 3 (by decide) (hts (.fieldLink RX8 15 "MixinUnits$UnitFinder" "stack" "[I") (wd_X8_init _ (List.mem_of_getElem? (i := 5) rfl))) (fun _ h9 => h9) rfl (by decide +kernel) rfl rfl (Nat.le_of_ble_eq_true rfl) dX8_init_18 (fun H locs hP hD hS => ?_)
  have hP : va_P D vwCl [(h, .inr (9, [.null, .null, .ref q_1, .ref q_2, .int 0])), (q_1, .inl (dT 0, 200, .inl (fun _ => 0))), (q_2, .inl (dT 0, 64, .inl (fun _ => 0)))] H := hP
  have hD : va_D A [(h, .inr (9, [.null, .null, .ref q_1, .ref q_2, .int 0])), (q_1, .inl (dT 0, 200, .inl (fun _ => 0))), (q_2, .inl (dT 0, 64, .inl (fun _ => 0)))] := hD
  refine lv_aload_n hx hb dX8_init_21 rfl (lv_at hl 0 rfl) ?_
  refine lv_aload_n hx hb dX8_init_22 rfl (lv_at hl 1 rfl) ?_
  refine va_putF (D := D) (ci := 9) (v := .ref pr) (ty := .object "MixinUnits$Program") (C := RX8) (T := TX8) (N := 5) hx hb hts wc_X8_init_X8 tyX8 tyX8_ok nmX8 hown hK hP hD hS 0 rfl rfl 0 (by decide) (hts (.fieldLink RX8 18 "MixinUnits$UnitFinder" "program" "LMixinUnits$Program;") (wd_X8_init _ (List.mem_of_getElem? (i := 6) rfl))) (fun _ h9 => h9) rfl hin rfl (by decide +kernel) rfl rfl (Nat.le_of_ble_eq_true rfl) dX8_init_23 (fun H locs hP hD hS => ?_)
  have hP : va_P D vwCl [(h, .inr (9, [.ref pr, .null, .ref q_1, .ref q_2, .int 0])), (q_1, .inl (dT 0, 200, .inl (fun _ => 0))), (q_2, .inl (dT 0, 64, .inl (fun _ => 0)))] H := hP
  have hD : va_D A [(h, .inr (9, [.ref pr, .null, .ref q_1, .ref q_2, .int 0])), (q_1, .inl (dT 0, 200, .inl (fun _ => 0))), (q_2, .inl (dT 0, 64, .inl (fun _ => 0)))] := hD
  refine lv_aload_n hx hb dX8_init_26 rfl (lv_at hl 0 rfl) ?_
  refine lv_aload_n hx hb dX8_init_27 rfl (lv_at hl 2 rfl) ?_
  refine va_putF (D := D) (ci := 9) (v := .ref fi) (ty := .object "MixinUnits$Filling") (C := RX8) (T := TX8) (N := 5) hx hb hts wc_X8_init_X8 tyX8 tyX8_ok nmX8 hown hK hP hD hS 0 rfl rfl 1 (by decide) (hts (.fieldLink RX8 22 "MixinUnits$UnitFinder" "filling" "LMixinUnits$Filling;") (wd_X8_init _ (List.mem_of_getElem? (i := 7) rfl))) (fun _ h9 => h9) rfl hin rfl (by decide +kernel) rfl rfl (Nat.le_of_ble_eq_true rfl) dX8_init_28 (fun H locs hP hD hS => ?_)
  have hP : va_P D vwCl [(h, .inr (9, [.ref pr, .ref fi, .ref q_1, .ref q_2, .int 0])), (q_1, .inl (dT 0, 200, .inl (fun _ => 0))), (q_2, .inl (dT 0, 64, .inl (fun _ => 0)))] H := hP
  have hD : va_D A [(h, .inr (9, [.ref pr, .ref fi, .ref q_1, .ref q_2, .int 0])), (q_1, .inl (dT 0, 200, .inl (fun _ => 0))), (q_2, .inl (dT 0, 64, .inl (fun _ => 0)))] := hD
  have hP9 := hP.sub (ws' := [(h, .inr (9, [.ref pr, .ref fi, .ref q_1, .ref q_2, .int 0]))]) [0] rfl
  have hD9 := hD.sub (ws' := [(h, .inr (9, [.ref pr, .ref fi, .ref q_1, .ref q_2, .int 0]))]) [0] (by decide) rfl
  exact W.vret hx hb hr (fun t ht hW => ⟨⟨(), rfl, trivial, q_1, q_2, trivial, by rw [ht]; exact hP9, va_K.moved hW.alike hK, hD9⟩, hS.F ht⟩) hS.2.2 dX8_init_31

def wD_X2_init : List Cond := [.methodLink RX2 3 objectInit, .instanceMethod objectInit, .code objectInit ⟨#[0xb1]⟩ 1 none, .classLink RX2 9 RX7, .instantiable RX7 3, .initialized RX7, .methodLink RX2 11 yX7_init, .instanceMethod yX7_init, .fieldLink RX2 12 "MixinUnits$Finder" "things" "LMixinUnits$Things;", .classLink RX2 18 RX1, .instantiable RX1 5, .initialized RX1, .instanceMethod yX1_init, .fieldLink RX2 21 "MixinUnits$Finder" "filling" "LMixinUnits$Filling;", .fieldLink RX2 25 "MixinUnits$Finder" "stamps" "LMixinUnits$Filling;", .classLink RX2 28 RX0, .instantiable RX0 7, .initialized RX0, .instanceMethod yX0_init, .fieldLink RX2 31 "MixinUnits$Finder" "functor" "LMixinUnits$Face;", .arrayClass .int, .fieldLink RX2 35 "MixinUnits$Finder" "spare" "[I", .fieldLink RX2 39 "MixinUnits$Finder" "otherSpare" "[I", .fieldLink RX2 42 "MixinUnits$Finder" "program" "LMixinUnits$Program;", .classLink RX2 46 RX8, .instantiable RX8 5, .initialized RX8, .methodLink RX2 48 yX8_init, .instanceMethod yX8_init, .fieldLink RX2 51 "MixinUnits$Finder" "unitFinder" "LMixinUnits$UnitFinder;"]
def wK_X2_init : List Cond := .code yX2_init cX2_init 2 none :: (wD_X2_init ++ (wsX70 ++ (wK_X7_init ++ (wsX20 ++ (wsX10 ++ (wK_X1_init ++ (wsX00 ++ (wK_X0_init ++ (wsX80 ++ (wK_X8_init ++ ([] : List Cond)))))))))))
theorem wd_X2_init : ∀ w ∈ wD_X2_init, w ∈ wK_X2_init := fun w h => List.mem_cons_of_mem _ (List.mem_append_left _ h)
theorem gd_X2_init : (wK_X2_init).all goodWord = true := by decide +kernel
theorem wc_X2_init_X7 : ∀ w ∈ wsX70, w ∈ wK_X2_init := fun w h => List.mem_cons_of_mem _ (List.mem_append_right _ (List.mem_append_left _ h))
theorem wq_X2_init_X7_init : ∀ w ∈ wK_X7_init, w ∈ wK_X2_init := fun w h => List.mem_cons_of_mem _ (List.mem_append_right _ (List.mem_append_right _ (List.mem_append_left _ h)))
theorem wc_X2_init_X2 : ∀ w ∈ wsX20, w ∈ wK_X2_init := fun w h => List.mem_cons_of_mem _ (List.mem_append_right _ (List.mem_append_right _ (List.mem_append_right _ (List.mem_append_left _ h))))
theorem wc_X2_init_X1 : ∀ w ∈ wsX10, w ∈ wK_X2_init := fun w h => List.mem_cons_of_mem _ (List.mem_append_right _ (List.mem_append_right _ (List.mem_append_right _ (List.mem_append_right _ (List.mem_append_left _ h)))))
theorem wq_X2_init_X1_init : ∀ w ∈ wK_X1_init, w ∈ wK_X2_init := fun w h => List.mem_cons_of_mem _ (List.mem_append_right _ (List.mem_append_right _ (List.mem_append_right _ (List.mem_append_right _ (List.mem_append_right _ (List.mem_append_left _ h))))))
theorem wc_X2_init_X0 : ∀ w ∈ wsX00, w ∈ wK_X2_init := fun w h => List.mem_cons_of_mem _ (List.mem_append_right _ (List.mem_append_right _ (List.mem_append_right _ (List.mem_append_right _ (List.mem_append_right _ (List.mem_append_right _ (List.mem_append_left _ h)))))))
theorem wq_X2_init_X0_init : ∀ w ∈ wK_X0_init, w ∈ wK_X2_init := fun w h => List.mem_cons_of_mem _ (List.mem_append_right _ (List.mem_append_right _ (List.mem_append_right _ (List.mem_append_right _ (List.mem_append_right _ (List.mem_append_right _ (List.mem_append_right _ (List.mem_append_left _ h))))))))
theorem wc_X2_init_X8 : ∀ w ∈ wsX80, w ∈ wK_X2_init := fun w h => List.mem_cons_of_mem _ (List.mem_append_right _ (List.mem_append_right _ (List.mem_append_right _ (List.mem_append_right _ (List.mem_append_right _ (List.mem_append_right _ (List.mem_append_right _ (List.mem_append_right _ (List.mem_append_left _ h)))))))))
theorem wq_X2_init_X8_init : ∀ w ∈ wK_X8_init, w ∈ wK_X2_init := fun w h => List.mem_cons_of_mem _ (List.mem_append_right _ (List.mem_append_right _ (List.mem_append_right _ (List.mem_append_right _ (List.mem_append_right _ (List.mem_append_right _ (List.mem_append_right _ (List.mem_append_right _ (List.mem_append_right _ (List.mem_append_left _ h))))))))))
set_option maxHeartbeats 4000000 in
set_option maxRecDepth 100000 in
/-- Finder(program) -/
theorem c_X2_init (l : Launch) (D : va_G) (dT : Nat → ClassId) (sz : Nat) (h : Nat) (pr : Nat) : Met l yX2_init wK_X2_init ({ frames := 2, cells := 67, slots := 6065, locals := 43 }) (va_Pc [.ref h, .ref pr] (fun U => U.heap.size = sz ∧ va_P D vwCl [(h, .inr (3, [.null, .null, .null, .null, .null, .null, .null, .null]))] U.heap ∧ va_K D vwCl (tysW dT) U ∧ va_D (fun _ => True) [(h, .inr (3, [.null, .null, .null, .null, .null, .null, .null, .null]))] ∧ EN (va_A [(h, .inr (3, [.null, .null, .null, .null, .null, .null, .null, .null]))] sz) U)) (va_Qv (fun (_u : Unit) => True) (fun (_u : Unit) t => ∃ (q1 : Nat), ∃ (q2 : Nat), ∃ (q3 : Nat), ∃ (q4 : Nat), ∃ (q5 : Nat), ∃ (q6 : Nat), ∃ (q7 : Nat), True ∧ va_P D vwCl [(h, .inr (3, [.ref pr, .ref q1, .ref q2, .ref q3, .ref q4, .ref q5, .ref q6, .ref q7]))] t.heap ∧ va_K D vwCl (tysW dT) t ∧ va_D (va_A [(h, .inr (3, [.null, .null, .null, .null, .null, .null, .null, .null]))] sz) [(h, .inr (3, [.ref pr, .ref q1, .ref q2, .ref q3, .ref q4, .ref q5, .ref q6, .ref q7]))]) (va_A [(h, .inr (3, [.null, .null, .null, .null, .null, .null, .null, .null]))] sz)) 67 6065 (va_A [(h, .inr (3, [.null, .null, .null, .null, .null, .null, .null, .null]))] sz) := by
  refine Met.ofW (cc := cX2_init) (maxL := 2) (ret := none) (by decide) rfl ?_
  intro p e s m args below meth c s₁ B hml hv
  obtain ⟨rfl, hsz, hP, hK, hD0, hE⟩ := hv
  have hx := B.exec
  have hb := B.bytes
  have hr := B.returns
  have hts := atoms_spec (ws := wK_X2_init) B.pre
  have hown : s.vm.findClass RX2 = some m.cls := findClass_of_methodNamed B.named
  have hlocks := B.notSynchronized
  have hin : meth.name = "<init>" := (name_of_methodNamed B.named B.method).1
  subst hsz
  have hD := hD0.self (sz := s.heap.size)
  generalize hAe : va_A [(h, .inr (3, [.null, .null, .null, .null, .null, .null, .null, .null]))] s.heap.size = A at hD hE ⊢
  have hA : ∀ q : Nat, s.heap.size ≤ q → A q := fun q h => by rw [← hAe]; exact Or.inr h
  have hS : va_S A s.heap s.heap [] := va_S.rf
  have hP : va_P D vwCl [(h, .inr (3, [.null, .null, .null, .null, .null, .null, .null, .null]))] s.heap := hP
  have hl := lv_entry ([.ref h, .ref pr]) (n := 2) (Nat.le_of_ble_eq_true rfl)
  rw [lg_entry_eq]
  generalize (lg_sl ([.ref h, .ref pr]) ++ List.replicate (2 - (lg_sl ([.ref h, .ref pr])).length) Slot.unset).toArray = ls at hl ⊢
  have hl : lv_has ls 2 [(0, .ref h), (1, .ref pr)] := hl
  refine lv_aload_n hx hb dX2_init_0 rfl (lv_at hl 0 rfl) ?_
  refine W.objInit hx hb hown (hts (.methodLink RX2 3 objectInit) (wd_X2_init _ (List.mem_of_getElem? (i := 0) rfl))) (hts (.instanceMethod objectInit) (wd_X2_init _ (List.mem_of_getElem? (i := 1) rfl))) (hts (.code objectInit ⟨#[0xb1]⟩ 1 none) (wd_X2_init _ (List.mem_of_getElem? (i := 2) rfl))) rfl (by rw [hml]; exact hl.1) rfl dX2_init_1 (Nat.le_of_ble_eq_true rfl) (Nat.le_of_ble_eq_true rfl) ?_
  refine W.eq (g2 := F0 m 4 ls []) rfl ?_
  refine lv_aload_n hx hb dX2_init_4 rfl (lv_at hl 0 rfl) ?_
  refine va_new (ci := 8) (fs := [.null, .int 0, .null]) (C := RX7) (T := TX7) (N := 3) hx hb hts wc_X2_init_X7 tyX7 tyX7_ok hown (hts (.classLink RX2 9 RX7) (wd_X2_init _ (List.mem_of_getElem? (i := 3) rfl))) (hts (.instantiable RX7 3) (wd_X2_init _ (List.mem_of_getElem? (i := 4) rfl))) (hts (.initialized RX7) (wd_X2_init _ (List.mem_of_getElem? (i := 5) rfl))) hK hP hD hS hA rfl (fn_X7) (Nat.le_of_ble_eq_true rfl) (Nat.le_of_ble_eq_true rfl) dX2_init_5 (fun q_1 H hP hD hS => ?_)
  have hP : va_P D vwCl [(h, .inr (3, [.null, .null, .null, .null, .null, .null, .null, .null])), (q_1, .inr (8, [.null, .int 0, .null]))] H := hP
  have hD : va_D A [(h, .inr (3, [.null, .null, .null, .null, .null, .null, .null, .null])), (q_1, .inr (8, [.null, .int 0, .null]))] := hD
  refine W.widen (k := 1) (n := 3) (Nat.le_of_ble_eq_true rfl) (Nat.le_of_ble_eq_true rfl) ?_
  refine lv_dup hx hb dX2_init_8 rfl ?_
  have hPc := hP.sub (ws' := [(q_1, .inr (8, [.null, .int 0, .null]))]) [1] rfl
  have hDc := hD.sub (ws' := [(q_1, .inr (8, [.null, .int 0, .null]))]) [1] (by decide) rfl
  have hFc := va_free (wc := [(q_1, .inr (8, [.null, .int 0, .null]))]) hD hS hA [1] rfl
  refine va_callv (va_runI (As := []) (rest := [.ref q_1, .ref h]) ⟨hx, hb, hml, hown, hts⟩ (c_X7_init l D dT H.size q_1) (cwI 0 hts (goodIn_sub wq_X2_init_X7_init gd_X7_init) rfl rfl rfl (hts (.initialized RX7) (wd_X2_init _ (List.mem_of_getElem? (i := 5) rfl))) (hts (.methodLink RX2 11 yX7_init) (wd_X2_init _ (List.mem_of_getElem? (i := 6) rfl))) (hts (.instanceMethod yX7_init) (wd_X2_init _ (List.mem_of_getElem? (i := 7) rfl))) rfl (by decide +kernel) ⟨Nat.le_of_ble_eq_true rfl, Nat.le_of_ble_eq_true rfl⟩) ⟨(fun a U g mk q => by obtain ⟨z0, z1, zP, zK, zD, zE⟩ := q; exact ⟨z0, z1, zP, va_K.moved (u := U) (U := U.calling g mk a) (Vm.Alike.refl U.vm) zK, zD, EN.frame zE⟩), fun U hU hW => ⟨rfl, by rw [hU], by rw [hU]; exact hPc, va_K.moved hW.alike hK, hDc.weaken (fun _ _ _ _ => trivial), EN.call hE hS hFc hW hU⟩⟩ rfl rfl hl.1 rfl (lv_room (Nat.le_of_ble_eq_true rfl)) dX2_init_9 ⟨(Nat.le_of_ble_eq_true rfl), (Nat.le_of_ble_eq_true rfl)⟩) hS (fun q _ h => hFc q h) hFc (fun u_2 t H1 locs ht hvm hw hB hz1 hk1 hS => ?_)
  obtain ⟨q0_3, q2_4, -, hP1, hK1, hD1⟩ := hB
  rw [ht] at hP1
  obtain ⟨hP, hD⟩ := va_join (wr := [(h, .inr (3, [.null, .null, .null, .null, .null, .null, .null, .null]))]) (w1 := [(q_1, .inr (8, [.ref q0_3, .int 0, .ref q2_4]))]) hP hD [1] [0] rfl rfl (by decide) (by decide) hk1 hFc hP1 hD1
  generalize H1 = H at hP hS ⊢
  have hP : va_P D vwCl [(h, .inr (3, [.null, .null, .null, .null, .null, .null, .null, .null])), (q_1, .inr (8, [.ref q0_3, .int 0, .ref q2_4]))] H := hP
  have hD : va_D A [(h, .inr (3, [.null, .null, .null, .null, .null, .null, .null, .null])), (q_1, .inr (8, [.ref q0_3, .int 0, .ref q2_4]))] := hD
  refine W.widen (k := 3) (n := 387) (Nat.le_of_ble_eq_true rfl) (Nat.le_of_ble_eq_true rfl) ?_
  refine va_putF (D := D) (ci := 3) (v := .ref q_1) (ty := .object "MixinUnits$Things") (C := RX2) (T := TX2) (N := 8) hx hb hts wc_X2_init_X2 tyX2 tyX2_ok nmX2 hown hK hP hD hS 0 rfl rfl 1 (by decide) (hts (.fieldLink RX2 12 "MixinUnits$Finder" "things" "LMixinUnits$Things;") (wd_X2_init _ (List.mem_of_getElem? (i := 8) rfl))) (fun _ h9 => h9) rfl hin rfl (by decide +kernel) rfl rfl (Nat.le_of_ble_eq_true rfl) dX2_init_12 (fun H locs hP hD hS => ?_)
  have hP : va_P D vwCl [(h, .inr (3, [.null, .ref q_1, .null, .null, .null, .null, .null, .null])), (q_1, .inr (8, [.ref q0_3, .int 0, .ref q2_4]))] H := hP
  have hD : va_D A [(h, .inr (3, [.null, .ref q_1, .null, .null, .null, .null, .null, .null])), (q_1, .inr (8, [.ref q0_3, .int 0, .ref q2_4]))] := hD
  refine lv_aload_n hx hb dX2_init_15 rfl (lv_at hl 0 rfl) ?_
  refine va_new (ci := 2) (fs := [.null, .null, .null, .null, .null]) (C := RX1) (T := TX1) (N := 5) hx hb hts wc_X2_init_X1 tyX1 tyX1_ok hown (hts (.classLink RX2 18 RX1) (wd_X2_init _ (List.mem_of_getElem? (i := 9) rfl))) (hts (.instantiable RX1 5) (wd_X2_init _ (List.mem_of_getElem? (i := 10) rfl))) (hts (.initialized RX1) (wd_X2_init _ (List.mem_of_getElem? (i := 11) rfl))) hK hP hD hS hA rfl (fn_X1) (Nat.le_of_ble_eq_true rfl) (Nat.le_of_ble_eq_true rfl) dX2_init_16 (fun q_5 H hP hD hS => ?_)
  have hP : va_P D vwCl [(h, .inr (3, [.null, .ref q_1, .null, .null, .null, .null, .null, .null])), (q_1, .inr (8, [.ref q0_3, .int 0, .ref q2_4])), (q_5, .inr (2, [.null, .null, .null, .null, .null]))] H := hP
  have hD : va_D A [(h, .inr (3, [.null, .ref q_1, .null, .null, .null, .null, .null, .null])), (q_1, .inr (8, [.ref q0_3, .int 0, .ref q2_4])), (q_5, .inr (2, [.null, .null, .null, .null, .null]))] := hD
  refine W.widen (k := 4) (n := 392) (Nat.le_of_ble_eq_true rfl) (Nat.le_of_ble_eq_true rfl) ?_
  refine lv_dup hx hb dX2_init_19 rfl ?_
  have hPc := hP.sub (ws' := [(q_5, .inr (2, [.null, .null, .null, .null, .null]))]) [2] rfl
  have hDc := hD.sub (ws' := [(q_5, .inr (2, [.null, .null, .null, .null, .null]))]) [2] (by decide) rfl
  have hFc := va_free (wc := [(q_5, .inr (2, [.null, .null, .null, .null, .null]))]) hD hS hA [2] rfl
  refine va_callv (va_runIN (As := []) (rest := [.ref q_5, .ref h]) ⟨hx, hb, hml, hown, hts⟩ (c_X1_init l D dT H.size q_5) ⟨va_cnB 0 hts (goodIn_sub wq_X2_init_X1_init gd_X1_init) rfl rfl rfl (hE.1.1 (RX2, 20, yX1_init, RX11) (by decide +kernel)) (hts (.initialized RX1) (wd_X2_init _ (List.mem_of_getElem? (i := 11) rfl))) (by decide +kernel) ⟨Nat.le_of_ble_eq_true rfl, Nat.le_of_ble_eq_true rfl⟩, rfl, (hts (.instanceMethod yX1_init) (wd_X2_init _ (List.mem_of_getElem? (i := 12) rfl)))⟩ ⟨(fun a U g mk q => by obtain ⟨z0, z1, zP, zK, zD, zE⟩ := q; exact ⟨z0, z1, zP, va_K.moved (u := U) (U := U.calling g mk a) (Vm.Alike.refl U.vm) zK, zD, EN.frame zE⟩), fun U hU hW => ⟨rfl, by rw [hU], by rw [hU]; exact hPc, va_K.moved hW.alike hK, hDc.weaken (fun _ _ _ _ => trivial), EN.call hE hS hFc hW hU⟩⟩ rfl rfl hl.1 rfl (lv_room (Nat.le_of_ble_eq_true rfl)) dX2_init_20 ⟨(Nat.le_of_ble_eq_true rfl), (Nat.le_of_ble_eq_true rfl)⟩) hS (fun q _ h => hFc q h) hFc (fun u_6 t H1 locs ht hvm hw hB hz1 hk1 hS => ?_)
  obtain ⟨q0_7, q1_8, q2_9, q3_10, q4_11, -, hP1, hK1, hD1⟩ := hB
  rw [ht] at hP1
  obtain ⟨hP, hD⟩ := va_join (wr := [(h, .inr (3, [.null, .ref q_1, .null, .null, .null, .null, .null, .null])), (q_1, .inr (8, [.ref q0_3, .int 0, .ref q2_4]))]) (w1 := [(q_5, .inr (2, [.ref q0_7, .ref q1_8, .ref q2_9, .ref q3_10, .ref q4_11]))]) hP hD [2] [0, 1] rfl rfl (by decide) (by decide) hk1 hFc hP1 hD1
  generalize H1 = H at hP hS ⊢
  have hP : va_P D vwCl [(h, .inr (3, [.null, .ref q_1, .null, .null, .null, .null, .null, .null])), (q_1, .inr (8, [.ref q0_3, .int 0, .ref q2_4])), (q_5, .inr (2, [.ref q0_7, .ref q1_8, .ref q2_9, .ref q3_10, .ref q4_11]))] H := hP
  have hD : va_D A [(h, .inr (3, [.null, .ref q_1, .null, .null, .null, .null, .null, .null])), (q_1, .inr (8, [.ref q0_3, .int 0, .ref q2_4])), (q_5, .inr (2, [.ref q0_7, .ref q1_8, .ref q2_9, .ref q3_10, .ref q4_11]))] := hD
  refine W.widen (k := 21) (n := 2822) (Nat.le_of_ble_eq_true rfl) (Nat.le_of_ble_eq_true rfl) ?_
  refine va_putF (D := D) (ci := 3) (v := .ref q_5) (ty := .object "MixinUnits$Filling") (C := RX2) (T := TX2) (N := 8) hx hb hts wc_X2_init_X2 tyX2 tyX2_ok nmX2 hown hK hP hD hS 0 rfl rfl 2 (by decide) (hts (.fieldLink RX2 21 "MixinUnits$Finder" "filling" "LMixinUnits$Filling;") (wd_X2_init _ (List.mem_of_getElem? (i := 13) rfl))) (fun _ h9 => h9) rfl hin rfl (by decide +kernel) rfl rfl (Nat.le_of_ble_eq_true rfl) dX2_init_23 (fun H locs hP hD hS => ?_)
  have hP : va_P D vwCl [(h, .inr (3, [.null, .ref q_1, .ref q_5, .null, .null, .null, .null, .null])), (q_1, .inr (8, [.ref q0_3, .int 0, .ref q2_4])), (q_5, .inr (2, [.ref q0_7, .ref q1_8, .ref q2_9, .ref q3_10, .ref q4_11]))] H := hP
  have hD : va_D A [(h, .inr (3, [.null, .ref q_1, .ref q_5, .null, .null, .null, .null, .null])), (q_1, .inr (8, [.ref q0_3, .int 0, .ref q2_4])), (q_5, .inr (2, [.ref q0_7, .ref q1_8, .ref q2_9, .ref q3_10, .ref q4_11]))] := hD
  refine lv_aload_n hx hb dX2_init_26 rfl (lv_at hl 0 rfl) ?_
  refine va_new (ci := 2) (fs := [.null, .null, .null, .null, .null]) (C := RX1) (T := TX1) (N := 5) hx hb hts wc_X2_init_X1 tyX1 tyX1_ok hown (hts (.classLink RX2 18 RX1) (wd_X2_init _ (List.mem_of_getElem? (i := 9) rfl))) (hts (.instantiable RX1 5) (wd_X2_init _ (List.mem_of_getElem? (i := 10) rfl))) (hts (.initialized RX1) (wd_X2_init _ (List.mem_of_getElem? (i := 11) rfl))) hK hP hD hS hA rfl (fn_X1) (Nat.le_of_ble_eq_true rfl) (Nat.le_of_ble_eq_true rfl) dX2_init_27 (fun q_12 H hP hD hS => ?_)
  have hP : va_P D vwCl [(h, .inr (3, [.null, .ref q_1, .ref q_5, .null, .null, .null, .null, .null])), (q_1, .inr (8, [.ref q0_3, .int 0, .ref q2_4])), (q_5, .inr (2, [.ref q0_7, .ref q1_8, .ref q2_9, .ref q3_10, .ref q4_11])), (q_12, .inr (2, [.null, .null, .null, .null, .null]))] H := hP
  have hD : va_D A [(h, .inr (3, [.null, .ref q_1, .ref q_5, .null, .null, .null, .null, .null])), (q_1, .inr (8, [.ref q0_3, .int 0, .ref q2_4])), (q_5, .inr (2, [.ref q0_7, .ref q1_8, .ref q2_9, .ref q3_10, .ref q4_11])), (q_12, .inr (2, [.null, .null, .null, .null, .null]))] := hD
  refine W.widen (k := 22) (n := 2827) (Nat.le_of_ble_eq_true rfl) (Nat.le_of_ble_eq_true rfl) ?_
  refine lv_dup hx hb dX2_init_30 rfl ?_
  have hPc := hP.sub (ws' := [(q_12, .inr (2, [.null, .null, .null, .null, .null]))]) [3] rfl
  have hDc := hD.sub (ws' := [(q_12, .inr (2, [.null, .null, .null, .null, .null]))]) [3] (by decide) rfl
  have hFc := va_free (wc := [(q_12, .inr (2, [.null, .null, .null, .null, .null]))]) hD hS hA [3] rfl
  refine va_callv (va_runIN (As := []) (rest := [.ref q_12, .ref h]) ⟨hx, hb, hml, hown, hts⟩ (c_X1_init l D dT H.size q_12) ⟨va_cnB 0 hts (goodIn_sub wq_X2_init_X1_init gd_X1_init) rfl rfl rfl (hE.1.1 (RX2, 20, yX1_init, RX11) (by decide +kernel)) (hts (.initialized RX1) (wd_X2_init _ (List.mem_of_getElem? (i := 11) rfl))) (by decide +kernel) ⟨Nat.le_of_ble_eq_true rfl, Nat.le_of_ble_eq_true rfl⟩, rfl, (hts (.instanceMethod yX1_init) (wd_X2_init _ (List.mem_of_getElem? (i := 12) rfl)))⟩ ⟨(fun a U g mk q => by obtain ⟨z0, z1, zP, zK, zD, zE⟩ := q; exact ⟨z0, z1, zP, va_K.moved (u := U) (U := U.calling g mk a) (Vm.Alike.refl U.vm) zK, zD, EN.frame zE⟩), fun U hU hW => ⟨rfl, by rw [hU], by rw [hU]; exact hPc, va_K.moved hW.alike hK, hDc.weaken (fun _ _ _ _ => trivial), EN.call hE hS hFc hW hU⟩⟩ rfl rfl hl.1 rfl (lv_room (Nat.le_of_ble_eq_true rfl)) dX2_init_31 ⟨(Nat.le_of_ble_eq_true rfl), (Nat.le_of_ble_eq_true rfl)⟩) hS (fun q _ h => hFc q h) hFc (fun u_13 t H1 locs ht hvm hw hB hz1 hk1 hS => ?_)
  obtain ⟨q0_14, q1_15, q2_16, q3_17, q4_18, -, hP1, hK1, hD1⟩ := hB
  rw [ht] at hP1
  obtain ⟨hP, hD⟩ := va_join (wr := [(h, .inr (3, [.null, .ref q_1, .ref q_5, .null, .null, .null, .null, .null])), (q_1, .inr (8, [.ref q0_3, .int 0, .ref q2_4])), (q_5, .inr (2, [.ref q0_7, .ref q1_8, .ref q2_9, .ref q3_10, .ref q4_11]))]) (w1 := [(q_12, .inr (2, [.ref q0_14, .ref q1_15, .ref q2_16, .ref q3_17, .ref q4_18]))]) hP hD [3] [0, 1, 2] rfl rfl (by decide) (by decide) hk1 hFc hP1 hD1
  generalize H1 = H at hP hS ⊢
  have hP : va_P D vwCl [(h, .inr (3, [.null, .ref q_1, .ref q_5, .null, .null, .null, .null, .null])), (q_1, .inr (8, [.ref q0_3, .int 0, .ref q2_4])), (q_5, .inr (2, [.ref q0_7, .ref q1_8, .ref q2_9, .ref q3_10, .ref q4_11])), (q_12, .inr (2, [.ref q0_14, .ref q1_15, .ref q2_16, .ref q3_17, .ref q4_18]))] H := hP
  have hD : va_D A [(h, .inr (3, [.null, .ref q_1, .ref q_5, .null, .null, .null, .null, .null])), (q_1, .inr (8, [.ref q0_3, .int 0, .ref q2_4])), (q_5, .inr (2, [.ref q0_7, .ref q1_8, .ref q2_9, .ref q3_10, .ref q4_11])), (q_12, .inr (2, [.ref q0_14, .ref q1_15, .ref q2_16, .ref q3_17, .ref q4_18]))] := hD
  refine W.widen (k := 39) (n := 5257) (Nat.le_of_ble_eq_true rfl) (Nat.le_of_ble_eq_true rfl) ?_
  refine va_putF (D := D) (ci := 3) (v := .ref q_12) (ty := .object "MixinUnits$Filling") (C := RX2) (T := TX2) (N := 8) hx hb hts wc_X2_init_X2 tyX2 tyX2_ok nmX2 hown hK hP hD hS 0 rfl rfl 3 (by decide) (hts (.fieldLink RX2 25 "MixinUnits$Finder" "stamps" "LMixinUnits$Filling;") (wd_X2_init _ (List.mem_of_getElem? (i := 14) rfl))) (fun _ h9 => h9) rfl hin rfl (by decide +kernel) rfl rfl (Nat.le_of_ble_eq_true rfl) dX2_init_34 (fun H locs hP hD hS => ?_)
  have hP : va_P D vwCl [(h, .inr (3, [.null, .ref q_1, .ref q_5, .ref q_12, .null, .null, .null, .null])), (q_1, .inr (8, [.ref q0_3, .int 0, .ref q2_4])), (q_5, .inr (2, [.ref q0_7, .ref q1_8, .ref q2_9, .ref q3_10, .ref q4_11])), (q_12, .inr (2, [.ref q0_14, .ref q1_15, .ref q2_16, .ref q3_17, .ref q4_18]))] H := hP
  have hD : va_D A [(h, .inr (3, [.null, .ref q_1, .ref q_5, .ref q_12, .null, .null, .null, .null])), (q_1, .inr (8, [.ref q0_3, .int 0, .ref q2_4])), (q_5, .inr (2, [.ref q0_7, .ref q1_8, .ref q2_9, .ref q3_10, .ref q4_11])), (q_12, .inr (2, [.ref q0_14, .ref q1_15, .ref q2_16, .ref q3_17, .ref q4_18]))] := hD
  refine lv_aload_n hx hb dX2_init_37 rfl (lv_at hl 0 rfl) ?_
  refine va_new (ci := 1) (fs := [.int 0, .null, .null, .null, .null, .null, .null]) (C := RX0) (T := TX0) (N := 7) hx hb hts wc_X2_init_X0 tyX0 tyX0_ok hown (hts (.classLink RX2 28 RX0) (wd_X2_init _ (List.mem_of_getElem? (i := 15) rfl))) (hts (.instantiable RX0 7) (wd_X2_init _ (List.mem_of_getElem? (i := 16) rfl))) (hts (.initialized RX0) (wd_X2_init _ (List.mem_of_getElem? (i := 17) rfl))) hK hP hD hS hA rfl (fn_X0) (Nat.le_of_ble_eq_true rfl) (Nat.le_of_ble_eq_true rfl) dX2_init_38 (fun q_19 H hP hD hS => ?_)
  have hP : va_P D vwCl [(h, .inr (3, [.null, .ref q_1, .ref q_5, .ref q_12, .null, .null, .null, .null])), (q_1, .inr (8, [.ref q0_3, .int 0, .ref q2_4])), (q_5, .inr (2, [.ref q0_7, .ref q1_8, .ref q2_9, .ref q3_10, .ref q4_11])), (q_12, .inr (2, [.ref q0_14, .ref q1_15, .ref q2_16, .ref q3_17, .ref q4_18])), (q_19, .inr (1, [.int 0, .null, .null, .null, .null, .null, .null]))] H := hP
  have hD : va_D A [(h, .inr (3, [.null, .ref q_1, .ref q_5, .ref q_12, .null, .null, .null, .null])), (q_1, .inr (8, [.ref q0_3, .int 0, .ref q2_4])), (q_5, .inr (2, [.ref q0_7, .ref q1_8, .ref q2_9, .ref q3_10, .ref q4_11])), (q_12, .inr (2, [.ref q0_14, .ref q1_15, .ref q2_16, .ref q3_17, .ref q4_18])), (q_19, .inr (1, [.int 0, .null, .null, .null, .null, .null, .null]))] := hD
  refine W.widen (k := 40) (n := 5264) (Nat.le_of_ble_eq_true rfl) (Nat.le_of_ble_eq_true rfl) ?_
  refine lv_dup hx hb dX2_init_41 rfl ?_
  have hPc := hP.sub (ws' := [(q_19, .inr (1, [.int 0, .null, .null, .null, .null, .null, .null]))]) [4] rfl
  have hDc := hD.sub (ws' := [(q_19, .inr (1, [.int 0, .null, .null, .null, .null, .null, .null]))]) [4] (by decide) rfl
  have hFc := va_free (wc := [(q_19, .inr (1, [.int 0, .null, .null, .null, .null, .null, .null]))]) hD hS hA [4] rfl
  refine va_callv (va_runIN (As := []) (rest := [.ref q_19, .ref h]) ⟨hx, hb, hml, hown, hts⟩ (c_X0_init l D dT H.size q_19) ⟨va_cnB 0 hts (goodIn_sub wq_X2_init_X0_init gd_X0_init) rfl rfl rfl (hE.1.1 (RX2, 30, yX0_init, RX11) (by decide +kernel)) (hts (.initialized RX0) (wd_X2_init _ (List.mem_of_getElem? (i := 17) rfl))) (by decide +kernel) ⟨Nat.le_of_ble_eq_true rfl, Nat.le_of_ble_eq_true rfl⟩, rfl, (hts (.instanceMethod yX0_init) (wd_X2_init _ (List.mem_of_getElem? (i := 18) rfl)))⟩ ⟨(fun a U g mk q => by obtain ⟨z0, z1, zP, zK, zD, zE⟩ := q; exact ⟨z0, z1, zP, va_K.moved (u := U) (U := U.calling g mk a) (Vm.Alike.refl U.vm) zK, zD, EN.frame zE⟩), fun U hU hW => ⟨rfl, by rw [hU], by rw [hU]; exact hPc, va_K.moved hW.alike hK, hDc.weaken (fun _ _ _ _ => trivial), EN.call hE hS hFc hW hU⟩⟩ rfl rfl hl.1 rfl (lv_room (Nat.le_of_ble_eq_true rfl)) dX2_init_42 ⟨(Nat.le_of_ble_eq_true rfl), (Nat.le_of_ble_eq_true rfl)⟩) hS (fun q _ h => hFc q h) hFc (fun u_20 t H1 locs ht hvm hw hB hz1 hk1 hS => ?_)
  obtain ⟨q1_21, q2_22, q3_23, q4_24, q5_25, q6_26, -, hP1, hK1, hD1⟩ := hB
  rw [ht] at hP1
  obtain ⟨hP, hD⟩ := va_join (wr := [(h, .inr (3, [.null, .ref q_1, .ref q_5, .ref q_12, .null, .null, .null, .null])), (q_1, .inr (8, [.ref q0_3, .int 0, .ref q2_4])), (q_5, .inr (2, [.ref q0_7, .ref q1_8, .ref q2_9, .ref q3_10, .ref q4_11])), (q_12, .inr (2, [.ref q0_14, .ref q1_15, .ref q2_16, .ref q3_17, .ref q4_18]))]) (w1 := [(q_19, .inr (1, [.int 0, .ref q1_21, .ref q2_22, .ref q3_23, .ref q4_24, .ref q5_25, .ref q6_26]))]) hP hD [4] [0, 1, 2, 3] rfl rfl (by decide) (by decide) hk1 hFc hP1 hD1
  generalize H1 = H at hP hS ⊢
  have hP : va_P D vwCl [(h, .inr (3, [.null, .ref q_1, .ref q_5, .ref q_12, .null, .null, .null, .null])), (q_1, .inr (8, [.ref q0_3, .int 0, .ref q2_4])), (q_5, .inr (2, [.ref q0_7, .ref q1_8, .ref q2_9, .ref q3_10, .ref q4_11])), (q_12, .inr (2, [.ref q0_14, .ref q1_15, .ref q2_16, .ref q3_17, .ref q4_18])), (q_19, .inr (1, [.int 0, .ref q1_21, .ref q2_22, .ref q3_23, .ref q4_24, .ref q5_25, .ref q6_26]))] H := hP
  have hD : va_D A [(h, .inr (3, [.null, .ref q_1, .ref q_5, .ref q_12, .null, .null, .null, .null])), (q_1, .inr (8, [.ref q0_3, .int 0, .ref q2_4])), (q_5, .inr (2, [.ref q0_7, .ref q1_8, .ref q2_9, .ref q3_10, .ref q4_11])), (q_12, .inr (2, [.ref q0_14, .ref q1_15, .ref q2_16, .ref q3_17, .ref q4_18])), (q_19, .inr (1, [.int 0, .ref q1_21, .ref q2_22, .ref q3_23, .ref q4_24, .ref q5_25, .ref q6_26]))] := hD
  refine W.widen (k := 62) (n := 5396) (Nat.le_of_ble_eq_true rfl) (Nat.le_of_ble_eq_true rfl) ?_
  refine va_putF (D := D) (ci := 3) (v := .ref q_19) (ty := .object "MixinUnits$Face") (C := RX2) (T := TX2) (N := 8) hx hb hts wc_X2_init_X2 tyX2 tyX2_ok nmX2 hown hK hP hD hS 0 rfl rfl 5 (by decide) (hts (.fieldLink RX2 31 "MixinUnits$Finder" "functor" "LMixinUnits$Face;") (wd_X2_init _ (List.mem_of_getElem? (i := 19) rfl))) (fun _ h9 => h9) rfl hin rfl (by decide +kernel) rfl rfl (Nat.le_of_ble_eq_true rfl) dX2_init_45 (fun H locs hP hD hS => ?_)
  have hP : va_P D vwCl [(h, .inr (3, [.null, .ref q_1, .ref q_5, .ref q_12, .null, .ref q_19, .null, .null])), (q_1, .inr (8, [.ref q0_3, .int 0, .ref q2_4])), (q_5, .inr (2, [.ref q0_7, .ref q1_8, .ref q2_9, .ref q3_10, .ref q4_11])), (q_12, .inr (2, [.ref q0_14, .ref q1_15, .ref q2_16, .ref q3_17, .ref q4_18])), (q_19, .inr (1, [.int 0, .ref q1_21, .ref q2_22, .ref q3_23, .ref q4_24, .ref q5_25, .ref q6_26]))] H := hP
  have hD : va_D A [(h, .inr (3, [.null, .ref q_1, .ref q_5, .ref q_12, .null, .ref q_19, .null, .null])), (q_1, .inr (8, [.ref q0_3, .int 0, .ref q2_4])), (q_5, .inr (2, [.ref q0_7, .ref q1_8, .ref q2_9, .ref q3_10, .ref q4_11])), (q_12, .inr (2, [.ref q0_14, .ref q1_15, .ref q2_16, .ref q3_17, .ref q4_18])), (q_19, .inr (1, [.int 0, .ref q1_21, .ref q2_22, .ref q3_23, .ref q4_24, .ref q5_25, .ref q6_26]))] := hD
  refine lv_aload_n hx hb dX2_init_48 rfl (lv_at hl 0 rfl) ?_
  refine lv_sipush (v := 200) hx hb dX2_init_49 (by decide) ?_
  refine va_newa1 (atype := .int) (ty := .int) (N' := 200) (a0 := (200, .inl (fun _ => 0))) 0 hx hb (hts (.arrayClass .int) (wd_X2_init _ (List.mem_of_getElem? (i := 20) rfl))) rfl rfl hK hP hD hS hA (fun _ => rfl) (by decide) (by decide) (Nat.le_of_ble_eq_true rfl) (Nat.le_of_ble_eq_true rfl) (Nat.le_of_ble_eq_true rfl) dX2_init_52 (fun q_27 H hP hD hS => ?_)
  have hP : va_P D vwCl [(h, .inr (3, [.null, .ref q_1, .ref q_5, .ref q_12, .null, .ref q_19, .null, .null])), (q_1, .inr (8, [.ref q0_3, .int 0, .ref q2_4])), (q_5, .inr (2, [.ref q0_7, .ref q1_8, .ref q2_9, .ref q3_10, .ref q4_11])), (q_12, .inr (2, [.ref q0_14, .ref q1_15, .ref q2_16, .ref q3_17, .ref q4_18])), (q_19, .inr (1, [.int 0, .ref q1_21, .ref q2_22, .ref q3_23, .ref q4_24, .ref q5_25, .ref q6_26])), (q_27, .inl (dT 0, 200, .inl (fun _ => 0)))] H := hP
  have hD : va_D A [(h, .inr (3, [.null, .ref q_1, .ref q_5, .ref q_12, .null, .ref q_19, .null, .null])), (q_1, .inr (8, [.ref q0_3, .int 0, .ref q2_4])), (q_5, .inr (2, [.ref q0_7, .ref q1_8, .ref q2_9, .ref q3_10, .ref q4_11])), (q_12, .inr (2, [.ref q0_14, .ref q1_15, .ref q2_16, .ref q3_17, .ref q4_18])), (q_19, .inr (1, [.int 0, .ref q1_21, .ref q2_22, .ref q3_23, .ref q4_24, .ref q5_25, .ref q6_26])), (q_27, .inl (dT 0, 200, .inl (fun _ => 0)))] := hD
  refine W.widen (k := 63) (n := 5596) (Nat.le_of_ble_eq_true rfl) (Nat.le_of_ble_eq_true rfl) ?_
  refine va_putF (D := D) (ci := 3) (v := .ref q_27) (ty := .array .int) (C := RX2) (T := TX2) (N := 8) hx hb hts wc_X2_init_X2 tyX2 tyX2_ok nmX2 hown hK hP hD hS 0 rfl rfl 6 (by decide) (hts (.fieldLink RX2 35 "MixinUnits$Finder" "spare" "[I") (wd_X2_init _ (List.mem_of_getElem? (i := 21) rfl))) (fun _ h9 => h9) rfl hin rfl (by decide +kernel) rfl rfl (Nat.le_of_ble_eq_true rfl) dX2_init_54 (fun H locs hP hD hS => ?_)
  have hP : va_P D vwCl [(h, .inr (3, [.null, .ref q_1, .ref q_5, .ref q_12, .null, .ref q_19, .ref q_27, .null])), (q_1, .inr (8, [.ref q0_3, .int 0, .ref q2_4])), (q_5, .inr (2, [.ref q0_7, .ref q1_8, .ref q2_9, .ref q3_10, .ref q4_11])), (q_12, .inr (2, [.ref q0_14, .ref q1_15, .ref q2_16, .ref q3_17, .ref q4_18])), (q_19, .inr (1, [.int 0, .ref q1_21, .ref q2_22, .ref q3_23, .ref q4_24, .ref q5_25, .ref q6_26])), (q_27, .inl (dT 0, 200, .inl (fun _ => 0)))] H := hP
  have hD : va_D A [(h, .inr (3, [.null, .ref q_1, .ref q_5, .ref q_12, .null, .ref q_19, .ref q_27, .null])), (q_1, .inr (8, [.ref q0_3, .int 0, .ref q2_4])), (q_5, .inr (2, [.ref q0_7, .ref q1_8, .ref q2_9, .ref q3_10, .ref q4_11])), (q_12, .inr (2, [.ref q0_14, .ref q1_15, .ref q2_16, .ref q3_17, .ref q4_18])), (q_19, .inr (1, [.int 0, .ref q1_21, .ref q2_22, .ref q3_23, .ref q4_24, .ref q5_25, .ref q6_26])), (q_27, .inl (dT 0, 200, .inl (fun _ => 0)))] := hD
  refine lv_aload_n hx hb dX2_init_57 rfl (lv_at hl 0 rfl) ?_
  refine lv_sipush (v := 200) hx hb dX2_init_58 (by decide) ?_
  refine va_newa1 (atype := .int) (ty := .int) (N' := 200) (a0 := (200, .inl (fun _ => 0))) 0 hx hb (hts (.arrayClass .int) (wd_X2_init _ (List.mem_of_getElem? (i := 20) rfl))) rfl rfl hK hP hD hS hA (fun _ => rfl) (by decide) (by decide) (Nat.le_of_ble_eq_true rfl) (Nat.le_of_ble_eq_true rfl) (Nat.le_of_ble_eq_true rfl) dX2_init_61 (fun q_28 H hP hD hS => ?_)
  have hP : va_P D vwCl [(h, .inr (3, [.null, .ref q_1, .ref q_5, .ref q_12, .null, .ref q_19, .ref q_27, .null])), (q_1, .inr (8, [.ref q0_3, .int 0, .ref q2_4])), (q_5, .inr (2, [.ref q0_7, .ref q1_8, .ref q2_9, .ref q3_10, .ref q4_11])), (q_12, .inr (2, [.ref q0_14, .ref q1_15, .ref q2_16, .ref q3_17, .ref q4_18])), (q_19, .inr (1, [.int 0, .ref q1_21, .ref q2_22, .ref q3_23, .ref q4_24, .ref q5_25, .ref q6_26])), (q_27, .inl (dT 0, 200, .inl (fun _ => 0))), (q_28, .inl (dT 0, 200, .inl (fun _ => 0)))] H := hP
  have hD : va_D A [(h, .inr (3, [.null, .ref q_1, .ref q_5, .ref q_12, .null, .ref q_19, .ref q_27, .null])), (q_1, .inr (8, [.ref q0_3, .int 0, .ref q2_4])), (q_5, .inr (2, [.ref q0_7, .ref q1_8, .ref q2_9, .ref q3_10, .ref q4_11])), (q_12, .inr (2, [.ref q0_14, .ref q1_15, .ref q2_16, .ref q3_17, .ref q4_18])), (q_19, .inr (1, [.int 0, .ref q1_21, .ref q2_22, .ref q3_23, .ref q4_24, .ref q5_25, .ref q6_26])), (q_27, .inl (dT 0, 200, .inl (fun _ => 0))), (q_28, .inl (dT 0, 200, .inl (fun _ => 0)))] := hD
  refine W.widen (k := 64) (n := 5796) (Nat.le_of_ble_eq_true rfl) (Nat.le_of_ble_eq_true rfl) ?_
  refine va_putF (D := D) (ci := 3) (v := .ref q_28) (ty := .array .int) (C := RX2) (T := TX2) (N := 8) hx hb hts wc_X2_init_X2 tyX2 tyX2_ok nmX2 hown hK hP hD hS 0 rfl rfl 7 (by decide) (hts (.fieldLink RX2 39 "MixinUnits$Finder" "otherSpare" "[I") (wd_X2_init _ (List.mem_of_getElem? (i := 22) rfl))) (fun _ h9 => h9) rfl hin rfl (by decide +kernel) rfl rfl (Nat.le_of_ble_eq_true rfl) dX2_init_63 (fun H locs hP hD hS => ?_)
  have hP : va_P D vwCl [(h, .inr (3, [.null, .ref q_1, .ref q_5, .ref q_12, .null, .ref q_19, .ref q_27, .ref q_28])), (q_1, .inr (8, [.ref q0_3, .int 0, .ref q2_4])), (q_5, .inr (2, [.ref q0_7, .ref q1_8, .ref q2_9, .ref q3_10, .ref q4_11])), (q_12, .inr (2, [.ref q0_14, .ref q1_15, .ref q2_16, .ref q3_17, .ref q4_18])), (q_19, .inr (1, [.int 0, .ref q1_21, .ref q2_22, .ref q3_23, .ref q4_24, .ref q5_25, .ref q6_26])), (q_27, .inl (dT 0, 200, .inl (fun _ => 0))), (q_28, .inl (dT 0, 200, .inl (fun _ => 0)))] H := hP
  have hD : va_D A [(h, .inr (3, [.null, .ref q_1, .ref q_5, .ref q_12, .null, .ref q_19, .ref q_27, .ref q_28])), (q_1, .inr (8, [.ref q0_3, .int 0, .ref q2_4])), (q_5, .inr (2, [.ref q0_7, .ref q1_8, .ref q2_9, .ref q3_10, .ref q4_11])), (q_12, .inr (2, [.ref q0_14, .ref q1_15, .ref q2_16, .ref q3_17, .ref q4_18])), (q_19, .inr (1, [.int 0, .ref q1_21, .ref q2_22, .ref q3_23, .ref q4_24, .ref q5_25, .ref q6_26])), (q_27, .inl (dT 0, 200, .inl (fun _ => 0))), (q_28, .inl (dT 0, 200, .inl (fun _ => 0)))] := hD
  refine lv_aload_n hx hb dX2_init_66 rfl (lv_at hl 0 rfl) ?_
  refine lv_aload_n hx hb dX2_init_67 rfl (lv_at hl 1 rfl) ?_
  refine va_putF (D := D) (ci := 3) (v := .ref pr) (ty := .object "MixinUnits$Program") (C := RX2) (T := TX2) (N := 8) hx hb hts wc_X2_init_X2 tyX2 tyX2_ok nmX2 hown hK hP hD hS 0 rfl rfl 0 (by decide) (hts (.fieldLink RX2 42 "MixinUnits$Finder" "program" "LMixinUnits$Program;") (wd_X2_init _ (List.mem_of_getElem? (i := 23) rfl))) (fun _ h9 => h9) rfl hin rfl (by decide +kernel) rfl rfl (Nat.le_of_ble_eq_true rfl) dX2_init_68 (fun H locs hP hD hS => ?_)
  have hP : va_P D vwCl [(h, .inr (3, [.ref pr, .ref q_1, .ref q_5, .ref q_12, .null, .ref q_19, .ref q_27, .ref q_28])), (q_1, .inr (8, [.ref q0_3, .int 0, .ref q2_4])), (q_5, .inr (2, [.ref q0_7, .ref q1_8, .ref q2_9, .ref q3_10, .ref q4_11])), (q_12, .inr (2, [.ref q0_14, .ref q1_15, .ref q2_16, .ref q3_17, .ref q4_18])), (q_19, .inr (1, [.int 0, .ref q1_21, .ref q2_22, .ref q3_23, .ref q4_24, .ref q5_25, .ref q6_26])), (q_27, .inl (dT 0, 200, .inl (fun _ => 0))), (q_28, .inl (dT 0, 200, .inl (fun _ => 0)))] H := hP
  have hD : va_D A [(h, .inr (3, [.ref pr, .ref q_1, .ref q_5, .ref q_12, .null, .ref q_19, .ref q_27, .ref q_28])), (q_1, .inr (8, [.ref q0_3, .int 0, .ref q2_4])), (q_5, .inr (2, [.ref q0_7, .ref q1_8, .ref q2_9, .ref q3_10, .ref q4_11])), (q_12, .inr (2, [.ref q0_14, .ref q1_15, .ref q2_16, .ref q3_17, .ref q4_18])), (q_19, .inr (1, [.int 0, .ref q1_21, .ref q2_22, .ref q3_23, .ref q4_24, .ref q5_25, .ref q6_26])), (q_27, .inl (dT 0, 200, .inl (fun _ => 0))), (q_28, .inl (dT 0, 200, .inl (fun _ => 0)))] := hD
  refine lv_aload_n hx hb dX2_init_71 rfl (lv_at hl 0 rfl) ?_
  refine va_new (ci := 9) (fs := [.null, .null, .null, .null, .int 0]) (C := RX8) (T := TX8) (N := 5) hx hb hts wc_X2_init_X8 tyX8 tyX8_ok hown (hts (.classLink RX2 46 RX8) (wd_X2_init _ (List.mem_of_getElem? (i := 24) rfl))) (hts (.instantiable RX8 5) (wd_X2_init _ (List.mem_of_getElem? (i := 25) rfl))) (hts (.initialized RX8) (wd_X2_init _ (List.mem_of_getElem? (i := 26) rfl))) hK hP hD hS hA rfl (fn_X8) (Nat.le_of_ble_eq_true rfl) (Nat.le_of_ble_eq_true rfl) dX2_init_72 (fun q_29 H hP hD hS => ?_)
  have hP : va_P D vwCl [(h, .inr (3, [.ref pr, .ref q_1, .ref q_5, .ref q_12, .null, .ref q_19, .ref q_27, .ref q_28])), (q_1, .inr (8, [.ref q0_3, .int 0, .ref q2_4])), (q_5, .inr (2, [.ref q0_7, .ref q1_8, .ref q2_9, .ref q3_10, .ref q4_11])), (q_12, .inr (2, [.ref q0_14, .ref q1_15, .ref q2_16, .ref q3_17, .ref q4_18])), (q_19, .inr (1, [.int 0, .ref q1_21, .ref q2_22, .ref q3_23, .ref q4_24, .ref q5_25, .ref q6_26])), (q_27, .inl (dT 0, 200, .inl (fun _ => 0))), (q_28, .inl (dT 0, 200, .inl (fun _ => 0))), (q_29, .inr (9, [.null, .null, .null, .null, .int 0]))] H := hP
  have hD : va_D A [(h, .inr (3, [.ref pr, .ref q_1, .ref q_5, .ref q_12, .null, .ref q_19, .ref q_27, .ref q_28])), (q_1, .inr (8, [.ref q0_3, .int 0, .ref q2_4])), (q_5, .inr (2, [.ref q0_7, .ref q1_8, .ref q2_9, .ref q3_10, .ref q4_11])), (q_12, .inr (2, [.ref q0_14, .ref q1_15, .ref q2_16, .ref q3_17, .ref q4_18])), (q_19, .inr (1, [.int 0, .ref q1_21, .ref q2_22, .ref q3_23, .ref q4_24, .ref q5_25, .ref q6_26])), (q_27, .inl (dT 0, 200, .inl (fun _ => 0))), (q_28, .inl (dT 0, 200, .inl (fun _ => 0))), (q_29, .inr (9, [.null, .null, .null, .null, .int 0]))] := hD
  refine W.widen (k := 65) (n := 5801) (Nat.le_of_ble_eq_true rfl) (Nat.le_of_ble_eq_true rfl) ?_
  refine lv_dup hx hb dX2_init_75 rfl ?_
  refine lv_aload_n hx hb dX2_init_76 rfl (lv_at hl 1 rfl) ?_
  refine lv_aload_n hx hb dX2_init_77 rfl (lv_at hl 0 rfl) ?_
  refine va_get (D := D) (ci := 3) (v := .ref q_5) (C := RX2) (T := TX2) (N := 8) hx hb hts wc_X2_init_X2 hown hK hP 0 rfl rfl 2 (by decide) (hts (.fieldLink RX2 21 "MixinUnits$Finder" "filling" "LMixinUnits$Filling;") (wd_X2_init _ (List.mem_of_getElem? (i := 13) rfl))) (fun _ h9 => h9) rfl dX2_init_78 ?_
  have hPc := hP.sub (ws' := [(q_29, .inr (9, [.null, .null, .null, .null, .int 0]))]) [7] rfl
  have hDc := hD.sub (ws' := [(q_29, .inr (9, [.null, .null, .null, .null, .int 0]))]) [7] (by decide) rfl
  have hFc := va_free (wc := [(q_29, .inr (9, [.null, .null, .null, .null, .int 0]))]) hD hS hA [7] rfl
  refine va_callv (va_runI (As := [.ref pr, .ref q_5]) (rest := [.ref q_29, .ref h]) ⟨hx, hb, hml, hown, hts⟩ (c_X8_init l D dT H.size q_29 pr q_5) (cwI 2 hts (goodIn_sub wq_X2_init_X8_init gd_X8_init) rfl rfl rfl (hts (.initialized RX8) (wd_X2_init _ (List.mem_of_getElem? (i := 26) rfl))) (hts (.methodLink RX2 48 yX8_init) (wd_X2_init _ (List.mem_of_getElem? (i := 27) rfl))) (hts (.instanceMethod yX8_init) (wd_X2_init _ (List.mem_of_getElem? (i := 28) rfl))) rfl (by decide +kernel) ⟨Nat.le_of_ble_eq_true rfl, Nat.le_of_ble_eq_true rfl⟩) ⟨(fun a U g mk q => by obtain ⟨z0, z1, zP, zK, zD, zE⟩ := q; exact ⟨z0, z1, zP, va_K.moved (u := U) (U := U.calling g mk a) (Vm.Alike.refl U.vm) zK, zD, EN.frame zE⟩), fun U hU hW => ⟨rfl, by rw [hU], by rw [hU]; exact hPc, va_K.moved hW.alike hK, hDc.weaken (fun _ _ _ _ => trivial), EN.call hE hS hFc hW hU⟩⟩ rfl rfl hl.1 rfl (lv_room (Nat.le_of_ble_eq_true rfl)) dX2_init_81 ⟨(Nat.le_of_ble_eq_true rfl), (Nat.le_of_ble_eq_true rfl)⟩) hS (fun q _ h => hFc q h) hFc (fun u_30 t H1 locs ht hvm hw hB hz1 hk1 hS => ?_)
  obtain ⟨q2_31, q3_32, -, hP1, hK1, hD1⟩ := hB
  rw [ht] at hP1
  obtain ⟨hP, hD⟩ := va_join (wr := [(h, .inr (3, [.ref pr, .ref q_1, .ref q_5, .ref q_12, .null, .ref q_19, .ref q_27, .ref q_28])), (q_1, .inr (8, [.ref q0_3, .int 0, .ref q2_4])), (q_5, .inr (2, [.ref q0_7, .ref q1_8, .ref q2_9, .ref q3_10, .ref q4_11])), (q_12, .inr (2, [.ref q0_14, .ref q1_15, .ref q2_16, .ref q3_17, .ref q4_18])), (q_19, .inr (1, [.int 0, .ref q1_21, .ref q2_22, .ref q3_23, .ref q4_24, .ref q5_25, .ref q6_26])), (q_27, .inl (dT 0, 200, .inl (fun _ => 0))), (q_28, .inl (dT 0, 200, .inl (fun _ => 0)))]) (w1 := [(q_29, .inr (9, [.ref pr, .ref q_5, .ref q2_31, .ref q3_32, .int 0]))]) hP hD [7] [0, 1, 2, 3, 4, 5, 6] rfl rfl (by decide) (by decide) hk1 hFc hP1 hD1
  generalize H1 = H at hP hS ⊢
  have hP : va_P D vwCl [(h, .inr (3, [.ref pr, .ref q_1, .ref q_5, .ref q_12, .null, .ref q_19, .ref q_27, .ref q_28])), (q_1, .inr (8, [.ref q0_3, .int 0, .ref q2_4])), (q_5, .inr (2, [.ref q0_7, .ref q1_8, .ref q2_9, .ref q3_10, .ref q4_11])), (q_12, .inr (2, [.ref q0_14, .ref q1_15, .ref q2_16, .ref q3_17, .ref q4_18])), (q_19, .inr (1, [.int 0, .ref q1_21, .ref q2_22, .ref q3_23, .ref q4_24, .ref q5_25, .ref q6_26])), (q_27, .inl (dT 0, 200, .inl (fun _ => 0))), (q_28, .inl (dT 0, 200, .inl (fun _ => 0))), (q_29, .inr (9, [.ref pr, .ref q_5, .ref q2_31, .ref q3_32, .int 0]))] H := hP
  have hD : va_D A [(h, .inr (3, [.ref pr, .ref q_1, .ref q_5, .ref q_12, .null, .ref q_19, .ref q_27, .ref q_28])), (q_1, .inr (8, [.ref q0_3, .int 0, .ref q2_4])), (q_5, .inr (2, [.ref q0_7, .ref q1_8, .ref q2_9, .ref q3_10, .ref q4_11])), (q_12, .inr (2, [.ref q0_14, .ref q1_15, .ref q2_16, .ref q3_17, .ref q4_18])), (q_19, .inr (1, [.int 0, .ref q1_21, .ref q2_22, .ref q3_23, .ref q4_24, .ref q5_25, .ref q6_26])), (q_27, .inl (dT 0, 200, .inl (fun _ => 0))), (q_28, .inl (dT 0, 200, .inl (fun _ => 0))), (q_29, .inr (9, [.ref pr, .ref q_5, .ref q2_31, .ref q3_32, .int 0]))] := hD
  refine W.widen (k := 67) (n := 6065) (Nat.le_of_ble_eq_true rfl) (Nat.le_of_ble_eq_true rfl) ?_
  refine va_putF (D := D) (ci := 3) (v := .ref q_29) (ty := .object "MixinUnits$UnitFinder") (C := RX2) (T := TX2) (N := 8) hx hb hts wc_X2_init_X2 tyX2 tyX2_ok nmX2 hown hK hP hD hS 0 rfl rfl 4 (by decide) (hts (.fieldLink RX2 51 "MixinUnits$Finder" "unitFinder" "LMixinUnits$UnitFinder;") (wd_X2_init _ (List.mem_of_getElem? (i := 29) rfl))) (fun _ h9 => h9) rfl hin rfl (by decide +kernel) rfl rfl (Nat.le_of_ble_eq_true rfl) dX2_init_84 (fun H locs hP hD hS => ?_)
  have hP : va_P D vwCl [(h, .inr (3, [.ref pr, .ref q_1, .ref q_5, .ref q_12, .ref q_29, .ref q_19, .ref q_27, .ref q_28])), (q_1, .inr (8, [.ref q0_3, .int 0, .ref q2_4])), (q_5, .inr (2, [.ref q0_7, .ref q1_8, .ref q2_9, .ref q3_10, .ref q4_11])), (q_12, .inr (2, [.ref q0_14, .ref q1_15, .ref q2_16, .ref q3_17, .ref q4_18])), (q_19, .inr (1, [.int 0, .ref q1_21, .ref q2_22, .ref q3_23, .ref q4_24, .ref q5_25, .ref q6_26])), (q_27, .inl (dT 0, 200, .inl (fun _ => 0))), (q_28, .inl (dT 0, 200, .inl (fun _ => 0))), (q_29, .inr (9, [.ref pr, .ref q_5, .ref q2_31, .ref q3_32, .int 0]))] H := hP
  have hD : va_D A [(h, .inr (3, [.ref pr, .ref q_1, .ref q_5, .ref q_12, .ref q_29, .ref q_19, .ref q_27, .ref q_28])), (q_1, .inr (8, [.ref q0_3, .int 0, .ref q2_4])), (q_5, .inr (2, [.ref q0_7, .ref q1_8, .ref q2_9, .ref q3_10, .ref q4_11])), (q_12, .inr (2, [.ref q0_14, .ref q1_15, .ref q2_16, .ref q3_17, .ref q4_18])), (q_19, .inr (1, [.int 0, .ref q1_21, .ref q2_22, .ref q3_23, .ref q4_24, .ref q5_25, .ref q6_26])), (q_27, .inl (dT 0, 200, .inl (fun _ => 0))), (q_28, .inl (dT 0, 200, .inl (fun _ => 0))), (q_29, .inr (9, [.ref pr, .ref q_5, .ref q2_31, .ref q3_32, .int 0]))] := hD
  have hP9 := hP.sub (ws' := [(h, .inr (3, [.ref pr, .ref q_1, .ref q_5, .ref q_12, .ref q_29, .ref q_19, .ref q_27, .ref q_28]))]) [0] rfl
  have hD9 := hD.sub (ws' := [(h, .inr (3, [.ref pr, .ref q_1, .ref q_5, .ref q_12, .ref q_29, .ref q_19, .ref q_27, .ref q_28]))]) [0] (by decide) rfl
  exact W.vret hx hb hr (fun t ht hW => ⟨⟨(), rfl, trivial, q_1, q_5, q_12, q_29, q_19, q_27, q_28, trivial, by rw [ht]; exact hP9, va_K.moved hW.alike hK, hD9⟩, hS.F ht⟩) hS.2.2 dX2_init_87

def wD_X3_init : List Cond := [.methodLink RX3 3 objectInit, .instanceMethod objectInit, .code objectInit ⟨#[0xb1]⟩ 1 none, .arrayClass .int, .fieldLink RX3 11 "MixinUnits$Machine" "expressions" "[I", .fieldLink RX3 15 "MixinUnits$Machine" "flags" "[I", .fieldLink RX3 18 "MixinUnits$Machine" "fills" "[I", .fieldLink RX3 21 "MixinUnits$Machine" "shown" "[I", .fieldLink RX3 24 "MixinUnits$Machine" "cells" "[I", .arrayClass .boolean, .fieldLink RX3 27 "MixinUnits$Machine" "isMarked" "[Z", .fieldLink RX3 31 "MixinUnits$Machine" "states" "[I", .fieldLink RX3 34 "MixinUnits$Machine" "stack" "[I", .classLink RX3 37 RX9, .instantiable RX9 5, .initialized RX9, .instanceMethod yX9_init, .fieldLink RX3 40 "MixinUnits$Machine" "values" "LMixinUnits$Values;", .fieldLink RX3 44 "MixinUnits$Machine" "entries" "[I", .fieldLink RX3 47 "MixinUnits$Machine" "results" "[I", .fieldLink RX3 50 "MixinUnits$Machine" "program" "LMixinUnits$Program;"]
def wK_X3_init : List Cond := .code yX3_init cX3_init 2 none :: (wD_X3_init ++ (wsX30 ++ (wsX90 ++ (wK_X9_init ++ ([] : List Cond)))))
theorem wd_X3_init : ∀ w ∈ wD_X3_init, w ∈ wK_X3_init := fun w h => List.mem_cons_of_mem _ (List.mem_append_left _ h)
theorem gd_X3_init : (wK_X3_init).all goodWord = true := by decide +kernel
theorem wc_X3_init_X3 : ∀ w ∈ wsX30, w ∈ wK_X3_init := fun w h => List.mem_cons_of_mem _ (List.mem_append_right _ (List.mem_append_left _ h))
theorem wc_X3_init_X9 : ∀ w ∈ wsX90, w ∈ wK_X3_init := fun w h => List.mem_cons_of_mem _ (List.mem_append_right _ (List.mem_append_right _ (List.mem_append_left _ h)))
theorem wq_X3_init_X9_init : ∀ w ∈ wK_X9_init, w ∈ wK_X3_init := fun w h => List.mem_cons_of_mem _ (List.mem_append_right _ (List.mem_append_right _ (List.mem_append_right _ (List.mem_append_left _ h))))
set_option maxHeartbeats 4000000 in
set_option maxRecDepth 100000 in
/-- Machine(program) -/
theorem c_X3_init (l : Launch) (D : va_G) (dT : Nat → ClassId) (sz : Nat) (h : Nat) (pr : Nat) : Met l yX3_init wK_X3_init ({ frames := 2, cells := 15, slots := 2303, locals := 32 }) (va_Pc [.ref h, .ref pr] (fun U => U.heap.size = sz ∧ va_P D vwCl [(h, .inr (4, [.null, .null, .null, .null, .null, .null, .null, .null, .null, .int 0, .int 0, .int 0, .null, .null, .int 0, .null, .int 0, .int 0]))] U.heap ∧ va_K D vwCl (tysW dT) U ∧ va_D (fun _ => True) [(h, .inr (4, [.null, .null, .null, .null, .null, .null, .null, .null, .null, .int 0, .int 0, .int 0, .null, .null, .int 0, .null, .int 0, .int 0]))] ∧ EN (va_A [(h, .inr (4, [.null, .null, .null, .null, .null, .null, .null, .null, .null, .int 0, .int 0, .int 0, .null, .null, .int 0, .null, .int 0, .int 0]))] sz) U)) (va_Qv (fun (_u : Unit) => True) (fun (_u : Unit) t => ∃ (q1 : Nat), ∃ (q2 : Nat), ∃ (q3 : Nat), ∃ (q4 : Nat), ∃ (q5 : Nat), ∃ (q6 : Nat), ∃ (q7 : Nat), ∃ (q8 : Nat), ∃ (q12 : Nat), ∃ (q13 : Nat), ∃ (q15 : Nat), True ∧ va_P D vwCl [(h, .inr (4, [.ref pr, .ref q1, .ref q2, .ref q3, .ref q4, .ref q5, .ref q6, .ref q7, .ref q8, .int 0, .int 0, .int 0, .ref q12, .ref q13, .int 0, .ref q15, .int 0, .int 0]))] t.heap ∧ va_K D vwCl (tysW dT) t ∧ va_D (va_A [(h, .inr (4, [.null, .null, .null, .null, .null, .null, .null, .null, .null, .int 0, .int 0, .int 0, .null, .null, .int 0, .null, .int 0, .int 0]))] sz) [(h, .inr (4, [.ref pr, .ref q1, .ref q2, .ref q3, .ref q4, .ref q5, .ref q6, .ref q7, .ref q8, .int 0, .int 0, .int 0, .ref q12, .ref q13, .int 0, .ref q15, .int 0, .int 0]))]) (va_A [(h, .inr (4, [.null, .null, .null, .null, .null, .null, .null, .null, .null, .int 0, .int 0, .int 0, .null, .null, .int 0, .null, .int 0, .int 0]))] sz)) 15 2303 (va_A [(h, .inr (4, [.null, .null, .null, .null, .null, .null, .null, .null, .null, .int 0, .int 0, .int 0, .null, .null, .int 0, .null, .int 0, .int 0]))] sz) := by
  refine Met.ofW (cc := cX3_init) (maxL := 2) (ret := none) (by decide) rfl ?_
  intro p e s m args below meth c s₁ B hml hv
  obtain ⟨rfl, hsz, hP, hK, hD0, hE⟩ := hv
  have hx := B.exec
  have hb := B.bytes
  have hr := B.returns
  have hts := atoms_spec (ws := wK_X3_init) B.pre
  have hown : s.vm.findClass RX3 = some m.cls := findClass_of_methodNamed B.named
  have hlocks := B.notSynchronized
  have hin : meth.name = "<init>" := (name_of_methodNamed B.named B.method).1
  subst hsz
  have hD := hD0.self (sz := s.heap.size)
  generalize hAe : va_A [(h, .inr (4, [.null, .null, .null, .null, .null, .null, .null, .null, .null, .int 0, .int 0, .int 0, .null, .null, .int 0, .null, .int 0, .int 0]))] s.heap.size = A at hD hE ⊢
  have hA : ∀ q : Nat, s.heap.size ≤ q → A q := fun q h => by rw [← hAe]; exact Or.inr h
  have hS : va_S A s.heap s.heap [] := va_S.rf
  have hP : va_P D vwCl [(h, .inr (4, [.null, .null, .null, .null, .null, .null, .null, .null, .null, .int 0, .int 0, .int 0, .null, .null, .int 0, .null, .int 0, .int 0]))] s.heap := hP
  have hl := lv_entry ([.ref h, .ref pr]) (n := 2) (Nat.le_of_ble_eq_true rfl)
  rw [lg_entry_eq]
  generalize (lg_sl ([.ref h, .ref pr]) ++ List.replicate (2 - (lg_sl ([.ref h, .ref pr])).length) Slot.unset).toArray = ls at hl ⊢
  have hl : lv_has ls 2 [(0, .ref h), (1, .ref pr)] := hl
  refine lv_aload_n hx hb dX3_init_0 rfl (lv_at hl 0 rfl) ?_
  refine W.objInit hx hb hown (hts (.methodLink RX3 3 objectInit) (wd_X3_init _ (List.mem_of_getElem? (i := 0) rfl))) (hts (.instanceMethod objectInit) (wd_X3_init _ (List.mem_of_getElem? (i := 1) rfl))) (hts (.code objectInit ⟨#[0xb1]⟩ 1 none) (wd_X3_init _ (List.mem_of_getElem? (i := 2) rfl))) rfl (by rw [hml]; exact hl.1) rfl dX3_init_1 (Nat.le_of_ble_eq_true rfl) (Nat.le_of_ble_eq_true rfl) ?_
  refine W.eq (g2 := F0 m 4 ls []) rfl ?_
  refine lv_aload_n hx hb dX3_init_4 rfl (lv_at hl 0 rfl) ?_
  refine lv_sipush (v := 240) hx hb dX3_init_5 (by decide) ?_
  refine va_newa1 (atype := .int) (ty := .int) (N' := 240) (a0 := (240, .inl (fun _ => 0))) 0 hx hb (hts (.arrayClass .int) (wd_X3_init _ (List.mem_of_getElem? (i := 3) rfl))) rfl rfl hK hP hD hS hA (fun _ => rfl) (by decide) (by decide) (Nat.le_of_ble_eq_true rfl) (Nat.le_of_ble_eq_true rfl) (Nat.le_of_ble_eq_true rfl) dX3_init_8 (fun q_1 H hP hD hS => ?_)
  have hP : va_P D vwCl [(h, .inr (4, [.null, .null, .null, .null, .null, .null, .null, .null, .null, .int 0, .int 0, .int 0, .null, .null, .int 0, .null, .int 0, .int 0])), (q_1, .inl (dT 0, 240, .inl (fun _ => 0)))] H := hP
  have hD : va_D A [(h, .inr (4, [.null, .null, .null, .null, .null, .null, .null, .null, .null, .int 0, .int 0, .int 0, .null, .null, .int 0, .null, .int 0, .int 0])), (q_1, .inl (dT 0, 240, .inl (fun _ => 0)))] := hD
  refine W.widen (k := 1) (n := 240) (Nat.le_of_ble_eq_true rfl) (Nat.le_of_ble_eq_true rfl) ?_
  refine va_putF (D := D) (ci := 4) (v := .ref q_1) (ty := .array .int) (C := RX3) (T := TX3) (N := 18) hx hb hts wc_X3_init_X3 tyX3 tyX3_ok nmX3 hown hK hP hD hS 0 rfl rfl 1 (by decide) (hts (.fieldLink RX3 11 "MixinUnits$Machine" "expressions" "[I") (wd_X3_init _ (List.mem_of_getElem? (i := 4) rfl))) (fun _ h9 => h9) rfl hin rfl (by decide +kernel) rfl rfl (Nat.le_of_ble_eq_true rfl) dX3_init_10 (fun H locs hP hD hS => ?_)
  have hP : va_P D vwCl [(h, .inr (4, [.null, .ref q_1, .null, .null, .null, .null, .null, .null, .null, .int 0, .int 0, .int 0, .null, .null, .int 0, .null, .int 0, .int 0])), (q_1, .inl (dT 0, 240, .inl (fun _ => 0)))] H := hP
  have hD : va_D A [(h, .inr (4, [.null, .ref q_1, .null, .null, .null, .null, .null, .null, .null, .int 0, .int 0, .int 0, .null, .null, .int 0, .null, .int 0, .int 0])), (q_1, .inl (dT 0, 240, .inl (fun _ => 0)))] := hD
  refine lv_aload_n hx hb dX3_init_13 rfl (lv_at hl 0 rfl) ?_
  refine lv_sipush (v := 240) hx hb dX3_init_14 (by decide) ?_
  refine va_newa1 (atype := .int) (ty := .int) (N' := 240) (a0 := (240, .inl (fun _ => 0))) 0 hx hb (hts (.arrayClass .int) (wd_X3_init _ (List.mem_of_getElem? (i := 3) rfl))) rfl rfl hK hP hD hS hA (fun _ => rfl) (by decide) (by decide) (Nat.le_of_ble_eq_true rfl) (Nat.le_of_ble_eq_true rfl) (Nat.le_of_ble_eq_true rfl) dX3_init_17 (fun q_2 H hP hD hS => ?_)
  have hP : va_P D vwCl [(h, .inr (4, [.null, .ref q_1, .null, .null, .null, .null, .null, .null, .null, .int 0, .int 0, .int 0, .null, .null, .int 0, .null, .int 0, .int 0])), (q_1, .inl (dT 0, 240, .inl (fun _ => 0))), (q_2, .inl (dT 0, 240, .inl (fun _ => 0)))] H := hP
  have hD : va_D A [(h, .inr (4, [.null, .ref q_1, .null, .null, .null, .null, .null, .null, .null, .int 0, .int 0, .int 0, .null, .null, .int 0, .null, .int 0, .int 0])), (q_1, .inl (dT 0, 240, .inl (fun _ => 0))), (q_2, .inl (dT 0, 240, .inl (fun _ => 0)))] := hD
  refine W.widen (k := 2) (n := 480) (Nat.le_of_ble_eq_true rfl) (Nat.le_of_ble_eq_true rfl) ?_
  refine va_putF (D := D) (ci := 4) (v := .ref q_2) (ty := .array .int) (C := RX3) (T := TX3) (N := 18) hx hb hts wc_X3_init_X3 tyX3 tyX3_ok nmX3 hown hK hP hD hS 0 rfl rfl 2 (by decide) (hts (.fieldLink RX3 15 "MixinUnits$Machine" "flags" "[I") (wd_X3_init _ (List.mem_of_getElem? (i := 5) rfl))) (fun _ h9 => h9) rfl hin rfl (by decide +kernel) rfl rfl (Nat.le_of_ble_eq_true rfl) dX3_init_19 (fun H locs hP hD hS => ?_)
  have hP : va_P D vwCl [(h, .inr (4, [.null, .ref q_1, .ref q_2, .null, .null, .null, .null, .null, .null, .int 0, .int 0, .int 0, .null, .null, .int 0, .null, .int 0, .int 0])), (q_1, .inl (dT 0, 240, .inl (fun _ => 0))), (q_2, .inl (dT 0, 240, .inl (fun _ => 0)))] H := hP
  have hD : va_D A [(h, .inr (4, [.null, .ref q_1, .ref q_2, .null, .null, .null, .null, .null, .null, .int 0, .int 0, .int 0, .null, .null, .int 0, .null, .int 0, .int 0])), (q_1, .inl (dT 0, 240, .inl (fun _ => 0))), (q_2, .inl (dT 0, 240, .inl (fun _ => 0)))] := hD
  refine lv_aload_n hx hb dX3_init_22 rfl (lv_at hl 0 rfl) ?_
  refine lv_sipush (v := 240) hx hb dX3_init_23 (by decide) ?_
  refine va_newa1 (atype := .int) (ty := .int) (N' := 240) (a0 := (240, .inl (fun _ => 0))) 0 hx hb (hts (.arrayClass .int) (wd_X3_init _ (List.mem_of_getElem? (i := 3) rfl))) rfl rfl hK hP hD hS hA (fun _ => rfl) (by decide) (by decide) (Nat.le_of_ble_eq_true rfl) (Nat.le_of_ble_eq_true rfl) (Nat.le_of_ble_eq_true rfl) dX3_init_26 (fun q_3 H hP hD hS => ?_)
  have hP : va_P D vwCl [(h, .inr (4, [.null, .ref q_1, .ref q_2, .null, .null, .null, .null, .null, .null, .int 0, .int 0, .int 0, .null, .null, .int 0, .null, .int 0, .int 0])), (q_1, .inl (dT 0, 240, .inl (fun _ => 0))), (q_2, .inl (dT 0, 240, .inl (fun _ => 0))), (q_3, .inl (dT 0, 240, .inl (fun _ => 0)))] H := hP
  have hD : va_D A [(h, .inr (4, [.null, .ref q_1, .ref q_2, .null, .null, .null, .null, .null, .null, .int 0, .int 0, .int 0, .null, .null, .int 0, .null, .int 0, .int 0])), (q_1, .inl (dT 0, 240, .inl (fun _ => 0))), (q_2, .inl (dT 0, 240, .inl (fun _ => 0))), (q_3, .inl (dT 0, 240, .inl (fun _ => 0)))] := hD
  refine W.widen (k := 3) (n := 720) (Nat.le_of_ble_eq_true rfl) (Nat.le_of_ble_eq_true rfl) ?_
  refine va_putF (D := D) (ci := 4) (v := .ref q_3) (ty := .array .int) (C := RX3) (T := TX3) (N := 18) hx hb hts wc_X3_init_X3 tyX3 tyX3_ok nmX3 hown hK hP hD hS 0 rfl rfl 3 (by decide) (hts (.fieldLink RX3 18 "MixinUnits$Machine" "fills" "[I") (wd_X3_init _ (List.mem_of_getElem? (i := 6) rfl))) (fun _ h9 => h9) rfl hin rfl (by decide +kernel) rfl rfl (Nat.le_of_ble_eq_true rfl) dX3_init_28 (fun H locs hP hD hS => ?_)
  have hP : va_P D vwCl [(h, .inr (4, [.null, .ref q_1, .ref q_2, .ref q_3, .null, .null, .null, .null, .null, .int 0, .int 0, .int 0, .null, .null, .int 0, .null, .int 0, .int 0])), (q_1, .inl (dT 0, 240, .inl (fun _ => 0))), (q_2, .inl (dT 0, 240, .inl (fun _ => 0))), (q_3, .inl (dT 0, 240, .inl (fun _ => 0)))] H := hP
  have hD : va_D A [(h, .inr (4, [.null, .ref q_1, .ref q_2, .ref q_3, .null, .null, .null, .null, .null, .int 0, .int 0, .int 0, .null, .null, .int 0, .null, .int 0, .int 0])), (q_1, .inl (dT 0, 240, .inl (fun _ => 0))), (q_2, .inl (dT 0, 240, .inl (fun _ => 0))), (q_3, .inl (dT 0, 240, .inl (fun _ => 0)))] := hD
  refine lv_aload_n hx hb dX3_init_31 rfl (lv_at hl 0 rfl) ?_
  refine lv_sipush (v := 240) hx hb dX3_init_32 (by decide) ?_
  refine va_newa1 (atype := .int) (ty := .int) (N' := 240) (a0 := (240, .inl (fun _ => 0))) 0 hx hb (hts (.arrayClass .int) (wd_X3_init _ (List.mem_of_getElem? (i := 3) rfl))) rfl rfl hK hP hD hS hA (fun _ => rfl) (by decide) (by decide) (Nat.le_of_ble_eq_true rfl) (Nat.le_of_ble_eq_true rfl) (Nat.le_of_ble_eq_true rfl) dX3_init_35 (fun q_4 H hP hD hS => ?_)
  have hP : va_P D vwCl [(h, .inr (4, [.null, .ref q_1, .ref q_2, .ref q_3, .null, .null, .null, .null, .null, .int 0, .int 0, .int 0, .null, .null, .int 0, .null, .int 0, .int 0])), (q_1, .inl (dT 0, 240, .inl (fun _ => 0))), (q_2, .inl (dT 0, 240, .inl (fun _ => 0))), (q_3, .inl (dT 0, 240, .inl (fun _ => 0))), (q_4, .inl (dT 0, 240, .inl (fun _ => 0)))] H := hP
  have hD : va_D A [(h, .inr (4, [.null, .ref q_1, .ref q_2, .ref q_3, .null, .null, .null, .null, .null, .int 0, .int 0, .int 0, .null, .null, .int 0, .null, .int 0, .int 0])), (q_1, .inl (dT 0, 240, .inl (fun _ => 0))), (q_2, .inl (dT 0, 240, .inl (fun _ => 0))), (q_3, .inl (dT 0, 240, .inl (fun _ => 0))), (q_4, .inl (dT 0, 240, .inl (fun _ => 0)))] := hD
  refine W.widen (k := 4) (n := 960) (Nat.le_of_ble_eq_true rfl) (Nat.le_of_ble_eq_true rfl) ?_
  refine va_putF (D := D) (ci := 4) (v := .ref q_4) (ty := .array .int) (C := RX3) (T := TX3) (N := 18) hx hb hts wc_X3_init_X3 tyX3 tyX3_ok nmX3 hown hK hP hD hS 0 rfl rfl 4 (by decide) (hts (.fieldLink RX3 21 "MixinUnits$Machine" "shown" "[I") (wd_X3_init _ (List.mem_of_getElem? (i := 7) rfl))) (fun _ h9 => h9) rfl hin rfl (by decide +kernel) rfl rfl (Nat.le_of_ble_eq_true rfl) dX3_init_37 (fun H locs hP hD hS => ?_)
  have hP : va_P D vwCl [(h, .inr (4, [.null, .ref q_1, .ref q_2, .ref q_3, .ref q_4, .null, .null, .null, .null, .int 0, .int 0, .int 0, .null, .null, .int 0, .null, .int 0, .int 0])), (q_1, .inl (dT 0, 240, .inl (fun _ => 0))), (q_2, .inl (dT 0, 240, .inl (fun _ => 0))), (q_3, .inl (dT 0, 240, .inl (fun _ => 0))), (q_4, .inl (dT 0, 240, .inl (fun _ => 0)))] H := hP
  have hD : va_D A [(h, .inr (4, [.null, .ref q_1, .ref q_2, .ref q_3, .ref q_4, .null, .null, .null, .null, .int 0, .int 0, .int 0, .null, .null, .int 0, .null, .int 0, .int 0])), (q_1, .inl (dT 0, 240, .inl (fun _ => 0))), (q_2, .inl (dT 0, 240, .inl (fun _ => 0))), (q_3, .inl (dT 0, 240, .inl (fun _ => 0))), (q_4, .inl (dT 0, 240, .inl (fun _ => 0)))] := hD
  refine lv_aload_n hx hb dX3_init_40 rfl (lv_at hl 0 rfl) ?_
  refine lv_sipush (v := 240) hx hb dX3_init_41 (by decide) ?_
  refine va_newa1 (atype := .int) (ty := .int) (N' := 240) (a0 := (240, .inl (fun _ => 0))) 0 hx hb (hts (.arrayClass .int) (wd_X3_init _ (List.mem_of_getElem? (i := 3) rfl))) rfl rfl hK hP hD hS hA (fun _ => rfl) (by decide) (by decide) (Nat.le_of_ble_eq_true rfl) (Nat.le_of_ble_eq_true rfl) (Nat.le_of_ble_eq_true rfl) dX3_init_44 (fun q_5 H hP hD hS => ?_)
  have hP : va_P D vwCl [(h, .inr (4, [.null, .ref q_1, .ref q_2, .ref q_3, .ref q_4, .null, .null, .null, .null, .int 0, .int 0, .int 0, .null, .null, .int 0, .null, .int 0, .int 0])), (q_1, .inl (dT 0, 240, .inl (fun _ => 0))), (q_2, .inl (dT 0, 240, .inl (fun _ => 0))), (q_3, .inl (dT 0, 240, .inl (fun _ => 0))), (q_4, .inl (dT 0, 240, .inl (fun _ => 0))), (q_5, .inl (dT 0, 240, .inl (fun _ => 0)))] H := hP
  have hD : va_D A [(h, .inr (4, [.null, .ref q_1, .ref q_2, .ref q_3, .ref q_4, .null, .null, .null, .null, .int 0, .int 0, .int 0, .null, .null, .int 0, .null, .int 0, .int 0])), (q_1, .inl (dT 0, 240, .inl (fun _ => 0))), (q_2, .inl (dT 0, 240, .inl (fun _ => 0))), (q_3, .inl (dT 0, 240, .inl (fun _ => 0))), (q_4, .inl (dT 0, 240, .inl (fun _ => 0))), (q_5, .inl (dT 0, 240, .inl (fun _ => 0)))] := hD
  refine W.widen (k := 5) (n := 1200) (Nat.le_of_ble_eq_true rfl) (Nat.le_of_ble_eq_true rfl) ?_
  refine va_putF (D := D) (ci := 4) (v := .ref q_5) (ty := .array .int) (C := RX3) (T := TX3) (N := 18) hx hb hts wc_X3_init_X3 tyX3 tyX3_ok nmX3 hown hK hP hD hS 0 rfl rfl 5 (by decide) (hts (.fieldLink RX3 24 "MixinUnits$Machine" "cells" "[I") (wd_X3_init _ (List.mem_of_getElem? (i := 8) rfl))) (fun _ h9 => h9) rfl hin rfl (by decide +kernel) rfl rfl (Nat.le_of_ble_eq_true rfl) dX3_init_46 (fun H locs hP hD hS => ?_)
  have hP : va_P D vwCl [(h, .inr (4, [.null, .ref q_1, .ref q_2, .ref q_3, .ref q_4, .ref q_5, .null, .null, .null, .int 0, .int 0, .int 0, .null, .null, .int 0, .null, .int 0, .int 0])), (q_1, .inl (dT 0, 240, .inl (fun _ => 0))), (q_2, .inl (dT 0, 240, .inl (fun _ => 0))), (q_3, .inl (dT 0, 240, .inl (fun _ => 0))), (q_4, .inl (dT 0, 240, .inl (fun _ => 0))), (q_5, .inl (dT 0, 240, .inl (fun _ => 0)))] H := hP
  have hD : va_D A [(h, .inr (4, [.null, .ref q_1, .ref q_2, .ref q_3, .ref q_4, .ref q_5, .null, .null, .null, .int 0, .int 0, .int 0, .null, .null, .int 0, .null, .int 0, .int 0])), (q_1, .inl (dT 0, 240, .inl (fun _ => 0))), (q_2, .inl (dT 0, 240, .inl (fun _ => 0))), (q_3, .inl (dT 0, 240, .inl (fun _ => 0))), (q_4, .inl (dT 0, 240, .inl (fun _ => 0))), (q_5, .inl (dT 0, 240, .inl (fun _ => 0)))] := hD
  refine lv_aload_n hx hb dX3_init_49 rfl (lv_at hl 0 rfl) ?_
  refine lv_sipush (v := 240) hx hb dX3_init_50 (by decide) ?_
  refine va_newa1 (atype := .boolean) (ty := .boolean) (N' := 240) (a0 := (240, .inl (fun _ => 0))) 2 hx hb (hts (.arrayClass .boolean) (wd_X3_init _ (List.mem_of_getElem? (i := 9) rfl))) rfl rfl hK hP hD hS hA (fun _ => rfl) (by decide) (by decide) (Nat.le_of_ble_eq_true rfl) (Nat.le_of_ble_eq_true rfl) (Nat.le_of_ble_eq_true rfl) dX3_init_53 (fun q_6 H hP hD hS => ?_)
  have hP : va_P D vwCl [(h, .inr (4, [.null, .ref q_1, .ref q_2, .ref q_3, .ref q_4, .ref q_5, .null, .null, .null, .int 0, .int 0, .int 0, .null, .null, .int 0, .null, .int 0, .int 0])), (q_1, .inl (dT 0, 240, .inl (fun _ => 0))), (q_2, .inl (dT 0, 240, .inl (fun _ => 0))), (q_3, .inl (dT 0, 240, .inl (fun _ => 0))), (q_4, .inl (dT 0, 240, .inl (fun _ => 0))), (q_5, .inl (dT 0, 240, .inl (fun _ => 0))), (q_6, .inl (dT 2, 240, .inl (fun _ => 0)))] H := hP
  have hD : va_D A [(h, .inr (4, [.null, .ref q_1, .ref q_2, .ref q_3, .ref q_4, .ref q_5, .null, .null, .null, .int 0, .int 0, .int 0, .null, .null, .int 0, .null, .int 0, .int 0])), (q_1, .inl (dT 0, 240, .inl (fun _ => 0))), (q_2, .inl (dT 0, 240, .inl (fun _ => 0))), (q_3, .inl (dT 0, 240, .inl (fun _ => 0))), (q_4, .inl (dT 0, 240, .inl (fun _ => 0))), (q_5, .inl (dT 0, 240, .inl (fun _ => 0))), (q_6, .inl (dT 2, 240, .inl (fun _ => 0)))] := hD
  refine W.widen (k := 6) (n := 1440) (Nat.le_of_ble_eq_true rfl) (Nat.le_of_ble_eq_true rfl) ?_
  refine va_putF (D := D) (ci := 4) (v := .ref q_6) (ty := .array .boolean) (C := RX3) (T := TX3) (N := 18) hx hb hts wc_X3_init_X3 tyX3 tyX3_ok nmX3 hown hK hP hD hS 0 rfl rfl 6 (by decide) (hts (.fieldLink RX3 27 "MixinUnits$Machine" "isMarked" "[Z") (wd_X3_init _ (List.mem_of_getElem? (i := 10) rfl))) (fun _ h9 => h9) rfl hin rfl (by decide +kernel) rfl rfl (Nat.le_of_ble_eq_true rfl) dX3_init_55 (fun H locs hP hD hS => ?_)
  have hP : va_P D vwCl [(h, .inr (4, [.null, .ref q_1, .ref q_2, .ref q_3, .ref q_4, .ref q_5, .ref q_6, .null, .null, .int 0, .int 0, .int 0, .null, .null, .int 0, .null, .int 0, .int 0])), (q_1, .inl (dT 0, 240, .inl (fun _ => 0))), (q_2, .inl (dT 0, 240, .inl (fun _ => 0))), (q_3, .inl (dT 0, 240, .inl (fun _ => 0))), (q_4, .inl (dT 0, 240, .inl (fun _ => 0))), (q_5, .inl (dT 0, 240, .inl (fun _ => 0))), (q_6, .inl (dT 2, 240, .inl (fun _ => 0)))] H := hP
  have hD : va_D A [(h, .inr (4, [.null, .ref q_1, .ref q_2, .ref q_3, .ref q_4, .ref q_5, .ref q_6, .null, .null, .int 0, .int 0, .int 0, .null, .null, .int 0, .null, .int 0, .int 0])), (q_1, .inl (dT 0, 240, .inl (fun _ => 0))), (q_2, .inl (dT 0, 240, .inl (fun _ => 0))), (q_3, .inl (dT 0, 240, .inl (fun _ => 0))), (q_4, .inl (dT 0, 240, .inl (fun _ => 0))), (q_5, .inl (dT 0, 240, .inl (fun _ => 0))), (q_6, .inl (dT 2, 240, .inl (fun _ => 0)))] := hD
  refine lv_aload_n hx hb dX3_init_58 rfl (lv_at hl 0 rfl) ?_
  refine lv_sipush (v := 240) hx hb dX3_init_59 (by decide) ?_
  refine va_newa1 (atype := .int) (ty := .int) (N' := 240) (a0 := (240, .inl (fun _ => 0))) 0 hx hb (hts (.arrayClass .int) (wd_X3_init _ (List.mem_of_getElem? (i := 3) rfl))) rfl rfl hK hP hD hS hA (fun _ => rfl) (by decide) (by decide) (Nat.le_of_ble_eq_true rfl) (Nat.le_of_ble_eq_true rfl) (Nat.le_of_ble_eq_true rfl) dX3_init_62 (fun q_7 H hP hD hS => ?_)
  have hP : va_P D vwCl [(h, .inr (4, [.null, .ref q_1, .ref q_2, .ref q_3, .ref q_4, .ref q_5, .ref q_6, .null, .null, .int 0, .int 0, .int 0, .null, .null, .int 0, .null, .int 0, .int 0])), (q_1, .inl (dT 0, 240, .inl (fun _ => 0))), (q_2, .inl (dT 0, 240, .inl (fun _ => 0))), (q_3, .inl (dT 0, 240, .inl (fun _ => 0))), (q_4, .inl (dT 0, 240, .inl (fun _ => 0))), (q_5, .inl (dT 0, 240, .inl (fun _ => 0))), (q_6, .inl (dT 2, 240, .inl (fun _ => 0))), (q_7, .inl (dT 0, 240, .inl (fun _ => 0)))] H := hP
  have hD : va_D A [(h, .inr (4, [.null, .ref q_1, .ref q_2, .ref q_3, .ref q_4, .ref q_5, .ref q_6, .null, .null, .int 0, .int 0, .int 0, .null, .null, .int 0, .null, .int 0, .int 0])), (q_1, .inl (dT 0, 240, .inl (fun _ => 0))), (q_2, .inl (dT 0, 240, .inl (fun _ => 0))), (q_3, .inl (dT 0, 240, .inl (fun _ => 0))), (q_4, .inl (dT 0, 240, .inl (fun _ => 0))), (q_5, .inl (dT 0, 240, .inl (fun _ => 0))), (q_6, .inl (dT 2, 240, .inl (fun _ => 0))), (q_7, .inl (dT 0, 240, .inl (fun _ => 0)))] := hD
  refine W.widen (k := 7) (n := 1680) (Nat.le_of_ble_eq_true rfl) (Nat.le_of_ble_eq_true rfl) ?_
  refine va_putF (D := D) (ci := 4) (v := .ref q_7) (ty := .array .int) (C := RX3) (T := TX3) (N := 18) hx hb hts wc_X3_init_X3 tyX3 tyX3_ok nmX3 hown hK hP hD hS 0 rfl rfl 7 (by decide) (hts (.fieldLink RX3 31 "MixinUnits$Machine" "states" "[I") (wd_X3_init _ (List.mem_of_getElem? (i := 11) rfl))) (fun _ h9 => h9) rfl hin rfl (by decide +kernel) rfl rfl (Nat.le_of_ble_eq_true rfl) dX3_init_64 (fun H locs hP hD hS => ?_)
  have hP : va_P D vwCl [(h, .inr (4, [.null, .ref q_1, .ref q_2, .ref q_3, .ref q_4, .ref q_5, .ref q_6, .ref q_7, .null, .int 0, .int 0, .int 0, .null, .null, .int 0, .null, .int 0, .int 0])), (q_1, .inl (dT 0, 240, .inl (fun _ => 0))), (q_2, .inl (dT 0, 240, .inl (fun _ => 0))), (q_3, .inl (dT 0, 240, .inl (fun _ => 0))), (q_4, .inl (dT 0, 240, .inl (fun _ => 0))), (q_5, .inl (dT 0, 240, .inl (fun _ => 0))), (q_6, .inl (dT 2, 240, .inl (fun _ => 0))), (q_7, .inl (dT 0, 240, .inl (fun _ => 0)))] H := hP
  have hD : va_D A [(h, .inr (4, [.null, .ref q_1, .ref q_2, .ref q_3, .ref q_4, .ref q_5, .ref q_6, .ref q_7, .null, .int 0, .int 0, .int 0, .null, .null, .int 0, .null, .int 0, .int 0])), (q_1, .inl (dT 0, 240, .inl (fun _ => 0))), (q_2, .inl (dT 0, 240, .inl (fun _ => 0))), (q_3, .inl (dT 0, 240, .inl (fun _ => 0))), (q_4, .inl (dT 0, 240, .inl (fun _ => 0))), (q_5, .inl (dT 0, 240, .inl (fun _ => 0))), (q_6, .inl (dT 2, 240, .inl (fun _ => 0))), (q_7, .inl (dT 0, 240, .inl (fun _ => 0)))] := hD
  refine lv_aload_n hx hb dX3_init_67 rfl (lv_at hl 0 rfl) ?_
  refine lv_sipush (v := 240) hx hb dX3_init_68 (by decide) ?_
  refine va_newa1 (atype := .int) (ty := .int) (N' := 240) (a0 := (240, .inl (fun _ => 0))) 0 hx hb (hts (.arrayClass .int) (wd_X3_init _ (List.mem_of_getElem? (i := 3) rfl))) rfl rfl hK hP hD hS hA (fun _ => rfl) (by decide) (by decide) (Nat.le_of_ble_eq_true rfl) (Nat.le_of_ble_eq_true rfl) (Nat.le_of_ble_eq_true rfl) dX3_init_71 (fun q_8 H hP hD hS => ?_)
  have hP : va_P D vwCl [(h, .inr (4, [.null, .ref q_1, .ref q_2, .ref q_3, .ref q_4, .ref q_5, .ref q_6, .ref q_7, .null, .int 0, .int 0, .int 0, .null, .null, .int 0, .null, .int 0, .int 0])), (q_1, .inl (dT 0, 240, .inl (fun _ => 0))), (q_2, .inl (dT 0, 240, .inl (fun _ => 0))), (q_3, .inl (dT 0, 240, .inl (fun _ => 0))), (q_4, .inl (dT 0, 240, .inl (fun _ => 0))), (q_5, .inl (dT 0, 240, .inl (fun _ => 0))), (q_6, .inl (dT 2, 240, .inl (fun _ => 0))), (q_7, .inl (dT 0, 240, .inl (fun _ => 0))), (q_8, .inl (dT 0, 240, .inl (fun _ => 0)))] H := hP
  have hD : va_D A [(h, .inr (4, [.null, .ref q_1, .ref q_2, .ref q_3, .ref q_4, .ref q_5, .ref q_6, .ref q_7, .null, .int 0, .int 0, .int 0, .null, .null, .int 0, .null, .int 0, .int 0])), (q_1, .inl (dT 0, 240, .inl (fun _ => 0))), (q_2, .inl (dT 0, 240, .inl (fun _ => 0))), (q_3, .inl (dT 0, 240, .inl (fun _ => 0))), (q_4, .inl (dT 0, 240, .inl (fun _ => 0))), (q_5, .inl (dT 0, 240, .inl (fun _ => 0))), (q_6, .inl (dT 2, 240, .inl (fun _ => 0))), (q_7, .inl (dT 0, 240, .inl (fun _ => 0))), (q_8, .inl (dT 0, 240, .inl (fun _ => 0)))] := hD
  refine W.widen (k := 8) (n := 1920) (Nat.le_of_ble_eq_true rfl) (Nat.le_of_ble_eq_true rfl) ?_
  refine va_putF (D := D) (ci := 4) (v := .ref q_8) (ty := .array .int) (C := RX3) (T := TX3) (N := 18) hx hb hts wc_X3_init_X3 tyX3 tyX3_ok nmX3 hown hK hP hD hS 0 rfl rfl 8 (by decide) (hts (.fieldLink RX3 34 "MixinUnits$Machine" "stack" "[I") (wd_X3_init _ (List.mem_of_getElem? (i := 12) rfl))) (fun _ h9 => h9) rfl hin rfl (by decide +kernel) rfl rfl (Nat.le_of_ble_eq_true rfl) dX3_init_73 (fun H locs hP hD hS => ?_)
  have hP : va_P D vwCl [(h, .inr (4, [.null, .ref q_1, .ref q_2, .ref q_3, .ref q_4, .ref q_5, .ref q_6, .ref q_7, .ref q_8, .int 0, .int 0, .int 0, .null, .null, .int 0, .null, .int 0, .int 0])), (q_1, .inl (dT 0, 240, .inl (fun _ => 0))), (q_2, .inl (dT 0, 240, .inl (fun _ => 0))), (q_3, .inl (dT 0, 240, .inl (fun _ => 0))), (q_4, .inl (dT 0, 240, .inl (fun _ => 0))), (q_5, .inl (dT 0, 240, .inl (fun _ => 0))), (q_6, .inl (dT 2, 240, .inl (fun _ => 0))), (q_7, .inl (dT 0, 240, .inl (fun _ => 0))), (q_8, .inl (dT 0, 240, .inl (fun _ => 0)))] H := hP
  have hD : va_D A [(h, .inr (4, [.null, .ref q_1, .ref q_2, .ref q_3, .ref q_4, .ref q_5, .ref q_6, .ref q_7, .ref q_8, .int 0, .int 0, .int 0, .null, .null, .int 0, .null, .int 0, .int 0])), (q_1, .inl (dT 0, 240, .inl (fun _ => 0))), (q_2, .inl (dT 0, 240, .inl (fun _ => 0))), (q_3, .inl (dT 0, 240, .inl (fun _ => 0))), (q_4, .inl (dT 0, 240, .inl (fun _ => 0))), (q_5, .inl (dT 0, 240, .inl (fun _ => 0))), (q_6, .inl (dT 2, 240, .inl (fun _ => 0))), (q_7, .inl (dT 0, 240, .inl (fun _ => 0))), (q_8, .inl (dT 0, 240, .inl (fun _ => 0)))] := hD
  refine lv_aload_n hx hb dX3_init_76 rfl (lv_at hl 0 rfl) ?_
  refine va_new (ci := 10) (fs := [.null, .null, .null, .null, .int 0]) (C := RX9) (T := TX9) (N := 5) hx hb hts wc_X3_init_X9 tyX9 tyX9_ok hown (hts (.classLink RX3 37 RX9) (wd_X3_init _ (List.mem_of_getElem? (i := 13) rfl))) (hts (.instantiable RX9 5) (wd_X3_init _ (List.mem_of_getElem? (i := 14) rfl))) (hts (.initialized RX9) (wd_X3_init _ (List.mem_of_getElem? (i := 15) rfl))) hK hP hD hS hA rfl (fn_X9) (Nat.le_of_ble_eq_true rfl) (Nat.le_of_ble_eq_true rfl) dX3_init_77 (fun q_9 H hP hD hS => ?_)
  have hP : va_P D vwCl [(h, .inr (4, [.null, .ref q_1, .ref q_2, .ref q_3, .ref q_4, .ref q_5, .ref q_6, .ref q_7, .ref q_8, .int 0, .int 0, .int 0, .null, .null, .int 0, .null, .int 0, .int 0])), (q_1, .inl (dT 0, 240, .inl (fun _ => 0))), (q_2, .inl (dT 0, 240, .inl (fun _ => 0))), (q_3, .inl (dT 0, 240, .inl (fun _ => 0))), (q_4, .inl (dT 0, 240, .inl (fun _ => 0))), (q_5, .inl (dT 0, 240, .inl (fun _ => 0))), (q_6, .inl (dT 2, 240, .inl (fun _ => 0))), (q_7, .inl (dT 0, 240, .inl (fun _ => 0))), (q_8, .inl (dT 0, 240, .inl (fun _ => 0))), (q_9, .inr (10, [.null, .null, .null, .null, .int 0]))] H := hP
  have hD : va_D A [(h, .inr (4, [.null, .ref q_1, .ref q_2, .ref q_3, .ref q_4, .ref q_5, .ref q_6, .ref q_7, .ref q_8, .int 0, .int 0, .int 0, .null, .null, .int 0, .null, .int 0, .int 0])), (q_1, .inl (dT 0, 240, .inl (fun _ => 0))), (q_2, .inl (dT 0, 240, .inl (fun _ => 0))), (q_3, .inl (dT 0, 240, .inl (fun _ => 0))), (q_4, .inl (dT 0, 240, .inl (fun _ => 0))), (q_5, .inl (dT 0, 240, .inl (fun _ => 0))), (q_6, .inl (dT 2, 240, .inl (fun _ => 0))), (q_7, .inl (dT 0, 240, .inl (fun _ => 0))), (q_8, .inl (dT 0, 240, .inl (fun _ => 0))), (q_9, .inr (10, [.null, .null, .null, .null, .int 0]))] := hD
  refine W.widen (k := 9) (n := 1925) (Nat.le_of_ble_eq_true rfl) (Nat.le_of_ble_eq_true rfl) ?_
  refine lv_dup hx hb dX3_init_80 rfl ?_
  have hPc := hP.sub (ws' := [(q_9, .inr (10, [.null, .null, .null, .null, .int 0]))]) [9] rfl
  have hDc := hD.sub (ws' := [(q_9, .inr (10, [.null, .null, .null, .null, .int 0]))]) [9] (by decide) rfl
  have hFc := va_free (wc := [(q_9, .inr (10, [.null, .null, .null, .null, .int 0]))]) hD hS hA [9] rfl
  refine va_callv (va_runIN (As := []) (rest := [.ref q_9, .ref h]) ⟨hx, hb, hml, hown, hts⟩ (c_X9_init l D dT H.size q_9) ⟨va_cnB 0 hts (goodIn_sub wq_X3_init_X9_init gd_X9_init) rfl rfl rfl (hE.1.1 (RX3, 39, yX9_init, RX11) (by decide +kernel)) (hts (.initialized RX9) (wd_X3_init _ (List.mem_of_getElem? (i := 15) rfl))) (by decide +kernel) ⟨Nat.le_of_ble_eq_true rfl, Nat.le_of_ble_eq_true rfl⟩, rfl, (hts (.instanceMethod yX9_init) (wd_X3_init _ (List.mem_of_getElem? (i := 16) rfl)))⟩ ⟨(fun a U g mk q => by obtain ⟨z0, z1, zP, zK, zD, zE⟩ := q; exact ⟨z0, z1, zP, va_K.moved (u := U) (U := U.calling g mk a) (Vm.Alike.refl U.vm) zK, zD, EN.frame zE⟩), fun U hU hW => ⟨rfl, by rw [hU], by rw [hU]; exact hPc, va_K.moved hW.alike hK, hDc.weaken (fun _ _ _ _ => trivial), EN.call hE hS hFc hW hU⟩⟩ rfl rfl hl.1 rfl (lv_room (Nat.le_of_ble_eq_true rfl)) dX3_init_81 ⟨(Nat.le_of_ble_eq_true rfl), (Nat.le_of_ble_eq_true rfl)⟩) hS (fun q _ h => hFc q h) hFc (fun u_10 t H1 locs ht hvm hw hB hz1 hk1 hS => ?_)
  obtain ⟨q0_11, q1_12, q2_13, q3_14, -, hP1, hK1, hD1⟩ := hB
  rw [ht] at hP1
  obtain ⟨hP, hD⟩ := va_join (wr := [(h, .inr (4, [.null, .ref q_1, .ref q_2, .ref q_3, .ref q_4, .ref q_5, .ref q_6, .ref q_7, .ref q_8, .int 0, .int 0, .int 0, .null, .null, .int 0, .null, .int 0, .int 0])), (q_1, .inl (dT 0, 240, .inl (fun _ => 0))), (q_2, .inl (dT 0, 240, .inl (fun _ => 0))), (q_3, .inl (dT 0, 240, .inl (fun _ => 0))), (q_4, .inl (dT 0, 240, .inl (fun _ => 0))), (q_5, .inl (dT 0, 240, .inl (fun _ => 0))), (q_6, .inl (dT 2, 240, .inl (fun _ => 0))), (q_7, .inl (dT 0, 240, .inl (fun _ => 0))), (q_8, .inl (dT 0, 240, .inl (fun _ => 0)))]) (w1 := [(q_9, .inr (10, [.ref q0_11, .ref q1_12, .ref q2_13, .ref q3_14, .int 0]))]) hP hD [9] [0, 1, 2, 3, 4, 5, 6, 7, 8] rfl rfl (by decide) (by decide) hk1 hFc hP1 hD1
  generalize H1 = H at hP hS ⊢
  have hP : va_P D vwCl [(h, .inr (4, [.null, .ref q_1, .ref q_2, .ref q_3, .ref q_4, .ref q_5, .ref q_6, .ref q_7, .ref q_8, .int 0, .int 0, .int 0, .null, .null, .int 0, .null, .int 0, .int 0])), (q_1, .inl (dT 0, 240, .inl (fun _ => 0))), (q_2, .inl (dT 0, 240, .inl (fun _ => 0))), (q_3, .inl (dT 0, 240, .inl (fun _ => 0))), (q_4, .inl (dT 0, 240, .inl (fun _ => 0))), (q_5, .inl (dT 0, 240, .inl (fun _ => 0))), (q_6, .inl (dT 2, 240, .inl (fun _ => 0))), (q_7, .inl (dT 0, 240, .inl (fun _ => 0))), (q_8, .inl (dT 0, 240, .inl (fun _ => 0))), (q_9, .inr (10, [.ref q0_11, .ref q1_12, .ref q2_13, .ref q3_14, .int 0]))] H := hP
  have hD : va_D A [(h, .inr (4, [.null, .ref q_1, .ref q_2, .ref q_3, .ref q_4, .ref q_5, .ref q_6, .ref q_7, .ref q_8, .int 0, .int 0, .int 0, .null, .null, .int 0, .null, .int 0, .int 0])), (q_1, .inl (dT 0, 240, .inl (fun _ => 0))), (q_2, .inl (dT 0, 240, .inl (fun _ => 0))), (q_3, .inl (dT 0, 240, .inl (fun _ => 0))), (q_4, .inl (dT 0, 240, .inl (fun _ => 0))), (q_5, .inl (dT 0, 240, .inl (fun _ => 0))), (q_6, .inl (dT 2, 240, .inl (fun _ => 0))), (q_7, .inl (dT 0, 240, .inl (fun _ => 0))), (q_8, .inl (dT 0, 240, .inl (fun _ => 0))), (q_9, .inr (10, [.ref q0_11, .ref q1_12, .ref q2_13, .ref q3_14, .int 0]))] := hD
  refine W.widen (k := 13) (n := 2053) (Nat.le_of_ble_eq_true rfl) (Nat.le_of_ble_eq_true rfl) ?_
  refine va_putF (D := D) (ci := 4) (v := .ref q_9) (ty := .object "MixinUnits$Values") (C := RX3) (T := TX3) (N := 18) hx hb hts wc_X3_init_X3 tyX3 tyX3_ok nmX3 hown hK hP hD hS 0 rfl rfl 12 (by decide) (hts (.fieldLink RX3 40 "MixinUnits$Machine" "values" "LMixinUnits$Values;") (wd_X3_init _ (List.mem_of_getElem? (i := 17) rfl))) (fun _ h9 => h9) rfl hin rfl (by decide +kernel) rfl rfl (Nat.le_of_ble_eq_true rfl) dX3_init_84 (fun H locs hP hD hS => ?_)
  have hP : va_P D vwCl [(h, .inr (4, [.null, .ref q_1, .ref q_2, .ref q_3, .ref q_4, .ref q_5, .ref q_6, .ref q_7, .ref q_8, .int 0, .int 0, .int 0, .ref q_9, .null, .int 0, .null, .int 0, .int 0])), (q_1, .inl (dT 0, 240, .inl (fun _ => 0))), (q_2, .inl (dT 0, 240, .inl (fun _ => 0))), (q_3, .inl (dT 0, 240, .inl (fun _ => 0))), (q_4, .inl (dT 0, 240, .inl (fun _ => 0))), (q_5, .inl (dT 0, 240, .inl (fun _ => 0))), (q_6, .inl (dT 2, 240, .inl (fun _ => 0))), (q_7, .inl (dT 0, 240, .inl (fun _ => 0))), (q_8, .inl (dT 0, 240, .inl (fun _ => 0))), (q_9, .inr (10, [.ref q0_11, .ref q1_12, .ref q2_13, .ref q3_14, .int 0]))] H := hP
  have hD : va_D A [(h, .inr (4, [.null, .ref q_1, .ref q_2, .ref q_3, .ref q_4, .ref q_5, .ref q_6, .ref q_7, .ref q_8, .int 0, .int 0, .int 0, .ref q_9, .null, .int 0, .null, .int 0, .int 0])), (q_1, .inl (dT 0, 240, .inl (fun _ => 0))), (q_2, .inl (dT 0, 240, .inl (fun _ => 0))), (q_3, .inl (dT 0, 240, .inl (fun _ => 0))), (q_4, .inl (dT 0, 240, .inl (fun _ => 0))), (q_5, .inl (dT 0, 240, .inl (fun _ => 0))), (q_6, .inl (dT 2, 240, .inl (fun _ => 0))), (q_7, .inl (dT 0, 240, .inl (fun _ => 0))), (q_8, .inl (dT 0, 240, .inl (fun _ => 0))), (q_9, .inr (10, [.ref q0_11, .ref q1_12, .ref q2_13, .ref q3_14, .int 0]))] := hD
  refine lv_aload_n hx hb dX3_init_87 rfl (lv_at hl 0 rfl) ?_
  refine lv_sipush (v := 240) hx hb dX3_init_88 (by decide) ?_
  refine va_newa1 (atype := .int) (ty := .int) (N' := 240) (a0 := (240, .inl (fun _ => 0))) 0 hx hb (hts (.arrayClass .int) (wd_X3_init _ (List.mem_of_getElem? (i := 3) rfl))) rfl rfl hK hP hD hS hA (fun _ => rfl) (by decide) (by decide) (Nat.le_of_ble_eq_true rfl) (Nat.le_of_ble_eq_true rfl) (Nat.le_of_ble_eq_true rfl) dX3_init_91 (fun q_15 H hP hD hS => ?_)
  have hP : va_P D vwCl [(h, .inr (4, [.null, .ref q_1, .ref q_2, .ref q_3, .ref q_4, .ref q_5, .ref q_6, .ref q_7, .ref q_8, .int 0, .int 0, .int 0, .ref q_9, .null, .int 0, .null, .int 0, .int 0])), (q_1, .inl (dT 0, 240, .inl (fun _ => 0))), (q_2, .inl (dT 0, 240, .inl (fun _ => 0))), (q_3, .inl (dT 0, 240, .inl (fun _ => 0))), (q_4, .inl (dT 0, 240, .inl (fun _ => 0))), (q_5, .inl (dT 0, 240, .inl (fun _ => 0))), (q_6, .inl (dT 2, 240, .inl (fun _ => 0))), (q_7, .inl (dT 0, 240, .inl (fun _ => 0))), (q_8, .inl (dT 0, 240, .inl (fun _ => 0))), (q_9, .inr (10, [.ref q0_11, .ref q1_12, .ref q2_13, .ref q3_14, .int 0])), (q_15, .inl (dT 0, 240, .inl (fun _ => 0)))] H := hP
  have hD : va_D A [(h, .inr (4, [.null, .ref q_1, .ref q_2, .ref q_3, .ref q_4, .ref q_5, .ref q_6, .ref q_7, .ref q_8, .int 0, .int 0, .int 0, .ref q_9, .null, .int 0, .null, .int 0, .int 0])), (q_1, .inl (dT 0, 240, .inl (fun _ => 0))), (q_2, .inl (dT 0, 240, .inl (fun _ => 0))), (q_3, .inl (dT 0, 240, .inl (fun _ => 0))), (q_4, .inl (dT 0, 240, .inl (fun _ => 0))), (q_5, .inl (dT 0, 240, .inl (fun _ => 0))), (q_6, .inl (dT 2, 240, .inl (fun _ => 0))), (q_7, .inl (dT 0, 240, .inl (fun _ => 0))), (q_8, .inl (dT 0, 240, .inl (fun _ => 0))), (q_9, .inr (10, [.ref q0_11, .ref q1_12, .ref q2_13, .ref q3_14, .int 0])), (q_15, .inl (dT 0, 240, .inl (fun _ => 0)))] := hD
  refine W.widen (k := 14) (n := 2293) (Nat.le_of_ble_eq_true rfl) (Nat.le_of_ble_eq_true rfl) ?_
  refine va_putF (D := D) (ci := 4) (v := .ref q_15) (ty := .array .int) (C := RX3) (T := TX3) (N := 18) hx hb hts wc_X3_init_X3 tyX3 tyX3_ok nmX3 hown hK hP hD hS 0 rfl rfl 13 (by decide) (hts (.fieldLink RX3 44 "MixinUnits$Machine" "entries" "[I") (wd_X3_init _ (List.mem_of_getElem? (i := 18) rfl))) (fun _ h9 => h9) rfl hin rfl (by decide +kernel) rfl rfl (Nat.le_of_ble_eq_true rfl) dX3_init_93 (fun H locs hP hD hS => ?_)
  have hP : va_P D vwCl [(h, .inr (4, [.null, .ref q_1, .ref q_2, .ref q_3, .ref q_4, .ref q_5, .ref q_6, .ref q_7, .ref q_8, .int 0, .int 0, .int 0, .ref q_9, .ref q_15, .int 0, .null, .int 0, .int 0])), (q_1, .inl (dT 0, 240, .inl (fun _ => 0))), (q_2, .inl (dT 0, 240, .inl (fun _ => 0))), (q_3, .inl (dT 0, 240, .inl (fun _ => 0))), (q_4, .inl (dT 0, 240, .inl (fun _ => 0))), (q_5, .inl (dT 0, 240, .inl (fun _ => 0))), (q_6, .inl (dT 2, 240, .inl (fun _ => 0))), (q_7, .inl (dT 0, 240, .inl (fun _ => 0))), (q_8, .inl (dT 0, 240, .inl (fun _ => 0))), (q_9, .inr (10, [.ref q0_11, .ref q1_12, .ref q2_13, .ref q3_14, .int 0])), (q_15, .inl (dT 0, 240, .inl (fun _ => 0)))] H := hP
  have hD : va_D A [(h, .inr (4, [.null, .ref q_1, .ref q_2, .ref q_3, .ref q_4, .ref q_5, .ref q_6, .ref q_7, .ref q_8, .int 0, .int 0, .int 0, .ref q_9, .ref q_15, .int 0, .null, .int 0, .int 0])), (q_1, .inl (dT 0, 240, .inl (fun _ => 0))), (q_2, .inl (dT 0, 240, .inl (fun _ => 0))), (q_3, .inl (dT 0, 240, .inl (fun _ => 0))), (q_4, .inl (dT 0, 240, .inl (fun _ => 0))), (q_5, .inl (dT 0, 240, .inl (fun _ => 0))), (q_6, .inl (dT 2, 240, .inl (fun _ => 0))), (q_7, .inl (dT 0, 240, .inl (fun _ => 0))), (q_8, .inl (dT 0, 240, .inl (fun _ => 0))), (q_9, .inr (10, [.ref q0_11, .ref q1_12, .ref q2_13, .ref q3_14, .int 0])), (q_15, .inl (dT 0, 240, .inl (fun _ => 0)))] := hD
  refine lv_aload_n hx hb dX3_init_96 rfl (lv_at hl 0 rfl) ?_
  refine lv_bipush (v := 10) hx hb dX3_init_97 (by decide) ?_
  refine va_newa1 (atype := .int) (ty := .int) (N' := 10) (a0 := (10, .inl (fun _ => 0))) 0 hx hb (hts (.arrayClass .int) (wd_X3_init _ (List.mem_of_getElem? (i := 3) rfl))) rfl rfl hK hP hD hS hA (fun _ => rfl) (by decide) (by decide) (Nat.le_of_ble_eq_true rfl) (Nat.le_of_ble_eq_true rfl) (Nat.le_of_ble_eq_true rfl) dX3_init_99 (fun q_16 H hP hD hS => ?_)
  have hP : va_P D vwCl [(h, .inr (4, [.null, .ref q_1, .ref q_2, .ref q_3, .ref q_4, .ref q_5, .ref q_6, .ref q_7, .ref q_8, .int 0, .int 0, .int 0, .ref q_9, .ref q_15, .int 0, .null, .int 0, .int 0])), (q_1, .inl (dT 0, 240, .inl (fun _ => 0))), (q_2, .inl (dT 0, 240, .inl (fun _ => 0))), (q_3, .inl (dT 0, 240, .inl (fun _ => 0))), (q_4, .inl (dT 0, 240, .inl (fun _ => 0))), (q_5, .inl (dT 0, 240, .inl (fun _ => 0))), (q_6, .inl (dT 2, 240, .inl (fun _ => 0))), (q_7, .inl (dT 0, 240, .inl (fun _ => 0))), (q_8, .inl (dT 0, 240, .inl (fun _ => 0))), (q_9, .inr (10, [.ref q0_11, .ref q1_12, .ref q2_13, .ref q3_14, .int 0])), (q_15, .inl (dT 0, 240, .inl (fun _ => 0))), (q_16, .inl (dT 0, 10, .inl (fun _ => 0)))] H := hP
  have hD : va_D A [(h, .inr (4, [.null, .ref q_1, .ref q_2, .ref q_3, .ref q_4, .ref q_5, .ref q_6, .ref q_7, .ref q_8, .int 0, .int 0, .int 0, .ref q_9, .ref q_15, .int 0, .null, .int 0, .int 0])), (q_1, .inl (dT 0, 240, .inl (fun _ => 0))), (q_2, .inl (dT 0, 240, .inl (fun _ => 0))), (q_3, .inl (dT 0, 240, .inl (fun _ => 0))), (q_4, .inl (dT 0, 240, .inl (fun _ => 0))), (q_5, .inl (dT 0, 240, .inl (fun _ => 0))), (q_6, .inl (dT 2, 240, .inl (fun _ => 0))), (q_7, .inl (dT 0, 240, .inl (fun _ => 0))), (q_8, .inl (dT 0, 240, .inl (fun _ => 0))), (q_9, .inr (10, [.ref q0_11, .ref q1_12, .ref q2_13, .ref q3_14, .int 0])), (q_15, .inl (dT 0, 240, .inl (fun _ => 0))), (q_16, .inl (dT 0, 10, .inl (fun _ => 0)))] := hD
  refine W.widen (k := 15) (n := 2303) (Nat.le_of_ble_eq_true rfl) (Nat.le_of_ble_eq_true rfl) ?_
  refine va_putF (D := D) (ci := 4) (v := .ref q_16) (ty := .array .int) (C := RX3) (T := TX3) (N := 18) hx hb hts wc_X3_init_X3 tyX3 tyX3_ok nmX3 hown hK hP hD hS 0 rfl rfl 15 (by decide) (hts (.fieldLink RX3 47 "MixinUnits$Machine" "results" "[I") (wd_X3_init _ (List.mem_of_getElem? (i := 19) rfl))) (fun _ h9 => h9) rfl hin rfl (by decide +kernel) rfl rfl (Nat.le_of_ble_eq_true rfl) dX3_init_101 (fun H locs hP hD hS => ?_)
  have hP : va_P D vwCl [(h, .inr (4, [.null, .ref q_1, .ref q_2, .ref q_3, .ref q_4, .ref q_5, .ref q_6, .ref q_7, .ref q_8, .int 0, .int 0, .int 0, .ref q_9, .ref q_15, .int 0, .ref q_16, .int 0, .int 0])), (q_1, .inl (dT 0, 240, .inl (fun _ => 0))), (q_2, .inl (dT 0, 240, .inl (fun _ => 0))), (q_3, .inl (dT 0, 240, .inl (fun _ => 0))), (q_4, .inl (dT 0, 240, .inl (fun _ => 0))), (q_5, .inl (dT 0, 240, .inl (fun _ => 0))), (q_6, .inl (dT 2, 240, .inl (fun _ => 0))), (q_7, .inl (dT 0, 240, .inl (fun _ => 0))), (q_8, .inl (dT 0, 240, .inl (fun _ => 0))), (q_9, .inr (10, [.ref q0_11, .ref q1_12, .ref q2_13, .ref q3_14, .int 0])), (q_15, .inl (dT 0, 240, .inl (fun _ => 0))), (q_16, .inl (dT 0, 10, .inl (fun _ => 0)))] H := hP
  have hD : va_D A [(h, .inr (4, [.null, .ref q_1, .ref q_2, .ref q_3, .ref q_4, .ref q_5, .ref q_6, .ref q_7, .ref q_8, .int 0, .int 0, .int 0, .ref q_9, .ref q_15, .int 0, .ref q_16, .int 0, .int 0])), (q_1, .inl (dT 0, 240, .inl (fun _ => 0))), (q_2, .inl (dT 0, 240, .inl (fun _ => 0))), (q_3, .inl (dT 0, 240, .inl (fun _ => 0))), (q_4, .inl (dT 0, 240, .inl (fun _ => 0))), (q_5, .inl (dT 0, 240, .inl (fun _ => 0))), (q_6, .inl (dT 2, 240, .inl (fun _ => 0))), (q_7, .inl (dT 0, 240, .inl (fun _ => 0))), (q_8, .inl (dT 0, 240, .inl (fun _ => 0))), (q_9, .inr (10, [.ref q0_11, .ref q1_12, .ref q2_13, .ref q3_14, .int 0])), (q_15, .inl (dT 0, 240, .inl (fun _ => 0))), (q_16, .inl (dT 0, 10, .inl (fun _ => 0)))] := hD
  refine lv_aload_n hx hb dX3_init_104 rfl (lv_at hl 0 rfl) ?_
  refine lv_aload_n hx hb dX3_init_105 rfl (lv_at hl 1 rfl) ?_
  refine va_putF (D := D) (ci := 4) (v := .ref pr) (ty := .object "MixinUnits$Program") (C := RX3) (T := TX3) (N := 18) hx hb hts wc_X3_init_X3 tyX3 tyX3_ok nmX3 hown hK hP hD hS 0 rfl rfl 0 (by decide) (hts (.fieldLink RX3 50 "MixinUnits$Machine" "program" "LMixinUnits$Program;") (wd_X3_init _ (List.mem_of_getElem? (i := 20) rfl))) (fun _ h9 => h9) rfl hin rfl (by decide +kernel) rfl rfl (Nat.le_of_ble_eq_true rfl) dX3_init_106 (fun H locs hP hD hS => ?_)
  have hP : va_P D vwCl [(h, .inr (4, [.ref pr, .ref q_1, .ref q_2, .ref q_3, .ref q_4, .ref q_5, .ref q_6, .ref q_7, .ref q_8, .int 0, .int 0, .int 0, .ref q_9, .ref q_15, .int 0, .ref q_16, .int 0, .int 0])), (q_1, .inl (dT 0, 240, .inl (fun _ => 0))), (q_2, .inl (dT 0, 240, .inl (fun _ => 0))), (q_3, .inl (dT 0, 240, .inl (fun _ => 0))), (q_4, .inl (dT 0, 240, .inl (fun _ => 0))), (q_5, .inl (dT 0, 240, .inl (fun _ => 0))), (q_6, .inl (dT 2, 240, .inl (fun _ => 0))), (q_7, .inl (dT 0, 240, .inl (fun _ => 0))), (q_8, .inl (dT 0, 240, .inl (fun _ => 0))), (q_9, .inr (10, [.ref q0_11, .ref q1_12, .ref q2_13, .ref q3_14, .int 0])), (q_15, .inl (dT 0, 240, .inl (fun _ => 0))), (q_16, .inl (dT 0, 10, .inl (fun _ => 0)))] H := hP
  have hD : va_D A [(h, .inr (4, [.ref pr, .ref q_1, .ref q_2, .ref q_3, .ref q_4, .ref q_5, .ref q_6, .ref q_7, .ref q_8, .int 0, .int 0, .int 0, .ref q_9, .ref q_15, .int 0, .ref q_16, .int 0, .int 0])), (q_1, .inl (dT 0, 240, .inl (fun _ => 0))), (q_2, .inl (dT 0, 240, .inl (fun _ => 0))), (q_3, .inl (dT 0, 240, .inl (fun _ => 0))), (q_4, .inl (dT 0, 240, .inl (fun _ => 0))), (q_5, .inl (dT 0, 240, .inl (fun _ => 0))), (q_6, .inl (dT 2, 240, .inl (fun _ => 0))), (q_7, .inl (dT 0, 240, .inl (fun _ => 0))), (q_8, .inl (dT 0, 240, .inl (fun _ => 0))), (q_9, .inr (10, [.ref q0_11, .ref q1_12, .ref q2_13, .ref q3_14, .int 0])), (q_15, .inl (dT 0, 240, .inl (fun _ => 0))), (q_16, .inl (dT 0, 10, .inl (fun _ => 0)))] := hD
  have hP9 := hP.sub (ws' := [(h, .inr (4, [.ref pr, .ref q_1, .ref q_2, .ref q_3, .ref q_4, .ref q_5, .ref q_6, .ref q_7, .ref q_8, .int 0, .int 0, .int 0, .ref q_9, .ref q_15, .int 0, .ref q_16, .int 0, .int 0]))]) [0] rfl
  have hD9 := hD.sub (ws' := [(h, .inr (4, [.ref pr, .ref q_1, .ref q_2, .ref q_3, .ref q_4, .ref q_5, .ref q_6, .ref q_7, .ref q_8, .int 0, .int 0, .int 0, .ref q_9, .ref q_15, .int 0, .ref q_16, .int 0, .int 0]))]) [0] (by decide) rfl
  exact W.vret hx hb hr (fun t ht hW => ⟨⟨(), rfl, trivial, q_1, q_2, q_3, q_4, q_5, q_6, q_7, q_8, q_9, q_15, q_16, trivial, by rw [ht]; exact hP9, va_K.moved hW.alike hK, hD9⟩, hS.F ht⟩) hS.2.2 dX3_init_109

def wD_Jxa1e45_init_da8c8 : List Cond := [.methodLink RJxa1e45 1 objectInit, .instanceMethod objectInit, .code objectInit ⟨#[0xb1]⟩ 1 none]
def wK_Jxa1e45_init_da8c8 : List Cond := .code yJxa1e45_init_da8c8 cJxa1e45_init_da8c8 1 none :: (wD_Jxa1e45_init_da8c8 ++ ([] : List Cond))
theorem wd_Jxa1e45_init_da8c8 : ∀ w ∈ wD_Jxa1e45_init_da8c8, w ∈ wK_Jxa1e45_init_da8c8 := fun w h => List.mem_cons_of_mem _ (List.mem_append_left _ h)
theorem gd_Jxa1e45_init_da8c8 : (wK_Jxa1e45_init_da8c8).all goodWord = true := by decide +kernel
set_option maxHeartbeats 4000000 in
set_option maxRecDepth 100000 in
/-- AbstractCollection(), on a list -/
theorem c_Jxa1e45_init_da8c8 (l : Launch) (D : va_G) (dT : Nat → ClassId) (sz : Nat) (h : Nat) (a0 : Int32) (v0 : Value) (b0 : Int32) : Met l yJxa1e45_init_da8c8 wK_Jxa1e45_init_da8c8 ({ frames := 1, cells := 0, slots := 0, locals := 12 }) (va_Pc [.ref h] (fun U => U.heap.size = sz ∧ va_P D vwCl [(h, .inr (0, [.int a0, v0, .int b0]))] U.heap ∧ va_K D vwCl (tysW dT) U ∧ va_D (fun _ => True) [(h, .inr (0, [.int a0, v0, .int b0]))] ∧ EN (va_A [(h, .inr (0, [.int a0, v0, .int b0]))] sz) U)) (va_Qv (fun (_u : Unit) => True) (fun (_u : Unit) t => True ∧ va_P D vwCl [(h, .inr (0, [.int a0, v0, .int b0]))] t.heap ∧ va_K D vwCl (tysW dT) t ∧ va_D (va_A [(h, .inr (0, [.int a0, v0, .int b0]))] sz) [(h, .inr (0, [.int a0, v0, .int b0]))]) (va_A [(h, .inr (0, [.int a0, v0, .int b0]))] sz)) 0 0 (va_A [(h, .inr (0, [.int a0, v0, .int b0]))] sz) := by
  refine Met.ofW (cc := cJxa1e45_init_da8c8) (maxL := 1) (ret := none) (by decide) rfl ?_
  intro p e s m args below meth c s₁ B hml hv
  obtain ⟨rfl, hsz, hP, hK, hD0, hE⟩ := hv
  have hx := B.exec
  have hb := B.bytes
  have hr := B.returns
  have hts := atoms_spec (ws := wK_Jxa1e45_init_da8c8) B.pre
  have hown : s.vm.findClass RJxa1e45 = some m.cls := findClass_of_methodNamed B.named
  have hlocks := B.notSynchronized
  have hin : meth.name = "<init>" := (name_of_methodNamed B.named B.method).1
  subst hsz
  have hD := hD0.self (sz := s.heap.size)
  generalize hAe : va_A [(h, .inr (0, [.int a0, v0, .int b0]))] s.heap.size = A at hD hE ⊢
  have hA : ∀ q : Nat, s.heap.size ≤ q → A q := fun q h => by rw [← hAe]; exact Or.inr h
  have hS : va_S A s.heap s.heap [] := va_S.rf
  have hP : va_P D vwCl [(h, .inr (0, [.int a0, v0, .int b0]))] s.heap := hP
  have hl := lv_entry ([.ref h]) (n := 1) (Nat.le_of_ble_eq_true rfl)
  rw [lg_entry_eq]
  generalize (lg_sl ([.ref h]) ++ List.replicate (1 - (lg_sl ([.ref h])).length) Slot.unset).toArray = ls at hl ⊢
  have hl : lv_has ls 1 [(0, .ref h)] := hl
  refine lv_aload_n hx hb dJxa1e45_init_da8c8_0 rfl (lv_at hl 0 rfl) ?_
  refine W.objInit hx hb hown (hts (.methodLink RJxa1e45 1 objectInit) (wd_Jxa1e45_init_da8c8 _ (List.mem_of_getElem? (i := 0) rfl))) (hts (.instanceMethod objectInit) (wd_Jxa1e45_init_da8c8 _ (List.mem_of_getElem? (i := 1) rfl))) (hts (.code objectInit ⟨#[0xb1]⟩ 1 none) (wd_Jxa1e45_init_da8c8 _ (List.mem_of_getElem? (i := 2) rfl))) rfl (by rw [hml]; exact hl.1) rfl dJxa1e45_init_da8c8_1 (Nat.le_of_ble_eq_true rfl) (Nat.le_of_ble_eq_true rfl) ?_
  refine W.eq (g2 := F0 m 4 ls []) rfl ?_
  have hP9 := hP.sub (ws' := [(h, .inr (0, [.int a0, v0, .int b0]))]) [0] rfl
  have hD9 := hD.sub (ws' := [(h, .inr (0, [.int a0, v0, .int b0]))]) [0] (by decide) rfl
  exact W.vret hx hb hr (fun t ht hW => ⟨⟨(), rfl, trivial, trivial, by rw [ht]; exact hP9, va_K.moved hW.alike hK, hD9⟩, hS.F ht⟩) hS.2.2 dJxa1e45_init_da8c8_4

def wD_Jxc12de_init_da8c8 : List Cond := [.initialized RJxa1e45, .methodLink RJxc12de 1 yJxa1e45_init_da8c8, .instanceMethod yJxa1e45_init_da8c8, .fieldLink RJxc12de 7 "java/util/AbstractList" "modCount" "I"]
def wK_Jxc12de_init_da8c8 : List Cond := .code yJxc12de_init_da8c8 cJxc12de_init_da8c8 1 none :: (wD_Jxc12de_init_da8c8 ++ (wK_Jxa1e45_init_da8c8 ++ (wsJx4a65c0 ++ ([] : List Cond))))
theorem wd_Jxc12de_init_da8c8 : ∀ w ∈ wD_Jxc12de_init_da8c8, w ∈ wK_Jxc12de_init_da8c8 := fun w h => List.mem_cons_of_mem _ (List.mem_append_left _ h)
theorem gd_Jxc12de_init_da8c8 : (wK_Jxc12de_init_da8c8).all goodWord = true := by decide +kernel
theorem wq_Jxc12de_init_da8c8_Jxa1e45_init_da8c8 : ∀ w ∈ wK_Jxa1e45_init_da8c8, w ∈ wK_Jxc12de_init_da8c8 := fun w h => List.mem_cons_of_mem _ (List.mem_append_right _ (List.mem_append_left _ h))
theorem wc_Jxc12de_init_da8c8_Jx4a65c : ∀ w ∈ wsJx4a65c0, w ∈ wK_Jxc12de_init_da8c8 := fun w h => List.mem_cons_of_mem _ (List.mem_append_right _ (List.mem_append_right _ (List.mem_append_left _ h)))
set_option maxHeartbeats 4000000 in
set_option maxRecDepth 100000 in
/-- AbstractList(), on a list -/
theorem c_Jxc12de_init_da8c8 (l : Launch) (D : va_G) (dT : Nat → ClassId) (sz : Nat) (h : Nat) (a0 : Int32) (v0 : Value) (b0 : Int32) : Met l yJxc12de_init_da8c8 wK_Jxc12de_init_da8c8 ({ frames := 2, cells := 0, slots := 0, locals := 32 }) (va_Pc [.ref h] (fun U => U.heap.size = sz ∧ va_P D vwCl [(h, .inr (0, [.int a0, v0, .int b0]))] U.heap ∧ va_K D vwCl (tysW dT) U ∧ va_D (fun _ => True) [(h, .inr (0, [.int a0, v0, .int b0]))] ∧ EN (va_A [(h, .inr (0, [.int a0, v0, .int b0]))] sz) U)) (va_Qv (fun (_u : Unit) => True) (fun (_u : Unit) t => True ∧ va_P D vwCl [(h, .inr (0, [.int 0, v0, .int b0]))] t.heap ∧ va_K D vwCl (tysW dT) t ∧ va_D (va_A [(h, .inr (0, [.int a0, v0, .int b0]))] sz) [(h, .inr (0, [.int 0, v0, .int b0]))]) (va_A [(h, .inr (0, [.int a0, v0, .int b0]))] sz)) 0 0 (va_A [(h, .inr (0, [.int a0, v0, .int b0]))] sz) := by
  refine Met.ofW (cc := cJxc12de_init_da8c8) (maxL := 1) (ret := none) (by decide) rfl ?_
  intro p e s m args below meth c s₁ B hml hv
  obtain ⟨rfl, hsz, hP, hK, hD0, hE⟩ := hv
  have hx := B.exec
  have hb := B.bytes
  have hr := B.returns
  have hts := atoms_spec (ws := wK_Jxc12de_init_da8c8) B.pre
  have hown : s.vm.findClass RJxc12de = some m.cls := findClass_of_methodNamed B.named
  have hlocks := B.notSynchronized
  have hin : meth.name = "<init>" := (name_of_methodNamed B.named B.method).1
  subst hsz
  have hD := hD0.self (sz := s.heap.size)
  generalize hAe : va_A [(h, .inr (0, [.int a0, v0, .int b0]))] s.heap.size = A at hD hE ⊢
  have hA : ∀ q : Nat, s.heap.size ≤ q → A q := fun q h => by rw [← hAe]; exact Or.inr h
  have hS : va_S A s.heap s.heap [] := va_S.rf
  have hP : va_P D vwCl [(h, .inr (0, [.int a0, v0, .int b0]))] s.heap := hP
  have hl := lv_entry ([.ref h]) (n := 1) (Nat.le_of_ble_eq_true rfl)
  rw [lg_entry_eq]
  generalize (lg_sl ([.ref h]) ++ List.replicate (1 - (lg_sl ([.ref h])).length) Slot.unset).toArray = ls at hl ⊢
  have hl : lv_has ls 1 [(0, .ref h)] := hl
  refine lv_aload_n hx hb dJxc12de_init_da8c8_0 rfl (lv_at hl 0 rfl) ?_
  have hPc := hP.sub (ws' := [(h, .inr (0, [.int a0, v0, .int b0]))]) [0] rfl
  have hDc := hD.sub (ws' := [(h, .inr (0, [.int a0, v0, .int b0]))]) [0] (by decide) rfl
  have hFc := va_free (wc := [(h, .inr (0, [.int a0, v0, .int b0]))]) hD hS hA [0] rfl
  refine va_callv (va_runI (As := []) (rest := []) ⟨hx, hb, hml, hown, hts⟩ (c_Jxa1e45_init_da8c8 l D dT s.heap.size h a0 v0 b0) (cwI 0 hts (goodIn_sub wq_Jxc12de_init_da8c8_Jxa1e45_init_da8c8 gd_Jxa1e45_init_da8c8) rfl rfl rfl (hts (.initialized RJxa1e45) (wd_Jxc12de_init_da8c8 _ (List.mem_of_getElem? (i := 0) rfl))) (hts (.methodLink RJxc12de 1 yJxa1e45_init_da8c8) (wd_Jxc12de_init_da8c8 _ (List.mem_of_getElem? (i := 1) rfl))) (hts (.instanceMethod yJxa1e45_init_da8c8) (wd_Jxc12de_init_da8c8 _ (List.mem_of_getElem? (i := 2) rfl))) rfl (by decide +kernel) ⟨Nat.le_of_ble_eq_true rfl, Nat.le_of_ble_eq_true rfl⟩) ⟨(fun a U g mk q => by obtain ⟨z0, z1, zP, zK, zD, zE⟩ := q; exact ⟨z0, z1, zP, va_K.moved (u := U) (U := U.calling g mk a) (Vm.Alike.refl U.vm) zK, zD, EN.frame zE⟩), fun U hU hW => ⟨rfl, by rw [hU], by rw [hU]; exact hPc, va_K.moved hW.alike hK, hDc.weaken (fun _ _ _ _ => trivial), EN.call hE hS hFc hW hU⟩⟩ rfl rfl hl.1 rfl (lv_room (Nat.le_of_ble_eq_true rfl)) dJxc12de_init_da8c8_1 ⟨(Nat.le_of_ble_eq_true rfl), (Nat.le_of_ble_eq_true rfl)⟩) hS (fun q _ h => hFc q h) hFc (fun u_1 t H1 locs ht hvm hw hB hz1 hk1 hS => ?_)
  obtain ⟨-, hP1, hK1, hD1⟩ := hB
  rw [ht] at hP1
  obtain ⟨hP, hD⟩ := va_join (wr := []) (w1 := [(h, .inr (0, [.int a0, v0, .int b0]))]) hP hD [0] [] rfl rfl (by decide) (by decide) hk1 hFc hP1 hD1
  generalize H1 = H at hP hS ⊢
  have hP : va_P D vwCl [(h, .inr (0, [.int a0, v0, .int b0]))] H := hP
  have hD : va_D A [(h, .inr (0, [.int a0, v0, .int b0]))] := hD
  refine W.widen (k := 0) (n := 0) (Nat.le_of_ble_eq_true rfl) (Nat.le_of_ble_eq_true rfl) ?_
  refine lv_aload_n hx hb dJxc12de_init_da8c8_4 rfl (lv_at hl 0 rfl) ?_
  refine lv_iconst (v := 0) hx hb dJxc12de_init_da8c8_5 (by decide) ?_
  refine va_put (D := D) (ci := 0) (v := .int 0) (ty := .int) (C := RJx4a65c) (T := TJx4a65c) (N := 3) hx hb hts wc_Jxc12de_init_da8c8_Jx4a65c tyJx4a65c tyJx4a65c_ok nmJx4a65c hown hK hP hD hS 0 rfl rfl 0 (by decide) (hts (.fieldLink RJxc12de 7 "java/util/AbstractList" "modCount" "I") (wd_Jxc12de_init_da8c8 _ (List.mem_of_getElem? (i := 3) rfl))) (fun _ h9 => h9) rfl (by decide +kernel) rfl rfl (Nat.le_of_ble_eq_true rfl) dJxc12de_init_da8c8_6 (fun H locs hP hD hS => ?_)
  have hP : va_P D vwCl [(h, .inr (0, [.int 0, v0, .int b0]))] H := hP
  have hD : va_D A [(h, .inr (0, [.int 0, v0, .int b0]))] := hD
  have hP9 := hP.sub (ws' := [(h, .inr (0, [.int 0, v0, .int b0]))]) [0] rfl
  have hD9 := hD.sub (ws' := [(h, .inr (0, [.int 0, v0, .int b0]))]) [0] (by decide) rfl
  exact W.vret hx hb hr (fun t ht hW => ⟨⟨(), rfl, trivial, trivial, by rw [ht]; exact hP9, va_K.moved hW.alike hK, hD9⟩, hS.F ht⟩) hS.2.2 dJxc12de_init_da8c8_9

def wD_Jx4a65c_init_da8c8 : List Cond := [.initialized RJxc12de, .methodLink RJx4a65c 1 yJxc12de_init_da8c8, .instanceMethod yJxc12de_init_da8c8, .fieldLink RJx4a65c 39 "java/util/ArrayList" "DEFAULTCAPACITY_EMPTY_ELEMENTDATA" "[Ljava/lang/Object;", .fieldLink RJx4a65c 9 "java/util/ArrayList" "elementData" "[Ljava/lang/Object;"]
def wK_Jx4a65c_init_da8c8 : List Cond := .code yJx4a65c_init_da8c8 cJx4a65c_init_da8c8 1 none :: (wD_Jx4a65c_init_da8c8 ++ (wK_Jxc12de_init_da8c8 ++ (wsJx4a65c0 ++ ([] : List Cond))))
theorem wd_Jx4a65c_init_da8c8 : ∀ w ∈ wD_Jx4a65c_init_da8c8, w ∈ wK_Jx4a65c_init_da8c8 := fun w h => List.mem_cons_of_mem _ (List.mem_append_left _ h)
theorem gd_Jx4a65c_init_da8c8 : (wK_Jx4a65c_init_da8c8).all goodWord = true := by decide +kernel
theorem wq_Jx4a65c_init_da8c8_Jxc12de_init_da8c8 : ∀ w ∈ wK_Jxc12de_init_da8c8, w ∈ wK_Jx4a65c_init_da8c8 := fun w h => List.mem_cons_of_mem _ (List.mem_append_right _ (List.mem_append_left _ h))
theorem wc_Jx4a65c_init_da8c8_Jx4a65c : ∀ w ∈ wsJx4a65c0, w ∈ wK_Jx4a65c_init_da8c8 := fun w h => List.mem_cons_of_mem _ (List.mem_append_right _ (List.mem_append_right _ (List.mem_append_left _ h)))
set_option maxHeartbeats 4000000 in
set_option maxRecDepth 100000 in
/-- ArrayList() -/
theorem c_Jx4a65c_init_da8c8 (l : Launch) (D : va_G) (dT : Nat → ClassId) (sz : Nat) (h : Nat) (a0 : Int32) (v0 : Value) (b0 : Int32) : Met l yJx4a65c_init_da8c8 wK_Jx4a65c_init_da8c8 ({ frames := 3, cells := 0, slots := 0, locals := 52 }) (va_Pc [.ref h] (fun U => U.heap.size = sz ∧ va_P D vwCl [(h, .inr (0, [.int a0, v0, .int b0]))] U.heap ∧ va_K D vwCl (tysW dT) U ∧ va_D (fun _ => True) [(h, .inr (0, [.int a0, v0, .int b0]))] ∧ EN (va_A [(h, .inr (0, [.int a0, v0, .int b0]))] sz) U)) (va_Qv (fun (_u : Unit) => True) (fun (_u : Unit) t => ∃ (v1 : Value), True ∧ va_P D vwCl [(h, .inr (0, [.int 0, v1, .int b0]))] t.heap ∧ va_K D vwCl (tysW dT) t ∧ va_D (va_A [(h, .inr (0, [.int a0, v0, .int b0]))] sz) [(h, .inr (0, [.int 0, v1, .int b0]))]) (va_A [(h, .inr (0, [.int a0, v0, .int b0]))] sz)) 0 0 (va_A [(h, .inr (0, [.int a0, v0, .int b0]))] sz) := by
  refine Met.ofW (cc := cJx4a65c_init_da8c8) (maxL := 1) (ret := none) (by decide) rfl ?_
  intro p e s m args below meth c s₁ B hml hv
  obtain ⟨rfl, hsz, hP, hK, hD0, hE⟩ := hv
  have hx := B.exec
  have hb := B.bytes
  have hr := B.returns
  have hts := atoms_spec (ws := wK_Jx4a65c_init_da8c8) B.pre
  have hown : s.vm.findClass RJx4a65c = some m.cls := findClass_of_methodNamed B.named
  have hlocks := B.notSynchronized
  have hin : meth.name = "<init>" := (name_of_methodNamed B.named B.method).1
  subst hsz
  have hD := hD0.self (sz := s.heap.size)
  generalize hAe : va_A [(h, .inr (0, [.int a0, v0, .int b0]))] s.heap.size = A at hD hE ⊢
  have hA : ∀ q : Nat, s.heap.size ≤ q → A q := fun q h => by rw [← hAe]; exact Or.inr h
  have hS : va_S A s.heap s.heap [] := va_S.rf
  have hP : va_P D vwCl [(h, .inr (0, [.int a0, v0, .int b0]))] s.heap := hP
  have hl := lv_entry ([.ref h]) (n := 1) (Nat.le_of_ble_eq_true rfl)
  rw [lg_entry_eq]
  generalize (lg_sl ([.ref h]) ++ List.replicate (1 - (lg_sl ([.ref h])).length) Slot.unset).toArray = ls at hl ⊢
  have hl : lv_has ls 1 [(0, .ref h)] := hl
  refine lv_aload_n hx hb dJx4a65c_init_da8c8_0 rfl (lv_at hl 0 rfl) ?_
  have hPc := hP.sub (ws' := [(h, .inr (0, [.int a0, v0, .int b0]))]) [0] rfl
  have hDc := hD.sub (ws' := [(h, .inr (0, [.int a0, v0, .int b0]))]) [0] (by decide) rfl
  have hFc := va_free (wc := [(h, .inr (0, [.int a0, v0, .int b0]))]) hD hS hA [0] rfl
  refine va_callv (va_runI (As := []) (rest := []) ⟨hx, hb, hml, hown, hts⟩ (c_Jxc12de_init_da8c8 l D dT s.heap.size h a0 v0 b0) (cwI 0 hts (goodIn_sub wq_Jx4a65c_init_da8c8_Jxc12de_init_da8c8 gd_Jxc12de_init_da8c8) rfl rfl rfl (hts (.initialized RJxc12de) (wd_Jx4a65c_init_da8c8 _ (List.mem_of_getElem? (i := 0) rfl))) (hts (.methodLink RJx4a65c 1 yJxc12de_init_da8c8) (wd_Jx4a65c_init_da8c8 _ (List.mem_of_getElem? (i := 1) rfl))) (hts (.instanceMethod yJxc12de_init_da8c8) (wd_Jx4a65c_init_da8c8 _ (List.mem_of_getElem? (i := 2) rfl))) rfl (by decide +kernel) ⟨Nat.le_of_ble_eq_true rfl, Nat.le_of_ble_eq_true rfl⟩) ⟨(fun a U g mk q => by obtain ⟨z0, z1, zP, zK, zD, zE⟩ := q; exact ⟨z0, z1, zP, va_K.moved (u := U) (U := U.calling g mk a) (Vm.Alike.refl U.vm) zK, zD, EN.frame zE⟩), fun U hU hW => ⟨rfl, by rw [hU], by rw [hU]; exact hPc, va_K.moved hW.alike hK, hDc.weaken (fun _ _ _ _ => trivial), EN.call hE hS hFc hW hU⟩⟩ rfl rfl hl.1 rfl (lv_room (Nat.le_of_ble_eq_true rfl)) dJx4a65c_init_da8c8_1 ⟨(Nat.le_of_ble_eq_true rfl), (Nat.le_of_ble_eq_true rfl)⟩) hS (fun q _ h => hFc q h) hFc (fun u_1 t H1 locs ht hvm hw hB hz1 hk1 hS => ?_)
  obtain ⟨-, hP1, hK1, hD1⟩ := hB
  rw [ht] at hP1
  obtain ⟨hP, hD⟩ := va_join (wr := []) (w1 := [(h, .inr (0, [.int 0, v0, .int b0]))]) hP hD [0] [] rfl rfl (by decide) (by decide) hk1 hFc hP1 hD1
  generalize H1 = H at hP hS ⊢
  have hP : va_P D vwCl [(h, .inr (0, [.int 0, v0, .int b0]))] H := hP
  have hD : va_D A [(h, .inr (0, [.int 0, v0, .int b0]))] := hD
  refine W.widen (k := 0) (n := 0) (Nat.le_of_ble_eq_true rfl) (Nat.le_of_ble_eq_true rfl) ?_
  refine lv_aload_n hx hb dJx4a65c_init_da8c8_4 rfl (lv_at hl 0 rfl) ?_
  rcases hE.2.2.2 with hZ | ⟨t_2, hZ⟩
  · refine va_gets hx hb hZ hS hown (hts (.fieldLink RJx4a65c 39 "java/util/ArrayList" "DEFAULTCAPACITY_EMPTY_ELEMENTDATA" "[Ljava/lang/Object;") (wd_Jx4a65c_init_da8c8 _ (List.mem_of_getElem? (i := 3) rfl))) (fun _ h9 => h9) dJx4a65c_init_da8c8_5 ?_
    refine va_put (D := D) (ci := 0) (v := .null) (ty := .array (.object "java/lang/Object")) (C := RJx4a65c) (T := TJx4a65c) (N := 3) hx hb hts wc_Jx4a65c_init_da8c8_Jx4a65c tyJx4a65c tyJx4a65c_ok nmJx4a65c hown hK hP hD hS 0 rfl rfl 1 (by decide) (hts (.fieldLink RJx4a65c 9 "java/util/ArrayList" "elementData" "[Ljava/lang/Object;") (wd_Jx4a65c_init_da8c8 _ (List.mem_of_getElem? (i := 4) rfl))) (fun _ h9 => h9) rfl (by decide +kernel) rfl rfl (Nat.le_of_ble_eq_true rfl) dJx4a65c_init_da8c8_8 (fun H locs hP hD hS => ?_)
    have hP : va_P D vwCl [(h, .inr (0, [.int 0, .null, .int b0]))] H := hP
    have hD : va_D A [(h, .inr (0, [.int 0, .null, .int b0]))] := hD
    have hP9 := hP.sub (ws' := [(h, .inr (0, [.int 0, .null, .int b0]))]) [0] rfl
    have hD9 := hD.sub (ws' := [(h, .inr (0, [.int 0, .null, .int b0]))]) [0] (by decide) rfl
    exact W.vret hx hb hr (fun t ht hW => ⟨⟨(), rfl, trivial, ((.null)), trivial, by rw [ht]; exact hP9, va_K.moved hW.alike hK, hD9⟩, hS.F ht⟩) hS.2.2 dJx4a65c_init_da8c8_11
  · refine va_gets hx hb hZ hS hown (hts (.fieldLink RJx4a65c 39 "java/util/ArrayList" "DEFAULTCAPACITY_EMPTY_ELEMENTDATA" "[Ljava/lang/Object;") (wd_Jx4a65c_init_da8c8 _ (List.mem_of_getElem? (i := 3) rfl))) (fun _ h9 => h9) dJx4a65c_init_da8c8_5 ?_
    refine va_put (D := D) (ci := 0) (v := .ref t_2) (ty := .array (.object "java/lang/Object")) (C := RJx4a65c) (T := TJx4a65c) (N := 3) hx hb hts wc_Jx4a65c_init_da8c8_Jx4a65c tyJx4a65c tyJx4a65c_ok nmJx4a65c hown hK hP hD hS 0 rfl rfl 1 (by decide) (hts (.fieldLink RJx4a65c 9 "java/util/ArrayList" "elementData" "[Ljava/lang/Object;") (wd_Jx4a65c_init_da8c8 _ (List.mem_of_getElem? (i := 4) rfl))) (fun _ h9 => h9) rfl (by decide +kernel) rfl rfl (Nat.le_of_ble_eq_true rfl) dJx4a65c_init_da8c8_8 (fun H locs hP hD hS => ?_)
    have hP : va_P D vwCl [(h, .inr (0, [.int 0, .ref t_2, .int b0]))] H := hP
    have hD : va_D A [(h, .inr (0, [.int 0, .ref t_2, .int b0]))] := hD
    have hP9 := hP.sub (ws' := [(h, .inr (0, [.int 0, .ref t_2, .int b0]))]) [0] rfl
    have hD9 := hD.sub (ws' := [(h, .inr (0, [.int 0, .ref t_2, .int b0]))]) [0] (by decide) rfl
    exact W.vret hx hb hr (fun t ht hW => ⟨⟨(), rfl, trivial, ((.ref t_2)), trivial, by rw [ht]; exact hP9, va_K.moved hW.alike hK, hD9⟩, hS.F ht⟩) hS.2.2 dJx4a65c_init_da8c8_11
