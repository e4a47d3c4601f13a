def wD_X12_rename : List Cond := [.methodLink RX12 330 yX12_isNode, .instanceMethod yX12_isNode, .selects RX12 yX12_isNode yX12_isNode, .initialized RX12, .methodLink RX12 302 yX12_isValue, .static yX12_isValue, .fieldLink RX12 288 "MixinUnitsModel" "nodes" "I", .methodLink RX12 298 yX12_goes, .instanceMethod yX12_goes, .selects RX12 yX12_goes yX12_goes]
def wK_X12_rename : List Cond := .code yX12_rename cX12_rename 7 (some .int) :: (wD_X12_rename ++ (wK_X12_isNode ++ (wK_X12_isValue ++ (wsX120 ++ (wK_X12_goes_f ++ ([] : List Cond))))))
theorem wd_X12_rename : ∀ w ∈ wD_X12_rename, w ∈ wK_X12_rename := fun w h => List.mem_cons_of_mem _ (List.mem_append_left _ h)
theorem gd_X12_rename : (wK_X12_rename).all goodWord = true := by decide +kernel
theorem wq_X12_rename_X12_isNode : ∀ w ∈ wK_X12_isNode, w ∈ wK_X12_rename := fun w h => List.mem_cons_of_mem _ (List.mem_append_right _ (List.mem_append_left _ h))
theorem wq_X12_rename_X12_isValue : ∀ w ∈ wK_X12_isValue, w ∈ wK_X12_rename := fun w h => List.mem_cons_of_mem _ (List.mem_append_right _ (List.mem_append_right _ (List.mem_append_left _ h)))
theorem wc_X12_rename_X12 : ∀ w ∈ wsX120, w ∈ wK_X12_rename := fun w h => List.mem_cons_of_mem _ (List.mem_append_right _ (List.mem_append_right _ (List.mem_append_right _ (List.mem_append_left _ h))))
theorem wq_X12_rename_X12_goes_f : ∀ w ∈ wK_X12_goes_f, w ∈ wK_X12_rename := fun w h => List.mem_cons_of_mem _ (List.mem_append_right _ (List.mem_append_right _ (List.mem_append_right _ (List.mem_append_right _ (List.mem_append_left _ h)))))
set_option maxHeartbeats 4000000 in
set_option maxRecDepth 100000 in
/-- rename on a fresh reference -/
theorem c_X12_rename (l : Launch) (D : va_G) (dT : Nat → ClassId) (sz : Nat) (h : Nat) (fs : List Value) (tm : Nat → Nat) (f : Int32) (n : Int32) (o : Int32) (hF : FM fs tm) : Met l yX12_rename wK_X12_rename ({ frames := 2, cells := 0, slots := 0, locals := 43 }) (va_Pc [.ref h, .int f, .int n, .int o] (fun U => U.heap.size = sz ∧ va_P D vwCl [(h, .inr (13, fs))] U.heap ∧ va_K D vwCl (tysW dT) U ∧ va_D (fun _ => True) [(h, .inr (13, fs))] ∧ EN (va_A [(h, .inr (13, fs))] sz) U)) (va_Qi (fun (r : Int32) (_u : Unit) => r = 0) (fun (_u : Unit) t => ∃ (fs2 : List Value), fs2[25]? = some (.int 1) ∧ va_P D vwCl [(h, .inr (13, fs2))] t.heap ∧ va_K D vwCl (tysW dT) t ∧ va_D (va_A [(h, .inr (13, fs))] sz) [(h, .inr (13, fs2))]) (va_A [(h, .inr (13, fs))] sz)) 0 0 (va_A [(h, .inr (13, fs))] sz) := by
  refine Met.ofW (cc := cX12_rename) (maxL := 7) (ret := (some .int)) (by decide) rfl ?_
  intro p e s m args below meth c s₁ B hml hv
  obtain ⟨rfl, hsz, hP, hK, hD0, hE⟩ := hv
  have hx := B.exec
  have hb := B.bytes
  have hr := B.returns
  have hts := atoms_spec (ws := wK_X12_rename) B.pre
  have hown : s.vm.findClass RX12 = some m.cls := findClass_of_methodNamed B.named
  have hlocks := B.notSynchronized
  subst hsz
  have hD := hD0.self (sz := s.heap.size)
  generalize hAe : va_A [(h, .inr (13, fs))] s.heap.size = A at hD hE ⊢
  have hA : ∀ q : Nat, s.heap.size ≤ q → A q := fun q h => by rw [← hAe]; exact Or.inr h
  have hS : va_S A s.heap s.heap [] := va_S.rf
  have hP : va_P D vwCl [(h, .inr (13, fs))] s.heap := hP
  have hl := lv_entry ([.ref h, .int f, .int n, .int o]) (n := 7) (Nat.le_of_ble_eq_true rfl)
  rw [lg_entry_eq]
  generalize (lg_sl ([.ref h, .int f, .int n, .int o]) ++ List.replicate (7 - (lg_sl ([.ref h, .int f, .int n, .int o])).length) Slot.unset).toArray = ls at hl ⊢
  have hl : lv_has ls 7 [(0, .ref h), (1, .int f), (2, .int n), (3, .int o)] := hl
  refine lv_aload_n hx hb dX12_rename_0 rfl (lv_at hl 0 rfl) ?_
  refine lv_iload_n hx hb dX12_rename_1 rfl (lv_at hl 1 rfl) ?_
  have hPc := hP.sub (ws' := [(h, .inr (13, fs))]) [0] rfl
  have hDc := hD.sub (ws' := [(h, .inr (13, fs))]) [0] (by decide) rfl
  have hFc := va_free (wc := [(h, .inr (13, fs))]) hD hS hA [0] rfl
  refine va_calli (va_runV (As := [.int f]) (rest := []) ⟨hx, hb, hml, hown, hts⟩ (c_X12_isNode l D dT s.heap.size h fs tm f hF) (cwV 1 hts (goodIn_app (goodIn_r _ [1, 2, 3, 4] rfl (by decide +kernel)) (goodIn_sub wq_X12_rename_X12_isNode gd_X12_isNode)) rfl rfl rfl (by decide +kernel) ⟨Nat.le_of_ble_eq_true rfl, Nat.le_of_ble_eq_true rfl⟩) ⟨(fun a U g mk q => by obtain ⟨z0, z1, zP, zK, zD, zE⟩ := q; exact ⟨z0, z1, zP, va_K.moved (u := U) (U := U.calling g mk a) (Vm.Alike.refl U.vm) zK, zD, EN.frame zE⟩), va_recv hK hP (ci := 13) (q0 := 0) rfl rfl, fun U hU hW => ⟨rfl, by rw [hU], by rw [hU]; exact hPc, va_K.moved hW.alike hK, hDc.weaken (fun _ _ _ _ => trivial), EN.call hE hS hFc hW hU⟩⟩ rfl rfl hl.1 rfl (lv_room (Nat.le_of_ble_eq_true rfl)) dX12_rename_2 ⟨(Nat.le_of_ble_eq_true rfl), (Nat.le_of_ble_eq_true rfl)⟩) hS (fun q _ h => hFc q h) hFc (fun r_1 u_2 t H1 locs ht hvm hw hB hz1 hk1 hS => ?_)
  obtain ⟨-, hP1, hK1, hD1⟩ := hB
  rw [ht] at hP1
  obtain ⟨hP, hD⟩ := va_join (wr := []) (w1 := [(h, .inr (13, fs))]) hP hD [0] [] rfl rfl (by decide) (by decide) hk1 hFc hP1 hD1
  generalize H1 = H at hP hS ⊢
  have hP : va_P D vwCl [(h, .inr (13, fs))] H := hP
  have hD : va_D A [(h, .inr (13, fs))] := hD
  refine W.widen (k := 0) (n := 0) (Nat.le_of_ble_eq_true rfl) (Nat.le_of_ble_eq_true rfl) ?_
  have hw_3 := hw
  try dsimp only at hw_3
  obtain rfl : r_1 = 0 := hw_3
  refine lv_istore (lv' := [(4, .int 0), (0, .ref h), (1, .int f), (2, .int n), (3, .int o)]) hx hb dX12_rename_5 hl (by decide) rfl (fun ls hl => ?_)
  refine lv_iload_n hx hb dX12_rename_7 rfl (lv_at hl 3 rfl) ?_
  have hPc := hP.sub (ws' := []) [] rfl
  have hDc := hD.sub (ws' := []) [] (by decide) rfl
  have hFc := va_free (wc := []) hD hS hA [] rfl
  refine va_calli (va_runS (As := [.int n]) (rest := []) ⟨hx, hb, hml, hown, hts⟩ (c_X12_isValue l D dT H.size n) (va_cwS 1 hts (goodIn_app (goodIn_r _ [5, 6, 4] rfl (by decide +kernel)) (goodIn_sub wq_X12_rename_X12_isValue gd_X12_isValue)) rfl rfl rfl (by decide +kernel) ⟨Nat.le_of_ble_eq_true rfl, Nat.le_of_ble_eq_true rfl⟩) ⟨(fun a U g mk q => by obtain ⟨z0, z1, zP, zK, zD, zE⟩ := q; exact ⟨z0, z1, zP, va_K.moved (u := U) (U := U.calling g mk a) (Vm.Alike.refl U.vm) zK, zD, EN.frame zE⟩), fun U hU hW => ⟨rfl, by rw [hU], by rw [hU]; exact hPc, va_K.moved hW.alike hK, hDc.weaken (fun _ _ _ _ => trivial), EN.call hE hS hFc hW hU⟩⟩ rfl rfl hl.1 rfl (lv_room (Nat.le_of_ble_eq_true rfl)) dX12_rename_8 ⟨(Nat.le_of_ble_eq_true rfl), (Nat.le_of_ble_eq_true rfl)⟩) hS (fun q _ h => hFc q h) hFc (fun r_4 u_5 t H1 locs ht hvm hw hB hz1 hk1 hS => ?_)
  obtain ⟨-, hP1, hK1, hD1⟩ := hB
  rw [ht] at hP1
  obtain ⟨hP, hD⟩ := va_join (wr := [(h, .inr (13, fs))]) (w1 := []) hP hD [] [0] rfl rfl (by decide) (by decide) hk1 hFc hP1 hD1
  generalize H1 = H at hP hS ⊢
  have hP : va_P D vwCl [(h, .inr (13, fs))] H := hP
  have hD : va_D A [(h, .inr (13, fs))] := hD
  refine W.widen (k := 0) (n := 0) (Nat.le_of_ble_eq_true rfl) (Nat.le_of_ble_eq_true rfl) ?_
  have hw_6 := hw
  try dsimp only at hw_6
  rcases hw_6 with ⟨hc_7, rfl⟩ | ⟨hc_8, rfl⟩
  · refine lv_if_eq (tgt := 35) hx hb dX12_rename_11 (by decide) (fun _ => ?_) (fun c_9 => absurd (by decide) c_9)
    refine lv_iconst (v := 0) hx hb dX12_rename_35 (by decide) ?_
    refine lv_istore (lv' := [(5, .int 0), (4, .int 0), (0, .ref h), (1, .int f), (2, .int n), (3, .int o)]) hx hb dX12_rename_36 hl (by decide) rfl (fun ls hl => ?_)
    refine lv_iload hx hb dX12_rename_38 (lv_at hl 1 rfl) ?_
    refine lv_if_eq (tgt := 54) hx hb dX12_rename_40 (by decide) (fun _ => ?_) (fun c_10 => absurd (by decide) c_10)
    refine lv_iconst (v := 1) hx hb dX12_rename_54 (by decide) ?_
    refine lv_istore (lv' := [(6, .int 1), (5, .int 0), (4, .int 0), (0, .ref h), (1, .int f), (2, .int n), (3, .int o)]) hx hb dX12_rename_55 hl (by decide) rfl (fun ls hl => ?_)
    refine lv_aload_n hx hb dX12_rename_57 rfl (lv_at hl 3 rfl) ?_
    refine lv_iload hx hb dX12_rename_58 (lv_at hl 2 rfl) ?_
    refine lv_iload hx hb dX12_rename_60 (lv_at hl 1 rfl) ?_
    refine lv_aload_n hx hb dX12_rename_62 rfl (lv_at hl 3 rfl) ?_
    refine va_get (D := D) (ci := 13) (v := .int 0) (C := RX12) (T := TX12) (N := 109) hx hb hts wc_X12_rename_X12 hown hK hP 0 rfl rfl 18 (by decide) (hts (.fieldLink RX12 288 "MixinUnitsModel" "nodes" "I") (wd_X12_rename _ (List.mem_of_getElem? (i := 6) rfl))) (fun _ h9 => h9) (FM.at hF (j := 3) (q := (18, .int 0)) rfl) dX12_rename_63 ?_
    refine lv_bipush (v := 40) hx hb dX12_rename_66 (by decide) ?_
    refine lv_icmp_ge (tgt := 82) hx hb dX12_rename_68 (by decide) (fun c_11 => absurd c_11 (by decide)) (fun _ => ?_)
    refine lv_iload hx hb dX12_rename_71 (lv_at hl 0 rfl) ?_
    refine lv_bipush (v := 24) hx hb dX12_rename_73 (by decide) ?_
    refine lv_icmp_gt (tgt := 82) hx hb dX12_rename_75 (by decide) (fun c_12 => absurd c_12 (by decide)) (fun _ => ?_)
    refine lv_iconst (v := 1) hx hb dX12_rename_78 (by decide) ?_
    refine lv_goto (tgt := 83) hx hb dX12_rename_79 (by decide) ?_
    have hPc := hP.sub (ws' := [(h, .inr (13, fs))]) [0] rfl
    have hDc := hD.sub (ws' := [(h, .inr (13, fs))]) [0] (by decide) rfl
    have hFc := va_free (wc := [(h, .inr (13, fs))]) hD hS hA [0] rfl
    refine va_calli (va_runV (As := [.int 0, .int 0, .int 1]) (rest := []) ⟨hx, hb, hml, hown, hts⟩ (c_X12_goes_f l D dT H.size h fs 0 1 (FM.len hF)) (cwV 3 hts (goodIn_app (goodIn_r _ [8, 9, 10, 4] rfl (by decide +kernel)) (goodIn_sub wq_X12_rename_X12_goes_f gd_X12_goes_f)) rfl rfl rfl (by decide +kernel) ⟨Nat.le_of_ble_eq_true rfl, Nat.le_of_ble_eq_true rfl⟩) ⟨(fun a U g mk q => by obtain ⟨z0, z1, zP, zK, zD, zE⟩ := q; exact ⟨z0, z1, zP, va_K.moved (u := U) (U := U.calling g mk a) (Vm.Alike.refl U.vm) zK, zD, EN.frame zE⟩), va_recv hK hP (ci := 13) (q0 := 0) rfl rfl, fun U hU hW => ⟨rfl, by rw [hU], by rw [hU]; exact hPc, va_K.moved hW.alike hK, hDc.weaken (fun _ _ _ _ => trivial), EN.call hE hS hFc hW hU⟩⟩ rfl rfl hl.1 rfl (lv_room (Nat.le_of_ble_eq_true rfl)) dX12_rename_83 ⟨(Nat.le_of_ble_eq_true rfl), (Nat.le_of_ble_eq_true rfl)⟩) hS (fun q _ h => hFc q h) hFc (fun r_13 u_14 t H1 locs ht hvm hw hB hz1 hk1 hS => ?_)
    obtain ⟨-, hP1, hK1, hD1⟩ := hB
    rw [ht] at hP1
    obtain ⟨hP, hD⟩ := va_join (wr := []) (w1 := [(h, .inr (13, (List.set fs 25 (.int 1))))]) hP hD [0] [] rfl rfl (by decide) (by decide) hk1 hFc hP1 hD1
    generalize H1 = H at hP hS ⊢
    have hP : va_P D vwCl [(h, .inr (13, (List.set fs 25 (.int 1))))] H := hP
    have hD : va_D A [(h, .inr (13, (List.set fs 25 (.int 1))))] := hD
    refine W.widen (k := 0) (n := 0) (Nat.le_of_ble_eq_true rfl) (Nat.le_of_ble_eq_true rfl) ?_
    have hw_15 := hw
    try dsimp only at hw_15
    obtain rfl : r_13 = 0 := hw_15
    refine lv_if_ne (tgt := 91) hx hb dX12_rename_86 (by decide) (fun c_16 => absurd (by decide) c_16) (fun _ => ?_)
    refine lv_iconst (v := 0) hx hb dX12_rename_89 (by decide) ?_
    have hP9 := hP.sub (ws' := [(h, .inr (13, (List.set fs 25 (.int 1))))]) [0] rfl
    have hD9 := hD.sub (ws' := [(h, .inr (13, (List.set fs 25 (.int 1))))]) [0] (by decide) rfl
    exact W.iret (v := 0) hx hb hr (fun t ht hW => ⟨⟨_, (), rfl, rfl, (List.set fs 25 (.int 1)), (ls_self (FM.len hF) (Nat.le_of_ble_eq_true rfl)), by rw [ht]; exact hP9, va_K.moved hW.alike hK, hD9⟩, hS.F ht⟩) hS.2.2 dX12_rename_90
  · refine lv_if_eq (tgt := 35) hx hb dX12_rename_11 (by decide) (fun c_17 => absurd c_17 (by decide)) (fun _ => ?_)
    refine lv_iload_n hx hb dX12_rename_14 rfl (lv_at hl 4 rfl) ?_
    refine lv_iconst (v := (-1)) hx hb dX12_rename_15 (by decide) ?_
    refine lv_icmp_eq (tgt := 26) hx hb dX12_rename_16 (by decide) (fun c_18 => ?_) (fun c_18 => ?_)
    · refine lv_iload_n hx hb dX12_rename_26 rfl (lv_at hl 3 rfl) ?_
      refine lv_iload_n hx hb dX12_rename_27 rfl (lv_at hl 4 rfl) ?_
      refine lv_icmp_eq (tgt := 35) hx hb dX12_rename_28 (by decide) (fun c_19 => ?_) (fun c_19 => ?_)
      · exfalso; simp only [Int32.lt_iff_toInt_lt, Int32.le_iff_toInt_le, i32_eq, ne_eq, gt_iff_lt, ge_iff_le, i32_0, i32_1, i32_2, i32_3, i32_4, i32_5, i32_6, i32_7, i32_9, i32_10, i32_m1] at hc_8 c_18 c_19 ⊢ <;> omega
      · refine lv_iconst (v := 1) hx hb dX12_rename_31 (by decide) ?_
        refine lv_goto (tgt := 36) hx hb dX12_rename_32 (by decide) ?_
        refine lv_istore (lv' := [(5, .int 1), (4, .int 0), (0, .ref h), (1, .int f), (2, .int n), (3, .int o)]) hx hb dX12_rename_36 hl (by decide) rfl (fun ls hl => ?_)
        refine lv_iload hx hb dX12_rename_38 (lv_at hl 1 rfl) ?_
        refine lv_if_eq (tgt := 54) hx hb dX12_rename_40 (by decide) (fun _ => ?_) (fun c_20 => absurd (by decide) c_20)
        refine lv_iconst (v := 1) hx hb dX12_rename_54 (by decide) ?_
        refine lv_istore (lv' := [(6, .int 1), (5, .int 1), (4, .int 0), (0, .ref h), (1, .int f), (2, .int n), (3, .int o)]) hx hb dX12_rename_55 hl (by decide) rfl (fun ls hl => ?_)
        refine lv_aload_n hx hb dX12_rename_57 rfl (lv_at hl 3 rfl) ?_
        refine lv_iload hx hb dX12_rename_58 (lv_at hl 2 rfl) ?_
        refine lv_iload hx hb dX12_rename_60 (lv_at hl 1 rfl) ?_
        refine lv_aload_n hx hb dX12_rename_62 rfl (lv_at hl 3 rfl) ?_
        refine va_get (D := D) (ci := 13) (v := .int 0) (C := RX12) (T := TX12) (N := 109) hx hb hts wc_X12_rename_X12 hown hK hP 0 rfl rfl 18 (by decide) (hts (.fieldLink RX12 288 "MixinUnitsModel" "nodes" "I") (wd_X12_rename _ (List.mem_of_getElem? (i := 6) rfl))) (fun _ h9 => h9) (FM.at hF (j := 3) (q := (18, .int 0)) rfl) dX12_rename_63 ?_
        refine lv_bipush (v := 40) hx hb dX12_rename_66 (by decide) ?_
        refine lv_icmp_ge (tgt := 82) hx hb dX12_rename_68 (by decide) (fun c_21 => absurd c_21 (by decide)) (fun _ => ?_)
        refine lv_iload hx hb dX12_rename_71 (lv_at hl 0 rfl) ?_
        refine lv_bipush (v := 24) hx hb dX12_rename_73 (by decide) ?_
        refine lv_icmp_gt (tgt := 82) hx hb dX12_rename_75 (by decide) (fun c_22 => absurd c_22 (by decide)) (fun _ => ?_)
        refine lv_iconst (v := 1) hx hb dX12_rename_78 (by decide) ?_
        refine lv_goto (tgt := 83) hx hb dX12_rename_79 (by decide) ?_
        have hPc := hP.sub (ws' := [(h, .inr (13, fs))]) [0] rfl
        have hDc := hD.sub (ws' := [(h, .inr (13, fs))]) [0] (by decide) rfl
        have hFc := va_free (wc := [(h, .inr (13, fs))]) hD hS hA [0] rfl
        refine va_calli (va_runV (As := [.int 0, .int 1, .int 1]) (rest := []) ⟨hx, hb, hml, hown, hts⟩ (c_X12_goes_f l D dT H.size h fs 1 1 (FM.len hF)) (cwV 3 hts (goodIn_app (goodIn_r _ [8, 9, 10, 4] rfl (by decide +kernel)) (goodIn_sub wq_X12_rename_X12_goes_f gd_X12_goes_f)) rfl rfl rfl (by decide +kernel) ⟨Nat.le_of_ble_eq_true rfl, Nat.le_of_ble_eq_true rfl⟩) ⟨(fun a U g mk q => by obtain ⟨z0, z1, zP, zK, zD, zE⟩ := q; exact ⟨z0, z1, zP, va_K.moved (u := U) (U := U.calling g mk a) (Vm.Alike.refl U.vm) zK, zD, EN.frame zE⟩), va_recv hK hP (ci := 13) (q0 := 0) rfl rfl, fun U hU hW => ⟨rfl, by rw [hU], by rw [hU]; exact hPc, va_K.moved hW.alike hK, hDc.weaken (fun _ _ _ _ => trivial), EN.call hE hS hFc hW hU⟩⟩ rfl rfl hl.1 rfl (lv_room (Nat.le_of_ble_eq_true rfl)) dX12_rename_83 ⟨(Nat.le_of_ble_eq_true rfl), (Nat.le_of_ble_eq_true rfl)⟩) hS (fun q _ h => hFc q h) hFc (fun r_23 u_24 t H1 locs ht hvm hw hB hz1 hk1 hS => ?_)
        obtain ⟨-, hP1, hK1, hD1⟩ := hB
        rw [ht] at hP1
        obtain ⟨hP, hD⟩ := va_join (wr := []) (w1 := [(h, .inr (13, (List.set fs 25 (.int 1))))]) hP hD [0] [] rfl rfl (by decide) (by decide) hk1 hFc hP1 hD1
        generalize H1 = H at hP hS ⊢
        have hP : va_P D vwCl [(h, .inr (13, (List.set fs 25 (.int 1))))] H := hP
        have hD : va_D A [(h, .inr (13, (List.set fs 25 (.int 1))))] := hD
        refine W.widen (k := 0) (n := 0) (Nat.le_of_ble_eq_true rfl) (Nat.le_of_ble_eq_true rfl) ?_
        have hw_25 := hw
        try dsimp only at hw_25
        obtain rfl : r_23 = 0 := hw_25
        refine lv_if_ne (tgt := 91) hx hb dX12_rename_86 (by decide) (fun c_26 => absurd (by decide) c_26) (fun _ => ?_)
        refine lv_iconst (v := 0) hx hb dX12_rename_89 (by decide) ?_
        have hP9 := hP.sub (ws' := [(h, .inr (13, (List.set fs 25 (.int 1))))]) [0] rfl
        have hD9 := hD.sub (ws' := [(h, .inr (13, (List.set fs 25 (.int 1))))]) [0] (by decide) rfl
        exact W.iret (v := 0) hx hb hr (fun t ht hW => ⟨⟨_, (), rfl, rfl, (List.set fs 25 (.int 1)), (ls_self (FM.len hF) (Nat.le_of_ble_eq_true rfl)), by rw [ht]; exact hP9, va_K.moved hW.alike hK, hD9⟩, hS.F ht⟩) hS.2.2 dX12_rename_90
    · refine lv_iload_n hx hb dX12_rename_19 rfl (lv_at hl 4 rfl) ?_
      have hPc := hP.sub (ws' := []) [] rfl
      have hDc := hD.sub (ws' := []) [] (by decide) rfl
      have hFc := va_free (wc := []) hD hS hA [] rfl
      refine va_calli (va_runS (As := [.int o]) (rest := []) ⟨hx, hb, hml, hown, hts⟩ (c_X12_isValue l D dT H.size o) (va_cwS 1 hts (goodIn_app (goodIn_r _ [5, 6, 4] rfl (by decide +kernel)) (goodIn_sub wq_X12_rename_X12_isValue gd_X12_isValue)) rfl rfl rfl (by decide +kernel) ⟨Nat.le_of_ble_eq_true rfl, Nat.le_of_ble_eq_true rfl⟩) ⟨(fun a U g mk q => by obtain ⟨z0, z1, zP, zK, zD, zE⟩ := q; exact ⟨z0, z1, zP, va_K.moved (u := U) (U := U.calling g mk a) (Vm.Alike.refl U.vm) zK, zD, EN.frame zE⟩), fun U hU hW => ⟨rfl, by rw [hU], by rw [hU]; exact hPc, va_K.moved hW.alike hK, hDc.weaken (fun _ _ _ _ => trivial), EN.call hE hS hFc hW hU⟩⟩ rfl rfl hl.1 rfl (lv_room (Nat.le_of_ble_eq_true rfl)) dX12_rename_20 ⟨(Nat.le_of_ble_eq_true rfl), (Nat.le_of_ble_eq_true rfl)⟩) hS (fun q _ h => hFc q h) hFc (fun r_27 u_28 t H1 locs ht hvm hw hB hz1 hk1 hS => ?_)
      obtain ⟨-, hP1, hK1, hD1⟩ := hB
      rw [ht] at hP1
      obtain ⟨hP, hD⟩ := va_join (wr := [(h, .inr (13, fs))]) (w1 := []) hP hD [] [0] rfl rfl (by decide) (by decide) hk1 hFc hP1 hD1
      generalize H1 = H at hP hS ⊢
      have hP : va_P D vwCl [(h, .inr (13, fs))] H := hP
      have hD : va_D A [(h, .inr (13, fs))] := hD
      refine W.widen (k := 0) (n := 0) (Nat.le_of_ble_eq_true rfl) (Nat.le_of_ble_eq_true rfl) ?_
      have hw_29 := hw
      try dsimp only at hw_29
      rcases hw_29 with ⟨hc_30, rfl⟩ | ⟨hc_31, rfl⟩
      · refine lv_if_eq (tgt := 35) hx hb dX12_rename_23 (by decide) (fun _ => ?_) (fun c_32 => absurd (by decide) c_32)
        refine lv_iconst (v := 0) hx hb dX12_rename_35 (by decide) ?_
        refine lv_istore (lv' := [(5, .int 0), (4, .int 0), (0, .ref h), (1, .int f), (2, .int n), (3, .int o)]) hx hb dX12_rename_36 hl (by decide) rfl (fun ls hl => ?_)
        refine lv_iload hx hb dX12_rename_38 (lv_at hl 1 rfl) ?_
        refine lv_if_eq (tgt := 54) hx hb dX12_rename_40 (by decide) (fun _ => ?_) (fun c_33 => absurd (by decide) c_33)
        refine lv_iconst (v := 1) hx hb dX12_rename_54 (by decide) ?_
        refine lv_istore (lv' := [(6, .int 1), (5, .int 0), (4, .int 0), (0, .ref h), (1, .int f), (2, .int n), (3, .int o)]) hx hb dX12_rename_55 hl (by decide) rfl (fun ls hl => ?_)
        refine lv_aload_n hx hb dX12_rename_57 rfl (lv_at hl 3 rfl) ?_
        refine lv_iload hx hb dX12_rename_58 (lv_at hl 2 rfl) ?_
        refine lv_iload hx hb dX12_rename_60 (lv_at hl 1 rfl) ?_
        refine lv_aload_n hx hb dX12_rename_62 rfl (lv_at hl 3 rfl) ?_
        refine va_get (D := D) (ci := 13) (v := .int 0) (C := RX12) (T := TX12) (N := 109) hx hb hts wc_X12_rename_X12 hown hK hP 0 rfl rfl 18 (by decide) (hts (.fieldLink RX12 288 "MixinUnitsModel" "nodes" "I") (wd_X12_rename _ (List.mem_of_getElem? (i := 6) rfl))) (fun _ h9 => h9) (FM.at hF (j := 3) (q := (18, .int 0)) rfl) dX12_rename_63 ?_
        refine lv_bipush (v := 40) hx hb dX12_rename_66 (by decide) ?_
        refine lv_icmp_ge (tgt := 82) hx hb dX12_rename_68 (by decide) (fun c_34 => absurd c_34 (by decide)) (fun _ => ?_)
        refine lv_iload hx hb dX12_rename_71 (lv_at hl 0 rfl) ?_
        refine lv_bipush (v := 24) hx hb dX12_rename_73 (by decide) ?_
        refine lv_icmp_gt (tgt := 82) hx hb dX12_rename_75 (by decide) (fun c_35 => absurd c_35 (by decide)) (fun _ => ?_)
        refine lv_iconst (v := 1) hx hb dX12_rename_78 (by decide) ?_
        refine lv_goto (tgt := 83) hx hb dX12_rename_79 (by decide) ?_
        have hPc := hP.sub (ws' := [(h, .inr (13, fs))]) [0] rfl
        have hDc := hD.sub (ws' := [(h, .inr (13, fs))]) [0] (by decide) rfl
        have hFc := va_free (wc := [(h, .inr (13, fs))]) hD hS hA [0] rfl
        refine va_calli (va_runV (As := [.int 0, .int 0, .int 1]) (rest := []) ⟨hx, hb, hml, hown, hts⟩ (c_X12_goes_f l D dT H.size h fs 0 1 (FM.len hF)) (cwV 3 hts (goodIn_app (goodIn_r _ [8, 9, 10, 4] rfl (by decide +kernel)) (goodIn_sub wq_X12_rename_X12_goes_f gd_X12_goes_f)) rfl rfl rfl (by decide +kernel) ⟨Nat.le_of_ble_eq_true rfl, Nat.le_of_ble_eq_true rfl⟩) ⟨(fun a U g mk q => by obtain ⟨z0, z1, zP, zK, zD, zE⟩ := q; exact ⟨z0, z1, zP, va_K.moved (u := U) (U := U.calling g mk a) (Vm.Alike.refl U.vm) zK, zD, EN.frame zE⟩), va_recv hK hP (ci := 13) (q0 := 0) rfl rfl, fun U hU hW => ⟨rfl, by rw [hU], by rw [hU]; exact hPc, va_K.moved hW.alike hK, hDc.weaken (fun _ _ _ _ => trivial), EN.call hE hS hFc hW hU⟩⟩ rfl rfl hl.1 rfl (lv_room (Nat.le_of_ble_eq_true rfl)) dX12_rename_83 ⟨(Nat.le_of_ble_eq_true rfl), (Nat.le_of_ble_eq_true rfl)⟩) hS (fun q _ h => hFc q h) hFc (fun r_36 u_37 t H1 locs ht hvm hw hB hz1 hk1 hS => ?_)
        obtain ⟨-, hP1, hK1, hD1⟩ := hB
        rw [ht] at hP1
        obtain ⟨hP, hD⟩ := va_join (wr := []) (w1 := [(h, .inr (13, (List.set fs 25 (.int 1))))]) hP hD [0] [] rfl rfl (by decide) (by decide) hk1 hFc hP1 hD1
        generalize H1 = H at hP hS ⊢
        have hP : va_P D vwCl [(h, .inr (13, (List.set fs 25 (.int 1))))] H := hP
        have hD : va_D A [(h, .inr (13, (List.set fs 25 (.int 1))))] := hD
        refine W.widen (k := 0) (n := 0) (Nat.le_of_ble_eq_true rfl) (Nat.le_of_ble_eq_true rfl) ?_
        have hw_38 := hw
        try dsimp only at hw_38
        obtain rfl : r_36 = 0 := hw_38
        refine lv_if_ne (tgt := 91) hx hb dX12_rename_86 (by decide) (fun c_39 => absurd (by decide) c_39) (fun _ => ?_)
        refine lv_iconst (v := 0) hx hb dX12_rename_89 (by decide) ?_
        have hP9 := hP.sub (ws' := [(h, .inr (13, (List.set fs 25 (.int 1))))]) [0] rfl
        have hD9 := hD.sub (ws' := [(h, .inr (13, (List.set fs 25 (.int 1))))]) [0] (by decide) rfl
        exact W.iret (v := 0) hx hb hr (fun t ht hW => ⟨⟨_, (), rfl, rfl, (List.set fs 25 (.int 1)), (ls_self (FM.len hF) (Nat.le_of_ble_eq_true rfl)), by rw [ht]; exact hP9, va_K.moved hW.alike hK, hD9⟩, hS.F ht⟩) hS.2.2 dX12_rename_90
      · refine lv_if_eq (tgt := 35) hx hb dX12_rename_23 (by decide) (fun c_40 => absurd c_40 (by decide)) (fun _ => ?_)
        refine lv_iload_n hx hb dX12_rename_26 rfl (lv_at hl 3 rfl) ?_
        refine lv_iload_n hx hb dX12_rename_27 rfl (lv_at hl 4 rfl) ?_
        refine lv_icmp_eq (tgt := 35) hx hb dX12_rename_28 (by decide) (fun c_41 => ?_) (fun c_41 => ?_)
        · refine lv_iconst (v := 0) hx hb dX12_rename_35 (by decide) ?_
          refine lv_istore (lv' := [(5, .int 0), (4, .int 0), (0, .ref h), (1, .int f), (2, .int n), (3, .int o)]) hx hb dX12_rename_36 hl (by decide) rfl (fun ls hl => ?_)
          refine lv_iload hx hb dX12_rename_38 (lv_at hl 1 rfl) ?_
          refine lv_if_eq (tgt := 54) hx hb dX12_rename_40 (by decide) (fun _ => ?_) (fun c_42 => absurd (by decide) c_42)
          refine lv_iconst (v := 1) hx hb dX12_rename_54 (by decide) ?_
          refine lv_istore (lv' := [(6, .int 1), (5, .int 0), (4, .int 0), (0, .ref h), (1, .int f), (2, .int n), (3, .int o)]) hx hb dX12_rename_55 hl (by decide) rfl (fun ls hl => ?_)
          refine lv_aload_n hx hb dX12_rename_57 rfl (lv_at hl 3 rfl) ?_
          refine lv_iload hx hb dX12_rename_58 (lv_at hl 2 rfl) ?_
          refine lv_iload hx hb dX12_rename_60 (lv_at hl 1 rfl) ?_
          refine lv_aload_n hx hb dX12_rename_62 rfl (lv_at hl 3 rfl) ?_
          refine va_get (D := D) (ci := 13) (v := .int 0) (C := RX12) (T := TX12) (N := 109) hx hb hts wc_X12_rename_X12 hown hK hP 0 rfl rfl 18 (by decide) (hts (.fieldLink RX12 288 "MixinUnitsModel" "nodes" "I") (wd_X12_rename _ (List.mem_of_getElem? (i := 6) rfl))) (fun _ h9 => h9) (FM.at hF (j := 3) (q := (18, .int 0)) rfl) dX12_rename_63 ?_
          refine lv_bipush (v := 40) hx hb dX12_rename_66 (by decide) ?_
          refine lv_icmp_ge (tgt := 82) hx hb dX12_rename_68 (by decide) (fun c_43 => absurd c_43 (by decide)) (fun _ => ?_)
          refine lv_iload hx hb dX12_rename_71 (lv_at hl 0 rfl) ?_
          refine lv_bipush (v := 24) hx hb dX12_rename_73 (by decide) ?_
          refine lv_icmp_gt (tgt := 82) hx hb dX12_rename_75 (by decide) (fun c_44 => absurd c_44 (by decide)) (fun _ => ?_)
          refine lv_iconst (v := 1) hx hb dX12_rename_78 (by decide) ?_
          refine lv_goto (tgt := 83) hx hb dX12_rename_79 (by decide) ?_
          have hPc := hP.sub (ws' := [(h, .inr (13, fs))]) [0] rfl
          have hDc := hD.sub (ws' := [(h, .inr (13, fs))]) [0] (by decide) rfl
          have hFc := va_free (wc := [(h, .inr (13, fs))]) hD hS hA [0] rfl
          refine va_calli (va_runV (As := [.int 0, .int 0, .int 1]) (rest := []) ⟨hx, hb, hml, hown, hts⟩ (c_X12_goes_f l D dT H.size h fs 0 1 (FM.len hF)) (cwV 3 hts (goodIn_app (goodIn_r _ [8, 9, 10, 4] rfl (by decide +kernel)) (goodIn_sub wq_X12_rename_X12_goes_f gd_X12_goes_f)) rfl rfl rfl (by decide +kernel) ⟨Nat.le_of_ble_eq_true rfl, Nat.le_of_ble_eq_true rfl⟩) ⟨(fun a U g mk q => by obtain ⟨z0, z1, zP, zK, zD, zE⟩ := q; exact ⟨z0, z1, zP, va_K.moved (u := U) (U := U.calling g mk a) (Vm.Alike.refl U.vm) zK, zD, EN.frame zE⟩), va_recv hK hP (ci := 13) (q0 := 0) rfl rfl, fun U hU hW => ⟨rfl, by rw [hU], by rw [hU]; exact hPc, va_K.moved hW.alike hK, hDc.weaken (fun _ _ _ _ => trivial), EN.call hE hS hFc hW hU⟩⟩ rfl rfl hl.1 rfl (lv_room (Nat.le_of_ble_eq_true rfl)) dX12_rename_83 ⟨(Nat.le_of_ble_eq_true rfl), (Nat.le_of_ble_eq_true rfl)⟩) hS (fun q _ h => hFc q h) hFc (fun r_45 u_46 t H1 locs ht hvm hw hB hz1 hk1 hS => ?_)
          obtain ⟨-, hP1, hK1, hD1⟩ := hB
          rw [ht] at hP1
          obtain ⟨hP, hD⟩ := va_join (wr := []) (w1 := [(h, .inr (13, (List.set fs 25 (.int 1))))]) hP hD [0] [] rfl rfl (by decide) (by decide) hk1 hFc hP1 hD1
          generalize H1 = H at hP hS ⊢
          have hP : va_P D vwCl [(h, .inr (13, (List.set fs 25 (.int 1))))] H := hP
          have hD : va_D A [(h, .inr (13, (List.set fs 25 (.int 1))))] := hD
          refine W.widen (k := 0) (n := 0) (Nat.le_of_ble_eq_true rfl) (Nat.le_of_ble_eq_true rfl) ?_
          have hw_47 := hw
          try dsimp only at hw_47
          obtain rfl : r_45 = 0 := hw_47
          refine lv_if_ne (tgt := 91) hx hb dX12_rename_86 (by decide) (fun c_48 => absurd (by decide) c_48) (fun _ => ?_)
          refine lv_iconst (v := 0) hx hb dX12_rename_89 (by decide) ?_
          have hP9 := hP.sub (ws' := [(h, .inr (13, (List.set fs 25 (.int 1))))]) [0] rfl
          have hD9 := hD.sub (ws' := [(h, .inr (13, (List.set fs 25 (.int 1))))]) [0] (by decide) rfl
          exact W.iret (v := 0) hx hb hr (fun t ht hW => ⟨⟨_, (), rfl, rfl, (List.set fs 25 (.int 1)), (ls_self (FM.len hF) (Nat.le_of_ble_eq_true rfl)), by rw [ht]; exact hP9, va_K.moved hW.alike hK, hD9⟩, hS.F ht⟩) hS.2.2 dX12_rename_90
        · refine lv_iconst (v := 1) hx hb dX12_rename_31 (by decide) ?_
          refine lv_goto (tgt := 36) hx hb dX12_rename_32 (by decide) ?_
          refine lv_istore (lv' := [(5, .int 1), (4, .int 0), (0, .ref h), (1, .int f), (2, .int n), (3, .int o)]) hx hb dX12_rename_36 hl (by decide) rfl (fun ls hl => ?_)
          refine lv_iload hx hb dX12_rename_38 (lv_at hl 1 rfl) ?_
          refine lv_if_eq (tgt := 54) hx hb dX12_rename_40 (by decide) (fun _ => ?_) (fun c_49 => absurd (by decide) c_49)
          refine lv_iconst (v := 1) hx hb dX12_rename_54 (by decide) ?_
          refine lv_istore (lv' := [(6, .int 1), (5, .int 1), (4, .int 0), (0, .ref h), (1, .int f), (2, .int n), (3, .int o)]) hx hb dX12_rename_55 hl (by decide) rfl (fun ls hl => ?_)
          refine lv_aload_n hx hb dX12_rename_57 rfl (lv_at hl 3 rfl) ?_
          refine lv_iload hx hb dX12_rename_58 (lv_at hl 2 rfl) ?_
          refine lv_iload hx hb dX12_rename_60 (lv_at hl 1 rfl) ?_
          refine lv_aload_n hx hb dX12_rename_62 rfl (lv_at hl 3 rfl) ?_
          refine va_get (D := D) (ci := 13) (v := .int 0) (C := RX12) (T := TX12) (N := 109) hx hb hts wc_X12_rename_X12 hown hK hP 0 rfl rfl 18 (by decide) (hts (.fieldLink RX12 288 "MixinUnitsModel" "nodes" "I") (wd_X12_rename _ (List.mem_of_getElem? (i := 6) rfl))) (fun _ h9 => h9) (FM.at hF (j := 3) (q := (18, .int 0)) rfl) dX12_rename_63 ?_
          refine lv_bipush (v := 40) hx hb dX12_rename_66 (by decide) ?_
          refine lv_icmp_ge (tgt := 82) hx hb dX12_rename_68 (by decide) (fun c_50 => absurd c_50 (by decide)) (fun _ => ?_)
          refine lv_iload hx hb dX12_rename_71 (lv_at hl 0 rfl) ?_
          refine lv_bipush (v := 24) hx hb dX12_rename_73 (by decide) ?_
          refine lv_icmp_gt (tgt := 82) hx hb dX12_rename_75 (by decide) (fun c_51 => absurd c_51 (by decide)) (fun _ => ?_)
          refine lv_iconst (v := 1) hx hb dX12_rename_78 (by decide) ?_
          refine lv_goto (tgt := 83) hx hb dX12_rename_79 (by decide) ?_
          have hPc := hP.sub (ws' := [(h, .inr (13, fs))]) [0] rfl
          have hDc := hD.sub (ws' := [(h, .inr (13, fs))]) [0] (by decide) rfl
          have hFc := va_free (wc := [(h, .inr (13, fs))]) hD hS hA [0] rfl
          refine va_calli (va_runV (As := [.int 0, .int 1, .int 1]) (rest := []) ⟨hx, hb, hml, hown, hts⟩ (c_X12_goes_f l D dT H.size h fs 1 1 (FM.len hF)) (cwV 3 hts (goodIn_app (goodIn_r _ [8, 9, 10, 4] rfl (by decide +kernel)) (goodIn_sub wq_X12_rename_X12_goes_f gd_X12_goes_f)) rfl rfl rfl (by decide +kernel) ⟨Nat.le_of_ble_eq_true rfl, Nat.le_of_ble_eq_true rfl⟩) ⟨(fun a U g mk q => by obtain ⟨z0, z1, zP, zK, zD, zE⟩ := q; exact ⟨z0, z1, zP, va_K.moved (u := U) (U := U.calling g mk a) (Vm.Alike.refl U.vm) zK, zD, EN.frame zE⟩), va_recv hK hP (ci := 13) (q0 := 0) rfl rfl, fun U hU hW => ⟨rfl, by rw [hU], by rw [hU]; exact hPc, va_K.moved hW.alike hK, hDc.weaken (fun _ _ _ _ => trivial), EN.call hE hS hFc hW hU⟩⟩ rfl rfl hl.1 rfl (lv_room (Nat.le_of_ble_eq_true rfl)) dX12_rename_83 ⟨(Nat.le_of_ble_eq_true rfl), (Nat.le_of_ble_eq_true rfl)⟩) hS (fun q _ h => hFc q h) hFc (fun r_52 u_53 t H1 locs ht hvm hw hB hz1 hk1 hS => ?_)
          obtain ⟨-, hP1, hK1, hD1⟩ := hB
          rw [ht] at hP1
          obtain ⟨hP, hD⟩ := va_join (wr := []) (w1 := [(h, .inr (13, (List.set fs 25 (.int 1))))]) hP hD [0] [] rfl rfl (by decide) (by decide) hk1 hFc hP1 hD1
          generalize H1 = H at hP hS ⊢
          have hP : va_P D vwCl [(h, .inr (13, (List.set fs 25 (.int 1))))] H := hP
          have hD : va_D A [(h, .inr (13, (List.set fs 25 (.int 1))))] := hD
          refine W.widen (k := 0) (n := 0) (Nat.le_of_ble_eq_true rfl) (Nat.le_of_ble_eq_true rfl) ?_
          have hw_54 := hw
          try dsimp only at hw_54
          obtain rfl : r_52 = 0 := hw_54
          refine lv_if_ne (tgt := 91) hx hb dX12_rename_86 (by decide) (fun c_55 => absurd (by decide) c_55) (fun _ => ?_)
          refine lv_iconst (v := 0) hx hb dX12_rename_89 (by decide) ?_
          have hP9 := hP.sub (ws' := [(h, .inr (13, (List.set fs 25 (.int 1))))]) [0] rfl
          have hD9 := hD.sub (ws' := [(h, .inr (13, (List.set fs 25 (.int 1))))]) [0] (by decide) rfl
          exact W.iret (v := 0) hx hb hr (fun t ht hW => ⟨⟨_, (), rfl, rfl, (List.set fs 25 (.int 1)), (ls_self (FM.len hF) (Nat.le_of_ble_eq_true rfl)), by rw [ht]; exact hP9, va_K.moved hW.alike hK, hD9⟩, hS.F ht⟩) hS.2.2 dX12_rename_90

def wD_X12_error : List Cond := [.methodLink RX12 330 yX12_isNode, .instanceMethod yX12_isNode, .selects RX12 yX12_isNode yX12_isNode, .initialized RX12, .methodLink RX12 298 yX12_goes, .instanceMethod yX12_goes, .selects RX12 yX12_goes yX12_goes]
def wK_X12_error : List Cond := .code yX12_error cX12_error 2 (some .int) :: (wD_X12_error ++ (wK_X12_isNode ++ (wK_X12_goes_f ++ ([] : List Cond))))
theorem wd_X12_error : ∀ w ∈ wD_X12_error, w ∈ wK_X12_error := fun w h => List.mem_cons_of_mem _ (List.mem_append_left _ h)
theorem gd_X12_error : (wK_X12_error).all goodWord = true := by decide +kernel
theorem wq_X12_error_X12_isNode : ∀ w ∈ wK_X12_isNode, w ∈ wK_X12_error := fun w h => List.mem_cons_of_mem _ (List.mem_append_right _ (List.mem_append_left _ h))
theorem wq_X12_error_X12_goes_f : ∀ w ∈ wK_X12_goes_f, w ∈ wK_X12_error := fun w h => List.mem_cons_of_mem _ (List.mem_append_right _ (List.mem_append_right _ (List.mem_append_left _ h)))
set_option maxHeartbeats 4000000 in
set_option maxRecDepth 100000 in
/-- error on a fresh reference -/
theorem c_X12_error (l : Launch) (D : va_G) (dT : Nat → ClassId) (sz : Nat) (h : Nat) (fs : List Value) (tm : Nat → Nat) (f : Int32) (hF : FM fs tm) : Met l yX12_error wK_X12_error ({ frames := 2, cells := 0, slots := 0, locals := 43 }) (va_Pc [.ref h, .int f] (fun U => U.heap.size = sz ∧ va_P D vwCl [(h, .inr (13, fs))] U.heap ∧ va_K D vwCl (tysW dT) U ∧ va_D (fun _ => True) [(h, .inr (13, fs))] ∧ EN (va_A [(h, .inr (13, fs))] sz) U)) (va_Qi (fun (r : Int32) (_u : Unit) => r = 0) (fun (_u : Unit) t => ∃ (fs2 : List Value), fs2[25]? = some (.int 1) ∧ va_P D vwCl [(h, .inr (13, fs2))] t.heap ∧ va_K D vwCl (tysW dT) t ∧ va_D (va_A [(h, .inr (13, fs))] sz) [(h, .inr (13, fs2))]) (va_A [(h, .inr (13, fs))] sz)) 0 0 (va_A [(h, .inr (13, fs))] sz) := by
  refine Met.ofW (cc := cX12_error) (maxL := 2) (ret := (some .int)) (by decide) rfl ?_
  intro p e s m args below meth c s₁ B hml hv
  obtain ⟨rfl, hsz, hP, hK, hD0, hE⟩ := hv
  have hx := B.exec
  have hb := B.bytes
  have hr := B.returns
  have hts := atoms_spec (ws := wK_X12_error) B.pre
  have hown : s.vm.findClass RX12 = some m.cls := findClass_of_methodNamed B.named
  have hlocks := B.notSynchronized
  subst hsz
  have hD := hD0.self (sz := s.heap.size)
  generalize hAe : va_A [(h, .inr (13, fs))] s.heap.size = A at hD hE ⊢
  have hA : ∀ q : Nat, s.heap.size ≤ q → A q := fun q h => by rw [← hAe]; exact Or.inr h
  have hS : va_S A s.heap s.heap [] := va_S.rf
  have hP : va_P D vwCl [(h, .inr (13, fs))] s.heap := hP
  have hl := lv_entry ([.ref h, .int f]) (n := 2) (Nat.le_of_ble_eq_true rfl)
  rw [lg_entry_eq]
  generalize (lg_sl ([.ref h, .int f]) ++ List.replicate (2 - (lg_sl ([.ref h, .int f])).length) Slot.unset).toArray = ls at hl ⊢
  have hl : lv_has ls 2 [(0, .ref h), (1, .int f)] := hl
  refine lv_aload_n hx hb dX12_error_0 rfl (lv_at hl 0 rfl) ?_
  refine lv_aload_n hx hb dX12_error_1 rfl (lv_at hl 0 rfl) ?_
  refine lv_iload_n hx hb dX12_error_2 rfl (lv_at hl 1 rfl) ?_
  have hPc := hP.sub (ws' := [(h, .inr (13, fs))]) [0] rfl
  have hDc := hD.sub (ws' := [(h, .inr (13, fs))]) [0] (by decide) rfl
  have hFc := va_free (wc := [(h, .inr (13, fs))]) hD hS hA [0] rfl
  refine va_calli (va_runV (As := [.int f]) (rest := [.ref h]) ⟨hx, hb, hml, hown, hts⟩ (c_X12_isNode l D dT s.heap.size h fs tm f hF) (cwV 1 hts (goodIn_app (goodIn_r _ [1, 2, 3, 4] rfl (by decide +kernel)) (goodIn_sub wq_X12_error_X12_isNode gd_X12_isNode)) rfl rfl rfl (by decide +kernel) ⟨Nat.le_of_ble_eq_true rfl, Nat.le_of_ble_eq_true rfl⟩) ⟨(fun a U g mk q => by obtain ⟨z0, z1, zP, zK, zD, zE⟩ := q; exact ⟨z0, z1, zP, va_K.moved (u := U) (U := U.calling g mk a) (Vm.Alike.refl U.vm) zK, zD, EN.frame zE⟩), va_recv hK hP (ci := 13) (q0 := 0) rfl rfl, fun U hU hW => ⟨rfl, by rw [hU], by rw [hU]; exact hPc, va_K.moved hW.alike hK, hDc.weaken (fun _ _ _ _ => trivial), EN.call hE hS hFc hW hU⟩⟩ rfl rfl hl.1 rfl (lv_room (Nat.le_of_ble_eq_true rfl)) dX12_error_3 ⟨(Nat.le_of_ble_eq_true rfl), (Nat.le_of_ble_eq_true rfl)⟩) hS (fun q _ h => hFc q h) hFc (fun r_1 u_2 t H1 locs ht hvm hw hB hz1 hk1 hS => ?_)
  obtain ⟨-, hP1, hK1, hD1⟩ := hB
  rw [ht] at hP1
  obtain ⟨hP, hD⟩ := va_join (wr := []) (w1 := [(h, .inr (13, fs))]) hP hD [0] [] rfl rfl (by decide) (by decide) hk1 hFc hP1 hD1
  generalize H1 = H at hP hS ⊢
  have hP : va_P D vwCl [(h, .inr (13, fs))] H := hP
  have hD : va_D A [(h, .inr (13, fs))] := hD
  refine W.widen (k := 0) (n := 0) (Nat.le_of_ble_eq_true rfl) (Nat.le_of_ble_eq_true rfl) ?_
  have hw_3 := hw
  try dsimp only at hw_3
  obtain rfl : r_1 = 0 := hw_3
  refine lv_iconst (v := 1) hx hb dX12_error_6 (by decide) ?_
  refine lv_iconst (v := 1) hx hb dX12_error_7 (by decide) ?_
  have hPc := hP.sub (ws' := [(h, .inr (13, fs))]) [0] rfl
  have hDc := hD.sub (ws' := [(h, .inr (13, fs))]) [0] (by decide) rfl
  have hFc := va_free (wc := [(h, .inr (13, fs))]) hD hS hA [0] rfl
  refine va_calli (va_runV (As := [.int 0, .int 1, .int 1]) (rest := []) ⟨hx, hb, hml, hown, hts⟩ (c_X12_goes_f l D dT H.size h fs 1 1 (FM.len hF)) (cwV 3 hts (goodIn_app (goodIn_r _ [5, 6, 7, 4] rfl (by decide +kernel)) (goodIn_sub wq_X12_error_X12_goes_f gd_X12_goes_f)) rfl rfl rfl (by decide +kernel) ⟨Nat.le_of_ble_eq_true rfl, Nat.le_of_ble_eq_true rfl⟩) ⟨(fun a U g mk q => by obtain ⟨z0, z1, zP, zK, zD, zE⟩ := q; exact ⟨z0, z1, zP, va_K.moved (u := U) (U := U.calling g mk a) (Vm.Alike.refl U.vm) zK, zD, EN.frame zE⟩), va_recv hK hP (ci := 13) (q0 := 0) rfl rfl, fun U hU hW => ⟨rfl, by rw [hU], by rw [hU]; exact hPc, va_K.moved hW.alike hK, hDc.weaken (fun _ _ _ _ => trivial), EN.call hE hS hFc hW hU⟩⟩ rfl rfl hl.1 rfl (lv_room (Nat.le_of_ble_eq_true rfl)) dX12_error_8 ⟨(Nat.le_of_ble_eq_true rfl), (Nat.le_of_ble_eq_true rfl)⟩) hS (fun q _ h => hFc q h) hFc (fun r_4 u_5 t H1 locs ht hvm hw hB hz1 hk1 hS => ?_)
  obtain ⟨-, hP1, hK1, hD1⟩ := hB
  rw [ht] at hP1
  obtain ⟨hP, hD⟩ := va_join (wr := []) (w1 := [(h, .inr (13, (List.set fs 25 (.int 1))))]) hP hD [0] [] rfl rfl (by decide) (by decide) hk1 hFc hP1 hD1
  generalize H1 = H at hP hS ⊢
  have hP : va_P D vwCl [(h, .inr (13, (List.set fs 25 (.int 1))))] H := hP
  have hD : va_D A [(h, .inr (13, (List.set fs 25 (.int 1))))] := hD
  refine W.widen (k := 0) (n := 0) (Nat.le_of_ble_eq_true rfl) (Nat.le_of_ble_eq_true rfl) ?_
  have hw_6 := hw
  try dsimp only at hw_6
  obtain rfl : r_4 = 0 := hw_6
  refine lv_if_ne (tgt := 16) hx hb dX12_error_11 (by decide) (fun c_7 => absurd (by decide) c_7) (fun _ => ?_)
  refine lv_iconst (v := 0) hx hb dX12_error_14 (by decide) ?_
  have hP9 := hP.sub (ws' := [(h, .inr (13, (List.set fs 25 (.int 1))))]) [0] rfl
  have hD9 := hD.sub (ws' := [(h, .inr (13, (List.set fs 25 (.int 1))))]) [0] (by decide) rfl
  exact W.iret (v := 0) hx hb hr (fun t ht hW => ⟨⟨_, (), rfl, rfl, (List.set fs 25 (.int 1)), (ls_self (FM.len hF) (Nat.le_of_ble_eq_true rfl)), by rw [ht]; exact hP9, va_K.moved hW.alike hK, hD9⟩, hS.F ht⟩) hS.2.2 dX12_error_15

def wD_X12_asks : List Cond := [.methodLink RX12 330 yX12_isNode, .instanceMethod yX12_isNode, .selects RX12 yX12_isNode yX12_isNode, .initialized RX12, .methodLink RX12 298 yX12_goes, .instanceMethod yX12_goes, .selects RX12 yX12_goes yX12_goes]
def wK_X12_asks : List Cond := .code yX12_asks cX12_asks 4 (some .boolean) :: (wD_X12_asks ++ (wK_X12_isNode ++ (wK_X12_goes_f ++ ([] : List Cond))))
theorem wd_X12_asks : ∀ w ∈ wD_X12_asks, w ∈ wK_X12_asks := fun w h => List.mem_cons_of_mem _ (List.mem_append_left _ h)
theorem gd_X12_asks : (wK_X12_asks).all goodWord = true := by decide +kernel
theorem wq_X12_asks_X12_isNode : ∀ w ∈ wK_X12_isNode, w ∈ wK_X12_asks := fun w h => List.mem_cons_of_mem _ (List.mem_append_right _ (List.mem_append_left _ h))
theorem wq_X12_asks_X12_goes_f : ∀ w ∈ wK_X12_goes_f, w ∈ wK_X12_asks := fun w h => List.mem_cons_of_mem _ (List.mem_append_right _ (List.mem_append_right _ (List.mem_append_left _ h)))
set_option maxHeartbeats 4000000 in
set_option maxRecDepth 100000 in
theorem c_X12_asks (l : Launch) (D : va_G) (dT : Nat → ClassId) (sz : Nat) (h : Nat) (fs : List Value) (tm : Nat → Nat) (f : Int32) (b : Int32) (hF : FM fs tm) : Met l yX12_asks wK_X12_asks ({ frames := 2, cells := 0, slots := 0, locals := 43 }) (va_Pc [.ref h, .int f, .int b] (fun U => U.heap.size = sz ∧ va_P D vwCl [(h, .inr (13, fs))] U.heap ∧ va_K D vwCl (tysW dT) U ∧ va_D (fun _ => True) [(h, .inr (13, fs))] ∧ EN (va_A [(h, .inr (13, fs))] sz) U)) (va_Qi (fun (r : Int32) (_u : Unit) => r = 0) (fun (_u : Unit) t => True ∧ va_P D vwCl [(h, .inr (13, (List.set fs 25 (.int 1))))] t.heap ∧ va_K D vwCl (tysW dT) t ∧ va_D (va_A [(h, .inr (13, fs))] sz) [(h, .inr (13, (List.set fs 25 (.int 1))))]) (va_A [(h, .inr (13, fs))] sz)) 0 0 (va_A [(h, .inr (13, fs))] sz) := by
  refine Met.ofW (cc := cX12_asks) (maxL := 4) (ret := (some .boolean)) (by decide) rfl ?_
  intro p e s m args below meth c s₁ B hml hv
  obtain ⟨rfl, hsz, hP, hK, hD0, hE⟩ := hv
  have hx := B.exec
  have hb := B.bytes
  have hr := B.returns
  have hts := atoms_spec (ws := wK_X12_asks) B.pre
  have hown : s.vm.findClass RX12 = some m.cls := findClass_of_methodNamed B.named
  have hlocks := B.notSynchronized
  subst hsz
  have hD := hD0.self (sz := s.heap.size)
  generalize hAe : va_A [(h, .inr (13, fs))] s.heap.size = A at hD hE ⊢
  have hA : ∀ q : Nat, s.heap.size ≤ q → A q := fun q h => by rw [← hAe]; exact Or.inr h
  have hS : va_S A s.heap s.heap [] := va_S.rf
  have hP : va_P D vwCl [(h, .inr (13, fs))] s.heap := hP
  have hl := lv_entry ([.ref h, .int f, .int b]) (n := 4) (Nat.le_of_ble_eq_true rfl)
  rw [lg_entry_eq]
  generalize (lg_sl ([.ref h, .int f, .int b]) ++ List.replicate (4 - (lg_sl ([.ref h, .int f, .int b])).length) Slot.unset).toArray = ls at hl ⊢
  have hl : lv_has ls 4 [(0, .ref h), (1, .int f), (2, .int b)] := hl
  refine lv_aload_n hx hb dX12_asks_0 rfl (lv_at hl 0 rfl) ?_
  refine lv_iload_n hx hb dX12_asks_1 rfl (lv_at hl 1 rfl) ?_
  have hPc := hP.sub (ws' := [(h, .inr (13, fs))]) [0] rfl
  have hDc := hD.sub (ws' := [(h, .inr (13, fs))]) [0] (by decide) rfl
  have hFc := va_free (wc := [(h, .inr (13, fs))]) hD hS hA [0] rfl
  refine va_calli (va_runV (As := [.int f]) (rest := []) ⟨hx, hb, hml, hown, hts⟩ (c_X12_isNode l D dT s.heap.size h fs tm f hF) (cwV 1 hts (goodIn_app (goodIn_r _ [1, 2, 3, 4] rfl (by decide +kernel)) (goodIn_sub wq_X12_asks_X12_isNode gd_X12_isNode)) rfl rfl rfl (by decide +kernel) ⟨Nat.le_of_ble_eq_true rfl, Nat.le_of_ble_eq_true rfl⟩) ⟨(fun a U g mk q => by obtain ⟨z0, z1, zP, zK, zD, zE⟩ := q; exact ⟨z0, z1, zP, va_K.moved (u := U) (U := U.calling g mk a) (Vm.Alike.refl U.vm) zK, zD, EN.frame zE⟩), va_recv hK hP (ci := 13) (q0 := 0) rfl rfl, fun U hU hW => ⟨rfl, by rw [hU], by rw [hU]; exact hPc, va_K.moved hW.alike hK, hDc.weaken (fun _ _ _ _ => trivial), EN.call hE hS hFc hW hU⟩⟩ rfl rfl hl.1 rfl (lv_room (Nat.le_of_ble_eq_true rfl)) dX12_asks_2 ⟨(Nat.le_of_ble_eq_true rfl), (Nat.le_of_ble_eq_true rfl)⟩) hS (fun q _ h => hFc q h) hFc (fun r_1 u_2 t H1 locs ht hvm hw hB hz1 hk1 hS => ?_)
  obtain ⟨-, hP1, hK1, hD1⟩ := hB
  rw [ht] at hP1
  obtain ⟨hP, hD⟩ := va_join (wr := []) (w1 := [(h, .inr (13, fs))]) hP hD [0] [] rfl rfl (by decide) (by decide) hk1 hFc hP1 hD1
  generalize H1 = H at hP hS ⊢
  have hP : va_P D vwCl [(h, .inr (13, fs))] H := hP
  have hD : va_D A [(h, .inr (13, fs))] := hD
  refine W.widen (k := 0) (n := 0) (Nat.le_of_ble_eq_true rfl) (Nat.le_of_ble_eq_true rfl) ?_
  have hw_3 := hw
  try dsimp only at hw_3
  obtain rfl : r_1 = 0 := hw_3
  refine lv_istore_n (lv' := [(3, .int 0), (0, .ref h), (1, .int f), (2, .int b)]) hx hb dX12_asks_5 rfl hl (by decide) rfl (fun ls hl => ?_)
  refine lv_aload_n hx hb dX12_asks_6 rfl (lv_at hl 1 rfl) ?_
  refine lv_iload_n hx hb dX12_asks_7 rfl (lv_at hl 0 rfl) ?_
  refine lv_iload_n hx hb dX12_asks_8 rfl (lv_at hl 3 rfl) ?_
  refine lv_iload_n hx hb dX12_asks_9 rfl (lv_at hl 0 rfl) ?_
  refine lv_if_eq (tgt := 25) hx hb dX12_asks_10 (by decide) (fun _ => ?_) (fun c_4 => absurd (by decide) c_4)
  refine lv_iconst (v := 0) hx hb dX12_asks_25 (by decide) ?_
  have hPc := hP.sub (ws' := [(h, .inr (13, fs))]) [0] rfl
  have hDc := hD.sub (ws' := [(h, .inr (13, fs))]) [0] (by decide) rfl
  have hFc := va_free (wc := [(h, .inr (13, fs))]) hD hS hA [0] rfl
  refine va_calli (va_runV (As := [.int 0, .int b, .int 0]) (rest := []) ⟨hx, hb, hml, hown, hts⟩ (c_X12_goes_f l D dT H.size h fs b 0 (FM.len hF)) (cwV 3 hts (goodIn_app (goodIn_r _ [5, 6, 7, 4] rfl (by decide +kernel)) (goodIn_sub wq_X12_asks_X12_goes_f gd_X12_goes_f)) rfl rfl rfl (by decide +kernel) ⟨Nat.le_of_ble_eq_true rfl, Nat.le_of_ble_eq_true rfl⟩) ⟨(fun a U g mk q => by obtain ⟨z0, z1, zP, zK, zD, zE⟩ := q; exact ⟨z0, z1, zP, va_K.moved (u := U) (U := U.calling g mk a) (Vm.Alike.refl U.vm) zK, zD, EN.frame zE⟩), va_recv hK hP (ci := 13) (q0 := 0) rfl rfl, fun U hU hW => ⟨rfl, by rw [hU], by rw [hU]; exact hPc, va_K.moved hW.alike hK, hDc.weaken (fun _ _ _ _ => trivial), EN.call hE hS hFc hW hU⟩⟩ rfl rfl hl.1 rfl (lv_room (Nat.le_of_ble_eq_true rfl)) dX12_asks_26 ⟨(Nat.le_of_ble_eq_true rfl), (Nat.le_of_ble_eq_true rfl)⟩) hS (fun q _ h => hFc q h) hFc (fun r_5 u_6 t H1 locs ht hvm hw hB hz1 hk1 hS => ?_)
  obtain ⟨-, hP1, hK1, hD1⟩ := hB
  rw [ht] at hP1
  obtain ⟨hP, hD⟩ := va_join (wr := []) (w1 := [(h, .inr (13, (List.set fs 25 (.int 1))))]) hP hD [0] [] rfl rfl (by decide) (by decide) hk1 hFc hP1 hD1
  generalize H1 = H at hP hS ⊢
  have hP : va_P D vwCl [(h, .inr (13, (List.set fs 25 (.int 1))))] H := hP
  have hD : va_D A [(h, .inr (13, (List.set fs 25 (.int 1))))] := hD
  refine W.widen (k := 0) (n := 0) (Nat.le_of_ble_eq_true rfl) (Nat.le_of_ble_eq_true rfl) ?_
  have hw_7 := hw
  try dsimp only at hw_7
  obtain rfl : r_5 = 0 := hw_7
  have hP9 := hP.sub (ws' := [(h, .inr (13, (List.set fs 25 (.int 1))))]) [0] rfl
  have hD9 := hD.sub (ws' := [(h, .inr (13, (List.set fs 25 (.int 1))))]) [0] (by decide) rfl
  exact W.zret (v := 0) hx hb hr rfl (fun t ht hW => ⟨⟨_, (), rfl, rfl, trivial, by rw [ht]; exact hP9, va_K.moved hW.alike hK, hD9⟩, hS.F ht⟩) hS.2.2 dX12_asks_29

def wD_X12_typeOf : List Cond := [.methodLink RX12 291 yX12_isName, .static yX12_isName, .initialized RX12, .methodLink RX12 484 yX12_asks, .instanceMethod yX12_asks, .selects RX12 yX12_asks yX12_asks]
def wK_X12_typeOf : List Cond := .code yX12_typeOf cX12_typeOf 4 (some .int) :: (wD_X12_typeOf ++ (wK_X12_isName ++ (wK_X12_asks ++ ([] : List Cond))))
theorem wd_X12_typeOf : ∀ w ∈ wD_X12_typeOf, w ∈ wK_X12_typeOf := fun w h => List.mem_cons_of_mem _ (List.mem_append_left _ h)
theorem gd_X12_typeOf : (wK_X12_typeOf).all goodWord = true := by decide +kernel
theorem wq_X12_typeOf_X12_isName : ∀ w ∈ wK_X12_isName, w ∈ wK_X12_typeOf := fun w h => List.mem_cons_of_mem _ (List.mem_append_right _ (List.mem_append_left _ h))
theorem wq_X12_typeOf_X12_asks : ∀ w ∈ wK_X12_asks, w ∈ wK_X12_typeOf := fun w h => List.mem_cons_of_mem _ (List.mem_append_right _ (List.mem_append_right _ (List.mem_append_left _ h)))
set_option maxHeartbeats 4000000 in
set_option maxRecDepth 100000 in
/-- typeOf on a fresh reference -/
theorem c_X12_typeOf (l : Launch) (D : va_G) (dT : Nat → ClassId) (sz : Nat) (h : Nat) (fs : List Value) (tm : Nat → Nat) (f : Int32) (n : Int32) (hF : FM fs tm) : Met l yX12_typeOf wK_X12_typeOf ({ frames := 3, cells := 0, slots := 0, locals := 66 }) (va_Pc [.ref h, .int f, .int n] (fun U => U.heap.size = sz ∧ va_P D vwCl [(h, .inr (13, fs))] U.heap ∧ va_K D vwCl (tysW dT) U ∧ va_D (fun _ => True) [(h, .inr (13, fs))] ∧ EN (va_A [(h, .inr (13, fs))] sz) U)) (va_Qi (fun (r : Int32) (_u : Unit) => r = 0) (fun (_u : Unit) t => ∃ (fs2 : List Value), fs2[25]? = some (.int 1) ∧ va_P D vwCl [(h, .inr (13, fs2))] t.heap ∧ va_K D vwCl (tysW dT) t ∧ va_D (va_A [(h, .inr (13, fs))] sz) [(h, .inr (13, fs2))]) (va_A [(h, .inr (13, fs))] sz)) 0 0 (va_A [(h, .inr (13, fs))] sz) := by
  refine Met.ofW (cc := cX12_typeOf) (maxL := 4) (ret := (some .int)) (by decide) rfl ?_
  intro p e s m args below meth c s₁ B hml hv
  obtain ⟨rfl, hsz, hP, hK, hD0, hE⟩ := hv
  have hx := B.exec
  have hb := B.bytes
  have hr := B.returns
  have hts := atoms_spec (ws := wK_X12_typeOf) B.pre
  have hown : s.vm.findClass RX12 = some m.cls := findClass_of_methodNamed B.named
  have hlocks := B.notSynchronized
  subst hsz
  have hD := hD0.self (sz := s.heap.size)
  generalize hAe : va_A [(h, .inr (13, fs))] s.heap.size = A at hD hE ⊢
  have hA : ∀ q : Nat, s.heap.size ≤ q → A q := fun q h => by rw [← hAe]; exact Or.inr h
  have hS : va_S A s.heap s.heap [] := va_S.rf
  have hP : va_P D vwCl [(h, .inr (13, fs))] s.heap := hP
  have hl := lv_entry ([.ref h, .int f, .int n]) (n := 4) (Nat.le_of_ble_eq_true rfl)
  rw [lg_entry_eq]
  generalize (lg_sl ([.ref h, .int f, .int n]) ++ List.replicate (4 - (lg_sl ([.ref h, .int f, .int n])).length) Slot.unset).toArray = ls at hl ⊢
  have hl : lv_has ls 4 [(0, .ref h), (1, .int f), (2, .int n)] := hl
  refine lv_aload_n hx hb dX12_typeOf_0 rfl (lv_at hl 0 rfl) ?_
  refine lv_iload_n hx hb dX12_typeOf_1 rfl (lv_at hl 1 rfl) ?_
  refine lv_iload_n hx hb dX12_typeOf_2 rfl (lv_at hl 2 rfl) ?_
  have hPc := hP.sub (ws' := []) [] rfl
  have hDc := hD.sub (ws' := []) [] (by decide) rfl
  have hFc := va_free (wc := []) hD hS hA [] rfl
  refine va_calli (va_runS (As := [.int n]) (rest := [.int f, .ref h]) ⟨hx, hb, hml, hown, hts⟩ (c_X12_isName l D dT s.heap.size n) (va_cwS 1 hts (goodIn_app (goodIn_r _ [1, 2, 3] rfl (by decide +kernel)) (goodIn_sub wq_X12_typeOf_X12_isName gd_X12_isName)) rfl rfl rfl (by decide +kernel) ⟨Nat.le_of_ble_eq_true rfl, Nat.le_of_ble_eq_true rfl⟩) ⟨(fun a U g mk q => by obtain ⟨z0, z1, zP, zK, zD, zE⟩ := q; exact ⟨z0, z1, zP, va_K.moved (u := U) (U := U.calling g mk a) (Vm.Alike.refl U.vm) zK, zD, EN.frame zE⟩), fun U hU hW => ⟨rfl, by rw [hU], by rw [hU]; exact hPc, va_K.moved hW.alike hK, hDc.weaken (fun _ _ _ _ => trivial), EN.call hE hS hFc hW hU⟩⟩ rfl rfl hl.1 rfl (lv_room (Nat.le_of_ble_eq_true rfl)) dX12_typeOf_3 ⟨(Nat.le_of_ble_eq_true rfl), (Nat.le_of_ble_eq_true rfl)⟩) hS (fun q _ h => hFc q h) hFc (fun r_1 u_2 t H1 locs ht hvm hw hB hz1 hk1 hS => ?_)
  obtain ⟨-, hP1, hK1, hD1⟩ := hB
  rw [ht] at hP1
  obtain ⟨hP, hD⟩ := va_join (wr := [(h, .inr (13, fs))]) (w1 := []) hP hD [] [0] rfl rfl (by decide) (by decide) hk1 hFc hP1 hD1
  generalize H1 = H at hP hS ⊢
  have hP : va_P D vwCl [(h, .inr (13, fs))] H := hP
  have hD : va_D A [(h, .inr (13, fs))] := hD
  refine W.widen (k := 0) (n := 0) (Nat.le_of_ble_eq_true rfl) (Nat.le_of_ble_eq_true rfl) ?_
  have hw_3 := hw
  try dsimp only at hw_3
  rcases hw_3 with ⟨hc_4, rfl⟩ | ⟨hc_5, rfl⟩
  · have hPc := hP.sub (ws' := [(h, .inr (13, fs))]) [0] rfl
    have hDc := hD.sub (ws' := [(h, .inr (13, fs))]) [0] (by decide) rfl
    have hFc := va_free (wc := [(h, .inr (13, fs))]) hD hS hA [0] rfl
    refine va_calli (va_runV (As := [.int f, .int 0]) (rest := []) ⟨hx, hb, hml, hown, hts⟩ (c_X12_asks l D dT H.size h fs tm f 0 hF) (cwV 2 hts (goodIn_app (goodIn_r _ [4, 5, 6, 3] rfl (by decide +kernel)) (goodIn_sub wq_X12_typeOf_X12_asks gd_X12_asks)) rfl rfl rfl (by decide +kernel) ⟨Nat.le_of_ble_eq_true rfl, Nat.le_of_ble_eq_true rfl⟩) ⟨(fun a U g mk q => by obtain ⟨z0, z1, zP, zK, zD, zE⟩ := q; exact ⟨z0, z1, zP, va_K.moved (u := U) (U := U.calling g mk a) (Vm.Alike.refl U.vm) zK, zD, EN.frame zE⟩), va_recv hK hP (ci := 13) (q0 := 0) rfl rfl, fun U hU hW => ⟨rfl, by rw [hU], by rw [hU]; exact hPc, va_K.moved hW.alike hK, hDc.weaken (fun _ _ _ _ => trivial), EN.call hE hS hFc hW hU⟩⟩ rfl rfl hl.1 rfl (lv_room (Nat.le_of_ble_eq_true rfl)) dX12_typeOf_6 ⟨(Nat.le_of_ble_eq_true rfl), (Nat.le_of_ble_eq_true rfl)⟩) hS (fun q _ h => hFc q h) hFc (fun r_6 u_7 t H1 locs ht hvm hw hB hz1 hk1 hS => ?_)
    obtain ⟨-, hP1, hK1, hD1⟩ := hB
    rw [ht] at hP1
    obtain ⟨hP, hD⟩ := va_join (wr := []) (w1 := [(h, .inr (13, (List.set fs 25 (.int 1))))]) hP hD [0] [] rfl rfl (by decide) (by decide) hk1 hFc hP1 hD1
    generalize H1 = H at hP hS ⊢
    have hP : va_P D vwCl [(h, .inr (13, (List.set fs 25 (.int 1))))] H := hP
    have hD : va_D A [(h, .inr (13, (List.set fs 25 (.int 1))))] := hD
    refine W.widen (k := 0) (n := 0) (Nat.le_of_ble_eq_true rfl) (Nat.le_of_ble_eq_true rfl) ?_
    have hw_8 := hw
    try dsimp only at hw_8
    obtain rfl : r_6 = 0 := hw_8
    refine lv_if_ne (tgt := 14) hx hb dX12_typeOf_9 (by decide) (fun c_9 => absurd (by decide) c_9) (fun _ => ?_)
    refine lv_iconst (v := 0) hx hb dX12_typeOf_12 (by decide) ?_
    have hP9 := hP.sub (ws' := [(h, .inr (13, (List.set fs 25 (.int 1))))]) [0] rfl
    have hD9 := hD.sub (ws' := [(h, .inr (13, (List.set fs 25 (.int 1))))]) [0] (by decide) rfl
    exact W.iret (v := 0) hx hb hr (fun t ht hW => ⟨⟨_, (), rfl, rfl, (List.set fs 25 (.int 1)), (ls_self (FM.len hF) (Nat.le_of_ble_eq_true rfl)), by rw [ht]; exact hP9, va_K.moved hW.alike hK, hD9⟩, hS.F ht⟩) hS.2.2 dX12_typeOf_13
  · have hPc := hP.sub (ws' := [(h, .inr (13, fs))]) [0] rfl
    have hDc := hD.sub (ws' := [(h, .inr (13, fs))]) [0] (by decide) rfl
    have hFc := va_free (wc := [(h, .inr (13, fs))]) hD hS hA [0] rfl
    refine va_calli (va_runV (As := [.int f, .int 1]) (rest := []) ⟨hx, hb, hml, hown, hts⟩ (c_X12_asks l D dT H.size h fs tm f 1 hF) (cwV 2 hts (goodIn_app (goodIn_r _ [4, 5, 6, 3] rfl (by decide +kernel)) (goodIn_sub wq_X12_typeOf_X12_asks gd_X12_asks)) rfl rfl rfl (by decide +kernel) ⟨Nat.le_of_ble_eq_true rfl, Nat.le_of_ble_eq_true rfl⟩) ⟨(fun a U g mk q => by obtain ⟨z0, z1, zP, zK, zD, zE⟩ := q; exact ⟨z0, z1, zP, va_K.moved (u := U) (U := U.calling g mk a) (Vm.Alike.refl U.vm) zK, zD, EN.frame zE⟩), va_recv hK hP (ci := 13) (q0 := 0) rfl rfl, fun U hU hW => ⟨rfl, by rw [hU], by rw [hU]; exact hPc, va_K.moved hW.alike hK, hDc.weaken (fun _ _ _ _ => trivial), EN.call hE hS hFc hW hU⟩⟩ rfl rfl hl.1 rfl (lv_room (Nat.le_of_ble_eq_true rfl)) dX12_typeOf_6 ⟨(Nat.le_of_ble_eq_true rfl), (Nat.le_of_ble_eq_true rfl)⟩) hS (fun q _ h => hFc q h) hFc (fun r_10 u_11 t H1 locs ht hvm hw hB hz1 hk1 hS => ?_)
    obtain ⟨-, hP1, hK1, hD1⟩ := hB
    rw [ht] at hP1
    obtain ⟨hP, hD⟩ := va_join (wr := []) (w1 := [(h, .inr (13, (List.set fs 25 (.int 1))))]) hP hD [0] [] rfl rfl (by decide) (by decide) hk1 hFc hP1 hD1
    generalize H1 = H at hP hS ⊢
    have hP : va_P D vwCl [(h, .inr (13, (List.set fs 25 (.int 1))))] H := hP
    have hD : va_D A [(h, .inr (13, (List.set fs 25 (.int 1))))] := hD
    refine W.widen (k := 0) (n := 0) (Nat.le_of_ble_eq_true rfl) (Nat.le_of_ble_eq_true rfl) ?_
    have hw_12 := hw
    try dsimp only at hw_12
    obtain rfl : r_10 = 0 := hw_12
    refine lv_if_ne (tgt := 14) hx hb dX12_typeOf_9 (by decide) (fun c_13 => absurd (by decide) c_13) (fun _ => ?_)
    refine lv_iconst (v := 0) hx hb dX12_typeOf_12 (by decide) ?_
    have hP9 := hP.sub (ws' := [(h, .inr (13, (List.set fs 25 (.int 1))))]) [0] rfl
    have hD9 := hD.sub (ws' := [(h, .inr (13, (List.set fs 25 (.int 1))))]) [0] (by decide) rfl
    exact W.iret (v := 0) hx hb hr (fun t ht hW => ⟨⟨_, (), rfl, rfl, (List.set fs 25 (.int 1)), (ls_self (FM.len hF) (Nat.le_of_ble_eq_true rfl)), by rw [ht]; exact hP9, va_K.moved hW.alike hK, hD9⟩, hS.F ht⟩) hS.2.2 dX12_typeOf_13

def wD_X12_isSameType : List Cond := [.methodLink RX12 330 yX12_isNode, .instanceMethod yX12_isNode, .selects RX12 yX12_isNode yX12_isNode, .initialized RX12, .methodLink RX12 291 yX12_isName, .static yX12_isName, .methodLink RX12 298 yX12_goes, .instanceMethod yX12_goes, .selects RX12 yX12_goes yX12_goes]
def wK_X12_isSameType : List Cond := .code yX12_isSameType cX12_isSameType 6 (some .boolean) :: (wD_X12_isSameType ++ (wK_X12_isNode ++ (wK_X12_isName ++ (wK_X12_goes_f ++ ([] : List Cond)))))
theorem wd_X12_isSameType : ∀ w ∈ wD_X12_isSameType, w ∈ wK_X12_isSameType := fun w h => List.mem_cons_of_mem _ (List.mem_append_left _ h)
theorem gd_X12_isSameType : (wK_X12_isSameType).all goodWord = true := by decide +kernel
theorem wq_X12_isSameType_X12_isNode : ∀ w ∈ wK_X12_isNode, w ∈ wK_X12_isSameType := fun w h => List.mem_cons_of_mem _ (List.mem_append_right _ (List.mem_append_left _ h))
theorem wq_X12_isSameType_X12_isName : ∀ w ∈ wK_X12_isName, w ∈ wK_X12_isSameType := fun w h => List.mem_cons_of_mem _ (List.mem_append_right _ (List.mem_append_right _ (List.mem_append_left _ h)))
theorem wq_X12_isSameType_X12_goes_f : ∀ w ∈ wK_X12_goes_f, w ∈ wK_X12_isSameType := fun w h => List.mem_cons_of_mem _ (List.mem_append_right _ (List.mem_append_right _ (List.mem_append_right _ (List.mem_append_left _ h))))
set_option maxHeartbeats 4000000 in
set_option maxRecDepth 100000 in
/-- isSameType on a fresh reference -/
theorem c_X12_isSameType (l : Launch) (D : va_G) (dT : Nat → ClassId) (sz : Nat) (h : Nat) (fs : List Value) (tm : Nat → Nat) (f : Int32) (n : Int32) (g : Int32) (o : Int32) (hF : FM fs tm) : Met l yX12_isSameType wK_X12_isSameType ({ frames := 2, cells := 0, slots := 0, locals := 43 }) (va_Pc [.ref h, .int f, .int n, .int g, .int o] (fun U => U.heap.size = sz ∧ va_P D vwCl [(h, .inr (13, fs))] U.heap ∧ va_K D vwCl (tysW dT) U ∧ va_D (fun _ => True) [(h, .inr (13, fs))] ∧ EN (va_A [(h, .inr (13, fs))] sz) U)) (va_Qi (fun (r : Int32) (_u : Unit) => r = 0) (fun (_u : Unit) t => ∃ (fs2 : List Value), fs2[25]? = some (.int 1) ∧ va_P D vwCl [(h, .inr (13, fs2))] t.heap ∧ va_K D vwCl (tysW dT) t ∧ va_D (va_A [(h, .inr (13, fs))] sz) [(h, .inr (13, fs2))]) (va_A [(h, .inr (13, fs))] sz)) 0 0 (va_A [(h, .inr (13, fs))] sz) := by
  refine Met.ofW (cc := cX12_isSameType) (maxL := 6) (ret := (some .boolean)) (by decide) rfl ?_
  intro p e s m args below meth c s₁ B hml hv
  obtain ⟨rfl, hsz, hP, hK, hD0, hE⟩ := hv
  have hx := B.exec
  have hb := B.bytes
  have hr := B.returns
  have hts := atoms_spec (ws := wK_X12_isSameType) B.pre
  have hown : s.vm.findClass RX12 = some m.cls := findClass_of_methodNamed B.named
  have hlocks := B.notSynchronized
  subst hsz
  have hD := hD0.self (sz := s.heap.size)
  generalize hAe : va_A [(h, .inr (13, fs))] s.heap.size = A at hD hE ⊢
  have hA : ∀ q : Nat, s.heap.size ≤ q → A q := fun q h => by rw [← hAe]; exact Or.inr h
  have hS : va_S A s.heap s.heap [] := va_S.rf
  have hP : va_P D vwCl [(h, .inr (13, fs))] s.heap := hP
  have hl := lv_entry ([.ref h, .int f, .int n, .int g, .int o]) (n := 6) (Nat.le_of_ble_eq_true rfl)
  rw [lg_entry_eq]
  generalize (lg_sl ([.ref h, .int f, .int n, .int g, .int o]) ++ List.replicate (6 - (lg_sl ([.ref h, .int f, .int n, .int g, .int o])).length) Slot.unset).toArray = ls at hl ⊢
  have hl : lv_has ls 6 [(0, .ref h), (1, .int f), (2, .int n), (3, .int g), (4, .int o)] := hl
  refine lv_aload_n hx hb dX12_isSameType_0 rfl (lv_at hl 0 rfl) ?_
  refine lv_iload_n hx hb dX12_isSameType_1 rfl (lv_at hl 1 rfl) ?_
  have hPc := hP.sub (ws' := [(h, .inr (13, fs))]) [0] rfl
  have hDc := hD.sub (ws' := [(h, .inr (13, fs))]) [0] (by decide) rfl
  have hFc := va_free (wc := [(h, .inr (13, fs))]) hD hS hA [0] rfl
  refine va_calli (va_runV (As := [.int f]) (rest := []) ⟨hx, hb, hml, hown, hts⟩ (c_X12_isNode l D dT s.heap.size h fs tm f hF) (cwV 1 hts (goodIn_app (goodIn_r _ [1, 2, 3, 4] rfl (by decide +kernel)) (goodIn_sub wq_X12_isSameType_X12_isNode gd_X12_isNode)) rfl rfl rfl (by decide +kernel) ⟨Nat.le_of_ble_eq_true rfl, Nat.le_of_ble_eq_true rfl⟩) ⟨(fun a U g mk q => by obtain ⟨z0, z1, zP, zK, zD, zE⟩ := q; exact ⟨z0, z1, zP, va_K.moved (u := U) (U := U.calling g mk a) (Vm.Alike.refl U.vm) zK, zD, EN.frame zE⟩), va_recv hK hP (ci := 13) (q0 := 0) rfl rfl, fun U hU hW => ⟨rfl, by rw [hU], by rw [hU]; exact hPc, va_K.moved hW.alike hK, hDc.weaken (fun _ _ _ _ => trivial), EN.call hE hS hFc hW hU⟩⟩ rfl rfl hl.1 rfl (lv_room (Nat.le_of_ble_eq_true rfl)) dX12_isSameType_2 ⟨(Nat.le_of_ble_eq_true rfl), (Nat.le_of_ble_eq_true rfl)⟩) hS (fun q _ h => hFc q h) hFc (fun r_1 u_2 t H1 locs ht hvm hw hB hz1 hk1 hS => ?_)
  obtain ⟨-, hP1, hK1, hD1⟩ := hB
  rw [ht] at hP1
  obtain ⟨hP, hD⟩ := va_join (wr := []) (w1 := [(h, .inr (13, fs))]) hP hD [0] [] rfl rfl (by decide) (by decide) hk1 hFc hP1 hD1
  generalize H1 = H at hP hS ⊢
  have hP : va_P D vwCl [(h, .inr (13, fs))] H := hP
  have hD : va_D A [(h, .inr (13, fs))] := hD
  refine W.widen (k := 0) (n := 0) (Nat.le_of_ble_eq_true rfl) (Nat.le_of_ble_eq_true rfl) ?_
  have hw_3 := hw
  try dsimp only at hw_3
  obtain rfl : r_1 = 0 := hw_3
  refine lv_if_eq (tgt := 20) hx hb dX12_isSameType_5 (by decide) (fun _ => ?_) (fun c_4 => absurd (by decide) c_4)
  refine lv_iconst (v := 0) hx hb dX12_isSameType_20 (by decide) ?_
  refine lv_istore (lv' := [(5, .int 0), (0, .ref h), (1, .int f), (2, .int n), (3, .int g), (4, .int o)]) hx hb dX12_isSameType_21 hl (by decide) rfl (fun ls hl => ?_)
  refine lv_iload hx hb dX12_isSameType_23 (lv_at hl 0 rfl) ?_
  refine lv_if_eq (tgt := 39) hx hb dX12_isSameType_25 (by decide) (fun _ => ?_) (fun c_5 => absurd (by decide) c_5)
  refine lv_aload_n hx hb dX12_isSameType_39 rfl (lv_at hl 1 rfl) ?_
  refine lv_iload hx hb dX12_isSameType_40 (lv_at hl 0 rfl) ?_
  refine lv_iload_n hx hb dX12_isSameType_42 rfl (lv_at hl 3 rfl) ?_
  have hPc := hP.sub (ws' := []) [] rfl
  have hDc := hD.sub (ws' := []) [] (by decide) rfl
  have hFc := va_free (wc := []) hD hS hA [] rfl
  refine va_calli (va_runS (As := [.int n]) (rest := [.int 0, .ref h]) ⟨hx, hb, hml, hown, hts⟩ (c_X12_isName l D dT H.size n) (va_cwS 1 hts (goodIn_app (goodIn_r _ [5, 6, 4] rfl (by decide +kernel)) (goodIn_sub wq_X12_isSameType_X12_isName gd_X12_isName)) rfl rfl rfl (by decide +kernel) ⟨Nat.le_of_ble_eq_true rfl, Nat.le_of_ble_eq_true rfl⟩) ⟨(fun a U g mk q => by obtain ⟨z0, z1, zP, zK, zD, zE⟩ := q; exact ⟨z0, z1, zP, va_K.moved (u := U) (U := U.calling g mk a) (Vm.Alike.refl U.vm) zK, zD, EN.frame zE⟩), fun U hU hW => ⟨rfl, by rw [hU], by rw [hU]; exact hPc, va_K.moved hW.alike hK, hDc.weaken (fun _ _ _ _ => trivial), EN.call hE hS hFc hW hU⟩⟩ rfl rfl hl.1 rfl (lv_room (Nat.le_of_ble_eq_true rfl)) dX12_isSameType_43 ⟨(Nat.le_of_ble_eq_true rfl), (Nat.le_of_ble_eq_true rfl)⟩) hS (fun q _ h => hFc q h) hFc (fun r_6 u_7 t H1 locs ht hvm hw hB hz1 hk1 hS => ?_)
  obtain ⟨-, hP1, hK1, hD1⟩ := hB
  rw [ht] at hP1
  obtain ⟨hP, hD⟩ := va_join (wr := [(h, .inr (13, fs))]) (w1 := []) hP hD [] [0] rfl rfl (by decide) (by decide) hk1 hFc hP1 hD1
  generalize H1 = H at hP hS ⊢
  have hP : va_P D vwCl [(h, .inr (13, fs))] H := hP
  have hD : va_D A [(h, .inr (13, fs))] := hD
  refine W.widen (k := 0) (n := 0) (Nat.le_of_ble_eq_true rfl) (Nat.le_of_ble_eq_true rfl) ?_
  have hw_8 := hw
  try dsimp only at hw_8
  rcases hw_8 with ⟨hc_9, rfl⟩ | ⟨hc_10, rfl⟩
  · refine lv_if_eq (tgt := 61) hx hb dX12_isSameType_46 (by decide) (fun _ => ?_) (fun c_11 => absurd (by decide) c_11)
    refine lv_iconst (v := 0) hx hb dX12_isSameType_61 (by decide) ?_
    refine lv_iload hx hb dX12_isSameType_62 (lv_at hl 0 rfl) ?_
    refine lv_if_eq (tgt := 89) hx hb dX12_isSameType_64 (by decide) (fun _ => ?_) (fun c_12 => absurd (by decide) c_12)
    refine lv_iconst (v := 0) hx hb dX12_isSameType_89 (by decide) ?_
    have hPc := hP.sub (ws' := [(h, .inr (13, fs))]) [0] rfl
    have hDc := hD.sub (ws' := [(h, .inr (13, fs))]) [0] (by decide) rfl
    have hFc := va_free (wc := [(h, .inr (13, fs))]) hD hS hA [0] rfl
    refine va_calli (va_runV (As := [.int 0, .int 0, .int 0]) (rest := []) ⟨hx, hb, hml, hown, hts⟩ (c_X12_goes_f l D dT H.size h fs 0 0 (FM.len hF)) (cwV 3 hts (goodIn_app (goodIn_r _ [7, 8, 9, 4] rfl (by decide +kernel)) (goodIn_sub wq_X12_isSameType_X12_goes_f gd_X12_goes_f)) rfl rfl rfl (by decide +kernel) ⟨Nat.le_of_ble_eq_true rfl, Nat.le_of_ble_eq_true rfl⟩) ⟨(fun a U g mk q => by obtain ⟨z0, z1, zP, zK, zD, zE⟩ := q; exact ⟨z0, z1, zP, va_K.moved (u := U) (U := U.calling g mk a) (Vm.Alike.refl U.vm) zK, zD, EN.frame zE⟩), va_recv hK hP (ci := 13) (q0 := 0) rfl rfl, fun U hU hW => ⟨rfl, by rw [hU], by rw [hU]; exact hPc, va_K.moved hW.alike hK, hDc.weaken (fun _ _ _ _ => trivial), EN.call hE hS hFc hW hU⟩⟩ rfl rfl hl.1 rfl (lv_room (Nat.le_of_ble_eq_true rfl)) dX12_isSameType_90 ⟨(Nat.le_of_ble_eq_true rfl), (Nat.le_of_ble_eq_true rfl)⟩) hS (fun q _ h => hFc q h) hFc (fun r_13 u_14 t H1 locs ht hvm hw hB hz1 hk1 hS => ?_)
    obtain ⟨-, hP1, hK1, hD1⟩ := hB
    rw [ht] at hP1
    obtain ⟨hP, hD⟩ := va_join (wr := []) (w1 := [(h, .inr (13, (List.set fs 25 (.int 1))))]) hP hD [0] [] rfl rfl (by decide) (by decide) hk1 hFc hP1 hD1
    generalize H1 = H at hP hS ⊢
    have hP : va_P D vwCl [(h, .inr (13, (List.set fs 25 (.int 1))))] H := hP
    have hD : va_D A [(h, .inr (13, (List.set fs 25 (.int 1))))] := hD
    refine W.widen (k := 0) (n := 0) (Nat.le_of_ble_eq_true rfl) (Nat.le_of_ble_eq_true rfl) ?_
    have hw_15 := hw
    try dsimp only at hw_15
    obtain rfl : r_13 = 0 := hw_15
    refine lv_if_ne (tgt := 98) hx hb dX12_isSameType_93 (by decide) (fun c_16 => absurd (by decide) c_16) (fun _ => ?_)
    refine lv_iconst (v := 0) hx hb dX12_isSameType_96 (by decide) ?_
    have hP9 := hP.sub (ws' := [(h, .inr (13, (List.set fs 25 (.int 1))))]) [0] rfl
    have hD9 := hD.sub (ws' := [(h, .inr (13, (List.set fs 25 (.int 1))))]) [0] (by decide) rfl
    exact W.zret (v := 0) hx hb hr rfl (fun t ht hW => ⟨⟨_, (), rfl, rfl, (List.set fs 25 (.int 1)), (ls_self (FM.len hF) (Nat.le_of_ble_eq_true rfl)), by rw [ht]; exact hP9, va_K.moved hW.alike hK, hD9⟩, hS.F ht⟩) hS.2.2 dX12_isSameType_97
  · refine lv_if_eq (tgt := 61) hx hb dX12_isSameType_46 (by decide) (fun c_17 => absurd c_17 (by decide)) (fun _ => ?_)
    refine lv_iload hx hb dX12_isSameType_49 (lv_at hl 5 rfl) ?_
    have hPc := hP.sub (ws' := []) [] rfl
    have hDc := hD.sub (ws' := []) [] (by decide) rfl
    have hFc := va_free (wc := []) hD hS hA [] rfl
    refine va_calli (va_runS (As := [.int o]) (rest := [.int 0, .ref h]) ⟨hx, hb, hml, hown, hts⟩ (c_X12_isName l D dT H.size o) (va_cwS 1 hts (goodIn_app (goodIn_r _ [5, 6, 4] rfl (by decide +kernel)) (goodIn_sub wq_X12_isSameType_X12_isName gd_X12_isName)) rfl rfl rfl (by decide +kernel) ⟨Nat.le_of_ble_eq_true rfl, Nat.le_of_ble_eq_true rfl⟩) ⟨(fun a U g mk q => by obtain ⟨z0, z1, zP, zK, zD, zE⟩ := q; exact ⟨z0, z1, zP, va_K.moved (u := U) (U := U.calling g mk a) (Vm.Alike.refl U.vm) zK, zD, EN.frame zE⟩), fun U hU hW => ⟨rfl, by rw [hU], by rw [hU]; exact hPc, va_K.moved hW.alike hK, hDc.weaken (fun _ _ _ _ => trivial), EN.call hE hS hFc hW hU⟩⟩ rfl rfl hl.1 rfl (lv_room (Nat.le_of_ble_eq_true rfl)) dX12_isSameType_51 ⟨(Nat.le_of_ble_eq_true rfl), (Nat.le_of_ble_eq_true rfl)⟩) hS (fun q _ h => hFc q h) hFc (fun r_18 u_19 t H1 locs ht hvm hw hB hz1 hk1 hS => ?_)
    obtain ⟨-, hP1, hK1, hD1⟩ := hB
    rw [ht] at hP1
    obtain ⟨hP, hD⟩ := va_join (wr := [(h, .inr (13, fs))]) (w1 := []) hP hD [] [0] rfl rfl (by decide) (by decide) hk1 hFc hP1 hD1
    generalize H1 = H at hP hS ⊢
    have hP : va_P D vwCl [(h, .inr (13, fs))] H := hP
    have hD : va_D A [(h, .inr (13, fs))] := hD
    refine W.widen (k := 0) (n := 0) (Nat.le_of_ble_eq_true rfl) (Nat.le_of_ble_eq_true rfl) ?_
    have hw_20 := hw
    try dsimp only at hw_20
    rcases hw_20 with ⟨hc_21, rfl⟩ | ⟨hc_22, rfl⟩
    · refine lv_if_eq (tgt := 61) hx hb dX12_isSameType_54 (by decide) (fun _ => ?_) (fun c_23 => absurd (by decide) c_23)
      refine lv_iconst (v := 0) hx hb dX12_isSameType_61 (by decide) ?_
      refine lv_iload hx hb dX12_isSameType_62 (lv_at hl 0 rfl) ?_
      refine lv_if_eq (tgt := 89) hx hb dX12_isSameType_64 (by decide) (fun _ => ?_) (fun c_24 => absurd (by decide) c_24)
      refine lv_iconst (v := 0) hx hb dX12_isSameType_89 (by decide) ?_
      have hPc := hP.sub (ws' := [(h, .inr (13, fs))]) [0] rfl
      have hDc := hD.sub (ws' := [(h, .inr (13, fs))]) [0] (by decide) rfl
      have hFc := va_free (wc := [(h, .inr (13, fs))]) hD hS hA [0] rfl
      refine va_calli (va_runV (As := [.int 0, .int 0, .int 0]) (rest := []) ⟨hx, hb, hml, hown, hts⟩ (c_X12_goes_f l D dT H.size h fs 0 0 (FM.len hF)) (cwV 3 hts (goodIn_app (goodIn_r _ [7, 8, 9, 4] rfl (by decide +kernel)) (goodIn_sub wq_X12_isSameType_X12_goes_f gd_X12_goes_f)) rfl rfl rfl (by decide +kernel) ⟨Nat.le_of_ble_eq_true rfl, Nat.le_of_ble_eq_true rfl⟩) ⟨(fun a U g mk q => by obtain ⟨z0, z1, zP, zK, zD, zE⟩ := q; exact ⟨z0, z1, zP, va_K.moved (u := U) (U := U.calling g mk a) (Vm.Alike.refl U.vm) zK, zD, EN.frame zE⟩), va_recv hK hP (ci := 13) (q0 := 0) rfl rfl, fun U hU hW => ⟨rfl, by rw [hU], by rw [hU]; exact hPc, va_K.moved hW.alike hK, hDc.weaken (fun _ _ _ _ => trivial), EN.call hE hS hFc hW hU⟩⟩ rfl rfl hl.1 rfl (lv_room (Nat.le_of_ble_eq_true rfl)) dX12_isSameType_90 ⟨(Nat.le_of_ble_eq_true rfl), (Nat.le_of_ble_eq_true rfl)⟩) hS (fun q _ h => hFc q h) hFc (fun r_25 u_26 t H1 locs ht hvm hw hB hz1 hk1 hS => ?_)
      obtain ⟨-, hP1, hK1, hD1⟩ := hB
      rw [ht] at hP1
      obtain ⟨hP, hD⟩ := va_join (wr := []) (w1 := [(h, .inr (13, (List.set fs 25 (.int 1))))]) hP hD [0] [] rfl rfl (by decide) (by decide) hk1 hFc hP1 hD1
      generalize H1 = H at hP hS ⊢
      have hP : va_P D vwCl [(h, .inr (13, (List.set fs 25 (.int 1))))] H := hP
      have hD : va_D A [(h, .inr (13, (List.set fs 25 (.int 1))))] := hD
      refine W.widen (k := 0) (n := 0) (Nat.le_of_ble_eq_true rfl) (Nat.le_of_ble_eq_true rfl) ?_
      have hw_27 := hw
      try dsimp only at hw_27
      obtain rfl : r_25 = 0 := hw_27
      refine lv_if_ne (tgt := 98) hx hb dX12_isSameType_93 (by decide) (fun c_28 => absurd (by decide) c_28) (fun _ => ?_)
      refine lv_iconst (v := 0) hx hb dX12_isSameType_96 (by decide) ?_
      have hP9 := hP.sub (ws' := [(h, .inr (13, (List.set fs 25 (.int 1))))]) [0] rfl
      have hD9 := hD.sub (ws' := [(h, .inr (13, (List.set fs 25 (.int 1))))]) [0] (by decide) rfl
      exact W.zret (v := 0) hx hb hr rfl (fun t ht hW => ⟨⟨_, (), rfl, rfl, (List.set fs 25 (.int 1)), (ls_self (FM.len hF) (Nat.le_of_ble_eq_true rfl)), by rw [ht]; exact hP9, va_K.moved hW.alike hK, hD9⟩, hS.F ht⟩) hS.2.2 dX12_isSameType_97
    · refine lv_if_eq (tgt := 61) hx hb dX12_isSameType_54 (by decide) (fun c_29 => absurd c_29 (by decide)) (fun _ => ?_)
      refine lv_iconst (v := 1) hx hb dX12_isSameType_57 (by decide) ?_
      refine lv_goto (tgt := 62) hx hb dX12_isSameType_58 (by decide) ?_
      refine lv_iload hx hb dX12_isSameType_62 (lv_at hl 0 rfl) ?_
      refine lv_if_eq (tgt := 89) hx hb dX12_isSameType_64 (by decide) (fun _ => ?_) (fun c_30 => absurd (by decide) c_30)
      refine lv_iconst (v := 0) hx hb dX12_isSameType_89 (by decide) ?_
      have hPc := hP.sub (ws' := [(h, .inr (13, fs))]) [0] rfl
      have hDc := hD.sub (ws' := [(h, .inr (13, fs))]) [0] (by decide) rfl
      have hFc := va_free (wc := [(h, .inr (13, fs))]) hD hS hA [0] rfl
      refine va_calli (va_runV (As := [.int 0, .int 1, .int 0]) (rest := []) ⟨hx, hb, hml, hown, hts⟩ (c_X12_goes_f l D dT H.size h fs 1 0 (FM.len hF)) (cwV 3 hts (goodIn_app (goodIn_r _ [7, 8, 9, 4] rfl (by decide +kernel)) (goodIn_sub wq_X12_isSameType_X12_goes_f gd_X12_goes_f)) rfl rfl rfl (by decide +kernel) ⟨Nat.le_of_ble_eq_true rfl, Nat.le_of_ble_eq_true rfl⟩) ⟨(fun a U g mk q => by obtain ⟨z0, z1, zP, zK, zD, zE⟩ := q; exact ⟨z0, z1, zP, va_K.moved (u := U) (U := U.calling g mk a) (Vm.Alike.refl U.vm) zK, zD, EN.frame zE⟩), va_recv hK hP (ci := 13) (q0 := 0) rfl rfl, fun U hU hW => ⟨rfl, by rw [hU], by rw [hU]; exact hPc, va_K.moved hW.alike hK, hDc.weaken (fun _ _ _ _ => trivial), EN.call hE hS hFc hW hU⟩⟩ rfl rfl hl.1 rfl (lv_room (Nat.le_of_ble_eq_true rfl)) dX12_isSameType_90 ⟨(Nat.le_of_ble_eq_true rfl), (Nat.le_of_ble_eq_true rfl)⟩) hS (fun q _ h => hFc q h) hFc (fun r_31 u_32 t H1 locs ht hvm hw hB hz1 hk1 hS => ?_)
      obtain ⟨-, hP1, hK1, hD1⟩ := hB
      rw [ht] at hP1
      obtain ⟨hP, hD⟩ := va_join (wr := []) (w1 := [(h, .inr (13, (List.set fs 25 (.int 1))))]) hP hD [0] [] rfl rfl (by decide) (by decide) hk1 hFc hP1 hD1
      generalize H1 = H at hP hS ⊢
      have hP : va_P D vwCl [(h, .inr (13, (List.set fs 25 (.int 1))))] H := hP
      have hD : va_D A [(h, .inr (13, (List.set fs 25 (.int 1))))] := hD
      refine W.widen (k := 0) (n := 0) (Nat.le_of_ble_eq_true rfl) (Nat.le_of_ble_eq_true rfl) ?_
      have hw_33 := hw
      try dsimp only at hw_33
      obtain rfl : r_31 = 0 := hw_33
      refine lv_if_ne (tgt := 98) hx hb dX12_isSameType_93 (by decide) (fun c_34 => absurd (by decide) c_34) (fun _ => ?_)
      refine lv_iconst (v := 0) hx hb dX12_isSameType_96 (by decide) ?_
      have hP9 := hP.sub (ws' := [(h, .inr (13, (List.set fs 25 (.int 1))))]) [0] rfl
      have hD9 := hD.sub (ws' := [(h, .inr (13, (List.set fs 25 (.int 1))))]) [0] (by decide) rfl
      exact W.zret (v := 0) hx hb hr rfl (fun t ht hW => ⟨⟨_, (), rfl, rfl, (List.set fs 25 (.int 1)), (ls_self (FM.len hF) (Nat.le_of_ble_eq_true rfl)), by rw [ht]; exact hP9, va_K.moved hW.alike hK, hD9⟩, hS.F ht⟩) hS.2.2 dX12_isSameType_97

def wD_X12_valueOf : List Cond := [.methodLink RX12 302 yX12_isValue, .static yX12_isValue, .initialized RX12, .methodLink RX12 484 yX12_asks, .instanceMethod yX12_asks, .selects RX12 yX12_asks yX12_asks]
def wK_X12_valueOf : List Cond := .code yX12_valueOf cX12_valueOf 3 (some .int) :: (wD_X12_valueOf ++ (wK_X12_isValue ++ (wK_X12_asks ++ ([] : List Cond))))
theorem wd_X12_valueOf : ∀ w ∈ wD_X12_valueOf, w ∈ wK_X12_valueOf := fun w h => List.mem_cons_of_mem _ (List.mem_append_left _ h)
theorem gd_X12_valueOf : (wK_X12_valueOf).all goodWord = true := by decide +kernel
theorem wq_X12_valueOf_X12_isValue : ∀ w ∈ wK_X12_isValue, w ∈ wK_X12_valueOf := fun w h => List.mem_cons_of_mem _ (List.mem_append_right _ (List.mem_append_left _ h))
theorem wq_X12_valueOf_X12_asks : ∀ w ∈ wK_X12_asks, w ∈ wK_X12_valueOf := fun w h => List.mem_cons_of_mem _ (List.mem_append_right _ (List.mem_append_right _ (List.mem_append_left _ h)))
set_option maxHeartbeats 4000000 in
set_option maxRecDepth 100000 in
/-- valueOf on a fresh reference -/
theorem c_X12_valueOf (l : Launch) (D : va_G) (dT : Nat → ClassId) (sz : Nat) (h : Nat) (fs : List Value) (tm : Nat → Nat) (f : Int32) (n : Int32) (hF : FM fs tm) : Met l yX12_valueOf wK_X12_valueOf ({ frames := 3, cells := 0, slots := 0, locals := 66 }) (va_Pc [.ref h, .int f, .int n] (fun U => U.heap.size = sz ∧ va_P D vwCl [(h, .inr (13, fs))] U.heap ∧ va_K D vwCl (tysW dT) U ∧ va_D (fun _ => True) [(h, .inr (13, fs))] ∧ EN (va_A [(h, .inr (13, fs))] sz) U)) (va_Qi (fun (r : Int32) (_u : Unit) => r = 0) (fun (_u : Unit) t => ∃ (fs2 : List Value), fs2[25]? = some (.int 1) ∧ va_P D vwCl [(h, .inr (13, fs2))] t.heap ∧ va_K D vwCl (tysW dT) t ∧ va_D (va_A [(h, .inr (13, fs))] sz) [(h, .inr (13, fs2))]) (va_A [(h, .inr (13, fs))] sz)) 0 0 (va_A [(h, .inr (13, fs))] sz) := by
  refine Met.ofW (cc := cX12_valueOf) (maxL := 3) (ret := (some .int)) (by decide) rfl ?_
  intro p e s m args below meth c s₁ B hml hv
  obtain ⟨rfl, hsz, hP, hK, hD0, hE⟩ := hv
  have hx := B.exec
  have hb := B.bytes
  have hr := B.returns
  have hts := atoms_spec (ws := wK_X12_valueOf) B.pre
  have hown : s.vm.findClass RX12 = some m.cls := findClass_of_methodNamed B.named
  have hlocks := B.notSynchronized
  subst hsz
  have hD := hD0.self (sz := s.heap.size)
  generalize hAe : va_A [(h, .inr (13, fs))] s.heap.size = A at hD hE ⊢
  have hA : ∀ q : Nat, s.heap.size ≤ q → A q := fun q h => by rw [← hAe]; exact Or.inr h
  have hS : va_S A s.heap s.heap [] := va_S.rf
  have hP : va_P D vwCl [(h, .inr (13, fs))] s.heap := hP
  have hl := lv_entry ([.ref h, .int f, .int n]) (n := 3) (Nat.le_of_ble_eq_true rfl)
  rw [lg_entry_eq]
  generalize (lg_sl ([.ref h, .int f, .int n]) ++ List.replicate (3 - (lg_sl ([.ref h, .int f, .int n])).length) Slot.unset).toArray = ls at hl ⊢
  have hl : lv_has ls 3 [(0, .ref h), (1, .int f), (2, .int n)] := hl
  refine lv_aload_n hx hb dX12_valueOf_0 rfl (lv_at hl 0 rfl) ?_
  refine lv_iload_n hx hb dX12_valueOf_1 rfl (lv_at hl 1 rfl) ?_
  refine lv_iload_n hx hb dX12_valueOf_2 rfl (lv_at hl 2 rfl) ?_
  have hPc := hP.sub (ws' := []) [] rfl
  have hDc := hD.sub (ws' := []) [] (by decide) rfl
  have hFc := va_free (wc := []) hD hS hA [] rfl
  refine va_calli (va_runS (As := [.int n]) (rest := [.int f, .ref h]) ⟨hx, hb, hml, hown, hts⟩ (c_X12_isValue l D dT s.heap.size n) (va_cwS 1 hts (goodIn_app (goodIn_r _ [1, 2, 3] rfl (by decide +kernel)) (goodIn_sub wq_X12_valueOf_X12_isValue gd_X12_isValue)) rfl rfl rfl (by decide +kernel) ⟨Nat.le_of_ble_eq_true rfl, Nat.le_of_ble_eq_true rfl⟩) ⟨(fun a U g mk q => by obtain ⟨z0, z1, zP, zK, zD, zE⟩ := q; exact ⟨z0, z1, zP, va_K.moved (u := U) (U := U.calling g mk a) (Vm.Alike.refl U.vm) zK, zD, EN.frame zE⟩), fun U hU hW => ⟨rfl, by rw [hU], by rw [hU]; exact hPc, va_K.moved hW.alike hK, hDc.weaken (fun _ _ _ _ => trivial), EN.call hE hS hFc hW hU⟩⟩ rfl rfl hl.1 rfl (lv_room (Nat.le_of_ble_eq_true rfl)) dX12_valueOf_3 ⟨(Nat.le_of_ble_eq_true rfl), (Nat.le_of_ble_eq_true rfl)⟩) hS (fun q _ h => hFc q h) hFc (fun r_1 u_2 t H1 locs ht hvm hw hB hz1 hk1 hS => ?_)
  obtain ⟨-, hP1, hK1, hD1⟩ := hB
  rw [ht] at hP1
  obtain ⟨hP, hD⟩ := va_join (wr := [(h, .inr (13, fs))]) (w1 := []) hP hD [] [0] rfl rfl (by decide) (by decide) hk1 hFc hP1 hD1
  generalize H1 = H at hP hS ⊢
  have hP : va_P D vwCl [(h, .inr (13, fs))] H := hP
  have hD : va_D A [(h, .inr (13, fs))] := hD
  refine W.widen (k := 0) (n := 0) (Nat.le_of_ble_eq_true rfl) (Nat.le_of_ble_eq_true rfl) ?_
  have hw_3 := hw
  try dsimp only at hw_3
  rcases hw_3 with ⟨hc_4, rfl⟩ | ⟨hc_5, rfl⟩
  · have hPc := hP.sub (ws' := [(h, .inr (13, fs))]) [0] rfl
    have hDc := hD.sub (ws' := [(h, .inr (13, fs))]) [0] (by decide) rfl
    have hFc := va_free (wc := [(h, .inr (13, fs))]) hD hS hA [0] rfl
    refine va_calli (va_runV (As := [.int f, .int 0]) (rest := []) ⟨hx, hb, hml, hown, hts⟩ (c_X12_asks l D dT H.size h fs tm f 0 hF) (cwV 2 hts (goodIn_app (goodIn_r _ [4, 5, 6, 3] rfl (by decide +kernel)) (goodIn_sub wq_X12_valueOf_X12_asks gd_X12_asks)) rfl rfl rfl (by decide +kernel) ⟨Nat.le_of_ble_eq_true rfl, Nat.le_of_ble_eq_true rfl⟩) ⟨(fun a U g mk q => by obtain ⟨z0, z1, zP, zK, zD, zE⟩ := q; exact ⟨z0, z1, zP, va_K.moved (u := U) (U := U.calling g mk a) (Vm.Alike.refl U.vm) zK, zD, EN.frame zE⟩), va_recv hK hP (ci := 13) (q0 := 0) rfl rfl, fun U hU hW => ⟨rfl, by rw [hU], by rw [hU]; exact hPc, va_K.moved hW.alike hK, hDc.weaken (fun _ _ _ _ => trivial), EN.call hE hS hFc hW hU⟩⟩ rfl rfl hl.1 rfl (lv_room (Nat.le_of_ble_eq_true rfl)) dX12_valueOf_6 ⟨(Nat.le_of_ble_eq_true rfl), (Nat.le_of_ble_eq_true rfl)⟩) hS (fun q _ h => hFc q h) hFc (fun r_6 u_7 t H1 locs ht hvm hw hB hz1 hk1 hS => ?_)
    obtain ⟨-, hP1, hK1, hD1⟩ := hB
    rw [ht] at hP1
    obtain ⟨hP, hD⟩ := va_join (wr := []) (w1 := [(h, .inr (13, (List.set fs 25 (.int 1))))]) hP hD [0] [] rfl rfl (by decide) (by decide) hk1 hFc hP1 hD1
    generalize H1 = H at hP hS ⊢
    have hP : va_P D vwCl [(h, .inr (13, (List.set fs 25 (.int 1))))] H := hP
    have hD : va_D A [(h, .inr (13, (List.set fs 25 (.int 1))))] := hD
    refine W.widen (k := 0) (n := 0) (Nat.le_of_ble_eq_true rfl) (Nat.le_of_ble_eq_true rfl) ?_
    have hw_8 := hw
    try dsimp only at hw_8
    obtain rfl : r_6 = 0 := hw_8
    refine lv_if_eq (tgt := 22) hx hb dX12_valueOf_9 (by decide) (fun _ => ?_) (fun c_9 => absurd (by decide) c_9)
    refine lv_iconst (v := 0) hx hb dX12_valueOf_22 (by decide) ?_
    have hP9 := hP.sub (ws' := [(h, .inr (13, (List.set fs 25 (.int 1))))]) [0] rfl
    have hD9 := hD.sub (ws' := [(h, .inr (13, (List.set fs 25 (.int 1))))]) [0] (by decide) rfl
    exact W.iret (v := 0) hx hb hr (fun t ht hW => ⟨⟨_, (), rfl, rfl, (List.set fs 25 (.int 1)), (ls_self (FM.len hF) (Nat.le_of_ble_eq_true rfl)), by rw [ht]; exact hP9, va_K.moved hW.alike hK, hD9⟩, hS.F ht⟩) hS.2.2 dX12_valueOf_23
  · have hPc := hP.sub (ws' := [(h, .inr (13, fs))]) [0] rfl
    have hDc := hD.sub (ws' := [(h, .inr (13, fs))]) [0] (by decide) rfl
    have hFc := va_free (wc := [(h, .inr (13, fs))]) hD hS hA [0] rfl
    refine va_calli (va_runV (As := [.int f, .int 1]) (rest := []) ⟨hx, hb, hml, hown, hts⟩ (c_X12_asks l D dT H.size h fs tm f 1 hF) (cwV 2 hts (goodIn_app (goodIn_r _ [4, 5, 6, 3] rfl (by decide +kernel)) (goodIn_sub wq_X12_valueOf_X12_asks gd_X12_asks)) rfl rfl rfl (by decide +kernel) ⟨Nat.le_of_ble_eq_true rfl, Nat.le_of_ble_eq_true rfl⟩) ⟨(fun a U g mk q => by obtain ⟨z0, z1, zP, zK, zD, zE⟩ := q; exact ⟨z0, z1, zP, va_K.moved (u := U) (U := U.calling g mk a) (Vm.Alike.refl U.vm) zK, zD, EN.frame zE⟩), va_recv hK hP (ci := 13) (q0 := 0) rfl rfl, fun U hU hW => ⟨rfl, by rw [hU], by rw [hU]; exact hPc, va_K.moved hW.alike hK, hDc.weaken (fun _ _ _ _ => trivial), EN.call hE hS hFc hW hU⟩⟩ rfl rfl hl.1 rfl (lv_room (Nat.le_of_ble_eq_true rfl)) dX12_valueOf_6 ⟨(Nat.le_of_ble_eq_true rfl), (Nat.le_of_ble_eq_true rfl)⟩) hS (fun q _ h => hFc q h) hFc (fun r_10 u_11 t H1 locs ht hvm hw hB hz1 hk1 hS => ?_)
    obtain ⟨-, hP1, hK1, hD1⟩ := hB
    rw [ht] at hP1
    obtain ⟨hP, hD⟩ := va_join (wr := []) (w1 := [(h, .inr (13, (List.set fs 25 (.int 1))))]) hP hD [0] [] rfl rfl (by decide) (by decide) hk1 hFc hP1 hD1
    generalize H1 = H at hP hS ⊢
    have hP : va_P D vwCl [(h, .inr (13, (List.set fs 25 (.int 1))))] H := hP
    have hD : va_D A [(h, .inr (13, (List.set fs 25 (.int 1))))] := hD
    refine W.widen (k := 0) (n := 0) (Nat.le_of_ble_eq_true rfl) (Nat.le_of_ble_eq_true rfl) ?_
    have hw_12 := hw
    try dsimp only at hw_12
    obtain rfl : r_10 = 0 := hw_12
    refine lv_if_eq (tgt := 22) hx hb dX12_valueOf_9 (by decide) (fun _ => ?_) (fun c_13 => absurd (by decide) c_13)
    refine lv_iconst (v := 0) hx hb dX12_valueOf_22 (by decide) ?_
    have hP9 := hP.sub (ws' := [(h, .inr (13, (List.set fs 25 (.int 1))))]) [0] rfl
    have hD9 := hD.sub (ws' := [(h, .inr (13, (List.set fs 25 (.int 1))))]) [0] (by decide) rfl
    exact W.iret (v := 0) hx hb hr (fun t ht hW => ⟨⟨_, (), rfl, rfl, (List.set fs 25 (.int 1)), (ls_self (FM.len hF) (Nat.le_of_ble_eq_true rfl)), by rw [ht]; exact hP9, va_K.moved hW.alike hK, hD9⟩, hS.F ht⟩) hS.2.2 dX12_valueOf_23

def wD_X12_size : List Cond := [.methodLink RX12 302 yX12_isValue, .static yX12_isValue, .initialized RX12, .methodLink RX12 484 yX12_asks, .instanceMethod yX12_asks, .selects RX12 yX12_asks yX12_asks]
def wK_X12_size : List Cond := .code yX12_size cX12_size 3 (some .int) :: (wD_X12_size ++ (wK_X12_isValue ++ (wK_X12_asks ++ ([] : List Cond))))
theorem wd_X12_size : ∀ w ∈ wD_X12_size, w ∈ wK_X12_size := fun w h => List.mem_cons_of_mem _ (List.mem_append_left _ h)
theorem gd_X12_size : (wK_X12_size).all goodWord = true := by decide +kernel
theorem wq_X12_size_X12_isValue : ∀ w ∈ wK_X12_isValue, w ∈ wK_X12_size := fun w h => List.mem_cons_of_mem _ (List.mem_append_right _ (List.mem_append_left _ h))
theorem wq_X12_size_X12_asks : ∀ w ∈ wK_X12_asks, w ∈ wK_X12_size := fun w h => List.mem_cons_of_mem _ (List.mem_append_right _ (List.mem_append_right _ (List.mem_append_left _ h)))
set_option maxHeartbeats 4000000 in
set_option maxRecDepth 100000 in
/-- size on a fresh reference -/
theorem c_X12_size (l : Launch) (D : va_G) (dT : Nat → ClassId) (sz : Nat) (h : Nat) (fs : List Value) (tm : Nat → Nat) (f : Int32) (n : Int32) (hF : FM fs tm) : Met l yX12_size wK_X12_size ({ frames := 3, cells := 0, slots := 0, locals := 66 }) (va_Pc [.ref h, .int f, .int n] (fun U => U.heap.size = sz ∧ va_P D vwCl [(h, .inr (13, fs))] U.heap ∧ va_K D vwCl (tysW dT) U ∧ va_D (fun _ => True) [(h, .inr (13, fs))] ∧ EN (va_A [(h, .inr (13, fs))] sz) U)) (va_Qi (fun (r : Int32) (_u : Unit) => r = 0) (fun (_u : Unit) t => ∃ (fs2 : List Value), fs2[25]? = some (.int 1) ∧ va_P D vwCl [(h, .inr (13, fs2))] t.heap ∧ va_K D vwCl (tysW dT) t ∧ va_D (va_A [(h, .inr (13, fs))] sz) [(h, .inr (13, fs2))]) (va_A [(h, .inr (13, fs))] sz)) 0 0 (va_A [(h, .inr (13, fs))] sz) := by
  refine Met.ofW (cc := cX12_size) (maxL := 3) (ret := (some .int)) (by decide) rfl ?_
  intro p e s m args below meth c s₁ B hml hv
  obtain ⟨rfl, hsz, hP, hK, hD0, hE⟩ := hv
  have hx := B.exec
  have hb := B.bytes
  have hr := B.returns
  have hts := atoms_spec (ws := wK_X12_size) B.pre
  have hown : s.vm.findClass RX12 = some m.cls := findClass_of_methodNamed B.named
  have hlocks := B.notSynchronized
  subst hsz
  have hD := hD0.self (sz := s.heap.size)
  generalize hAe : va_A [(h, .inr (13, fs))] s.heap.size = A at hD hE ⊢
  have hA : ∀ q : Nat, s.heap.size ≤ q → A q := fun q h => by rw [← hAe]; exact Or.inr h
  have hS : va_S A s.heap s.heap [] := va_S.rf
  have hP : va_P D vwCl [(h, .inr (13, fs))] s.heap := hP
  have hl := lv_entry ([.ref h, .int f, .int n]) (n := 3) (Nat.le_of_ble_eq_true rfl)
  rw [lg_entry_eq]
  generalize (lg_sl ([.ref h, .int f, .int n]) ++ List.replicate (3 - (lg_sl ([.ref h, .int f, .int n])).length) Slot.unset).toArray = ls at hl ⊢
  have hl : lv_has ls 3 [(0, .ref h), (1, .int f), (2, .int n)] := hl
  refine lv_aload_n hx hb dX12_size_0 rfl (lv_at hl 0 rfl) ?_
  refine lv_iload_n hx hb dX12_size_1 rfl (lv_at hl 1 rfl) ?_
  refine lv_iload_n hx hb dX12_size_2 rfl (lv_at hl 2 rfl) ?_
  have hPc := hP.sub (ws' := []) [] rfl
  have hDc := hD.sub (ws' := []) [] (by decide) rfl
  have hFc := va_free (wc := []) hD hS hA [] rfl
  refine va_calli (va_runS (As := [.int n]) (rest := [.int f, .ref h]) ⟨hx, hb, hml, hown, hts⟩ (c_X12_isValue l D dT s.heap.size n) (va_cwS 1 hts (goodIn_app (goodIn_r _ [1, 2, 3] rfl (by decide +kernel)) (goodIn_sub wq_X12_size_X12_isValue gd_X12_isValue)) rfl rfl rfl (by decide +kernel) ⟨Nat.le_of_ble_eq_true rfl, Nat.le_of_ble_eq_true rfl⟩) ⟨(fun a U g mk q => by obtain ⟨z0, z1, zP, zK, zD, zE⟩ := q; exact ⟨z0, z1, zP, va_K.moved (u := U) (U := U.calling g mk a) (Vm.Alike.refl U.vm) zK, zD, EN.frame zE⟩), fun U hU hW => ⟨rfl, by rw [hU], by rw [hU]; exact hPc, va_K.moved hW.alike hK, hDc.weaken (fun _ _ _ _ => trivial), EN.call hE hS hFc hW hU⟩⟩ rfl rfl hl.1 rfl (lv_room (Nat.le_of_ble_eq_true rfl)) dX12_size_3 ⟨(Nat.le_of_ble_eq_true rfl), (Nat.le_of_ble_eq_true rfl)⟩) hS (fun q _ h => hFc q h) hFc (fun r_1 u_2 t H1 locs ht hvm hw hB hz1 hk1 hS => ?_)
  obtain ⟨-, hP1, hK1, hD1⟩ := hB
  rw [ht] at hP1
  obtain ⟨hP, hD⟩ := va_join (wr := [(h, .inr (13, fs))]) (w1 := []) hP hD [] [0] rfl rfl (by decide) (by decide) hk1 hFc hP1 hD1
  generalize H1 = H at hP hS ⊢
  have hP : va_P D vwCl [(h, .inr (13, fs))] H := hP
  have hD : va_D A [(h, .inr (13, fs))] := hD
  refine W.widen (k := 0) (n := 0) (Nat.le_of_ble_eq_true rfl) (Nat.le_of_ble_eq_true rfl) ?_
  have hw_3 := hw
  try dsimp only at hw_3
  rcases hw_3 with ⟨hc_4, rfl⟩ | ⟨hc_5, rfl⟩
  · have hPc := hP.sub (ws' := [(h, .inr (13, fs))]) [0] rfl
    have hDc := hD.sub (ws' := [(h, .inr (13, fs))]) [0] (by decide) rfl
    have hFc := va_free (wc := [(h, .inr (13, fs))]) hD hS hA [0] rfl
    refine va_calli (va_runV (As := [.int f, .int 0]) (rest := []) ⟨hx, hb, hml, hown, hts⟩ (c_X12_asks l D dT H.size h fs tm f 0 hF) (cwV 2 hts (goodIn_app (goodIn_r _ [4, 5, 6, 3] rfl (by decide +kernel)) (goodIn_sub wq_X12_size_X12_asks gd_X12_asks)) rfl rfl rfl (by decide +kernel) ⟨Nat.le_of_ble_eq_true rfl, Nat.le_of_ble_eq_true rfl⟩) ⟨(fun a U g mk q => by obtain ⟨z0, z1, zP, zK, zD, zE⟩ := q; exact ⟨z0, z1, zP, va_K.moved (u := U) (U := U.calling g mk a) (Vm.Alike.refl U.vm) zK, zD, EN.frame zE⟩), va_recv hK hP (ci := 13) (q0 := 0) rfl rfl, fun U hU hW => ⟨rfl, by rw [hU], by rw [hU]; exact hPc, va_K.moved hW.alike hK, hDc.weaken (fun _ _ _ _ => trivial), EN.call hE hS hFc hW hU⟩⟩ rfl rfl hl.1 rfl (lv_room (Nat.le_of_ble_eq_true rfl)) dX12_size_6 ⟨(Nat.le_of_ble_eq_true rfl), (Nat.le_of_ble_eq_true rfl)⟩) hS (fun q _ h => hFc q h) hFc (fun r_6 u_7 t H1 locs ht hvm hw hB hz1 hk1 hS => ?_)
    obtain ⟨-, hP1, hK1, hD1⟩ := hB
    rw [ht] at hP1
    obtain ⟨hP, hD⟩ := va_join (wr := []) (w1 := [(h, .inr (13, (List.set fs 25 (.int 1))))]) hP hD [0] [] rfl rfl (by decide) (by decide) hk1 hFc hP1 hD1
    generalize H1 = H at hP hS ⊢
    have hP : va_P D vwCl [(h, .inr (13, (List.set fs 25 (.int 1))))] H := hP
    have hD : va_D A [(h, .inr (13, (List.set fs 25 (.int 1))))] := hD
    refine W.widen (k := 0) (n := 0) (Nat.le_of_ble_eq_true rfl) (Nat.le_of_ble_eq_true rfl) ?_
    have hw_8 := hw
    try dsimp only at hw_8
    obtain rfl : r_6 = 0 := hw_8
    refine lv_if_eq (tgt := 22) hx hb dX12_size_9 (by decide) (fun _ => ?_) (fun c_9 => absurd (by decide) c_9)
    refine lv_iconst (v := 0) hx hb dX12_size_22 (by decide) ?_
    refine lv_goto (tgt := 37) hx hb dX12_size_23 (by decide) ?_
    have hP9 := hP.sub (ws' := [(h, .inr (13, (List.set fs 25 (.int 1))))]) [0] rfl
    have hD9 := hD.sub (ws' := [(h, .inr (13, (List.set fs 25 (.int 1))))]) [0] (by decide) rfl
    exact W.iret (v := 0) hx hb hr (fun t ht hW => ⟨⟨_, (), rfl, rfl, (List.set fs 25 (.int 1)), (ls_self (FM.len hF) (Nat.le_of_ble_eq_true rfl)), by rw [ht]; exact hP9, va_K.moved hW.alike hK, hD9⟩, hS.F ht⟩) hS.2.2 dX12_size_37
  · have hPc := hP.sub (ws' := [(h, .inr (13, fs))]) [0] rfl
    have hDc := hD.sub (ws' := [(h, .inr (13, fs))]) [0] (by decide) rfl
    have hFc := va_free (wc := [(h, .inr (13, fs))]) hD hS hA [0] rfl
    refine va_calli (va_runV (As := [.int f, .int 1]) (rest := []) ⟨hx, hb, hml, hown, hts⟩ (c_X12_asks l D dT H.size h fs tm f 1 hF) (cwV 2 hts (goodIn_app (goodIn_r _ [4, 5, 6, 3] rfl (by decide +kernel)) (goodIn_sub wq_X12_size_X12_asks gd_X12_asks)) rfl rfl rfl (by decide +kernel) ⟨Nat.le_of_ble_eq_true rfl, Nat.le_of_ble_eq_true rfl⟩) ⟨(fun a U g mk q => by obtain ⟨z0, z1, zP, zK, zD, zE⟩ := q; exact ⟨z0, z1, zP, va_K.moved (u := U) (U := U.calling g mk a) (Vm.Alike.refl U.vm) zK, zD, EN.frame zE⟩), va_recv hK hP (ci := 13) (q0 := 0) rfl rfl, fun U hU hW => ⟨rfl, by rw [hU], by rw [hU]; exact hPc, va_K.moved hW.alike hK, hDc.weaken (fun _ _ _ _ => trivial), EN.call hE hS hFc hW hU⟩⟩ rfl rfl hl.1 rfl (lv_room (Nat.le_of_ble_eq_true rfl)) dX12_size_6 ⟨(Nat.le_of_ble_eq_true rfl), (Nat.le_of_ble_eq_true rfl)⟩) hS (fun q _ h => hFc q h) hFc (fun r_10 u_11 t H1 locs ht hvm hw hB hz1 hk1 hS => ?_)
    obtain ⟨-, hP1, hK1, hD1⟩ := hB
    rw [ht] at hP1
    obtain ⟨hP, hD⟩ := va_join (wr := []) (w1 := [(h, .inr (13, (List.set fs 25 (.int 1))))]) hP hD [0] [] rfl rfl (by decide) (by decide) hk1 hFc hP1 hD1
    generalize H1 = H at hP hS ⊢
    have hP : va_P D vwCl [(h, .inr (13, (List.set fs 25 (.int 1))))] H := hP
    have hD : va_D A [(h, .inr (13, (List.set fs 25 (.int 1))))] := hD
    refine W.widen (k := 0) (n := 0) (Nat.le_of_ble_eq_true rfl) (Nat.le_of_ble_eq_true rfl) ?_
    have hw_12 := hw
    try dsimp only at hw_12
    obtain rfl : r_10 = 0 := hw_12
    refine lv_if_eq (tgt := 22) hx hb dX12_size_9 (by decide) (fun _ => ?_) (fun c_13 => absurd (by decide) c_13)
    refine lv_iconst (v := 0) hx hb dX12_size_22 (by decide) ?_
    refine lv_goto (tgt := 37) hx hb dX12_size_23 (by decide) ?_
    have hP9 := hP.sub (ws' := [(h, .inr (13, (List.set fs 25 (.int 1))))]) [0] rfl
    have hD9 := hD.sub (ws' := [(h, .inr (13, (List.set fs 25 (.int 1))))]) [0] (by decide) rfl
    exact W.iret (v := 0) hx hb hr (fun t ht hW => ⟨⟨_, (), rfl, rfl, (List.set fs 25 (.int 1)), (ls_self (FM.len hF) (Nat.le_of_ble_eq_true rfl)), by rw [ht]; exact hP9, va_K.moved hW.alike hK, hD9⟩, hS.F ht⟩) hS.2.2 dX12_size_37

def wD_X12_run : List Cond := [.methodLink RX12 330 yX12_isNode, .instanceMethod yX12_isNode, .selects RX12 yX12_isNode yX12_isNode, .initialized RX12, .methodLink RX12 298 yX12_goes, .instanceMethod yX12_goes, .selects RX12 yX12_goes yX12_goes]
def wK_X12_run : List Cond := .code yX12_run cX12_run 5 (some .int) :: (wD_X12_run ++ (wK_X12_isNode ++ (wK_X12_goes_f ++ ([] : List Cond))))
theorem wd_X12_run : ∀ w ∈ wD_X12_run, w ∈ wK_X12_run := fun w h => List.mem_cons_of_mem _ (List.mem_append_left _ h)
theorem gd_X12_run : (wK_X12_run).all goodWord = true := by decide +kernel
theorem wq_X12_run_X12_isNode : ∀ w ∈ wK_X12_isNode, w ∈ wK_X12_run := fun w h => List.mem_cons_of_mem _ (List.mem_append_right _ (List.mem_append_left _ h))
theorem wq_X12_run_X12_goes_f : ∀ w ∈ wK_X12_goes_f, w ∈ wK_X12_run := fun w h => List.mem_cons_of_mem _ (List.mem_append_right _ (List.mem_append_right _ (List.mem_append_left _ h)))
set_option maxHeartbeats 4000000 in
set_option maxRecDepth 100000 in
/-- run on a fresh reference -/
theorem c_X12_run (l : Launch) (D : va_G) (dT : Nat → ClassId) (sz : Nat) (h : Nat) (fs : List Value) (tm : Nat → Nat) (f : Int32) (hF : FM fs tm) : Met l yX12_run wK_X12_run ({ frames := 2, cells := 0, slots := 0, locals := 43 }) (va_Pc [.ref h, .int f] (fun U => U.heap.size = sz ∧ va_P D vwCl [(h, .inr (13, fs))] U.heap ∧ va_K D vwCl (tysW dT) U ∧ va_D (fun _ => True) [(h, .inr (13, fs))] ∧ EN (va_A [(h, .inr (13, fs))] sz) U)) (va_Qi (fun (r : Int32) (_u : Unit) => r = 0) (fun (_u : Unit) t => ∃ (fs2 : List Value), fs2[25]? = some (.int 1) ∧ va_P D vwCl [(h, .inr (13, fs2))] t.heap ∧ va_K D vwCl (tysW dT) t ∧ va_D (va_A [(h, .inr (13, fs))] sz) [(h, .inr (13, fs2))]) (va_A [(h, .inr (13, fs))] sz)) 0 0 (va_A [(h, .inr (13, fs))] sz) := by
  refine Met.ofW (cc := cX12_run) (maxL := 5) (ret := (some .int)) (by decide) rfl ?_
  intro p e s m args below meth c s₁ B hml hv
  obtain ⟨rfl, hsz, hP, hK, hD0, hE⟩ := hv
  have hx := B.exec
  have hb := B.bytes
  have hr := B.returns
  have hts := atoms_spec (ws := wK_X12_run) B.pre
  have hown : s.vm.findClass RX12 = some m.cls := findClass_of_methodNamed B.named
  have hlocks := B.notSynchronized
  subst hsz
  have hD := hD0.self (sz := s.heap.size)
  generalize hAe : va_A [(h, .inr (13, fs))] s.heap.size = A at hD hE ⊢
  have hA : ∀ q : Nat, s.heap.size ≤ q → A q := fun q h => by rw [← hAe]; exact Or.inr h
  have hS : va_S A s.heap s.heap [] := va_S.rf
  have hP : va_P D vwCl [(h, .inr (13, fs))] s.heap := hP
  have hl := lv_entry ([.ref h, .int f]) (n := 5) (Nat.le_of_ble_eq_true rfl)
  rw [lg_entry_eq]
  generalize (lg_sl ([.ref h, .int f]) ++ List.replicate (5 - (lg_sl ([.ref h, .int f])).length) Slot.unset).toArray = ls at hl ⊢
  have hl : lv_has ls 5 [(0, .ref h), (1, .int f)] := hl
  refine lv_aload_n hx hb dX12_run_0 rfl (lv_at hl 0 rfl) ?_
  refine lv_aload_n hx hb dX12_run_1 rfl (lv_at hl 0 rfl) ?_
  refine lv_iload_n hx hb dX12_run_2 rfl (lv_at hl 1 rfl) ?_
  have hPc := hP.sub (ws' := [(h, .inr (13, fs))]) [0] rfl
  have hDc := hD.sub (ws' := [(h, .inr (13, fs))]) [0] (by decide) rfl
  have hFc := va_free (wc := [(h, .inr (13, fs))]) hD hS hA [0] rfl
  refine va_calli (va_runV (As := [.int f]) (rest := [.ref h]) ⟨hx, hb, hml, hown, hts⟩ (c_X12_isNode l D dT s.heap.size h fs tm f hF) (cwV 1 hts (goodIn_app (goodIn_r _ [1, 2, 3, 4] rfl (by decide +kernel)) (goodIn_sub wq_X12_run_X12_isNode gd_X12_isNode)) rfl rfl rfl (by decide +kernel) ⟨Nat.le_of_ble_eq_true rfl, Nat.le_of_ble_eq_true rfl⟩) ⟨(fun a U g mk q => by obtain ⟨z0, z1, zP, zK, zD, zE⟩ := q; exact ⟨z0, z1, zP, va_K.moved (u := U) (U := U.calling g mk a) (Vm.Alike.refl U.vm) zK, zD, EN.frame zE⟩), va_recv hK hP (ci := 13) (q0 := 0) rfl rfl, fun U hU hW => ⟨rfl, by rw [hU], by rw [hU]; exact hPc, va_K.moved hW.alike hK, hDc.weaken (fun _ _ _ _ => trivial), EN.call hE hS hFc hW hU⟩⟩ rfl rfl hl.1 rfl (lv_room (Nat.le_of_ble_eq_true rfl)) dX12_run_3 ⟨(Nat.le_of_ble_eq_true rfl), (Nat.le_of_ble_eq_true rfl)⟩) hS (fun q _ h => hFc q h) hFc (fun r_1 u_2 t H1 locs ht hvm hw hB hz1 hk1 hS => ?_)
  obtain ⟨-, hP1, hK1, hD1⟩ := hB
  rw [ht] at hP1
  obtain ⟨hP, hD⟩ := va_join (wr := []) (w1 := [(h, .inr (13, fs))]) hP hD [0] [] rfl rfl (by decide) (by decide) hk1 hFc hP1 hD1
  generalize H1 = H at hP hS ⊢
  have hP : va_P D vwCl [(h, .inr (13, fs))] H := hP
  have hD : va_D A [(h, .inr (13, fs))] := hD
  refine W.widen (k := 0) (n := 0) (Nat.le_of_ble_eq_true rfl) (Nat.le_of_ble_eq_true rfl) ?_
  have hw_3 := hw
  try dsimp only at hw_3
  obtain rfl : r_1 = 0 := hw_3
  refine lv_iconst (v := 1) hx hb dX12_run_6 (by decide) ?_
  refine lv_iconst (v := 1) hx hb dX12_run_7 (by decide) ?_
  have hPc := hP.sub (ws' := [(h, .inr (13, fs))]) [0] rfl
  have hDc := hD.sub (ws' := [(h, .inr (13, fs))]) [0] (by decide) rfl
  have hFc := va_free (wc := [(h, .inr (13, fs))]) hD hS hA [0] rfl
  refine va_calli (va_runV (As := [.int 0, .int 1, .int 1]) (rest := []) ⟨hx, hb, hml, hown, hts⟩ (c_X12_goes_f l D dT H.size h fs 1 1 (FM.len hF)) (cwV 3 hts (goodIn_app (goodIn_r _ [5, 6, 7, 4] rfl (by decide +kernel)) (goodIn_sub wq_X12_run_X12_goes_f gd_X12_goes_f)) rfl rfl rfl (by decide +kernel) ⟨Nat.le_of_ble_eq_true rfl, Nat.le_of_ble_eq_true rfl⟩) ⟨(fun a U g mk q => by obtain ⟨z0, z1, zP, zK, zD, zE⟩ := q; exact ⟨z0, z1, zP, va_K.moved (u := U) (U := U.calling g mk a) (Vm.Alike.refl U.vm) zK, zD, EN.frame zE⟩), va_recv hK hP (ci := 13) (q0 := 0) rfl rfl, fun U hU hW => ⟨rfl, by rw [hU], by rw [hU]; exact hPc, va_K.moved hW.alike hK, hDc.weaken (fun _ _ _ _ => trivial), EN.call hE hS hFc hW hU⟩⟩ rfl rfl hl.1 rfl (lv_room (Nat.le_of_ble_eq_true rfl)) dX12_run_8 ⟨(Nat.le_of_ble_eq_true rfl), (Nat.le_of_ble_eq_true rfl)⟩) hS (fun q _ h => hFc q h) hFc (fun r_4 u_5 t H1 locs ht hvm hw hB hz1 hk1 hS => ?_)
  obtain ⟨-, hP1, hK1, hD1⟩ := hB
  rw [ht] at hP1
  obtain ⟨hP, hD⟩ := va_join (wr := []) (w1 := [(h, .inr (13, (List.set fs 25 (.int 1))))]) hP hD [0] [] rfl rfl (by decide) (by decide) hk1 hFc hP1 hD1
  generalize H1 = H at hP hS ⊢
  have hP : va_P D vwCl [(h, .inr (13, (List.set fs 25 (.int 1))))] H := hP
  have hD : va_D A [(h, .inr (13, (List.set fs 25 (.int 1))))] := hD
  refine W.widen (k := 0) (n := 0) (Nat.le_of_ble_eq_true rfl) (Nat.le_of_ble_eq_true rfl) ?_
  have hw_6 := hw
  try dsimp only at hw_6
  obtain rfl : r_4 = 0 := hw_6
  refine lv_if_ne (tgt := 16) hx hb dX12_run_11 (by decide) (fun c_7 => absurd (by decide) c_7) (fun _ => ?_)
  refine lv_iconst (v := 0) hx hb dX12_run_14 (by decide) ?_
  have hP9 := hP.sub (ws' := [(h, .inr (13, (List.set fs 25 (.int 1))))]) [0] rfl
  have hD9 := hD.sub (ws' := [(h, .inr (13, (List.set fs 25 (.int 1))))]) [0] (by decide) rfl
  exact W.iret (v := 0) hx hb hr (fun t ht hW => ⟨⟨_, (), rfl, rfl, (List.set fs 25 (.int 1)), (ls_self (FM.len hF) (Nat.le_of_ble_eq_true rfl)), by rw [ht]; exact hP9, va_K.moved hW.alike hK, hD9⟩, hS.F ht⟩) hS.2.2 dX12_run_15

def wD_X12_result : List Cond := [.methodLink RX12 302 yX12_isValue, .static yX12_isValue, .initialized RX12, .methodLink RX12 298 yX12_goes, .instanceMethod yX12_goes, .selects RX12 yX12_goes yX12_goes, .fieldLink RX12 591 "MixinUnitsModel" "hasRun" "Z"]
def wK_X12_result : List Cond := .code yX12_result cX12_result 8 (some .int) :: (wD_X12_result ++ (wK_X12_isValue ++ (wK_X12_goes_f ++ (wsX120 ++ (wK_X12_goes_s ++ ([] : List Cond))))))
theorem wd_X12_result : ∀ w ∈ wD_X12_result, w ∈ wK_X12_result := fun w h => List.mem_cons_of_mem _ (List.mem_append_left _ h)
theorem gd_X12_result : (wK_X12_result).all goodWord = true := by decide +kernel
theorem wq_X12_result_X12_isValue : ∀ w ∈ wK_X12_isValue, w ∈ wK_X12_result := fun w h => List.mem_cons_of_mem _ (List.mem_append_right _ (List.mem_append_left _ h))
theorem wq_X12_result_X12_goes_f : ∀ w ∈ wK_X12_goes_f, w ∈ wK_X12_result := fun w h => List.mem_cons_of_mem _ (List.mem_append_right _ (List.mem_append_right _ (List.mem_append_left _ h)))
theorem wc_X12_result_X12 : ∀ w ∈ wsX120, w ∈ wK_X12_result := fun w h => List.mem_cons_of_mem _ (List.mem_append_right _ (List.mem_append_right _ (List.mem_append_right _ (List.mem_append_left _ h))))
theorem wq_X12_result_X12_goes_s : ∀ w ∈ wK_X12_goes_s, w ∈ wK_X12_result := fun w h => List.mem_cons_of_mem _ (List.mem_append_right _ (List.mem_append_right _ (List.mem_append_right _ (List.mem_append_right _ (List.mem_append_left _ h)))))
set_option maxHeartbeats 4000000 in
set_option maxRecDepth 100000 in
/-- result on a fresh reference -/
theorem c_X12_result (l : Launch) (D : va_G) (dT : Nat → ClassId) (sz : Nat) (h : Nat) (fs : List Value) (tm : Nat → Nat) (n : Int32) (o : Int32) (hF : FM fs tm) : Met l yX12_result wK_X12_result ({ frames := 2, cells := 0, slots := 0, locals := 42 }) (va_Pc [.ref h, .int n, .int o] (fun U => U.heap.size = sz ∧ va_P D vwCl [(h, .inr (13, fs))] U.heap ∧ va_K D vwCl (tysW dT) U ∧ va_D (fun _ => True) [(h, .inr (13, fs))] ∧ EN (va_A [(h, .inr (13, fs))] sz) U)) (va_Qi (fun (r : Int32) (_u : Unit) => r = 0) (fun (_u : Unit) t => ∃ (fs2 : List Value), fs2[25]? = some (.int (sp_res n)) ∧ va_P D vwCl [(h, .inr (13, fs2))] t.heap ∧ va_K D vwCl (tysW dT) t ∧ va_D (va_A [(h, .inr (13, fs))] sz) [(h, .inr (13, fs2))]) (va_A [(h, .inr (13, fs))] sz)) 0 0 (va_A [(h, .inr (13, fs))] sz) := by
  refine Met.ofW (cc := cX12_result) (maxL := 8) (ret := (some .int)) (by decide) rfl ?_
  intro p e s m args below meth c s₁ B hml hv
  obtain ⟨rfl, hsz, hP, hK, hD0, hE⟩ := hv
  have hx := B.exec
  have hb := B.bytes
  have hr := B.returns
  have hts := atoms_spec (ws := wK_X12_result) B.pre
  have hown : s.vm.findClass RX12 = some m.cls := findClass_of_methodNamed B.named
  have hlocks := B.notSynchronized
  subst hsz
  have hD := hD0.self (sz := s.heap.size)
  generalize hAe : va_A [(h, .inr (13, fs))] s.heap.size = A at hD hE ⊢
  have hA : ∀ q : Nat, s.heap.size ≤ q → A q := fun q h => by rw [← hAe]; exact Or.inr h
  have hS : va_S A s.heap s.heap [] := va_S.rf
  have hP : va_P D vwCl [(h, .inr (13, fs))] s.heap := hP
  have hl := lv_entry ([.ref h, .int n, .int o]) (n := 8) (Nat.le_of_ble_eq_true rfl)
  rw [lg_entry_eq]
  generalize (lg_sl ([.ref h, .int n, .int o]) ++ List.replicate (8 - (lg_sl ([.ref h, .int n, .int o])).length) Slot.unset).toArray = ls at hl ⊢
  have hl : lv_has ls 8 [(0, .ref h), (1, .int n), (2, .int o)] := hl
  refine lv_iload_n hx hb dX12_result_0 rfl (lv_at hl 1 rfl) ?_
  have hPc := hP.sub (ws' := []) [] rfl
  have hDc := hD.sub (ws' := []) [] (by decide) rfl
  have hFc := va_free (wc := []) hD hS hA [] rfl
  refine va_calli (va_runS (As := [.int n]) (rest := []) ⟨hx, hb, hml, hown, hts⟩ (c_X12_isValue l D dT s.heap.size n) (va_cwS 1 hts (goodIn_app (goodIn_r _ [1, 2, 3] rfl (by decide +kernel)) (goodIn_sub wq_X12_result_X12_isValue gd_X12_isValue)) rfl rfl rfl (by decide +kernel) ⟨Nat.le_of_ble_eq_true rfl, Nat.le_of_ble_eq_true rfl⟩) ⟨(fun a U g mk q => by obtain ⟨z0, z1, zP, zK, zD, zE⟩ := q; exact ⟨z0, z1, zP, va_K.moved (u := U) (U := U.calling g mk a) (Vm.Alike.refl U.vm) zK, zD, EN.frame zE⟩), fun U hU hW => ⟨rfl, by rw [hU], by rw [hU]; exact hPc, va_K.moved hW.alike hK, hDc.weaken (fun _ _ _ _ => trivial), EN.call hE hS hFc hW hU⟩⟩ rfl rfl hl.1 rfl (lv_room (Nat.le_of_ble_eq_true rfl)) dX12_result_1 ⟨(Nat.le_of_ble_eq_true rfl), (Nat.le_of_ble_eq_true rfl)⟩) hS (fun q _ h => hFc q h) hFc (fun r_1 u_2 t H1 locs ht hvm hw hB hz1 hk1 hS => ?_)
  obtain ⟨-, hP1, hK1, hD1⟩ := hB
  rw [ht] at hP1
  obtain ⟨hP, hD⟩ := va_join (wr := [(h, .inr (13, fs))]) (w1 := []) hP hD [] [0] rfl rfl (by decide) (by decide) hk1 hFc hP1 hD1
  generalize H1 = H at hP hS ⊢
  have hP : va_P D vwCl [(h, .inr (13, fs))] H := hP
  have hD : va_D A [(h, .inr (13, fs))] := hD
  refine W.widen (k := 0) (n := 0) (Nat.le_of_ble_eq_true rfl) (Nat.le_of_ble_eq_true rfl) ?_
  have hw_3 := hw
  try dsimp only at hw_3
  rcases hw_3 with ⟨hc_4, rfl⟩ | ⟨hc_5, rfl⟩
  · refine lv_if_eq (tgt := 39) hx hb dX12_result_4 (by decide) (fun _ => ?_) (fun c_6 => absurd (by decide) c_6)
    refine lv_iconst (v := 0) hx hb dX12_result_39 (by decide) ?_
    refine lv_istore_n (lv' := [(3, .int 0), (0, .ref h), (1, .int n), (2, .int o)]) hx hb dX12_result_40 rfl hl (by decide) rfl (fun ls hl => ?_)
    refine lv_aload_n hx hb dX12_result_41 rfl (lv_at hl 1 rfl) ?_
    refine lv_iload_n hx hb dX12_result_42 rfl (lv_at hl 2 rfl) ?_
    have hPc := hP.sub (ws' := []) [] rfl
    have hDc := hD.sub (ws' := []) [] (by decide) rfl
    have hFc := va_free (wc := []) hD hS hA [] rfl
    refine va_calli (va_runS (As := [.int n]) (rest := [.ref h]) ⟨hx, hb, hml, hown, hts⟩ (c_X12_isValue l D dT H.size n) (va_cwS 1 hts (goodIn_app (goodIn_r _ [1, 2, 3] rfl (by decide +kernel)) (goodIn_sub wq_X12_result_X12_isValue gd_X12_isValue)) rfl rfl rfl (by decide +kernel) ⟨Nat.le_of_ble_eq_true rfl, Nat.le_of_ble_eq_true rfl⟩) ⟨(fun a U g mk q => by obtain ⟨z0, z1, zP, zK, zD, zE⟩ := q; exact ⟨z0, z1, zP, va_K.moved (u := U) (U := U.calling g mk a) (Vm.Alike.refl U.vm) zK, zD, EN.frame zE⟩), fun U hU hW => ⟨rfl, by rw [hU], by rw [hU]; exact hPc, va_K.moved hW.alike hK, hDc.weaken (fun _ _ _ _ => trivial), EN.call hE hS hFc hW hU⟩⟩ rfl rfl hl.1 rfl (lv_room (Nat.le_of_ble_eq_true rfl)) dX12_result_43 ⟨(Nat.le_of_ble_eq_true rfl), (Nat.le_of_ble_eq_true rfl)⟩) hS (fun q _ h => hFc q h) hFc (fun r_7 u_8 t H1 locs ht hvm hw hB hz1 hk1 hS => ?_)
    obtain ⟨-, hP1, hK1, hD1⟩ := hB
    rw [ht] at hP1
    obtain ⟨hP, hD⟩ := va_join (wr := [(h, .inr (13, fs))]) (w1 := []) hP hD [] [0] rfl rfl (by decide) (by decide) hk1 hFc hP1 hD1
    generalize H1 = H at hP hS ⊢
    have hP : va_P D vwCl [(h, .inr (13, fs))] H := hP
    have hD : va_D A [(h, .inr (13, fs))] := hD
    refine W.widen (k := 0) (n := 0) (Nat.le_of_ble_eq_true rfl) (Nat.le_of_ble_eq_true rfl) ?_
    have hw_9 := hw
    try dsimp only at hw_9
    rcases hw_9 with ⟨hc_10, rfl⟩ | ⟨hc_11, rfl⟩
    · refine lv_iload_n hx hb dX12_result_46 rfl (lv_at hl 0 rfl) ?_
      refine lv_iload_n hx hb dX12_result_47 rfl (lv_at hl 0 rfl) ?_
      refine lv_if_eq (tgt := 87) hx hb dX12_result_48 (by decide) (fun _ => ?_) (fun c_12 => absurd (by decide) c_12)
      refine lv_iconst (v := 0) hx hb dX12_result_87 (by decide) ?_
      have hPc := hP.sub (ws' := [(h, .inr (13, fs))]) [0] rfl
      have hDc := hD.sub (ws' := [(h, .inr (13, fs))]) [0] (by decide) rfl
      have hFc := va_free (wc := [(h, .inr (13, fs))]) hD hS hA [0] rfl
      refine va_calli (va_runV (As := [.int 0, .int 0, .int 0]) (rest := []) ⟨hx, hb, hml, hown, hts⟩ (c_X12_goes_f l D dT H.size h fs 0 0 (FM.len hF)) (cwV 3 hts (goodIn_app (goodIn_r _ [4, 5, 6, 3] rfl (by decide +kernel)) (goodIn_sub wq_X12_result_X12_goes_f gd_X12_goes_f)) rfl rfl rfl (by decide +kernel) ⟨Nat.le_of_ble_eq_true rfl, Nat.le_of_ble_eq_true rfl⟩) ⟨(fun a U g mk q => by obtain ⟨z0, z1, zP, zK, zD, zE⟩ := q; exact ⟨z0, z1, zP, va_K.moved (u := U) (U := U.calling g mk a) (Vm.Alike.refl U.vm) zK, zD, EN.frame zE⟩), va_recv hK hP (ci := 13) (q0 := 0) rfl rfl, fun U hU hW => ⟨rfl, by rw [hU], by rw [hU]; exact hPc, va_K.moved hW.alike hK, hDc.weaken (fun _ _ _ _ => trivial), EN.call hE hS hFc hW hU⟩⟩ rfl rfl hl.1 rfl (lv_room (Nat.le_of_ble_eq_true rfl)) dX12_result_88 ⟨(Nat.le_of_ble_eq_true rfl), (Nat.le_of_ble_eq_true rfl)⟩) hS (fun q _ h => hFc q h) hFc (fun r_13 u_14 t H1 locs ht hvm hw hB hz1 hk1 hS => ?_)
      obtain ⟨-, hP1, hK1, hD1⟩ := hB
      rw [ht] at hP1
      obtain ⟨hP, hD⟩ := va_join (wr := []) (w1 := [(h, .inr (13, (List.set fs 25 (.int 1))))]) hP hD [0] [] rfl rfl (by decide) (by decide) hk1 hFc hP1 hD1
      generalize H1 = H at hP hS ⊢
      have hP : va_P D vwCl [(h, .inr (13, (List.set fs 25 (.int 1))))] H := hP
      have hD : va_D A [(h, .inr (13, (List.set fs 25 (.int 1))))] := hD
      refine W.widen (k := 0) (n := 0) (Nat.le_of_ble_eq_true rfl) (Nat.le_of_ble_eq_true rfl) ?_
      have hw_15 := hw
      try dsimp only at hw_15
      obtain rfl : r_13 = 0 := hw_15
      refine lv_if_ne (tgt := 96) hx hb dX12_result_91 (by decide) (fun c_16 => absurd (by decide) c_16) (fun _ => ?_)
      refine lv_iconst (v := 0) hx hb dX12_result_94 (by decide) ?_
      have hP9 := hP.sub (ws' := [(h, .inr (13, (List.set fs 25 (.int 1))))]) [0] rfl
      have hD9 := hD.sub (ws' := [(h, .inr (13, (List.set fs 25 (.int 1))))]) [0] (by decide) rfl
      exact W.iret (v := 0) hx hb hr (fun t ht hW => ⟨⟨_, (), rfl, rfl, (List.set fs 25 (.int 1)), (by rw [show sp_res n = 1 from (sp_res_a (by simp only [Int32.lt_iff_toInt_lt, Int32.le_iff_toInt_le, i32_eq, ne_eq, gt_iff_lt, ge_iff_le, i32_0, i32_1, i32_2, i32_3, i32_4, i32_5, i32_6, i32_7, i32_9, i32_10, i32_m1] at hc_4 hc_10 ⊢ <;> omega))]; exact (ls_self (FM.len hF) (Nat.le_of_ble_eq_true rfl))), by rw [ht]; exact hP9, va_K.moved hW.alike hK, hD9⟩, hS.F ht⟩) hS.2.2 dX12_result_95
    · exfalso; simp only [Int32.lt_iff_toInt_lt, Int32.le_iff_toInt_le, i32_eq, ne_eq, gt_iff_lt, ge_iff_le, i32_0, i32_1, i32_2, i32_3, i32_4, i32_5, i32_6, i32_7, i32_9, i32_10, i32_m1] at hc_4 hc_11 ⊢ <;> omega
  · refine lv_if_eq (tgt := 39) hx hb dX12_result_4 (by decide) (fun c_17 => absurd c_17 (by decide)) (fun _ => ?_)
    refine lv_aload_n hx hb dX12_result_7 rfl (lv_at hl 0 rfl) ?_
    refine va_get (D := D) (ci := 13) (v := .int 0) (C := RX12) (T := TX12) (N := 109) hx hb hts wc_X12_result_X12 hown hK hP 0 rfl rfl 92 (by decide) (hts (.fieldLink RX12 591 "MixinUnitsModel" "hasRun" "Z") (wd_X12_result _ (List.mem_of_getElem? (i := 6) rfl))) (fun _ h9 => h9) (FM.at hF (j := 4) (q := (92, .int 0)) rfl) dX12_result_8 ?_
    refine lv_if_eq (tgt := 39) hx hb dX12_result_11 (by decide) (fun _ => ?_) (fun c_18 => absurd (by decide) c_18)
    refine lv_iconst (v := 0) hx hb dX12_result_39 (by decide) ?_
    refine lv_istore_n (lv' := [(3, .int 0), (0, .ref h), (1, .int n), (2, .int o)]) hx hb dX12_result_40 rfl hl (by decide) rfl (fun ls hl => ?_)
    refine lv_aload_n hx hb dX12_result_41 rfl (lv_at hl 1 rfl) ?_
    refine lv_iload_n hx hb dX12_result_42 rfl (lv_at hl 2 rfl) ?_
    have hPc := hP.sub (ws' := []) [] rfl
    have hDc := hD.sub (ws' := []) [] (by decide) rfl
    have hFc := va_free (wc := []) hD hS hA [] rfl
    refine va_calli (va_runS (As := [.int n]) (rest := [.ref h]) ⟨hx, hb, hml, hown, hts⟩ (c_X12_isValue l D dT H.size n) (va_cwS 1 hts (goodIn_app (goodIn_r _ [1, 2, 3] rfl (by decide +kernel)) (goodIn_sub wq_X12_result_X12_isValue gd_X12_isValue)) rfl rfl rfl (by decide +kernel) ⟨Nat.le_of_ble_eq_true rfl, Nat.le_of_ble_eq_true rfl⟩) ⟨(fun a U g mk q => by obtain ⟨z0, z1, zP, zK, zD, zE⟩ := q; exact ⟨z0, z1, zP, va_K.moved (u := U) (U := U.calling g mk a) (Vm.Alike.refl U.vm) zK, zD, EN.frame zE⟩), fun U hU hW => ⟨rfl, by rw [hU], by rw [hU]; exact hPc, va_K.moved hW.alike hK, hDc.weaken (fun _ _ _ _ => trivial), EN.call hE hS hFc hW hU⟩⟩ rfl rfl hl.1 rfl (lv_room (Nat.le_of_ble_eq_true rfl)) dX12_result_43 ⟨(Nat.le_of_ble_eq_true rfl), (Nat.le_of_ble_eq_true rfl)⟩) hS (fun q _ h => hFc q h) hFc (fun r_19 u_20 t H1 locs ht hvm hw hB hz1 hk1 hS => ?_)
    obtain ⟨-, hP1, hK1, hD1⟩ := hB
    rw [ht] at hP1
    obtain ⟨hP, hD⟩ := va_join (wr := [(h, .inr (13, fs))]) (w1 := []) hP hD [] [0] rfl rfl (by decide) (by decide) hk1 hFc hP1 hD1
    generalize H1 = H at hP hS ⊢
    have hP : va_P D vwCl [(h, .inr (13, fs))] H := hP
    have hD : va_D A [(h, .inr (13, fs))] := hD
    refine W.widen (k := 0) (n := 0) (Nat.le_of_ble_eq_true rfl) (Nat.le_of_ble_eq_true rfl) ?_
    have hw_21 := hw
    try dsimp only at hw_21
    rcases hw_21 with ⟨hc_22, rfl⟩ | ⟨hc_23, rfl⟩
    · exfalso; simp only [Int32.lt_iff_toInt_lt, Int32.le_iff_toInt_le, i32_eq, ne_eq, gt_iff_lt, ge_iff_le, i32_0, i32_1, i32_2, i32_3, i32_4, i32_5, i32_6, i32_7, i32_9, i32_10, i32_m1] at hc_5 hc_22 ⊢ <;> omega
    · refine lv_iload_n hx hb dX12_result_46 rfl (lv_at hl 0 rfl) ?_
      refine lv_iload_n hx hb dX12_result_47 rfl (lv_at hl 0 rfl) ?_
      refine lv_if_eq (tgt := 87) hx hb dX12_result_48 (by decide) (fun _ => ?_) (fun c_24 => absurd (by decide) c_24)
      refine lv_iconst (v := 0) hx hb dX12_result_87 (by decide) ?_
      have hPc := hP.sub (ws' := [(h, .inr (13, fs))]) [0] rfl
      have hDc := hD.sub (ws' := [(h, .inr (13, fs))]) [0] (by decide) rfl
      have hFc := va_free (wc := [(h, .inr (13, fs))]) hD hS hA [0] rfl
      refine va_calli (va_runV (As := [.int 1, .int 0, .int 0]) (rest := []) ⟨hx, hb, hml, hown, hts⟩ (c_X12_goes_s l D dT H.size h fs 0 (FM.len hF)) (cwV 3 hts (goodIn_app (goodIn_r _ [4, 5, 6, 3] rfl (by decide +kernel)) (goodIn_sub wq_X12_result_X12_goes_s gd_X12_goes_s)) rfl rfl rfl (by decide +kernel) ⟨Nat.le_of_ble_eq_true rfl, Nat.le_of_ble_eq_true rfl⟩) ⟨(fun a U g mk q => by obtain ⟨z0, z1, zP, zK, zD, zE⟩ := q; exact ⟨z0, z1, zP, va_K.moved (u := U) (U := U.calling g mk a) (Vm.Alike.refl U.vm) zK, zD, EN.frame zE⟩), va_recv hK hP (ci := 13) (q0 := 0) rfl rfl, fun U hU hW => ⟨rfl, by rw [hU], by rw [hU]; exact hPc, va_K.moved hW.alike hK, hDc.weaken (fun _ _ _ _ => trivial), EN.call hE hS hFc hW hU⟩⟩ rfl rfl hl.1 rfl (lv_room (Nat.le_of_ble_eq_true rfl)) dX12_result_88 ⟨(Nat.le_of_ble_eq_true rfl), (Nat.le_of_ble_eq_true rfl)⟩) hS (fun q _ h => hFc q h) hFc (fun r_25 u_26 t H1 locs ht hvm hw hB hz1 hk1 hS => ?_)
      obtain ⟨-, hP1, hK1, hD1⟩ := hB
      rw [ht] at hP1
      obtain ⟨hP, hD⟩ := va_join (wr := []) (w1 := [(h, .inr (13, (List.set fs 25 (.int 2))))]) hP hD [0] [] rfl rfl (by decide) (by decide) hk1 hFc hP1 hD1
      generalize H1 = H at hP hS ⊢
      have hP : va_P D vwCl [(h, .inr (13, (List.set fs 25 (.int 2))))] H := hP
      have hD : va_D A [(h, .inr (13, (List.set fs 25 (.int 2))))] := hD
      refine W.widen (k := 0) (n := 0) (Nat.le_of_ble_eq_true rfl) (Nat.le_of_ble_eq_true rfl) ?_
      have hw_27 := hw
      try dsimp only at hw_27
      obtain rfl : r_25 = 0 := hw_27
      refine lv_if_ne (tgt := 96) hx hb dX12_result_91 (by decide) (fun c_28 => absurd (by decide) c_28) (fun _ => ?_)
      refine lv_iconst (v := 0) hx hb dX12_result_94 (by decide) ?_
      have hP9 := hP.sub (ws' := [(h, .inr (13, (List.set fs 25 (.int 2))))]) [0] rfl
      have hD9 := hD.sub (ws' := [(h, .inr (13, (List.set fs 25 (.int 2))))]) [0] (by decide) rfl
      exact W.iret (v := 0) hx hb hr (fun t ht hW => ⟨⟨_, (), rfl, rfl, (List.set fs 25 (.int 2)), (by rw [show sp_res n = 2 from (sp_res_b (by simp only [Int32.lt_iff_toInt_lt, Int32.le_iff_toInt_le, i32_eq, ne_eq, gt_iff_lt, ge_iff_le, i32_0, i32_1, i32_2, i32_3, i32_4, i32_5, i32_6, i32_7, i32_9, i32_10, i32_m1] at hc_5 hc_23 ⊢ <;> omega))]; exact (ls_self (FM.len hF) (Nat.le_of_ble_eq_true rfl))), by rw [ht]; exact hP9, va_K.moved hW.alike hK, hD9⟩, hS.F ht⟩) hS.2.2 dX12_result_95

def wD_X12_logged : List Cond := [.fieldLink RX12 595 "MixinUnitsModel" "lastLogs" "I", .methodLink RX12 604 yX12_tells, .instanceMethod yX12_tells, .selects RX12 yX12_tells yX12_tells, .initialized RX12]
def wK_X12_logged : List Cond := .code yX12_logged cX12_logged 1 (some .int) :: (wD_X12_logged ++ (wsX120 ++ (wK_X12_tells ++ ([] : List Cond))))
theorem wd_X12_logged : ∀ w ∈ wD_X12_logged, w ∈ wK_X12_logged := fun w h => List.mem_cons_of_mem _ (List.mem_append_left _ h)
theorem gd_X12_logged : (wK_X12_logged).all goodWord = true := by decide +kernel
theorem wc_X12_logged_X12 : ∀ w ∈ wsX120, w ∈ wK_X12_logged := fun w h => List.mem_cons_of_mem _ (List.mem_append_right _ (List.mem_append_left _ h))
theorem wq_X12_logged_X12_tells : ∀ w ∈ wK_X12_tells, w ∈ wK_X12_logged := fun w h => List.mem_cons_of_mem _ (List.mem_append_right _ (List.mem_append_right _ (List.mem_append_left _ h)))
set_option maxHeartbeats 4000000 in
set_option maxRecDepth 100000 in
/-- logged on a fresh reference -/
theorem c_X12_logged (l : Launch) (D : va_G) (dT : Nat → ClassId) (sz : Nat) (h : Nat) (fs : List Value) (tm : Nat → Nat) (hF : FM fs tm) : Met l yX12_logged wK_X12_logged ({ frames := 1, cells := 0, slots := 0, locals := 21 }) (va_Pc [.ref h] (fun U => U.heap.size = sz ∧ va_P D vwCl [(h, .inr (13, fs))] U.heap ∧ va_K D vwCl (tysW dT) U ∧ va_D (fun _ => True) [(h, .inr (13, fs))] ∧ EN (va_A [(h, .inr (13, fs))] sz) U)) (va_Qi (fun (r : Int32) (_u : Unit) => r = 0) (fun (_u : Unit) t => ∃ (fs2 : List Value), fs2[25]? = some (.int 0) ∧ va_P D vwCl [(h, .inr (13, fs2))] t.heap ∧ va_K D vwCl (tysW dT) t ∧ va_D (va_A [(h, .inr (13, fs))] sz) [(h, .inr (13, fs2))]) (va_A [(h, .inr (13, fs))] sz)) 0 0 (va_A [(h, .inr (13, fs))] sz) := by
  refine Met.ofW (cc := cX12_logged) (maxL := 1) (ret := (some .int)) (by decide) rfl ?_
  intro p e s m args below meth c s₁ B hml hv
  obtain ⟨rfl, hsz, hP, hK, hD0, hE⟩ := hv
  have hx := B.exec
  have hb := B.bytes
  have hr := B.returns
  have hts := atoms_spec (ws := wK_X12_logged) B.pre
  have hown : s.vm.findClass RX12 = some m.cls := findClass_of_methodNamed B.named
  have hlocks := B.notSynchronized
  subst hsz
  have hD := hD0.self (sz := s.heap.size)
  generalize hAe : va_A [(h, .inr (13, fs))] s.heap.size = A at hD hE ⊢
  have hA : ∀ q : Nat, s.heap.size ≤ q → A q := fun q h => by rw [← hAe]; exact Or.inr h
  have hS : va_S A s.heap s.heap [] := va_S.rf
  have hP : va_P D vwCl [(h, .inr (13, fs))] s.heap := hP
  have hl := lv_entry ([.ref h]) (n := 1) (Nat.le_of_ble_eq_true rfl)
  rw [lg_entry_eq]
  generalize (lg_sl ([.ref h]) ++ List.replicate (1 - (lg_sl ([.ref h])).length) Slot.unset).toArray = ls at hl ⊢
  have hl : lv_has ls 1 [(0, .ref h)] := hl
  refine lv_aload_n hx hb dX12_logged_0 rfl (lv_at hl 0 rfl) ?_
  refine lv_aload_n hx hb dX12_logged_1 rfl (lv_at hl 0 rfl) ?_
  refine va_get (D := D) (ci := 13) (v := .int 0) (C := RX12) (T := TX12) (N := 109) hx hb hts wc_X12_logged_X12 hown hK hP 0 rfl rfl 98 (by decide) (hts (.fieldLink RX12 595 "MixinUnitsModel" "lastLogs" "I") (wd_X12_logged _ (List.mem_of_getElem? (i := 0) rfl))) (fun _ h9 => h9) (FM.at hF (j := 5) (q := (98, .int 0)) rfl) dX12_logged_2 ?_
  have hPc := hP.sub (ws' := [(h, .inr (13, fs))]) [0] rfl
  have hDc := hD.sub (ws' := [(h, .inr (13, fs))]) [0] (by decide) rfl
  have hFc := va_free (wc := [(h, .inr (13, fs))]) hD hS hA [0] rfl
  refine va_calli (va_runV (As := [.int 0]) (rest := []) ⟨hx, hb, hml, hown, hts⟩ (c_X12_tells l D dT s.heap.size h fs 0 (FM.len hF)) (cwV 1 hts (goodIn_app (goodIn_r _ [2, 3, 4, 5] rfl (by decide +kernel)) (goodIn_sub wq_X12_logged_X12_tells gd_X12_tells)) rfl rfl rfl (by decide +kernel) ⟨Nat.le_of_ble_eq_true rfl, Nat.le_of_ble_eq_true rfl⟩) ⟨(fun a U g mk q => by obtain ⟨z0, z1, zP, zK, zD, zE⟩ := q; exact ⟨z0, z1, zP, va_K.moved (u := U) (U := U.calling g mk a) (Vm.Alike.refl U.vm) zK, zD, EN.frame zE⟩), va_recv hK hP (ci := 13) (q0 := 0) rfl rfl, fun U hU hW => ⟨rfl, by rw [hU], by rw [hU]; exact hPc, va_K.moved hW.alike hK, hDc.weaken (fun _ _ _ _ => trivial), EN.call hE hS hFc hW hU⟩⟩ rfl rfl hl.1 rfl (lv_room (Nat.le_of_ble_eq_true rfl)) dX12_logged_5 ⟨(Nat.le_of_ble_eq_true rfl), (Nat.le_of_ble_eq_true rfl)⟩) hS (fun q _ h => hFc q h) hFc (fun r_1 u_2 t H1 locs ht hvm hw hB hz1 hk1 hS => ?_)
  obtain ⟨-, hP1, hK1, hD1⟩ := hB
  rw [ht] at hP1
  obtain ⟨hP, hD⟩ := va_join (wr := []) (w1 := [(h, .inr (13, (List.set fs 25 (.int 0))))]) hP hD [0] [] rfl rfl (by decide) (by decide) hk1 hFc hP1 hD1
  generalize H1 = H at hP hS ⊢
  have hP : va_P D vwCl [(h, .inr (13, (List.set fs 25 (.int 0))))] H := hP
  have hD : va_D A [(h, .inr (13, (List.set fs 25 (.int 0))))] := hD
  refine W.widen (k := 0) (n := 0) (Nat.le_of_ble_eq_true rfl) (Nat.le_of_ble_eq_true rfl) ?_
  have hw_3 := hw
  try dsimp only at hw_3
  obtain rfl : r_1 = 0 := hw_3
  have hP9 := hP.sub (ws' := [(h, .inr (13, (List.set fs 25 (.int 0))))]) [0] rfl
  have hD9 := hD.sub (ws' := [(h, .inr (13, (List.set fs 25 (.int 0))))]) [0] (by decide) rfl
  exact W.iret (v := 0) hx hb hr (fun t ht hW => ⟨⟨_, (), rfl, rfl, (List.set fs 25 (.int 0)), (ls_self (FM.len hF) (Nat.le_of_ble_eq_true rfl)), by rw [ht]; exact hP9, va_K.moved hW.alike hK, hD9⟩, hS.F ht⟩) hS.2.2 dX12_logged_8

def wD_X12_log : List Cond := [.fieldLink RX12 595 "MixinUnitsModel" "lastLogs" "I", .methodLink RX12 278 yX12_in, .static yX12_in, .initialized RX12, .methodLink RX12 298 yX12_goes, .instanceMethod yX12_goes, .selects RX12 yX12_goes yX12_goes]
def wK_X12_log : List Cond := .code yX12_log cX12_log 2 (some .int) :: (wD_X12_log ++ (wsX120 ++ (wK_X12_in ++ (wK_X12_goes_f ++ ([] : List Cond)))))
theorem wd_X12_log : ∀ w ∈ wD_X12_log, w ∈ wK_X12_log := fun w h => List.mem_cons_of_mem _ (List.mem_append_left _ h)
theorem gd_X12_log : (wK_X12_log).all goodWord = true := by decide +kernel
theorem wc_X12_log_X12 : ∀ w ∈ wsX120, w ∈ wK_X12_log := fun w h => List.mem_cons_of_mem _ (List.mem_append_right _ (List.mem_append_left _ h))
theorem wq_X12_log_X12_in : ∀ w ∈ wK_X12_in, w ∈ wK_X12_log := fun w h => List.mem_cons_of_mem _ (List.mem_append_right _ (List.mem_append_right _ (List.mem_append_left _ h)))
theorem wq_X12_log_X12_goes_f : ∀ w ∈ wK_X12_goes_f, w ∈ wK_X12_log := fun w h => List.mem_cons_of_mem _ (List.mem_append_right _ (List.mem_append_right _ (List.mem_append_right _ (List.mem_append_left _ h))))
set_option maxHeartbeats 4000000 in
set_option maxRecDepth 100000 in
/-- log on a fresh reference -/
theorem c_X12_log (l : Launch) (D : va_G) (dT : Nat → ClassId) (sz : Nat) (h : Nat) (fs : List Value) (tm : Nat → Nat) (n : Int32) (hF : FM fs tm) : Met l yX12_log wK_X12_log ({ frames := 1, cells := 0, slots := 0, locals := 23 }) (va_Pc [.ref h, .int n] (fun U => U.heap.size = sz ∧ va_P D vwCl [(h, .inr (13, fs))] U.heap ∧ va_K D vwCl (tysW dT) U ∧ va_D (fun _ => True) [(h, .inr (13, fs))] ∧ EN (va_A [(h, .inr (13, fs))] sz) U)) (va_Qi (fun (r : Int32) (_u : Unit) => r = 0) (fun (_u : Unit) t => ∃ (fs2 : List Value), fs2[25]? = some (.int 1) ∧ va_P D vwCl [(h, .inr (13, fs2))] t.heap ∧ va_K D vwCl (tysW dT) t ∧ va_D (va_A [(h, .inr (13, fs))] sz) [(h, .inr (13, fs2))]) (va_A [(h, .inr (13, fs))] sz)) 0 0 (va_A [(h, .inr (13, fs))] sz) := by
  refine Met.ofW (cc := cX12_log) (maxL := 2) (ret := (some .int)) (by decide) rfl ?_
  intro p e s m args below meth c s₁ B hml hv
  obtain ⟨rfl, hsz, hP, hK, hD0, hE⟩ := hv
  have hx := B.exec
  have hb := B.bytes
  have hr := B.returns
  have hts := atoms_spec (ws := wK_X12_log) B.pre
  have hown : s.vm.findClass RX12 = some m.cls := findClass_of_methodNamed B.named
  have hlocks := B.notSynchronized
  subst hsz
  have hD := hD0.self (sz := s.heap.size)
  generalize hAe : va_A [(h, .inr (13, fs))] s.heap.size = A at hD hE ⊢
  have hA : ∀ q : Nat, s.heap.size ≤ q → A q := fun q h => by rw [← hAe]; exact Or.inr h
  have hS : va_S A s.heap s.heap [] := va_S.rf
  have hP : va_P D vwCl [(h, .inr (13, fs))] s.heap := hP
  have hl := lv_entry ([.ref h, .int n]) (n := 2) (Nat.le_of_ble_eq_true rfl)
  rw [lg_entry_eq]
  generalize (lg_sl ([.ref h, .int n]) ++ List.replicate (2 - (lg_sl ([.ref h, .int n])).length) Slot.unset).toArray = ls at hl ⊢
  have hl : lv_has ls 2 [(0, .ref h), (1, .int n)] := hl
  refine lv_aload_n hx hb dX12_log_0 rfl (lv_at hl 0 rfl) ?_
  refine lv_iload_n hx hb dX12_log_1 rfl (lv_at hl 1 rfl) ?_
  refine lv_iconst (v := 0) hx hb dX12_log_2 (by decide) ?_
  refine lv_aload_n hx hb dX12_log_3 rfl (lv_at hl 0 rfl) ?_
  refine va_get (D := D) (ci := 13) (v := .int 0) (C := RX12) (T := TX12) (N := 109) hx hb hts wc_X12_log_X12 hown hK hP 0 rfl rfl 98 (by decide) (hts (.fieldLink RX12 595 "MixinUnitsModel" "lastLogs" "I") (wd_X12_log _ (List.mem_of_getElem? (i := 0) rfl))) (fun _ h9 => h9) (FM.at hF (j := 5) (q := (98, .int 0)) rfl) dX12_log_4 ?_
  refine lv_iconst (v := 1) hx hb dX12_log_7 (by decide) ?_
  refine lv_isub hx hb dX12_log_8 ?_
  refine lv_topi (fun x_1 ex_1 => ?_)
  obtain rfl : x_1 = (-1) := ex_1.trans (by decide)
  have hPc := hP.sub (ws' := []) [] rfl
  have hDc := hD.sub (ws' := []) [] (by decide) rfl
  have hFc := va_free (wc := []) hD hS hA [] rfl
  refine va_calli (va_runS (As := [.int n, .int 0, .int (-1)]) (rest := [.ref h]) ⟨hx, hb, hml, hown, hts⟩ (c_X12_in l D dT s.heap.size n 0 (-1)) (va_cwS 3 hts (goodIn_app (goodIn_r _ [2, 3, 4] rfl (by decide +kernel)) (goodIn_sub wq_X12_log_X12_in gd_X12_in)) rfl rfl rfl (by decide +kernel) ⟨Nat.le_of_ble_eq_true rfl, Nat.le_of_ble_eq_true rfl⟩) ⟨(fun a U g mk q => by obtain ⟨z0, z1, zP, zK, zD, zE⟩ := q; exact ⟨z0, z1, zP, va_K.moved (u := U) (U := U.calling g mk a) (Vm.Alike.refl U.vm) zK, zD, EN.frame zE⟩), fun U hU hW => ⟨rfl, by rw [hU], by rw [hU]; exact hPc, va_K.moved hW.alike hK, hDc.weaken (fun _ _ _ _ => trivial), EN.call hE hS hFc hW hU⟩⟩ rfl rfl hl.1 rfl (lv_room (Nat.le_of_ble_eq_true rfl)) dX12_log_9 ⟨(Nat.le_of_ble_eq_true rfl), (Nat.le_of_ble_eq_true rfl)⟩) hS (fun q _ h => hFc q h) hFc (fun r_2 u_3 t H1 locs ht hvm hw hB hz1 hk1 hS => ?_)
  obtain ⟨-, hP1, hK1, hD1⟩ := hB
  rw [ht] at hP1
  obtain ⟨hP, hD⟩ := va_join (wr := [(h, .inr (13, fs))]) (w1 := []) hP hD [] [0] rfl rfl (by decide) (by decide) hk1 hFc hP1 hD1
  generalize H1 = H at hP hS ⊢
  have hP : va_P D vwCl [(h, .inr (13, fs))] H := hP
  have hD : va_D A [(h, .inr (13, fs))] := hD
  refine W.widen (k := 0) (n := 0) (Nat.le_of_ble_eq_true rfl) (Nat.le_of_ble_eq_true rfl) ?_
  have hw_4 := hw
  try dsimp only at hw_4
  rcases hw_4 with ⟨hc_5, rfl⟩ | ⟨hc_6, rfl⟩
  · refine lv_iconst (v := 1) hx hb dX12_log_12 (by decide) ?_
    refine lv_iconst (v := 1) hx hb dX12_log_13 (by decide) ?_
    have hPc := hP.sub (ws' := [(h, .inr (13, fs))]) [0] rfl
    have hDc := hD.sub (ws' := [(h, .inr (13, fs))]) [0] (by decide) rfl
    have hFc := va_free (wc := [(h, .inr (13, fs))]) hD hS hA [0] rfl
    refine va_calli (va_runV (As := [.int 0, .int 1, .int 1]) (rest := []) ⟨hx, hb, hml, hown, hts⟩ (c_X12_goes_f l D dT H.size h fs 1 1 (FM.len hF)) (cwV 3 hts (goodIn_app (goodIn_r _ [5, 6, 7, 4] rfl (by decide +kernel)) (goodIn_sub wq_X12_log_X12_goes_f gd_X12_goes_f)) rfl rfl rfl (by decide +kernel) ⟨Nat.le_of_ble_eq_true rfl, Nat.le_of_ble_eq_true rfl⟩) ⟨(fun a U g mk q => by obtain ⟨z0, z1, zP, zK, zD, zE⟩ := q; exact ⟨z0, z1, zP, va_K.moved (u := U) (U := U.calling g mk a) (Vm.Alike.refl U.vm) zK, zD, EN.frame zE⟩), va_recv hK hP (ci := 13) (q0 := 0) rfl rfl, fun U hU hW => ⟨rfl, by rw [hU], by rw [hU]; exact hPc, va_K.moved hW.alike hK, hDc.weaken (fun _ _ _ _ => trivial), EN.call hE hS hFc hW hU⟩⟩ rfl rfl hl.1 rfl (lv_room (Nat.le_of_ble_eq_true rfl)) dX12_log_14 ⟨(Nat.le_of_ble_eq_true rfl), (Nat.le_of_ble_eq_true rfl)⟩) hS (fun q _ h => hFc q h) hFc (fun r_7 u_8 t H1 locs ht hvm hw hB hz1 hk1 hS => ?_)
    obtain ⟨-, hP1, hK1, hD1⟩ := hB
    rw [ht] at hP1
    obtain ⟨hP, hD⟩ := va_join (wr := []) (w1 := [(h, .inr (13, (List.set fs 25 (.int 1))))]) hP hD [0] [] rfl rfl (by decide) (by decide) hk1 hFc hP1 hD1
    generalize H1 = H at hP hS ⊢
    have hP : va_P D vwCl [(h, .inr (13, (List.set fs 25 (.int 1))))] H := hP
    have hD : va_D A [(h, .inr (13, (List.set fs 25 (.int 1))))] := hD
    refine W.widen (k := 0) (n := 0) (Nat.le_of_ble_eq_true rfl) (Nat.le_of_ble_eq_true rfl) ?_
    have hw_9 := hw
    try dsimp only at hw_9
    obtain rfl : r_7 = 0 := hw_9
    refine lv_if_eq (tgt := 29) hx hb dX12_log_17 (by decide) (fun _ => ?_) (fun c_10 => absurd (by decide) c_10)
    refine lv_iconst (v := 0) hx hb dX12_log_29 (by decide) ?_
    have hP9 := hP.sub (ws' := [(h, .inr (13, (List.set fs 25 (.int 1))))]) [0] rfl
    have hD9 := hD.sub (ws' := [(h, .inr (13, (List.set fs 25 (.int 1))))]) [0] (by decide) rfl
    exact W.iret (v := 0) hx hb hr (fun t ht hW => ⟨⟨_, (), rfl, rfl, (List.set fs 25 (.int 1)), (ls_self (FM.len hF) (Nat.le_of_ble_eq_true rfl)), by rw [ht]; exact hP9, va_K.moved hW.alike hK, hD9⟩, hS.F ht⟩) hS.2.2 dX12_log_30
  · exfalso; simp only [Int32.lt_iff_toInt_lt, Int32.le_iff_toInt_le, i32_eq, ne_eq, gt_iff_lt, ge_iff_le, i32_0, i32_1, i32_2, i32_3, i32_4, i32_5, i32_6, i32_7, i32_9, i32_10, i32_m1] at hc_6 ⊢ <;> omega

def wD_X12_total : List Cond := [.fieldLink RX12 598 "MixinUnitsModel" "lastCells" "I", .methodLink RX12 604 yX12_tells, .instanceMethod yX12_tells, .selects RX12 yX12_tells yX12_tells, .initialized RX12]
def wK_X12_total : List Cond := .code yX12_total cX12_total 1 (some .int) :: (wD_X12_total ++ (wsX120 ++ (wK_X12_tells ++ ([] : List Cond))))
theorem wd_X12_total : ∀ w ∈ wD_X12_total, w ∈ wK_X12_total := fun w h => List.mem_cons_of_mem _ (List.mem_append_left _ h)
theorem gd_X12_total : (wK_X12_total).all goodWord = true := by decide +kernel
theorem wc_X12_total_X12 : ∀ w ∈ wsX120, w ∈ wK_X12_total := fun w h => List.mem_cons_of_mem _ (List.mem_append_right _ (List.mem_append_left _ h))
theorem wq_X12_total_X12_tells : ∀ w ∈ wK_X12_tells, w ∈ wK_X12_total := fun w h => List.mem_cons_of_mem _ (List.mem_append_right _ (List.mem_append_right _ (List.mem_append_left _ h)))
set_option maxHeartbeats 4000000 in
set_option maxRecDepth 100000 in
/-- total on a fresh reference -/
theorem c_X12_total (l : Launch) (D : va_G) (dT : Nat → ClassId) (sz : Nat) (h : Nat) (fs : List Value) (tm : Nat → Nat) (hF : FM fs tm) : Met l yX12_total wK_X12_total ({ frames := 1, cells := 0, slots := 0, locals := 21 }) (va_Pc [.ref h] (fun U => U.heap.size = sz ∧ va_P D vwCl [(h, .inr (13, fs))] U.heap ∧ va_K D vwCl (tysW dT) U ∧ va_D (fun _ => True) [(h, .inr (13, fs))] ∧ EN (va_A [(h, .inr (13, fs))] sz) U)) (va_Qi (fun (r : Int32) (_u : Unit) => r = 0) (fun (_u : Unit) t => ∃ (fs2 : List Value), fs2[25]? = some (.int 0) ∧ va_P D vwCl [(h, .inr (13, fs2))] t.heap ∧ va_K D vwCl (tysW dT) t ∧ va_D (va_A [(h, .inr (13, fs))] sz) [(h, .inr (13, fs2))]) (va_A [(h, .inr (13, fs))] sz)) 0 0 (va_A [(h, .inr (13, fs))] sz) := by
  refine Met.ofW (cc := cX12_total) (maxL := 1) (ret := (some .int)) (by decide) rfl ?_
  intro p e s m args below meth c s₁ B hml hv
  obtain ⟨rfl, hsz, hP, hK, hD0, hE⟩ := hv
  have hx := B.exec
  have hb := B.bytes
  have hr := B.returns
  have hts := atoms_spec (ws := wK_X12_total) B.pre
  have hown : s.vm.findClass RX12 = some m.cls := findClass_of_methodNamed B.named
  have hlocks := B.notSynchronized
  subst hsz
  have hD := hD0.self (sz := s.heap.size)
  generalize hAe : va_A [(h, .inr (13, fs))] s.heap.size = A at hD hE ⊢
  have hA : ∀ q : Nat, s.heap.size ≤ q → A q := fun q h => by rw [← hAe]; exact Or.inr h
  have hS : va_S A s.heap s.heap [] := va_S.rf
  have hP : va_P D vwCl [(h, .inr (13, fs))] s.heap := hP
  have hl := lv_entry ([.ref h]) (n := 1) (Nat.le_of_ble_eq_true rfl)
  rw [lg_entry_eq]
  generalize (lg_sl ([.ref h]) ++ List.replicate (1 - (lg_sl ([.ref h])).length) Slot.unset).toArray = ls at hl ⊢
  have hl : lv_has ls 1 [(0, .ref h)] := hl
  refine lv_aload_n hx hb dX12_total_0 rfl (lv_at hl 0 rfl) ?_
  refine lv_aload_n hx hb dX12_total_1 rfl (lv_at hl 0 rfl) ?_
  refine va_get (D := D) (ci := 13) (v := .int 0) (C := RX12) (T := TX12) (N := 109) hx hb hts wc_X12_total_X12 hown hK hP 0 rfl rfl 100 (by decide) (hts (.fieldLink RX12 598 "MixinUnitsModel" "lastCells" "I") (wd_X12_total _ (List.mem_of_getElem? (i := 0) rfl))) (fun _ h9 => h9) (FM.at hF (j := 6) (q := (100, .int 0)) rfl) dX12_total_2 ?_
  have hPc := hP.sub (ws' := [(h, .inr (13, fs))]) [0] rfl
  have hDc := hD.sub (ws' := [(h, .inr (13, fs))]) [0] (by decide) rfl
  have hFc := va_free (wc := [(h, .inr (13, fs))]) hD hS hA [0] rfl
  refine va_calli (va_runV (As := [.int 0]) (rest := []) ⟨hx, hb, hml, hown, hts⟩ (c_X12_tells l D dT s.heap.size h fs 0 (FM.len hF)) (cwV 1 hts (goodIn_app (goodIn_r _ [2, 3, 4, 5] rfl (by decide +kernel)) (goodIn_sub wq_X12_total_X12_tells gd_X12_tells)) rfl rfl rfl (by decide +kernel) ⟨Nat.le_of_ble_eq_true rfl, Nat.le_of_ble_eq_true rfl⟩) ⟨(fun a U g mk q => by obtain ⟨z0, z1, zP, zK, zD, zE⟩ := q; exact ⟨z0, z1, zP, va_K.moved (u := U) (U := U.calling g mk a) (Vm.Alike.refl U.vm) zK, zD, EN.frame zE⟩), va_recv hK hP (ci := 13) (q0 := 0) rfl rfl, fun U hU hW => ⟨rfl, by rw [hU], by rw [hU]; exact hPc, va_K.moved hW.alike hK, hDc.weaken (fun _ _ _ _ => trivial), EN.call hE hS hFc hW hU⟩⟩ rfl rfl hl.1 rfl (lv_room (Nat.le_of_ble_eq_true rfl)) dX12_total_5 ⟨(Nat.le_of_ble_eq_true rfl), (Nat.le_of_ble_eq_true rfl)⟩) hS (fun q _ h => hFc q h) hFc (fun r_1 u_2 t H1 locs ht hvm hw hB hz1 hk1 hS => ?_)
  obtain ⟨-, hP1, hK1, hD1⟩ := hB
  rw [ht] at hP1
  obtain ⟨hP, hD⟩ := va_join (wr := []) (w1 := [(h, .inr (13, (List.set fs 25 (.int 0))))]) hP hD [0] [] rfl rfl (by decide) (by decide) hk1 hFc hP1 hD1
  generalize H1 = H at hP hS ⊢
  have hP : va_P D vwCl [(h, .inr (13, (List.set fs 25 (.int 0))))] H := hP
  have hD : va_D A [(h, .inr (13, (List.set fs 25 (.int 0))))] := hD
  refine W.widen (k := 0) (n := 0) (Nat.le_of_ble_eq_true rfl) (Nat.le_of_ble_eq_true rfl) ?_
  have hw_3 := hw
  try dsimp only at hw_3
  obtain rfl : r_1 = 0 := hw_3
  have hP9 := hP.sub (ws' := [(h, .inr (13, (List.set fs 25 (.int 0))))]) [0] rfl
  have hD9 := hD.sub (ws' := [(h, .inr (13, (List.set fs 25 (.int 0))))]) [0] (by decide) rfl
  exact W.iret (v := 0) hx hb hr (fun t ht hW => ⟨⟨_, (), rfl, rfl, (List.set fs 25 (.int 0)), (ls_self (FM.len hF) (Nat.le_of_ble_eq_true rfl)), by rw [ht]; exact hP9, va_K.moved hW.alike hK, hD9⟩, hS.F ht⟩) hS.2.2 dX12_total_8

def wD_X12_dropped : List Cond := [.fieldLink RX12 601 "MixinUnitsModel" "lastDropped" "I", .methodLink RX12 604 yX12_tells, .instanceMethod yX12_tells, .selects RX12 yX12_tells yX12_tells, .initialized RX12]
def wK_X12_dropped : List Cond := .code yX12_dropped cX12_dropped 1 (some .int) :: (wD_X12_dropped ++ (wsX120 ++ (wK_X12_tells ++ ([] : List Cond))))
theorem wd_X12_dropped : ∀ w ∈ wD_X12_dropped, w ∈ wK_X12_dropped := fun w h => List.mem_cons_of_mem _ (List.mem_append_left _ h)
theorem gd_X12_dropped : (wK_X12_dropped).all goodWord = true := by decide +kernel
theorem wc_X12_dropped_X12 : ∀ w ∈ wsX120, w ∈ wK_X12_dropped := fun w h => List.mem_cons_of_mem _ (List.mem_append_right _ (List.mem_append_left _ h))
theorem wq_X12_dropped_X12_tells : ∀ w ∈ wK_X12_tells, w ∈ wK_X12_dropped := fun w h => List.mem_cons_of_mem _ (List.mem_append_right _ (List.mem_append_right _ (List.mem_append_left _ h)))
set_option maxHeartbeats 4000000 in
set_option maxRecDepth 100000 in
/-- dropped on a fresh reference -/
theorem c_X12_dropped (l : Launch) (D : va_G) (dT : Nat → ClassId) (sz : Nat) (h : Nat) (fs : List Value) (tm : Nat → Nat) (hF : FM fs tm) : Met l yX12_dropped wK_X12_dropped ({ frames := 1, cells := 0, slots := 0, locals := 21 }) (va_Pc [.ref h] (fun U => U.heap.size = sz ∧ va_P D vwCl [(h, .inr (13, fs))] U.heap ∧ va_K D vwCl (tysW dT) U ∧ va_D (fun _ => True) [(h, .inr (13, fs))] ∧ EN (va_A [(h, .inr (13, fs))] sz) U)) (va_Qi (fun (r : Int32) (_u : Unit) => r = 0) (fun (_u : Unit) t => ∃ (fs2 : List Value), fs2[25]? = some (.int 0) ∧ va_P D vwCl [(h, .inr (13, fs2))] t.heap ∧ va_K D vwCl (tysW dT) t ∧ va_D (va_A [(h, .inr (13, fs))] sz) [(h, .inr (13, fs2))]) (va_A [(h, .inr (13, fs))] sz)) 0 0 (va_A [(h, .inr (13, fs))] sz) := by
  refine Met.ofW (cc := cX12_dropped) (maxL := 1) (ret := (some .int)) (by decide) rfl ?_
  intro p e s m args below meth c s₁ B hml hv
  obtain ⟨rfl, hsz, hP, hK, hD0, hE⟩ := hv
  have hx := B.exec
  have hb := B.bytes
  have hr := B.returns
  have hts := atoms_spec (ws := wK_X12_dropped) B.pre
  have hown : s.vm.findClass RX12 = some m.cls := findClass_of_methodNamed B.named
  have hlocks := B.notSynchronized
  subst hsz
  have hD := hD0.self (sz := s.heap.size)
  generalize hAe : va_A [(h, .inr (13, fs))] s.heap.size = A at hD hE ⊢
  have hA : ∀ q : Nat, s.heap.size ≤ q → A q := fun q h => by rw [← hAe]; exact Or.inr h
  have hS : va_S A s.heap s.heap [] := va_S.rf
  have hP : va_P D vwCl [(h, .inr (13, fs))] s.heap := hP
  have hl := lv_entry ([.ref h]) (n := 1) (Nat.le_of_ble_eq_true rfl)
  rw [lg_entry_eq]
  generalize (lg_sl ([.ref h]) ++ List.replicate (1 - (lg_sl ([.ref h])).length) Slot.unset).toArray = ls at hl ⊢
  have hl : lv_has ls 1 [(0, .ref h)] := hl
  refine lv_aload_n hx hb dX12_dropped_0 rfl (lv_at hl 0 rfl) ?_
  refine lv_aload_n hx hb dX12_dropped_1 rfl (lv_at hl 0 rfl) ?_
  refine va_get (D := D) (ci := 13) (v := .int 0) (C := RX12) (T := TX12) (N := 109) hx hb hts wc_X12_dropped_X12 hown hK hP 0 rfl rfl 101 (by decide) (hts (.fieldLink RX12 601 "MixinUnitsModel" "lastDropped" "I") (wd_X12_dropped _ (List.mem_of_getElem? (i := 0) rfl))) (fun _ h9 => h9) (FM.at hF (j := 7) (q := (101, .int 0)) rfl) dX12_dropped_2 ?_
  have hPc := hP.sub (ws' := [(h, .inr (13, fs))]) [0] rfl
  have hDc := hD.sub (ws' := [(h, .inr (13, fs))]) [0] (by decide) rfl
  have hFc := va_free (wc := [(h, .inr (13, fs))]) hD hS hA [0] rfl
  refine va_calli (va_runV (As := [.int 0]) (rest := []) ⟨hx, hb, hml, hown, hts⟩ (c_X12_tells l D dT s.heap.size h fs 0 (FM.len hF)) (cwV 1 hts (goodIn_app (goodIn_r _ [2, 3, 4, 5] rfl (by decide +kernel)) (goodIn_sub wq_X12_dropped_X12_tells gd_X12_tells)) rfl rfl rfl (by decide +kernel) ⟨Nat.le_of_ble_eq_true rfl, Nat.le_of_ble_eq_true rfl⟩) ⟨(fun a U g mk q => by obtain ⟨z0, z1, zP, zK, zD, zE⟩ := q; exact ⟨z0, z1, zP, va_K.moved (u := U) (U := U.calling g mk a) (Vm.Alike.refl U.vm) zK, zD, EN.frame zE⟩), va_recv hK hP (ci := 13) (q0 := 0) rfl rfl, fun U hU hW => ⟨rfl, by rw [hU], by rw [hU]; exact hPc, va_K.moved hW.alike hK, hDc.weaken (fun _ _ _ _ => trivial), EN.call hE hS hFc hW hU⟩⟩ rfl rfl hl.1 rfl (lv_room (Nat.le_of_ble_eq_true rfl)) dX12_dropped_5 ⟨(Nat.le_of_ble_eq_true rfl), (Nat.le_of_ble_eq_true rfl)⟩) hS (fun q _ h => hFc q h) hFc (fun r_1 u_2 t H1 locs ht hvm hw hB hz1 hk1 hS => ?_)
  obtain ⟨-, hP1, hK1, hD1⟩ := hB
  rw [ht] at hP1
  obtain ⟨hP, hD⟩ := va_join (wr := []) (w1 := [(h, .inr (13, (List.set fs 25 (.int 0))))]) hP hD [0] [] rfl rfl (by decide) (by decide) hk1 hFc hP1 hD1
  generalize H1 = H at hP hS ⊢
  have hP : va_P D vwCl [(h, .inr (13, (List.set fs 25 (.int 0))))] H := hP
  have hD : va_D A [(h, .inr (13, (List.set fs 25 (.int 0))))] := hD
  refine W.widen (k := 0) (n := 0) (Nat.le_of_ble_eq_true rfl) (Nat.le_of_ble_eq_true rfl) ?_
  have hw_3 := hw
  try dsimp only at hw_3
  obtain rfl : r_1 = 0 := hw_3
  have hP9 := hP.sub (ws' := [(h, .inr (13, (List.set fs 25 (.int 0))))]) [0] rfl
  have hD9 := hD.sub (ws' := [(h, .inr (13, (List.set fs 25 (.int 0))))]) [0] (by decide) rfl
  exact W.iret (v := 0) hx hb hr (fun t ht hW => ⟨⟨_, (), rfl, rfl, (List.set fs 25 (.int 0)), (ls_self (FM.len hF) (Nat.le_of_ble_eq_true rfl)), by rw [ht]; exact hP9, va_K.moved hW.alike hK, hD9⟩, hS.F ht⟩) hS.2.2 dX12_dropped_8

def wD_X12_build : List Cond := [.methodLink RX12 330 yX12_isNode, .instanceMethod yX12_isNode, .selects RX12 yX12_isNode yX12_isNode, .initialized RX12, .methodLink RX12 298 yX12_goes, .instanceMethod yX12_goes, .selects RX12 yX12_goes yX12_goes]
def wK_X12_build : List Cond := .code yX12_build cX12_build 6 (some .int) :: (wD_X12_build ++ (wK_X12_isNode ++ (wK_X12_goes_f ++ ([] : List Cond))))
theorem wd_X12_build : ∀ w ∈ wD_X12_build, w ∈ wK_X12_build := fun w h => List.mem_cons_of_mem _ (List.mem_append_left _ h)
theorem gd_X12_build : (wK_X12_build).all goodWord = true := by decide +kernel
theorem wq_X12_build_X12_isNode : ∀ w ∈ wK_X12_isNode, w ∈ wK_X12_build := fun w h => List.mem_cons_of_mem _ (List.mem_append_right _ (List.mem_append_left _ h))
theorem wq_X12_build_X12_goes_f : ∀ w ∈ wK_X12_goes_f, w ∈ wK_X12_build := fun w h => List.mem_cons_of_mem _ (List.mem_append_right _ (List.mem_append_right _ (List.mem_append_left _ h)))
set_option maxHeartbeats 4000000 in
set_option maxRecDepth 100000 in
/-- build on a fresh reference -/
theorem c_X12_build (l : Launch) (D : va_G) (dT : Nat → ClassId) (sz : Nat) (h : Nat) (fs : List Value) (tm : Nat → Nat) (f : Int32) (hF : FM fs tm) : Met l yX12_build wK_X12_build ({ frames := 2, cells := 0, slots := 0, locals := 43 }) (va_Pc [.ref h, .int f] (fun U => U.heap.size = sz ∧ va_P D vwCl [(h, .inr (13, fs))] U.heap ∧ va_K D vwCl (tysW dT) U ∧ va_D (fun _ => True) [(h, .inr (13, fs))] ∧ EN (va_A [(h, .inr (13, fs))] sz) U)) (va_Qi (fun (r : Int32) (_u : Unit) => r = 0) (fun (_u : Unit) t => ∃ (fs2 : List Value), fs2[25]? = some (.int 1) ∧ va_P D vwCl [(h, .inr (13, fs2))] t.heap ∧ va_K D vwCl (tysW dT) t ∧ va_D (va_A [(h, .inr (13, fs))] sz) [(h, .inr (13, fs2))]) (va_A [(h, .inr (13, fs))] sz)) 0 0 (va_A [(h, .inr (13, fs))] sz) := by
  refine Met.ofW (cc := cX12_build) (maxL := 6) (ret := (some .int)) (by decide) rfl ?_
  intro p e s m args below meth c s₁ B hml hv
  obtain ⟨rfl, hsz, hP, hK, hD0, hE⟩ := hv
  have hx := B.exec
  have hb := B.bytes
  have hr := B.returns
  have hts := atoms_spec (ws := wK_X12_build) B.pre
  have hown : s.vm.findClass RX12 = some m.cls := findClass_of_methodNamed B.named
  have hlocks := B.notSynchronized
  subst hsz
  have hD := hD0.self (sz := s.heap.size)
  generalize hAe : va_A [(h, .inr (13, fs))] s.heap.size = A at hD hE ⊢
  have hA : ∀ q : Nat, s.heap.size ≤ q → A q := fun q h => by rw [← hAe]; exact Or.inr h
  have hS : va_S A s.heap s.heap [] := va_S.rf
  have hP : va_P D vwCl [(h, .inr (13, fs))] s.heap := hP
  have hl := lv_entry ([.ref h, .int f]) (n := 6) (Nat.le_of_ble_eq_true rfl)
  rw [lg_entry_eq]
  generalize (lg_sl ([.ref h, .int f]) ++ List.replicate (6 - (lg_sl ([.ref h, .int f])).length) Slot.unset).toArray = ls at hl ⊢
  have hl : lv_has ls 6 [(0, .ref h), (1, .int f)] := hl
  refine lv_aload_n hx hb dX12_build_0 rfl (lv_at hl 0 rfl) ?_
  refine lv_aload_n hx hb dX12_build_1 rfl (lv_at hl 0 rfl) ?_
  refine lv_iload_n hx hb dX12_build_2 rfl (lv_at hl 1 rfl) ?_
  have hPc := hP.sub (ws' := [(h, .inr (13, fs))]) [0] rfl
  have hDc := hD.sub (ws' := [(h, .inr (13, fs))]) [0] (by decide) rfl
  have hFc := va_free (wc := [(h, .inr (13, fs))]) hD hS hA [0] rfl
  refine va_calli (va_runV (As := [.int f]) (rest := [.ref h]) ⟨hx, hb, hml, hown, hts⟩ (c_X12_isNode l D dT s.heap.size h fs tm f hF) (cwV 1 hts (goodIn_app (goodIn_r _ [1, 2, 3, 4] rfl (by decide +kernel)) (goodIn_sub wq_X12_build_X12_isNode gd_X12_isNode)) rfl rfl rfl (by decide +kernel) ⟨Nat.le_of_ble_eq_true rfl, Nat.le_of_ble_eq_true rfl⟩) ⟨(fun a U g mk q => by obtain ⟨z0, z1, zP, zK, zD, zE⟩ := q; exact ⟨z0, z1, zP, va_K.moved (u := U) (U := U.calling g mk a) (Vm.Alike.refl U.vm) zK, zD, EN.frame zE⟩), va_recv hK hP (ci := 13) (q0 := 0) rfl rfl, fun U hU hW => ⟨rfl, by rw [hU], by rw [hU]; exact hPc, va_K.moved hW.alike hK, hDc.weaken (fun _ _ _ _ => trivial), EN.call hE hS hFc hW hU⟩⟩ rfl rfl hl.1 rfl (lv_room (Nat.le_of_ble_eq_true rfl)) dX12_build_3 ⟨(Nat.le_of_ble_eq_true rfl), (Nat.le_of_ble_eq_true rfl)⟩) hS (fun q _ h => hFc q h) hFc (fun r_1 u_2 t H1 locs ht hvm hw hB hz1 hk1 hS => ?_)
  obtain ⟨-, hP1, hK1, hD1⟩ := hB
  rw [ht] at hP1
  obtain ⟨hP, hD⟩ := va_join (wr := []) (w1 := [(h, .inr (13, fs))]) hP hD [0] [] rfl rfl (by decide) (by decide) hk1 hFc hP1 hD1
  generalize H1 = H at hP hS ⊢
  have hP : va_P D vwCl [(h, .inr (13, fs))] H := hP
  have hD : va_D A [(h, .inr (13, fs))] := hD
  refine W.widen (k := 0) (n := 0) (Nat.le_of_ble_eq_true rfl) (Nat.le_of_ble_eq_true rfl) ?_
  have hw_3 := hw
  try dsimp only at hw_3
  obtain rfl : r_1 = 0 := hw_3
  refine lv_iconst (v := 1) hx hb dX12_build_6 (by decide) ?_
  refine lv_iconst (v := 1) hx hb dX12_build_7 (by decide) ?_
  have hPc := hP.sub (ws' := [(h, .inr (13, fs))]) [0] rfl
  have hDc := hD.sub (ws' := [(h, .inr (13, fs))]) [0] (by decide) rfl
  have hFc := va_free (wc := [(h, .inr (13, fs))]) hD hS hA [0] rfl
  refine va_calli (va_runV (As := [.int 0, .int 1, .int 1]) (rest := []) ⟨hx, hb, hml, hown, hts⟩ (c_X12_goes_f l D dT H.size h fs 1 1 (FM.len hF)) (cwV 3 hts (goodIn_app (goodIn_r _ [5, 6, 7, 4] rfl (by decide +kernel)) (goodIn_sub wq_X12_build_X12_goes_f gd_X12_goes_f)) rfl rfl rfl (by decide +kernel) ⟨Nat.le_of_ble_eq_true rfl, Nat.le_of_ble_eq_true rfl⟩) ⟨(fun a U g mk q => by obtain ⟨z0, z1, zP, zK, zD, zE⟩ := q; exact ⟨z0, z1, zP, va_K.moved (u := U) (U := U.calling g mk a) (Vm.Alike.refl U.vm) zK, zD, EN.frame zE⟩), va_recv hK hP (ci := 13) (q0 := 0) rfl rfl, fun U hU hW => ⟨rfl, by rw [hU], by rw [hU]; exact hPc, va_K.moved hW.alike hK, hDc.weaken (fun _ _ _ _ => trivial), EN.call hE hS hFc hW hU⟩⟩ rfl rfl hl.1 rfl (lv_room (Nat.le_of_ble_eq_true rfl)) dX12_build_8 ⟨(Nat.le_of_ble_eq_true rfl), (Nat.le_of_ble_eq_true rfl)⟩) hS (fun q _ h => hFc q h) hFc (fun r_4 u_5 t H1 locs ht hvm hw hB hz1 hk1 hS => ?_)
  obtain ⟨-, hP1, hK1, hD1⟩ := hB
  rw [ht] at hP1
  obtain ⟨hP, hD⟩ := va_join (wr := []) (w1 := [(h, .inr (13, (List.set fs 25 (.int 1))))]) hP hD [0] [] rfl rfl (by decide) (by decide) hk1 hFc hP1 hD1
  generalize H1 = H at hP hS ⊢
  have hP : va_P D vwCl [(h, .inr (13, (List.set fs 25 (.int 1))))] H := hP
  have hD : va_D A [(h, .inr (13, (List.set fs 25 (.int 1))))] := hD
  refine W.widen (k := 0) (n := 0) (Nat.le_of_ble_eq_true rfl) (Nat.le_of_ble_eq_true rfl) ?_
  have hw_6 := hw
  try dsimp only at hw_6
  obtain rfl : r_4 = 0 := hw_6
  refine lv_if_ne (tgt := 16) hx hb dX12_build_11 (by decide) (fun c_7 => absurd (by decide) c_7) (fun _ => ?_)
  refine lv_iconst (v := 0) hx hb dX12_build_14 (by decide) ?_
  have hP9 := hP.sub (ws' := [(h, .inr (13, (List.set fs 25 (.int 1))))]) [0] rfl
  have hD9 := hD.sub (ws' := [(h, .inr (13, (List.set fs 25 (.int 1))))]) [0] (by decide) rfl
  exact W.iret (v := 0) hx hb hr (fun t ht hW => ⟨⟨_, (), rfl, rfl, (List.set fs 25 (.int 1)), (ls_self (FM.len hF) (Nat.le_of_ble_eq_true rfl)), by rw [ht]; exact hP9, va_K.moved hW.alike hK, hD9⟩, hS.F ht⟩) hS.2.2 dX12_build_15

def wD_X12_compiled : List Cond := [.methodLink RX12 330 yX12_isNode, .instanceMethod yX12_isNode, .selects RX12 yX12_isNode yX12_isNode, .initialized RX12, .methodLink RX12 298 yX12_goes, .instanceMethod yX12_goes, .selects RX12 yX12_goes yX12_goes]
def wK_X12_compiled : List Cond := .code yX12_compiled cX12_compiled 2 (some .int) :: (wD_X12_compiled ++ (wK_X12_isNode ++ (wK_X12_goes_f ++ ([] : List Cond))))
theorem wd_X12_compiled : ∀ w ∈ wD_X12_compiled, w ∈ wK_X12_compiled := fun w h => List.mem_cons_of_mem _ (List.mem_append_left _ h)
theorem gd_X12_compiled : (wK_X12_compiled).all goodWord = true := by decide +kernel
theorem wq_X12_compiled_X12_isNode : ∀ w ∈ wK_X12_isNode, w ∈ wK_X12_compiled := fun w h => List.mem_cons_of_mem _ (List.mem_append_right _ (List.mem_append_left _ h))
theorem wq_X12_compiled_X12_goes_f : ∀ w ∈ wK_X12_goes_f, w ∈ wK_X12_compiled := fun w h => List.mem_cons_of_mem _ (List.mem_append_right _ (List.mem_append_right _ (List.mem_append_left _ h)))
set_option maxHeartbeats 4000000 in
set_option maxRecDepth 100000 in
/-- compiled on a fresh reference -/
theorem c_X12_compiled (l : Launch) (D : va_G) (dT : Nat → ClassId) (sz : Nat) (h : Nat) (fs : List Value) (tm : Nat → Nat) (f : Int32) (hF : FM fs tm) : Met l yX12_compiled wK_X12_compiled ({ frames := 2, cells := 0, slots := 0, locals := 43 }) (va_Pc [.ref h, .int f] (fun U => U.heap.size = sz ∧ va_P D vwCl [(h, .inr (13, fs))] U.heap ∧ va_K D vwCl (tysW dT) U ∧ va_D (fun _ => True) [(h, .inr (13, fs))] ∧ EN (va_A [(h, .inr (13, fs))] sz) U)) (va_Qi (fun (r : Int32) (_u : Unit) => r = 0) (fun (_u : Unit) t => ∃ (fs2 : List Value), fs2[25]? = some (.int 1) ∧ va_P D vwCl [(h, .inr (13, fs2))] t.heap ∧ va_K D vwCl (tysW dT) t ∧ va_D (va_A [(h, .inr (13, fs))] sz) [(h, .inr (13, fs2))]) (va_A [(h, .inr (13, fs))] sz)) 0 0 (va_A [(h, .inr (13, fs))] sz) := by
  refine Met.ofW (cc := cX12_compiled) (maxL := 2) (ret := (some .int)) (by decide) rfl ?_
  intro p e s m args below meth c s₁ B hml hv
  obtain ⟨rfl, hsz, hP, hK, hD0, hE⟩ := hv
  have hx := B.exec
  have hb := B.bytes
  have hr := B.returns
  have hts := atoms_spec (ws := wK_X12_compiled) B.pre
  have hown : s.vm.findClass RX12 = some m.cls := findClass_of_methodNamed B.named
  have hlocks := B.notSynchronized
  subst hsz
  have hD := hD0.self (sz := s.heap.size)
  generalize hAe : va_A [(h, .inr (13, fs))] s.heap.size = A at hD hE ⊢
  have hA : ∀ q : Nat, s.heap.size ≤ q → A q := fun q h => by rw [← hAe]; exact Or.inr h
  have hS : va_S A s.heap s.heap [] := va_S.rf
  have hP : va_P D vwCl [(h, .inr (13, fs))] s.heap := hP
  have hl := lv_entry ([.ref h, .int f]) (n := 2) (Nat.le_of_ble_eq_true rfl)
  rw [lg_entry_eq]
  generalize (lg_sl ([.ref h, .int f]) ++ List.replicate (2 - (lg_sl ([.ref h, .int f])).length) Slot.unset).toArray = ls at hl ⊢
  have hl : lv_has ls 2 [(0, .ref h), (1, .int f)] := hl
  refine lv_aload_n hx hb dX12_compiled_0 rfl (lv_at hl 0 rfl) ?_
  refine lv_aload_n hx hb dX12_compiled_1 rfl (lv_at hl 0 rfl) ?_
  refine lv_iload_n hx hb dX12_compiled_2 rfl (lv_at hl 1 rfl) ?_
  have hPc := hP.sub (ws' := [(h, .inr (13, fs))]) [0] rfl
  have hDc := hD.sub (ws' := [(h, .inr (13, fs))]) [0] (by decide) rfl
  have hFc := va_free (wc := [(h, .inr (13, fs))]) hD hS hA [0] rfl
  refine va_calli (va_runV (As := [.int f]) (rest := [.ref h]) ⟨hx, hb, hml, hown, hts⟩ (c_X12_isNode l D dT s.heap.size h fs tm f hF) (cwV 1 hts (goodIn_app (goodIn_r _ [1, 2, 3, 4] rfl (by decide +kernel)) (goodIn_sub wq_X12_compiled_X12_isNode gd_X12_isNode)) rfl rfl rfl (by decide +kernel) ⟨Nat.le_of_ble_eq_true rfl, Nat.le_of_ble_eq_true rfl⟩) ⟨(fun a U g mk q => by obtain ⟨z0, z1, zP, zK, zD, zE⟩ := q; exact ⟨z0, z1, zP, va_K.moved (u := U) (U := U.calling g mk a) (Vm.Alike.refl U.vm) zK, zD, EN.frame zE⟩), va_recv hK hP (ci := 13) (q0 := 0) rfl rfl, fun U hU hW => ⟨rfl, by rw [hU], by rw [hU]; exact hPc, va_K.moved hW.alike hK, hDc.weaken (fun _ _ _ _ => trivial), EN.call hE hS hFc hW hU⟩⟩ rfl rfl hl.1 rfl (lv_room (Nat.le_of_ble_eq_true rfl)) dX12_compiled_3 ⟨(Nat.le_of_ble_eq_true rfl), (Nat.le_of_ble_eq_true rfl)⟩) hS (fun q _ h => hFc q h) hFc (fun r_1 u_2 t H1 locs ht hvm hw hB hz1 hk1 hS => ?_)
  obtain ⟨-, hP1, hK1, hD1⟩ := hB
  rw [ht] at hP1
  obtain ⟨hP, hD⟩ := va_join (wr := []) (w1 := [(h, .inr (13, fs))]) hP hD [0] [] rfl rfl (by decide) (by decide) hk1 hFc hP1 hD1
  generalize H1 = H at hP hS ⊢
  have hP : va_P D vwCl [(h, .inr (13, fs))] H := hP
  have hD : va_D A [(h, .inr (13, fs))] := hD
  refine W.widen (k := 0) (n := 0) (Nat.le_of_ble_eq_true rfl) (Nat.le_of_ble_eq_true rfl) ?_
  have hw_3 := hw
  try dsimp only at hw_3
  obtain rfl : r_1 = 0 := hw_3
  refine lv_iconst (v := 1) hx hb dX12_compiled_6 (by decide) ?_
  refine lv_iconst (v := 1) hx hb dX12_compiled_7 (by decide) ?_
  have hPc := hP.sub (ws' := [(h, .inr (13, fs))]) [0] rfl
  have hDc := hD.sub (ws' := [(h, .inr (13, fs))]) [0] (by decide) rfl
  have hFc := va_free (wc := [(h, .inr (13, fs))]) hD hS hA [0] rfl
  refine va_calli (va_runV (As := [.int 0, .int 1, .int 1]) (rest := []) ⟨hx, hb, hml, hown, hts⟩ (c_X12_goes_f l D dT H.size h fs 1 1 (FM.len hF)) (cwV 3 hts (goodIn_app (goodIn_r _ [5, 6, 7, 4] rfl (by decide +kernel)) (goodIn_sub wq_X12_compiled_X12_goes_f gd_X12_goes_f)) rfl rfl rfl (by decide +kernel) ⟨Nat.le_of_ble_eq_true rfl, Nat.le_of_ble_eq_true rfl⟩) ⟨(fun a U g mk q => by obtain ⟨z0, z1, zP, zK, zD, zE⟩ := q; exact ⟨z0, z1, zP, va_K.moved (u := U) (U := U.calling g mk a) (Vm.Alike.refl U.vm) zK, zD, EN.frame zE⟩), va_recv hK hP (ci := 13) (q0 := 0) rfl rfl, fun U hU hW => ⟨rfl, by rw [hU], by rw [hU]; exact hPc, va_K.moved hW.alike hK, hDc.weaken (fun _ _ _ _ => trivial), EN.call hE hS hFc hW hU⟩⟩ rfl rfl hl.1 rfl (lv_room (Nat.le_of_ble_eq_true rfl)) dX12_compiled_8 ⟨(Nat.le_of_ble_eq_true rfl), (Nat.le_of_ble_eq_true rfl)⟩) hS (fun q _ h => hFc q h) hFc (fun r_4 u_5 t H1 locs ht hvm hw hB hz1 hk1 hS => ?_)
  obtain ⟨-, hP1, hK1, hD1⟩ := hB
  rw [ht] at hP1
  obtain ⟨hP, hD⟩ := va_join (wr := []) (w1 := [(h, .inr (13, (List.set fs 25 (.int 1))))]) hP hD [0] [] rfl rfl (by decide) (by decide) hk1 hFc hP1 hD1
  generalize H1 = H at hP hS ⊢
  have hP : va_P D vwCl [(h, .inr (13, (List.set fs 25 (.int 1))))] H := hP
  have hD : va_D A [(h, .inr (13, (List.set fs 25 (.int 1))))] := hD
  refine W.widen (k := 0) (n := 0) (Nat.le_of_ble_eq_true rfl) (Nat.le_of_ble_eq_true rfl) ?_
  have hw_6 := hw
  try dsimp only at hw_6
  obtain rfl : r_4 = 0 := hw_6
  refine lv_if_eq (tgt := 23) hx hb dX12_compiled_11 (by decide) (fun _ => ?_) (fun c_7 => absurd (by decide) c_7)
  refine lv_iconst (v := 0) hx hb dX12_compiled_23 (by decide) ?_
  have hP9 := hP.sub (ws' := [(h, .inr (13, (List.set fs 25 (.int 1))))]) [0] rfl
  have hD9 := hD.sub (ws' := [(h, .inr (13, (List.set fs 25 (.int 1))))]) [0] (by decide) rfl
  exact W.iret (v := 0) hx hb hr (fun t ht hW => ⟨⟨_, (), rfl, rfl, (List.set fs 25 (.int 1)), (ls_self (FM.len hF) (Nat.le_of_ble_eq_true rfl)), by rw [ht]; exact hP9, va_K.moved hW.alike hK, hD9⟩, hS.F ht⟩) hS.2.2 dX12_compiled_24

def wD_X12_isFresh : List Cond := [.methodLink RX12 330 yX12_isNode, .instanceMethod yX12_isNode, .selects RX12 yX12_isNode yX12_isNode, .initialized RX12, .methodLink RX12 298 yX12_goes, .instanceMethod yX12_goes, .selects RX12 yX12_goes yX12_goes]
def wK_X12_isFresh : List Cond := .code yX12_isFresh cX12_isFresh 2 (some .boolean) :: (wD_X12_isFresh ++ (wK_X12_isNode ++ (wK_X12_goes_f ++ ([] : List Cond))))
theorem wd_X12_isFresh : ∀ w ∈ wD_X12_isFresh, w ∈ wK_X12_isFresh := fun w h => List.mem_cons_of_mem _ (List.mem_append_left _ h)
theorem gd_X12_isFresh : (wK_X12_isFresh).all goodWord = true := by decide +kernel
theorem wq_X12_isFresh_X12_isNode : ∀ w ∈ wK_X12_isNode, w ∈ wK_X12_isFresh := fun w h => List.mem_cons_of_mem _ (List.mem_append_right _ (List.mem_append_left _ h))
theorem wq_X12_isFresh_X12_goes_f : ∀ w ∈ wK_X12_goes_f, w ∈ wK_X12_isFresh := fun w h => List.mem_cons_of_mem _ (List.mem_append_right _ (List.mem_append_right _ (List.mem_append_left _ h)))
set_option maxHeartbeats 4000000 in
set_option maxRecDepth 100000 in
/-- isFresh on a fresh reference -/
theorem c_X12_isFresh (l : Launch) (D : va_G) (dT : Nat → ClassId) (sz : Nat) (h : Nat) (fs : List Value) (tm : Nat → Nat) (f : Int32) (hF : FM fs tm) : Met l yX12_isFresh wK_X12_isFresh ({ frames := 2, cells := 0, slots := 0, locals := 43 }) (va_Pc [.ref h, .int f] (fun U => U.heap.size = sz ∧ va_P D vwCl [(h, .inr (13, fs))] U.heap ∧ va_K D vwCl (tysW dT) U ∧ va_D (fun _ => True) [(h, .inr (13, fs))] ∧ EN (va_A [(h, .inr (13, fs))] sz) U)) (va_Qi (fun (r : Int32) (_u : Unit) => r = 0) (fun (_u : Unit) t => ∃ (fs2 : List Value), fs2[25]? = some (.int 1) ∧ va_P D vwCl [(h, .inr (13, fs2))] t.heap ∧ va_K D vwCl (tysW dT) t ∧ va_D (va_A [(h, .inr (13, fs))] sz) [(h, .inr (13, fs2))]) (va_A [(h, .inr (13, fs))] sz)) 0 0 (va_A [(h, .inr (13, fs))] sz) := by
  refine Met.ofW (cc := cX12_isFresh) (maxL := 2) (ret := (some .boolean)) (by decide) rfl ?_
  intro p e s m args below meth c s₁ B hml hv
  obtain ⟨rfl, hsz, hP, hK, hD0, hE⟩ := hv
  have hx := B.exec
  have hb := B.bytes
  have hr := B.returns
  have hts := atoms_spec (ws := wK_X12_isFresh) B.pre
  have hown : s.vm.findClass RX12 = some m.cls := findClass_of_methodNamed B.named
  have hlocks := B.notSynchronized
  subst hsz
  have hD := hD0.self (sz := s.heap.size)
  generalize hAe : va_A [(h, .inr (13, fs))] s.heap.size = A at hD hE ⊢
  have hA : ∀ q : Nat, s.heap.size ≤ q → A q := fun q h => by rw [← hAe]; exact Or.inr h
  have hS : va_S A s.heap s.heap [] := va_S.rf
  have hP : va_P D vwCl [(h, .inr (13, fs))] s.heap := hP
  have hl := lv_entry ([.ref h, .int f]) (n := 2) (Nat.le_of_ble_eq_true rfl)
  rw [lg_entry_eq]
  generalize (lg_sl ([.ref h, .int f]) ++ List.replicate (2 - (lg_sl ([.ref h, .int f])).length) Slot.unset).toArray = ls at hl ⊢
  have hl : lv_has ls 2 [(0, .ref h), (1, .int f)] := hl
  refine lv_aload_n hx hb dX12_isFresh_0 rfl (lv_at hl 0 rfl) ?_
  refine lv_aload_n hx hb dX12_isFresh_1 rfl (lv_at hl 0 rfl) ?_
  refine lv_iload_n hx hb dX12_isFresh_2 rfl (lv_at hl 1 rfl) ?_
  have hPc := hP.sub (ws' := [(h, .inr (13, fs))]) [0] rfl
  have hDc := hD.sub (ws' := [(h, .inr (13, fs))]) [0] (by decide) rfl
  have hFc := va_free (wc := [(h, .inr (13, fs))]) hD hS hA [0] rfl
  refine va_calli (va_runV (As := [.int f]) (rest := [.ref h]) ⟨hx, hb, hml, hown, hts⟩ (c_X12_isNode l D dT s.heap.size h fs tm f hF) (cwV 1 hts (goodIn_app (goodIn_r _ [1, 2, 3, 4] rfl (by decide +kernel)) (goodIn_sub wq_X12_isFresh_X12_isNode gd_X12_isNode)) rfl rfl rfl (by decide +kernel) ⟨Nat.le_of_ble_eq_true rfl, Nat.le_of_ble_eq_true rfl⟩) ⟨(fun a U g mk q => by obtain ⟨z0, z1, zP, zK, zD, zE⟩ := q; exact ⟨z0, z1, zP, va_K.moved (u := U) (U := U.calling g mk a) (Vm.Alike.refl U.vm) zK, zD, EN.frame zE⟩), va_recv hK hP (ci := 13) (q0 := 0) rfl rfl, fun U hU hW => ⟨rfl, by rw [hU], by rw [hU]; exact hPc, va_K.moved hW.alike hK, hDc.weaken (fun _ _ _ _ => trivial), EN.call hE hS hFc hW hU⟩⟩ rfl rfl hl.1 rfl (lv_room (Nat.le_of_ble_eq_true rfl)) dX12_isFresh_3 ⟨(Nat.le_of_ble_eq_true rfl), (Nat.le_of_ble_eq_true rfl)⟩) hS (fun q _ h => hFc q h) hFc (fun r_1 u_2 t H1 locs ht hvm hw hB hz1 hk1 hS => ?_)
  obtain ⟨-, hP1, hK1, hD1⟩ := hB
  rw [ht] at hP1
  obtain ⟨hP, hD⟩ := va_join (wr := []) (w1 := [(h, .inr (13, fs))]) hP hD [0] [] rfl rfl (by decide) (by decide) hk1 hFc hP1 hD1
  generalize H1 = H at hP hS ⊢
  have hP : va_P D vwCl [(h, .inr (13, fs))] H := hP
  have hD : va_D A [(h, .inr (13, fs))] := hD
  refine W.widen (k := 0) (n := 0) (Nat.le_of_ble_eq_true rfl) (Nat.le_of_ble_eq_true rfl) ?_
  have hw_3 := hw
  try dsimp only at hw_3
  obtain rfl : r_1 = 0 := hw_3
  refine lv_iconst (v := 1) hx hb dX12_isFresh_6 (by decide) ?_
  refine lv_iconst (v := 1) hx hb dX12_isFresh_7 (by decide) ?_
  have hPc := hP.sub (ws' := [(h, .inr (13, fs))]) [0] rfl
  have hDc := hD.sub (ws' := [(h, .inr (13, fs))]) [0] (by decide) rfl
  have hFc := va_free (wc := [(h, .inr (13, fs))]) hD hS hA [0] rfl
  refine va_calli (va_runV (As := [.int 0, .int 1, .int 1]) (rest := []) ⟨hx, hb, hml, hown, hts⟩ (c_X12_goes_f l D dT H.size h fs 1 1 (FM.len hF)) (cwV 3 hts (goodIn_app (goodIn_r _ [5, 6, 7, 4] rfl (by decide +kernel)) (goodIn_sub wq_X12_isFresh_X12_goes_f gd_X12_goes_f)) rfl rfl rfl (by decide +kernel) ⟨Nat.le_of_ble_eq_true rfl, Nat.le_of_ble_eq_true rfl⟩) ⟨(fun a U g mk q => by obtain ⟨z0, z1, zP, zK, zD, zE⟩ := q; exact ⟨z0, z1, zP, va_K.moved (u := U) (U := U.calling g mk a) (Vm.Alike.refl U.vm) zK, zD, EN.frame zE⟩), va_recv hK hP (ci := 13) (q0 := 0) rfl rfl, fun U hU hW => ⟨rfl, by rw [hU], by rw [hU]; exact hPc, va_K.moved hW.alike hK, hDc.weaken (fun _ _ _ _ => trivial), EN.call hE hS hFc hW hU⟩⟩ rfl rfl hl.1 rfl (lv_room (Nat.le_of_ble_eq_true rfl)) dX12_isFresh_8 ⟨(Nat.le_of_ble_eq_true rfl), (Nat.le_of_ble_eq_true rfl)⟩) hS (fun q _ h => hFc q h) hFc (fun r_4 u_5 t H1 locs ht hvm hw hB hz1 hk1 hS => ?_)
  obtain ⟨-, hP1, hK1, hD1⟩ := hB
  rw [ht] at hP1
  obtain ⟨hP, hD⟩ := va_join (wr := []) (w1 := [(h, .inr (13, (List.set fs 25 (.int 1))))]) hP hD [0] [] rfl rfl (by decide) (by decide) hk1 hFc hP1 hD1
  generalize H1 = H at hP hS ⊢
  have hP : va_P D vwCl [(h, .inr (13, (List.set fs 25 (.int 1))))] H := hP
  have hD : va_D A [(h, .inr (13, (List.set fs 25 (.int 1))))] := hD
  refine W.widen (k := 0) (n := 0) (Nat.le_of_ble_eq_true rfl) (Nat.le_of_ble_eq_true rfl) ?_
  have hw_6 := hw
  try dsimp only at hw_6
  obtain rfl : r_4 = 0 := hw_6
  refine lv_if_ne (tgt := 16) hx hb dX12_isFresh_11 (by decide) (fun c_7 => absurd (by decide) c_7) (fun _ => ?_)
  refine lv_iconst (v := 0) hx hb dX12_isFresh_14 (by decide) ?_
  have hP9 := hP.sub (ws' := [(h, .inr (13, (List.set fs 25 (.int 1))))]) [0] rfl
  have hD9 := hD.sub (ws' := [(h, .inr (13, (List.set fs 25 (.int 1))))]) [0] (by decide) rfl
  exact W.zret (v := 0) hx hb hr rfl (fun t ht hW => ⟨⟨_, (), rfl, rfl, (List.set fs 25 (.int 1)), (ls_self (FM.len hF) (Nat.le_of_ble_eq_true rfl)), by rw [ht]; exact hP9, va_K.moved hW.alike hK, hD9⟩, hS.F ht⟩) hS.2.2 dX12_isFresh_15
