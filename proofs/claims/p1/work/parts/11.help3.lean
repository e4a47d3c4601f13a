def wD_L_result : List Cond := [.methodLink RL 80 yX11_result, .instanceMethod yX11_result, .selects RX11 yX11_result yX11_result, .initialized RX11, .classLink RL 13 "java/lang/IllegalArgumentException", .classLink RL 17 "java/lang/IllegalStateException"]
def wK_L_result : List Cond := .codeWith yL_result cL_result 5 (some .int) [(0, 10, 13, 13), (0, 10, 17, 17), (0, 10, 21, 15)] :: (wD_L_result ++ (wK_X11_result ++ ([] : List Cond)))
theorem wd_L_result : ∀ w ∈ wD_L_result, w ∈ wK_L_result := fun w h => List.mem_cons_of_mem _ (List.mem_append_left _ h)
theorem gd_L_result : (wK_L_result).all goodWord = true := by decide +kernel
theorem wq_L_result_X11_result : ∀ w ∈ wK_X11_result, w ∈ wK_L_result := fun w h => List.mem_cons_of_mem _ (List.mem_append_right _ (List.mem_append_left _ h))
set_option maxHeartbeats 4000000 in
set_option maxRecDepth 100000 in
/-- the law asks the class: result -/
theorem c_L_result (l : Launch) (hfl : l.flags = flags0) (D : va_G) (dT : Nat → ClassId) (sz : Nat) (h : Nat) (q_program : Nat) (q_finder : Nat) (q_sight : Nat) (q_running : Nat) (q_kept : Nat) (n : Int32) (o : Int32) (oo : Nat) (go : Nat → Int64) : Met l yL_result wK_L_result ({ frames := 8, cells := 2, slots := 12, locals := 126 }) (va_Pc [.ref h, .int n, .int o, .ref oo] (fun U => U.heap.size = sz ∧ va_P D vwCl [(h, .inr (12, [.ref q_program, .ref q_finder, .ref q_sight, .ref q_running, .ref q_kept, .int 0])), (oo, .inl (dT 1, 1, .inr (.inl go)))] U.heap ∧ va_K D vwCl (tysW dT) U ∧ va_D (fun _ => True) [(h, .inr (12, [.ref q_program, .ref q_finder, .ref q_sight, .ref q_running, .ref q_kept, .int 0])), (oo, .inl (dT 1, 1, .inr (.inl go)))] ∧ EN (va_A [(h, .inr (12, [.ref q_program, .ref q_finder, .ref q_sight, .ref q_running, .ref q_kept, .int 0])), (oo, .inl (dT 1, 1, .inr (.inl go)))] sz) U)) (va_Qi (fun (r : Int32) (o2 : Nat → Int64) => r = sp_res n ∧ (r = 0 → o2 0 = 0)) (fun (o2 : Nat → Int64) t => True ∧ va_P D vwCl [(oo, .inl (dT 1, 1, .inr (.inl o2)))] t.heap ∧ va_K D vwCl (tysW dT) t ∧ va_D (va_A [(h, .inr (12, [.ref q_program, .ref q_finder, .ref q_sight, .ref q_running, .ref q_kept, .int 0])), (oo, .inl (dT 1, 1, .inr (.inl go)))] sz) [(oo, .inl (dT 1, 1, .inr (.inl o2)))]) (va_A [(h, .inr (12, [.ref q_program, .ref q_finder, .ref q_sight, .ref q_running, .ref q_kept, .int 0])), (oo, .inl (dT 1, 1, .inr (.inl go)))] sz)) 2 12 (va_A [(h, .inr (12, [.ref q_program, .ref q_finder, .ref q_sight, .ref q_running, .ref q_kept, .int 0])), (oo, .inl (dT 1, 1, .inr (.inl go)))] sz) := by
  refine va_MetW (cc := cL_result) (maxL := 5) (ret := (some .int)) (by decide) rfl ?_
  intro p e s m args below meth c s₁ B hml hv
  obtain ⟨rfl, hsz, hP, hK, hD0, hE⟩ := hv
  have hx := B.exec
  have hb := B.bytes
  have hr := B.returns
  have hts := atoms_spec (ws := wK_L_result) B.pre
  have hown : s.vm.findClass RL = some m.cls := findClass_of_methodNamed B.named
  have hlocks := B.notSynchronized
  subst hsz
  have hD := hD0.self (sz := s.heap.size)
  generalize hAe : va_A [(h, .inr (12, [.ref q_program, .ref q_finder, .ref q_sight, .ref q_running, .ref q_kept, .int 0])), (oo, .inl (dT 1, 1, .inr (.inl go)))] s.heap.size = A at hD hE ⊢
  have hA : ∀ q : Nat, s.heap.size ≤ q → A q := fun q h => by rw [← hAe]; exact Or.inr h
  have hS : va_S A s.heap s.heap [] := va_S.rf
  have hP : va_P D vwCl [(h, .inr (12, [.ref q_program, .ref q_finder, .ref q_sight, .ref q_running, .ref q_kept, .int 0])), (oo, .inl (dT 1, 1, .inr (.inl go)))] s.heap := hP
  have hl := lv_entry ([.ref h, .int n, .int o, .ref oo]) (n := 5) (Nat.le_of_ble_eq_true rfl)
  rw [lg_entry_eq]
  generalize (lg_sl ([.ref h, .int n, .int o, .ref oo]) ++ List.replicate (5 - (lg_sl ([.ref h, .int n, .int o, .ref oo])).length) Slot.unset).toArray = ls at hl ⊢
  have hl : lv_has ls 5 [(0, .ref h), (1, .int n), (2, .int o), (3, .ref oo)] := hl
  refine lv_aload_n hx hb dL_result_0 rfl (lv_at hl 3 rfl) ?_
  refine lv_iconst (v := 0) hx hb dL_result_1 (by decide) ?_
  refine lv_aload_n hx hb dL_result_2 rfl (lv_at hl 0 rfl) ?_
  refine lv_iload_n hx hb dL_result_3 rfl (lv_at hl 1 rfl) ?_
  refine lv_iload_n hx hb dL_result_4 rfl (lv_at hl 2 rfl) ?_
  have hPc := hP.sub (ws' := [(h, .inr (12, [.ref q_program, .ref q_finder, .ref q_sight, .ref q_running, .ref q_kept, .int 0]))]) [0] rfl
  have hDc := hD.sub (ws' := [(h, .inr (12, [.ref q_program, .ref q_finder, .ref q_sight, .ref q_running, .ref q_kept, .int 0]))]) [0] (by decide) rfl
  have hFc := va_free (wc := [(h, .inr (12, [.ref q_program, .ref q_finder, .ref q_sight, .ref q_running, .ref q_kept, .int 0]))]) hD hS hA [0] rfl
  refine vx_callv (vx_runV (As := [.int n, .int o]) (rest := [.int 0, .ref oo]) ⟨hx, hb, hml, hown, hts⟩ (c_X11_result l hfl D dT s.heap.size h q_program q_finder q_sight q_running q_kept n o) (cwV 2 hts (goodIn_app (goodIn_r _ [1, 2, 3, 4] rfl (by decide +kernel)) (goodIn_sub wq_L_result_X11_result gd_X11_result)) rfl rfl rfl (by decide +kernel) ⟨Nat.le_of_ble_eq_true rfl, Nat.le_of_ble_eq_true rfl⟩) ⟨(fun a U g mk q => by obtain ⟨z0, z1, zP, zK, zD, zE⟩ := q; exact ⟨z0, z1, zP, va_K.moved (u := U) (U := U.calling g mk a) (Vm.Alike.refl U.vm) zK, zD, EN.frame zE⟩), va_recv hK hP (ci := 12) (q0 := 0) rfl rfl, fun U hU hW => ⟨rfl, by rw [hU], by rw [hU]; exact hPc, va_K.moved hW.alike hK, hDc.weaken (fun _ _ _ _ => trivial), EN.call hE hS hFc hW hU⟩⟩ rfl rfl hl.1 rfl (lv_room (Nat.le_of_ble_eq_true rfl)) dL_result_5 ⟨(Nat.le_of_ble_eq_true rfl), (Nat.le_of_ble_eq_true rfl)⟩) hS (fun q _ h => hFc q h) hFc (fun q _ h => hFc q h) (fun E9 ce9 q9 u9 t9 H locs ht9 hvm9 hw9 hB9 hz9 hk9 hS hce hcv hcl => ?_) (fun u_1 t H1 locs ht hvm hw hB hz1 hk1 hS => hw.elim)
  rcases hB9 with ⟨rfl, hsp⟩ | ⟨rfl, hsp⟩
  · obtain ⟨hP, hD⟩ := va_join (wr := [(oo, .inl (dT 1, 1, .inr (.inl go)))]) (w1 := []) hP hD [0] [1] rfl rfl (by decide) (by decide) hk9 hFc (fun k q h => by simp at h) ⟨fun i j p q h => by simp at h, fun k q h => by simp at h⟩
    have hP : va_P D vwCl [(oo, .inl (dT 1, 1, .inr (.inl go)))] H := hP
    have hD : va_D A [(oo, .inl (dT 1, 1, .inr (.inl go)))] := hD
    refine vx_widen (k := 2) (n := 12) (Nat.le_of_ble_eq_true rfl) (Nat.le_of_ble_eq_true rfl) ?_
    refine vx_catch (E := "java/lang/IllegalArgumentException") (name := "java/lang/IllegalArgumentException") hown [] (⟨0, 10, 13, 13⟩ : ExceptionTableEntry) [(⟨0, 10, 17, 17⟩ : ExceptionTableEntry), (⟨0, 10, 21, 15⟩ : ExceptionTableEntry)] (vx_table (x := yL_result) B (hts _ List.mem_cons_self)) (fun z hz => nomatch hz) (by decide) (by decide) (hts (.classLink RL 13 "java/lang/IllegalArgumentException") (wd_L_result _ (List.mem_of_getElem? (i := 4) rfl))) (hE.1.cast "java/lang/IllegalArgumentException" (by decide +kernel)) hce hcv hcl ?_
    refine W.eq (g2 := F0 m 13 ls [.ref q9]) rfl ?_
    refine lv_astore (lv' := [(4, .ref q9), (0, .ref h), (1, .int n), (2, .int o), (3, .ref oo)]) hx hb dL_result_13 hl (by decide) rfl (fun ls hl => ?_)
    refine lv_iconst (v := 1) hx hb dL_result_15 (by decide) ?_
    have hP9 := hP.sub (ws' := [(oo, .inl (dT 1, 1, .inr (.inl go)))]) [0] rfl
    have hD9 := hD.sub (ws' := [(oo, .inl (dT 1, 1, .inr (.inl go)))]) [0] (by decide) rfl
    exact W.iret (v := 1) hx hb hr (fun t ht hW => ⟨⟨_, (go), rfl, ⟨hsp.symm, fun h9 => absurd h9 (by decide)⟩, trivial, by rw [ht]; exact hP9, va_K.moved hW.alike hK, hD9⟩, hS.F ht⟩) hS.2.2 dL_result_16
  · obtain ⟨hP, hD⟩ := va_join (wr := [(oo, .inl (dT 1, 1, .inr (.inl go)))]) (w1 := []) hP hD [0] [1] rfl rfl (by decide) (by decide) hk9 hFc (fun k q h => by simp at h) ⟨fun i j p q h => by simp at h, fun k q h => by simp at h⟩
    have hP : va_P D vwCl [(oo, .inl (dT 1, 1, .inr (.inl go)))] H := hP
    have hD : va_D A [(oo, .inl (dT 1, 1, .inr (.inl go)))] := hD
    refine vx_widen (k := 2) (n := 12) (Nat.le_of_ble_eq_true rfl) (Nat.le_of_ble_eq_true rfl) ?_
    refine vx_catch (E := "java/lang/IllegalStateException") (name := "java/lang/IllegalStateException") hown [(⟨0, 10, 13, 13⟩ : ExceptionTableEntry)] (⟨0, 10, 17, 17⟩ : ExceptionTableEntry) [(⟨0, 10, 21, 15⟩ : ExceptionTableEntry)] (vx_table (x := yL_result) B (hts _ List.mem_cons_self)) (by intro z hz; simp only [List.mem_cons, List.not_mem_nil, or_false] at hz; subst hz; exact Or.inr ⟨by decide, "java/lang/IllegalArgumentException", (hts (.classLink RL 13 "java/lang/IllegalArgumentException") (wd_L_result _ (List.mem_of_getElem? (i := 4) rfl))), hE.1.nc "java/lang/IllegalStateException" "java/lang/IllegalArgumentException" (by decide +kernel)⟩) (by decide) (by decide) (hts (.classLink RL 17 "java/lang/IllegalStateException") (wd_L_result _ (List.mem_of_getElem? (i := 5) rfl))) (hE.1.cast "java/lang/IllegalStateException" (by decide +kernel)) hce hcv hcl ?_
    refine W.eq (g2 := F0 m 17 ls [.ref q9]) rfl ?_
    refine lv_astore (lv' := [(4, .ref q9), (0, .ref h), (1, .int n), (2, .int o), (3, .ref oo)]) hx hb dL_result_17 hl (by decide) rfl (fun ls hl => ?_)
    refine lv_iconst (v := 2) hx hb dL_result_19 (by decide) ?_
    have hP9 := hP.sub (ws' := [(oo, .inl (dT 1, 1, .inr (.inl go)))]) [0] rfl
    have hD9 := hD.sub (ws' := [(oo, .inl (dT 1, 1, .inr (.inl go)))]) [0] (by decide) rfl
    exact W.iret (v := 2) hx hb hr (fun t ht hW => ⟨⟨_, (go), rfl, ⟨hsp.symm, fun h9 => absurd h9 (by decide)⟩, trivial, by rw [ht]; exact hP9, va_K.moved hW.alike hK, hD9⟩, hS.F ht⟩) hS.2.2 dL_result_20

def wD_L_log : List Cond := [.methodLink RL 83 yX11_log, .instanceMethod yX11_log, .selects RX11 yX11_log yX11_log, .initialized RX11, .classLink RL 15 "java/lang/IndexOutOfBoundsException"]
def wK_L_log : List Cond := .codeWith yL_log cL_log 4 (some .int) [(0, 9, 12, 15)] :: (wD_L_log ++ (wK_X11_log ++ ([] : List Cond)))
theorem wd_L_log : ∀ w ∈ wD_L_log, w ∈ wK_L_log := fun w h => List.mem_cons_of_mem _ (List.mem_append_left _ h)
theorem gd_L_log : (wK_L_log).all goodWord = true := by decide +kernel
theorem wq_L_log_X11_log : ∀ w ∈ wK_X11_log, w ∈ wK_L_log := fun w h => List.mem_cons_of_mem _ (List.mem_append_right _ (List.mem_append_left _ h))
set_option maxHeartbeats 4000000 in
set_option maxRecDepth 100000 in
/-- the law asks the class: log -/
theorem c_L_log (l : Launch) (hfl : l.flags = flags0) (D : va_G) (dT : Nat → ClassId) (sz : Nat) (h : Nat) (q_program : Nat) (q_finder : Nat) (q_sight : Nat) (q_running : Nat) (q_kept : Nat) (n : Int32) (oo : Nat) (go : Nat → Int64) : Met l yL_log wK_L_log ({ frames := 7, cells := 1, slots := 6, locals := 103 }) (va_Pc [.ref h, .int n, .ref oo] (fun U => U.heap.size = sz ∧ va_P D vwCl [(h, .inr (12, [.ref q_program, .ref q_finder, .ref q_sight, .ref q_running, .ref q_kept, .int 0])), (oo, .inl (dT 1, 1, .inr (.inl go)))] U.heap ∧ va_K D vwCl (tysW dT) U ∧ va_D (fun _ => True) [(h, .inr (12, [.ref q_program, .ref q_finder, .ref q_sight, .ref q_running, .ref q_kept, .int 0])), (oo, .inl (dT 1, 1, .inr (.inl go)))] ∧ EN (va_A [(h, .inr (12, [.ref q_program, .ref q_finder, .ref q_sight, .ref q_running, .ref q_kept, .int 0])), (oo, .inl (dT 1, 1, .inr (.inl go)))] sz) U)) (va_Qi (fun (r : Int32) (o2 : Nat → Int64) => r = 1 ∧ (r = 0 → o2 0 = 0)) (fun (o2 : Nat → Int64) t => True ∧ va_P D vwCl [(oo, .inl (dT 1, 1, .inr (.inl o2)))] t.heap ∧ va_K D vwCl (tysW dT) t ∧ va_D (va_A [(h, .inr (12, [.ref q_program, .ref q_finder, .ref q_sight, .ref q_running, .ref q_kept, .int 0])), (oo, .inl (dT 1, 1, .inr (.inl go)))] sz) [(oo, .inl (dT 1, 1, .inr (.inl o2)))]) (va_A [(h, .inr (12, [.ref q_program, .ref q_finder, .ref q_sight, .ref q_running, .ref q_kept, .int 0])), (oo, .inl (dT 1, 1, .inr (.inl go)))] sz)) 1 6 (va_A [(h, .inr (12, [.ref q_program, .ref q_finder, .ref q_sight, .ref q_running, .ref q_kept, .int 0])), (oo, .inl (dT 1, 1, .inr (.inl go)))] sz) := by
  refine va_MetW (cc := cL_log) (maxL := 4) (ret := (some .int)) (by decide) rfl ?_
  intro p e s m args below meth c s₁ B hml hv
  obtain ⟨rfl, hsz, hP, hK, hD0, hE⟩ := hv
  have hx := B.exec
  have hb := B.bytes
  have hr := B.returns
  have hts := atoms_spec (ws := wK_L_log) B.pre
  have hown : s.vm.findClass RL = some m.cls := findClass_of_methodNamed B.named
  have hlocks := B.notSynchronized
  subst hsz
  have hD := hD0.self (sz := s.heap.size)
  generalize hAe : va_A [(h, .inr (12, [.ref q_program, .ref q_finder, .ref q_sight, .ref q_running, .ref q_kept, .int 0])), (oo, .inl (dT 1, 1, .inr (.inl go)))] s.heap.size = A at hD hE ⊢
  have hA : ∀ q : Nat, s.heap.size ≤ q → A q := fun q h => by rw [← hAe]; exact Or.inr h
  have hS : va_S A s.heap s.heap [] := va_S.rf
  have hP : va_P D vwCl [(h, .inr (12, [.ref q_program, .ref q_finder, .ref q_sight, .ref q_running, .ref q_kept, .int 0])), (oo, .inl (dT 1, 1, .inr (.inl go)))] s.heap := hP
  have hl := lv_entry ([.ref h, .int n, .ref oo]) (n := 4) (Nat.le_of_ble_eq_true rfl)
  rw [lg_entry_eq]
  generalize (lg_sl ([.ref h, .int n, .ref oo]) ++ List.replicate (4 - (lg_sl ([.ref h, .int n, .ref oo])).length) Slot.unset).toArray = ls at hl ⊢
  have hl : lv_has ls 4 [(0, .ref h), (1, .int n), (2, .ref oo)] := hl
  refine lv_aload_n hx hb dL_log_0 rfl (lv_at hl 2 rfl) ?_
  refine lv_iconst (v := 0) hx hb dL_log_1 (by decide) ?_
  refine lv_aload_n hx hb dL_log_2 rfl (lv_at hl 0 rfl) ?_
  refine lv_iload_n hx hb dL_log_3 rfl (lv_at hl 1 rfl) ?_
  have hPc := hP.sub (ws' := [(h, .inr (12, [.ref q_program, .ref q_finder, .ref q_sight, .ref q_running, .ref q_kept, .int 0]))]) [0] rfl
  have hDc := hD.sub (ws' := [(h, .inr (12, [.ref q_program, .ref q_finder, .ref q_sight, .ref q_running, .ref q_kept, .int 0]))]) [0] (by decide) rfl
  have hFc := va_free (wc := [(h, .inr (12, [.ref q_program, .ref q_finder, .ref q_sight, .ref q_running, .ref q_kept, .int 0]))]) hD hS hA [0] rfl
  refine vx_callv (vx_runV (As := [.int n]) (rest := [.int 0, .ref oo]) ⟨hx, hb, hml, hown, hts⟩ (c_X11_log l hfl D dT s.heap.size h q_program q_finder q_sight q_running q_kept n) (cwV 1 hts (goodIn_app (goodIn_r _ [1, 2, 3, 4] rfl (by decide +kernel)) (goodIn_sub wq_L_log_X11_log gd_X11_log)) rfl rfl rfl (by decide +kernel) ⟨Nat.le_of_ble_eq_true rfl, Nat.le_of_ble_eq_true rfl⟩) ⟨(fun a U g mk q => by obtain ⟨z0, z1, zP, zK, zD, zE⟩ := q; exact ⟨z0, z1, zP, va_K.moved (u := U) (U := U.calling g mk a) (Vm.Alike.refl U.vm) zK, zD, EN.frame zE⟩), va_recv hK hP (ci := 12) (q0 := 0) rfl rfl, fun U hU hW => ⟨rfl, by rw [hU], by rw [hU]; exact hPc, va_K.moved hW.alike hK, hDc.weaken (fun _ _ _ _ => trivial), EN.call hE hS hFc hW hU⟩⟩ rfl rfl hl.1 rfl (lv_room (Nat.le_of_ble_eq_true rfl)) dL_log_4 ⟨(Nat.le_of_ble_eq_true rfl), (Nat.le_of_ble_eq_true rfl)⟩) hS (fun q _ h => hFc q h) hFc (fun q _ h => hFc q h) (fun E9 ce9 q9 u9 t9 H locs ht9 hvm9 hw9 hB9 hz9 hk9 hS hce hcv hcl => ?_) (fun u_1 t H1 locs ht hvm hw hB hz1 hk1 hS => hw.elim)
  obtain rfl : E9 = "java/lang/IndexOutOfBoundsException" := hB9
  obtain ⟨hP, hD⟩ := va_join (wr := [(oo, .inl (dT 1, 1, .inr (.inl go)))]) (w1 := []) hP hD [0] [1] rfl rfl (by decide) (by decide) hk9 hFc (fun k q h => by simp at h) ⟨fun i j p q h => by simp at h, fun k q h => by simp at h⟩
  have hP : va_P D vwCl [(oo, .inl (dT 1, 1, .inr (.inl go)))] H := hP
  have hD : va_D A [(oo, .inl (dT 1, 1, .inr (.inl go)))] := hD
  refine vx_widen (k := 1) (n := 6) (Nat.le_of_ble_eq_true rfl) (Nat.le_of_ble_eq_true rfl) ?_
  refine vx_catch (E := "java/lang/IndexOutOfBoundsException") (name := "java/lang/IndexOutOfBoundsException") hown [] (⟨0, 9, 12, 15⟩ : ExceptionTableEntry) [] (vx_table (x := yL_log) B (hts _ List.mem_cons_self)) (fun z hz => nomatch hz) (by decide) (by decide) (hts (.classLink RL 15 "java/lang/IndexOutOfBoundsException") (wd_L_log _ (List.mem_of_getElem? (i := 4) rfl))) (hE.1.cast "java/lang/IndexOutOfBoundsException" (by decide +kernel)) hce hcv hcl ?_
  refine W.eq (g2 := F0 m 12 ls [.ref q9]) rfl ?_
  refine lv_astore_n (lv' := [(3, .ref q9), (0, .ref h), (1, .int n), (2, .ref oo)]) hx hb dL_log_12 rfl hl (by decide) rfl (fun ls hl => ?_)
  refine lv_iconst (v := 1) hx hb dL_log_13 (by decide) ?_
  have hP9 := hP.sub (ws' := [(oo, .inl (dT 1, 1, .inr (.inl go)))]) [0] rfl
  have hD9 := hD.sub (ws' := [(oo, .inl (dT 1, 1, .inr (.inl go)))]) [0] (by decide) rfl
  exact W.iret (v := 1) hx hb hr (fun t ht hW => ⟨⟨_, (go), rfl, ⟨rfl, fun h9 => absurd h9 (by decide)⟩, trivial, by rw [ht]; exact hP9, va_K.moved hW.alike hK, hD9⟩, hS.F ht⟩) hS.2.2 dL_log_14

def wD_L_build : List Cond := [.methodLink RL 86 yX11_build, .instanceMethod yX11_build, .selects RX11 yX11_build yX11_build, .initialized RX11, .classLink RL 15 "java/lang/IndexOutOfBoundsException"]
def wK_L_build : List Cond := .codeWith yL_build cL_build 4 (some .int) [(0, 9, 12, 15)] :: (wD_L_build ++ (wK_X11_build ++ ([] : List Cond)))
theorem wd_L_build : ∀ w ∈ wD_L_build, w ∈ wK_L_build := fun w h => List.mem_cons_of_mem _ (List.mem_append_left _ h)
theorem gd_L_build : (wK_L_build).all goodWord = true := by decide +kernel
theorem wq_L_build_X11_build : ∀ w ∈ wK_X11_build, w ∈ wK_L_build := fun w h => List.mem_cons_of_mem _ (List.mem_append_right _ (List.mem_append_left _ h))
set_option maxHeartbeats 4000000 in
set_option maxRecDepth 100000 in
/-- the law asks the class: build -/
theorem c_L_build (l : Launch) (hfl : l.flags = flags0) (D : va_G) (dT : Nat → ClassId) (sz : Nat) (h : Nat) (q_program : Nat) (q_finder : Nat) (q_sight : Nat) (q_running : Nat) (q_kept : Nat) (q_typeRows : Nat) (q_typeSizes : Nat) (q_typeNames : Nat) (q_likeTypes : Nat) (q_kinds : Nat) (q_firsts : Nat) (q_seconds : Nat) (q_thirds : Nat) (q_weights : Nat) (q_refNames : Nat) (q_likeExpressions : Nat) (q_versions : Nat) (q_versionCounts : Nat) (q_nodes : Nat) (ed : Value) (f : Int32) (oo : Nat) (go : Nat → Int64) : Met l yL_build wK_L_build ({ frames := 8, cells := 1, slots := 6, locals := 128 }) (va_Pc [.ref h, .int f, .ref oo] (fun U => U.heap.size = sz ∧ va_P D vwCl [(h, .inr (12, [.ref q_program, .ref q_finder, .ref q_sight, .ref q_running, .ref q_kept, .int 0])), (q_program, .inr (6, [.ref q_typeRows, .ref q_typeSizes, .ref q_typeNames, .ref q_likeTypes, .int 0, .ref q_kinds, .ref q_firsts, .ref q_seconds, .ref q_thirds, .ref q_weights, .ref q_refNames, .ref q_likeExpressions, .int 0, .ref q_versions, .ref q_versionCounts, .int 0, .ref q_nodes, .int 0])), (q_nodes, .inr (0, [.int 0, ed, .int 0])), (oo, .inl (dT 1, 1, .inr (.inl go)))] U.heap ∧ va_K D vwCl (tysW dT) U ∧ va_D (fun _ => True) [(h, .inr (12, [.ref q_program, .ref q_finder, .ref q_sight, .ref q_running, .ref q_kept, .int 0])), (q_program, .inr (6, [.ref q_typeRows, .ref q_typeSizes, .ref q_typeNames, .ref q_likeTypes, .int 0, .ref q_kinds, .ref q_firsts, .ref q_seconds, .ref q_thirds, .ref q_weights, .ref q_refNames, .ref q_likeExpressions, .int 0, .ref q_versions, .ref q_versionCounts, .int 0, .ref q_nodes, .int 0])), (q_nodes, .inr (0, [.int 0, ed, .int 0])), (oo, .inl (dT 1, 1, .inr (.inl go)))] ∧ EN (va_A [(h, .inr (12, [.ref q_program, .ref q_finder, .ref q_sight, .ref q_running, .ref q_kept, .int 0])), (q_program, .inr (6, [.ref q_typeRows, .ref q_typeSizes, .ref q_typeNames, .ref q_likeTypes, .int 0, .ref q_kinds, .ref q_firsts, .ref q_seconds, .ref q_thirds, .ref q_weights, .ref q_refNames, .ref q_likeExpressions, .int 0, .ref q_versions, .ref q_versionCounts, .int 0, .ref q_nodes, .int 0])), (q_nodes, .inr (0, [.int 0, ed, .int 0])), (oo, .inl (dT 1, 1, .inr (.inl go)))] sz) U)) (va_Qi (fun (r : Int32) (o2 : Nat → Int64) => r = 1 ∧ (r = 0 → o2 0 = 0)) (fun (o2 : Nat → Int64) t => True ∧ va_P D vwCl [(oo, .inl (dT 1, 1, .inr (.inl o2)))] t.heap ∧ va_K D vwCl (tysW dT) t ∧ va_D (va_A [(h, .inr (12, [.ref q_program, .ref q_finder, .ref q_sight, .ref q_running, .ref q_kept, .int 0])), (q_program, .inr (6, [.ref q_typeRows, .ref q_typeSizes, .ref q_typeNames, .ref q_likeTypes, .int 0, .ref q_kinds, .ref q_firsts, .ref q_seconds, .ref q_thirds, .ref q_weights, .ref q_refNames, .ref q_likeExpressions, .int 0, .ref q_versions, .ref q_versionCounts, .int 0, .ref q_nodes, .int 0])), (q_nodes, .inr (0, [.int 0, ed, .int 0])), (oo, .inl (dT 1, 1, .inr (.inl go)))] sz) [(oo, .inl (dT 1, 1, .inr (.inl o2)))]) (va_A [(h, .inr (12, [.ref q_program, .ref q_finder, .ref q_sight, .ref q_running, .ref q_kept, .int 0])), (q_program, .inr (6, [.ref q_typeRows, .ref q_typeSizes, .ref q_typeNames, .ref q_likeTypes, .int 0, .ref q_kinds, .ref q_firsts, .ref q_seconds, .ref q_thirds, .ref q_weights, .ref q_refNames, .ref q_likeExpressions, .int 0, .ref q_versions, .ref q_versionCounts, .int 0, .ref q_nodes, .int 0])), (q_nodes, .inr (0, [.int 0, ed, .int 0])), (oo, .inl (dT 1, 1, .inr (.inl go)))] sz)) 1 6 (va_A [(h, .inr (12, [.ref q_program, .ref q_finder, .ref q_sight, .ref q_running, .ref q_kept, .int 0])), (q_program, .inr (6, [.ref q_typeRows, .ref q_typeSizes, .ref q_typeNames, .ref q_likeTypes, .int 0, .ref q_kinds, .ref q_firsts, .ref q_seconds, .ref q_thirds, .ref q_weights, .ref q_refNames, .ref q_likeExpressions, .int 0, .ref q_versions, .ref q_versionCounts, .int 0, .ref q_nodes, .int 0])), (q_nodes, .inr (0, [.int 0, ed, .int 0])), (oo, .inl (dT 1, 1, .inr (.inl go)))] sz) := by
  refine va_MetW (cc := cL_build) (maxL := 4) (ret := (some .int)) (by decide) rfl ?_
  intro p e s m args below meth c s₁ B hml hv
  obtain ⟨rfl, hsz, hP, hK, hD0, hE⟩ := hv
  have hx := B.exec
  have hb := B.bytes
  have hr := B.returns
  have hts := atoms_spec (ws := wK_L_build) B.pre
  have hown : s.vm.findClass RL = some m.cls := findClass_of_methodNamed B.named
  have hlocks := B.notSynchronized
  subst hsz
  have hD := hD0.self (sz := s.heap.size)
  generalize hAe : va_A [(h, .inr (12, [.ref q_program, .ref q_finder, .ref q_sight, .ref q_running, .ref q_kept, .int 0])), (q_program, .inr (6, [.ref q_typeRows, .ref q_typeSizes, .ref q_typeNames, .ref q_likeTypes, .int 0, .ref q_kinds, .ref q_firsts, .ref q_seconds, .ref q_thirds, .ref q_weights, .ref q_refNames, .ref q_likeExpressions, .int 0, .ref q_versions, .ref q_versionCounts, .int 0, .ref q_nodes, .int 0])), (q_nodes, .inr (0, [.int 0, ed, .int 0])), (oo, .inl (dT 1, 1, .inr (.inl go)))] s.heap.size = A at hD hE ⊢
  have hA : ∀ q : Nat, s.heap.size ≤ q → A q := fun q h => by rw [← hAe]; exact Or.inr h
  have hS : va_S A s.heap s.heap [] := va_S.rf
  have hP : va_P D vwCl [(h, .inr (12, [.ref q_program, .ref q_finder, .ref q_sight, .ref q_running, .ref q_kept, .int 0])), (q_program, .inr (6, [.ref q_typeRows, .ref q_typeSizes, .ref q_typeNames, .ref q_likeTypes, .int 0, .ref q_kinds, .ref q_firsts, .ref q_seconds, .ref q_thirds, .ref q_weights, .ref q_refNames, .ref q_likeExpressions, .int 0, .ref q_versions, .ref q_versionCounts, .int 0, .ref q_nodes, .int 0])), (q_nodes, .inr (0, [.int 0, ed, .int 0])), (oo, .inl (dT 1, 1, .inr (.inl go)))] s.heap := hP
  have hl := lv_entry ([.ref h, .int f, .ref oo]) (n := 4) (Nat.le_of_ble_eq_true rfl)
  rw [lg_entry_eq]
  generalize (lg_sl ([.ref h, .int f, .ref oo]) ++ List.replicate (4 - (lg_sl ([.ref h, .int f, .ref oo])).length) Slot.unset).toArray = ls at hl ⊢
  have hl : lv_has ls 4 [(0, .ref h), (1, .int f), (2, .ref oo)] := hl
  refine lv_aload_n hx hb dL_build_0 rfl (lv_at hl 2 rfl) ?_
  refine lv_iconst (v := 0) hx hb dL_build_1 (by decide) ?_
  refine lv_aload_n hx hb dL_build_2 rfl (lv_at hl 0 rfl) ?_
  refine lv_iload_n hx hb dL_build_3 rfl (lv_at hl 1 rfl) ?_
  have hPc := hP.sub (ws' := [(h, .inr (12, [.ref q_program, .ref q_finder, .ref q_sight, .ref q_running, .ref q_kept, .int 0])), (q_program, .inr (6, [.ref q_typeRows, .ref q_typeSizes, .ref q_typeNames, .ref q_likeTypes, .int 0, .ref q_kinds, .ref q_firsts, .ref q_seconds, .ref q_thirds, .ref q_weights, .ref q_refNames, .ref q_likeExpressions, .int 0, .ref q_versions, .ref q_versionCounts, .int 0, .ref q_nodes, .int 0])), (q_nodes, .inr (0, [.int 0, ed, .int 0]))]) [0, 1, 2] rfl
  have hDc := hD.sub (ws' := [(h, .inr (12, [.ref q_program, .ref q_finder, .ref q_sight, .ref q_running, .ref q_kept, .int 0])), (q_program, .inr (6, [.ref q_typeRows, .ref q_typeSizes, .ref q_typeNames, .ref q_likeTypes, .int 0, .ref q_kinds, .ref q_firsts, .ref q_seconds, .ref q_thirds, .ref q_weights, .ref q_refNames, .ref q_likeExpressions, .int 0, .ref q_versions, .ref q_versionCounts, .int 0, .ref q_nodes, .int 0])), (q_nodes, .inr (0, [.int 0, ed, .int 0]))]) [0, 1, 2] (by decide) rfl
  have hFc := va_free (wc := [(h, .inr (12, [.ref q_program, .ref q_finder, .ref q_sight, .ref q_running, .ref q_kept, .int 0])), (q_program, .inr (6, [.ref q_typeRows, .ref q_typeSizes, .ref q_typeNames, .ref q_likeTypes, .int 0, .ref q_kinds, .ref q_firsts, .ref q_seconds, .ref q_thirds, .ref q_weights, .ref q_refNames, .ref q_likeExpressions, .int 0, .ref q_versions, .ref q_versionCounts, .int 0, .ref q_nodes, .int 0])), (q_nodes, .inr (0, [.int 0, ed, .int 0]))]) hD hS hA [0, 1, 2] rfl
  refine vx_callv (vx_runV (As := [.int f]) (rest := [.int 0, .ref oo]) ⟨hx, hb, hml, hown, hts⟩ (c_X11_build l hfl D dT s.heap.size h q_program q_finder q_sight q_running q_kept q_typeRows q_typeSizes q_typeNames q_likeTypes q_kinds q_firsts q_seconds q_thirds q_weights q_refNames q_likeExpressions q_versions q_versionCounts q_nodes ed f) (cwV 1 hts (goodIn_app (goodIn_r _ [1, 2, 3, 4] rfl (by decide +kernel)) (goodIn_sub wq_L_build_X11_build gd_X11_build)) rfl rfl rfl (by decide +kernel) ⟨Nat.le_of_ble_eq_true rfl, Nat.le_of_ble_eq_true rfl⟩) ⟨(fun a U g mk q => by obtain ⟨z0, z1, zP, zK, zD, zE⟩ := q; exact ⟨z0, z1, zP, va_K.moved (u := U) (U := U.calling g mk a) (Vm.Alike.refl U.vm) zK, zD, EN.frame zE⟩), va_recv hK hP (ci := 12) (q0 := 0) rfl rfl, fun U hU hW => ⟨rfl, by rw [hU], by rw [hU]; exact hPc, va_K.moved hW.alike hK, hDc.weaken (fun _ _ _ _ => trivial), EN.call hE hS hFc hW hU⟩⟩ rfl rfl hl.1 rfl (lv_room (Nat.le_of_ble_eq_true rfl)) dL_build_4 ⟨(Nat.le_of_ble_eq_true rfl), (Nat.le_of_ble_eq_true rfl)⟩) hS (fun q _ h => hFc q h) hFc (fun q _ h => hFc q h) (fun E9 ce9 q9 u9 t9 H locs ht9 hvm9 hw9 hB9 hz9 hk9 hS hce hcv hcl => ?_) (fun u_1 t H1 locs ht hvm hw hB hz1 hk1 hS => hw.elim)
  obtain rfl : E9 = "java/lang/IndexOutOfBoundsException" := hB9
  obtain ⟨hP, hD⟩ := va_join (wr := [(oo, .inl (dT 1, 1, .inr (.inl go)))]) (w1 := []) hP hD [0, 1, 2] [3] rfl rfl (by decide) (by decide) hk9 hFc (fun k q h => by simp at h) ⟨fun i j p q h => by simp at h, fun k q h => by simp at h⟩
  have hP : va_P D vwCl [(oo, .inl (dT 1, 1, .inr (.inl go)))] H := hP
  have hD : va_D A [(oo, .inl (dT 1, 1, .inr (.inl go)))] := hD
  refine vx_widen (k := 1) (n := 6) (Nat.le_of_ble_eq_true rfl) (Nat.le_of_ble_eq_true rfl) ?_
  refine vx_catch (E := "java/lang/IndexOutOfBoundsException") (name := "java/lang/IndexOutOfBoundsException") hown [] (⟨0, 9, 12, 15⟩ : ExceptionTableEntry) [] (vx_table (x := yL_build) B (hts _ List.mem_cons_self)) (fun z hz => nomatch hz) (by decide) (by decide) (hts (.classLink RL 15 "java/lang/IndexOutOfBoundsException") (wd_L_build _ (List.mem_of_getElem? (i := 4) rfl))) (hE.1.cast "java/lang/IndexOutOfBoundsException" (by decide +kernel)) hce hcv hcl ?_
  refine W.eq (g2 := F0 m 12 ls [.ref q9]) rfl ?_
  refine lv_astore_n (lv' := [(3, .ref q9), (0, .ref h), (1, .int f), (2, .ref oo)]) hx hb dL_build_12 rfl hl (by decide) rfl (fun ls hl => ?_)
  refine lv_iconst (v := 1) hx hb dL_build_13 (by decide) ?_
  have hP9 := hP.sub (ws' := [(oo, .inl (dT 1, 1, .inr (.inl go)))]) [0] rfl
  have hD9 := hD.sub (ws' := [(oo, .inl (dT 1, 1, .inr (.inl go)))]) [0] (by decide) rfl
  exact W.iret (v := 1) hx hb hr (fun t ht hW => ⟨⟨_, (go), rfl, ⟨rfl, fun h9 => absurd h9 (by decide)⟩, trivial, by rw [ht]; exact hP9, va_K.moved hW.alike hK, hD9⟩, hS.F ht⟩) hS.2.2 dL_build_14

def wD_L_compiled : List Cond := [.methodLink RL 89 yX11_compiled, .instanceMethod yX11_compiled, .selects RX11 yX11_compiled yX11_compiled, .initialized RX11, .classLink RL 15 "java/lang/IndexOutOfBoundsException"]
def wK_L_compiled : List Cond := .codeWith yL_compiled cL_compiled 4 (some .int) [(0, 9, 12, 15)] :: (wD_L_compiled ++ (wK_X11_compiled ++ ([] : List Cond)))
theorem wd_L_compiled : ∀ w ∈ wD_L_compiled, w ∈ wK_L_compiled := fun w h => List.mem_cons_of_mem _ (List.mem_append_left _ h)
theorem gd_L_compiled : (wK_L_compiled).all goodWord = true := by decide +kernel
theorem wq_L_compiled_X11_compiled : ∀ w ∈ wK_X11_compiled, w ∈ wK_L_compiled := fun w h => List.mem_cons_of_mem _ (List.mem_append_right _ (List.mem_append_left _ h))
set_option maxHeartbeats 4000000 in
set_option maxRecDepth 100000 in
/-- the law asks the class: compiled -/
theorem c_L_compiled (l : Launch) (hfl : l.flags = flags0) (D : va_G) (dT : Nat → ClassId) (sz : Nat) (h : Nat) (q_program : Nat) (q_finder : Nat) (q_sight : Nat) (q_running : Nat) (q_kept : Nat) (q_typeRows : Nat) (q_typeSizes : Nat) (q_typeNames : Nat) (q_likeTypes : Nat) (q_kinds : Nat) (q_firsts : Nat) (q_seconds : Nat) (q_thirds : Nat) (q_weights : Nat) (q_refNames : Nat) (q_likeExpressions : Nat) (q_versions : Nat) (q_versionCounts : Nat) (q_nodes : Nat) (ed : Value) (f : Int32) (oo : Nat) (go : Nat → Int64) : Met l yL_compiled wK_L_compiled ({ frames := 8, cells := 1, slots := 6, locals := 124 }) (va_Pc [.ref h, .int f, .ref oo] (fun U => U.heap.size = sz ∧ va_P D vwCl [(h, .inr (12, [.ref q_program, .ref q_finder, .ref q_sight, .ref q_running, .ref q_kept, .int 0])), (q_program, .inr (6, [.ref q_typeRows, .ref q_typeSizes, .ref q_typeNames, .ref q_likeTypes, .int 0, .ref q_kinds, .ref q_firsts, .ref q_seconds, .ref q_thirds, .ref q_weights, .ref q_refNames, .ref q_likeExpressions, .int 0, .ref q_versions, .ref q_versionCounts, .int 0, .ref q_nodes, .int 0])), (q_nodes, .inr (0, [.int 0, ed, .int 0])), (oo, .inl (dT 1, 1, .inr (.inl go)))] U.heap ∧ va_K D vwCl (tysW dT) U ∧ va_D (fun _ => True) [(h, .inr (12, [.ref q_program, .ref q_finder, .ref q_sight, .ref q_running, .ref q_kept, .int 0])), (q_program, .inr (6, [.ref q_typeRows, .ref q_typeSizes, .ref q_typeNames, .ref q_likeTypes, .int 0, .ref q_kinds, .ref q_firsts, .ref q_seconds, .ref q_thirds, .ref q_weights, .ref q_refNames, .ref q_likeExpressions, .int 0, .ref q_versions, .ref q_versionCounts, .int 0, .ref q_nodes, .int 0])), (q_nodes, .inr (0, [.int 0, ed, .int 0])), (oo, .inl (dT 1, 1, .inr (.inl go)))] ∧ EN (va_A [(h, .inr (12, [.ref q_program, .ref q_finder, .ref q_sight, .ref q_running, .ref q_kept, .int 0])), (q_program, .inr (6, [.ref q_typeRows, .ref q_typeSizes, .ref q_typeNames, .ref q_likeTypes, .int 0, .ref q_kinds, .ref q_firsts, .ref q_seconds, .ref q_thirds, .ref q_weights, .ref q_refNames, .ref q_likeExpressions, .int 0, .ref q_versions, .ref q_versionCounts, .int 0, .ref q_nodes, .int 0])), (q_nodes, .inr (0, [.int 0, ed, .int 0])), (oo, .inl (dT 1, 1, .inr (.inl go)))] sz) U)) (va_Qi (fun (r : Int32) (o2 : Nat → Int64) => r = 1 ∧ (r = 0 → o2 0 = 0)) (fun (o2 : Nat → Int64) t => True ∧ va_P D vwCl [(oo, .inl (dT 1, 1, .inr (.inl o2)))] t.heap ∧ va_K D vwCl (tysW dT) t ∧ va_D (va_A [(h, .inr (12, [.ref q_program, .ref q_finder, .ref q_sight, .ref q_running, .ref q_kept, .int 0])), (q_program, .inr (6, [.ref q_typeRows, .ref q_typeSizes, .ref q_typeNames, .ref q_likeTypes, .int 0, .ref q_kinds, .ref q_firsts, .ref q_seconds, .ref q_thirds, .ref q_weights, .ref q_refNames, .ref q_likeExpressions, .int 0, .ref q_versions, .ref q_versionCounts, .int 0, .ref q_nodes, .int 0])), (q_nodes, .inr (0, [.int 0, ed, .int 0])), (oo, .inl (dT 1, 1, .inr (.inl go)))] sz) [(oo, .inl (dT 1, 1, .inr (.inl o2)))]) (va_A [(h, .inr (12, [.ref q_program, .ref q_finder, .ref q_sight, .ref q_running, .ref q_kept, .int 0])), (q_program, .inr (6, [.ref q_typeRows, .ref q_typeSizes, .ref q_typeNames, .ref q_likeTypes, .int 0, .ref q_kinds, .ref q_firsts, .ref q_seconds, .ref q_thirds, .ref q_weights, .ref q_refNames, .ref q_likeExpressions, .int 0, .ref q_versions, .ref q_versionCounts, .int 0, .ref q_nodes, .int 0])), (q_nodes, .inr (0, [.int 0, ed, .int 0])), (oo, .inl (dT 1, 1, .inr (.inl go)))] sz)) 1 6 (va_A [(h, .inr (12, [.ref q_program, .ref q_finder, .ref q_sight, .ref q_running, .ref q_kept, .int 0])), (q_program, .inr (6, [.ref q_typeRows, .ref q_typeSizes, .ref q_typeNames, .ref q_likeTypes, .int 0, .ref q_kinds, .ref q_firsts, .ref q_seconds, .ref q_thirds, .ref q_weights, .ref q_refNames, .ref q_likeExpressions, .int 0, .ref q_versions, .ref q_versionCounts, .int 0, .ref q_nodes, .int 0])), (q_nodes, .inr (0, [.int 0, ed, .int 0])), (oo, .inl (dT 1, 1, .inr (.inl go)))] sz) := by
  refine va_MetW (cc := cL_compiled) (maxL := 4) (ret := (some .int)) (by decide) rfl ?_
  intro p e s m args below meth c s₁ B hml hv
  obtain ⟨rfl, hsz, hP, hK, hD0, hE⟩ := hv
  have hx := B.exec
  have hb := B.bytes
  have hr := B.returns
  have hts := atoms_spec (ws := wK_L_compiled) B.pre
  have hown : s.vm.findClass RL = some m.cls := findClass_of_methodNamed B.named
  have hlocks := B.notSynchronized
  subst hsz
  have hD := hD0.self (sz := s.heap.size)
  generalize hAe : va_A [(h, .inr (12, [.ref q_program, .ref q_finder, .ref q_sight, .ref q_running, .ref q_kept, .int 0])), (q_program, .inr (6, [.ref q_typeRows, .ref q_typeSizes, .ref q_typeNames, .ref q_likeTypes, .int 0, .ref q_kinds, .ref q_firsts, .ref q_seconds, .ref q_thirds, .ref q_weights, .ref q_refNames, .ref q_likeExpressions, .int 0, .ref q_versions, .ref q_versionCounts, .int 0, .ref q_nodes, .int 0])), (q_nodes, .inr (0, [.int 0, ed, .int 0])), (oo, .inl (dT 1, 1, .inr (.inl go)))] s.heap.size = A at hD hE ⊢
  have hA : ∀ q : Nat, s.heap.size ≤ q → A q := fun q h => by rw [← hAe]; exact Or.inr h
  have hS : va_S A s.heap s.heap [] := va_S.rf
  have hP : va_P D vwCl [(h, .inr (12, [.ref q_program, .ref q_finder, .ref q_sight, .ref q_running, .ref q_kept, .int 0])), (q_program, .inr (6, [.ref q_typeRows, .ref q_typeSizes, .ref q_typeNames, .ref q_likeTypes, .int 0, .ref q_kinds, .ref q_firsts, .ref q_seconds, .ref q_thirds, .ref q_weights, .ref q_refNames, .ref q_likeExpressions, .int 0, .ref q_versions, .ref q_versionCounts, .int 0, .ref q_nodes, .int 0])), (q_nodes, .inr (0, [.int 0, ed, .int 0])), (oo, .inl (dT 1, 1, .inr (.inl go)))] s.heap := hP
  have hl := lv_entry ([.ref h, .int f, .ref oo]) (n := 4) (Nat.le_of_ble_eq_true rfl)
  rw [lg_entry_eq]
  generalize (lg_sl ([.ref h, .int f, .ref oo]) ++ List.replicate (4 - (lg_sl ([.ref h, .int f, .ref oo])).length) Slot.unset).toArray = ls at hl ⊢
  have hl : lv_has ls 4 [(0, .ref h), (1, .int f), (2, .ref oo)] := hl
  refine lv_aload_n hx hb dL_compiled_0 rfl (lv_at hl 2 rfl) ?_
  refine lv_iconst (v := 0) hx hb dL_compiled_1 (by decide) ?_
  refine lv_aload_n hx hb dL_compiled_2 rfl (lv_at hl 0 rfl) ?_
  refine lv_iload_n hx hb dL_compiled_3 rfl (lv_at hl 1 rfl) ?_
  have hPc := hP.sub (ws' := [(h, .inr (12, [.ref q_program, .ref q_finder, .ref q_sight, .ref q_running, .ref q_kept, .int 0])), (q_program, .inr (6, [.ref q_typeRows, .ref q_typeSizes, .ref q_typeNames, .ref q_likeTypes, .int 0, .ref q_kinds, .ref q_firsts, .ref q_seconds, .ref q_thirds, .ref q_weights, .ref q_refNames, .ref q_likeExpressions, .int 0, .ref q_versions, .ref q_versionCounts, .int 0, .ref q_nodes, .int 0])), (q_nodes, .inr (0, [.int 0, ed, .int 0]))]) [0, 1, 2] rfl
  have hDc := hD.sub (ws' := [(h, .inr (12, [.ref q_program, .ref q_finder, .ref q_sight, .ref q_running, .ref q_kept, .int 0])), (q_program, .inr (6, [.ref q_typeRows, .ref q_typeSizes, .ref q_typeNames, .ref q_likeTypes, .int 0, .ref q_kinds, .ref q_firsts, .ref q_seconds, .ref q_thirds, .ref q_weights, .ref q_refNames, .ref q_likeExpressions, .int 0, .ref q_versions, .ref q_versionCounts, .int 0, .ref q_nodes, .int 0])), (q_nodes, .inr (0, [.int 0, ed, .int 0]))]) [0, 1, 2] (by decide) rfl
  have hFc := va_free (wc := [(h, .inr (12, [.ref q_program, .ref q_finder, .ref q_sight, .ref q_running, .ref q_kept, .int 0])), (q_program, .inr (6, [.ref q_typeRows, .ref q_typeSizes, .ref q_typeNames, .ref q_likeTypes, .int 0, .ref q_kinds, .ref q_firsts, .ref q_seconds, .ref q_thirds, .ref q_weights, .ref q_refNames, .ref q_likeExpressions, .int 0, .ref q_versions, .ref q_versionCounts, .int 0, .ref q_nodes, .int 0])), (q_nodes, .inr (0, [.int 0, ed, .int 0]))]) hD hS hA [0, 1, 2] rfl
  refine vx_callv (vx_runV (As := [.int f]) (rest := [.int 0, .ref oo]) ⟨hx, hb, hml, hown, hts⟩ (c_X11_compiled l hfl D dT s.heap.size h q_program q_finder q_sight q_running q_kept q_typeRows q_typeSizes q_typeNames q_likeTypes q_kinds q_firsts q_seconds q_thirds q_weights q_refNames q_likeExpressions q_versions q_versionCounts q_nodes ed f) (cwV 1 hts (goodIn_app (goodIn_r _ [1, 2, 3, 4] rfl (by decide +kernel)) (goodIn_sub wq_L_compiled_X11_compiled gd_X11_compiled)) rfl rfl rfl (by decide +kernel) ⟨Nat.le_of_ble_eq_true rfl, Nat.le_of_ble_eq_true rfl⟩) ⟨(fun a U g mk q => by obtain ⟨z0, z1, zP, zK, zD, zE⟩ := q; exact ⟨z0, z1, zP, va_K.moved (u := U) (U := U.calling g mk a) (Vm.Alike.refl U.vm) zK, zD, EN.frame zE⟩), va_recv hK hP (ci := 12) (q0 := 0) rfl rfl, fun U hU hW => ⟨rfl, by rw [hU], by rw [hU]; exact hPc, va_K.moved hW.alike hK, hDc.weaken (fun _ _ _ _ => trivial), EN.call hE hS hFc hW hU⟩⟩ rfl rfl hl.1 rfl (lv_room (Nat.le_of_ble_eq_true rfl)) dL_compiled_4 ⟨(Nat.le_of_ble_eq_true rfl), (Nat.le_of_ble_eq_true rfl)⟩) hS (fun q _ h => hFc q h) hFc (fun q _ h => hFc q h) (fun E9 ce9 q9 u9 t9 H locs ht9 hvm9 hw9 hB9 hz9 hk9 hS hce hcv hcl => ?_) (fun u_1 t H1 locs ht hvm hw hB hz1 hk1 hS => hw.elim)
  obtain rfl : E9 = "java/lang/IndexOutOfBoundsException" := hB9
  obtain ⟨hP, hD⟩ := va_join (wr := [(oo, .inl (dT 1, 1, .inr (.inl go)))]) (w1 := []) hP hD [0, 1, 2] [3] rfl rfl (by decide) (by decide) hk9 hFc (fun k q h => by simp at h) ⟨fun i j p q h => by simp at h, fun k q h => by simp at h⟩
  have hP : va_P D vwCl [(oo, .inl (dT 1, 1, .inr (.inl go)))] H := hP
  have hD : va_D A [(oo, .inl (dT 1, 1, .inr (.inl go)))] := hD
  refine vx_widen (k := 1) (n := 6) (Nat.le_of_ble_eq_true rfl) (Nat.le_of_ble_eq_true rfl) ?_
  refine vx_catch (E := "java/lang/IndexOutOfBoundsException") (name := "java/lang/IndexOutOfBoundsException") hown [] (⟨0, 9, 12, 15⟩ : ExceptionTableEntry) [] (vx_table (x := yL_compiled) B (hts _ List.mem_cons_self)) (fun z hz => nomatch hz) (by decide) (by decide) (hts (.classLink RL 15 "java/lang/IndexOutOfBoundsException") (wd_L_compiled _ (List.mem_of_getElem? (i := 4) rfl))) (hE.1.cast "java/lang/IndexOutOfBoundsException" (by decide +kernel)) hce hcv hcl ?_
  refine W.eq (g2 := F0 m 12 ls [.ref q9]) rfl ?_
  refine lv_astore_n (lv' := [(3, .ref q9), (0, .ref h), (1, .int f), (2, .ref oo)]) hx hb dL_compiled_12 rfl hl (by decide) rfl (fun ls hl => ?_)
  refine lv_iconst (v := 1) hx hb dL_compiled_13 (by decide) ?_
  have hP9 := hP.sub (ws' := [(oo, .inl (dT 1, 1, .inr (.inl go)))]) [0] rfl
  have hD9 := hD.sub (ws' := [(oo, .inl (dT 1, 1, .inr (.inl go)))]) [0] (by decide) rfl
  exact W.iret (v := 1) hx hb hr (fun t ht hW => ⟨⟨_, (go), rfl, ⟨rfl, fun h9 => absurd h9 (by decide)⟩, trivial, by rw [ht]; exact hP9, va_K.moved hW.alike hK, hD9⟩, hS.F ht⟩) hS.2.2 dL_compiled_14

def wD_L_isFresh : List Cond := [.methodLink RL 92 yX11_isFresh, .instanceMethod yX11_isFresh, .selects RX11 yX11_isFresh yX11_isFresh, .initialized RX11, .classLink RL 15 "java/lang/IndexOutOfBoundsException"]
def wK_L_isFresh : List Cond := .codeWith yL_isFresh cL_isFresh 4 (some .int) [(0, 16, 19, 15)] :: (wD_L_isFresh ++ (wK_X11_isFresh ++ ([] : List Cond)))
theorem wd_L_isFresh : ∀ w ∈ wD_L_isFresh, w ∈ wK_L_isFresh := fun w h => List.mem_cons_of_mem _ (List.mem_append_left _ h)
theorem gd_L_isFresh : (wK_L_isFresh).all goodWord = true := by decide +kernel
theorem wq_L_isFresh_X11_isFresh : ∀ w ∈ wK_X11_isFresh, w ∈ wK_L_isFresh := fun w h => List.mem_cons_of_mem _ (List.mem_append_right _ (List.mem_append_left _ h))
set_option maxHeartbeats 4000000 in
set_option maxRecDepth 100000 in
/-- the law asks the class: isFresh -/
theorem c_L_isFresh (l : Launch) (hfl : l.flags = flags0) (D : va_G) (dT : Nat → ClassId) (sz : Nat) (h : Nat) (q_program : Nat) (q_finder : Nat) (q_sight : Nat) (q_running : Nat) (q_kept : Nat) (q_typeRows : Nat) (q_typeSizes : Nat) (q_typeNames : Nat) (q_likeTypes : Nat) (q_kinds : Nat) (q_firsts : Nat) (q_seconds : Nat) (q_thirds : Nat) (q_weights : Nat) (q_refNames : Nat) (q_likeExpressions : Nat) (q_versions : Nat) (q_versionCounts : Nat) (q_nodes : Nat) (ed : Value) (f : Int32) (oo : Nat) (go : Nat → Int64) : Met l yL_isFresh wK_L_isFresh ({ frames := 8, cells := 1, slots := 6, locals := 125 }) (va_Pc [.ref h, .int f, .ref oo] (fun U => U.heap.size = sz ∧ va_P D vwCl [(h, .inr (12, [.ref q_program, .ref q_finder, .ref q_sight, .ref q_running, .ref q_kept, .int 0])), (q_program, .inr (6, [.ref q_typeRows, .ref q_typeSizes, .ref q_typeNames, .ref q_likeTypes, .int 0, .ref q_kinds, .ref q_firsts, .ref q_seconds, .ref q_thirds, .ref q_weights, .ref q_refNames, .ref q_likeExpressions, .int 0, .ref q_versions, .ref q_versionCounts, .int 0, .ref q_nodes, .int 0])), (q_nodes, .inr (0, [.int 0, ed, .int 0])), (oo, .inl (dT 1, 1, .inr (.inl go)))] U.heap ∧ va_K D vwCl (tysW dT) U ∧ va_D (fun _ => True) [(h, .inr (12, [.ref q_program, .ref q_finder, .ref q_sight, .ref q_running, .ref q_kept, .int 0])), (q_program, .inr (6, [.ref q_typeRows, .ref q_typeSizes, .ref q_typeNames, .ref q_likeTypes, .int 0, .ref q_kinds, .ref q_firsts, .ref q_seconds, .ref q_thirds, .ref q_weights, .ref q_refNames, .ref q_likeExpressions, .int 0, .ref q_versions, .ref q_versionCounts, .int 0, .ref q_nodes, .int 0])), (q_nodes, .inr (0, [.int 0, ed, .int 0])), (oo, .inl (dT 1, 1, .inr (.inl go)))] ∧ EN (va_A [(h, .inr (12, [.ref q_program, .ref q_finder, .ref q_sight, .ref q_running, .ref q_kept, .int 0])), (q_program, .inr (6, [.ref q_typeRows, .ref q_typeSizes, .ref q_typeNames, .ref q_likeTypes, .int 0, .ref q_kinds, .ref q_firsts, .ref q_seconds, .ref q_thirds, .ref q_weights, .ref q_refNames, .ref q_likeExpressions, .int 0, .ref q_versions, .ref q_versionCounts, .int 0, .ref q_nodes, .int 0])), (q_nodes, .inr (0, [.int 0, ed, .int 0])), (oo, .inl (dT 1, 1, .inr (.inl go)))] sz) U)) (va_Qi (fun (r : Int32) (o2 : Nat → Int64) => r = 1 ∧ (r = 0 → o2 0 = 0)) (fun (o2 : Nat → Int64) t => True ∧ va_P D vwCl [(oo, .inl (dT 1, 1, .inr (.inl o2)))] t.heap ∧ va_K D vwCl (tysW dT) t ∧ va_D (va_A [(h, .inr (12, [.ref q_program, .ref q_finder, .ref q_sight, .ref q_running, .ref q_kept, .int 0])), (q_program, .inr (6, [.ref q_typeRows, .ref q_typeSizes, .ref q_typeNames, .ref q_likeTypes, .int 0, .ref q_kinds, .ref q_firsts, .ref q_seconds, .ref q_thirds, .ref q_weights, .ref q_refNames, .ref q_likeExpressions, .int 0, .ref q_versions, .ref q_versionCounts, .int 0, .ref q_nodes, .int 0])), (q_nodes, .inr (0, [.int 0, ed, .int 0])), (oo, .inl (dT 1, 1, .inr (.inl go)))] sz) [(oo, .inl (dT 1, 1, .inr (.inl o2)))]) (va_A [(h, .inr (12, [.ref q_program, .ref q_finder, .ref q_sight, .ref q_running, .ref q_kept, .int 0])), (q_program, .inr (6, [.ref q_typeRows, .ref q_typeSizes, .ref q_typeNames, .ref q_likeTypes, .int 0, .ref q_kinds, .ref q_firsts, .ref q_seconds, .ref q_thirds, .ref q_weights, .ref q_refNames, .ref q_likeExpressions, .int 0, .ref q_versions, .ref q_versionCounts, .int 0, .ref q_nodes, .int 0])), (q_nodes, .inr (0, [.int 0, ed, .int 0])), (oo, .inl (dT 1, 1, .inr (.inl go)))] sz)) 1 6 (va_A [(h, .inr (12, [.ref q_program, .ref q_finder, .ref q_sight, .ref q_running, .ref q_kept, .int 0])), (q_program, .inr (6, [.ref q_typeRows, .ref q_typeSizes, .ref q_typeNames, .ref q_likeTypes, .int 0, .ref q_kinds, .ref q_firsts, .ref q_seconds, .ref q_thirds, .ref q_weights, .ref q_refNames, .ref q_likeExpressions, .int 0, .ref q_versions, .ref q_versionCounts, .int 0, .ref q_nodes, .int 0])), (q_nodes, .inr (0, [.int 0, ed, .int 0])), (oo, .inl (dT 1, 1, .inr (.inl go)))] sz) := by
  refine va_MetW (cc := cL_isFresh) (maxL := 4) (ret := (some .int)) (by decide) rfl ?_
  intro p e s m args below meth c s₁ B hml hv
  obtain ⟨rfl, hsz, hP, hK, hD0, hE⟩ := hv
  have hx := B.exec
  have hb := B.bytes
  have hr := B.returns
  have hts := atoms_spec (ws := wK_L_isFresh) B.pre
  have hown : s.vm.findClass RL = some m.cls := findClass_of_methodNamed B.named
  have hlocks := B.notSynchronized
  subst hsz
  have hD := hD0.self (sz := s.heap.size)
  generalize hAe : va_A [(h, .inr (12, [.ref q_program, .ref q_finder, .ref q_sight, .ref q_running, .ref q_kept, .int 0])), (q_program, .inr (6, [.ref q_typeRows, .ref q_typeSizes, .ref q_typeNames, .ref q_likeTypes, .int 0, .ref q_kinds, .ref q_firsts, .ref q_seconds, .ref q_thirds, .ref q_weights, .ref q_refNames, .ref q_likeExpressions, .int 0, .ref q_versions, .ref q_versionCounts, .int 0, .ref q_nodes, .int 0])), (q_nodes, .inr (0, [.int 0, ed, .int 0])), (oo, .inl (dT 1, 1, .inr (.inl go)))] s.heap.size = A at hD hE ⊢
  have hA : ∀ q : Nat, s.heap.size ≤ q → A q := fun q h => by rw [← hAe]; exact Or.inr h
  have hS : va_S A s.heap s.heap [] := va_S.rf
  have hP : va_P D vwCl [(h, .inr (12, [.ref q_program, .ref q_finder, .ref q_sight, .ref q_running, .ref q_kept, .int 0])), (q_program, .inr (6, [.ref q_typeRows, .ref q_typeSizes, .ref q_typeNames, .ref q_likeTypes, .int 0, .ref q_kinds, .ref q_firsts, .ref q_seconds, .ref q_thirds, .ref q_weights, .ref q_refNames, .ref q_likeExpressions, .int 0, .ref q_versions, .ref q_versionCounts, .int 0, .ref q_nodes, .int 0])), (q_nodes, .inr (0, [.int 0, ed, .int 0])), (oo, .inl (dT 1, 1, .inr (.inl go)))] s.heap := hP
  have hl := lv_entry ([.ref h, .int f, .ref oo]) (n := 4) (Nat.le_of_ble_eq_true rfl)
  rw [lg_entry_eq]
  generalize (lg_sl ([.ref h, .int f, .ref oo]) ++ List.replicate (4 - (lg_sl ([.ref h, .int f, .ref oo])).length) Slot.unset).toArray = ls at hl ⊢
  have hl : lv_has ls 4 [(0, .ref h), (1, .int f), (2, .ref oo)] := hl
  refine lv_aload_n hx hb dL_isFresh_0 rfl (lv_at hl 2 rfl) ?_
  refine lv_iconst (v := 0) hx hb dL_isFresh_1 (by decide) ?_
  refine lv_aload_n hx hb dL_isFresh_2 rfl (lv_at hl 0 rfl) ?_
  refine lv_iload_n hx hb dL_isFresh_3 rfl (lv_at hl 1 rfl) ?_
  have hPc := hP.sub (ws' := [(h, .inr (12, [.ref q_program, .ref q_finder, .ref q_sight, .ref q_running, .ref q_kept, .int 0])), (q_program, .inr (6, [.ref q_typeRows, .ref q_typeSizes, .ref q_typeNames, .ref q_likeTypes, .int 0, .ref q_kinds, .ref q_firsts, .ref q_seconds, .ref q_thirds, .ref q_weights, .ref q_refNames, .ref q_likeExpressions, .int 0, .ref q_versions, .ref q_versionCounts, .int 0, .ref q_nodes, .int 0])), (q_nodes, .inr (0, [.int 0, ed, .int 0]))]) [0, 1, 2] rfl
  have hDc := hD.sub (ws' := [(h, .inr (12, [.ref q_program, .ref q_finder, .ref q_sight, .ref q_running, .ref q_kept, .int 0])), (q_program, .inr (6, [.ref q_typeRows, .ref q_typeSizes, .ref q_typeNames, .ref q_likeTypes, .int 0, .ref q_kinds, .ref q_firsts, .ref q_seconds, .ref q_thirds, .ref q_weights, .ref q_refNames, .ref q_likeExpressions, .int 0, .ref q_versions, .ref q_versionCounts, .int 0, .ref q_nodes, .int 0])), (q_nodes, .inr (0, [.int 0, ed, .int 0]))]) [0, 1, 2] (by decide) rfl
  have hFc := va_free (wc := [(h, .inr (12, [.ref q_program, .ref q_finder, .ref q_sight, .ref q_running, .ref q_kept, .int 0])), (q_program, .inr (6, [.ref q_typeRows, .ref q_typeSizes, .ref q_typeNames, .ref q_likeTypes, .int 0, .ref q_kinds, .ref q_firsts, .ref q_seconds, .ref q_thirds, .ref q_weights, .ref q_refNames, .ref q_likeExpressions, .int 0, .ref q_versions, .ref q_versionCounts, .int 0, .ref q_nodes, .int 0])), (q_nodes, .inr (0, [.int 0, ed, .int 0]))]) hD hS hA [0, 1, 2] rfl
  refine vx_callv (vx_runV (As := [.int f]) (rest := [.int 0, .ref oo]) ⟨hx, hb, hml, hown, hts⟩ (c_X11_isFresh l hfl D dT s.heap.size h q_program q_finder q_sight q_running q_kept q_typeRows q_typeSizes q_typeNames q_likeTypes q_kinds q_firsts q_seconds q_thirds q_weights q_refNames q_likeExpressions q_versions q_versionCounts q_nodes ed f) (cwV 1 hts (goodIn_app (goodIn_r _ [1, 2, 3, 4] rfl (by decide +kernel)) (goodIn_sub wq_L_isFresh_X11_isFresh gd_X11_isFresh)) rfl rfl rfl (by decide +kernel) ⟨Nat.le_of_ble_eq_true rfl, Nat.le_of_ble_eq_true rfl⟩) ⟨(fun a U g mk q => by obtain ⟨z0, z1, zP, zK, zD, zE⟩ := q; exact ⟨z0, z1, zP, va_K.moved (u := U) (U := U.calling g mk a) (Vm.Alike.refl U.vm) zK, zD, EN.frame zE⟩), va_recv hK hP (ci := 12) (q0 := 0) rfl rfl, fun U hU hW => ⟨rfl, by rw [hU], by rw [hU]; exact hPc, va_K.moved hW.alike hK, hDc.weaken (fun _ _ _ _ => trivial), EN.call hE hS hFc hW hU⟩⟩ rfl rfl hl.1 rfl (lv_room (Nat.le_of_ble_eq_true rfl)) dL_isFresh_4 ⟨(Nat.le_of_ble_eq_true rfl), (Nat.le_of_ble_eq_true rfl)⟩) hS (fun q _ h => hFc q h) hFc (fun q _ h => hFc q h) (fun E9 ce9 q9 u9 t9 H locs ht9 hvm9 hw9 hB9 hz9 hk9 hS hce hcv hcl => ?_) (fun u_1 t H1 locs ht hvm hw hB hz1 hk1 hS => hw.elim)
  obtain rfl : E9 = "java/lang/IndexOutOfBoundsException" := hB9
  obtain ⟨hP, hD⟩ := va_join (wr := [(oo, .inl (dT 1, 1, .inr (.inl go)))]) (w1 := []) hP hD [0, 1, 2] [3] rfl rfl (by decide) (by decide) hk9 hFc (fun k q h => by simp at h) ⟨fun i j p q h => by simp at h, fun k q h => by simp at h⟩
  have hP : va_P D vwCl [(oo, .inl (dT 1, 1, .inr (.inl go)))] H := hP
  have hD : va_D A [(oo, .inl (dT 1, 1, .inr (.inl go)))] := hD
  refine vx_widen (k := 1) (n := 6) (Nat.le_of_ble_eq_true rfl) (Nat.le_of_ble_eq_true rfl) ?_
  refine vx_catch (E := "java/lang/IndexOutOfBoundsException") (name := "java/lang/IndexOutOfBoundsException") hown [] (⟨0, 16, 19, 15⟩ : ExceptionTableEntry) [] (vx_table (x := yL_isFresh) B (hts _ List.mem_cons_self)) (fun z hz => nomatch hz) (by decide) (by decide) (hts (.classLink RL 15 "java/lang/IndexOutOfBoundsException") (wd_L_isFresh _ (List.mem_of_getElem? (i := 4) rfl))) (hE.1.cast "java/lang/IndexOutOfBoundsException" (by decide +kernel)) hce hcv hcl ?_
  refine W.eq (g2 := F0 m 19 ls [.ref q9]) rfl ?_
  refine lv_astore_n (lv' := [(3, .ref q9), (0, .ref h), (1, .int f), (2, .ref oo)]) hx hb dL_isFresh_19 rfl hl (by decide) rfl (fun ls hl => ?_)
  refine lv_iconst (v := 1) hx hb dL_isFresh_20 (by decide) ?_
  have hP9 := hP.sub (ws' := [(oo, .inl (dT 1, 1, .inr (.inl go)))]) [0] rfl
  have hD9 := hD.sub (ws' := [(oo, .inl (dT 1, 1, .inr (.inl go)))]) [0] (by decide) rfl
  exact W.iret (v := 1) hx hb hr (fun t ht hW => ⟨⟨_, (go), rfl, ⟨rfl, fun h9 => absurd h9 (by decide)⟩, trivial, by rw [ht]; exact hP9, va_K.moved hW.alike hK, hD9⟩, hS.F ht⟩) hS.2.2 dL_isFresh_21
