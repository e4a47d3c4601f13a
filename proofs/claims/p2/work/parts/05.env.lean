/-! what every method may need beside its world: links of nest mates, texts, classes of exceptions, statics of the JDK -/
abbrev tysW (dT : Nat → ClassId) : List (ClassId × FieldType) := [(dT 0, .int), (dT 1, .long), (dT 2, .boolean), (dT 3, .array .int), (dT 4, .object RX10), (dT 5, .object RX4), (dT 6, .object "java/lang/Object")]
def ev_nest : List (String × Nat × MethodName × String) := [(RX2, 20, yX1_init, RX11), (RX2, 30, yX0_init, RX11), (RX11, 27, yX6_init, RX11), (RX3, 39, yX9_init, RX11), (RX5, 78, yX11_isSameRow, RX11), (RX4, 11, yX0_init, RX11), (RX4, 20, yX6_init, RX11), (RX8, 63, yX11_typeMistake, RX11), (RX1, 63, yX11_isTypeName, RX11), (RX1, 48, yX11_isIn, RX11), (RX1, 52, yX11_typeMistake, RX11), (RX8, 43, yX11_valueMistake, RX11), (RX8, 135, yX11_isSameRow, RX11), (RX2, 233, yX11_isSameRow, RX11), (RX2, 237, yX11_typeMistake, RX11), (RX2, 199, yX11_isIn, RX11), (RX2, 240, yX11_valueMistake, RX11), (RX2, 308, yX11_startsWith, RX11), (RX3, 158, yX11_isIn, RX11), (RX6, 48, yX11_isIn, RX11), (RX6, 78, yX11_isSameRow, RX11)]
def ev_decl : List MethodName := [⟨"java/lang/RuntimeException", "<init>", "(Ljava/lang/String;)V"⟩, ⟨"java/lang/Exception", "<init>", "(Ljava/lang/String;)V"⟩, ⟨"java/lang/Throwable", "<init>", "(Ljava/lang/String;)V"⟩]
def ev_cast : List (String × String) := [("java/lang/IllegalArgumentException", "java/lang/IllegalArgumentException"), ("java/lang/IndexOutOfBoundsException", "java/lang/IndexOutOfBoundsException"), ("java/lang/IllegalStateException", "java/lang/IllegalStateException")]
def ev_nc : List (String × String) := [("java/lang/IllegalArgumentException", "java/lang/IndexOutOfBoundsException"), ("java/lang/IllegalArgumentException", "java/lang/IllegalStateException"), ("java/lang/IndexOutOfBoundsException", "java/lang/IllegalArgumentException"), ("java/lang/IndexOutOfBoundsException", "java/lang/IllegalStateException"), ("java/lang/IllegalStateException", "java/lang/IllegalArgumentException"), ("java/lang/IllegalStateException", "java/lang/IndexOutOfBoundsException")]
def ev_str : List (Nat × String) := [(44, "there is no such kind of types"), (53, "there is no such type name"), (65, "there are 60 types"), (72, "the type would be too heavy"), (85, "there is no such value name"), (90, "there are 120 expressions"), (95, "there is no such kind of expressions"), (104, "the expression would be too heavy"), (113, "there are 8 units"), (125, "there are 5 versions"), (148, "there are no such flags"), (164, "there is no such version"), (176, "there is no such kind of nodes"), (185, "there is no such other name"), (229, "there is no such value"), (240, "there is no such number"), (248, "there is no such entry"), (341, "there is no such type"), (343, "there is no such expression"), (345, "there is no such unit"), (347, "there is no such node"), (349, "there are 40 nodes"), (351, "the node would be too heavy"), (353, "the node has an error")]
def EV (U : State) : Prop := (∀ q ∈ ev_nest, va_Nw (.methodLinkNest q.1 q.2.1 q.2.2.1 q.2.2.2) U) ∧ (∀ x ∈ ev_decl, va_Nw (.declares x) U) ∧ (∀ q ∈ ev_cast, va_Nw (.castable q.1 q.2) U) ∧ (∀ q ∈ ev_nc, va_Nc q.1 q.2 U) ∧ (∀ q ∈ ev_str, ∃ a, vk_R RX11 q.1 q.2 a U) ∧ va_AOA .int U ∧ va_AO RX10 U ∧ va_AO RX4 U
theorem va_AOA.moved {ty : FieldType} {u U : State} (hvm : u.vm.Alike U.vm) (h : va_AOA ty u) : va_AOA ty U := by
  have h0 : (Cond.arrayOver (.array ty)).holds #[] u none u [] = true := h
  simp only [Cond.holds, Cond.value, beq_iff_eq, Option.bind_eq_some_iff, Option.map_eq_some_iff] at h0
  obtain ⟨comp, h1, c, h2, k, h3, h4⟩ := h0
  obtain ⟨k', hk', he⟩ := hvm.2.2 _ _ h3
  have e1 := va_idx_bare u.vm comp
  have e2 := va_idx_bare U.vm comp
  first | rw [hvm.bare_eq] at e1 | rw [← hvm.bare_eq] at e1
  have hi := e2.symm.trans (e1.trans h2)
  have f1 : U.vm.findClass (FieldType.array ty).toString = some comp := by rw [hvm.findClass]; exact h1
  show (Cond.arrayOver (.array ty)).holds #[] U none U [] = true
  simp only [Cond.holds, Cond.value, beq_iff_eq, Option.bind_eq_some_iff, Option.map_eq_some_iff]
  refine ⟨comp, f1, c, hi, k', hk', ?_⟩
  have hkk : k'.kind = k.kind := by rw [he]
  rw [hkk]
  cases hkd : k.kind with
  | array a b =>
    rw [hkd] at h4
    simp only [hvm.findClass] at h4 ⊢
    exact h4
  | _ =>
    rw [hkd] at h4
    exact h4
theorem EV.warm {s U : State} (hW : s.WarmedH U.vm) (h : EV s) : EV U := ⟨fun q hq => va_Nw.warmM hW (h.1 q hq), fun x hx => va_Nw.warmD hW (h.2.1 x hx), fun q hq => va_Nw.warmC hW (h.2.2.1 q hq), fun q hq => va_Nc.moved hW.alike (h.2.2.2.1 q hq), fun q hq => by
  obtain ⟨a, ha⟩ := h.2.2.2.2.1 q hq
  exact ⟨a, vk_R.warm hW ha⟩, va_AOA.moved hW.alike h.2.2.2.2.2.1, va_AO.moved hW.alike h.2.2.2.2.2.2.1, va_AO.moved hW.alike h.2.2.2.2.2.2.2⟩
theorem EV.same {u U : State} (e : u.vm = U.vm) (h : EV u) : EV U := EV.warm (by rw [← e]; exact State.WarmedH.refl u) h
theorem EV.str {s : State} (h : EV s) (q : Nat × String) (hq : q ∈ ev_str) : ∃ a, vk_R RX11 q.1 q.2 a s := h.2.2.2.2.1 q hq
theorem EV.aoa {s : State} (h : EV s) : va_AOA .int s := h.2.2.2.2.2.1
theorem EV.ao_V {s : State} (h : EV s) : va_AO RX10 s := h.2.2.2.2.2.2.1
theorem EV.ao_N {s : State} (h : EV s) : va_AO RX4 s := h.2.2.2.2.2.2.2
theorem EV.nc {s : State} (h : EV s) (C T : String) (hq : (C, T) ∈ ev_nc) : va_Nc C T s := h.2.2.2.1 _ hq
theorem EV.cast {s : State} {args : Array Value} (h : EV s) (C : String) (hq : (C, C) ∈ ev_cast) : (Cond.castable C C).before args s = true := va_Nw.use rfl (h.2.2.1 _ hq)
/-- .. and the statics that a throw and a new list read -/
def EN (A : Nat → Prop) (U : State) : Prop := EV U ∧ vx_Zq Bundle.tN "UNASSIGNED_STACK" Bundle.steD A U U.heap ∧ vx_Zq Bundle.tN "SUPPRESSED_SENTINEL" Bundle.listD A U U.heap ∧ va_Zq "java/util/ArrayList" "DEFAULTCAPACITY_EMPTY_ELEMENTDATA" "[Ljava/lang/Object;" A U U.heap
theorem EN.frame {A : Nat → Prop} {U : State} {g : JFrame} {mk : MethodId} {a : Array Value} (h : EN A U) : EN A (U.calling g mk a) :=
  ⟨EV.same (u := U) (U := U.calling g mk a) rfl h.1, vx_Zq.moved (u := U) (U := U.calling g mk a) (Vm.Alike.refl U.vm) h.2.1, vx_Zq.moved (u := U) (U := U.calling g mk a) (Vm.Alike.refl U.vm) h.2.2.1, va_Zq.moved (u := U) (U := U.calling g mk a) (Vm.Alike.refl U.vm) h.2.2.2⟩
theorem EN.call {A B : Nat → Prop} {s U : State} {H : Heap} {locs : List Loc} (hE : EN A s) (hS : va_S A s.heap H locs) (hAB : ∀ q, B q → A q) (hW : s.WarmedH U.vm) (hU : U.heap = H) : EN B U := by
  subst hU
  exact ⟨hE.1.warm hW, vx_Zq.narrow (vx_Zq.kept (vx_Zq.moved hW.alike hE.2.1) hS.2.1) hAB, vx_Zq.narrow (vx_Zq.kept (vx_Zq.moved hW.alike hE.2.2.1) hS.2.1) hAB, va_Zq.narrow (va_Zq.kept (va_Zq.moved hW.alike hE.2.2.2) hS.2.1) hAB⟩
theorem noTrace {l : Launch} (h : l.flags = flags0) : l.stackTraces = false := by
  unfold Launch.stackTraces
  rw [h]
  decide +kernel
theorem EN.hat_IAE {A : Nat → Prop} {s : State} {args : Array Value} (hE : EN A s) (h : ∀ w ∈ (vx_atS RX11 46 "java/lang/IllegalArgumentException" ["java/lang/RuntimeException", "java/lang/Exception"]).filter goodWord, w.before args s = true) : ∀ w ∈ vx_atS RX11 46 "java/lang/IllegalArgumentException" ["java/lang/RuntimeException", "java/lang/Exception"], w.before args s = true :=
  vx_hat (B := [.declares ⟨"java/lang/RuntimeException", "<init>", "(Ljava/lang/String;)V"⟩, .declares ⟨"java/lang/Exception", "<init>", "(Ljava/lang/String;)V"⟩, .declares ⟨"java/lang/Throwable", "<init>", "(Ljava/lang/String;)V"⟩, .castable "java/lang/IllegalArgumentException" "java/lang/IllegalArgumentException"]) h (by decide +kernel) (vx_c (va_Nw.use rfl (hE.1.2.1 _ (by decide +kernel))) (vx_c (va_Nw.use rfl (hE.1.2.1 _ (by decide +kernel))) (vx_c (va_Nw.use rfl (hE.1.2.1 _ (by decide +kernel))) (vx_c (hE.1.cast _ (by decide +kernel)) vx_n))))
theorem hgood_IAE_42 : ∀ w ∈ Cond.classLink RX11 42 "java/lang/IllegalArgumentException" :: Cond.initialized "java/lang/IllegalArgumentException" :: vx_atS RX11 46 "java/lang/IllegalArgumentException" ["java/lang/RuntimeException", "java/lang/Exception"], vx_ot w = true := by decide +kernel
theorem EN.hat_IOB {A : Nat → Prop} {s : State} {args : Array Value} (hE : EN A s) (h : ∀ w ∈ (vx_atS RX11 166 "java/lang/IndexOutOfBoundsException" ["java/lang/RuntimeException", "java/lang/Exception"]).filter goodWord, w.before args s = true) : ∀ w ∈ vx_atS RX11 166 "java/lang/IndexOutOfBoundsException" ["java/lang/RuntimeException", "java/lang/Exception"], w.before args s = true :=
  vx_hat (B := [.declares ⟨"java/lang/RuntimeException", "<init>", "(Ljava/lang/String;)V"⟩, .declares ⟨"java/lang/Exception", "<init>", "(Ljava/lang/String;)V"⟩, .declares ⟨"java/lang/Throwable", "<init>", "(Ljava/lang/String;)V"⟩, .castable "java/lang/IndexOutOfBoundsException" "java/lang/IndexOutOfBoundsException"]) h (by decide +kernel) (vx_c (va_Nw.use rfl (hE.1.2.1 _ (by decide +kernel))) (vx_c (va_Nw.use rfl (hE.1.2.1 _ (by decide +kernel))) (vx_c (va_Nw.use rfl (hE.1.2.1 _ (by decide +kernel))) (vx_c (hE.1.cast _ (by decide +kernel)) vx_n))))
theorem hgood_IOB_162 : ∀ w ∈ Cond.classLink RX11 162 "java/lang/IndexOutOfBoundsException" :: Cond.initialized "java/lang/IndexOutOfBoundsException" :: vx_atS RX11 166 "java/lang/IndexOutOfBoundsException" ["java/lang/RuntimeException", "java/lang/Exception"], vx_ot w = true := by decide +kernel
theorem EN.hat_ISE {A : Nat → Prop} {s : State} {args : Array Value} (hE : EN A s) (h : ∀ w ∈ (vx_atS RX11 67 "java/lang/IllegalStateException" ["java/lang/RuntimeException", "java/lang/Exception"]).filter goodWord, w.before args s = true) : ∀ w ∈ vx_atS RX11 67 "java/lang/IllegalStateException" ["java/lang/RuntimeException", "java/lang/Exception"], w.before args s = true :=
  vx_hat (B := [.declares ⟨"java/lang/RuntimeException", "<init>", "(Ljava/lang/String;)V"⟩, .declares ⟨"java/lang/Exception", "<init>", "(Ljava/lang/String;)V"⟩, .declares ⟨"java/lang/Throwable", "<init>", "(Ljava/lang/String;)V"⟩, .castable "java/lang/IllegalStateException" "java/lang/IllegalStateException"]) h (by decide +kernel) (vx_c (va_Nw.use rfl (hE.1.2.1 _ (by decide +kernel))) (vx_c (va_Nw.use rfl (hE.1.2.1 _ (by decide +kernel))) (vx_c (va_Nw.use rfl (hE.1.2.1 _ (by decide +kernel))) (vx_c (hE.1.cast _ (by decide +kernel)) vx_n))))
theorem hgood_ISE_63 : ∀ w ∈ Cond.classLink RX11 63 "java/lang/IllegalStateException" :: Cond.initialized "java/lang/IllegalStateException" :: vx_atS RX11 67 "java/lang/IllegalStateException" ["java/lang/RuntimeException", "java/lang/Exception"], vx_ot w = true := by decide +kernel
theorem fn_Jx4a65c : ∀ j, j < 3 → defaultValue (tyJx4a65c j) = vp_V [.int 0, .null, .int 0] j := by decide +kernel
theorem fn_X0 : ∀ j, j < 7 → defaultValue (tyX0 j) = vp_V [.int 0, .null, .null, .null, .null, .null, .null] j := by decide +kernel
theorem fn_X1 : ∀ j, j < 5 → defaultValue (tyX1 j) = vp_V [.null, .null, .null, .null, .null] j := by decide +kernel
theorem fn_X2 : ∀ j, j < 8 → defaultValue (tyX2 j) = vp_V [.null, .null, .null, .null, .null, .null, .null, .null] j := by decide +kernel
theorem fn_X3 : ∀ j, j < 18 → defaultValue (tyX3 j) = vp_V [.null, .null, .null, .null, .null, .null, .null, .null, .null, .int 0, .int 0, .int 0, .null, .null, .int 0, .null, .int 0, .int 0] j := by decide +kernel
theorem fn_X4 : ∀ j, j < 14 → defaultValue (tyX4 j) = vp_V [.int 0, .int 0, .null, .int 0, .int 0, .int 0, .int 0, .null, .null, .null, .int 0, .int 0, .int 0, .int 0] j := by decide +kernel
theorem fn_X5 : ∀ j, j < 18 → defaultValue (tyX5 j) = vp_V [.null, .null, .null, .null, .int 0, .null, .null, .null, .null, .null, .null, .null, .int 0, .null, .null, .int 0, .null, .int 0] j := by decide +kernel
theorem fn_X6 : ∀ j, j < 2 → defaultValue (tyX6 j) = vp_V [.null, .int 0] j := by decide +kernel
theorem fn_X7 : ∀ j, j < 3 → defaultValue (tyX7 j) = vp_V [.null, .int 0, .null] j := by decide +kernel
theorem fn_X8 : ∀ j, j < 5 → defaultValue (tyX8 j) = vp_V [.null, .null, .null, .null, .int 0] j := by decide +kernel
theorem fn_X9 : ∀ j, j < 5 → defaultValue (tyX9 j) = vp_V [.null, .null, .null, .null, .int 0] j := by decide +kernel
theorem fn_X10 : ∀ j, j < 4 → defaultValue (tyX10 j) = vp_V [.null, .null, .null, .null] j := by decide +kernel
theorem fn_X11 : ∀ j, j < 6 → defaultValue (tyX11 j) = vp_V [.null, .null, .null, .null, .null, .int 0] j := by decide +kernel
theorem fn_X12 : ∀ j, j < 109 → defaultValue (tyX12 j) = vp_V [.int 0, .null, .null, .null, .null, .null, .int 0, .null, .null, .null, .null, .null, .int 0, .null, .null, .null, .null, .null, .int 0, .null, .null, .null, .null, .null, .null, .int 0, .int 0, .null, .null, .null, .null, .null, .null, .null, .null, .int 0, .int 0, .null, .null, .null, .int 0, .int 0, .int 0, .null, .null, .null, .null, .null, .null, .null, .null, .null, .null, .null, .null, .null, .null, .null, .null, .null, .null, .null, .null, .int 0, .null, .null, .null, .int 0, .null, .int 0, .null, .null, .null, .int 0, .null, .null, .null, .null, .null, .int 0, .null, .null, .null, .null, .int 0, .null, .null, .null, .int 0, .null, .int 0, .null, .int 0, .null, .null, .null, .null, .null, .int 0, .null, .int 0, .int 0, .int 0, .null, .null, .null, .null, .null, .null] j := by decide +kernel
theorem vp_in_lit {i : Int32} {n : Nat} (h1 : ¬ i < 0) (h2 : i.toNatClampNeg < n) : vp_in i n := fun h => h.elim h1 (fun q => Nat.not_le.mpr h2 q)
theorem ra_inj {U : State} {c1 c2 : ClassId} {ty : FieldType} (h1 : va_RA U c1 ty) (h2 : va_RA U c2 ty) : c1 = c2 := by
  cases ty with
  | object C =>
    obtain ⟨_, _, _, _, _, a⟩ := h1
    obtain ⟨_, _, _, _, _, b⟩ := h2
    exact Option.some.inj (a.symm.trans b)
  | _ => exact Option.some.inj (Eq.trans (Eq.symm h1) h2)
theorem va_K.last {D : va_G} {cl : List vw_C} {tys : List (ClassId × FieldType)} {U : State} {c : ClassId} {ty : FieldType} (h : va_K D cl (tys ++ [(c, ty)]) U) {t0 : Nat} {cI : ClassId} (ht : tys[t0]? = some (cI, ty)) : c = cI := by
  have h1 := (h.2 tys.length (c, ty) (by simp)).2
  have h2 := (h.2 t0 (cI, ty) (by rw [List.getElem?_append_left (List.getElem?_eq_some_iff.mp ht).1]; exact ht)).2
  exact ra_inj h1 h2
theorem va_P.left {D : va_G} {cl : List vw_C} {a b : va_W} {H : Heap} (h : va_P D cl (a ++ b) H) : va_P D cl a H := fun k q hk => h k q (by rw [List.getElem?_append_left (List.getElem?_eq_some_iff.mp hk).1]; exact hk)
theorem va_D.left {A : Nat → Prop} {a b : va_W} (h : va_D A (a ++ b)) : va_D A a :=
  ⟨fun i j p q hi hj => h.1 i j p q (by rw [List.getElem?_append_left (List.getElem?_eq_some_iff.mp hi).1]; exact hi) (by rw [List.getElem?_append_left (List.getElem?_eq_some_iff.mp hj).1]; exact hj), fun k q hk => h.2 k q (by rw [List.getElem?_append_left (List.getElem?_eq_some_iff.mp hk).1]; exact hk)⟩
section MYA
variable {p : Program} {l : Launch} {e : Env} {R : Room} {s : State} {m : MethodId} {args : Array Value} {below : List Frame} {meth : Method} {c : Code} {H : Heap} {locs : List Loc} {cells slots : Nat} {Q : State → Prop}
variable {cc : ByteArray} {pc : Nat} {ls : Array Slot} {rest : List Value} {D : va_G} {cl : List vw_C} {A : Nat → Prop} {a : Nat} {tys : List (ClassId × FieldType)} {ws : va_W} {H0 : Heap}
theorem va_newa1 {atype : ArrayType} {ty : FieldType} {N' : Nat} {a0 : vp_A} {cI : ClassId} {n : Int32} (t0 : Nat) (hexec : p.tables.exec = Jvm.exec) (hb : c.code = cc) (harr : (Cond.arrayClass (newarray.typeOf atype)).before args s = true) (hty : newarray.typeOf atype = ty) (ht : tys[t0]? = some (cI, ty)) (hK : va_K D cl tys s) (hP : va_P D cl ws H) (hD : va_D A ws) (hS : va_S A H0 H locs) (hA : ∀ q, H0.size ≤ q → A q)
    (ha : ∀ cA : ClassId, vp_cell cA a0 = arrV cA N' (fun _ => defaultValue ty)) (hn : ¬ n < 0) (hN : n.toNatClampNeg = N') (hbytes : N' * componentBytes ty ≤ 536870912) (hcells : cells + 1 ≤ R.cells) (hslots : slots + N' ≤ R.slots) (hdg : decode cc pc = .ok (.newarray atype, 2))
    (kk : ∀ (q : Nat) (H1 : Heap), va_P D cl (ws ++ [(q, .inl (cI, a0))]) H1 → va_D A (ws ++ [(q, .inl (cI, a0))]) → va_S A H0 H1 locs → W p l e R s m args below meth c H1 locs (cells + 1) (slots + N') Q (F0 m (pc + 2) ls (.ref q :: rest))) : W p l e R s m args below meth c H locs cells slots Q (F0 m pc ls (.int n :: rest)) := by
  refine va_newa hexec hb harr hty hK hP hD hS hA ha hn hN hbytes hcells hslots hdg (fun q cA H1 hK2 hP2 hD2 hS2 => ?_)
  have e9 := hK2.last ht
  subst e9
  exact kk q H1 hP2 hD2 hS2
theorem va_newq1 {C : String} {N' : Nat} {cI : ClassId} {n : Int32} {own : String} {index : Nat} (t0 : Nat) (hexec : p.tables.exec = Jvm.exec) (hb : c.code = cc) (hown : s.vm.findClass own = some m.cls) (hclink : (Cond.classLink own index C).before args s = true) (hover : va_AO C s) (ht : tys[t0]? = some (cI, .object C)) (hK : va_K D cl tys s) (hP : va_P D cl ws H) (hD : va_D A ws) (hS : va_S A H0 H locs) (hA : ∀ q, H0.size ≤ q → A q)
    (hn : ¬ n < 0) (hN : n.toNatClampNeg = N') (hbytes : N' * 4 ≤ 536870912) (hcells : cells + 1 ≤ R.cells) (hslots : slots + N' ≤ R.slots) (hdg : decode cc pc = .ok (.anewarray index, 3))
    (kk : ∀ (q : Nat) (H1 : Heap), va_P D cl (ws ++ [(q, .inl (cI, N', .inr (.inr (.inr (.inr (fun _ => none))))))]) H1 → va_D A (ws ++ [(q, .inl (cI, N', .inr (.inr (.inr (.inr (fun _ => none))))))]) → va_S A H0 H1 locs → W p l e R s m args below meth c H1 locs (cells + 1) (slots + N') Q (F0 m (pc + 3) ls (.ref q :: rest))) : W p l e R s m args below meth c H locs cells slots Q (F0 m pc ls (.int n :: rest)) := by
  refine va_newq hexec hb hown hclink hover hK hP hD hS hA hn hN hbytes hcells hslots hdg (fun q cA H1 hK2 hP2 hD2 hS2 => ?_)
  have e9 := hK2.last ht
  subst e9
  exact kk q H1 hP2 hD2 hS2
theorem va_mna1 {dT : Nat → ClassId} {own : String} {index : Nat} {n k : Int32} {N' K' : Nat} (hexec : p.tables.exec = Jvm.exec) (hb : c.code = cc) (hown : s.vm.findClass own = some m.cls) (hclink : (Cond.classLink own index "[[I").before args s = true) (hover : va_AOA .int s) (harr : (Cond.arrayClass .int).before args s = true)
    (hK : va_K D cl (tysW dT) s) (hP : va_P D cl ws H) (hD : va_D A ws) (hS : va_S A H0 H locs) (hA : ∀ q, H0.size ≤ q → A q) (hn : ¬ n < 0) (hk : ¬ k < 0) (hN : n.toNatClampNeg = N') (hM : k.toNatClampNeg = K') (h0 : 0 < N')
    (hb1 : N' * 4 ≤ 536870912) (hb2 : K' * componentBytes .int ≤ 536870912) (hb3 : K' ≤ 536870912) (hcells : cells + (1 + N') ≤ R.cells) (hslots : slots + (N' + N' * K') ≤ R.slots) (hdg : decode cc pc = .ok (.multianewarray index 2, 4))
    (kk : ∀ (q r : Nat) (f : Nat → Option Nat) (_ : f 0 = some r) (H1 : Heap), va_P D cl (ws ++ [(q, .inl (dT 3, N', .inr (.inr (.inr (.inr f))))), (r, .inl (dT 0, K', .inl (fun _ => 0)))]) H1 → va_D A (ws ++ [(q, .inl (dT 3, N', .inr (.inr (.inr (.inr f))))), (r, .inl (dT 0, K', .inl (fun _ => 0)))]) → va_S A H0 H1 locs →
      W p l e R s m args below meth c H1 locs (cells + (1 + N')) (slots + (N' + N' * K')) Q (F0 m (pc + 4) ls (.ref q :: rest))) : W p l e R s m args below meth c H locs cells slots Q (F0 m pc ls (.int k :: .int n :: rest)) := by
  have hcy : s.vm.findClass (FieldType.array .int).toString = some (dT 0) := (hK.2 0 _ rfl).2
  refine va_mna (X := ws) (L := []) (f := fun _ => .inr (0, [])) (ty := .int) (cy := dT 0) (z := (K', .inl (fun _ => 0))) hexec hb hown hclink hover harr hcy hK (by rw [show va_pl [] (fun _ => (Sum.inr (0, []) : va_E)) = [] from rfl, List.append_nil]; exact hP) (by rw [show va_pl [] (fun _ => (Sum.inr (0, []) : va_E)) = [] from rfl, List.append_nil]; exact hD) hS hA hn hk hN hM hb1 hb2 hb3 (by decide) (by decide) hcells hslots (fun c9 => (arrV_new _ _ _)) hdg (fun q r cA H1 _ _ hK2 hP2 hD2 hS2 => ?_)
  have e9 : cA = dT 3 := hK2.last (t0 := 3) rfl
  subst e9
  obtain ⟨N0, rfl⟩ : ∃ N0, N' = N0 + 1 := ⟨N' - 1, by omega⟩
  have hr : (List.range (N0 + 1)).map r = r 0 :: (List.range N0).map (fun i => r (i + 1)) := by
    rw [List.range_succ_eq_map, List.map_cons, List.map_map]
    rfl
  have hF : vr_up (fun _ => (Sum.inr (0, []) : va_E)) ((List.range (N0 + 1)).map r) (.inl (dT 0, (K', .inl (fun _ => 0)))) (r 0) = .inl (dT 0, (K', .inl (fun _ => 0))) := vr_up_in (by rw [hr]; exact List.mem_cons_self)
  have hsp : va_pl ([] ++ (List.range (N0 + 1)).map r) (vr_up (fun _ => (Sum.inr (0, []) : va_E)) ((List.range (N0 + 1)).map r) (.inl (dT 0, (K', .inl (fun _ => 0))))) = [(r 0, .inl (dT 0, (K', .inl (fun _ => 0))))] ++ va_pl ((List.range N0).map (fun i => r (i + 1))) (vr_up (fun _ => (Sum.inr (0, []) : va_E)) ((List.range (N0 + 1)).map r) (.inl (dT 0, (K', .inl (fun _ => 0))))) := by
    rw [List.nil_append]
    conv => lhs; unfold va_pl; rw [hr, List.map_cons, ← hr, hF]
    rfl
  rw [hsp, ← List.append_assoc] at hP2 hD2
  have hP3 := hP2.left
  have hD3 := hD2.left
  rw [List.append_assoc] at hP3 hD3
  have k9 := kk q (r 0) (fun i => if i < N0 + 1 then some (r i) else none) (if_pos (by omega)) H1 hP3 hD3 hS2
  have ec : cells + (1 + (N0 + 1)) = cells + 1 + (N0 + 1) := by omega
  have es : slots + ((N0 + 1) + (N0 + 1) * K') = slots + (N0 + 1) + (N0 + 1) * K' := by omega
  rw [ec, es] at k9
  exact k9
theorem va_aldI (hexec : p.tables.exec = Jvm.exec) (hb : c.code = cc) (hK : va_K D cl tys s) (hP : va_P D cl ws H) (q0 t0 : Nat) {cA : ClassId} {n : Nat} {f : Nat → Option Nat} (ha : ws[q0]? = some (a, .inl (cA, n, .inr (.inr (.inr (.inr f)))))) (ht : tys[t0]? = some (cA, .array .int)) {i : Int32} (hin : vp_in i n) (hdg : decode cc pc = .ok (.aaload, 1))
    (kk : W p l e R s m args below meth c H locs cells slots Q (F0 m (pc + 1) ls (va_rf (f i.toNatClampNeg) :: rest))) : W p l e R s m args below meth c H locs cells slots Q (F0 m pc ls (.int i :: .ref a :: rest)) := by
  have hlt : i.toNatClampNeg < n := Nat.not_le.mp fun q => hin (Or.inr q)
  exact W.aald (v := va_rf (f i.toNatClampNeg)) (ty := .array .int) hexec hb (hP q0 _ ha) ((hK.2 t0 _ ht).1 n (fun j => va_rf (f j))) rfl (fun q => by cases q) (by show ¬ (i < 0 ∨ (arrV _ _ _).slots.size ≤ _); rw [arrV_size]; exact hin) (by show (arrV _ _ _).slots[_]? = _; rw [arrV_read _ _ hlt]) rfl rfl hdg kk
end MYA
