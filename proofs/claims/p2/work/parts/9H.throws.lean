/-! WHAT IS THROWN AND CAUGHT -/
theorem same_sz {s U : State} {locs : List Loc} {a b : Nat} (h : s.sameButNew ({ U with vm := s.vm } : State) locs a b) : U.heap.size ≤ s.heap.size + a ∧ hsz s.heap ≤ hsz U.heap ∧ hsz U.heap ≤ hsz s.heap + b := by
  obtain ⟨h1, h2, h3, h4, h5, h6⟩ := h
  have e0 : ({ U with vm := s.vm } : State).heap = U.heap := rfl
  rw [e0] at h2 h3 h4 h5 h6
  have hz : hsz U.heap = ((U.heap.toList.take s.heap.size).map (fun c => c.slots.size)).sum + ((U.heap.toList.drop s.heap.size).map (fun c => c.slots.size)).sum := by
    unfold hsz
    rw [← List.sum_append, ← List.map_append, List.take_append_drop]
  have ht : ((U.heap.toList.take s.heap.size).map (fun c => c.slots.size)).sum = hsz s.heap := by
    refine hsz_go _ _ ?_ (fun q => ?_)
    · rw [List.length_take, Array.length_toList, Array.length_toList]; omega
    · by_cases hq : q < s.heap.size
      · rw [List.getElem?_take_of_lt hq, Array.getElem?_toList, Array.getElem?_toList]
        obtain ⟨c9, e1, -, e3, -⟩ := h6 q _ (Array.getElem?_eq_getElem hq)
        rw [e1, Array.getElem?_eq_getElem hq]
        exact congrArg some e3
      · have h8 : s.heap.toList[q]? = none := by rw [List.getElem?_eq_none_iff, Array.length_toList]; omega
        have h9 : (U.heap.toList.take s.heap.size)[q]? = none := by rw [List.getElem?_eq_none_iff, List.length_take]; omega
        rw [h8, h9]
  exact ⟨by omega, by omega, by omega⟩
section THROWS
variable {p : Program} {l : Launch} {e : Env} {R : Room} {s : State} {m : MethodId} {args : Array Value} {below : List Frame} {meth : Method} {c : Code} {H : Heap} {locs : List Loc} {cells slots : Nat} {Q : State → Prop}
variable {mc ms : Nat} {free : Addr → Prop} {A0 A1 : Nat → Prop} {H0 : Heap} {a : Array Value} {ls : Array Slot} {st0 rest : List Value}
variable {Qc : Array Value → State → Outcome → State → Prop} {XC : String → State → State → Prop}
theorem vy_throwS {cc : ByteArray} {pc : Nat} (hexec : p.tables.exec = Jvm.exec) (hb : c.code = cc) (hl : l.stackTraces = false) {own cls text : String} {names : List String} {ik is ic mc ms sa : Nat} {A : Nat → Prop}
    (hown : s.vm.findClass own = some m.cls) (hcls : Bundle.fit cls = true) (hnames : ∀ n ∈ names, Bundle.fit n = true)
    (hk : (Cond.classLink own ik cls).before args s = true) (hini : (Cond.initialized cls).before args s = true) (hstr : vk_R own is text sa s) (hat : ∀ w ∈ vx_atS own ic cls names, w.before args s = true)
    (hgood : ∀ w ∈ Cond.classLink own ik cls :: Cond.initialized cls :: vx_atS own ic cls names, vx_ot w = true)
    (hU : vx_Zq Bundle.tN "UNASSIGNED_STACK" Bundle.steD A s s.heap) (hN : vx_Zq Bundle.tN "SUPPRESSED_SENTINEL" Bundle.listD A s s.heap) (hS : va_S A s.heap H locs) (hsize : ls.size = c.maxLocals)
    (d0 : decode cc pc = .ok (.new ik, 3)) (d3 : decode cc (pc + 3) = .ok (.dup, 1)) (d4 : decode cc (pc + 4) = .ok (.ldc is, 2)) (d6 : decode cc (pc + 6) = .ok (.invokespecial ic, 3)) (d9 : decode cc (pc + 9) = .ok (.athrow, 1))
    (hout : ∀ x ∈ c.exceptionTable.toList, covers x (pc + 9) = false)
    (hRframes : names.length + 3 < R.frames) (hRlocals : (rest.map fun v => v.category).sum + (13 * (names.length + 1) + 43) ≤ R.locals) (hRcells : cells + 1 ≤ R.cells) (hRslots : slots + 6 ≤ R.slots) (hlocks : meth.locks = false)
    (hx : ∀ t : State, s.vm.Alike t.vm → H.size ≤ t.heap.size → t.heap.size ≤ H.size + 1 → hsz H ≤ hsz t.heap → hsz t.heap ≤ hsz H + 6 → (∀ q : Nat, q < H.size → t.heap[q]? = H[q]?) → XC cls s t)
    (hf : ∀ z ∈ locs, free z.base) (hc : cells + 1 ≤ mc) (hs : slots + 6 ≤ ms) :
    W p l e R s m args below meth c H locs cells slots (vx_MQ below Qc XC args s mc ms free) (F0 m pc ls rest) := by
  intro T hT X
  have htr : e.platform.stackTraces = false := (show e.platform.stackTraces = l.stackTraces by rw [X.admits.platform]).trans hl
  have Y := vx_rebase X (R' := { frames := R.frames, locals := R.locals, cells := 1, slots := 6 }) (Nat.le_refl _) (Nat.le_refl _) hRcells hRslots
  obtain ⟨s', hA⟩ : ∃ z, z = (T.setVm s.vm).setFrames (.invoking m args :: below) := ⟨_, rfl⟩
  rw [← hA] at Y
  have hvm : s'.vm = s.vm := by rw [hA]; rfl
  have hhp : s'.heap = H := by rw [hA]; exact hT
  have hW0 : s.WarmedH s'.vm := by rw [hvm]; exact State.WarmedH.refl s
  have hat' : ∀ w ∈ vx_atS own ic cls names, w.before args s' = true := fun w hw => vx_ot_at hW0 hvm.symm (hgood w (List.mem_cons_of_mem _ (List.mem_cons_of_mem _ hw))) (hat w hw)
  have hk' : (Cond.classLink own ik cls).before args s' = true := vx_ot_at hW0 hvm.symm (hgood _ List.mem_cons_self) hk
  have hini' : (Cond.initialized cls).before args s' = true := vx_ot_at hW0 hvm.symm (hgood _ (List.mem_cons_of_mem _ List.mem_cons_self)) hini
  have hU' : vx_Zq Bundle.tN "UNASSIGNED_STACK" Bundle.steD A s' s'.heap := by rw [hhp]; exact vx_Zq.moved hW0.alike (hU.kept hS.2.1)
  have hN' : vx_Zq Bundle.tN "SUPPRESSED_SENTINEL" Bundle.listD A s' s'.heap := by rw [hhp]; exact vx_Zq.moved hW0.alike (hN.kept hS.2.1)
  have h : ∀ w ∈ Bundle.ownAtoms own ic cls names, w.before args s' = true := vx_own hat' (vx_isRefq hU'.1) (vx_isRefq hN'.1) hU'.2.word hN'.2.word
  have hown' : s'.vm.findClass own = some m.cls := by rw [hvm]; exact hown
  have hins : (Cond.instantiable cls 6).before args s' = true := h _ (by simp [Bundle.ownAtoms])
  obtain ⟨vm₁, cX, kX, hfX, hkX, -, -, X₁, st1⟩ := Y.newCold hexec (own := own) (C := cls) (index := ik) (n := 6) hown' hk' hins hini'
    (g := F0 m pc ls rest) rfl (by rw [hb]; exact d0) (Nat.le_refl _) (Nat.le_refl _)
  generalize hT1 : (T.setVm vm₁).pushCell { cls := cX, slots := kX.instanceTypes.map defaultValue, vm := .none } = T1 at X₁ st1
  have hcat : (Value.ref T.heap.size).category = 1 := rfl
  have hcellA : T1.heap[T.heap.size]? = some (freshCell cX kX) := by rw [← hT1]; exact State.heap_pushCell_size _ _
  have d3' : decode c.code (pc + 3) = .ok (.dup, 1) := by rw [hb]; exact d3
  have d4' : decode c.code (pc + 4) = .ok (.ldc is, 2) := by rw [hb]; exact d4
  have hstr' : vk_R own is text sa s' := vk_R.warm hW0 hstr
  obtain ⟨U, hsteps, hrun, hend, hW, hsame, ce, hce, hO⟩ := X₁.ctorThrowS hexec htr (own := own) (cls := cls) (names := names) (ic := ic) hown' hcls hnames h (fun x hx => nomatch hx) hfX hkX hcellA (by rw [hhp, hT]; exact Nat.le_refl _) (msg := .ref sa) rfl
    (g := { method := m, pc := pc + 6, locals := ls, stack := .ref sa :: .ref T.heap.size :: .ref T.heap.size :: rest, locked := none }) rfl hsize rfl rfl (rest := rest) rfl
    (by rw [hb]; exact d6) (by rw [hb]; exact d9) hout hRframes (by simp only [List.map_cons, List.sum_cons, hcat]; omega) hlocks
  obtain ⟨f1, f2⟩ := vx_frame hsame
  rw [hhp] at f1 f2
  obtain ⟨z1, z2, z3⟩ := same_sz hsame
  rw [hhp] at z1 z2 z3
  have hWs : s.WarmedH U.vm := State.WarmedH.trans hW0 hW
  have hcl : s.vm.findClass cls = some ce.cls := by
    have h9 := hO.cls
    rw [hvm] at h9
    exact h9
  have hall : s.sameButNew ({ U with vm := s.vm } : State) locs mc ms := by
    subst hA
    obtain ⟨e1, e2⟩ := hsame
    rw [State.setFrames_setFrames] at e1
    have h2 : (T.setVm s.vm).sameButNew ({ U with vm := s.vm } : State) [] (0 + 1) (0 + 6) := ⟨e1, e2⟩
    have h3 := X.same.trans h2
    rw [List.append_nil] at h3
    exact h3.mono hc hs
  refine ⟨U, ?_, .threw T.heap.size, hrun, hend, Or.inr ⟨T.heap.size, rfl, cls, ce, locs, hx U hWs.alike f1 z1 z2 z3 (fun q hq => f2 q hq (fun z hz => nomatch hz)), hce, hO.vm, hcl, hWs, hall, hf⟩⟩
  refine st1 _ ?_
  show Steps p.tables e below (T1.setTop { method := m, pc := pc + 3, locals := ls, stack := .ref T.heap.size :: rest, locked := none }) _
  jvm_step X₁.here [X₁.here.top, hexec, d3', Value.category]
  exact X₁.ldcString hexec (own := own) (text := text) (index := is) (a := sa) hown' hstr'.1 hstr'.2
    (g := { method := m, pc := pc + 4, locals := ls, stack := .ref T.heap.size :: .ref T.heap.size :: rest, locked := none }) rfl d4' _ hsteps
theorem vy_throwSW {cc : ByteArray} {pc : Nat} (hexec : p.tables.exec = Jvm.exec) (hb : c.code = cc) (hl : l.stackTraces = false) {own cls text : String} {names : List String} {ik is ic mc ms sa : Nat} {A : Nat → Prop}
    (hown : s.vm.findClass own = some m.cls) (hcls : Bundle.fit cls = true) (hnames : ∀ n ∈ names, Bundle.fit n = true)
    (hk : (Cond.classLink own ik cls).before args s = true) (hini : (Cond.initialized cls).before args s = true) (hstr : vk_R own is text sa s) (hat : ∀ w ∈ vx_atS own ic cls names, w.before args s = true)
    (hgood : ∀ w ∈ Cond.classLink own ik cls :: Cond.initialized cls :: vx_atS own ic cls names, vx_ot w = true)
    (hU : vx_Zq Bundle.tN "UNASSIGNED_STACK" Bundle.steD A s s.heap) (hN : vx_Zq Bundle.tN "SUPPRESSED_SENTINEL" Bundle.listD A s s.heap) (hS : va_S A s.heap H locs) (hsize : ls.size = c.maxLocals)
    (d0 : decode cc pc = .ok (.new ik, 3)) (d3 : decode cc (pc + 3) = .ok (.dup, 1)) (d4 : decode cc (pc + 4) = .ok (.ldc_w is, 3)) (d7 : decode cc (pc + 7) = .ok (.invokespecial ic, 3)) (d10 : decode cc (pc + 10) = .ok (.athrow, 1))
    (hout : ∀ x ∈ c.exceptionTable.toList, covers x (pc + 10) = false)
    (hRframes : names.length + 3 < R.frames) (hRlocals : (rest.map fun v => v.category).sum + (13 * (names.length + 1) + 43) ≤ R.locals) (hRcells : cells + 1 ≤ R.cells) (hRslots : slots + 6 ≤ R.slots) (hlocks : meth.locks = false)
    (hx : ∀ t : State, s.vm.Alike t.vm → H.size ≤ t.heap.size → t.heap.size ≤ H.size + 1 → hsz H ≤ hsz t.heap → hsz t.heap ≤ hsz H + 6 → (∀ q : Nat, q < H.size → t.heap[q]? = H[q]?) → XC cls s t)
    (hf : ∀ z ∈ locs, free z.base) (hc : cells + 1 ≤ mc) (hs : slots + 6 ≤ ms) :
    W p l e R s m args below meth c H locs cells slots (vx_MQ below Qc XC args s mc ms free) (F0 m pc ls rest) := by
  intro T hT X
  have htr : e.platform.stackTraces = false := (show e.platform.stackTraces = l.stackTraces by rw [X.admits.platform]).trans hl
  have Y := vx_rebase X (R' := { frames := R.frames, locals := R.locals, cells := 1, slots := 6 }) (Nat.le_refl _) (Nat.le_refl _) hRcells hRslots
  obtain ⟨s', hA⟩ : ∃ z, z = (T.setVm s.vm).setFrames (.invoking m args :: below) := ⟨_, rfl⟩
  rw [← hA] at Y
  have hvm : s'.vm = s.vm := by rw [hA]; rfl
  have hhp : s'.heap = H := by rw [hA]; exact hT
  have hW0 : s.WarmedH s'.vm := by rw [hvm]; exact State.WarmedH.refl s
  have hat' : ∀ w ∈ vx_atS own ic cls names, w.before args s' = true := fun w hw => vx_ot_at hW0 hvm.symm (hgood w (List.mem_cons_of_mem _ (List.mem_cons_of_mem _ hw))) (hat w hw)
  have hk' : (Cond.classLink own ik cls).before args s' = true := vx_ot_at hW0 hvm.symm (hgood _ List.mem_cons_self) hk
  have hini' : (Cond.initialized cls).before args s' = true := vx_ot_at hW0 hvm.symm (hgood _ (List.mem_cons_of_mem _ List.mem_cons_self)) hini
  have hU' : vx_Zq Bundle.tN "UNASSIGNED_STACK" Bundle.steD A s' s'.heap := by rw [hhp]; exact vx_Zq.moved hW0.alike (hU.kept hS.2.1)
  have hN' : vx_Zq Bundle.tN "SUPPRESSED_SENTINEL" Bundle.listD A s' s'.heap := by rw [hhp]; exact vx_Zq.moved hW0.alike (hN.kept hS.2.1)
  have h : ∀ w ∈ Bundle.ownAtoms own ic cls names, w.before args s' = true := vx_own hat' (vx_isRefq hU'.1) (vx_isRefq hN'.1) hU'.2.word hN'.2.word
  have hown' : s'.vm.findClass own = some m.cls := by rw [hvm]; exact hown
  have hins : (Cond.instantiable cls 6).before args s' = true := h _ (by simp [Bundle.ownAtoms])
  obtain ⟨vm₁, cX, kX, hfX, hkX, -, -, X₁, st1⟩ := Y.newCold hexec (own := own) (C := cls) (index := ik) (n := 6) hown' hk' hins hini'
    (g := F0 m pc ls rest) rfl (by rw [hb]; exact d0) (Nat.le_refl _) (Nat.le_refl _)
  generalize hT1 : (T.setVm vm₁).pushCell { cls := cX, slots := kX.instanceTypes.map defaultValue, vm := .none } = T1 at X₁ st1
  have hcat : (Value.ref T.heap.size).category = 1 := rfl
  have hcellA : T1.heap[T.heap.size]? = some (freshCell cX kX) := by rw [← hT1]; exact State.heap_pushCell_size _ _
  have d3' : decode c.code (pc + 3) = .ok (.dup, 1) := by rw [hb]; exact d3
  have d4' : decode c.code (pc + 4) = .ok (.ldc_w is, 3) := by rw [hb]; exact d4
  have hstr' : vk_R own is text sa s' := vk_R.warm hW0 hstr
  obtain ⟨U, hsteps, hrun, hend, hW, hsame, ce, hce, hO⟩ := X₁.ctorThrowS hexec htr (own := own) (cls := cls) (names := names) (ic := ic) hown' hcls hnames h (fun x hx => nomatch hx) hfX hkX hcellA (by rw [hhp, hT]; exact Nat.le_refl _) (msg := .ref sa) rfl
    (g := { method := m, pc := pc + 7, locals := ls, stack := .ref sa :: .ref T.heap.size :: .ref T.heap.size :: rest, locked := none }) rfl hsize rfl rfl (rest := rest) rfl
    (by rw [hb]; exact d7) (by rw [hb]; exact d10) hout hRframes (by simp only [List.map_cons, List.sum_cons, hcat]; omega) hlocks
  obtain ⟨f1, f2⟩ := vx_frame hsame
  rw [hhp] at f1 f2
  obtain ⟨z1, z2, z3⟩ := same_sz hsame
  rw [hhp] at z1 z2 z3
  have hWs : s.WarmedH U.vm := State.WarmedH.trans hW0 hW
  have hcl : s.vm.findClass cls = some ce.cls := by
    have h9 := hO.cls
    rw [hvm] at h9
    exact h9
  have hall : s.sameButNew ({ U with vm := s.vm } : State) locs mc ms := by
    subst hA
    obtain ⟨e1, e2⟩ := hsame
    rw [State.setFrames_setFrames] at e1
    have h2 : (T.setVm s.vm).sameButNew ({ U with vm := s.vm } : State) [] (0 + 1) (0 + 6) := ⟨e1, e2⟩
    have h3 := X.same.trans h2
    rw [List.append_nil] at h3
    exact h3.mono hc hs
  refine ⟨U, ?_, .threw T.heap.size, hrun, hend, Or.inr ⟨T.heap.size, rfl, cls, ce, locs, hx U hWs.alike f1 z1 z2 z3 (fun q hq => f2 q hq (fun z hz => nomatch hz)), hce, hO.vm, hcl, hWs, hall, hf⟩⟩
  refine st1 _ ?_
  show Steps p.tables e below (T1.setTop { method := m, pc := pc + 3, locals := ls, stack := .ref T.heap.size :: rest, locked := none }) _
  jvm_step X₁.here [X₁.here.top, hexec, d3', Value.category]
  exact X₁.ldcStringW hexec (own := own) (text := text) (index := is) (a := sa) hown' hstr'.1 hstr'.2
    (g := { method := m, pc := pc + 4, locals := ls, stack := .ref T.heap.size :: .ref T.heap.size :: rest, locked := none }) rfl d4' _ hsteps
end THROWS
/-- the world with cells and slots more that nobody names -/
def gskip (G : LG) (a b : Nat) : LG := (gS G, gK G, gc G + a, gs G + b)
theorem HD_skip {dT : Nat → ClassId} {D : va_G} {base sbase : Nat} {ad : Nat → Nat} {G : LG} {H H1 : Heap} {a b : Nat} (hd : HD dT D base sbase ad G H) (hc : gc G + a ≤ 601024) (hs : gs G + b ≤ 7293034) (z1 : H1.size = H.size + a) (z2 : hsz H1 = hsz H + b) (oq : ∀ q, q < H.size → H1[q]? = H[q]?) : HD dT D base sbase ad (gskip G a b) H1 ∧ Ext base ad G ad (gskip G a b) := by
  obtain ⟨d1, d2, d3, d4, d5, d6, d7⟩ := hd
  refine ⟨⟨fun n hn => ?_, d2, d3, ?_, ?_, hc, hs⟩, fun n hn => ⟨rfl, rfl⟩, fun n h0 h1 => absurd h0 h1, Nat.le_add_right _ _, Nat.le_add_right _ _⟩
  · exact (d1 n hn).kept (oq _ (d1 n hn).lt)
  · rw [z1, d4]; show base + gc G + a = base + (gc G + a); omega
  · rw [z2, d5]; show sbase + gs G + b = sbase + (gs G + b); omega
section XROWS
variable {K K' : KD} {X : CX} {pc : Nat} {lv lv' : List (Option LV)} {st rest as : List LV} {G : LG} {Qr : RS → LG → Prop} {y : MethodName} {f idx n ci L N : Nat} {T : TR} {TT : u_T}
theorem s_throw_IAE {is : Nat} {text : String} (hR : RetX X Qr) (how : K.1 = RX11) (hh : K.2.2.2.2 = []) (hstr : (is, text) ∈ ev_str) (d0 : decode K.2.1 pc = .ok (.new 42, 3)) (d3 : decode K.2.1 (pc + 3) = .ok (.dup, 1)) (d4 : decode K.2.1 (pc + 4) = .ok (.ldc is, 2)) (d6 : decode K.2.1 (pc + 6) = .ok (.invokespecial 46, 3)) (d9 : decode K.2.1 (pc + 9) = .ok (.athrow, 1)) (hcf : 6 ≤ cf X) (hst : (st.map (fun v => if v.1 = 1 then 2 else 1)).sum ≤ 60) (hc : gc G + 1 ≤ 601024) (hs9 : gs G + 6 ≤ 7293034)
    (hq : ∀ a b : Nat, a ≤ 1 → b ≤ 6 → Qr (.inr "java/lang/IllegalArgumentException") (gskip G a b)) : WP K X pc lv st G := by
  obtain ⟨p, l, e, R, s, m, args, below, meth, c, D, dT, ad0, G0, Q, base, sbase⟩ := X
  intro ho ad H locs ls hd he hs hl o1 o2
  have hts := ho.2.2.2.2.1
  have hE := ho.2.2.2.2.2.2.2.2.2.1.1
  have hR' : Q = _ := hR
  have hcf' : 6 ≤ R.frames := hcf
  have hloc := ho.2.2.2.2.2.2.2.2.2.2.2.1.2.2
  obtain ⟨sa, hsa⟩ := hE.1.str (is, text) hstr
  obtain ⟨hc1, hs1⟩ := room_new ho hd he hc hs9
  have e3 := he.2.2.1
  have e4 := he.2.2.2
  have z1 := hd.2.2.2.1
  have z2 := hd.2.2.2.2.1
  have z5 := ho.2.2.2.2.2.2.2.2.2.2.2.2.1
  have z6 := ho.2.2.2.2.2.2.2.2.2.2.2.2.2
  have hown : s.vm.findClass RX11 = some m.cls := by rw [← how]; exact ho.2.2.2.1
  have h8 : c.exceptionTable.toList = [] := by rw [ho.2.2.2.2.2.2.2.1, hh]; rfl
  rw [hR']
  refine vy_throwS (names := ["java/lang/RuntimeException", "java/lang/Exception"]) (cls := "java/lang/IllegalArgumentException") (text := text) (sa := sa) (own := RX11) ho.1 ho.2.1 (noTrace ho.2.2.2.2.2.2.2.2.2.2.1) hown (by decide +kernel) (by decide +kernel) (hts _ m_21) (hts _ m_698) hsa (hE.hat_IAE (fun w h => hts w (wi_46 w h))) hgood_IAE_42 hE.2.1 hE.2.2.1 hs (by rw [ho.2.2.1]; exact hl.1) d0 d3 d4 d6 d9 (fun x hx9 => by rw [h8] at hx9; cases hx9) (by show 2 + 3 < R.frames; omega) ?_ hc1 hs1 ho.2.2.2.2.2.1 (fun t hal t1 t2 t3 t4 hk => ?_) hs.2.2 (by omega) (by omega)
  · rw [cat_sum]; show _ + (13 * (2 + 1) + 43) ≤ R.locals; omega
  · have k1 : t.heap.size = H.size + (t.heap.size - H.size) := by omega
    have k2 : hsz t.heap = hsz H + (hsz t.heap - hsz H) := by omega
    obtain ⟨q1, q2⟩ := HD_skip hd (by omega) (by omega) k1 k2 hk
    exact ⟨⟨gskip G (t.heap.size - H.size) (hsz t.heap - hsz H), ad, hq _ _ (by omega) (by omega), he.trans q2, q1⟩, Nat.le_trans hs.1 t1, fun q h1 h2 => (hk q (Nat.lt_of_lt_of_le h1 hs.1)).trans (hs.2.1 q h1 h2)⟩
theorem s_throwW_IAE {is : Nat} {text : String} (hR : RetX X Qr) (how : K.1 = RX11) (hh : K.2.2.2.2 = []) (hstr : (is, text) ∈ ev_str) (d0 : decode K.2.1 pc = .ok (.new 42, 3)) (d3 : decode K.2.1 (pc + 3) = .ok (.dup, 1)) (d4 : decode K.2.1 (pc + 4) = .ok (.ldc_w is, 3)) (d6 : decode K.2.1 (pc + 7) = .ok (.invokespecial 46, 3)) (d9 : decode K.2.1 (pc + 10) = .ok (.athrow, 1)) (hcf : 6 ≤ cf X) (hst : (st.map (fun v => if v.1 = 1 then 2 else 1)).sum ≤ 60) (hc : gc G + 1 ≤ 601024) (hs9 : gs G + 6 ≤ 7293034)
    (hq : ∀ a b : Nat, a ≤ 1 → b ≤ 6 → Qr (.inr "java/lang/IllegalArgumentException") (gskip G a b)) : WP K X pc lv st G := by
  obtain ⟨p, l, e, R, s, m, args, below, meth, c, D, dT, ad0, G0, Q, base, sbase⟩ := X
  intro ho ad H locs ls hd he hs hl o1 o2
  have hts := ho.2.2.2.2.1
  have hE := ho.2.2.2.2.2.2.2.2.2.1.1
  have hR' : Q = _ := hR
  have hcf' : 6 ≤ R.frames := hcf
  have hloc := ho.2.2.2.2.2.2.2.2.2.2.2.1.2.2
  obtain ⟨sa, hsa⟩ := hE.1.str (is, text) hstr
  obtain ⟨hc1, hs1⟩ := room_new ho hd he hc hs9
  have e3 := he.2.2.1
  have e4 := he.2.2.2
  have z1 := hd.2.2.2.1
  have z2 := hd.2.2.2.2.1
  have z5 := ho.2.2.2.2.2.2.2.2.2.2.2.2.1
  have z6 := ho.2.2.2.2.2.2.2.2.2.2.2.2.2
  have hown : s.vm.findClass RX11 = some m.cls := by rw [← how]; exact ho.2.2.2.1
  have h8 : c.exceptionTable.toList = [] := by rw [ho.2.2.2.2.2.2.2.1, hh]; rfl
  rw [hR']
  refine vy_throwSW (names := ["java/lang/RuntimeException", "java/lang/Exception"]) (cls := "java/lang/IllegalArgumentException") (text := text) (sa := sa) (own := RX11) ho.1 ho.2.1 (noTrace ho.2.2.2.2.2.2.2.2.2.2.1) hown (by decide +kernel) (by decide +kernel) (hts _ m_21) (hts _ m_698) hsa (hE.hat_IAE (fun w h => hts w (wi_46 w h))) hgood_IAE_42 hE.2.1 hE.2.2.1 hs (by rw [ho.2.2.1]; exact hl.1) d0 d3 d4 d6 d9 (fun x hx9 => by rw [h8] at hx9; cases hx9) (by show 2 + 3 < R.frames; omega) ?_ hc1 hs1 ho.2.2.2.2.2.1 (fun t hal t1 t2 t3 t4 hk => ?_) hs.2.2 (by omega) (by omega)
  · rw [cat_sum]; show _ + (13 * (2 + 1) + 43) ≤ R.locals; omega
  · have k1 : t.heap.size = H.size + (t.heap.size - H.size) := by omega
    have k2 : hsz t.heap = hsz H + (hsz t.heap - hsz H) := by omega
    obtain ⟨q1, q2⟩ := HD_skip hd (by omega) (by omega) k1 k2 hk
    exact ⟨⟨gskip G (t.heap.size - H.size) (hsz t.heap - hsz H), ad, hq _ _ (by omega) (by omega), he.trans q2, q1⟩, Nat.le_trans hs.1 t1, fun q h1 h2 => (hk q (Nat.lt_of_lt_of_le h1 hs.1)).trans (hs.2.1 q h1 h2)⟩
theorem s_throw_IOB {is : Nat} {text : String} (hR : RetX X Qr) (how : K.1 = RX11) (hh : K.2.2.2.2 = []) (hstr : (is, text) ∈ ev_str) (d0 : decode K.2.1 pc = .ok (.new 162, 3)) (d3 : decode K.2.1 (pc + 3) = .ok (.dup, 1)) (d4 : decode K.2.1 (pc + 4) = .ok (.ldc is, 2)) (d6 : decode K.2.1 (pc + 6) = .ok (.invokespecial 166, 3)) (d9 : decode K.2.1 (pc + 9) = .ok (.athrow, 1)) (hcf : 6 ≤ cf X) (hst : (st.map (fun v => if v.1 = 1 then 2 else 1)).sum ≤ 60) (hc : gc G + 1 ≤ 601024) (hs9 : gs G + 6 ≤ 7293034)
    (hq : ∀ a b : Nat, a ≤ 1 → b ≤ 6 → Qr (.inr "java/lang/IndexOutOfBoundsException") (gskip G a b)) : WP K X pc lv st G := by
  obtain ⟨p, l, e, R, s, m, args, below, meth, c, D, dT, ad0, G0, Q, base, sbase⟩ := X
  intro ho ad H locs ls hd he hs hl o1 o2
  have hts := ho.2.2.2.2.1
  have hE := ho.2.2.2.2.2.2.2.2.2.1.1
  have hR' : Q = _ := hR
  have hcf' : 6 ≤ R.frames := hcf
  have hloc := ho.2.2.2.2.2.2.2.2.2.2.2.1.2.2
  obtain ⟨sa, hsa⟩ := hE.1.str (is, text) hstr
  obtain ⟨hc1, hs1⟩ := room_new ho hd he hc hs9
  have e3 := he.2.2.1
  have e4 := he.2.2.2
  have z1 := hd.2.2.2.1
  have z2 := hd.2.2.2.2.1
  have z5 := ho.2.2.2.2.2.2.2.2.2.2.2.2.1
  have z6 := ho.2.2.2.2.2.2.2.2.2.2.2.2.2
  have hown : s.vm.findClass RX11 = some m.cls := by rw [← how]; exact ho.2.2.2.1
  have h8 : c.exceptionTable.toList = [] := by rw [ho.2.2.2.2.2.2.2.1, hh]; rfl
  rw [hR']
  refine vy_throwS (names := ["java/lang/RuntimeException", "java/lang/Exception"]) (cls := "java/lang/IndexOutOfBoundsException") (text := text) (sa := sa) (own := RX11) ho.1 ho.2.1 (noTrace ho.2.2.2.2.2.2.2.2.2.2.1) hown (by decide +kernel) (by decide +kernel) (hts _ m_16) (hts _ m_700) hsa (hE.hat_IOB (fun w h => hts w (wi_45 w h))) hgood_IOB_162 hE.2.1 hE.2.2.1 hs (by rw [ho.2.2.1]; exact hl.1) d0 d3 d4 d6 d9 (fun x hx9 => by rw [h8] at hx9; cases hx9) (by show 2 + 3 < R.frames; omega) ?_ hc1 hs1 ho.2.2.2.2.2.1 (fun t hal t1 t2 t3 t4 hk => ?_) hs.2.2 (by omega) (by omega)
  · rw [cat_sum]; show _ + (13 * (2 + 1) + 43) ≤ R.locals; omega
  · have k1 : t.heap.size = H.size + (t.heap.size - H.size) := by omega
    have k2 : hsz t.heap = hsz H + (hsz t.heap - hsz H) := by omega
    obtain ⟨q1, q2⟩ := HD_skip hd (by omega) (by omega) k1 k2 hk
    exact ⟨⟨gskip G (t.heap.size - H.size) (hsz t.heap - hsz H), ad, hq _ _ (by omega) (by omega), he.trans q2, q1⟩, Nat.le_trans hs.1 t1, fun q h1 h2 => (hk q (Nat.lt_of_lt_of_le h1 hs.1)).trans (hs.2.1 q h1 h2)⟩
theorem s_throwW_IOB {is : Nat} {text : String} (hR : RetX X Qr) (how : K.1 = RX11) (hh : K.2.2.2.2 = []) (hstr : (is, text) ∈ ev_str) (d0 : decode K.2.1 pc = .ok (.new 162, 3)) (d3 : decode K.2.1 (pc + 3) = .ok (.dup, 1)) (d4 : decode K.2.1 (pc + 4) = .ok (.ldc_w is, 3)) (d6 : decode K.2.1 (pc + 7) = .ok (.invokespecial 166, 3)) (d9 : decode K.2.1 (pc + 10) = .ok (.athrow, 1)) (hcf : 6 ≤ cf X) (hst : (st.map (fun v => if v.1 = 1 then 2 else 1)).sum ≤ 60) (hc : gc G + 1 ≤ 601024) (hs9 : gs G + 6 ≤ 7293034)
    (hq : ∀ a b : Nat, a ≤ 1 → b ≤ 6 → Qr (.inr "java/lang/IndexOutOfBoundsException") (gskip G a b)) : WP K X pc lv st G := by
  obtain ⟨p, l, e, R, s, m, args, below, meth, c, D, dT, ad0, G0, Q, base, sbase⟩ := X
  intro ho ad H locs ls hd he hs hl o1 o2
  have hts := ho.2.2.2.2.1
  have hE := ho.2.2.2.2.2.2.2.2.2.1.1
  have hR' : Q = _ := hR
  have hcf' : 6 ≤ R.frames := hcf
  have hloc := ho.2.2.2.2.2.2.2.2.2.2.2.1.2.2
  obtain ⟨sa, hsa⟩ := hE.1.str (is, text) hstr
  obtain ⟨hc1, hs1⟩ := room_new ho hd he hc hs9
  have e3 := he.2.2.1
  have e4 := he.2.2.2
  have z1 := hd.2.2.2.1
  have z2 := hd.2.2.2.2.1
  have z5 := ho.2.2.2.2.2.2.2.2.2.2.2.2.1
  have z6 := ho.2.2.2.2.2.2.2.2.2.2.2.2.2
  have hown : s.vm.findClass RX11 = some m.cls := by rw [← how]; exact ho.2.2.2.1
  have h8 : c.exceptionTable.toList = [] := by rw [ho.2.2.2.2.2.2.2.1, hh]; rfl
  rw [hR']
  refine vy_throwSW (names := ["java/lang/RuntimeException", "java/lang/Exception"]) (cls := "java/lang/IndexOutOfBoundsException") (text := text) (sa := sa) (own := RX11) ho.1 ho.2.1 (noTrace ho.2.2.2.2.2.2.2.2.2.2.1) hown (by decide +kernel) (by decide +kernel) (hts _ m_16) (hts _ m_700) hsa (hE.hat_IOB (fun w h => hts w (wi_45 w h))) hgood_IOB_162 hE.2.1 hE.2.2.1 hs (by rw [ho.2.2.1]; exact hl.1) d0 d3 d4 d6 d9 (fun x hx9 => by rw [h8] at hx9; cases hx9) (by show 2 + 3 < R.frames; omega) ?_ hc1 hs1 ho.2.2.2.2.2.1 (fun t hal t1 t2 t3 t4 hk => ?_) hs.2.2 (by omega) (by omega)
  · rw [cat_sum]; show _ + (13 * (2 + 1) + 43) ≤ R.locals; omega
  · have k1 : t.heap.size = H.size + (t.heap.size - H.size) := by omega
    have k2 : hsz t.heap = hsz H + (hsz t.heap - hsz H) := by omega
    obtain ⟨q1, q2⟩ := HD_skip hd (by omega) (by omega) k1 k2 hk
    exact ⟨⟨gskip G (t.heap.size - H.size) (hsz t.heap - hsz H), ad, hq _ _ (by omega) (by omega), he.trans q2, q1⟩, Nat.le_trans hs.1 t1, fun q h1 h2 => (hk q (Nat.lt_of_lt_of_le h1 hs.1)).trans (hs.2.1 q h1 h2)⟩
theorem s_throw_ISE {is : Nat} {text : String} (hR : RetX X Qr) (how : K.1 = RX11) (hh : K.2.2.2.2 = []) (hstr : (is, text) ∈ ev_str) (d0 : decode K.2.1 pc = .ok (.new 63, 3)) (d3 : decode K.2.1 (pc + 3) = .ok (.dup, 1)) (d4 : decode K.2.1 (pc + 4) = .ok (.ldc is, 2)) (d6 : decode K.2.1 (pc + 6) = .ok (.invokespecial 67, 3)) (d9 : decode K.2.1 (pc + 9) = .ok (.athrow, 1)) (hcf : 6 ≤ cf X) (hst : (st.map (fun v => if v.1 = 1 then 2 else 1)).sum ≤ 60) (hc : gc G + 1 ≤ 601024) (hs9 : gs G + 6 ≤ 7293034)
    (hq : ∀ a b : Nat, a ≤ 1 → b ≤ 6 → Qr (.inr "java/lang/IllegalStateException") (gskip G a b)) : WP K X pc lv st G := by
  obtain ⟨p, l, e, R, s, m, args, below, meth, c, D, dT, ad0, G0, Q, base, sbase⟩ := X
  intro ho ad H locs ls hd he hs hl o1 o2
  have hts := ho.2.2.2.2.1
  have hE := ho.2.2.2.2.2.2.2.2.2.1.1
  have hR' : Q = _ := hR
  have hcf' : 6 ≤ R.frames := hcf
  have hloc := ho.2.2.2.2.2.2.2.2.2.2.2.1.2.2
  obtain ⟨sa, hsa⟩ := hE.1.str (is, text) hstr
  obtain ⟨hc1, hs1⟩ := room_new ho hd he hc hs9
  have e3 := he.2.2.1
  have e4 := he.2.2.2
  have z1 := hd.2.2.2.1
  have z2 := hd.2.2.2.2.1
  have z5 := ho.2.2.2.2.2.2.2.2.2.2.2.2.1
  have z6 := ho.2.2.2.2.2.2.2.2.2.2.2.2.2
  have hown : s.vm.findClass RX11 = some m.cls := by rw [← how]; exact ho.2.2.2.1
  have h8 : c.exceptionTable.toList = [] := by rw [ho.2.2.2.2.2.2.2.1, hh]; rfl
  rw [hR']
  refine vy_throwS (names := ["java/lang/RuntimeException", "java/lang/Exception"]) (cls := "java/lang/IllegalStateException") (text := text) (sa := sa) (own := RX11) ho.1 ho.2.1 (noTrace ho.2.2.2.2.2.2.2.2.2.2.1) hown (by decide +kernel) (by decide +kernel) (hts _ m_22) (hts _ m_699) hsa (hE.hat_ISE (fun w h => hts w (wi_47 w h))) hgood_ISE_63 hE.2.1 hE.2.2.1 hs (by rw [ho.2.2.1]; exact hl.1) d0 d3 d4 d6 d9 (fun x hx9 => by rw [h8] at hx9; cases hx9) (by show 2 + 3 < R.frames; omega) ?_ hc1 hs1 ho.2.2.2.2.2.1 (fun t hal t1 t2 t3 t4 hk => ?_) hs.2.2 (by omega) (by omega)
  · rw [cat_sum]; show _ + (13 * (2 + 1) + 43) ≤ R.locals; omega
  · have k1 : t.heap.size = H.size + (t.heap.size - H.size) := by omega
    have k2 : hsz t.heap = hsz H + (hsz t.heap - hsz H) := by omega
    obtain ⟨q1, q2⟩ := HD_skip hd (by omega) (by omega) k1 k2 hk
    exact ⟨⟨gskip G (t.heap.size - H.size) (hsz t.heap - hsz H), ad, hq _ _ (by omega) (by omega), he.trans q2, q1⟩, Nat.le_trans hs.1 t1, fun q h1 h2 => (hk q (Nat.lt_of_lt_of_le h1 hs.1)).trans (hs.2.1 q h1 h2)⟩
theorem s_throwW_ISE {is : Nat} {text : String} (hR : RetX X Qr) (how : K.1 = RX11) (hh : K.2.2.2.2 = []) (hstr : (is, text) ∈ ev_str) (d0 : decode K.2.1 pc = .ok (.new 63, 3)) (d3 : decode K.2.1 (pc + 3) = .ok (.dup, 1)) (d4 : decode K.2.1 (pc + 4) = .ok (.ldc_w is, 3)) (d6 : decode K.2.1 (pc + 7) = .ok (.invokespecial 67, 3)) (d9 : decode K.2.1 (pc + 10) = .ok (.athrow, 1)) (hcf : 6 ≤ cf X) (hst : (st.map (fun v => if v.1 = 1 then 2 else 1)).sum ≤ 60) (hc : gc G + 1 ≤ 601024) (hs9 : gs G + 6 ≤ 7293034)
    (hq : ∀ a b : Nat, a ≤ 1 → b ≤ 6 → Qr (.inr "java/lang/IllegalStateException") (gskip G a b)) : WP K X pc lv st G := by
  obtain ⟨p, l, e, R, s, m, args, below, meth, c, D, dT, ad0, G0, Q, base, sbase⟩ := X
  intro ho ad H locs ls hd he hs hl o1 o2
  have hts := ho.2.2.2.2.1
  have hE := ho.2.2.2.2.2.2.2.2.2.1.1
  have hR' : Q = _ := hR
  have hcf' : 6 ≤ R.frames := hcf
  have hloc := ho.2.2.2.2.2.2.2.2.2.2.2.1.2.2
  obtain ⟨sa, hsa⟩ := hE.1.str (is, text) hstr
  obtain ⟨hc1, hs1⟩ := room_new ho hd he hc hs9
  have e3 := he.2.2.1
  have e4 := he.2.2.2
  have z1 := hd.2.2.2.1
  have z2 := hd.2.2.2.2.1
  have z5 := ho.2.2.2.2.2.2.2.2.2.2.2.2.1
  have z6 := ho.2.2.2.2.2.2.2.2.2.2.2.2.2
  have hown : s.vm.findClass RX11 = some m.cls := by rw [← how]; exact ho.2.2.2.1
  have h8 : c.exceptionTable.toList = [] := by rw [ho.2.2.2.2.2.2.2.1, hh]; rfl
  rw [hR']
  refine vy_throwSW (names := ["java/lang/RuntimeException", "java/lang/Exception"]) (cls := "java/lang/IllegalStateException") (text := text) (sa := sa) (own := RX11) ho.1 ho.2.1 (noTrace ho.2.2.2.2.2.2.2.2.2.2.1) hown (by decide +kernel) (by decide +kernel) (hts _ m_22) (hts _ m_699) hsa (hE.hat_ISE (fun w h => hts w (wi_47 w h))) hgood_ISE_63 hE.2.1 hE.2.2.1 hs (by rw [ho.2.2.1]; exact hl.1) d0 d3 d4 d6 d9 (fun x hx9 => by rw [h8] at hx9; cases hx9) (by show 2 + 3 < R.frames; omega) ?_ hc1 hs1 ho.2.2.2.2.2.1 (fun t hal t1 t2 t3 t4 hk => ?_) hs.2.2 (by omega) (by omega)
  · rw [cat_sum]; show _ + (13 * (2 + 1) + 43) ≤ R.locals; omega
  · have k1 : t.heap.size = H.size + (t.heap.size - H.size) := by omega
    have k2 : hsz t.heap = hsz H + (hsz t.heap - hsz H) := by omega
    obtain ⟨q1, q2⟩ := HD_skip hd (by omega) (by omega) k1 k2 hk
    exact ⟨⟨gskip G (t.heap.size - H.size) (hsz t.heap - hsz H), ad, hq _ _ (by omega) (by omega), he.trans q2, q1⟩, Nat.le_trans hs.1 t1, fun q h1 h2 => (hk q (Nat.lt_of_lt_of_le h1 hs.1)).trans (hs.2.1 q h1 h2)⟩
/-- what is wanted behind a call that returns or throws -/
def thenX (K : KD) (X : CX) (pc : Nat) (lv : List (Option LV)) (rest : List LV) (Qx : String → LG → Prop) : RS → LG → Prop := fun r G' => match r with
  | .inl r => WP K X pc lv (r.toList ++ rest) G'
  | .inr E => Qx E G'
theorem call_coreX {K : KD} {p : Program} {l : Launch} {e : Env} {R : Room} {s : State} {m : MethodId} {args : Array Value} {below : List Frame} {meth : Method} {c : Code} {D : va_G} {dT : Nat → ClassId} {ad0 : Nat → Nat} {G0 : LG} {Q : State → Prop} {base sbase : Nat} (ho : okX K (p, l, e, R, s, m, args, below, meth, c, D, dT, ad0, G0, Q, base, sbase))
    {ad : Nat → Nat} {G : LG} {H : Heap} {locs : List Loc} {ls : Array Slot} (hd : HD dT D base sbase ad G H) (he : Ext base ad0 G0 ad G) (hs : va_S (AG base ad0 G0) s.heap H locs) {lv : List (Option LV)} (hl : lv_is ad ls K.2.2.1 lv) (o1 : ∀ v, some v ∈ lv → okv G v) {rest : List LV} (o2 : ∀ v ∈ rest, okv G v)
    {mc ms pc : Nat} {st0 : List Value} {aa : Array Value} {Qr : RS → LG → Prop} (hr : vx_Run p l e R s m args below meth c H locs (H.size - s.heap.size) (hsz H - hsz s.heap) mc ms (F0 m pc ls st0) (rest.map (rv ad)) (QcG dT D base sbase ad G Qr aa) (XcG dT D base sbase ad G Qr) (AG base ad G))
    (kk : ∀ (r : Option LV) (G' : LG), Qr (.inl r) G' → WP K (p, l, e, R, s, m, args, below, meth, c, D, dT, ad0, G0, Q, base, sbase) (pc + 3) lv (r.toList ++ rest) G')
    (kx : ∀ (E : String) (G' : LG), Qr (.inr E) G' → ∀ (ad' : Nat → Nat) (H1 : Heap) (locs1 : List Loc) (q : Addr) (ce : Cell), HD dT D base sbase ad' G' H1 → Ext base ad0 G0 ad' G' → va_S (AG base ad0 G0) s.heap H1 locs1 → lv_is ad' ls K.2.2.1 lv → (∀ v, some v ∈ lv → okv G' v) → H1[q]? = some ce → ce.vm = .none → s.vm.findClass E = some ce.cls → vx_W p l e R s m args below meth c H1 locs1 (H1.size - s.heap.size) (hsz H1 - hsz s.heap) Q (F0 m pc ls (rest.map (rv ad))) q) :
    W p l e R s m args below meth c H locs (H.size - s.heap.size) (hsz H - hsz s.heap) Q (F0 m pc ls st0) := by
  intro T hT X
  rcases hr T hT X with ⟨v, st₀, t, T', L, h0, X', hL, e1, e2, ⟨⟨r, G', ad', hv, hq, hok, hx, hd'⟩, hF⟩, st⟩ | ⟨q, st₀, t, T', L, E, ce, h0, X', hL, e1, e2, ⟨⟨G', ad', hq, hx, hd'⟩, hF⟩, hce, hcv, hcl, st⟩
  · cases hv
    have hx0 := he.trans hx
    have hs' : va_S (AG base ad0 G0) s.heap T'.heap (locs ++ L) := (vx_keep h0 e1 hs (fun q _ h => he.ag q h) (fun q h => he.ag q h) hL hF).2.2
    rw [← e1] at hd'
    have hl' : lv_is ad' ls K.2.2.1 lv := ⟨hl.1, hl.2.1, fun k w hk => by rw [hx.rvE (okv_lv o1 hk)]; exact hl.2.2 k w hk⟩
    have ok1 : ∀ w, some w ∈ lv → okv G' w := fun w hw => hx.okE (o1 w hw)
    have ok2 : ∀ w ∈ r.toList ++ rest, okv G' w := by
      intro w hw
      rcases List.mem_append.mp hw with h | h
      · exact hok w (Option.mem_toList.mp h)
      · exact hx.okE (o2 w h)
    obtain ⟨t2, a1, b1⟩ := kk r G' hq ho ad' T'.heap (locs ++ L) ls hd' hx0 hs' hl' ok1 ok2 T' rfl (stand_exact X')
    have e9 : (r.toList ++ rest).map (rv ad') = (r.map (rv ad')).toList ++ rest.map (rv ad) := by
      rw [List.map_append, hx.rvsE o2]
      cases r <;> rfl
    rw [e9] at a1
    exact ⟨t2, st t2 a1, b1⟩
  · have hx0 := he.trans hx
    have hs' : va_S (AG base ad0 G0) s.heap T'.heap (locs ++ L) := (vx_keep h0 e1 hs (fun q _ h => he.ag q h) (fun q h => he.ag q h) hL hF).2.2
    rw [← e1] at hd' hce
    have hl' : lv_is ad' ls K.2.2.1 lv := ⟨hl.1, hl.2.1, fun k w hk => by rw [hx.rvE (okv_lv o1 hk)]; exact hl.2.2 k w hk⟩
    obtain ⟨t2, a1, b1⟩ := kx E G' hq ad' T'.heap (locs ++ L) q ce hd' hx0 hs' hl' (fun w hw => hx.okE (o1 w hw)) hce hcv hcl T' rfl (stand_exact X')
    exact ⟨t2, st.trans a1, b1⟩
/-- it goes on to the caller -/
theorem pass_on {K : KD} {p : Program} {l : Launch} {e : Env} {R : Room} {s : State} {m : MethodId} {args : Array Value} {below : List Frame} {meth : Method} {c : Code} {D : va_G} {dT : Nat → ClassId} {ad0 : Nat → Nat} {G0 : LG} {Q : State → Prop} {base sbase : Nat} (ho : okX K (p, l, e, R, s, m, args, below, meth, c, D, dT, ad0, G0, Q, base, sbase)) (hh : K.2.2.2.2 = []) {Qr : RS → LG → Prop} (hR : RetX (p, l, e, R, s, m, args, below, meth, c, D, dT, ad0, G0, Q, base, sbase) Qr)
    {E : String} {G' : LG} (hq : Qr (.inr E) G') {ad' : Nat → Nat} {H1 : Heap} {locs1 : List Loc} {q : Addr} {ce : Cell} {ls : Array Slot} {rest : List Value} {pc : Nat} (hd' : HD dT D base sbase ad' G' H1) (hx0 : Ext base ad0 G0 ad' G') (hs' : va_S (AG base ad0 G0) s.heap H1 locs1) (hce : H1[q]? = some ce) (hcv : ce.vm = .none) (hcl : s.vm.findClass E = some ce.cls) :
    vx_W p l e R s m args below meth c H1 locs1 (H1.size - s.heap.size) (hsz H1 - hsz s.heap) Q (F0 m pc ls rest) q := by
  have hR' : Q = _ := hR
  have z1 := hd'.2.2.2.1
  have z2 := hd'.2.2.2.2.1
  have z3 := hd'.2.2.2.2.2.1
  have z4 := hd'.2.2.2.2.2.2
  have z5 := ho.2.2.2.2.2.2.2.2.2.2.2.2.1
  have z6 := ho.2.2.2.2.2.2.2.2.2.2.2.2.2
  have h8 : c.exceptionTable.toList = [] := by rw [ho.2.2.2.2.2.2.2.1, hh]; rfl
  rw [hR']
  exact vx_out (fun x hx9 => by rw [h8] at hx9; cases hx9) ho.2.2.2.2.2.1 hce hcv hcl (fun t ht _ => ⟨⟨G', ad', hq, hx0, by rw [ht]; exact hd'⟩, by rw [ht]; exact hs'.1, fun x h1 h2 => by rw [ht]; exact hs'.2.1 x h1 h2⟩) hs'.2.2 (by omega) (by omega)
/-- what a handler of the method does with an E -/
def catches (K : KD) (X : CX) (pc : Nat) (lv : List (Option LV)) (E : String) (G : LG) : Prop := ∃ (pre suf : List ExceptionTableEntry) (x : ExceptionTableEntry) (k : Nat), tableOf K.2.2.2.2 = pre ++ x :: suf ∧ (∀ z ∈ pre, covers z pc = false ∨ (z.catchType ≠ 0 ∧ ∃ nm : String, Cond.classLink K.1 z.catchType nm ∈ WALL ∧ (E, nm) ∈ ev_nc)) ∧ covers x pc = true ∧ x.catchType ≠ 0 ∧ Cond.classLink K.1 x.catchType E ∈ WALL ∧ (E, E) ∈ ev_cast ∧ decode K.2.1 x.handlerPc = .ok (.astore k, 2) ∧ k < K.2.2.1 ∧
  WP K X (x.handlerPc + 2) ((setl lv k (2, 0)).set k none) [] G
theorem lv_is_drop {ad : Nat → Nat} {ls : Array Slot} {nL i : Nat} {lv : List (Option LV)} {q : Value} (h : lv_has ls nL ((i, q) :: (lvl ad lv).filter (fun q => !(q.1 == i) && !(q.1 + 1 == i && q.2.category == 2)))) : lv_is ad ls nL ((setl lv i (2, 0)).set i none) := by
  refine ⟨h.1, h.2.1, fun k w hk => ?_⟩
  rw [List.getElem?_set] at hk
  by_cases hik : i = k
  · subst hik
    rw [if_pos rfl] at hk
    split at hk <;> cases hk
  · rw [if_neg hik] at hk
    rcases setl_get lv i (2, 0) k w hk with ⟨e1, -⟩ | ⟨e1, e2, e3, e4⟩
    · exact absurd e1.symm hik
    · refine h.2.2 (k, rv ad w) (List.mem_cons_of_mem _ (List.mem_filter.mpr ⟨lvl_mem.mpr ⟨w, e2, rfl⟩, ?_⟩))
      simp only [Bool.and_eq_true, Bool.not_eq_true', beq_eq_false_iff_ne, ne_eq, Bool.and_eq_false_iff]
      refine ⟨e1, ?_⟩
      by_cases hk1 : k + 1 = i
      · exact Or.inr (fun hc => e3 ⟨hk1, (rv_cat w).mp hc⟩)
      · exact Or.inl hk1
theorem okv_drop {G : LG} {lv : List (Option LV)} {i : Nat} (h : ∀ w, some w ∈ lv → okv G w) : ∀ w, some w ∈ (setl lv i (2, 0)).set i none → okv G w := by
  intro w hw
  obtain ⟨k, hk⟩ := List.getElem?_of_mem hw
  rw [List.getElem?_set] at hk
  by_cases hik : i = k
  · subst hik
    rw [if_pos rfl] at hk
    split at hk <;> cases hk
  · rw [if_neg hik] at hk
    rcases setl_get lv i (2, 0) k w hk with ⟨e1, -⟩ | ⟨-, e2, -⟩
    · exact absurd e1.symm hik
    · exact okv_lv h e2
theorem catch_core {K : KD} {p : Program} {l : Launch} {e : Env} {R : Room} {s : State} {m : MethodId} {args : Array Value} {below : List Frame} {meth : Method} {c : Code} {D : va_G} {dT : Nat → ClassId} {ad0 : Nat → Nat} {G0 : LG} {Q : State → Prop} {base sbase : Nat} (ho : okX K (p, l, e, R, s, m, args, below, meth, c, D, dT, ad0, G0, Q, base, sbase))
    {E : String} {G' : LG} {lv : List (Option LV)} {pc : Nat} (hq : catches K (p, l, e, R, s, m, args, below, meth, c, D, dT, ad0, G0, Q, base, sbase) pc lv E G') {ad' : Nat → Nat} {H1 : Heap} {locs1 : List Loc} {q : Addr} {ce : Cell} {ls : Array Slot} {rest : List Value} (hd' : HD dT D base sbase ad' G' H1) (hx0 : Ext base ad0 G0 ad' G') (hs' : va_S (AG base ad0 G0) s.heap H1 locs1) (hl' : lv_is ad' ls K.2.2.1 lv) (o1 : ∀ v, some v ∈ lv → okv G' v) (hce : H1[q]? = some ce) (hcv : ce.vm = .none) (hcl : s.vm.findClass E = some ce.cls) :
    vx_W p l e R s m args below meth c H1 locs1 (H1.size - s.heap.size) (hsz H1 - hsz s.heap) Q (F0 m pc ls rest) q := by
  obtain ⟨pre, suf, x, k, h1, h2, h3, h4, h5, h6, h7, h8, kk⟩ := hq
  have hts := ho.2.2.2.2.1
  have hE := ho.2.2.2.2.2.2.2.2.2.1.1
  refine vx_catch ho.2.2.2.1 pre x suf (by rw [ho.2.2.2.2.2.2.2.1]; exact h1) (fun z hz => (h2 z hz).imp id (fun w => ⟨w.1, w.2.elim fun nm hn => ⟨nm, hts _ hn.1, hE.1.nc E nm hn.2⟩⟩)) h3 h4 (hts _ h5) (hE.1.cast E h6) hce hcv hcl ?_
  exact lv_astore ho.1 ho.2.1 h7 (lvl_has hl') h8 rfl (fun ls9 h9 => kk ho ad' H1 locs1 ls9 hd' hx0 hs' (lv_is_drop h9) (okv_drop o1) (fun v h => by cases h))
theorem s_callVX (hG : Good K' y f T) (hdg : decode K.2.1 pc = .ok (.invokevirtual idx, 3)) (hlink : Cond.methodLink K.1 idx y ∈ WALL) (hinst : Cond.instanceMethod y ∈ WALL) (hsel : Cond.selects y.cls y y ∈ WALL) (hini : Cond.initialized y.cls ∈ WALL) (hcode : Cond.code y K'.2.1 K'.2.2.1 K'.2.2.2.1 ∈ WALL) (hdd : y.cls ≠ "java/lang/invoke/MethodHandle" ∧ y.cls ≠ "java/lang/invoke/VarHandle" ∧ (parseMethodDescriptor y.desc).map (fun d => d.parameters.length) = some as.length) (hnl : K'.2.2.1 ≤ 22) (hf : f + 1 ≤ cf X)
    (hk : gK G n = (ci + 8, L)) (hc : vwCl[ci]? = some (y.cls, TT, N)) (hst : st = as.reverse ++ (2, (n : Int)) :: rest) (hw8 : (rest.map (fun v => if v.1 = 1 then 2 else 1)).sum ≤ 8) (Qx : String → LG → Prop) (hX : (K.2.2.2.2 = [] ∧ RetX X Qr ∧ ∀ E G', Qx E G' → Qr (.inr E) G') ∨ ∀ E G', Qx E G' → catches K X pc lv E G') (hT : T ((2, (n : Int)) :: as) G (thenX K X (pc + 3) lv rest Qx)) : WP K X pc lv st G := by
  obtain ⟨p, l, e, R, s, m, args, below, meth, c, D, dT, ad0, G0, Q, base, sbase⟩ := X
  intro ho ad H locs ls hd he hs hl o1 o2
  obtain ⟨⟨hfr, hlo⟩, hce⟩ := room_ok ho hd he (f := f) (n := K'.2.2.1) hf hnl
  have oall : ∀ v ∈ (2, (n : Int)) :: as, okv G v := fun v hv => o2 v (by rw [hst]; rcases List.mem_cons.mp hv with h | h <;> simp [h])
  have orest : ∀ v ∈ rest, okv G v := fun v hv => o2 v (by rw [hst]; simp [hv])
  have hM := hG l ho.2.2.2.2.2.2.2.2.2.2.1 dT D base sbase ((2, (n : Int)) :: as) G _ hT oall ad
  have hn : (gK G n).1 ≠ 0 := kne hk (Nat.succ_ne_zero _)
  have hP : va_P D vwCl [(ad n, .inr (ci, (List.range (lw_num ci)).map (fun j => rv ad (lw_sc (lw_ty ci j), gS G n j))))] H := by
    intro k1 q hq
    have h1 : k1 < 1 := (List.getElem?_eq_some_iff.mp hq).1
    have h2 : k1 = 0 := by omega
    subst h2
    cases hq
    exact at_o hk (hd.1 n hn)
  have hgi : GoodIn WALL (wsV K.1 idx y.cls y (wsK K' y)) := wall_in hlink rfl (wall_in hinst rfl (wall_in hsel rfl (wall_in hini rfl (wall_in hcode rfl wall_all))))
  have e8 : st.map (rv ad) = (as.map (rv ad)).reverse ++ .ref (ad n) :: rest.map (rv ad) := by
    rw [hst, List.map_append, List.map_reverse, List.map_cons, nmv_ref (Int.natCast_nonneg n)]
    rfl
  refine call_coreX ho hd he hs hl o1 orest (aa := ((2, (n : Int)) :: as).map (rv ad) |>.toArray) (vx_runV (b := ad n) (C := y.cls) (As := as.map (rv ad)) (rest := rest.map (rv ad)) (n := as.length) ⟨ho.1, ho.2.1, ho.2.2.1, ho.2.2.2.1, ho.2.2.2.2.1⟩ hM (cwV as.length ho.2.2.2.2.1 hgi rfl rfl rfl ⟨rfl, hdd⟩ ⟨hfr, hlo⟩) ⟨PcG.blind, va_recv ho.2.2.2.2.2.2.2.2.1 hP (ci := ci) (q0 := 0) hc rfl, PcG.at ho hd he hs ?_⟩ rfl (by simp) (hl.1) e8 (lv_room (by rw [cat_sum]; exact hw8)) hdg hce) (fun r G' h => h) (fun E G' hq ad' H1 locs1 q ce b1 b2 b3 b4 b5 b6 b7 b8 => ?_)
  · rw [List.map_cons, nmv_ref (Int.natCast_nonneg n)]
    rfl
  · rcases hX with ⟨hh, hR, hz⟩ | hz
    · exact pass_on ho hh hR (hz E G' hq) b1 b2 b3 b6 b7 b8
    · exact catch_core ho (hz E G' hq) b1 b2 b3 b4 b5 b6 b7 b8
theorem s_callSX (hG : Good K' y f T) (hdg : decode K.2.1 pc = .ok (.invokestatic idx, 3)) (hlink : Cond.methodLink K.1 idx y ∈ WALL) (hstat : Cond.static y ∈ WALL) (hini : Cond.initialized K.1 ∈ WALL) (hcode : Cond.code y K'.2.1 K'.2.2.1 K'.2.2.2.1 ∈ WALL) (hdd : y.cls = K.1 ∧ y.cls ≠ "java/lang/invoke/MethodHandle" ∧ y.cls ≠ "java/lang/invoke/VarHandle" ∧ (parseMethodDescriptor y.desc).map (fun d => d.parameters.length) = some as.length) (hnl : K'.2.2.1 ≤ 22) (hf : f + 1 ≤ cf X)
    (hst : st = as.reverse ++ rest) (hw8 : (rest.map (fun v => if v.1 = 1 then 2 else 1)).sum ≤ 8) (Qx : String → LG → Prop) (hX : (K.2.2.2.2 = [] ∧ RetX X Qr ∧ ∀ E G', Qx E G' → Qr (.inr E) G') ∨ ∀ E G', Qx E G' → catches K X pc lv E G') (hT : T as G (thenX K X (pc + 3) lv rest Qx)) : WP K X pc lv st G := by
  obtain ⟨p, l, e, R, s, m, args, below, meth, c, D, dT, ad0, G0, Q, base, sbase⟩ := X
  intro ho ad H locs ls hd he hs hl o1 o2
  obtain ⟨⟨hfr, hlo⟩, hce⟩ := room_ok ho hd he (f := f) (n := K'.2.2.1) hf hnl
  have oall : ∀ v ∈ as, okv G v := fun v hv => o2 v (by rw [hst]; simp [hv])
  have orest : ∀ v ∈ rest, okv G v := fun v hv => o2 v (by rw [hst]; simp [hv])
  have hM := hG l ho.2.2.2.2.2.2.2.2.2.2.1 dT D base sbase as G _ hT oall ad
  have hgi : GoodIn WALL (wsS K.1 idx y (wsK K' y)) := wall_in hlink rfl (wall_in hstat rfl (wall_in hini rfl (wall_in hcode rfl wall_all)))
  have e8 : st.map (rv ad) = (as.map (rv ad)).reverse ++ rest.map (rv ad) := by
    rw [hst, List.map_append, List.map_reverse]
  refine call_coreX ho hd he hs hl o1 orest (aa := (as.map (rv ad)).toArray) (vx_runS (As := as.map (rv ad)) (rest := rest.map (rv ad)) (n := as.length) ⟨ho.1, ho.2.1, ho.2.2.1, ho.2.2.2.1, ho.2.2.2.2.1⟩ hM (cwS as.length ho.2.2.2.2.1 hgi rfl rfl rfl hdd ⟨hfr, hlo⟩) ⟨PcG.blind, PcG.at ho hd he hs rfl⟩ rfl (by simp) (hl.1) e8 (lv_room (by rw [cat_sum]; exact hw8)) hdg hce) (fun r G' h => h) (fun E G' hq ad' H1 locs1 q ce b1 b2 b3 b4 b5 b6 b7 b8 => ?_)
  rcases hX with ⟨hh, hR, hz⟩ | hz
  · exact pass_on ho hh hR (hz E G' hq) b1 b2 b3 b6 b7 b8
  · exact catch_core ho (hz E G' hq) b1 b2 b3 b4 b5 b6 b7 b8
end XROWS
