/-! CALLS -/
theorem stand_exact {p : Program} {l : Launch} {e : Env} {R : Room} {s : State} {m : MethodId} {args : Array Value} {below : List Frame} {meth : Method} {c : Code} {T : State} {locs : List Loc} {cells slots : Nat} (X : Stand p l e R s m args below meth c T locs cells slots) :
    Stand p l e R s m args below meth c T locs (T.heap.size - s.heap.size) (hsz T.heap - hsz s.heap) := by
  have h := X.same
  obtain ⟨h1, h2, h3, h4, h5, h6⟩ := h
  have e0 : (T.setVm s.vm).heap = T.heap := rfl
  rw [e0] at h2 h3 h4 h5 h6
  refine { X with same := ⟨h1, h2, by rw [e0]; omega, h4, ?_, h6⟩ }
  rw [e0]
  have hz : hsz T.heap = ((T.heap.toList.take s.heap.size).map (fun c => c.slots.size)).sum + ((T.heap.toList.drop s.heap.size).map (fun c => c.slots.size)).sum := by
    unfold hsz
    rw [← List.sum_append, ← List.map_append, List.take_append_drop]
  have ht : ((T.heap.toList.take s.heap.size).map (fun c => c.slots.size)).sum = hsz s.heap := by
    refine hsz_go _ _ ?_ (fun q => ?_)
    · rw [List.length_take, Array.length_toList, Array.length_toList]; omega
    · by_cases hq : q < s.heap.size
      · rw [List.getElem?_take_of_lt hq, Array.getElem?_toList, Array.getElem?_toList]
        obtain ⟨c9, e1, -, e3, -⟩ := h6 q _ (Array.getElem?_eq_getElem hq)
        rw [e1, Array.getElem?_eq_getElem hq]
        exact congrArg some e3
      · have h8 : s.heap.toList[q]? = none := by rw [List.getElem?_eq_none_iff, Array.length_toList]; omega
        have h9 : (T.heap.toList.take s.heap.size)[q]? = none := by rw [List.getElem?_eq_none_iff, List.length_take]; omega
        rw [h8, h9]
  omega
theorem call_core {K : KD} {p : Program} {l : Launch} {e : Env} {R : Room} {s : State} {m : MethodId} {args : Array Value} {below : List Frame} {meth : Method} {c : Code} {D : va_G} {dT : Nat → ClassId} {ad0 : Nat → Nat} {G0 : LG} {Q : State → Prop} {base sbase : Nat} (ho : okX K (p, l, e, R, s, m, args, below, meth, c, D, dT, ad0, G0, Q, base, sbase))
    {ad : Nat → Nat} {G : LG} {H : Heap} {locs : List Loc} {ls : Array Slot} (hd : HD dT D base sbase ad G H) (he : Ext base ad0 G0 ad G) (hs : va_S (AG base ad0 G0) s.heap H locs) {lv : List (Option LV)} (hl : lv_is ad ls K.2.2.1 lv) (o1 : ∀ v, some v ∈ lv → okv G v) {rest : List LV} (o2 : ∀ v ∈ rest, okv G v)
    {mc ms pc : Nat} {st0 : List Value} {aa : Array Value} {Qr : RS → LG → Prop} (hr : va_Run p l e R s m args below meth c H locs (H.size - s.heap.size) (hsz H - hsz s.heap) mc ms (F0 m pc ls st0) (rest.map (rv ad)) (QcG dT D base sbase ad G Qr aa) (AG base ad G))
    (kk : ∀ (r : Option LV) (G' : LG), Qr (.inl r) G' → WP K (p, l, e, R, s, m, args, below, meth, c, D, dT, ad0, G0, Q, base, sbase) (pc + 3) lv (r.toList ++ rest) G') :
    W p l e R s m args below meth c H locs (H.size - s.heap.size) (hsz H - hsz s.heap) Q (F0 m pc ls st0) := by
  intro T hT X
  obtain ⟨v, st₀, t, T', L, h0, X', hL, e1, e2, ⟨⟨r, G', ad', hv, hq, hok, hx, hd'⟩, hF⟩, st⟩ := hr T hT X
  cases hv
  have hx0 := he.trans hx
  have hs' : va_S (AG base ad0 G0) s.heap T'.heap (locs ++ L) := (vx_keep h0 e1 hs (fun q _ h => he.ag q h) (fun q h => he.ag q h) hL hF).2.2
  rw [← e1] at hd'
  have hl' : lv_is ad' ls K.2.2.1 lv := ⟨hl.1, hl.2.1, fun k w hk => by rw [hx.rvE (okv_lv o1 hk)]; exact hl.2.2 k w hk⟩
  have ok1 : ∀ w, some w ∈ lv → okv G' w := fun w hw => hx.okE (o1 w hw)
  have ok2 : ∀ w ∈ r.toList ++ rest, okv G' w := by
    intro w hw
    rcases List.mem_append.mp hw with h | h
    · exact hok w (Option.mem_toList.mp h)
    · exact hx.okE (o2 w h)
  obtain ⟨t2, a1, b1⟩ := kk r G' hq ho ad' T'.heap (locs ++ L) ls hd' hx0 hs' hl' ok1 ok2 T' rfl (stand_exact X')
  have e9 : (r.toList ++ rest).map (rv ad') = (r.map (rv ad')).toList ++ rest.map (rv ad) := by
    rw [List.map_append, hx.rvsE o2]
    cases r <;> rfl
  rw [e9] at a1
  exact ⟨t2, st t2 a1, b1⟩
theorem met_of {l : Launch} {y : MethodName} {ws : List Cond} {rm : Room} {Pc : Array Value → State → Prop} {Qc : Array Value → State → Outcome → State → Prop} {XC : String → State → State → Prop} {mc ms : Nat} {free : Addr → Prop} (hM : vx_Met l y ws rm Pc Qc XC mc ms free) (hn : ∀ E st t, ¬ XC E st t) : Met l y ws rm Pc Qc mc ms free := by
  intro p e h1 h2 h3 s m args below h4 h5 h6 h7
  obtain ⟨n, o, a1, a2, a3, a4⟩ := hM p e h1 h2 h3 s m args below h4 h5 h6 h7
  refine ⟨n, o, a1, a2, a3, ?_⟩
  rcases a4 with a4 | ⟨q, -, E, ce, L, hx, -⟩
  · exact a4
  · exact absurd hx (hn E _ _)
theorem PcG.blind {dT : Nat → ClassId} {D : va_G} {base sbase : Nat} {ad : Nat → Nat} {G : LG} {av : List Value} : FrameBlind (va_Pc av (PcG dT D base sbase ad G)) := by
  intro a U g mk q
  obtain ⟨q0, q1, q2, q3⟩ := q
  exact ⟨q0, q1, va_K.moved (u := U) (U := U.calling g mk a) (Vm.Alike.refl U.vm) q2, EM.frame q3⟩
theorem PcG.at {K : KD} {p : Program} {l : Launch} {e : Env} {R : Room} {s : State} {m : MethodId} {args : Array Value} {below : List Frame} {meth : Method} {c : Code} {D : va_G} {dT : Nat → ClassId} {ad0 : Nat → Nat} {G0 : LG} {Q : State → Prop} {base sbase : Nat} (ho : okX K (p, l, e, R, s, m, args, below, meth, c, D, dT, ad0, G0, Q, base, sbase))
    {ad : Nat → Nat} {G : LG} {H : Heap} {locs : List Loc} (hd : HD dT D base sbase ad G H) (he : Ext base ad0 G0 ad G) (hs : va_S (AG base ad0 G0) s.heap H locs) {av : List Value} {aa : Array Value} (ha : aa = av.toArray) : ∀ U : State, U.heap = H → s.WarmedH U.vm → va_Pc av (PcG dT D base sbase ad G) aa U :=
  fun U hU hW => ⟨ha, by rw [hU]; exact hd, va_K.moved hW.alike ho.2.2.2.2.2.2.2.2.1, EM.call ho.2.2.2.2.2.2.2.2.2.1 he hs hW hU⟩
theorem wall_in {ws : List Cond} {w : Cond} (hw : w ∈ WALL) (hg : goodWord w = true) (h : GoodIn WALL ws) : GoodIn WALL (w :: ws) := fun x hx => (List.mem_cons.mp hx).elim (fun e => by rw [e]; exact ⟨hw, good_of_word hg⟩) (h x)
theorem wall_all : GoodIn WALL WALL := goodIn_sub (fun _ h => h) WALL_good
/-- which room a callee has -/
theorem room_ok {K : KD} {p : Program} {l : Launch} {e : Env} {R : Room} {s : State} {m : MethodId} {args : Array Value} {below : List Frame} {meth : Method} {c : Code} {D : va_G} {dT : Nat → ClassId} {ad0 : Nat → Nat} {G0 : LG} {Q : State → Prop} {base sbase : Nat} (ho : okX K (p, l, e, R, s, m, args, below, meth, c, D, dT, ad0, G0, Q, base, sbase))
    {ad : Nat → Nat} {G : LG} {H : Heap} (hd : HD dT D base sbase ad G H) (he : Ext base ad0 G0 ad G) {f n : Nat} (hf : f + 1 ≤ R.frames) (hn : n ≤ 22) : ((rmF f G).frames + 1 ≤ R.frames ∧ 8 + (n + 11) + (rmF f G).locals ≤ R.locals) ∧ (H.size - s.heap.size + (601024 - gc G) ≤ R.cells ∧ hsz H - hsz s.heap + (7293034 - gs G) ≤ R.slots) := by
  obtain ⟨-, -, -, -, -, -, -, -, -, -, -, ⟨r1, r2, r3⟩, r4, r5⟩ := ho
  obtain ⟨-, -, -, d4, d5, d6, d7⟩ := hd
  have e3 := he.2.2.1
  have e4 := he.2.2.2
  refine ⟨⟨hf, ?_⟩, ?_, ?_⟩
  · show 8 + (n + 11) + 41 * f ≤ _
    omega
  · omega
  · omega
theorem cat_sum {ad : Nat → Nat} (st : List LV) : ((st.map (rv ad)).map fun v => v.category).sum = (st.map (fun v => if v.1 = 1 then 2 else 1)).sum := by
  induction st with
  | nil => rfl
  | cons v t ih =>
    rw [List.map_cons, List.map_cons, List.sum_cons, List.map_cons, List.sum_cons, ih]
    congr 1
    by_cases hv : v.1 = 1
    · rw [if_pos hv]; exact (rv_cat v).mpr hv
    · rw [if_neg hv]; exact cat1 hv
/-- what is wanted behind a call that returns -/
def thenW (K : KD) (X : CX) (pc : Nat) (lv : List (Option LV)) (rest : List LV) : RS → LG → Prop := fun r G' => match r with
  | .inl r => WP K X pc lv (r.toList ++ rest) G'
  | .inr _ => False
section CALLS
variable {K K' : KD} {X : CX} {pc : Nat} {lv lv' : List (Option LV)} {st rest as : List LV} {G : LG} {Qr : RS → LG → Prop} {y : MethodName} {f idx n ci L N : Nat} {T : TR} {TT : u_T}
theorem noX {dT : Nat → ClassId} {D : va_G} {base sbase : Nat} {ad : Nat → Nat} : ∀ E st t, ¬ XcG dT D base sbase ad G (thenW K X pc lv rest) E st t := fun _ _ _ h => h.1.choose_spec.choose_spec.1.elim
theorem s_callV (hG : Good K' y f T) (hdg : decode K.2.1 pc = .ok (.invokevirtual idx, 3)) (hlink : Cond.methodLink K.1 idx y ∈ WALL) (hinst : Cond.instanceMethod y ∈ WALL) (hsel : Cond.selects y.cls y y ∈ WALL) (hini : Cond.initialized y.cls ∈ WALL) (hcode : Cond.code y K'.2.1 K'.2.2.1 K'.2.2.2.1 ∈ WALL) (hdd : y.cls ≠ "java/lang/invoke/MethodHandle" ∧ y.cls ≠ "java/lang/invoke/VarHandle" ∧ (parseMethodDescriptor y.desc).map (fun d => d.parameters.length) = some as.length) (hnl : K'.2.2.1 ≤ 22) (hf : f + 1 ≤ cf X)
    (hk : gK G n = (ci + 8, L)) (hc : vwCl[ci]? = some (y.cls, TT, N)) (hst : st = as.reverse ++ (2, (n : Int)) :: rest) (hw8 : (rest.map (fun v => if v.1 = 1 then 2 else 1)).sum ≤ 8) (hT : T ((2, (n : Int)) :: as) G (thenW K X (pc + 3) lv rest)) : WP K X pc lv st G := by
  obtain ⟨p, l, e, R, s, m, args, below, meth, c, D, dT, ad0, G0, Q, base, sbase⟩ := X
  intro ho ad H locs ls hd he hs hl o1 o2
  obtain ⟨⟨hfr, hlo⟩, hce⟩ := room_ok ho hd he (f := f) (n := K'.2.2.1) hf hnl
  have oall : ∀ v ∈ (2, (n : Int)) :: as, okv G v := fun v hv => o2 v (by rw [hst]; rcases List.mem_cons.mp hv with h | h <;> simp [h])
  have orest : ∀ v ∈ rest, okv G v := fun v hv => o2 v (by rw [hst]; simp [hv])
  have hM := met_of (hG l ho.2.2.2.2.2.2.2.2.2.2.1 dT D base sbase ((2, (n : Int)) :: as) G _ hT oall ad) noX
  have hn : (gK G n).1 ≠ 0 := kne hk (Nat.succ_ne_zero _)
  have hP : va_P D vwCl [(ad n, .inr (ci, (List.range (lw_num ci)).map (fun j => rv ad (lw_sc (lw_ty ci j), gS G n j))))] H := by
    intro k1 q hq
    have h1 : k1 < 1 := (List.getElem?_eq_some_iff.mp hq).1
    have h2 : k1 = 0 := by omega
    subst h2
    cases hq
    exact at_o hk (hd.1 n hn)
  have hgi : GoodIn WALL (wsV K.1 idx y.cls y (wsK K' y)) := wall_in hlink rfl (wall_in hinst rfl (wall_in hsel rfl (wall_in hini rfl (wall_in hcode rfl wall_all))))
  have e8 : st.map (rv ad) = (as.map (rv ad)).reverse ++ .ref (ad n) :: rest.map (rv ad) := by
    rw [hst, List.map_append, List.map_reverse, List.map_cons, nmv_ref (Int.natCast_nonneg n)]
    rfl
  refine call_core ho hd he hs hl o1 orest (aa := ((2, (n : Int)) :: as).map (rv ad) |>.toArray) (va_runV (b := ad n) (C := y.cls) (As := as.map (rv ad)) (rest := rest.map (rv ad)) (n := as.length) ⟨ho.1, ho.2.1, ho.2.2.1, ho.2.2.2.1, ho.2.2.2.2.1⟩ hM (cwV as.length ho.2.2.2.2.1 hgi rfl rfl rfl ⟨rfl, hdd⟩ ⟨hfr, hlo⟩) ⟨PcG.blind, va_recv ho.2.2.2.2.2.2.2.2.1 hP (ci := ci) (q0 := 0) hc rfl, PcG.at ho hd he hs ?_⟩ rfl (by simp) (hl.1) e8 (lv_room (by rw [cat_sum]; exact hw8)) hdg hce) (fun r G' h => h)
  rw [List.map_cons, nmv_ref (Int.natCast_nonneg n)]
  rfl
theorem s_callS (hG : Good K' y f T) (hdg : decode K.2.1 pc = .ok (.invokestatic idx, 3)) (hlink : Cond.methodLink K.1 idx y ∈ WALL) (hstat : Cond.static y ∈ WALL) (hini : Cond.initialized K.1 ∈ WALL) (hcode : Cond.code y K'.2.1 K'.2.2.1 K'.2.2.2.1 ∈ WALL) (hdd : y.cls = K.1 ∧ y.cls ≠ "java/lang/invoke/MethodHandle" ∧ y.cls ≠ "java/lang/invoke/VarHandle" ∧ (parseMethodDescriptor y.desc).map (fun d => d.parameters.length) = some as.length) (hnl : K'.2.2.1 ≤ 22) (hf : f + 1 ≤ cf X)
    (hst : st = as.reverse ++ rest) (hw8 : (rest.map (fun v => if v.1 = 1 then 2 else 1)).sum ≤ 8) (hT : T as G (thenW K X (pc + 3) lv rest)) : WP K X pc lv st G := by
  obtain ⟨p, l, e, R, s, m, args, below, meth, c, D, dT, ad0, G0, Q, base, sbase⟩ := X
  intro ho ad H locs ls hd he hs hl o1 o2
  obtain ⟨⟨hfr, hlo⟩, hce⟩ := room_ok ho hd he (f := f) (n := K'.2.2.1) hf hnl
  have oall : ∀ v ∈ as, okv G v := fun v hv => o2 v (by rw [hst]; simp [hv])
  have orest : ∀ v ∈ rest, okv G v := fun v hv => o2 v (by rw [hst]; simp [hv])
  have hM := met_of (hG l ho.2.2.2.2.2.2.2.2.2.2.1 dT D base sbase as G _ hT oall ad) noX
  have hgi : GoodIn WALL (wsS K.1 idx y (wsK K' y)) := wall_in hlink rfl (wall_in hstat rfl (wall_in hini rfl (wall_in hcode rfl wall_all)))
  have e8 : st.map (rv ad) = (as.map (rv ad)).reverse ++ rest.map (rv ad) := by
    rw [hst, List.map_append, List.map_reverse]
  exact call_core ho hd he hs hl o1 orest (aa := (as.map (rv ad)).toArray) (va_runS (As := as.map (rv ad)) (rest := rest.map (rv ad)) (n := as.length) ⟨ho.1, ho.2.1, ho.2.2.1, ho.2.2.2.1, ho.2.2.2.2.1⟩ hM (cwS as.length ho.2.2.2.2.1 hgi rfl rfl rfl hdd ⟨hfr, hlo⟩) ⟨PcG.blind, PcG.at ho hd he hs rfl⟩ rfl (by simp) (hl.1) e8 (lv_room (by rw [cat_sum]; exact hw8)) hdg hce) (fun r G' h => h)
theorem s_callI (hG : Good K' y f T) (hret : K'.2.2.2.1 = none) (hdg : decode K.2.1 pc = .ok (.invokespecial idx, 3)) (hlink : Cond.methodLink K.1 idx y ∈ WALL) (hinst : Cond.instanceMethod y ∈ WALL) (hini : Cond.initialized y.cls ∈ WALL) (hcode : Cond.code y K'.2.1 K'.2.2.1 K'.2.2.2.1 ∈ WALL) (hnm : y.name = "<init>") (hdd : y.cls ≠ "java/lang/invoke/MethodHandle" ∧ y.cls ≠ "java/lang/invoke/VarHandle" ∧ (parseMethodDescriptor y.desc).map (fun d => d.parameters.length) = some as.length) (hnl : K'.2.2.1 ≤ 22) (hf : f + 1 ≤ cf X)
    (hst : st = as.reverse ++ (2, (n : Int)) :: rest) (hw8 : (rest.map (fun v => if v.1 = 1 then 2 else 1)).sum ≤ 8) (hT : T ((2, (n : Int)) :: as) G (thenW K X (pc + 3) lv rest)) : WP K X pc lv st G := by
  obtain ⟨p, l, e, R, s, m, args, below, meth, c, D, dT, ad0, G0, Q, base, sbase⟩ := X
  intro ho ad H locs ls hd he hs hl o1 o2
  obtain ⟨⟨hfr, hlo⟩, hce⟩ := room_ok ho hd he (f := f) (n := K'.2.2.1) hf hnl
  have oall : ∀ v ∈ (2, (n : Int)) :: as, okv G v := fun v hv => o2 v (by rw [hst]; rcases List.mem_cons.mp hv with h | h <;> simp [h])
  have orest : ∀ v ∈ rest, okv G v := fun v hv => o2 v (by rw [hst]; simp [hv])
  have hM := met_of (hG l ho.2.2.2.2.2.2.2.2.2.2.1 dT D base sbase ((2, (n : Int)) :: as) G _ hT oall ad) noX
  have hgi : GoodIn WALL (wsK K' y) := wall_in hcode rfl wall_all
  have e8 : st.map (rv ad) = (as.map (rv ad)).reverse ++ .ref (ad n) :: rest.map (rv ad) := by
    rw [hst, List.map_append, List.map_reverse, List.map_cons, nmv_ref (Int.natCast_nonneg n)]
    rfl
  have hw : wsK K' y = Cond.code y K'.2.1 K'.2.2.1 none :: WALL := by unfold wsK; rw [hret]
  refine call_core ho hd he hs hl o1 orest (aa := ((2, (n : Int)) :: as).map (rv ad) |>.toArray) (va_runI (b := ad n) (As := as.map (rv ad)) (rest := rest.map (rv ad)) (n := as.length) ⟨ho.1, ho.2.1, ho.2.2.1, ho.2.2.2.1, ho.2.2.2.2.1⟩ hM (cwI as.length ho.2.2.2.2.1 hgi hw rfl rfl (ho.2.2.2.2.1 _ hini) (ho.2.2.2.2.1 _ hlink) (ho.2.2.2.2.1 _ hinst) hnm hdd ⟨hfr, hlo⟩) ⟨PcG.blind, PcG.at ho hd he hs ?_⟩ rfl (by simp) (hl.1) e8 (lv_room (by rw [cat_sum]; exact hw8)) hdg hce) (fun r G' h => h)
  rw [List.map_cons, nmv_ref (Int.natCast_nonneg n)]
  rfl
end CALLS
