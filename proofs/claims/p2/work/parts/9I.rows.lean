/-! MORE ROWS: nest mates, other classes' statics, references in arrays, copies of arrays -/
section NROWS
variable {K K' : KD} {X : CX} {pc : Nat} {lv lv' : List (Option LV)} {st rest as : List LV} {G : LG} {Qr : RS → LG → Prop} {y : MethodName} {f idx n ci L N : Nat} {T : TR} {TT : u_T}
/-- a static method of another class -/
theorem s_callS2 (hG : Good K' y f T) (hdg : decode K.2.1 pc = .ok (.invokestatic idx, 3)) (hlink : Cond.methodLink K.1 idx y ∈ WALL) (hstat : Cond.static y ∈ WALL) (hini : Cond.initialized y.cls ∈ WALL) (hcode : Cond.code y K'.2.1 K'.2.2.1 K'.2.2.2.1 ∈ WALL) (hdd : y.cls ≠ "java/lang/invoke/MethodHandle" ∧ y.cls ≠ "java/lang/invoke/VarHandle" ∧ (parseMethodDescriptor y.desc).map (fun d => d.parameters.length) = some as.length) (hnl : K'.2.2.1 ≤ 22) (hf : f + 1 ≤ cf X)
    (hst : st = as.reverse ++ rest) (hw8 : (rest.map (fun v => if v.1 = 1 then 2 else 1)).sum ≤ 8) (hT : T as G (thenW K X (pc + 3) lv rest)) : WP K X pc lv st G := by
  obtain ⟨p, l, e, R, s, m, args, below, meth, c, D, dT, ad0, G0, Q, base, sbase⟩ := X
  intro ho ad H locs ls hd he hs hl o1 o2
  obtain ⟨⟨hfr, hlo⟩, hce⟩ := room_ok ho hd he (f := f) (n := K'.2.2.1) hf hnl
  have oall : ∀ v ∈ as, okv G v := fun v hv => o2 v (by rw [hst]; simp [hv])
  have orest : ∀ v ∈ rest, okv G v := fun v hv => o2 v (by rw [hst]; simp [hv])
  have hM := met_of (hG l ho.2.2.2.2.2.2.2.2.2.2.1 dT D base sbase as G _ hT oall ad) noX
  have hgi : GoodIn WALL (va_wsS K.1 idx y (wsK K' y)) := wall_in hlink rfl (wall_in hstat rfl (wall_in hini rfl (wall_in hcode rfl wall_all)))
  have e8 : st.map (rv ad) = (as.map (rv ad)).reverse ++ rest.map (rv ad) := by
    rw [hst, List.map_append, List.map_reverse]
  exact call_core ho hd he hs hl o1 orest (aa := (as.map (rv ad)).toArray) (va_runS (As := as.map (rv ad)) (rest := rest.map (rv ad)) (n := as.length) ⟨ho.1, ho.2.1, ho.2.2.1, ho.2.2.2.1, ho.2.2.2.2.1⟩ hM (va_cwS as.length ho.2.2.2.2.1 hgi rfl rfl rfl hdd ⟨hfr, hlo⟩) ⟨PcG.blind, PcG.at ho hd he hs rfl⟩ rfl (by simp) (hl.1) e8 (lv_room (by rw [cat_sum]; exact hw8)) hdg hce) (fun r G' h => h)
/-- a nest mate's static method -/
theorem s_callSN {own : String} (how : own = K.1) (hnest : (own, idx, y, RX11) ∈ ev_nest) (hG : Good K' y f T) (hdg : decode K.2.1 pc = .ok (.invokestatic idx, 3)) (hstat : Cond.static y ∈ WALL) (hini : Cond.initialized y.cls ∈ WALL) (hcode : Cond.code y K'.2.1 K'.2.2.1 K'.2.2.2.1 ∈ WALL) (hdd : y.cls ≠ "java/lang/invoke/MethodHandle" ∧ y.cls ≠ "java/lang/invoke/VarHandle" ∧ (parseMethodDescriptor y.desc).map (fun d => d.parameters.length) = some as.length) (hnl : K'.2.2.1 ≤ 22) (hf : f + 1 ≤ cf X)
    (hst : st = as.reverse ++ rest) (hw8 : (rest.map (fun v => if v.1 = 1 then 2 else 1)).sum ≤ 8) (hT : T as G (thenW K X (pc + 3) lv rest)) : WP K X pc lv st G := by
  obtain ⟨p, l, e, R, s, m, args, below, meth, c, D, dT, ad0, G0, Q, base, sbase⟩ := X
  intro ho ad H locs ls hd he hs hl o1 o2
  obtain ⟨⟨hfr, hlo⟩, hce⟩ := room_ok ho hd he (f := f) (n := K'.2.2.1) hf hnl
  have oall : ∀ v ∈ as, okv G v := fun v hv => o2 v (by rw [hst]; simp [hv])
  have orest : ∀ v ∈ rest, okv G v := fun v hv => o2 v (by rw [hst]; simp [hv])
  have hM := met_of (hG l ho.2.2.2.2.2.2.2.2.2.2.1 dT D base sbase as G _ hT oall ad) noX
  have hgi : GoodIn WALL (wsK K' y) := wall_in hcode rfl wall_all
  have hts := ho.2.2.2.2.1
  have hN := ho.2.2.2.2.2.2.2.2.2.1.1.1.1 _ hnest
  have e8 : st.map (rv ad) = (as.map (rv ad)).reverse ++ rest.map (rv ad) := by
    rw [hst, List.map_append, List.map_reverse]
  subst how
  exact call_core ho hd he hs hl o1 orest (aa := (as.map (rv ad)).toArray) (va_runSN (As := as.map (rv ad)) (rest := rest.map (rv ad)) (n := as.length) ⟨ho.1, ho.2.1, ho.2.2.1, ho.2.2.2.1, ho.2.2.2.2.1⟩ hM ⟨va_cnB as.length hts hgi rfl rfl rfl hN (hts _ hini) hdd ⟨hfr, hlo⟩, hts _ hstat, trivial⟩ ⟨PcG.blind, PcG.at ho hd he hs rfl⟩ rfl (by simp) (hl.1) e8 (lv_room (by rw [cat_sum]; exact hw8)) hdg hce) (fun r G' h => h)
/-- a nest mate's constructor -/
theorem s_callIN {own : String} (how : own = K.1) (hnest : (own, idx, y, RX11) ∈ ev_nest) (hG : Good K' y f T) (hret : K'.2.2.2.1 = none) (hdg : decode K.2.1 pc = .ok (.invokespecial idx, 3)) (hinst : Cond.instanceMethod y ∈ WALL) (hini : Cond.initialized y.cls ∈ WALL) (hcode : Cond.code y K'.2.1 K'.2.2.1 K'.2.2.2.1 ∈ WALL) (hnm : y.name = "<init>") (hdd : y.cls ≠ "java/lang/invoke/MethodHandle" ∧ y.cls ≠ "java/lang/invoke/VarHandle" ∧ (parseMethodDescriptor y.desc).map (fun d => d.parameters.length) = some as.length) (hnl : K'.2.2.1 ≤ 22) (hf : f + 1 ≤ cf X)
    (hst : st = as.reverse ++ (2, (n : Int)) :: rest) (hw8 : (rest.map (fun v => if v.1 = 1 then 2 else 1)).sum ≤ 8) (hT : T ((2, (n : Int)) :: as) G (thenW K X (pc + 3) lv rest)) : WP K X pc lv st G := by
  obtain ⟨p, l, e, R, s, m, args, below, meth, c, D, dT, ad0, G0, Q, base, sbase⟩ := X
  intro ho ad H locs ls hd he hs hl o1 o2
  obtain ⟨⟨hfr, hlo⟩, hce⟩ := room_ok ho hd he (f := f) (n := K'.2.2.1) hf hnl
  have oall : ∀ v ∈ (2, (n : Int)) :: as, okv G v := fun v hv => o2 v (by rw [hst]; rcases List.mem_cons.mp hv with h | h <;> simp [h])
  have orest : ∀ v ∈ rest, okv G v := fun v hv => o2 v (by rw [hst]; simp [hv])
  have hM := met_of (hG l ho.2.2.2.2.2.2.2.2.2.2.1 dT D base sbase ((2, (n : Int)) :: as) G _ hT oall ad) noX
  have hgi : GoodIn WALL (wsK K' y) := wall_in hcode rfl wall_all
  have hts := ho.2.2.2.2.1
  have hN := ho.2.2.2.2.2.2.2.2.2.1.1.1.1 _ hnest
  have e8 : st.map (rv ad) = (as.map (rv ad)).reverse ++ .ref (ad n) :: rest.map (rv ad) := by
    rw [hst, List.map_append, List.map_reverse, List.map_cons, nmv_ref (Int.natCast_nonneg n)]
    rfl
  have hw : wsK K' y = Cond.code y K'.2.1 K'.2.2.1 none :: WALL := by unfold wsK; rw [hret]
  subst how
  refine call_core ho hd he hs hl o1 orest (aa := ((2, (n : Int)) :: as).map (rv ad) |>.toArray) (va_runIN (b := ad n) (As := as.map (rv ad)) (rest := rest.map (rv ad)) (n := as.length) ⟨ho.1, ho.2.1, ho.2.2.1, ho.2.2.2.1, ho.2.2.2.2.1⟩ hM ⟨va_cnB as.length hts hgi hw rfl rfl hN (hts _ hini) hdd ⟨hfr, hlo⟩, hnm, hts _ hinst⟩ ⟨PcG.blind, PcG.at ho hd he hs ?_⟩ rfl (by simp) (hl.1) e8 (lv_room (by rw [cat_sum]; exact hw8)) hdg hce) (fun r G' h => h)
  rw [List.map_cons, nmv_ref (Int.natCast_nonneg n)]
  rfl
/-- a static method with handlers -/
theorem s_callSH (hG : GoodH K' y f T) (hdg : decode K.2.1 pc = .ok (.invokestatic idx, 3)) (hlink : Cond.methodLink K.1 idx y ∈ WALL) (hstat : Cond.static y ∈ WALL) (hini : Cond.initialized y.cls ∈ WALL) (hcode : Cond.codeWith y K'.2.1 K'.2.2.1 K'.2.2.2.1 K'.2.2.2.2 ∈ WALL) (hdd : y.cls ≠ "java/lang/invoke/MethodHandle" ∧ y.cls ≠ "java/lang/invoke/VarHandle" ∧ (parseMethodDescriptor y.desc).map (fun d => d.parameters.length) = some as.length) (hnl : K'.2.2.1 ≤ 22) (hf : f + 1 ≤ cf X)
    (hst : st = as.reverse ++ rest) (hw8 : (rest.map (fun v => if v.1 = 1 then 2 else 1)).sum ≤ 8) (hT : T as G (thenW K X (pc + 3) lv rest)) : WP K X pc lv st G := by
  obtain ⟨p, l, e, R, s, m, args, below, meth, c, D, dT, ad0, G0, Q, base, sbase⟩ := X
  intro ho ad H locs ls hd he hs hl o1 o2
  obtain ⟨⟨hfr, hlo⟩, hce⟩ := room_ok ho hd he (f := f) (n := K'.2.2.1) hf hnl
  have oall : ∀ v ∈ as, okv G v := fun v hv => o2 v (by rw [hst]; simp [hv])
  have orest : ∀ v ∈ rest, okv G v := fun v hv => o2 v (by rw [hst]; simp [hv])
  have hM := met_of (hG l ho.2.2.2.2.2.2.2.2.2.2.1 dT D base sbase as G _ hT oall ad) noX
  have hgi : GoodIn WALL (va_wsS K.1 idx y (wsW K' y)) := wall_in hlink rfl (wall_in hstat rfl (wall_in hini rfl (wall_in hcode rfl wall_all)))
  have e8 : st.map (rv ad) = (as.map (rv ad)).reverse ++ rest.map (rv ad) := by
    rw [hst, List.map_append, List.map_reverse]
  exact call_core ho hd he hs hl o1 orest (aa := (as.map (rv ad)).toArray) (vx_runSW (As := as.map (rv ad)) (rest := rest.map (rv ad)) (n := as.length) ⟨ho.1, ho.2.1, ho.2.2.1, ho.2.2.2.1, ho.2.2.2.2.1⟩ hM (vx_cwSW as.length ho.2.2.2.2.1 hgi rfl rfl rfl hdd ⟨hfr, hlo⟩) ⟨PcG.blind, PcG.at ho hd he hs rfl⟩ rfl (by simp) (hl.1) e8 (lv_room (by rw [cat_sum]; exact hw8)) hdg hce) (fun r G' h => h)
end NROWS
section QROWS
variable {K : KD} {X : CX} {pc : Nat} {lv lv' : List (Option LV)} {st : List LV} {G : LG}
theorem lwEq {dT : Nat → ClassId} {ad : Nat → Nat} {G : LG} {n t N : Nat} (hk : gK G n = (t, N)) (ht : 4 ≤ t ∧ t ≤ 7) : lw_E dT ad G n = .inl (dT (t - 1), N, .inr (.inr (.inr (.inr (fun j => nmv ad (gS G n j)))))) := by
  unfold lw_E; rw [hk]
  match t, ht with
  | 4, _ => rfl
  | 5, _ => rfl
  | 6, _ => rfl
  | 7, _ => rfl
theorem nmv_nat (ad : Nat → Nat) (n : Nat) : nmv ad (n : Int) = some (ad n) := by unfold nmv; rw [if_neg (by omega), Int.toNat_natCast]
theorem s_aald4 {n N : Nat} {i v : Int} (hdg : decode K.2.1 pc = .ok (.aaload, 1)) (hk : gK G n = (4, N)) (h0 : 0 ≤ i) (h1 : i < N) (hv : gS G n i.toNat = v) (kk : WP K X (pc + 1) lv ((2, v) :: st) G) : WP K X pc lv ((0, i) :: (2, (n : Int)) :: st) G := by
  obtain ⟨p, l, e, R, s, m, args, below, meth, c, D, dT, ad0, G0, Q, base, sbase⟩ := X
  intro ho ad H locs ls hd he hs hl o1 o2
  subst hv
  have hn : (gK G n).1 ≠ 0 := kne hk (by decide)
  have hi := okv_R (okv_h o2)
  have hc := at_q hk (by decide) (hd.1 n hn)
  have e1 : (Int32.ofInt i).toNatClampNeg = i.toNat := I_clamp h0 hi.2
  have hlt : i.toNat < N := by omega
  have o3 : okv G (2, gS G n i.toNat) := by
    have h9 := hd.2.2.1 n i.toNat hn (by rw [hk]; exact hlt)
    rw [hk] at h9
    exact h9
  rw [List.map_cons, List.map_cons, nmv_ref (Int.natCast_nonneg n)]
  refine W.aald (v := rv ad (2, gS G n i.toNat)) (ty := .array .int) ho.1 ho.2.1 hc ((ho.2.2.2.2.2.2.2.2.1.2 3 _ rfl).1 N _) rfl (fun q => by cases q) (?_) (?_) rfl rfl hdg (kk ho ad H locs ls hd he hs hl o1 (okv_c o3 (okv_t (okv_t o2))))
  · rw [arrV_size]
    rintro (h9 | h9)
    · rw [Int32.lt_iff_toInt_lt, I_toInt hi] at h9
      exact absurd h9 (by simpa using h0)
    · rw [e1] at h9; omega
  · rw [e1, arrV_read _ _ hlt]
    rfl
theorem s_aast4 {n N v L : Nat} {i : Int} (hdg : decode K.2.1 pc = .ok (.aastore, 1)) (hk : gK G n = (4, N)) (hkv : gK G v = (1, L)) (h0 : 0 ≤ i) (h1 : i < N) (kk : WP K X (pc + 1) lv st (gset G n i.toNat (v : Int))) : WP K X pc lv ((2, (v : Int)) :: (0, i) :: (2, (n : Int)) :: st) G := by
  obtain ⟨p, l, e, R, s, m, args, below, meth, c, D, dT, ad0, G0, Q, base, sbase⟩ := X
  intro ho ad H locs ls hd he hs hl o1 o2
  have hn : (gK G n).1 ≠ 0 := kne hk (by decide)
  have hvn : (gK G v).1 ≠ 0 := kne hkv (by decide)
  have hi := okv_R (okv_h (okv_t o2))
  have hv := okv_h o2
  have hc := at_q hk (by decide) (hd.1 n hn)
  have e1 : (Int32.ofInt i).toNatClampNeg = i.toNat := I_clamp h0 hi.2
  have hlt : i.toNat < N := by omega
  have hin : ¬ Int32.ofInt i < 0 ∧ (Int32.ofInt i).toNatClampNeg < (arrV (dT (4 - 1)) N (fun j => va_rf (nmv ad (gS G n j)))).slots.size := by
    rw [arrV_size, e1]
    refine ⟨fun h9 => ?_, hlt⟩
    rw [Int32.lt_iff_toInt_lt, I_toInt hi] at h9
    exact absurd h9 (by simpa using h0)
  have hcv := at_i hkv (hd.1 v hvn)
  have hK := ho.2.2.2.2.2.2.2.2.1
  obtain ⟨comp, c9, kA, f1, -, k1, k2, f5⟩ := arrayOverA_spec (show (Cond.arrayOver (.array .int)).before args s = true from va_AOA.use ho.2.2.2.2.2.2.2.2.2.1.1.1.aoa)
  have ec : c9 = dT 3 := Option.some.inj (f5.symm.trans (hK.2 3 _ rfl).2)
  have ep : comp = dT 0 := Option.some.inj (f1.symm.trans (hK.2 0 _ rfl).2)
  subst ec ep
  obtain ⟨-, kI, kI1, compI, kI2⟩ := (hK.2 0 _ rfl).1 L (fun j => .int (Int32.ofInt (gS G v j)))
  rw [List.map_cons, List.map_cons, List.map_cons, nmv_ref (Int.natCast_nonneg n), nmv_ref (Int.natCast_nonneg v)]
  refine W.aast ho.1 ho.2.1 hc (fun q h => by cases h) (fun h => by cases h) k1 k2 rfl kI1 hin hcv (fun q h => by cases h) kI1 (va_asg _ _) rfl rfl hdg (fun H1 e9 z9 oq => ?_)
  rw [e1] at e9
  have hat : va_at D vwCl (ad n, lw_E dT ad (gset G n i.toNat (v : Int)) n) H1 := by
    rw [lwEq (G := gset G n i.toNat (v : Int)) hk (by decide)]
    show H1[ad n]? = some (arrV (dT (4 - 1)) N (fun y => va_rf (nmv ad (gS (gset G n i.toNat (v : Int)) n y))))
    rw [e9]
    refine congrArg some ((arrV_store _ _ _ _ _).trans (congrArg (arrV _ N) ?_))
    funext y
    show updV _ _ _ y = va_rf (nmv ad (gS (gset G n i.toNat (v : Int)) n y))
    unfold updV
    rw [gset_eq]
    by_cases hy : y = i.toNat
    · rw [if_pos hy, if_pos ⟨rfl, hy⟩, nmv_nat]; rfl
    · rw [if_neg hy, if_neg (fun q => hy q.2)]
  have hd' := HD_put hd hn (fun _ => by rw [hk]; exact hv) hc e9 z9 oq hat
  have k9 := kk ho ad H1 _ ls hd' he (hs.put (k := i.toNat) z9 oq (he.in hn)) hl o1 (okv_t (okv_t (okv_t o2)))
  have z5 : hsz H1 = hsz H := hd'.2.2.2.2.1.trans hd.2.2.2.2.1.symm
  rw [z9, z5] at k9
  rw [e1]
  exact k9
theorem s_aald5 {n N : Nat} {i v : Int} (hdg : decode K.2.1 pc = .ok (.aaload, 1)) (hk : gK G n = (5, N)) (h0 : 0 ≤ i) (h1 : i < N) (hv : gS G n i.toNat = v) (kk : WP K X (pc + 1) lv ((2, v) :: st) G) : WP K X pc lv ((0, i) :: (2, (n : Int)) :: st) G := by
  obtain ⟨p, l, e, R, s, m, args, below, meth, c, D, dT, ad0, G0, Q, base, sbase⟩ := X
  intro ho ad H locs ls hd he hs hl o1 o2
  subst hv
  have hn : (gK G n).1 ≠ 0 := kne hk (by decide)
  have hi := okv_R (okv_h o2)
  have hc := at_q hk (by decide) (hd.1 n hn)
  have e1 : (Int32.ofInt i).toNatClampNeg = i.toNat := I_clamp h0 hi.2
  have hlt : i.toNat < N := by omega
  have o3 : okv G (2, gS G n i.toNat) := by
    have h9 := hd.2.2.1 n i.toNat hn (by rw [hk]; exact hlt)
    rw [hk] at h9
    exact h9
  rw [List.map_cons, List.map_cons, nmv_ref (Int.natCast_nonneg n)]
  refine W.aald (v := rv ad (2, gS G n i.toNat)) (ty := .object RX10) ho.1 ho.2.1 hc ((ho.2.2.2.2.2.2.2.2.1.2 4 _ rfl).1 N _) rfl (fun q => by cases q) (?_) (?_) rfl rfl hdg (kk ho ad H locs ls hd he hs hl o1 (okv_c o3 (okv_t (okv_t o2))))
  · rw [arrV_size]
    rintro (h9 | h9)
    · rw [Int32.lt_iff_toInt_lt, I_toInt hi] at h9
      exact absurd h9 (by simpa using h0)
    · rw [e1] at h9; omega
  · rw [e1, arrV_read _ _ hlt]
    rfl
theorem s_aast5 {n N v L : Nat} {i : Int} (hdg : decode K.2.1 pc = .ok (.aastore, 1)) (hk : gK G n = (5, N)) (hkv : gK G v = (11 + 8, L)) (h0 : 0 ≤ i) (h1 : i < N) (kk : WP K X (pc + 1) lv st (gset G n i.toNat (v : Int))) : WP K X pc lv ((2, (v : Int)) :: (0, i) :: (2, (n : Int)) :: st) G := by
  obtain ⟨p, l, e, R, s, m, args, below, meth, c, D, dT, ad0, G0, Q, base, sbase⟩ := X
  intro ho ad H locs ls hd he hs hl o1 o2
  have hn : (gK G n).1 ≠ 0 := kne hk (by decide)
  have hvn : (gK G v).1 ≠ 0 := kne hkv (by decide)
  have hi := okv_R (okv_h (okv_t o2))
  have hv := okv_h o2
  have hc := at_q hk (by decide) (hd.1 n hn)
  have e1 : (Int32.ofInt i).toNatClampNeg = i.toNat := I_clamp h0 hi.2
  have hlt : i.toNat < N := by omega
  have hin : ¬ Int32.ofInt i < 0 ∧ (Int32.ofInt i).toNatClampNeg < (arrV (dT (5 - 1)) N (fun j => va_rf (nmv ad (gS G n j)))).slots.size := by
    rw [arrV_size, e1]
    refine ⟨fun h9 => ?_, hlt⟩
    rw [Int32.lt_iff_toInt_lt, I_toInt hi] at h9
    exact absurd h9 (by simpa using h0)
  obtain ⟨r', hr', cellV, g1, g2, g3, -⟩ := at_o (c := 11) hkv (hd.1 v hvn)
  have hK := ho.2.2.2.2.2.2.2.2.1
  have hcls := (hK.1 11 _ rfl).2
  obtain ⟨kA, comp, k1, k2, k3, -⟩ := (hK.2 4 _ rfl).2
  have hcomp : comp = D.1 11 := Option.some.inj (k3.symm.trans hcls.1)
  subst hcomp
  obtain ⟨kC, hkC, -⟩ := hcls.2
  rw [List.map_cons, List.map_cons, List.map_cons, nmv_ref (Int.natCast_nonneg n), nmv_ref (Int.natCast_nonneg v)]
  refine W.aast ho.1 ho.2.1 hc (fun q h => by cases h) (fun h => by cases h) k1 k2 rfl hkC hin g1 (fun q h => by rw [g3] at h; cases h) (by rw [g2]; exact hkC) (by rw [g2]; exact va_assign hcls) rfl rfl hdg (fun H1 e9 z9 oq => ?_)
  rw [e1] at e9
  have hat : va_at D vwCl (ad n, lw_E dT ad (gset G n i.toNat (v : Int)) n) H1 := by
    rw [lwEq (G := gset G n i.toNat (v : Int)) hk (by decide)]
    show H1[ad n]? = some (arrV (dT (5 - 1)) N (fun y => va_rf (nmv ad (gS (gset G n i.toNat (v : Int)) n y))))
    rw [e9]
    refine congrArg some ((arrV_store _ _ _ _ _).trans (congrArg (arrV _ N) ?_))
    funext y
    show updV _ _ _ y = va_rf (nmv ad (gS (gset G n i.toNat (v : Int)) n y))
    unfold updV
    rw [gset_eq]
    by_cases hy : y = i.toNat
    · rw [if_pos hy, if_pos ⟨rfl, hy⟩, nmv_nat]; rfl
    · rw [if_neg hy, if_neg (fun q => hy q.2)]
  have hd' := HD_put hd hn (fun _ => by rw [hk]; exact hv) hc e9 z9 oq hat
  have k9 := kk ho ad H1 _ ls hd' he (hs.put (k := i.toNat) z9 oq (he.in hn)) hl o1 (okv_t (okv_t (okv_t o2)))
  have z5 : hsz H1 = hsz H := hd'.2.2.2.2.1.trans hd.2.2.2.2.1.symm
  rw [z9, z5] at k9
  rw [e1]
  exact k9
theorem s_aald6 {n N : Nat} {i v : Int} (hdg : decode K.2.1 pc = .ok (.aaload, 1)) (hk : gK G n = (6, N)) (h0 : 0 ≤ i) (h1 : i < N) (hv : gS G n i.toNat = v) (kk : WP K X (pc + 1) lv ((2, v) :: st) G) : WP K X pc lv ((0, i) :: (2, (n : Int)) :: st) G := by
  obtain ⟨p, l, e, R, s, m, args, below, meth, c, D, dT, ad0, G0, Q, base, sbase⟩ := X
  intro ho ad H locs ls hd he hs hl o1 o2
  subst hv
  have hn : (gK G n).1 ≠ 0 := kne hk (by decide)
  have hi := okv_R (okv_h o2)
  have hc := at_q hk (by decide) (hd.1 n hn)
  have e1 : (Int32.ofInt i).toNatClampNeg = i.toNat := I_clamp h0 hi.2
  have hlt : i.toNat < N := by omega
  have o3 : okv G (2, gS G n i.toNat) := by
    have h9 := hd.2.2.1 n i.toNat hn (by rw [hk]; exact hlt)
    rw [hk] at h9
    exact h9
  rw [List.map_cons, List.map_cons, nmv_ref (Int.natCast_nonneg n)]
  refine W.aald (v := rv ad (2, gS G n i.toNat)) (ty := .object RX4) ho.1 ho.2.1 hc ((ho.2.2.2.2.2.2.2.2.1.2 5 _ rfl).1 N _) rfl (fun q => by cases q) (?_) (?_) rfl rfl hdg (kk ho ad H locs ls hd he hs hl o1 (okv_c o3 (okv_t (okv_t o2))))
  · rw [arrV_size]
    rintro (h9 | h9)
    · rw [Int32.lt_iff_toInt_lt, I_toInt hi] at h9
      exact absurd h9 (by simpa using h0)
    · rw [e1] at h9; omega
  · rw [e1, arrV_read _ _ hlt]
    rfl
theorem s_aast6 {n N v L : Nat} {i : Int} (hdg : decode K.2.1 pc = .ok (.aastore, 1)) (hk : gK G n = (6, N)) (hkv : gK G v = (5 + 8, L)) (h0 : 0 ≤ i) (h1 : i < N) (kk : WP K X (pc + 1) lv st (gset G n i.toNat (v : Int))) : WP K X pc lv ((2, (v : Int)) :: (0, i) :: (2, (n : Int)) :: st) G := by
  obtain ⟨p, l, e, R, s, m, args, below, meth, c, D, dT, ad0, G0, Q, base, sbase⟩ := X
  intro ho ad H locs ls hd he hs hl o1 o2
  have hn : (gK G n).1 ≠ 0 := kne hk (by decide)
  have hvn : (gK G v).1 ≠ 0 := kne hkv (by decide)
  have hi := okv_R (okv_h (okv_t o2))
  have hv := okv_h o2
  have hc := at_q hk (by decide) (hd.1 n hn)
  have e1 : (Int32.ofInt i).toNatClampNeg = i.toNat := I_clamp h0 hi.2
  have hlt : i.toNat < N := by omega
  have hin : ¬ Int32.ofInt i < 0 ∧ (Int32.ofInt i).toNatClampNeg < (arrV (dT (6 - 1)) N (fun j => va_rf (nmv ad (gS G n j)))).slots.size := by
    rw [arrV_size, e1]
    refine ⟨fun h9 => ?_, hlt⟩
    rw [Int32.lt_iff_toInt_lt, I_toInt hi] at h9
    exact absurd h9 (by simpa using h0)
  obtain ⟨r', hr', cellV, g1, g2, g3, -⟩ := at_o (c := 5) hkv (hd.1 v hvn)
  have hK := ho.2.2.2.2.2.2.2.2.1
  have hcls := (hK.1 5 _ rfl).2
  obtain ⟨kA, comp, k1, k2, k3, -⟩ := (hK.2 5 _ rfl).2
  have hcomp : comp = D.1 5 := Option.some.inj (k3.symm.trans hcls.1)
  subst hcomp
  obtain ⟨kC, hkC, -⟩ := hcls.2
  rw [List.map_cons, List.map_cons, List.map_cons, nmv_ref (Int.natCast_nonneg n), nmv_ref (Int.natCast_nonneg v)]
  refine W.aast ho.1 ho.2.1 hc (fun q h => by cases h) (fun h => by cases h) k1 k2 rfl hkC hin g1 (fun q h => by rw [g3] at h; cases h) (by rw [g2]; exact hkC) (by rw [g2]; exact va_assign hcls) rfl rfl hdg (fun H1 e9 z9 oq => ?_)
  rw [e1] at e9
  have hat : va_at D vwCl (ad n, lw_E dT ad (gset G n i.toNat (v : Int)) n) H1 := by
    rw [lwEq (G := gset G n i.toNat (v : Int)) hk (by decide)]
    show H1[ad n]? = some (arrV (dT (6 - 1)) N (fun y => va_rf (nmv ad (gS (gset G n i.toNat (v : Int)) n y))))
    rw [e9]
    refine congrArg some ((arrV_store _ _ _ _ _).trans (congrArg (arrV _ N) ?_))
    funext y
    show updV _ _ _ y = va_rf (nmv ad (gS (gset G n i.toNat (v : Int)) n y))
    unfold updV
    rw [gset_eq]
    by_cases hy : y = i.toNat
    · rw [if_pos hy, if_pos ⟨rfl, hy⟩, nmv_nat]; rfl
    · rw [if_neg hy, if_neg (fun q => hy q.2)]
  have hd' := HD_put hd hn (fun _ => by rw [hk]; exact hv) hc e9 z9 oq hat
  have k9 := kk ho ad H1 _ ls hd' he (hs.put (k := i.toNat) z9 oq (he.in hn)) hl o1 (okv_t (okv_t (okv_t o2)))
  have z5 : hsz H1 = hsz H := hd'.2.2.2.2.1.trans hd.2.2.2.2.1.symm
  rw [z9, z5] at k9
  rw [e1]
  exact k9
theorem s_aald7 {n N : Nat} {i v : Int} (hdg : decode K.2.1 pc = .ok (.aaload, 1)) (hk : gK G n = (7, N)) (h0 : 0 ≤ i) (h1 : i < N) (hv : gS G n i.toNat = v) (kk : WP K X (pc + 1) lv ((2, v) :: st) G) : WP K X pc lv ((0, i) :: (2, (n : Int)) :: st) G := by
  obtain ⟨p, l, e, R, s, m, args, below, meth, c, D, dT, ad0, G0, Q, base, sbase⟩ := X
  intro ho ad H locs ls hd he hs hl o1 o2
  subst hv
  have hn : (gK G n).1 ≠ 0 := kne hk (by decide)
  have hi := okv_R (okv_h o2)
  have hc := at_q hk (by decide) (hd.1 n hn)
  have e1 : (Int32.ofInt i).toNatClampNeg = i.toNat := I_clamp h0 hi.2
  have hlt : i.toNat < N := by omega
  have o3 : okv G (2, gS G n i.toNat) := by
    have h9 := hd.2.2.1 n i.toNat hn (by rw [hk]; exact hlt)
    rw [hk] at h9
    exact h9
  rw [List.map_cons, List.map_cons, nmv_ref (Int.natCast_nonneg n)]
  refine W.aald (v := rv ad (2, gS G n i.toNat)) (ty := .object "java/lang/Object") ho.1 ho.2.1 hc ((ho.2.2.2.2.2.2.2.2.1.2 6 _ rfl).1 N _) rfl (fun q => by cases q) (?_) (?_) rfl rfl hdg (kk ho ad H locs ls hd he hs hl o1 (okv_c o3 (okv_t (okv_t o2))))
  · rw [arrV_size]
    rintro (h9 | h9)
    · rw [Int32.lt_iff_toInt_lt, I_toInt hi] at h9
      exact absurd h9 (by simpa using h0)
    · rw [e1] at h9; omega
  · rw [e1, arrV_read _ _ hlt]
    rfl
theorem s_aast7 {n N v L : Nat} {i : Int} (hdg : decode K.2.1 pc = .ok (.aastore, 1)) (hk : gK G n = (7, N)) (hkv : gK G v = (5 + 8, L)) (h0 : 0 ≤ i) (h1 : i < N) (kk : WP K X (pc + 1) lv st (gset G n i.toNat (v : Int))) : WP K X pc lv ((2, (v : Int)) :: (0, i) :: (2, (n : Int)) :: st) G := by
  obtain ⟨p, l, e, R, s, m, args, below, meth, c, D, dT, ad0, G0, Q, base, sbase⟩ := X
  intro ho ad H locs ls hd he hs hl o1 o2
  have hn : (gK G n).1 ≠ 0 := kne hk (by decide)
  have hvn : (gK G v).1 ≠ 0 := kne hkv (by decide)
  have hi := okv_R (okv_h (okv_t o2))
  have hv := okv_h o2
  have hc := at_q hk (by decide) (hd.1 n hn)
  have e1 : (Int32.ofInt i).toNatClampNeg = i.toNat := I_clamp h0 hi.2
  have hlt : i.toNat < N := by omega
  have hin : ¬ Int32.ofInt i < 0 ∧ (Int32.ofInt i).toNatClampNeg < (arrV (dT (7 - 1)) N (fun j => va_rf (nmv ad (gS G n j)))).slots.size := by
    rw [arrV_size, e1]
    refine ⟨fun h9 => ?_, hlt⟩
    rw [Int32.lt_iff_toInt_lt, I_toInt hi] at h9
    exact absurd h9 (by simpa using h0)
  obtain ⟨r', hr', cellV, g1, g2, g3, -⟩ := at_o (c := 5) hkv (hd.1 v hvn)
  have hK := ho.2.2.2.2.2.2.2.2.1
  have hcls := (hK.1 5 _ rfl).2
  obtain ⟨kA, comp, k1, k2, k3, -⟩ := (hK.2 6 _ rfl).2
  obtain ⟨kE, hkE, -⟩ := Vm.findClass_spec k3
  obtain ⟨c0, t1, f1, f2, f3⟩ := Cond.castable_spec (va_Nw.use (A := args) rfl ho.2.2.2.2.2.2.2.2.2.1.2.2.2.2.1)
  cases hcls.1.symm.trans f1
  cases k3.symm.trans f2
  obtain ⟨kC, hkC, -⟩ := hcls.2
  rw [List.map_cons, List.map_cons, List.map_cons, nmv_ref (Int.natCast_nonneg n), nmv_ref (Int.natCast_nonneg v)]
  refine W.aast ho.1 ho.2.1 hc (fun q h => by cases h) (fun h => by cases h) k1 k2 rfl hkE hin g1 (fun q h => by rw [g3] at h; cases h) (by rw [g2]; exact hkC) (by rw [g2]; exact f3) rfl rfl hdg (fun H1 e9 z9 oq => ?_)
  rw [e1] at e9
  have hat : va_at D vwCl (ad n, lw_E dT ad (gset G n i.toNat (v : Int)) n) H1 := by
    rw [lwEq (G := gset G n i.toNat (v : Int)) hk (by decide)]
    show H1[ad n]? = some (arrV (dT (7 - 1)) N (fun y => va_rf (nmv ad (gS (gset G n i.toNat (v : Int)) n y))))
    rw [e9]
    refine congrArg some ((arrV_store _ _ _ _ _).trans (congrArg (arrV _ N) ?_))
    funext y
    show updV _ _ _ y = va_rf (nmv ad (gS (gset G n i.toNat (v : Int)) n y))
    unfold updV
    rw [gset_eq]
    by_cases hy : y = i.toNat
    · rw [if_pos hy, if_pos ⟨rfl, hy⟩, nmv_nat]; rfl
    · rw [if_neg hy, if_neg (fun q => hy q.2)]
  have hd' := HD_put hd hn (fun _ => by rw [hk]; exact hv) hc e9 z9 oq hat
  have k9 := kk ho ad H1 _ ls hd' he (hs.put (k := i.toNat) z9 oq (he.in hn)) hl o1 (okv_t (okv_t (okv_t o2)))
  have z5 : hsz H1 = hsz H := hd'.2.2.2.2.1.trans hd.2.2.2.2.1.symm
  rw [z9, z5] at k9
  rw [e1]
  exact k9
theorem s_newq5 (n N : Nat) {v : Int} {idx : Nat} (hdg : decode K.2.1 pc = .ok (.anewarray idx, 3)) (hcl : Cond.classLink K.1 idx RX10 ∈ WALL) (hv : v = (N : Int)) (hN : N ≤ 134217728) (hn : (gK G n).1 = 0) (hc : gc G + 1 ≤ 601024) (hs9 : gs G + N ≤ 7293034) (kk : WP K X (pc + 3) lv ((2, (n : Int)) :: st) (gnew G n 5 N N (fun _ => -1))) : WP K X pc lv ((0, v) :: st) G := by
  obtain ⟨p, l, e, R, s, m, args, below, meth, c, D, dT, ad0, G0, Q, base, sbase⟩ := X
  intro ho ad H locs ls hd he hs hl o1 o2
  subst hv
  have hr := okv_R (okv_h o2)
  obtain ⟨hc1, hs1⟩ := room_new ho hd he hc hs9
  have hN9 : (Int32.ofInt (N : Int)).toNatClampNeg = N := by rw [I_clamp (by omega) hr.2]; omega
  refine W.anew ho.1 ho.2.1 ho.2.2.2.1 (ho.2.2.2.2.1 _ hcl) (va_AO.use ho.2.2.2.2.2.2.2.2.2.1.1.1.ao_V) rfl hdg rfl (by rw [Int32.lt_iff_toInt_lt, I_toInt hr]; exact fun h => absurd h (by simp)) (by rw [hN9]; omega) hc1 (by rw [hN9]; exact hs1) fun cA kA comp f1 f2 f3 f4 => ?_
  rw [hN9]
  have ec : cA = dT 4 := by
    obtain ⟨_, _, _, _, _, h9⟩ := (ho.2.2.2.2.2.2.2.2.1.2 4 _ rfl).2
    exact Option.some.inj (f1.symm.trans h9)
  subst ec
  generalize hH1 : H.push ({ cls := dT 4, slots := Array.replicate N .null, vm := .none } : Cell) = H1
  have z1 : H1.size = H.size + 1 := by rw [← hH1, Array.size_push]
  have e1 : H1[H.size]? = some (arrV (dT 4) N (fun _ => .null)) := by rw [← hH1, Array.getElem?_push_size, ← arrV_new]
  have oq : ∀ q : Nat, q < H.size → H1[q]? = H[q]? := fun q hq => by rw [← hH1, Array.getElem?_push, if_neg (Nat.ne_of_lt hq)]
  refine new_core ho hd he hs hl o1 (okv_t o2) hn (by decide) hc hs9 e1 z1 oq (arrV_size _ _ _) ?_ (fun j hj => okv_r (fun q => absurd q (by decide))) kk
  rw [lwEq (gnew_K G n 5 N N (fun _ => -1)) (by decide)]
  show H1[H.size]? = some (arrV (dT (5 - 1)) N (fun j => va_rf (nmv (adn ad n H.size) (gS (gnew G n 5 N N (fun _ => -1)) n j))))
  rw [gnew_at, e1]
  exact congrArg some (arrV_cg (fun j hj => by show Value.null = va_rf (nmv _ (-1)); unfold nmv; rw [if_pos (by decide)]; rfl))
theorem s_newq6 (n N : Nat) {v : Int} {idx : Nat} (hdg : decode K.2.1 pc = .ok (.anewarray idx, 3)) (hcl : Cond.classLink K.1 idx RX4 ∈ WALL) (hv : v = (N : Int)) (hN : N ≤ 134217728) (hn : (gK G n).1 = 0) (hc : gc G + 1 ≤ 601024) (hs9 : gs G + N ≤ 7293034) (kk : WP K X (pc + 3) lv ((2, (n : Int)) :: st) (gnew G n 6 N N (fun _ => -1))) : WP K X pc lv ((0, v) :: st) G := by
  obtain ⟨p, l, e, R, s, m, args, below, meth, c, D, dT, ad0, G0, Q, base, sbase⟩ := X
  intro ho ad H locs ls hd he hs hl o1 o2
  subst hv
  have hr := okv_R (okv_h o2)
  obtain ⟨hc1, hs1⟩ := room_new ho hd he hc hs9
  have hN9 : (Int32.ofInt (N : Int)).toNatClampNeg = N := by rw [I_clamp (by omega) hr.2]; omega
  refine W.anew ho.1 ho.2.1 ho.2.2.2.1 (ho.2.2.2.2.1 _ hcl) (va_AO.use ho.2.2.2.2.2.2.2.2.2.1.1.1.ao_N) rfl hdg rfl (by rw [Int32.lt_iff_toInt_lt, I_toInt hr]; exact fun h => absurd h (by simp)) (by rw [hN9]; omega) hc1 (by rw [hN9]; exact hs1) fun cA kA comp f1 f2 f3 f4 => ?_
  rw [hN9]
  have ec : cA = dT 5 := by
    obtain ⟨_, _, _, _, _, h9⟩ := (ho.2.2.2.2.2.2.2.2.1.2 5 _ rfl).2
    exact Option.some.inj (f1.symm.trans h9)
  subst ec
  generalize hH1 : H.push ({ cls := dT 5, slots := Array.replicate N .null, vm := .none } : Cell) = H1
  have z1 : H1.size = H.size + 1 := by rw [← hH1, Array.size_push]
  have e1 : H1[H.size]? = some (arrV (dT 5) N (fun _ => .null)) := by rw [← hH1, Array.getElem?_push_size, ← arrV_new]
  have oq : ∀ q : Nat, q < H.size → H1[q]? = H[q]? := fun q hq => by rw [← hH1, Array.getElem?_push, if_neg (Nat.ne_of_lt hq)]
  refine new_core ho hd he hs hl o1 (okv_t o2) hn (by decide) hc hs9 e1 z1 oq (arrV_size _ _ _) ?_ (fun j hj => okv_r (fun q => absurd q (by decide))) kk
  rw [lwEq (gnew_K G n 6 N N (fun _ => -1)) (by decide)]
  show H1[H.size]? = some (arrV (dT (6 - 1)) N (fun j => va_rf (nmv (adn ad n H.size) (gS (gnew G n 6 N N (fun _ => -1)) n j))))
  rw [gnew_at, e1]
  exact congrArg some (arrV_cg (fun j hj => by show Value.null = va_rf (nmv _ (-1)); unfold nmv; rw [if_pos (by decide)]; rfl))
theorem s_newq7 (n N : Nat) {v : Int} {idx : Nat} (hdg : decode K.2.1 pc = .ok (.anewarray idx, 3)) (hcl : Cond.classLink K.1 idx "java/lang/Object" ∈ WALL) (hv : v = (N : Int)) (hN : N ≤ 134217728) (hn : (gK G n).1 = 0) (hc : gc G + 1 ≤ 601024) (hs9 : gs G + N ≤ 7293034) (kk : WP K X (pc + 3) lv ((2, (n : Int)) :: st) (gnew G n 7 N N (fun _ => -1))) : WP K X pc lv ((0, v) :: st) G := by
  obtain ⟨p, l, e, R, s, m, args, below, meth, c, D, dT, ad0, G0, Q, base, sbase⟩ := X
  intro ho ad H locs ls hd he hs hl o1 o2
  subst hv
  have hr := okv_R (okv_h o2)
  obtain ⟨hc1, hs1⟩ := room_new ho hd he hc hs9
  have hN9 : (Int32.ofInt (N : Int)).toNatClampNeg = N := by rw [I_clamp (by omega) hr.2]; omega
  refine W.anew ho.1 ho.2.1 ho.2.2.2.1 (ho.2.2.2.2.1 _ hcl) (va_AO.use ho.2.2.2.2.2.2.2.2.2.1.2.2.2.1) rfl hdg rfl (by rw [Int32.lt_iff_toInt_lt, I_toInt hr]; exact fun h => absurd h (by simp)) (by rw [hN9]; omega) hc1 (by rw [hN9]; exact hs1) fun cA kA comp f1 f2 f3 f4 => ?_
  rw [hN9]
  have ec : cA = dT 6 := by
    obtain ⟨_, _, _, _, _, h9⟩ := (ho.2.2.2.2.2.2.2.2.1.2 6 _ rfl).2
    exact Option.some.inj (f1.symm.trans h9)
  subst ec
  generalize hH1 : H.push ({ cls := dT 6, slots := Array.replicate N .null, vm := .none } : Cell) = H1
  have z1 : H1.size = H.size + 1 := by rw [← hH1, Array.size_push]
  have e1 : H1[H.size]? = some (arrV (dT 6) N (fun _ => .null)) := by rw [← hH1, Array.getElem?_push_size, ← arrV_new]
  have oq : ∀ q : Nat, q < H.size → H1[q]? = H[q]? := fun q hq => by rw [← hH1, Array.getElem?_push, if_neg (Nat.ne_of_lt hq)]
  refine new_core ho hd he hs hl o1 (okv_t o2) hn (by decide) hc hs9 e1 z1 oq (arrV_size _ _ _) ?_ (fun j hj => okv_r (fun q => absurd q (by decide))) kk
  rw [lwEq (gnew_K G n 7 N N (fun _ => -1)) (by decide)]
  show H1[H.size]? = some (arrV (dT (7 - 1)) N (fun j => va_rf (nmv (adn ad n H.size) (gS (gnew G n 7 N N (fun _ => -1)) n j))))
  rw [gnew_at, e1]
  exact congrArg some (arrV_cg (fun j hj => by show Value.null = va_rf (nmv _ (-1)); unfold nmv; rw [if_pos (by decide)]; rfl))
/-- the world with n numbers of the cell a from i on copied into the cell b from j on -/
def gcpy (G : LG) (a i b j n : Nat) : LG := (fun x y => if x = b ∧ j ≤ y ∧ y < j + n then gS G a (i + (y - j)) else gS G x y, gK G, gc G, gs G)
theorem gcpy_K (G : LG) (a i b j n : Nat) : gK (gcpy G a i b j n) = gK G := rfl
theorem gcpy_ne (G : LG) {a i b j n x : Nat} (h : x ≠ b) : gS (gcpy G a i b j n) x = gS G x := by funext y; exact if_neg (fun q => h q.1)
theorem gcpy_at (G : LG) (a i b j n y : Nat) : gS (gcpy G a i b j n) b y = if j ≤ y ∧ y < j + n then gS G a (i + (y - j)) else gS G b y := by
  show (if b = b ∧ j ≤ y ∧ y < j + n then gS G a (i + (y - j)) else gS G b y) = _
  by_cases h : j ≤ y ∧ y < j + n
  · rw [if_pos ⟨rfl, h⟩, if_pos h]
  · rw [if_neg (fun q => h q.2), if_neg h]
theorem HD_cpy {dT : Nat → ClassId} {D : va_G} {base sbase : Nat} {ad : Nat → Nat} {G : LG} {H H1 : Heap} {a i b j n : Nat} (hd : HD dT D base sbase ad G H) (hb : (gK G b).1 ≠ 0) (hav : ∀ y, y < n → okv G (lw_st (gK G b).1 (j + y), gS G a (i + y))) (z : H1.size = H.size) (oq : ∀ q, q ≠ ad b → H1[q]? = H[q]?) (hz : hsz H1 = hsz H) (ha : va_at D vwCl (ad b, lw_E dT ad (gcpy G a i b j n) b) H1) : HD dT D base sbase ad (gcpy G a i b j n) H1 := by
  obtain ⟨d1, d2, d3, d4, d5, d6⟩ := hd
  refine ⟨fun m hm => ?_, d2, fun m y hm hy => ?_, z.trans d4, hz.trans d5, d6⟩
  · by_cases hmb : m = b
    · subst hmb; exact ha
    · exact at_mv (G := G) (G' := gcpy G a i b j n) (congrFun (gcpy_K G a i b j n) m) (gcpy_ne G hmb) (fun j hj => d3 m j hm hj) (fun _ _ => rfl) ((d1 m hm).kept (oq _ (fun q => hmb (d2 m b hm hb q))))
  · by_cases hmb : m = b
    · subst hmb
      show okv G (lw_st (gK G m).1 y, gS (gcpy G a i m j n) m y)
      rw [gcpy_at]
      by_cases h : j ≤ y ∧ y < j + n
      · rw [if_pos h]
        have h9 := hav (y - j) (by omega)
        rw [show j + (y - j) = y by omega] at h9
        exact h9
      · rw [if_neg h]; exact d3 m y hm hy
    · show okv G (lw_st (gK G m).1 y, gS (gcpy G a i b j n) m y)
      rw [gcpy_ne G hmb]; exact d3 m y hm hy
theorem s_acmp_eq {x y off : Int} {tgt : Nat} (hdg : decode K.2.1 pc = .ok (.if_acmp .eq off, 3)) (ht : (pc : Int) + off = (tgt : Int)) (hx : 0 ≤ x) (hy : 0 ≤ y) (kt : x = y → WP K X tgt lv st G) (kf : ¬ x = y → WP K X (pc + 3) lv st G) : WP K X pc lv ((2, y) :: (2, x) :: st) G := by
  obtain ⟨p, l, e, R, s, m, args, below, meth, c, D, dT, ad0, G0, Q, base, sbase⟩ := X
  intro ho ad H locs ls hd he hs hl o1 o2
  have hyk := (okv_h o2).2.2 (Nat.le_refl 2) hy
  have hxk := (okv_h (okv_t o2)).2.2 (Nat.le_refl 2) hx
  have ho9 := okv_t (okv_t o2)
  refine lv_acmp_eq (rx := nmv ad x) (ry := nmv ad y) ho.1 ho.2.1 hdg ht (fun h => kt ?_ ho ad H locs ls hd he hs hl o1 ho9) (fun h => kf (fun q => h (by rw [q])) ho ad H locs ls hd he hs hl o1 ho9)
  unfold nmv at h
  rw [if_neg (by omega), if_neg (by omega)] at h
  have h9 := hd.2.1 _ _ hxk hyk (Option.some.inj h)
  omega
theorem s_castN {n L idx : Nat} {nm : String} (hdg : decode K.2.1 pc = .ok (.checkcast idx, 3)) (hlink : Cond.classLink K.1 idx RX4 ∈ WALL) (hk : gK G n = (5 + 8, L)) (kk : WP K X (pc + 3) lv ((2, (n : Int)) :: st) G) : WP K X pc lv ((2, (n : Int)) :: st) G := by
  obtain ⟨p, l, e, R, s, m, args, below, meth, c, D, dT, ad0, G0, Q, base, sbase⟩ := X
  intro ho ad H locs ls hd he hs hl o1 o2
  have hn : (gK G n).1 ≠ 0 := kne hk (by decide)
  obtain ⟨r', hr', cellV, g1, g2, g3, -⟩ := at_o (c := 5) hk (hd.1 n hn)
  have hcls := (ho.2.2.2.2.2.2.2.2.1.1 5 _ rfl).2
  have k9 := kk ho ad H locs ls hd he hs hl o1 o2
  rw [List.map_cons, nmv_ref (Int.natCast_nonneg n)] at k9 ⊢
  exact va_castS ho.1 ho.2.1 ho.2.2.2.1 (ho.2.2.2.2.1 _ hlink) hcls ⟨cellV, g1, by rw [g3]; rfl, by rw [g2]; exact hcls.1⟩ hdg k9
theorem s_getList {idx : Nat} (hdg : decode K.2.1 pc = .ok (.getstatic idx, 3)) (hlink : Cond.fieldLink K.1 idx "java/util/ArrayList" "DEFAULTCAPACITY_EMPTY_ELEMENTDATA" "[Ljava/lang/Object;" ∈ WALL) (kk : gK G 510 = (7, 0) → WP K X (pc + 3) lv ((2, ((510 : Nat) : Int)) :: st) G) : WP K X pc lv st G := by
  obtain ⟨p, l, e, R, s, m, args, below, meth, c, D, dT, ad0, G0, Q, base, sbase⟩ := X
  intro ho ad H locs ls hd he hs hl o1 o2
  have hE := ho.2.2.2.2.2.2.2.2.2.1
  have e1 := he.1 510 (by rw [hE.2.1]; decide)
  have hk : gK G 510 = (7, 0) := e1.1.trans hE.2.1
  have k9 := kk hk ho ad H locs ls hd he hs hl o1 (okv_c (okv_r (fun _ => by show (gK G 510).1 ≠ 0; rw [hk]; decide)) o2)
  have e9 : rv ad (2, ((510 : Nat) : Int)) = .ref (ad0 510) := by rw [nmv_ref (Int.natCast_nonneg _)]; exact congrArg Value.ref e1.2
  rw [List.map_cons, e9] at k9
  exact va_gets ho.1 ho.2.1 hE.2.2.1 hs ho.2.2.2.1 (ho.2.2.2.2.1 _ hlink) (fun _ h => h) hdg k9
theorem s_copyI {x y N M : Nat} {i j n : Int} {idx : Nat} (hdg : decode K.2.1 pc = .ok (.invokestatic idx, 3)) (hlink : Cond.methodLink K.1 idx arraycopyName ∈ WALL) (hkx : gK G x = (1, N)) (hky : gK G y = (1, M)) (h1 : 0 ≤ i) (h2 : 0 ≤ j) (h3 : 0 ≤ n) (h4 : i + n ≤ N) (h5 : j + n ≤ M) (hcf : 1 ≤ cf X) (hw : (st.map (fun v => if v.1 = 1 then 2 else 1)).sum ≤ 8)
    (kk : WP K X (pc + 3) lv st (gcpy G x i.toNat y j.toNat n.toNat)) : WP K X pc lv ((0, n) :: (0, j) :: (2, (y : Int)) :: (0, i) :: (2, (x : Int)) :: st) G := by
  obtain ⟨p, l, e, R, s, m, args, below, meth, c, D, dT, ad0, G0, Q, base, sbase⟩ := X
  intro ho ad H locs ls hd he hs hl o1 o2
  have hts := ho.2.2.2.2.1
  have hxn : (gK G x).1 ≠ 0 := kne hkx (by decide)
  have hyn : (gK G y).1 ≠ 0 := kne hky (by decide)
  have rn := okv_R (okv_h o2)
  have rj := okv_R (okv_h (okv_t o2))
  have ri := okv_R (okv_h (okv_t (okv_t (okv_t o2))))
  have o9 := okv_t (okv_t (okv_t (okv_t (okv_t o2))))
  have hcx := at_i hkx (hd.1 x hxn)
  have hcy := at_i hky (hd.1 y hyn)
  have en := I_clamp h3 rn.2
  have ej := I_clamp h2 rj.2
  have ei := I_clamp h1 ri.2
  have nneg : ∀ z : Int, 0 ≤ z → inR z → ¬ Int32.ofInt z < 0 := fun z h0 hr h9 => by rw [Int32.lt_iff_toInt_lt, I_toInt hr] at h9; exact absurd h9 (by simpa using h0)
  have hcf' : 1 ≤ R.frames := hcf
  have hloc := ho.2.2.2.2.2.2.2.2.2.2.2.1.2.2
  have hnw : nativeFrameWords "java/lang/System" "arraycopy" 5 ≤ 20 := by decide
  rw [List.map_cons, List.map_cons, List.map_cons, List.map_cons, List.map_cons, nmv_ref (Int.natCast_nonneg x), nmv_ref (Int.natCast_nonneg y)]
  intro T hT Xs
  obtain ⟨-, k0, hk0, cm0, hkk0⟩ := (ho.2.2.2.2.2.2.2.2.1.2 0 _ rfl).1 N (fun z => .int (Int32.ofInt (gS G x z)))
  obtain ⟨-, k1, hk1, cm1, hkk1⟩ := (ho.2.2.2.2.2.2.2.2.1.2 0 _ rfl).1 M (fun z => .int (Int32.ofInt (gS G y z)))
  obtain ⟨vm', X', step⟩ := Xs.arraycopy ho.1 ho.2.2.2.1 (hts _ hlink) (hts _ m_1453) (hts _ m_1744) (hts _ m_702) (src := ad x) (dst := ad y) (cs := arrV (dT 0) N (fun z => .int (Int32.ofInt (gS G x z)))) (cd := arrV (dT 0) M (fun z => .int (Int32.ofInt (gS G y z)))) (srcPos := Int32.ofInt i) (destPos := Int32.ofInt j) (n := Int32.ofInt n) (by rw [hT]; exact hcx) (by rw [hT]; exact hcy)
    (fun _ h => by cases h) (fun _ h => by cases h) (fun h => by cases h) (fun h => by cases h) hk0 hk1 hkk0 hkk1 (by rfl) (nneg i h1 ri) (nneg j h2 rj) (nneg n h3 rn)
    (by rw [I_toInt ri, I_toInt rn, arrV_size]; omega)
    (by rw [I_toInt rj, I_toInt rn, arrV_size]; omega)
    (fun vm₁ _ z hz => by
      rw [en] at hz
      have e : (arrV (dT 0) N (fun z => .int (Int32.ofInt (gS G x z)))).slots.getD ((Int32.ofInt i).toNatClampNeg + z) .null = .int (Int32.ofInt (gS G x ((Int32.ofInt i).toNatClampNeg + z))) := by
        rw [Array.getD_eq_getD_getElem?, arrV_read _ _ (by rw [ei]; omega)]
        rfl
      refine ⟨?_, ?_⟩
      · rw [e]
        rfl
      · rw [e]
        exact trivial)
    (g := F0 m pc ls (.int (Int32.ofInt n) :: .int (Int32.ofInt j) :: .ref (ad y) :: .int (Int32.ofInt i) :: .ref (ad x) :: st.map (rv ad))) rfl (hl.1.trans ho.2.2.1.symm) (rest := st.map (rv ad)) rfl (by rw [ho.2.1]; exact hdg) hcf' (by show 2 * 0 + _ + _ ≤ _; rw [cat_sum]; omega)
  have e1 : copied (arrV (dT 0) N (fun z => .int (Int32.ofInt (gS G x z)))) (arrV (dT 0) M (fun z => .int (Int32.ofInt (gS G y z)))) (Int32.ofInt i) (Int32.ofInt j) (Int32.ofInt n) = arrV (dT 0) M (fun z => .int (Int32.ofInt (va_cpy (gS G x) (gS G y) i.toNat j.toNat n.toNat z))) := by
    show Cell.storeRun _ (Int32.ofInt j).toNatClampNeg (Cell.stretch _ (Int32.ofInt i).toNatClampNeg (Int32.ofInt n).toNatClampNeg) = _
    rw [ei, ej, en]
    exact va_copied (fun z : Int => .int (Int32.ofInt z)) (dT 0) (dT 0) (n0 := N) (n1 := M) (gS G x) (gS G y) (by omega)
  rw [e1] at X' step
  have hly : ad y < H.size := (Array.getElem?_eq_some_iff.mp hcy).1
  generalize hcell : arrV (dT 0) M (fun z => .int (Int32.ofInt (va_cpy (gS G x) (gS G y) i.toNat j.toNat n.toNat z))) = cell at X' step
  have hheap : ((T.setVm vm').setCell (ad y) cell).heap = H.setIfInBounds (ad y) cell := by rw [← hT]; rfl
  have oq : ∀ q : Nat, q ≠ ad y → (H.setIfInBounds (ad y) cell)[q]? = H[q]? := fun q hq => by simp [Array.getElem?_setIfInBounds, Ne.symm hq]
  have e9 : (H.setIfInBounds (ad y) cell)[ad y]? = some cell := by simp [Array.getElem?_setIfInBounds, hly]
  have z9 : (H.setIfInBounds (ad y) cell).size = H.size := by simp
  generalize hH1 : H.setIfInBounds (ad y) cell = H1 at *
  have hcv : ∀ z, va_cpy (gS G x) (gS G y) i.toNat j.toNat n.toNat z = gS (gcpy G x i.toNat y j.toNat n.toNat) y z := fun z => by
    rw [gcpy_at]
    rfl
  have hat : va_at D vwCl (ad y, lw_E dT ad (gcpy G x i.toNat y j.toNat n.toNat) y) H1 := by
    rw [lwE1 (G := gcpy G x i.toNat y j.toNat n.toNat) hky]
    show H1[ad y]? = some (arrV (dT 0) M (fun z => .int (Int32.ofInt (gS (gcpy G x i.toNat y j.toNat n.toNat) y z))))
    rw [e9, ← hcell]
    exact congrArg some (arrV_cg (fun z _ => by rw [hcv]))
  have hz : hsz H1 = hsz H := hsz_eq z9 (fun q => by
    by_cases hq : q = ad y
    · subst hq
      rw [e9, hcy, ← hcell]
      exact congrArg some ((arrV_size _ _ _).trans (arrV_size _ _ _).symm)
    · rw [oq q hq])
  have hd' := HD_cpy (i := i.toNat) (j := j.toNat) (n := n.toNat) hd hyn (fun z hz => by
    have h9 := hd.2.2.1 x (i.toNat + z) hxn (by rw [hkx]; show i.toNat + z < N; omega)
    rw [hkx] at h9
    rw [hky]
    exact h9) z9 oq hz hat
  have hs' : ∀ L : List Loc, (∀ z ∈ L, z.base = ad y) → va_S (AG base ad0 G0) s.heap H1 (locs ++ L) := fun L hL => ⟨by rw [z9]; exact hs.1, fun q g1 g2 => by
      rw [oq q (fun e => g2 (by rw [e]; exact he.in hyn))]
      exact hs.2.1 q g1 g2, fun q hq => by
      rcases List.mem_append.mp hq with h | h
      · exact hs.2.2 q h
      · rw [hL q h]
        exact he.in hyn⟩
  obtain ⟨L, hLb, Y⟩ : ∃ L : List Loc, (∀ z ∈ L, z.base = ad y) ∧ Stand p l e R s m args below meth c ((T.setVm vm').setCell (ad y) cell) (locs ++ L) (H.size - s.heap.size) (hsz H - hsz s.heap) := ⟨_, fun z hz => by obtain ⟨w, -, hw⟩ := List.mem_map.mp hz; rw [← hw], X'⟩
  rw [← hheap] at hd' hs'
  obtain ⟨t, a1, b1⟩ := kk ho ad _ _ ls hd' he (hs' L hLb) hl o1 o9 _ rfl (stand_exact Y)
  exact ⟨t, step t a1, b1⟩
theorem s_copyL {x y N M : Nat} {i j n : Int} {idx : Nat} (hdg : decode K.2.1 pc = .ok (.invokestatic idx, 3)) (hlink : Cond.methodLink K.1 idx arraycopyName ∈ WALL) (hkx : gK G x = (3, N)) (hky : gK G y = (3, M)) (h1 : 0 ≤ i) (h2 : 0 ≤ j) (h3 : 0 ≤ n) (h4 : i + n ≤ N) (h5 : j + n ≤ M) (hcf : 1 ≤ cf X) (hw : (st.map (fun v => if v.1 = 1 then 2 else 1)).sum ≤ 8)
    (kk : WP K X (pc + 3) lv st (gcpy G x i.toNat y j.toNat n.toNat)) : WP K X pc lv ((0, n) :: (0, j) :: (2, (y : Int)) :: (0, i) :: (2, (x : Int)) :: st) G := by
  obtain ⟨p, l, e, R, s, m, args, below, meth, c, D, dT, ad0, G0, Q, base, sbase⟩ := X
  intro ho ad H locs ls hd he hs hl o1 o2
  have hts := ho.2.2.2.2.1
  have hxn : (gK G x).1 ≠ 0 := kne hkx (by decide)
  have hyn : (gK G y).1 ≠ 0 := kne hky (by decide)
  have rn := okv_R (okv_h o2)
  have rj := okv_R (okv_h (okv_t o2))
  have ri := okv_R (okv_h (okv_t (okv_t (okv_t o2))))
  have o9 := okv_t (okv_t (okv_t (okv_t (okv_t o2))))
  have hcx := at_l hkx (hd.1 x hxn)
  have hcy := at_l hky (hd.1 y hyn)
  have en := I_clamp h3 rn.2
  have ej := I_clamp h2 rj.2
  have ei := I_clamp h1 ri.2
  have nneg : ∀ z : Int, 0 ≤ z → inR z → ¬ Int32.ofInt z < 0 := fun z h0 hr h9 => by rw [Int32.lt_iff_toInt_lt, I_toInt hr] at h9; exact absurd h9 (by simpa using h0)
  have hcf' : 1 ≤ R.frames := hcf
  have hloc := ho.2.2.2.2.2.2.2.2.2.2.2.1.2.2
  have hnw : nativeFrameWords "java/lang/System" "arraycopy" 5 ≤ 20 := by decide
  rw [List.map_cons, List.map_cons, List.map_cons, List.map_cons, List.map_cons, nmv_ref (Int.natCast_nonneg x), nmv_ref (Int.natCast_nonneg y)]
  intro T hT Xs
  obtain ⟨-, k0, hk0, cm0, hkk0⟩ := (ho.2.2.2.2.2.2.2.2.1.2 1 _ rfl).1 N (fun z => .long (Int64.ofInt (gS G x z)))
  obtain ⟨-, k1, hk1, cm1, hkk1⟩ := (ho.2.2.2.2.2.2.2.2.1.2 1 _ rfl).1 M (fun z => .long (Int64.ofInt (gS G y z)))
  obtain ⟨vm', X', step⟩ := Xs.arraycopy ho.1 ho.2.2.2.1 (hts _ hlink) (hts _ m_1453) (hts _ m_1744) (hts _ m_702) (src := ad x) (dst := ad y) (cs := arrV (dT 1) N (fun z => .long (Int64.ofInt (gS G x z)))) (cd := arrV (dT 1) M (fun z => .long (Int64.ofInt (gS G y z)))) (srcPos := Int32.ofInt i) (destPos := Int32.ofInt j) (n := Int32.ofInt n) (by rw [hT]; exact hcx) (by rw [hT]; exact hcy)
    (fun _ h => by cases h) (fun _ h => by cases h) (fun h => by cases h) (fun h => by cases h) hk0 hk1 hkk0 hkk1 (by rfl) (nneg i h1 ri) (nneg j h2 rj) (nneg n h3 rn)
    (by rw [I_toInt ri, I_toInt rn, arrV_size]; omega)
    (by rw [I_toInt rj, I_toInt rn, arrV_size]; omega)
    (fun vm₁ _ z hz => by
      rw [en] at hz
      have e : (arrV (dT 1) N (fun z => .long (Int64.ofInt (gS G x z)))).slots.getD ((Int32.ofInt i).toNatClampNeg + z) .null = .long (Int64.ofInt (gS G x ((Int32.ofInt i).toNatClampNeg + z))) := by
        rw [Array.getD_eq_getD_getElem?, arrV_read _ _ (by rw [ei]; omega)]
        rfl
      refine ⟨?_, ?_⟩
      · rw [e]
        rfl
      · rw [e]
        exact trivial)
    (g := F0 m pc ls (.int (Int32.ofInt n) :: .int (Int32.ofInt j) :: .ref (ad y) :: .int (Int32.ofInt i) :: .ref (ad x) :: st.map (rv ad))) rfl (hl.1.trans ho.2.2.1.symm) (rest := st.map (rv ad)) rfl (by rw [ho.2.1]; exact hdg) hcf' (by show 2 * 0 + _ + _ ≤ _; rw [cat_sum]; omega)
  have e1 : copied (arrV (dT 1) N (fun z => .long (Int64.ofInt (gS G x z)))) (arrV (dT 1) M (fun z => .long (Int64.ofInt (gS G y z)))) (Int32.ofInt i) (Int32.ofInt j) (Int32.ofInt n) = arrV (dT 1) M (fun z => .long (Int64.ofInt (va_cpy (gS G x) (gS G y) i.toNat j.toNat n.toNat z))) := by
    show Cell.storeRun _ (Int32.ofInt j).toNatClampNeg (Cell.stretch _ (Int32.ofInt i).toNatClampNeg (Int32.ofInt n).toNatClampNeg) = _
    rw [ei, ej, en]
    exact va_copied (fun z : Int => .long (Int64.ofInt z)) (dT 1) (dT 1) (n0 := N) (n1 := M) (gS G x) (gS G y) (by omega)
  rw [e1] at X' step
  have hly : ad y < H.size := (Array.getElem?_eq_some_iff.mp hcy).1
  generalize hcell : arrV (dT 1) M (fun z => .long (Int64.ofInt (va_cpy (gS G x) (gS G y) i.toNat j.toNat n.toNat z))) = cell at X' step
  have hheap : ((T.setVm vm').setCell (ad y) cell).heap = H.setIfInBounds (ad y) cell := by rw [← hT]; rfl
  have oq : ∀ q : Nat, q ≠ ad y → (H.setIfInBounds (ad y) cell)[q]? = H[q]? := fun q hq => by simp [Array.getElem?_setIfInBounds, Ne.symm hq]
  have e9 : (H.setIfInBounds (ad y) cell)[ad y]? = some cell := by simp [Array.getElem?_setIfInBounds, hly]
  have z9 : (H.setIfInBounds (ad y) cell).size = H.size := by simp
  generalize hH1 : H.setIfInBounds (ad y) cell = H1 at *
  have hcv : ∀ z, va_cpy (gS G x) (gS G y) i.toNat j.toNat n.toNat z = gS (gcpy G x i.toNat y j.toNat n.toNat) y z := fun z => by
    rw [gcpy_at]
    rfl
  have hat : va_at D vwCl (ad y, lw_E dT ad (gcpy G x i.toNat y j.toNat n.toNat) y) H1 := by
    rw [lwE3 (G := gcpy G x i.toNat y j.toNat n.toNat) hky]
    show H1[ad y]? = some (arrV (dT 1) M (fun z => .long (Int64.ofInt (gS (gcpy G x i.toNat y j.toNat n.toNat) y z))))
    rw [e9, ← hcell]
    exact congrArg some (arrV_cg (fun z _ => by rw [hcv]))
  have hz : hsz H1 = hsz H := hsz_eq z9 (fun q => by
    by_cases hq : q = ad y
    · subst hq
      rw [e9, hcy, ← hcell]
      exact congrArg some ((arrV_size _ _ _).trans (arrV_size _ _ _).symm)
    · rw [oq q hq])
  have hd' := HD_cpy (i := i.toNat) (j := j.toNat) (n := n.toNat) hd hyn (fun z hz => by
    have h9 := hd.2.2.1 x (i.toNat + z) hxn (by rw [hkx]; show i.toNat + z < N; omega)
    rw [hkx] at h9
    rw [hky]
    exact h9) z9 oq hz hat
  have hs' : ∀ L : List Loc, (∀ z ∈ L, z.base = ad y) → va_S (AG base ad0 G0) s.heap H1 (locs ++ L) := fun L hL => ⟨by rw [z9]; exact hs.1, fun q g1 g2 => by
      rw [oq q (fun e => g2 (by rw [e]; exact he.in hyn))]
      exact hs.2.1 q g1 g2, fun q hq => by
      rcases List.mem_append.mp hq with h | h
      · exact hs.2.2 q h
      · rw [hL q h]
        exact he.in hyn⟩
  obtain ⟨L, hLb, Y⟩ : ∃ L : List Loc, (∀ z ∈ L, z.base = ad y) ∧ Stand p l e R s m args below meth c ((T.setVm vm').setCell (ad y) cell) (locs ++ L) (H.size - s.heap.size) (hsz H - hsz s.heap) := ⟨_, fun z hz => by obtain ⟨w, -, hw⟩ := List.mem_map.mp hz; rw [← hw], X'⟩
  rw [← hheap] at hd' hs'
  obtain ⟨t, a1, b1⟩ := kk ho ad _ _ ls hd' he (hs' L hLb) hl o1 o9 _ rfl (stand_exact Y)
  exact ⟨t, step t a1, b1⟩
end QROWS
