/-! CONTRACTS: what a method is asked and answers, in the logical world -/
abbrev RS : Type := Option LV ⊕ String
/-- a contract: of arguments, a world, and what is wanted of the outcome: that this holds of every outcome -/
abbrev TR : Type := List LV → LG → (RS → LG → Prop) → Prop
def QcG (dT : Nat → ClassId) (D : va_G) (base sbase : Nat) (ad : Nat → Nat) (G : LG) (Qr : RS → LG → Prop) : Array Value → State → Outcome → State → Prop := fun _ st o t =>
  (∃ (r : Option LV) (G' : LG) (ad' : Nat → Nat), o = .returned (r.map (rv ad')) ∧ Qr (.inl r) G' ∧ (∀ v, r = some v → okv G' v) ∧ Ext base ad G ad' G' ∧ HD dT D base sbase ad' G' t.heap) ∧ va_F (AG base ad G) st t
def XcG (dT : Nat → ClassId) (D : va_G) (base sbase : Nat) (ad : Nat → Nat) (G : LG) (Qr : RS → LG → Prop) : String → State → State → Prop := fun E st t =>
  (∃ (G' : LG) (ad' : Nat → Nat), Qr (.inr E) G' ∧ Ext base ad G ad' G' ∧ HD dT D base sbase ad' G' t.heap) ∧ va_F (AG base ad G) st t
def PcG (dT : Nat → ClassId) (D : va_G) (base sbase : Nat) (ad : Nat → Nat) (G : LG) (U : State) : Prop := HD dT D base sbase ad G U.heap ∧ va_K D vwCl (tysW dT) U ∧ EM base ad G U
def wsK (K : KD) (y : MethodName) : List Cond := .code y K.2.1 K.2.2.1 K.2.2.2.1 :: WALL
def wsW (K : KD) (y : MethodName) : List Cond := .codeWith y K.2.1 K.2.2.1 K.2.2.2.1 K.2.2.2.2 :: WALL
def rmF (f : Nat) (G : LG) : Room := { frames := f, cells := 601024 - gc G, slots := 7293034 - gs G, locals := 41 * f }
def GoodW (ws : List Cond) (y : MethodName) (f : Nat) (T : TR) : Prop := ∀ (l : Launch), l.flags = flags0 → ∀ (dT : Nat → ClassId) (D : va_G) (base sbase : Nat) (as : List LV) (G : LG) (Qr : RS → LG → Prop), T as G Qr → (∀ v ∈ as, okv G v) → ∀ ad : Nat → Nat,
  vx_Met l y ws (rmF f G) (va_Pc (as.map (rv ad)) (PcG dT D base sbase ad G)) (QcG dT D base sbase ad G Qr) (XcG dT D base sbase ad G Qr) (601024 - gc G) (7293034 - gs G) (AG base ad G)
/-- the method y keeps its contract, with f frames at most above it -/
def Good (K : KD) (y : MethodName) (f : Nat) (T : TR) : Prop := GoodW (wsK K y) y f T
/-- .. one with handlers -/
def GoodH (K : KD) (y : MethodName) (f : Nat) (T : TR) : Prop := GoodW (wsW K y) y f T
/-- the walk's end is that of a contract -/
def RetX (X : CX) (Qr : RS → LG → Prop) : Prop := match X with
  | (_, _, _, _, s, _, args, below, _, _, D, dT, ad0, G0, Q, base, sbase) => Q = vx_MQ below (QcG dT D base sbase ad0 G0 Qr) (XcG dT D base sbase ad0 G0 Qr) args s (601024 - gc G0) (7293034 - gs G0) (AG base ad0 G0)
def lv_as : List LV → List (Option LV)
  | [] => []
  | v :: t => if v.1 = 1 then some v :: none :: lv_as t else some v :: lv_as t
theorem lv_as_args {ad : Nat → Nat} : ∀ (as : List LV) (i k : Nat) (v : LV) (n : Nat), (lv_as as ++ List.replicate n none)[k]? = some (some v) → (i + k, rv ad v) ∈ lv_args i (as.map (rv ad)) := by
  intro as
  induction as with
  | nil =>
    intro i k v n h
    rw [show lv_as [] = [] from rfl, List.nil_append, List.getElem?_replicate] at h
    split at h <;> cases h
  | cons w t ih =>
    intro i k v n h
    show _ ∈ (i, rv ad w) :: lv_args _ _
    by_cases hw : w.1 = 1
    · rw [if_pos ((rv_cat w).mpr hw)]
      simp only [lv_as, if_pos hw] at h
      match k, h with
      | 0, h => cases h; exact List.mem_cons_self
      | 1, h => cases h
      | k + 2, h =>
        have h9 := ih (i + 2) k v n h
        rw [show i + (k + 2) = i + 2 + k by omega]
        exact List.mem_cons_of_mem _ h9
    · rw [if_neg (fun q => hw ((rv_cat w).mp q))]
      simp only [lv_as, if_neg hw] at h
      match k, h with
      | 0, h => cases h; exact List.mem_cons_self
      | k + 1, h =>
        have h9 := ih (i + 1) k v n h
        rw [show i + (k + 1) = i + 1 + k by omega]
        exact List.mem_cons_of_mem _ h9
theorem lv_as_sl {ad : Nat → Nat} : ∀ as : List LV, (lg_sl (as.map (rv ad))).length = (lv_as as).length := by
  intro as
  induction as with
  | nil => rfl
  | cons v t ih =>
    have e : lg_sl ((v :: t).map (rv ad)) = (if (rv ad v).category = 2 then [Slot.val (rv ad v), .second] else [Slot.val (rv ad v)]) ++ lg_sl (t.map (rv ad)) := rfl
    rw [e, List.length_append, ih]
    by_cases hv : v.1 = 1
    · rw [if_pos ((rv_cat v).mpr hv)]
      simp [lv_as, hv]
      omega
    · rw [if_neg (fun q => hv ((rv_cat v).mp q))]
      simp [lv_as, hv]
      omega
theorem lv_as_ok {G : LG} : ∀ (as : List LV) (n : Nat), (∀ v ∈ as, okv G v) → ∀ v, some v ∈ lv_as as ++ List.replicate n none → okv G v := by
  intro as
  induction as with
  | nil =>
    intro n _ v h
    rw [show lv_as [] = [] from rfl, List.nil_append] at h
    cases List.eq_of_mem_replicate h
  | cons w t ih =>
    intro n hv v h
    have h9 : some v ∈ some w :: (lv_as t ++ List.replicate n none) ∨ some v ∈ some w :: none :: (lv_as t ++ List.replicate n none) := by
      by_cases hw : w.1 = 1
      · exact Or.inr (by simpa [lv_as, hw] using h)
      · exact Or.inl (by simpa [lv_as, hw] using h)
    have h8 : v = w ∨ some v ∈ lv_as t ++ List.replicate n none := by
      rcases h9 with h9 | h9
      · rcases List.mem_cons.mp h9 with h | h
        · exact Or.inl (Option.some.inj h)
        · exact Or.inr h
      · rcases List.mem_cons.mp h9 with h | h
        · exact Or.inl (Option.some.inj h)
        · rcases List.mem_cons.mp h with h | h
          · cases h
          · exact Or.inr h
    rcases h8 with rfl | h8
    · exact hv v List.mem_cons_self
    · exact ih n (fun w hw => hv w (List.mem_cons_of_mem _ hw)) v h8
theorem entry_of {K : KD} {X : CX} {as : List LV} (hlen : (lv_as as).length ≤ K.2.2.1) : WP K X 0 (lv_as as ++ List.replicate (K.2.2.1 - (lv_as as).length) none) [] X.2.2.2.2.2.2.2.2.2.2.2.2.2.1 → okX K X → X.2.2.2.2.2.2.1 = (as.map (rv X.2.2.2.2.2.2.2.2.2.2.2.2.1)).toArray → (∀ v ∈ as, okv X.2.2.2.2.2.2.2.2.2.2.2.2.2.1 v) → HD X.2.2.2.2.2.2.2.2.2.2.2.1 X.2.2.2.2.2.2.2.2.2.2.1 X.2.2.2.2.2.2.2.2.2.2.2.2.2.2.2.1 X.2.2.2.2.2.2.2.2.2.2.2.2.2.2.2.2 X.2.2.2.2.2.2.2.2.2.2.2.2.1 X.2.2.2.2.2.2.2.2.2.2.2.2.2.1 X.2.2.2.2.1.heap →
    W X.1 X.2.1 X.2.2.1 X.2.2.2.1 X.2.2.2.2.1 X.2.2.2.2.2.1 X.2.2.2.2.2.2.1 X.2.2.2.2.2.2.2.1 X.2.2.2.2.2.2.2.2.1 X.2.2.2.2.2.2.2.2.2.1 X.2.2.2.2.1.heap [] 0 0 X.2.2.2.2.2.2.2.2.2.2.2.2.2.2.1 (entryFrame X.2.2.2.2.2.1 X.2.2.2.2.2.2.1 K.2.2.1) := by
  obtain ⟨p, l, e, R, s, m, args, below, meth, c, D, dT, ad0, G0, Q, base, sbase⟩ := X
  intro k ho ha oa hd
  dsimp only at ha hd oa ⊢
  subst ha
  rw [lg_entry_eq]
  have hle : (lg_sl (as.map (rv ad0))).length ≤ K.2.2.1 := by rw [lv_as_sl]; exact hlen
  have hl := lv_entry (as.map (rv ad0)) (n := K.2.2.1) hle
  have hl' : lv_is ad0 ((lg_sl (as.map (rv ad0)) ++ List.replicate (K.2.2.1 - (lg_sl (as.map (rv ad0))).length) Slot.unset).toArray) K.2.2.1 (lv_as as ++ List.replicate (K.2.2.1 - (lv_as as).length) none) := by
    refine ⟨hl.1, hl.2.1, fun k v hk => ?_⟩
    have h9 := lv_as_args (ad := ad0) as 0 k v _ hk
    rw [Nat.zero_add] at h9
    exact hl.2.2 _ h9
  have k9 := k ho ad0 s.heap [] _ hd Ext.rf va_S.rf hl' (lv_as_ok as _ oa) (fun v h => by cases h)
  rw [Nat.sub_self, Nat.sub_self] at k9
  exact k9
theorem good_of {K : KD} {y : MethodName} {f : Nat} {T : TR} (hy : plainName y.cls = true) (hh : K.2.2.2.2 = []) (hc : K.1 = y.cls) (hlen : ∀ as G Qr, T as G Qr → (lv_as as).length ≤ K.2.2.1)
    (h : ∀ (X : CX) (as : List LV) (G : LG) (Qr : RS → LG → Prop), cf X = f → RetX X Qr → T as G Qr → (∀ v ∈ as, okv G v) → WP K X 0 (lv_as as ++ List.replicate (K.2.2.1 - (lv_as as).length) none) [] G) : Good K y f T := by
  intro l hfl dT D base sbase as G Qr hT oa ad
  refine vx_ofW (cc := K.2.1) (maxL := K.2.2.1) (ret := K.2.2.2.1) hy rfl ?_
  intro p e s m args below meth c s₁ B hml hnt hv
  obtain ⟨ha, hd, hK, hE⟩ := hv
  have hts : ∀ w ∈ wsK K y, w.before args s = true := atoms_spec (ws := wsK K y) B.pre
  have hown : s.vm.findClass K.1 = some m.cls := by rw [hc]; exact findClass_of_methodNamed B.named
  have h0 : c.exceptionTable.toList = tableOf K.2.2.2.2 := by
    rw [hh]
    exact List.eq_nil_iff_forall_not_mem.mpr (fun x hx => hnt x hx)
  have hg1 := hd.2.2.2.2.2.1
  have hg2 := hd.2.2.2.2.2.2
  have ho : okX K (p, l, e, (headSpec (wsK K y) (rmF f G)).room, s, m, args, below, meth, c, D, dT, ad, G, vx_MQ below (QcG dT D base sbase ad G Qr) (XcG dT D base sbase ad G Qr) args s (601024 - gc G) (7293034 - gs G) (AG base ad G), base, sbase) :=
    ⟨B.exec, B.bytes, hml, hown, fun w hw => hts w (List.mem_cons_of_mem _ hw), B.notSynchronized, B.returns, h0, hK, hE, hfl, ⟨by show 601024 - gc G + gc G = _; omega, by show 7293034 - gs G + gs G = _; omega, rfl⟩, hd.2.2.2.1, hd.2.2.2.2.1⟩
  exact entry_of (K := K) (X := (p, l, e, (headSpec (wsK K y) (rmF f G)).room, s, m, args, below, meth, c, D, dT, ad, G, vx_MQ below (QcG dT D base sbase ad G Qr) (XcG dT D base sbase ad G Qr) args s (601024 - gc G) (7293034 - gs G) (AG base ad G), base, sbase)) (hlen as G Qr hT) (h _ as G Qr rfl rfl hT oa) ho ha oa hd
theorem goodH_of {K : KD} {y : MethodName} {f : Nat} {T : TR} (hy : plainName y.cls = true) (hc : K.1 = y.cls) (hlen : ∀ as G Qr, T as G Qr → (lv_as as).length ≤ K.2.2.1)
    (h : ∀ (X : CX) (as : List LV) (G : LG) (Qr : RS → LG → Prop), cf X = f → RetX X Qr → T as G Qr → (∀ v ∈ as, okv G v) → WP K X 0 (lv_as as ++ List.replicate (K.2.2.1 - (lv_as as).length) none) [] G) : GoodH K y f T := by
  intro l hfl dT D base sbase as G Qr hT oa ad
  refine vx_ofWH (cc := K.2.1) (maxL := K.2.2.1) (ret := K.2.2.2.1) (hh := K.2.2.2.2) hy rfl ?_
  intro p e s m args below meth c s₁ B hml hv
  obtain ⟨ha, hd, hK, hE⟩ := hv
  have hts : ∀ w ∈ wsW K y, w.before args s = true := atoms_spec (ws := wsW K y) B.pre
  have hown : s.vm.findClass K.1 = some m.cls := by rw [hc]; exact findClass_of_methodNamed B.named
  have h0 : c.exceptionTable.toList = tableOf K.2.2.2.2 := vx_table (x := y) B (hts _ List.mem_cons_self)
  have hg1 := hd.2.2.2.2.2.1
  have hg2 := hd.2.2.2.2.2.2
  have ho : okX K (p, l, e, (headSpec (wsW K y) (rmF f G)).room, s, m, args, below, meth, c, D, dT, ad, G, vx_MQ below (QcG dT D base sbase ad G Qr) (XcG dT D base sbase ad G Qr) args s (601024 - gc G) (7293034 - gs G) (AG base ad G), base, sbase) :=
    ⟨B.exec, B.bytes, hml, hown, fun w hw => hts w (List.mem_cons_of_mem _ hw), B.notSynchronized, B.returns, h0, hK, hE, hfl, ⟨by show 601024 - gc G + gc G = _; omega, by show 7293034 - gs G + gs G = _; omega, rfl⟩, hd.2.2.2.1, hd.2.2.2.2.1⟩
  exact entry_of (K := K) (X := (p, l, e, (headSpec (wsW K y) (rmF f G)).room, s, m, args, below, meth, c, D, dT, ad, G, vx_MQ below (QcG dT D base sbase ad G Qr) (XcG dT D base sbase ad G Qr) args s (601024 - gc G) (7293034 - gs G) (AG base ad G), base, sbase)) (hlen as G Qr hT) (h _ as G Qr rfl rfl hT oa) ho ha oa hd
section ENDS
variable {K : KD} {X : CX} {pc : Nat} {lv lv' : List (Option LV)} {st : List LV} {G : LG} {Qr : RS → LG → Prop}
theorem s_iret {v : Int} (hR : RetX X Qr) (hdg : decode K.2.1 pc = .ok (.ireturn, 1)) (hr : K.2.2.2.1 = some .int) (hq : Qr (.inl (some (0, v))) G) : WP K X pc lv [(0, v)] G := by
  obtain ⟨p, l, e, R, s, m, args, below, meth, c, D, dT, ad0, G0, Q, base, sbase⟩ := X
  intro ho ad H locs ls hd he hs hl o1 o2
  have hR' : Q = _ := hR
  rw [hR']
  have z1 := hd.2.2.2.1
  have z2 := hd.2.2.2.2.1
  have z3 := hd.2.2.2.2.2.1
  have z4 := hd.2.2.2.2.2.2
  have z5 := ho.2.2.2.2.2.2.2.2.2.2.2.2.1
  have z6 := ho.2.2.2.2.2.2.2.2.2.2.2.2.2
  refine vx_ret (W.widen (k := 601024 - gc G0) (n := 7293034 - gs G0) (by omega) (by omega) ?_)
  exact W.iret ho.1 ho.2.1 (ho.2.2.2.2.2.2.1.trans hr) (fun t ht hW => ⟨⟨some (0, v), G, ad, rfl, hq, (fun w hw => by cases hw; exact okv_h o2), he, by rw [ht]; exact hd⟩, hs.F ht⟩) hs.2.2 hdg ho.2.2.2.2.2.1
theorem s_zret {v : Int} (hR : RetX X Qr) (hdg : decode K.2.1 pc = .ok (.ireturn, 1)) (hr : K.2.2.2.1 = some .boolean) (hv : v = 0 ∨ v = 1) (hq : Qr (.inl (some (0, v))) G) : WP K X pc lv [(0, v)] G := by
  obtain ⟨p, l, e, R, s, m, args, below, meth, c, D, dT, ad0, G0, Q, base, sbase⟩ := X
  intro ho ad H locs ls hd he hs hl o1 o2
  have hR' : Q = _ := hR
  rw [hR']
  have z1 := hd.2.2.2.1
  have z2 := hd.2.2.2.2.1
  have z3 := hd.2.2.2.2.2.1
  have z4 := hd.2.2.2.2.2.2
  have z5 := ho.2.2.2.2.2.2.2.2.2.2.2.2.1
  have z6 := ho.2.2.2.2.2.2.2.2.2.2.2.2.2
  refine vx_ret (W.widen (k := 601024 - gc G0) (n := 7293034 - gs G0) (by omega) (by omega) ?_)
  exact W.zret (ty := .boolean) ho.1 ho.2.1 (ho.2.2.2.2.2.2.1.trans hr) (by rcases hv with rfl | rfl <;> rfl) (fun t ht hW => ⟨⟨some (0, v), G, ad, rfl, hq, (fun w hw => by cases hw; exact okv_h o2), he, by rw [ht]; exact hd⟩, hs.F ht⟩) hs.2.2 hdg ho.2.2.2.2.2.1
theorem s_lret {v : Int} (hR : RetX X Qr) (hdg : decode K.2.1 pc = .ok (.lreturn, 1)) (hr : K.2.2.2.1 = some .long) (hq : Qr (.inl (some (1, v))) G) : WP K X pc lv [(1, v)] G := by
  obtain ⟨p, l, e, R, s, m, args, below, meth, c, D, dT, ad0, G0, Q, base, sbase⟩ := X
  intro ho ad H locs ls hd he hs hl o1 o2
  have hR' : Q = _ := hR
  rw [hR']
  have z1 := hd.2.2.2.1
  have z2 := hd.2.2.2.2.1
  have z3 := hd.2.2.2.2.2.1
  have z4 := hd.2.2.2.2.2.2
  have z5 := ho.2.2.2.2.2.2.2.2.2.2.2.2.1
  have z6 := ho.2.2.2.2.2.2.2.2.2.2.2.2.2
  refine vx_ret (W.widen (k := 601024 - gc G0) (n := 7293034 - gs G0) (by omega) (by omega) ?_)
  exact W.lret ho.1 ho.2.1 (ho.2.2.2.2.2.2.1.trans hr) (fun t ht hW => ⟨⟨some (1, v), G, ad, rfl, hq, (fun w hw => by cases hw; exact okv_h o2), he, by rw [ht]; exact hd⟩, hs.F ht⟩) hs.2.2 hdg ho.2.2.2.2.2.1
theorem s_aret {v : Int} (hR : RetX X Qr) (hdg : decode K.2.1 pc = .ok (.areturn, 1)) {rt : FieldType} (hr : K.2.2.2.1 = some rt) (hrt : (∃ n, rt = .object n) ∨ ∃ t, rt = .array t) (hq : Qr (.inl (some (2, v))) G) : WP K X pc lv [(2, v)] G := by
  obtain ⟨p, l, e, R, s, m, args, below, meth, c, D, dT, ad0, G0, Q, base, sbase⟩ := X
  intro ho ad H locs ls hd he hs hl o1 o2
  have hR' : Q = _ := hR
  rw [hR']
  have z1 := hd.2.2.2.1
  have z2 := hd.2.2.2.2.1
  have z3 := hd.2.2.2.2.2.1
  have z4 := hd.2.2.2.2.2.2
  have z5 := ho.2.2.2.2.2.2.2.2.2.2.2.2.1
  have z6 := ho.2.2.2.2.2.2.2.2.2.2.2.2.2
  refine vx_ret (W.widen (k := 601024 - gc G0) (n := 7293034 - gs G0) (by omega) (by omega) ?_)
  exact W.aret ho.1 ho.2.1 (ho.2.2.2.2.2.2.1.trans hr) hrt (by show va_rf (nmv ad v) = _ ∨ ∃ a, va_rf (nmv ad v) = _; unfold nmv; by_cases hv : v < 0; (rw [if_pos hv]; exact Or.inl rfl); (rw [if_neg hv]; exact Or.inr ⟨_, rfl⟩)) (fun t ht hW => ⟨⟨some (2, v), G, ad, rfl, hq, (fun w hw => by cases hw; exact okv_h o2), he, by rw [ht]; exact hd⟩, hs.F ht⟩) hs.2.2 hdg ho.2.2.2.2.2.1
theorem s_vret (hR : RetX X Qr) (hdg : decode K.2.1 pc = .ok (.return_, 1)) (hr : K.2.2.2.1 = none) (hq : Qr (.inl none) G) : WP K X pc lv [] G := by
  obtain ⟨p, l, e, R, s, m, args, below, meth, c, D, dT, ad0, G0, Q, base, sbase⟩ := X
  intro ho ad H locs ls hd he hs hl o1 o2
  have hR' : Q = _ := hR
  rw [hR']
  have z1 := hd.2.2.2.1
  have z2 := hd.2.2.2.2.1
  have z3 := hd.2.2.2.2.2.1
  have z4 := hd.2.2.2.2.2.2
  have z5 := ho.2.2.2.2.2.2.2.2.2.2.2.2.1
  have z6 := ho.2.2.2.2.2.2.2.2.2.2.2.2.2
  refine vx_ret (W.widen (k := 601024 - gc G0) (n := 7293034 - gs G0) (by omega) (by omega) ?_)
  exact W.vret ho.1 ho.2.1 (ho.2.2.2.2.2.2.1.trans hr) (fun t ht hW => ⟨⟨none, G, ad, rfl, hq, (fun w hw => by cases hw), he, by rw [ht]; exact hd⟩, hs.F ht⟩) hs.2.2 hdg ho.2.2.2.2.2.1
end ENDS

