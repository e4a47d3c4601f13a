/-! THE LOGICAL WORLD: cells bear names of my own (numbers), all that they hold are whole numbers: an int, a long, the name of a cell (below 0: null). -/
/-- (0, k) an int, (1, k) a long, (2, n) the cell n -/
abbrev LV : Type := Nat × Int
/-- what the cells hold; their kinds (0 none, 1 int[], 2 boolean[], 3 long[], 4 int[][], 5 Version[], 6 Node[], 7 Object[], 8 + c an object of class c) and lengths; how many cells and slots have been made -/
abbrev LG : Type := (Nat → Nat → Int) × (Nat → Nat × Nat) × Nat × Nat
abbrev gS (G : LG) : Nat → Nat → Int := G.1
abbrev gK (G : LG) : Nat → Nat × Nat := G.2.1
abbrev gc (G : LG) : Nat := G.2.2.1
abbrev gs (G : LG) : Nat := G.2.2.2
def nmv (ad : Nat → Nat) (v : Int) : Option Nat := if v < 0 then none else some (ad v.toNat)
def rv (ad : Nat → Nat) (v : LV) : Value := match v.1 with
  | 0 => .int (Int32.ofInt v.2)
  | 1 => .long (Int64.ofInt v.2)
  | _ => va_rf (nmv ad v.2)
def lw_ty : Nat → Nat → FieldType := fun c => match c with
  | 0 => tyJx4a65c
  | 1 => tyX0
  | 2 => tyX1
  | 3 => tyX2
  | 4 => tyX3
  | 5 => tyX4
  | 6 => tyX5
  | 7 => tyX6
  | 8 => tyX7
  | 9 => tyX8
  | 10 => tyX9
  | 11 => tyX10
  | 12 => tyX11
  | _ => tyX12
def lw_num : Nat → Nat := fun c => match c with
  | 0 => 3
  | 1 => 7
  | 2 => 5
  | 3 => 8
  | 4 => 18
  | 5 => 14
  | 6 => 18
  | 7 => 2
  | 8 => 3
  | 9 => 5
  | 10 => 5
  | 11 => 4
  | 12 => 6
  | _ => 109
def lw_sc (t : FieldType) : Nat := match t with
  | .long => 1
  | .object _ => 2
  | .array _ => 2
  | _ => 0
/-- the type of a slot: of an object's field, or of an array's elements -/
def lw_st (k j : Nat) : Nat := match k with
  | 0 => 0
  | 1 => 0
  | 2 => 0
  | 3 => 1
  | 4 => 2
  | 5 => 2
  | 6 => 2
  | 7 => 2
  | c + 8 => lw_sc (lw_ty c j)
def lw_len (k : Nat × Nat) : Nat := match k.1 with
  | c + 8 => lw_num c
  | _ => k.2
def lw_E (dT : Nat → ClassId) (ad : Nat → Nat) (G : LG) (n : Nat) : va_E := match (gK G n).1 with
  | 0 => .inl (dT 0, (gK G n).2, .inl (fun j => Int32.ofInt (gS G n j)))
  | 1 => .inl (dT 0, (gK G n).2, .inl (fun j => Int32.ofInt (gS G n j)))
  | 2 => .inl (dT 2, (gK G n).2, .inl (fun j => Int32.ofInt (gS G n j)))
  | 3 => .inl (dT 1, (gK G n).2, .inr (.inl (fun j => Int64.ofInt (gS G n j))))
  | 4 => .inl (dT 3, (gK G n).2, .inr (.inr (.inr (.inr (fun j => nmv ad (gS G n j))))))
  | 5 => .inl (dT 4, (gK G n).2, .inr (.inr (.inr (.inr (fun j => nmv ad (gS G n j))))))
  | 6 => .inl (dT 5, (gK G n).2, .inr (.inr (.inr (.inr (fun j => nmv ad (gS G n j))))))
  | 7 => .inl (dT 6, (gK G n).2, .inr (.inr (.inr (.inr (fun j => nmv ad (gS G n j))))))
  | c + 8 => .inr (c, (List.range (lw_num c)).map (fun j => rv ad (lw_sc (lw_ty c j), gS G n j)))
/-- how many slots a heap has -/
def hsz (H : Heap) : Nat := (H.toList.map (fun c => c.slots.size)).sum
/-- an int, a long of the machine -/
abbrev inR (k : Int) : Prop := -2147483648 ≤ k ∧ k ≤ 2147483647
abbrev inL (k : Int) : Prop := -9223372036854775808 ≤ k ∧ k ≤ 9223372036854775807
/-- a value as the machine can have it: a reference is null or the name of a cell that is there -/
def okv (G : LG) (v : LV) : Prop := (v.1 = 0 → inR v.2) ∧ (v.1 = 1 → inL v.2) ∧ (2 ≤ v.1 → 0 ≤ v.2 → (gK G v.2.toNat).1 ≠ 0)
/-- the heap H is the logical world G, its cell n at ad n -/
def HD (dT : Nat → ClassId) (D : va_G) (base sbase : Nat) (ad : Nat → Nat) (G : LG) (H : Heap) : Prop :=
  (∀ n, (gK G n).1 ≠ 0 → va_at D vwCl (ad n, lw_E dT ad G n) H) ∧
  (∀ n m, (gK G n).1 ≠ 0 → (gK G m).1 ≠ 0 → ad n = ad m → n = m) ∧
  (∀ n j, (gK G n).1 ≠ 0 → j < lw_len (gK G n) → okv G (lw_st (gK G n).1 j, gS G n j)) ∧
  H.size = base + gc G ∧ hsz H = sbase + gs G ∧ gc G ≤ 601024 ∧ gs G ≤ 7293034
/-- the cells of a world, and what is made behind it -/
def AG (base : Nat) (ad : Nat → Nat) (G : LG) : Nat → Prop := fun q => (∃ n, (gK G n).1 ≠ 0 ∧ q = ad n) ∨ base + gc G ≤ q
/-- one world has come out of another: what was there is there, new cells lie behind -/
def Ext (base : Nat) (ad : Nat → Nat) (G : LG) (ad' : Nat → Nat) (G' : LG) : Prop :=
  (∀ n, (gK G n).1 ≠ 0 → gK G' n = gK G n ∧ ad' n = ad n) ∧ (∀ n, (gK G n).1 = 0 → (gK G' n).1 ≠ 0 → base + gc G ≤ ad' n) ∧ gc G ≤ gc G' ∧ gs G ≤ gs G'
theorem Ext.rf {base : Nat} {ad : Nat → Nat} {G : LG} : Ext base ad G ad G := ⟨fun _ _ => ⟨rfl, rfl⟩, fun _ h h1 => absurd h h1, Nat.le_refl _, Nat.le_refl _⟩
theorem Ext.trans {base : Nat} {a0 a1 a2 : Nat → Nat} {G0 G1 G2 : LG} (h : Ext base a0 G0 a1 G1) (k : Ext base a1 G1 a2 G2) : Ext base a0 G0 a2 G2 := by
  refine ⟨fun n hn => ?_, fun n hn h2 => ?_, Nat.le_trans h.2.2.1 k.2.2.1, Nat.le_trans h.2.2.2 k.2.2.2⟩
  · obtain ⟨e1, e2⟩ := h.1 n hn
    obtain ⟨e3, e4⟩ := k.1 n (by rw [e1]; exact hn)
    exact ⟨e3.trans e1, e4.trans e2⟩
  · by_cases h1 : (gK G1 n).1 = 0
    · exact Nat.le_trans (Nat.add_le_add_left h.2.2.1 _) (k.2.1 n h1 h2)
    · rw [(k.1 n h1).2]
      exact h.2.1 n hn h1
theorem Ext.ag {base : Nat} {a0 a1 : Nat → Nat} {G0 G1 : LG} (h : Ext base a0 G0 a1 G1) : ∀ q, AG base a1 G1 q → AG base a0 G0 q := by
  intro q hq
  rcases hq with ⟨n, hn, e⟩ | hq
  · by_cases h0 : (gK G0 n).1 = 0
    · exact Or.inr (by rw [e]; exact h.2.1 n h0 hn)
    · exact Or.inl ⟨n, h0, by rw [e]; exact (h.1 n h0).2⟩
  · exact Or.inr (Nat.le_trans (Nat.add_le_add_left h.2.2.1 _) hq)
theorem Ext.in {base : Nat} {a0 a1 : Nat → Nat} {G0 G1 : LG} (h : Ext base a0 G0 a1 G1) {n : Nat} (hn : (gK G1 n).1 ≠ 0) : AG base a0 G0 (a1 n) := h.ag _ (Or.inl ⟨n, hn, rfl⟩)
theorem Ext.okE {base : Nat} {a0 a1 : Nat → Nat} {G0 G1 : LG} (h : Ext base a0 G0 a1 G1) {v : LV} (hv : okv G0 v) : okv G1 v := ⟨hv.1, hv.2.1, fun h1 h2 => by rw [(h.1 _ (hv.2.2 h1 h2)).1]; exact hv.2.2 h1 h2⟩
theorem Ext.rvE {base : Nat} {a0 a1 : Nat → Nat} {G0 G1 : LG} (h : Ext base a0 G0 a1 G1) {v : LV} (hv : okv G0 v) : rv a1 v = rv a0 v := by
  obtain ⟨t, k⟩ := v
  match t, hv with
  | 0, _ => rfl
  | 1, _ => rfl
  | t + 2, hv =>
    show va_rf (nmv a1 k) = va_rf (nmv a0 k)
    unfold nmv
    by_cases hk : k < 0
    · rw [if_pos hk, if_pos hk]
    · rw [if_neg hk, if_neg hk, (h.1 _ (hv.2.2 (Nat.le_add_left 2 t) (Int.not_lt.mp hk))).2]
theorem Ext.rvsE {base : Nat} {a0 a1 : Nat → Nat} {G0 G1 : LG} (h : Ext base a0 G0 a1 G1) {st : List LV} (hv : ∀ v ∈ st, okv G0 v) : st.map (rv a1) = st.map (rv a0) := List.map_congr_left (fun v hm => h.rvE (hv v hm))
/-- .. and what a list reads: the empty array (the cell 510), rows of Objects, the classes' own objects -/
def EM (base : Nat) (ad : Nat → Nat) (G : LG) (U : State) : Prop := EN (AG base ad G) U ∧ gK G 510 = (7, 0) ∧ va_Z "java/util/ArrayList" "DEFAULTCAPACITY_EMPTY_ELEMENTDATA" "[Ljava/lang/Object;" (.ref (ad 510)) (AG base ad G) U U.heap ∧ va_AO "java/lang/Object" U ∧ va_Nw (.castable RX4 "java/lang/Object") U ∧ va_Dc U ∧ ∃ mi : Nat, va_Mi "[Ljava/lang/Object;" mi U
theorem EM.frame {base : Nat} {ad : Nat → Nat} {G : LG} {U : State} {g : JFrame} {mk : MethodId} {a : Array Value} (h : EM base ad G U) : EM base ad G (U.calling g mk a) := by
  obtain ⟨h1, h2, h3, h4, h5, h6, mi, h7⟩ := h
  exact ⟨EN.frame h1, h2, va_Z.moved (u := U) (U := U.calling g mk a) (Vm.Alike.refl U.vm) h3, va_AO.moved (u := U) (U := U.calling g mk a) (Vm.Alike.refl U.vm) h4, va_Nw.warmC (s := U) (U := U.calling g mk a) (State.WarmedH.refl U) h5, va_Dc.moved (u := U) (U := U.calling g mk a) (Vm.Alike.refl U.vm) h6, mi, va_Mi.moved (u := U) (U := U.calling g mk a) (Vm.Alike.refl U.vm) h7⟩
theorem EM.call {base : Nat} {ad0 ad : Nat → Nat} {G0 G : LG} {s U : State} {H : Heap} {locs : List Loc} (hE : EM base ad0 G0 s) (he : Ext base ad0 G0 ad G) (hS : va_S (AG base ad0 G0) s.heap H locs) (hW : s.WarmedH U.vm) (hU : U.heap = H) : EM base ad G U := by
  obtain ⟨h1, h2, h3, h4, h5, h6, mi, h7⟩ := hE
  have e1 := he.1 510 (by rw [h2]; decide)
  refine ⟨EN.call h1 hS he.ag hW hU, e1.1.trans h2, ?_, va_AO.moved hW.alike h4, va_Nw.warmC hW h5, va_Dc.moved hW.alike h6, mi, va_Mi.moved hW.alike h7⟩
  subst hU
  rw [e1.2]
  exact va_Z.narrow (va_Z.kept (va_Z.moved hW.alike h3) hS.2.1) he.ag
/-- of a method: its class, its code, its locals, what it returns, its handlers -/
abbrev KD : Type := String × ByteArray × Nat × Option FieldType × List (Nat × Nat × Nat × Nat)
/-- of an invocation: all that a walk speaks of -/
abbrev CX : Type := Program × Launch × Env × Room × State × MethodId × Array Value × List Frame × Method × Code × va_G × (Nat → ClassId) × (Nat → Nat) × LG × (State → Prop) × Nat × Nat
def okX (K : KD) (X : CX) : Prop := match X with
  | (p, l, _, R, s, m, args, _, meth, c, D, dT, ad0, G0, _, base, sbase) =>
    p.tables.exec = Jvm.exec ∧ c.code = K.2.1 ∧ c.maxLocals = K.2.2.1 ∧ s.vm.findClass K.1 = some m.cls ∧ (∀ w ∈ WALL, w.before args s = true) ∧ meth.locks = false ∧ meth.sig.returnType = K.2.2.2.1 ∧ c.exceptionTable.toList = tableOf K.2.2.2.2 ∧
    va_K D vwCl (tysW dT) s ∧ EM base ad0 G0 s ∧ l.flags = flags0 ∧ (R.cells + gc G0 = 601024 ∧ R.slots + gs G0 = 7293034 ∧ R.locals = 41 * R.frames) ∧ s.heap.size = base + gc G0 ∧ hsz s.heap = sbase + gs G0
/-- the frames that a walk may still have above it -/
def cf (X : CX) : Nat := X.2.2.2.1.frames
def lv_is (ad : Nat → Nat) (ls : Array Slot) (nL : Nat) (lv : List (Option LV)) : Prop := ls.size = nL ∧ lv_wf ls ∧ ∀ (k : Nat) (v : LV), lv[k]? = some (some v) → ls[k]? = some (.val (rv ad v))
def WPb (K : KD) (X : CX) (pc : Nat) (lv : List (Option LV)) (st : List LV) (G : LG) : Prop := match X with
  | (p, l, e, R, s, m, args, below, meth, c, D, dT, ad0, G0, Q, base, sbase) =>
    ∀ (ad : Nat → Nat) (H : Heap) (locs : List Loc) (ls : Array Slot), HD dT D base sbase ad G H → Ext base ad0 G0 ad G → va_S (AG base ad0 G0) s.heap H locs → lv_is ad ls K.2.2.1 lv → (∀ v, some v ∈ lv → okv G v) → (∀ v ∈ st, okv G v) →
      W p l e R s m args below meth c H locs (H.size - s.heap.size) (hsz H - hsz s.heap) Q (F0 m pc ls (st.map (rv ad)))
/-- THE JUDGEMENT: from the instruction at pc, with these locals, this stack, this world, the method comes to its end as asked -/
def WP (K : KD) (X : CX) (pc : Nat) (lv : List (Option LV)) (st : List LV) (G : LG) : Prop := okX K X → WPb K X pc lv st G
theorem n_01 : ¬ (0 : Nat) = 1 := by decide
theorem n_02 : ¬ (2 : Nat) ≤ 0 := by decide
theorem n_10 : ¬ (1 : Nat) = 0 := by decide
theorem n_12 : ¬ (2 : Nat) ≤ 1 := by decide
theorem n_20 : ¬ (2 : Nat) = 0 := by decide
theorem n_21 : ¬ (2 : Nat) = 1 := by decide
theorem okv_i {G : LG} {k : Int} (h : inR k) : okv G (0, k) := ⟨fun _ => h, fun h => (n_01 h).elim, fun h => (n_02 h).elim⟩
theorem okv_l {G : LG} {k : Int} (h : inL k) : okv G (1, k) := ⟨fun h => (n_10 h).elim, fun _ => h, fun h => (n_12 h).elim⟩
theorem okv_r {G : LG} {k : Int} (h : 0 ≤ k → (gK G k.toNat).1 ≠ 0) : okv G (2, k) := ⟨fun h => (n_20 h).elim, fun h => (n_21 h).elim, fun _ => h⟩
theorem okv_R {G : LG} {k : Int} (h : okv G (0, k)) : inR k := h.1 rfl
theorem okv_L {G : LG} {k : Int} (h : okv G (1, k)) : inL k := h.2.1 rfl
theorem okv_c {G : LG} {v : LV} {st : List LV} (h : okv G v) (hs : ∀ v ∈ st, okv G v) : ∀ w ∈ v :: st, okv G w := fun w hw => (List.mem_cons.mp hw).elim (fun e => e ▸ h) (hs w)
theorem okv_t {G : LG} {v : LV} {st : List LV} (hs : ∀ w ∈ v :: st, okv G w) : ∀ w ∈ st, okv G w := fun w hw => hs w (List.mem_cons_of_mem _ hw)
theorem okv_h {G : LG} {v : LV} {st : List LV} (hs : ∀ w ∈ v :: st, okv G w) : okv G v := hs v List.mem_cons_self
theorem okv_lv {G : LG} {lv : List (Option LV)} {k : Nat} {v : LV} (h : ∀ v, some v ∈ lv → okv G v) (hk : lv[k]? = some (some v)) : okv G v := h v (List.mem_of_getElem? hk)
theorem inR_toInt (x : Int32) : inR x.toInt := ⟨by have := Int32.le_toInt x; omega, by have := Int32.toInt_lt x; omega⟩
theorem I_toInt {k : Int} (h : inR k) : (Int32.ofInt k).toInt = k := Int32.toInt_ofInt_of_le (by omega) (by omega)
theorem inL_toInt (x : Int64) : inL x.toInt := ⟨by have := Int64.le_toInt x; omega, by have := Int64.toInt_lt x; omega⟩
theorem L_toInt {k : Int} (h : inL k) : (Int64.ofInt k).toInt = k := Int64.toInt_ofInt_of_le (by omega) (by omega)
theorem I_inj {a b : Int} (ha : inR a) (hb : inR b) : (Int32.ofInt a = Int32.ofInt b) ↔ a = b := ⟨fun h => by have := congrArg Int32.toInt h; rwa [I_toInt ha, I_toInt hb] at this, fun h => by rw [h]⟩
theorem I_lt {a b : Int} (ha : inR a) (hb : inR b) : (Int32.ofInt a < Int32.ofInt b) ↔ a < b := by rw [Int32.lt_iff_toInt_lt, I_toInt ha, I_toInt hb]
theorem I_le {a b : Int} (ha : inR a) (hb : inR b) : (Int32.ofInt a ≤ Int32.ofInt b) ↔ a ≤ b := by rw [Int32.le_iff_toInt_le, I_toInt ha, I_toInt hb]
theorem I_of (x : Int32) : Int32.ofInt x.toInt = x := Int32.ofInt_toInt x
theorem L_of (x : Int64) : Int64.ofInt x.toInt = x := Int64.ofInt_toInt x
theorem I_clamp {k : Int} (h : 0 ≤ k) (h2 : k ≤ 2147483647) : (Int32.ofInt k).toNatClampNeg = k.toNat := by
  have h1 : (Int32.ofInt k).toNatClampNeg = (Int32.ofInt k).toInt.toNat := rfl
  rw [h1, I_toInt ⟨by omega, h2⟩]
theorem I_in {k : Int} {n : Nat} (h : 0 ≤ k) (h1 : k < n) (h2 : n ≤ 2147483647) : vp_in (Int32.ofInt k) n := by
  have h3 : k ≤ 2147483647 := by omega
  intro h9
  rcases h9 with h9 | h9
  · have h0 : (0 : Int32) = Int32.ofInt 0 := rfl
    rw [h0, I_lt ⟨by omega, h3⟩ ⟨by omega, by omega⟩] at h9
    omega
  · rw [I_clamp h h3] at h9
    omega
def i_and (a b : Int) : Int := (Int32.ofInt a &&& Int32.ofInt b).toInt
def l_and (a b : Int) : Int := (Int64.ofInt a &&& Int64.ofInt b).toInt
def i_or (a b : Int) : Int := (Int32.ofInt a ||| Int32.ofInt b).toInt
def l_or (a b : Int) : Int := (Int64.ofInt a ||| Int64.ofInt b).toInt
def i_xor (a b : Int) : Int := (Int32.ofInt a ^^^ Int32.ofInt b).toInt
def l_xor (a b : Int) : Int := (Int64.ofInt a ^^^ Int64.ofInt b).toInt
def i_div (a b : Int) : Int := (Int32.ofInt a / Int32.ofInt b).toInt
def i_rem (a b : Int) : Int := (Int32.ofInt a % Int32.ofInt b).toInt
def l_shl (a b : Int) : Int := (Int64.ofInt a <<< ((Int32.ofInt b).toInt64 &&& 63)).toInt
def l_shr (a b : Int) : Int := (Int64.ofInt a >>> ((Int32.ofInt b).toInt64 &&& 63)).toInt
def i_shl (a b : Int) : Int := (Int32.ofInt a <<< (Int32.ofInt b &&& 31)).toInt
def i_shr (a b : Int) : Int := (Int32.ofInt a >>> (Int32.ofInt b &&& 31)).toInt
def i_ushr (a b : Int) : Int := ((Int32.ofInt a).toUInt32 >>> ((Int32.ofInt b).toUInt32 &&& Int32.toUInt32 31)).toInt32.toInt
section PURE
variable {K : KD} {X : CX} {pc : Nat} {lv lv' : List (Option LV)} {st : List LV} {G : LG}
theorem s_rng {k : Int} (kk : inR k → WP K X pc lv ((0, k) :: st) G) : WP K X pc lv ((0, k) :: st) G := by
  obtain ⟨p, l, e, R, s, m, args, below, meth, c, D, dT, ad0, G0, Q, base, sbase⟩ := X
  intro ho ad H locs ls hd he hs hl o1 o2
  exact kk (okv_R (okv_h o2)) ho ad H locs ls hd he hs hl o1 o2
theorem s_rngL {k : Int} (kk : inL k → WP K X pc lv ((1, k) :: st) G) : WP K X pc lv ((1, k) :: st) G := by
  obtain ⟨p, l, e, R, s, m, args, below, meth, c, D, dT, ad0, G0, Q, base, sbase⟩ := X
  intro ho ad H locs ls hd he hs hl o1 o2
  exact kk (okv_L (okv_h o2)) ho ad H locs ls hd he hs hl o1 o2
theorem s_rngl {k : Int} (i : Nat) (hv : lv[i]? = some (some (0, k))) (kk : inR k → WP K X pc lv st G) : WP K X pc lv st G := by
  obtain ⟨p, l, e, R, s, m, args, below, meth, c, D, dT, ad0, G0, Q, base, sbase⟩ := X
  intro ho ad H locs ls hd he hs hl o1 o2
  exact kk (okv_R (okv_lv o1 hv)) ho ad H locs ls hd he hs hl o1 o2
theorem s_rngr {k : Int} (i : Nat) (hv : lv[i]? = some (some (2, k))) (kk : (0 ≤ k → (gK G k.toNat).1 ≠ 0) → WP K X pc lv st G) : WP K X pc lv st G := by
  obtain ⟨p, l, e, R, s, m, args, below, meth, c, D, dT, ad0, G0, Q, base, sbase⟩ := X
  intro ho ad H locs ls hd he hs hl o1 o2
  exact kk ((okv_lv o1 hv).2.2 (Nat.le_refl 2)) ho ad H locs ls hd he hs hl o1 o2
theorem s_rngh (n j : Nat) (hk : (gK G n).1 ≠ 0) (hj : j < lw_len (gK G n)) (ht : lw_st (gK G n).1 j = 0) (kk : inR (gS G n j) → WP K X pc lv st G) : WP K X pc lv st G := by
  obtain ⟨p, l, e, R, s, m, args, below, meth, c, D, dT, ad0, G0, Q, base, sbase⟩ := X
  intro ho ad H locs ls hd he hs hl o1 o2
  have h := hd.2.2.1 n j hk hj
  rw [ht] at h
  exact kk (okv_R h) ho ad H locs ls hd he hs hl o1 o2
/-- an int on top is what the machine makes of it -/
theorem s_topi {a b : Int} (h : Int32.ofInt a = Int32.ofInt b) (hb : inR b) (kk : WP K X pc lv ((0, b) :: st) G) : WP K X pc lv ((0, a) :: st) G := by
  obtain ⟨p, l, e, R, s, m, args, below, meth, c, D, dT, ad0, G0, Q, base, sbase⟩ := X
  intro ho ad H locs ls hd he hs hl o1 o2
  have e : rv ad (0, a) = rv ad (0, b) := congrArg Value.int h
  have k := kk ho ad H locs ls hd he hs hl o1 (okv_c (okv_i hb) (okv_t o2))
  rw [List.map_cons, e]
  exact k
theorem s_iconst {n : Int} (hdg : decode K.2.1 pc = .ok (.iconst n, 1))  (hr : inR n) (kk : WP K X (pc + 1) lv ((0, n) :: st) G) : WP K X pc lv (st) G := by
  obtain ⟨p, l, e, R, s, m, args, below, meth, c, D, dT, ad0, G0, Q, base, sbase⟩ := X
  intro ho ad H locs ls hd he hs hl o1 o2
  exact lv_iconst ho.1 ho.2.1 hdg rfl (kk ho ad H locs ls hd he hs hl o1 (okv_c (okv_i hr) o2))
theorem s_bipush {n : Int} (hdg : decode K.2.1 pc = .ok (.bipush n, 2)) (h8 : (Int8.ofInt n).toInt32 = Int32.ofInt n) (hr : inR n) (kk : WP K X (pc + 2) lv ((0, n) :: st) G) : WP K X pc lv (st) G := by
  obtain ⟨p, l, e, R, s, m, args, below, meth, c, D, dT, ad0, G0, Q, base, sbase⟩ := X
  intro ho ad H locs ls hd he hs hl o1 o2
  exact lv_bipush ho.1 ho.2.1 hdg h8 (kk ho ad H locs ls hd he hs hl o1 (okv_c (okv_i hr) o2))
theorem s_sipush {n : Int} (hdg : decode K.2.1 pc = .ok (.sipush n, 3)) (h8 : (Int16.ofInt n).toInt32 = Int32.ofInt n) (hr : inR n) (kk : WP K X (pc + 3) lv ((0, n) :: st) G) : WP K X pc lv (st) G := by
  obtain ⟨p, l, e, R, s, m, args, below, meth, c, D, dT, ad0, G0, Q, base, sbase⟩ := X
  intro ho ad H locs ls hd he hs hl o1 o2
  exact lv_sipush ho.1 ho.2.1 hdg h8 (kk ho ad H locs ls hd he hs hl o1 (okv_c (okv_i hr) o2))
theorem s_lconst {n : Fin 2} (hdg : decode K.2.1 pc = .ok (.lconst n, 1)) (kk : WP K X (pc + 1) lv ((1, ((n : Nat) : Int)) :: st) G) : WP K X pc lv (st) G := by
  obtain ⟨p, l, e, R, s, m, args, below, meth, c, D, dT, ad0, G0, Q, base, sbase⟩ := X
  intro ho ad H locs ls hd he hs hl o1 o2
  exact lv_lconst ho.1 ho.2.1 hdg (by match n with | 0 => rfl | 1 => rfl) (kk ho ad H locs ls hd he hs hl o1 (okv_c (okv_l ⟨by omega, by have := n.2; omega⟩) o2))
theorem s_null (hdg : decode K.2.1 pc = .ok (.aconst_null, 1)) (kk : WP K X (pc + 1) lv ((2, -1) :: st) G) : WP K X pc lv (st) G := by
  obtain ⟨p, l, e, R, s, m, args, below, meth, c, D, dT, ad0, G0, Q, base, sbase⟩ := X
  intro ho ad H locs ls hd he hs hl o1 o2
  exact lv_null ho.1 ho.2.1 hdg (kk ho ad H locs ls hd he hs hl o1 (okv_c (okv_r (fun h => absurd h (by decide))) o2))
theorem s_iload_n {k : Fin 4} {v : Int} (hdg : decode K.2.1 pc = .ok (.iload_n k, 1)) (hv : lv[(k : Nat)]? = some (some (0, v))) (kk : WP K X (pc + 1) lv ((0, v) :: st) G) : WP K X pc lv (st) G := by
  obtain ⟨p, l, e, R, s, m, args, below, meth, c, D, dT, ad0, G0, Q, base, sbase⟩ := X
  intro ho ad H locs ls hd he hs hl o1 o2
  exact lv_iload_n ho.1 ho.2.1 hdg rfl (hl.2.2 _ _ hv) (kk ho ad H locs ls hd he hs hl o1 (okv_c (okv_lv o1 hv) o2))
theorem s_iload {k : Nat} {v : Int} (hdg : decode K.2.1 pc = .ok (.iload k, 2)) (hv : lv[k]? = some (some (0, v))) (kk : WP K X (pc + 2) lv ((0, v) :: st) G) : WP K X pc lv (st) G := by
  obtain ⟨p, l, e, R, s, m, args, below, meth, c, D, dT, ad0, G0, Q, base, sbase⟩ := X
  intro ho ad H locs ls hd he hs hl o1 o2
  exact lv_iload ho.1 ho.2.1 hdg (hl.2.2 _ _ hv) (kk ho ad H locs ls hd he hs hl o1 (okv_c (okv_lv o1 hv) o2))
theorem s_lload_n {k : Fin 4} {v : Int} (hdg : decode K.2.1 pc = .ok (.lload_n k, 1)) (hv : lv[(k : Nat)]? = some (some (1, v))) (kk : WP K X (pc + 1) lv ((1, v) :: st) G) : WP K X pc lv (st) G := by
  obtain ⟨p, l, e, R, s, m, args, below, meth, c, D, dT, ad0, G0, Q, base, sbase⟩ := X
  intro ho ad H locs ls hd he hs hl o1 o2
  exact lv_lload_n ho.1 ho.2.1 hdg rfl (hl.2.2 _ _ hv) (kk ho ad H locs ls hd he hs hl o1 (okv_c (okv_lv o1 hv) o2))
theorem s_lload {k : Nat} {v : Int} (hdg : decode K.2.1 pc = .ok (.lload k, 2)) (hv : lv[k]? = some (some (1, v))) (kk : WP K X (pc + 2) lv ((1, v) :: st) G) : WP K X pc lv (st) G := by
  obtain ⟨p, l, e, R, s, m, args, below, meth, c, D, dT, ad0, G0, Q, base, sbase⟩ := X
  intro ho ad H locs ls hd he hs hl o1 o2
  exact lv_lload ho.1 ho.2.1 hdg (hl.2.2 _ _ hv) (kk ho ad H locs ls hd he hs hl o1 (okv_c (okv_lv o1 hv) o2))
theorem nmv_ref {ad : Nat → Nat} {v : Int} (h : 0 ≤ v) : rv ad (2, v) = .ref (ad v.toNat) := by
  show va_rf (nmv ad v) = _
  rw [nmv, if_neg (by omega)]
  rfl
theorem s_aload_n {k : Fin 4} {v : Int} (hdg : decode K.2.1 pc = .ok (.aload_n k, 1)) (hv : lv[(k : Nat)]? = some (some (2, v))) (h0 : 0 ≤ v) (kk : WP K X (pc + 1) lv ((2, v) :: st) G) : WP K X pc lv (st) G := by
  obtain ⟨p, l, e, R, s, m, args, below, meth, c, D, dT, ad0, G0, Q, base, sbase⟩ := X
  intro ho ad H locs ls hd he hs hl o1 o2
  exact lv_aload_n ho.1 ho.2.1 hdg rfl (by rw [hl.2.2 _ _ hv, nmv_ref h0]) (by have k9 := kk ho ad H locs ls hd he hs hl o1 (okv_c (okv_lv o1 hv) o2); rw [List.map_cons, nmv_ref h0] at k9; exact k9)
theorem s_aload {k : Nat} {v : Int} (hdg : decode K.2.1 pc = .ok (.aload k, 2)) (hv : lv[k]? = some (some (2, v))) (h0 : 0 ≤ v) (kk : WP K X (pc + 2) lv ((2, v) :: st) G) : WP K X pc lv (st) G := by
  obtain ⟨p, l, e, R, s, m, args, below, meth, c, D, dT, ad0, G0, Q, base, sbase⟩ := X
  intro ho ad H locs ls hd he hs hl o1 o2
  exact lv_aload ho.1 ho.2.1 hdg  (by rw [hl.2.2 _ _ hv, nmv_ref h0]) (by have k9 := kk ho ad H locs ls hd he hs hl o1 (okv_c (okv_lv o1 hv) o2); rw [List.map_cons, nmv_ref h0] at k9; exact k9)
/-- the locals behind a store -/
def setl : List (Option LV) → Nat → LV → List (Option LV)
  | [], _, _ => []
  | _ :: t, 0, v => some v :: (if v.1 = 1 then t.set 0 none else t)
  | a :: t, k + 1, v => (if k = 0 ∧ a.any (fun w => w.1 == 1) = true then none else a) :: setl t k v
theorem setl_get : ∀ (lv : List (Option LV)) (i : Nat) (v : LV) (k : Nat) (w : LV), (setl lv i v)[k]? = some (some w) → (k = i ∧ w = v) ∨ (k ≠ i ∧ lv[k]? = some (some w) ∧ ¬ (k + 1 = i ∧ w.1 = 1) ∧ ¬ (v.1 = 1 ∧ k = i + 1)) := by
  intro lv
  induction lv with
  | nil => intro i v k w h; simp [setl] at h
  | cons a t ih =>
    intro i v k w h
    cases i with
    | zero =>
      cases k with
      | zero => simp [setl] at h; exact Or.inl ⟨rfl, h.symm⟩
      | succ k =>
        refine Or.inr ⟨by omega, ?_⟩
        simp only [setl, List.getElem?_cons_succ] at h ⊢
        by_cases hv : v.1 = 1
        · rw [if_pos hv] at h
          cases k with
          | zero =>
            rw [List.getElem?_set] at h
            simp only [ite_true] at h
            split at h
            · cases h
            · cases h
          | succ k =>
            rw [List.getElem?_set_ne (by omega)] at h
            exact ⟨h, by omega, by omega⟩
        · rw [if_neg hv] at h
          exact ⟨h, by omega, fun q => hv q.1⟩
    | succ i =>
      cases k with
      | zero =>
        refine Or.inr ⟨by omega, ?_⟩
        simp only [setl, List.getElem?_cons_zero, Option.some.injEq] at h ⊢
        split at h
        · cases h
        · rename_i hn
          subst h
          refine ⟨rfl, fun q => hn ⟨by omega, ?_⟩, by omega⟩
          simp [q.2]
      | succ k =>
        simp only [setl, List.getElem?_cons_succ] at h ⊢
        rcases ih i v k w h with ⟨e1, e2⟩ | ⟨e1, e2, e3, e4⟩
        · exact Or.inl ⟨by omega, e2⟩
        · exact Or.inr ⟨by omega, e2, fun q => e3 ⟨by omega, q.2⟩, fun q => e4 ⟨q.1, by omega⟩⟩
def lvl (ad : Nat → Nat) (lv : List (Option LV)) : List (Nat × Value) := (List.range lv.length).filterMap (fun k => (lv.getD k none).map (fun v => (k, rv ad v)))
theorem lvl_mem {ad : Nat → Nat} {lv : List (Option LV)} {k : Nat} {x : Value} : (k, x) ∈ lvl ad lv ↔ ∃ v, lv[k]? = some (some v) ∧ x = rv ad v := by
  unfold lvl
  rw [List.mem_filterMap]
  constructor
  · rintro ⟨j, hj, h⟩
    rw [List.mem_range] at hj
    rw [List.getD_eq_getElem?_getD] at h
    cases hc : lv[j]? with
    | none => rw [hc] at h; simp at h
    | some o =>
      rw [hc] at h
      cases o with
      | none => simp at h
      | some v =>
        simp at h
        obtain ⟨e1, e2⟩ := h
        subst e1
        exact ⟨v, hc, e2.symm⟩
  · rintro ⟨v, h, e⟩
    refine ⟨k, ?_, ?_⟩
    · rw [List.mem_range]
      exact (List.getElem?_eq_some_iff.mp h).1
    · rw [List.getD_eq_getElem?_getD, h, e]
      rfl
theorem lvl_has {ad : Nat → Nat} {ls : Array Slot} {nL : Nat} {lv : List (Option LV)} (h : lv_is ad ls nL lv) : lv_has ls nL (lvl ad lv) := by
  refine ⟨h.1, h.2.1, fun q hq => ?_⟩
  obtain ⟨k, x⟩ := q
  obtain ⟨v, h1, h2⟩ := lvl_mem.mp hq
  rw [h2]
  exact h.2.2 k v h1
theorem rv_cat {ad : Nat → Nat} (v : LV) : (rv ad v).category = 2 ↔ v.1 = 1 := by
  obtain ⟨t, k⟩ := v
  match t with
  | 0 => simp [rv, Value.category]
  | 1 => simp [rv, Value.category]
  | t + 2 =>
    simp only [rv, va_rf, nmv]
    split
    · rename_i h
      split at h <;> simp_all [Value.category]
    · simp [Value.category]
theorem lv_is_set1 {ad : Nat → Nat} {ls : Array Slot} {nL i : Nat} {lv : List (Option LV)} {v : LV} (hv : v.1 ≠ 1) (h : lv_has ls nL ((i, rv ad v) :: (lvl ad lv).filter (fun q => !(q.1 == i) && !(q.1 + 1 == i && q.2.category == 2)))) : lv_is ad ls nL (setl lv i v) := by
  refine ⟨h.1, h.2.1, fun k w hk => ?_⟩
  rcases setl_get lv i v k w hk with ⟨e1, e2⟩ | ⟨e1, e2, e3, e4⟩
  · subst e1; subst e2
    exact h.2.2 _ List.mem_cons_self
  · refine h.2.2 (k, rv ad w) (List.mem_cons_of_mem _ (List.mem_filter.mpr ⟨lvl_mem.mpr ⟨w, e2, rfl⟩, ?_⟩))
    simp only [Bool.and_eq_true, Bool.not_eq_true', beq_eq_false_iff_ne, ne_eq, Bool.and_eq_false_iff]
    refine ⟨e1, ?_⟩
    by_cases hk1 : k + 1 = i
    · exact Or.inr (fun hc => e3 ⟨hk1, (rv_cat w).mp hc⟩)
    · exact Or.inl hk1
theorem lv_is_set2 {ad : Nat → Nat} {ls : Array Slot} {nL i : Nat} {lv : List (Option LV)} {v : LV} (hv : v.1 = 1) (h : lv_has ls nL ((i, rv ad v) :: (lvl ad lv).filter (fun q => !(q.1 == i) && (!(q.1 == i + 1) && !(q.1 + 1 == i && q.2.category == 2))))) : lv_is ad ls nL (setl lv i v) := by
  refine ⟨h.1, h.2.1, fun k w hk => ?_⟩
  rcases setl_get lv i v k w hk with ⟨e1, e2⟩ | ⟨e1, e2, e3, e4⟩
  · subst e1; subst e2
    exact h.2.2 _ List.mem_cons_self
  · refine h.2.2 (k, rv ad w) (List.mem_cons_of_mem _ (List.mem_filter.mpr ⟨lvl_mem.mpr ⟨w, e2, rfl⟩, ?_⟩))
    simp only [Bool.and_eq_true, Bool.not_eq_true', beq_eq_false_iff_ne, ne_eq, Bool.and_eq_false_iff]
    refine ⟨e1, fun q => e4 ⟨hv, q⟩, ?_⟩
    by_cases hk1 : k + 1 = i
    · exact Or.inr (fun hc => e3 ⟨hk1, (rv_cat w).mp hc⟩)
    · exact Or.inl hk1
theorem okv_set {G : LG} {lv : List (Option LV)} {i : Nat} {v : LV} (h : ∀ w, some w ∈ lv → okv G w) (hv : okv G v) : ∀ w, some w ∈ setl lv i v → okv G w := by
  intro w hw
  obtain ⟨k, hk⟩ := List.getElem?_of_mem hw
  rcases setl_get lv i v k w hk with ⟨-, e2⟩ | ⟨-, e2, -⟩
  · rw [e2]; exact hv
  · exact okv_lv h e2
theorem s_istore_n {k : Fin 4} {v : Int} (hdg : decode K.2.1 pc = .ok (.istore_n k, 1)) (hn : (k : Nat) < K.2.2.1) (hl : setl lv (k : Nat) (0, v) = lv') (kk : WP K X (pc + 1) lv' st G) : WP K X pc lv ((0, v) :: st) G := by
  subst hl
  obtain ⟨p, l, e, R, s, m, args, below, meth, c, D, dT, ad0, G0, Q, base, sbase⟩ := X
  intro ho ad H locs ls hd he hs hl o1 o2
  exact lv_istore_n ho.1 ho.2.1 hdg rfl (lvl_has hl) hn rfl (fun ls9 h9 => kk ho ad H locs ls9 hd he hs (lv_is_set1 (v := (0, v)) n_01 h9) (okv_set o1 (okv_h o2)) (okv_t o2))
theorem s_lstore_n {k : Fin 4} {v : Int} (hdg : decode K.2.1 pc = .ok (.lstore_n k, 1)) (hn : (k : Nat) + 1 < K.2.2.1) (hl : setl lv (k : Nat) (1, v) = lv') (kk : WP K X (pc + 1) lv' st G) : WP K X pc lv ((1, v) :: st) G := by
  subst hl
  obtain ⟨p, l, e, R, s, m, args, below, meth, c, D, dT, ad0, G0, Q, base, sbase⟩ := X
  intro ho ad H locs ls hd he hs hl o1 o2
  exact lv_lstore_n ho.1 ho.2.1 hdg rfl (lvl_has hl) hn rfl (fun ls9 h9 => kk ho ad H locs ls9 hd he hs (lv_is_set2 (v := (1, v)) rfl h9) (okv_set o1 (okv_h o2)) (okv_t o2))
theorem s_astore_n {k : Fin 4} {v : Int} (h0 : 0 ≤ v) (hdg : decode K.2.1 pc = .ok (.astore_n k, 1)) (hn : (k : Nat) < K.2.2.1) (hl : setl lv (k : Nat) (2, v) = lv') (kk : WP K X (pc + 1) lv' st G) : WP K X pc lv ((2, v) :: st) G := by
  subst hl
  obtain ⟨p, l, e, R, s, m, args, below, meth, c, D, dT, ad0, G0, Q, base, sbase⟩ := X
  intro ho ad H locs ls hd he hs hl o1 o2
  rw [List.map_cons, nmv_ref h0]
  exact lv_astore_n ho.1 ho.2.1 hdg rfl (lvl_has hl) hn rfl (fun ls9 h9 => kk ho ad H locs ls9 hd he hs (lv_is_set1 (v := (2, v)) n_21 (by rw [nmv_ref h0]; exact h9)) (okv_set o1 (okv_h o2)) (okv_t o2))
theorem s_istore {k : Nat} {v : Int} (hdg : decode K.2.1 pc = .ok (.istore k, 2)) (hn : k < K.2.2.1) (hl : setl lv k (0, v) = lv') (kk : WP K X (pc + 2) lv' st G) : WP K X pc lv ((0, v) :: st) G := by
  subst hl
  obtain ⟨p, l, e, R, s, m, args, below, meth, c, D, dT, ad0, G0, Q, base, sbase⟩ := X
  intro ho ad H locs ls hd he hs hl o1 o2
  exact lv_istore ho.1 ho.2.1 hdg (lvl_has hl) hn rfl (fun ls9 h9 => kk ho ad H locs ls9 hd he hs (lv_is_set1 (v := (0, v)) n_01 h9) (okv_set o1 (okv_h o2)) (okv_t o2))
theorem s_lstore {k : Nat} {v : Int} (hdg : decode K.2.1 pc = .ok (.lstore k, 2)) (hn : k + 1 < K.2.2.1) (hl : setl lv k (1, v) = lv') (kk : WP K X (pc + 2) lv' st G) : WP K X pc lv ((1, v) :: st) G := by
  subst hl
  obtain ⟨p, l, e, R, s, m, args, below, meth, c, D, dT, ad0, G0, Q, base, sbase⟩ := X
  intro ho ad H locs ls hd he hs hl o1 o2
  exact lv_lstore ho.1 ho.2.1 hdg (lvl_has hl) hn rfl (fun ls9 h9 => kk ho ad H locs ls9 hd he hs (lv_is_set2 (v := (1, v)) rfl h9) (okv_set o1 (okv_h o2)) (okv_t o2))
theorem s_astore {k : Nat} {v : Int} (h0 : 0 ≤ v) (hdg : decode K.2.1 pc = .ok (.astore k, 2)) (hn : k < K.2.2.1) (hl : setl lv k (2, v) = lv') (kk : WP K X (pc + 2) lv' st G) : WP K X pc lv ((2, v) :: st) G := by
  subst hl
  obtain ⟨p, l, e, R, s, m, args, below, meth, c, D, dT, ad0, G0, Q, base, sbase⟩ := X
  intro ho ad H locs ls hd he hs hl o1 o2
  rw [List.map_cons, nmv_ref h0]
  exact lv_astore ho.1 ho.2.1 hdg (lvl_has hl) hn rfl (fun ls9 h9 => kk ho ad H locs ls9 hd he hs (lv_is_set1 (v := (2, v)) n_21 (by rw [nmv_ref h0]; exact h9)) (okv_set o1 (okv_h o2)) (okv_t o2))
theorem s_iinc {i : Nat} {n v : Int} (hdg : decode K.2.1 pc = .ok (.iinc i n, 3)) (hv : lv[i]? = some (some (0, v))) (hr : inR (v + n)) (hn : i < K.2.2.1) (hl : setl lv i (0, v + n) = lv') (kk : WP K X (pc + 3) lv' st G) : WP K X pc lv st G := by
  subst hl
  obtain ⟨p, l, e, R, s, m, args, below, meth, c, D, dT, ad0, G0, Q, base, sbase⟩ := X
  intro ho ad H locs ls hd he hs hl o1 o2
  obtain ⟨j, hj⟩ := List.getElem?_of_mem (lvl_mem.mpr ⟨_, hv, rfl⟩ : (i, rv ad (0, v)) ∈ lvl ad lv)
  exact lv_iinc ho.1 ho.2.1 hdg (lvl_has hl) hj (Int32.ofInt_add v n).symm hn rfl (fun ls9 h9 => kk ho ad H locs ls9 hd he hs (lv_is_set1 (v := (0, v + n)) n_01 h9) (okv_set o1 (okv_i hr)) o2)
theorem s_iadd {x y : Int} (hdg : decode K.2.1 pc = .ok (.iadd, 1)) (hr : inR (x + y)) (kk : WP K X (pc + 1) lv ((0, x + y) :: st) G) : WP K X pc lv ((0, y) :: (0, x) :: st) G := by
  obtain ⟨p, l, e, R, s, m, args, below, meth, c, D, dT, ad0, G0, Q, base, sbase⟩ := X
  intro ho ad H locs ls hd he hs hl o1 o2
  have k9 := kk ho ad H locs ls hd he hs hl o1 (okv_c (okv_i hr) (okv_t (okv_t o2)))
  have e9 : rv ad (0, x + y) = .int (Int32.ofInt x + Int32.ofInt y) := congrArg Value.int (Int32.ofInt_add x y)
  rw [List.map_cons, e9] at k9
  exact lv_iadd ho.1 ho.2.1 hdg k9
theorem s_iaddW {x y : Int} (hdg : decode K.2.1 pc = .ok (.iadd, 1)) (kk : ∀ z : Int, inR z → Int32.ofInt z = Int32.ofInt (x + y) → WP K X (pc + 1) lv ((0, z) :: st) G) : WP K X pc lv ((0, y) :: (0, x) :: st) G := by
  obtain ⟨p, l, e, R, s, m, args, below, meth, c, D, dT, ad0, G0, Q, base, sbase⟩ := X
  intro ho ad H locs ls hd he hs hl o1 o2
  have e8 := I_of (Int32.ofInt (x + y))
  have k9 := kk _ (inR_toInt (Int32.ofInt (x + y))) e8 ho ad H locs ls hd he hs hl o1 (okv_c (okv_i (inR_toInt _)) (okv_t (okv_t o2)))
  have e9 : rv ad (0, (Int32.ofInt (x + y)).toInt) = .int (Int32.ofInt x + Int32.ofInt y) := congrArg Value.int (e8.trans (Int32.ofInt_add x y))
  rw [List.map_cons, e9] at k9
  exact lv_iadd ho.1 ho.2.1 hdg k9
theorem s_isub {x y : Int} (hdg : decode K.2.1 pc = .ok (.isub, 1)) (hr : inR (x - y)) (kk : WP K X (pc + 1) lv ((0, x - y) :: st) G) : WP K X pc lv ((0, y) :: (0, x) :: st) G := by
  obtain ⟨p, l, e, R, s, m, args, below, meth, c, D, dT, ad0, G0, Q, base, sbase⟩ := X
  intro ho ad H locs ls hd he hs hl o1 o2
  have k9 := kk ho ad H locs ls hd he hs hl o1 (okv_c (okv_i hr) (okv_t (okv_t o2)))
  have e9 : rv ad (0, x - y) = .int (Int32.ofInt x - Int32.ofInt y) := congrArg Value.int (Int32.ofInt_sub x y)
  rw [List.map_cons, e9] at k9
  exact lv_isub ho.1 ho.2.1 hdg k9
theorem s_isubW {x y : Int} (hdg : decode K.2.1 pc = .ok (.isub, 1)) (kk : ∀ z : Int, inR z → Int32.ofInt z = Int32.ofInt (x - y) → WP K X (pc + 1) lv ((0, z) :: st) G) : WP K X pc lv ((0, y) :: (0, x) :: st) G := by
  obtain ⟨p, l, e, R, s, m, args, below, meth, c, D, dT, ad0, G0, Q, base, sbase⟩ := X
  intro ho ad H locs ls hd he hs hl o1 o2
  have e8 := I_of (Int32.ofInt (x - y))
  have k9 := kk _ (inR_toInt (Int32.ofInt (x - y))) e8 ho ad H locs ls hd he hs hl o1 (okv_c (okv_i (inR_toInt _)) (okv_t (okv_t o2)))
  have e9 : rv ad (0, (Int32.ofInt (x - y)).toInt) = .int (Int32.ofInt x - Int32.ofInt y) := congrArg Value.int (e8.trans (Int32.ofInt_sub x y))
  rw [List.map_cons, e9] at k9
  exact lv_isub ho.1 ho.2.1 hdg k9
theorem s_imul {x y : Int} (hdg : decode K.2.1 pc = .ok (.imul, 1)) (hr : inR (x * y)) (kk : WP K X (pc + 1) lv ((0, x * y) :: st) G) : WP K X pc lv ((0, y) :: (0, x) :: st) G := by
  obtain ⟨p, l, e, R, s, m, args, below, meth, c, D, dT, ad0, G0, Q, base, sbase⟩ := X
  intro ho ad H locs ls hd he hs hl o1 o2
  have k9 := kk ho ad H locs ls hd he hs hl o1 (okv_c (okv_i hr) (okv_t (okv_t o2)))
  have e9 : rv ad (0, x * y) = .int (Int32.ofInt x * Int32.ofInt y) := congrArg Value.int (Int32.ofInt_mul x y)
  rw [List.map_cons, e9] at k9
  exact lv_imul ho.1 ho.2.1 hdg k9
theorem s_imulW {x y : Int} (hdg : decode K.2.1 pc = .ok (.imul, 1)) (kk : ∀ z : Int, inR z → Int32.ofInt z = Int32.ofInt (x * y) → WP K X (pc + 1) lv ((0, z) :: st) G) : WP K X pc lv ((0, y) :: (0, x) :: st) G := by
  obtain ⟨p, l, e, R, s, m, args, below, meth, c, D, dT, ad0, G0, Q, base, sbase⟩ := X
  intro ho ad H locs ls hd he hs hl o1 o2
  have e8 := I_of (Int32.ofInt (x * y))
  have k9 := kk _ (inR_toInt (Int32.ofInt (x * y))) e8 ho ad H locs ls hd he hs hl o1 (okv_c (okv_i (inR_toInt _)) (okv_t (okv_t o2)))
  have e9 : rv ad (0, (Int32.ofInt (x * y)).toInt) = .int (Int32.ofInt x * Int32.ofInt y) := congrArg Value.int (e8.trans (Int32.ofInt_mul x y))
  rw [List.map_cons, e9] at k9
  exact lv_imul ho.1 ho.2.1 hdg k9
theorem s_iand {x y : Int} (hdg : decode K.2.1 pc = .ok (.iand, 1)) (kk : WP K X (pc + 1) lv ((0, i_and x y) :: st) G) : WP K X pc lv ((0, y) :: (0, x) :: st) G := by
  obtain ⟨p, l, e, R, s, m, args, below, meth, c, D, dT, ad0, G0, Q, base, sbase⟩ := X
  intro ho ad H locs ls hd he hs hl o1 o2
  have k9 := kk ho ad H locs ls hd he hs hl o1 (okv_c (okv_i (inR_toInt _)) (okv_t (okv_t o2)))
  have e9 : rv ad (0, i_and x y) = .int _ := congrArg Value.int (I_of _)
  rw [List.map_cons, e9] at k9
  exact lv_iand ho.1 ho.2.1 hdg k9
theorem s_ior {x y : Int} (hdg : decode K.2.1 pc = .ok (.ior, 1)) (kk : WP K X (pc + 1) lv ((0, i_or x y) :: st) G) : WP K X pc lv ((0, y) :: (0, x) :: st) G := by
  obtain ⟨p, l, e, R, s, m, args, below, meth, c, D, dT, ad0, G0, Q, base, sbase⟩ := X
  intro ho ad H locs ls hd he hs hl o1 o2
  have k9 := kk ho ad H locs ls hd he hs hl o1 (okv_c (okv_i (inR_toInt _)) (okv_t (okv_t o2)))
  have e9 : rv ad (0, i_or x y) = .int _ := congrArg Value.int (I_of _)
  rw [List.map_cons, e9] at k9
  exact lv_ior ho.1 ho.2.1 hdg k9
theorem s_ixor {x y : Int} (hdg : decode K.2.1 pc = .ok (.ixor, 1)) (kk : WP K X (pc + 1) lv ((0, i_xor x y) :: st) G) : WP K X pc lv ((0, y) :: (0, x) :: st) G := by
  obtain ⟨p, l, e, R, s, m, args, below, meth, c, D, dT, ad0, G0, Q, base, sbase⟩ := X
  intro ho ad H locs ls hd he hs hl o1 o2
  have k9 := kk ho ad H locs ls hd he hs hl o1 (okv_c (okv_i (inR_toInt _)) (okv_t (okv_t o2)))
  have e9 : rv ad (0, i_xor x y) = .int _ := congrArg Value.int (I_of _)
  rw [List.map_cons, e9] at k9
  exact lv_ixor ho.1 ho.2.1 hdg k9
theorem s_ishl {x y : Int} (hdg : decode K.2.1 pc = .ok (.ishl, 1)) (kk : WP K X (pc + 1) lv ((0, i_shl x y) :: st) G) : WP K X pc lv ((0, y) :: (0, x) :: st) G := by
  obtain ⟨p, l, e, R, s, m, args, below, meth, c, D, dT, ad0, G0, Q, base, sbase⟩ := X
  intro ho ad H locs ls hd he hs hl o1 o2
  have k9 := kk ho ad H locs ls hd he hs hl o1 (okv_c (okv_i (inR_toInt _)) (okv_t (okv_t o2)))
  have e9 : rv ad (0, i_shl x y) = .int _ := congrArg Value.int (I_of _)
  rw [List.map_cons, e9] at k9
  exact lv_ishl ho.1 ho.2.1 hdg k9
theorem s_ishr {x y : Int} (hdg : decode K.2.1 pc = .ok (.ishr, 1)) (kk : WP K X (pc + 1) lv ((0, i_shr x y) :: st) G) : WP K X pc lv ((0, y) :: (0, x) :: st) G := by
  obtain ⟨p, l, e, R, s, m, args, below, meth, c, D, dT, ad0, G0, Q, base, sbase⟩ := X
  intro ho ad H locs ls hd he hs hl o1 o2
  have k9 := kk ho ad H locs ls hd he hs hl o1 (okv_c (okv_i (inR_toInt _)) (okv_t (okv_t o2)))
  have e9 : rv ad (0, i_shr x y) = .int _ := congrArg Value.int (I_of _)
  rw [List.map_cons, e9] at k9
  exact lv_ishr ho.1 ho.2.1 hdg k9
theorem s_iushr {x y : Int} (hdg : decode K.2.1 pc = .ok (.iushr, 1)) (kk : WP K X (pc + 1) lv ((0, i_ushr x y) :: st) G) : WP K X pc lv ((0, y) :: (0, x) :: st) G := by
  obtain ⟨p, l, e, R, s, m, args, below, meth, c, D, dT, ad0, G0, Q, base, sbase⟩ := X
  intro ho ad H locs ls hd he hs hl o1 o2
  exact lv_iushr ho.1 ho.2.1 hdg (I_of _).symm (kk ho ad H locs ls hd he hs hl o1 (okv_c (okv_i (inR_toInt _)) (okv_t (okv_t o2))))
theorem s_land {x y : Int} (hdg : decode K.2.1 pc = .ok (.land, 1)) (kk : WP K X (pc + 1) lv ((1, l_and x y) :: st) G) : WP K X pc lv ((1, y) :: (1, x) :: st) G := by
  obtain ⟨p, l, e, R, s, m, args, below, meth, c, D, dT, ad0, G0, Q, base, sbase⟩ := X
  intro ho ad H locs ls hd he hs hl o1 o2
  have k9 := kk ho ad H locs ls hd he hs hl o1 (okv_c (okv_l (inL_toInt _)) (okv_t (okv_t o2)))
  have e9 : rv ad (1, l_and x y) = .long _ := congrArg Value.long (L_of _)
  rw [List.map_cons, e9] at k9
  exact lv_land ho.1 ho.2.1 hdg k9
theorem s_lor {x y : Int} (hdg : decode K.2.1 pc = .ok (.lor, 1)) (kk : WP K X (pc + 1) lv ((1, l_or x y) :: st) G) : WP K X pc lv ((1, y) :: (1, x) :: st) G := by
  obtain ⟨p, l, e, R, s, m, args, below, meth, c, D, dT, ad0, G0, Q, base, sbase⟩ := X
  intro ho ad H locs ls hd he hs hl o1 o2
  have k9 := kk ho ad H locs ls hd he hs hl o1 (okv_c (okv_l (inL_toInt _)) (okv_t (okv_t o2)))
  have e9 : rv ad (1, l_or x y) = .long _ := congrArg Value.long (L_of _)
  rw [List.map_cons, e9] at k9
  exact lv_lor ho.1 ho.2.1 hdg k9
theorem s_lshl {x y : Int} (hdg : decode K.2.1 pc = .ok (.lshl, 1)) (kk : WP K X (pc + 1) lv ((1, l_shl x y) :: st) G) : WP K X pc lv ((0, y) :: (1, x) :: st) G := by
  obtain ⟨p, l, e, R, s, m, args, below, meth, c, D, dT, ad0, G0, Q, base, sbase⟩ := X
  intro ho ad H locs ls hd he hs hl o1 o2
  exact lv_lshl ho.1 ho.2.1 hdg (L_of _).symm (kk ho ad H locs ls hd he hs hl o1 (okv_c (okv_l (inL_toInt _)) (okv_t (okv_t o2))))
theorem s_lshr {x y : Int} (hdg : decode K.2.1 pc = .ok (.lshr, 1)) (kk : WP K X (pc + 1) lv ((1, l_shr x y) :: st) G) : WP K X pc lv ((0, y) :: (1, x) :: st) G := by
  obtain ⟨p, l, e, R, s, m, args, below, meth, c, D, dT, ad0, G0, Q, base, sbase⟩ := X
  intro ho ad H locs ls hd he hs hl o1 o2
  exact lv_lshr ho.1 ho.2.1 hdg (L_of _).symm (kk ho ad H locs ls hd he hs hl o1 (okv_c (okv_l (inL_toInt _)) (okv_t (okv_t o2))))
theorem s_laddW {x y : Int} (hdg : decode K.2.1 pc = .ok (.ladd, 1)) (kk : ∀ z : Int, inL z → (inL (x + y) → z = x + y) → WP K X (pc + 1) lv ((1, z) :: st) G) : WP K X pc lv ((1, y) :: (1, x) :: st) G := by
  obtain ⟨p, l, e, R, s, m, args, below, meth, c, D, dT, ad0, G0, Q, base, sbase⟩ := X
  intro ho ad H locs ls hd he hs hl o1 o2
  have e8 := L_of (Int64.ofInt (x + y))
  have k9 := kk _ (inL_toInt (Int64.ofInt (x + y))) (fun h => L_toInt h) ho ad H locs ls hd he hs hl o1 (okv_c (okv_l (inL_toInt _)) (okv_t (okv_t o2)))
  have e9 : rv ad (1, (Int64.ofInt (x + y)).toInt) = .long (Int64.ofInt x + Int64.ofInt y) := congrArg Value.long (e8.trans (Int64.ofInt_add x y))
  rw [List.map_cons, e9] at k9
  exact lv_ladd ho.1 ho.2.1 hdg k9
theorem s_lsubW {x y : Int} (hdg : decode K.2.1 pc = .ok (.lsub, 1)) (kk : ∀ z : Int, inL z → (inL (x - y) → z = x - y) → WP K X (pc + 1) lv ((1, z) :: st) G) : WP K X pc lv ((1, y) :: (1, x) :: st) G := by
  obtain ⟨p, l, e, R, s, m, args, below, meth, c, D, dT, ad0, G0, Q, base, sbase⟩ := X
  intro ho ad H locs ls hd he hs hl o1 o2
  have e8 := L_of (Int64.ofInt (x - y))
  have k9 := kk _ (inL_toInt (Int64.ofInt (x - y))) (fun h => L_toInt h) ho ad H locs ls hd he hs hl o1 (okv_c (okv_l (inL_toInt _)) (okv_t (okv_t o2)))
  have e9 : rv ad (1, (Int64.ofInt (x - y)).toInt) = .long (Int64.ofInt x - Int64.ofInt y) := congrArg Value.long (e8.trans (Int64.ofInt_sub x y))
  rw [List.map_cons, e9] at k9
  exact lv_lsub ho.1 ho.2.1 hdg k9
theorem i2l_eq {k : Int} (h : inR k) : (Int32.ofInt k).toInt64 = Int64.ofInt k := by
  apply Int64.toInt_inj.mp
  rw [Int32.toInt_toInt64, I_toInt h, L_toInt ⟨by omega, by omega⟩]
theorem s_i2l {x : Int} (hdg : decode K.2.1 pc = .ok (.i2l, 1)) (kk : WP K X (pc + 1) lv ((1, x) :: st) G) : WP K X pc lv ((0, x) :: st) G := by
  obtain ⟨p, l, e, R, s, m, args, below, meth, c, D, dT, ad0, G0, Q, base, sbase⟩ := X
  intro ho ad H locs ls hd he hs hl o1 o2
  have h9 := okv_R (okv_h o2)
  exact lv_i2l ho.1 ho.2.1 hdg (i2l_eq h9) (kk ho ad H locs ls hd he hs hl o1 (okv_c (okv_l ⟨by omega, by omega⟩) (okv_t o2)))
theorem s_l2iW {x : Int} (hdg : decode K.2.1 pc = .ok (.l2i, 1)) (kk : ∀ z : Int, inR z → WP K X (pc + 1) lv ((0, z) :: st) G) : WP K X pc lv ((1, x) :: st) G := by
  obtain ⟨p, l, e, R, s, m, args, below, meth, c, D, dT, ad0, G0, Q, base, sbase⟩ := X
  intro ho ad H locs ls hd he hs hl o1 o2
  exact lv_l2i ho.1 ho.2.1 hdg (I_of _).symm (kk (Int64.ofInt x).toInt32.toInt (inR_toInt _) ho ad H locs ls hd he hs hl o1 (okv_c (okv_i (inR_toInt _)) (okv_t o2)))
theorem s_icmp_eq {x y off : Int} {tgt : Nat} (hdg : decode K.2.1 pc = .ok (.if_icmp .eq off, 3)) (ht : (pc : Int) + off = (tgt : Int)) (kt : x = y → WP K X tgt lv st G) (kf : ¬ x = y → WP K X (pc + 3) lv st G) : WP K X pc lv ((0, y) :: (0, x) :: st) G := by
  obtain ⟨p, l, e, R, s, m, args, below, meth, c, D, dT, ad0, G0, Q, base, sbase⟩ := X
  intro ho ad H locs ls hd he hs hl o1 o2
  exact lv_icmp_eq ho.1 ho.2.1 hdg ht (fun h => kt ((I_inj (okv_R (okv_h (okv_t o2))) (okv_R (okv_h o2))).mp h) ho ad H locs ls hd he hs hl o1 (okv_t (okv_t o2))) (fun h => kf (fun h9 => h ((I_inj (okv_R (okv_h (okv_t o2))) (okv_R (okv_h o2))).mpr h9)) ho ad H locs ls hd he hs hl o1 (okv_t (okv_t o2)))
theorem s_if_eq {x off : Int} {tgt : Nat} (hdg : decode K.2.1 pc = .ok (.ifCond .eq off, 3)) (ht : (pc : Int) + off = (tgt : Int)) (kt : x = 0 → WP K X tgt lv st G) (kf : ¬ x = 0 → WP K X (pc + 3) lv st G) : WP K X pc lv ((0, x) :: st) G := by
  obtain ⟨p, l, e, R, s, m, args, below, meth, c, D, dT, ad0, G0, Q, base, sbase⟩ := X
  intro ho ad H locs ls hd he hs hl o1 o2
  exact lv_if_eq ho.1 ho.2.1 hdg ht (fun h => kt ((I_inj (okv_R (okv_h o2)) ⟨by decide, by decide⟩).mp h) ho ad H locs ls hd he hs hl o1 (okv_t o2)) (fun h => kf (fun h9 => h ((I_inj (okv_R (okv_h o2)) ⟨by decide, by decide⟩).mpr h9)) ho ad H locs ls hd he hs hl o1 (okv_t o2))
theorem s_icmp_lt {x y off : Int} {tgt : Nat} (hdg : decode K.2.1 pc = .ok (.if_icmp .lt off, 3)) (ht : (pc : Int) + off = (tgt : Int)) (kt : x < y → WP K X tgt lv st G) (kf : ¬ x < y → WP K X (pc + 3) lv st G) : WP K X pc lv ((0, y) :: (0, x) :: st) G := by
  obtain ⟨p, l, e, R, s, m, args, below, meth, c, D, dT, ad0, G0, Q, base, sbase⟩ := X
  intro ho ad H locs ls hd he hs hl o1 o2
  exact lv_icmp_lt ho.1 ho.2.1 hdg ht (fun h => kt ((I_lt (okv_R (okv_h (okv_t o2))) (okv_R (okv_h o2))).mp h) ho ad H locs ls hd he hs hl o1 (okv_t (okv_t o2))) (fun h => kf (fun h9 => h ((I_lt (okv_R (okv_h (okv_t o2))) (okv_R (okv_h o2))).mpr h9)) ho ad H locs ls hd he hs hl o1 (okv_t (okv_t o2)))
theorem s_if_lt {x off : Int} {tgt : Nat} (hdg : decode K.2.1 pc = .ok (.ifCond .lt off, 3)) (ht : (pc : Int) + off = (tgt : Int)) (kt : x < 0 → WP K X tgt lv st G) (kf : ¬ x < 0 → WP K X (pc + 3) lv st G) : WP K X pc lv ((0, x) :: st) G := by
  obtain ⟨p, l, e, R, s, m, args, below, meth, c, D, dT, ad0, G0, Q, base, sbase⟩ := X
  intro ho ad H locs ls hd he hs hl o1 o2
  exact lv_if_lt ho.1 ho.2.1 hdg ht (fun h => kt ((I_lt (okv_R (okv_h o2)) ⟨by decide, by decide⟩).mp h) ho ad H locs ls hd he hs hl o1 (okv_t o2)) (fun h => kf (fun h9 => h ((I_lt (okv_R (okv_h o2)) ⟨by decide, by decide⟩).mpr h9)) ho ad H locs ls hd he hs hl o1 (okv_t o2))
theorem s_icmp_ge {x y off : Int} {tgt : Nat} (hdg : decode K.2.1 pc = .ok (.if_icmp .ge off, 3)) (ht : (pc : Int) + off = (tgt : Int)) (kt : y ≤ x → WP K X tgt lv st G) (kf : ¬ y ≤ x → WP K X (pc + 3) lv st G) : WP K X pc lv ((0, y) :: (0, x) :: st) G := by
  obtain ⟨p, l, e, R, s, m, args, below, meth, c, D, dT, ad0, G0, Q, base, sbase⟩ := X
  intro ho ad H locs ls hd he hs hl o1 o2
  exact lv_icmp_ge ho.1 ho.2.1 hdg ht (fun h => kt ((I_le (okv_R (okv_h o2)) (okv_R (okv_h (okv_t o2)))).mp h) ho ad H locs ls hd he hs hl o1 (okv_t (okv_t o2))) (fun h => kf (fun h9 => h ((I_le (okv_R (okv_h o2)) (okv_R (okv_h (okv_t o2)))).mpr h9)) ho ad H locs ls hd he hs hl o1 (okv_t (okv_t o2)))
theorem s_if_ge {x off : Int} {tgt : Nat} (hdg : decode K.2.1 pc = .ok (.ifCond .ge off, 3)) (ht : (pc : Int) + off = (tgt : Int)) (kt : 0 ≤ x → WP K X tgt lv st G) (kf : ¬ 0 ≤ x → WP K X (pc + 3) lv st G) : WP K X pc lv ((0, x) :: st) G := by
  obtain ⟨p, l, e, R, s, m, args, below, meth, c, D, dT, ad0, G0, Q, base, sbase⟩ := X
  intro ho ad H locs ls hd he hs hl o1 o2
  exact lv_if_ge ho.1 ho.2.1 hdg ht (fun h => kt ((I_le ⟨by decide, by decide⟩ (okv_R (okv_h o2))).mp h) ho ad H locs ls hd he hs hl o1 (okv_t o2)) (fun h => kf (fun h9 => h ((I_le ⟨by decide, by decide⟩ (okv_R (okv_h o2))).mpr h9)) ho ad H locs ls hd he hs hl o1 (okv_t o2))
theorem s_icmp_gt {x y off : Int} {tgt : Nat} (hdg : decode K.2.1 pc = .ok (.if_icmp .gt off, 3)) (ht : (pc : Int) + off = (tgt : Int)) (kt : y < x → WP K X tgt lv st G) (kf : ¬ y < x → WP K X (pc + 3) lv st G) : WP K X pc lv ((0, y) :: (0, x) :: st) G := by
  obtain ⟨p, l, e, R, s, m, args, below, meth, c, D, dT, ad0, G0, Q, base, sbase⟩ := X
  intro ho ad H locs ls hd he hs hl o1 o2
  exact lv_icmp_gt ho.1 ho.2.1 hdg ht (fun h => kt ((I_lt (okv_R (okv_h o2)) (okv_R (okv_h (okv_t o2)))).mp h) ho ad H locs ls hd he hs hl o1 (okv_t (okv_t o2))) (fun h => kf (fun h9 => h ((I_lt (okv_R (okv_h o2)) (okv_R (okv_h (okv_t o2)))).mpr h9)) ho ad H locs ls hd he hs hl o1 (okv_t (okv_t o2)))
theorem s_if_gt {x off : Int} {tgt : Nat} (hdg : decode K.2.1 pc = .ok (.ifCond .gt off, 3)) (ht : (pc : Int) + off = (tgt : Int)) (kt : 0 < x → WP K X tgt lv st G) (kf : ¬ 0 < x → WP K X (pc + 3) lv st G) : WP K X pc lv ((0, x) :: st) G := by
  obtain ⟨p, l, e, R, s, m, args, below, meth, c, D, dT, ad0, G0, Q, base, sbase⟩ := X
  intro ho ad H locs ls hd he hs hl o1 o2
  exact lv_if_gt ho.1 ho.2.1 hdg ht (fun h => kt ((I_lt ⟨by decide, by decide⟩ (okv_R (okv_h o2))).mp h) ho ad H locs ls hd he hs hl o1 (okv_t o2)) (fun h => kf (fun h9 => h ((I_lt ⟨by decide, by decide⟩ (okv_R (okv_h o2))).mpr h9)) ho ad H locs ls hd he hs hl o1 (okv_t o2))
theorem s_icmp_le {x y off : Int} {tgt : Nat} (hdg : decode K.2.1 pc = .ok (.if_icmp .le off, 3)) (ht : (pc : Int) + off = (tgt : Int)) (kt : x ≤ y → WP K X tgt lv st G) (kf : ¬ x ≤ y → WP K X (pc + 3) lv st G) : WP K X pc lv ((0, y) :: (0, x) :: st) G := by
  obtain ⟨p, l, e, R, s, m, args, below, meth, c, D, dT, ad0, G0, Q, base, sbase⟩ := X
  intro ho ad H locs ls hd he hs hl o1 o2
  exact lv_icmp_le ho.1 ho.2.1 hdg ht (fun h => kt ((I_le (okv_R (okv_h (okv_t o2))) (okv_R (okv_h o2))).mp h) ho ad H locs ls hd he hs hl o1 (okv_t (okv_t o2))) (fun h => kf (fun h9 => h ((I_le (okv_R (okv_h (okv_t o2))) (okv_R (okv_h o2))).mpr h9)) ho ad H locs ls hd he hs hl o1 (okv_t (okv_t o2)))
theorem s_if_le {x off : Int} {tgt : Nat} (hdg : decode K.2.1 pc = .ok (.ifCond .le off, 3)) (ht : (pc : Int) + off = (tgt : Int)) (kt : x ≤ 0 → WP K X tgt lv st G) (kf : ¬ x ≤ 0 → WP K X (pc + 3) lv st G) : WP K X pc lv ((0, x) :: st) G := by
  obtain ⟨p, l, e, R, s, m, args, below, meth, c, D, dT, ad0, G0, Q, base, sbase⟩ := X
  intro ho ad H locs ls hd he hs hl o1 o2
  exact lv_if_le ho.1 ho.2.1 hdg ht (fun h => kt ((I_le (okv_R (okv_h o2)) ⟨by decide, by decide⟩).mp h) ho ad H locs ls hd he hs hl o1 (okv_t o2)) (fun h => kf (fun h9 => h ((I_le (okv_R (okv_h o2)) ⟨by decide, by decide⟩).mpr h9)) ho ad H locs ls hd he hs hl o1 (okv_t o2))
theorem s_icmp_ne {x y off : Int} {tgt : Nat} (hdg : decode K.2.1 pc = .ok (.if_icmp .ne off, 3)) (ht : (pc : Int) + off = (tgt : Int)) (kt : ¬ x = y → WP K X tgt lv st G) (kf : x = y → WP K X (pc + 3) lv st G) : WP K X pc lv ((0, y) :: (0, x) :: st) G := by
  obtain ⟨p, l, e, R, s, m, args, below, meth, c, D, dT, ad0, G0, Q, base, sbase⟩ := X
  intro ho ad H locs ls hd he hs hl o1 o2
  have i9 := I_inj (okv_R (okv_h (okv_t o2))) (okv_R (okv_h o2))
  exact lv_icmp_ne ho.1 ho.2.1 hdg ht (fun h => kt (fun h9 => h (i9.mpr h9)) ho ad H locs ls hd he hs hl o1 (okv_t (okv_t o2))) (fun h => kf (i9.mp h) ho ad H locs ls hd he hs hl o1 (okv_t (okv_t o2)))
theorem s_if_ne {x off : Int} {tgt : Nat} (hdg : decode K.2.1 pc = .ok (.ifCond .ne off, 3)) (ht : (pc : Int) + off = (tgt : Int)) (kt : ¬ x = 0 → WP K X tgt lv st G) (kf : x = 0 → WP K X (pc + 3) lv st G) : WP K X pc lv ((0, x) :: st) G := by
  obtain ⟨p, l, e, R, s, m, args, below, meth, c, D, dT, ad0, G0, Q, base, sbase⟩ := X
  intro ho ad H locs ls hd he hs hl o1 o2
  have i9 := I_inj (okv_R (okv_h o2)) (b := 0) ⟨by decide, by decide⟩
  exact lv_if_ne ho.1 ho.2.1 hdg ht (fun h => kt (fun h9 => h (i9.mpr h9)) ho ad H locs ls hd he hs hl o1 (okv_t o2)) (fun h => kf (i9.mp h) ho ad H locs ls hd he hs hl o1 (okv_t o2))
theorem cat1 {ad : Nat → Nat} {v : LV} (h : v.1 ≠ 1) : (rv ad v).category = 1 := by
  have h1 := fun q => h ((rv_cat (ad := ad) v).mp q)
  cases hv : rv ad v <;> first | rfl | (rw [hv] at h1; exact absurd rfl h1)
theorem s_goto {off : Int} {tgt : Nat} (hdg : decode K.2.1 pc = .ok (.goto off, 3)) (ht : (pc : Int) + off = (tgt : Int)) (kk : WP K X tgt lv st G) : WP K X pc lv st G := by
  obtain ⟨p, l, e, R, s, m, args, below, meth, c, D, dT, ad0, G0, Q, base, sbase⟩ := X
  intro ho ad H locs ls hd he hs hl o1 o2
  exact lv_goto ho.1 ho.2.1 hdg ht (kk ho ad H locs ls hd he hs hl o1 o2)
theorem s_dup {v : LV} (hdg : decode K.2.1 pc = .ok (.dup, 1)) (hc : v.1 ≠ 1) (kk : WP K X (pc + 1) lv (v :: v :: st) G) : WP K X pc lv (v :: st) G := by
  obtain ⟨p, l, e, R, s, m, args, below, meth, c, D, dT, ad0, G0, Q, base, sbase⟩ := X
  intro ho ad H locs ls hd he hs hl o1 o2
  exact lv_dup ho.1 ho.2.1 hdg (cat1 hc) (kk ho ad H locs ls hd he hs hl o1 (okv_c (okv_h o2) o2))
theorem s_pop {v : LV} (hdg : decode K.2.1 pc = .ok (.pop, 1)) (hc : v.1 ≠ 1) (kk : WP K X (pc + 1) lv st G) : WP K X pc lv (v :: st) G := by
  obtain ⟨p, l, e, R, s, m, args, below, meth, c, D, dT, ad0, G0, Q, base, sbase⟩ := X
  intro ho ad H locs ls hd he hs hl o1 o2
  exact lv_pop ho.1 ho.2.1 hdg (cat1 hc) (kk ho ad H locs ls hd he hs hl o1 (okv_t o2))
theorem s_dup2 {v w : LV} (hdg : decode K.2.1 pc = .ok (.dup2, 1)) (hc : v.1 ≠ 1) (hc2 : w.1 ≠ 1) (kk : WP K X (pc + 1) lv (v :: w :: v :: w :: st) G) : WP K X pc lv (v :: w :: st) G := by
  obtain ⟨p, l, e, R, s, m, args, below, meth, c, D, dT, ad0, G0, Q, base, sbase⟩ := X
  intro ho ad H locs ls hd he hs hl o1 o2
  exact lv_dup2_11 ho.1 ho.2.1 hdg (cat1 hc) (cat1 hc2) (kk ho ad H locs ls hd he hs hl o1 (okv_c (okv_h o2) (okv_c (okv_h (okv_t o2)) o2)))
theorem s_dup_x1 {v w : LV} (hdg : decode K.2.1 pc = .ok (.dup_x1, 1)) (hc : v.1 ≠ 1) (hc2 : w.1 ≠ 1) (kk : WP K X (pc + 1) lv (v :: w :: v :: st) G) : WP K X pc lv (v :: w :: st) G := by
  obtain ⟨p, l, e, R, s, m, args, below, meth, c, D, dT, ad0, G0, Q, base, sbase⟩ := X
  intro ho ad H locs ls hd he hs hl o1 o2
  exact lv_dup_x1 ho.1 ho.2.1 hdg (cat1 hc) (cat1 hc2) (kk ho ad H locs ls hd he hs hl o1 (okv_c (okv_h o2) (okv_c (okv_h (okv_t o2)) (okv_c (okv_h o2) (okv_t (okv_t o2))))))
theorem i_divE {x y : Int} (hx : inR x) (h0 : 0 ≤ x) (hy : 0 < y) (hy2 : inR y) : Int32.ofInt x / Int32.ofInt y = Int32.ofInt (x / y) := by
  apply Int32.toInt_inj.mp
  have h1 : x / y ≤ x := Int.ediv_le_self _ h0
  have h2 : 0 ≤ x / y := Int.ediv_nonneg h0 (by omega)
  rw [Int32.toInt_div, I_toInt hx, I_toInt hy2, I_toInt ⟨by omega, by omega⟩, Int.tdiv_eq_ediv_of_nonneg h0]
  exact Int.bmod_eq_of_le (by omega) (by omega)
theorem s_idiv {x y : Int} (hdg : decode K.2.1 pc = .ok (.idiv, 1)) (h0 : 0 ≤ x) (hy : 0 < y) (kk : WP K X (pc + 1) lv ((0, x / y) :: st) G) : WP K X pc lv ((0, y) :: (0, x) :: st) G := by
  obtain ⟨p, l, e, R, s, m, args, below, meth, c, D, dT, ad0, G0, Q, base, sbase⟩ := X
  intro ho ad H locs ls hd he hs hl o1 o2
  have hy2 := okv_R (okv_h o2)
  have hx := okv_R (okv_h (okv_t o2))
  have h1 : x / y ≤ x := Int.ediv_le_self _ h0
  have h2 : 0 ≤ x / y := Int.ediv_nonneg h0 (by omega)
  have k9 := kk ho ad H locs ls hd he hs hl o1 (okv_c (okv_i ⟨by omega, by omega⟩) (okv_t (okv_t o2)))
  have e9 : rv ad (0, x / y) = .int (Int32.ofInt x / Int32.ofInt y) := congrArg Value.int (i_divE hx h0 hy hy2).symm
  rw [List.map_cons, e9] at k9
  exact lv_idiv ho.1 ho.2.1 hdg (fun h => by have := (I_inj hy2 (b := 0) ⟨by decide, by decide⟩).mp h; omega) k9
theorem s_irem {x y : Int} (hdg : decode K.2.1 pc = .ok (.irem, 1)) (h0 : 0 ≤ x) (hy : 0 < y) (kk : WP K X (pc + 1) lv ((0, x % y) :: st) G) : WP K X pc lv ((0, y) :: (0, x) :: st) G := by
  obtain ⟨p, l, e, R, s, m, args, below, meth, c, D, dT, ad0, G0, Q, base, sbase⟩ := X
  intro ho ad H locs ls hd he hs hl o1 o2
  have hy2 := okv_R (okv_h o2)
  have hx := okv_R (okv_h (okv_t o2))
  have h1 : x % y < y := Int.emod_lt_of_pos x hy
  have h2 : 0 ≤ x % y := Int.emod_nonneg x (by omega)
  have k9 := kk ho ad H locs ls hd he hs hl o1 (okv_c (okv_i ⟨by omega, by omega⟩) (okv_t (okv_t o2)))
  have e8 : Int32.ofInt (x % y) = Int32.ofInt x - Int32.ofInt x / Int32.ofInt y * Int32.ofInt y := by
    rw [i_divE hx h0 hy hy2, ← Int32.ofInt_mul, ← Int32.ofInt_sub]
    congr 1
    rw [Int.emod_def, Int.mul_comm]
  have e9 : rv ad (0, x % y) = .int (Int32.ofInt x - Int32.ofInt x / Int32.ofInt y * Int32.ofInt y) := congrArg Value.int e8
  rw [List.map_cons, e9] at k9
  exact lv_irem ho.1 ho.2.1 hdg (fun h => by have := (I_inj hy2 (b := 0) ⟨by decide, by decide⟩).mp h; omega) k9
theorem s_ineg {x : Int} (hdg : decode K.2.1 pc = .ok (.ineg, 1)) (hr : inR (-x)) (kk : WP K X (pc + 1) lv ((0, -x) :: st) G) : WP K X pc lv ((0, x) :: st) G := by
  obtain ⟨p, l, e, R, s, m, args, below, meth, c, D, dT, ad0, G0, Q, base, sbase⟩ := X
  intro ho ad H locs ls hd he hs hl o1 o2
  have k9 := kk ho ad H locs ls hd he hs hl o1 (okv_c (okv_i hr) (okv_t o2))
  have e9 : rv ad (0, -x) = .int (-Int32.ofInt x) := congrArg Value.int (Int32.ofInt_neg x)
  rw [List.map_cons, e9] at k9
  exact lv_ineg ho.1 ho.2.1 hdg k9
theorem L_lt {a b : Int} (ha : inL a) (hb : inL b) : (Int64.ofInt a < Int64.ofInt b) ↔ a < b := by rw [Int64.lt_iff_toInt_lt, L_toInt ha, L_toInt hb]
theorem L_inj {a b : Int} (ha : inL a) (hb : inL b) : (Int64.ofInt a = Int64.ofInt b) ↔ a = b := ⟨fun h => by have := congrArg Int64.toInt h; rwa [L_toInt ha, L_toInt hb] at this, fun h => by rw [h]⟩
/-- a switch by a table: the case that is met, or none -/
theorem s_tableIn {dflt lo hi : Int} {offs : Array Int} {len : Nat} {x off : Int} {tgt : Nat} (hdg : decode K.2.1 pc = .ok (.tableswitch dflt lo hi offs, len)) (h1 : lo ≤ x) (h2 : x ≤ hi) (ho9 : offs[(x - lo).toNat]? = some off) (ht : (pc : Int) + off = (tgt : Int)) (kk : WP K X tgt lv st G) : WP K X pc lv ((0, x) :: st) G := by
  obtain ⟨p, l, e, R, s, m, args, below, meth, c, D, dT, ad0, G0, Q, base, sbase⟩ := X
  intro ho ad H locs ls hd he hs hl o1 o2
  have e := I_toInt (okv_R (okv_h o2))
  exact lv_tableIn ho.1 ho.2.1 hdg (by rw [e]; omega) (by rw [e]; omega) (by rw [e]; exact ho9) ht (kk ho ad H locs ls hd he hs hl o1 (okv_t o2))
theorem s_tableOut {dflt lo hi : Int} {offs : Array Int} {len : Nat} {x : Int} {tgt : Nat} (hdg : decode K.2.1 pc = .ok (.tableswitch dflt lo hi offs, len)) (h : x < lo ∨ hi < x) (ht : (pc : Int) + dflt = (tgt : Int)) (kk : WP K X tgt lv st G) : WP K X pc lv ((0, x) :: st) G := by
  obtain ⟨p, l, e, R, s, m, args, below, meth, c, D, dT, ad0, G0, Q, base, sbase⟩ := X
  intro ho ad H locs ls hd he hs hl o1 o2
  have e := I_toInt (okv_R (okv_h o2))
  exact lv_tableOut ho.1 ho.2.1 hdg (by rw [e]; exact h) ht (kk ho ad H locs ls hd he hs hl o1 (okv_t o2))
end PURE
