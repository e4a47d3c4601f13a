/-! NEW CELLS -/
/-- the world with the new cell n: its kind, its length, how many slots, what it holds -/
def gnew (G : LG) (n k L sl : Nat) (d : Nat → Int) : LG := (fun x y => if x = n then d y else gS G x y, fun x => if x = n then (k, L) else gK G x, gc G + 1, gs G + sl)
theorem gnew_at (G : LG) (n k L sl : Nat) (d : Nat → Int) : gS (gnew G n k L sl d) n = d := by funext y; exact if_pos rfl
theorem gnew_ne (G : LG) {n x : Nat} (k L sl : Nat) (d : Nat → Int) (h : x ≠ n) : gS (gnew G n k L sl d) x = gS G x := by funext y; exact if_neg h
theorem gnew_K (G : LG) (n k L sl : Nat) (d : Nat → Int) : gK (gnew G n k L sl d) n = (k, L) := if_pos rfl
theorem gnew_Kne (G : LG) {n x : Nat} (k L sl : Nat) (d : Nat → Int) (h : x ≠ n) : gK (gnew G n k L sl d) x = gK G x := if_neg h
theorem arrV_cg {cI : ClassId} {N : Nat} {f g : Nat → Value} (h : ∀ j, j < N → f j = g j) : arrV cI N f = arrV cI N g := by
  have e : (fun j : Fin N => f j.val) = fun j : Fin N => g j.val := by funext j; exact h j.val j.isLt
  unfold arrV
  rw [e]
theorem nmv_mv {ad ad' : Nat → Nat} {G : LG} {v : Int} (hx : ∀ m, (gK G m).1 ≠ 0 → ad' m = ad m) (ho : 0 ≤ v → (gK G v.toNat).1 ≠ 0) : nmv ad' v = nmv ad v := by
  unfold nmv
  by_cases hv : v < 0
  · rw [if_pos hv, if_pos hv]
  · rw [if_neg hv, if_neg hv, hx _ (ho (Int.not_lt.mp hv))]
theorem rv_mv {ad ad' : Nat → Nat} {G : LG} {v : LV} (hx : ∀ m, (gK G m).1 ≠ 0 → ad' m = ad m) (hv : okv G v) : rv ad' v = rv ad v := by
  obtain ⟨t, k⟩ := v
  match t, hv with
  | 0, _ => rfl
  | 1, _ => rfl
  | t + 2, hv =>
    show va_rf (nmv ad' k) = va_rf (nmv ad k)
    rw [nmv_mv hx (hv.2.2 (Nat.le_add_left 2 t))]
theorem at_mv {dT : Nat → ClassId} {D : va_G} {ad ad' : Nat → Nat} {G G' : LG} {H : Heap} {n q : Nat} (hK : gK G' n = gK G n) (hS : gS G' n = gS G n) (ho : ∀ j, j < lw_len (gK G n) → okv G (lw_st (gK G n).1 j, gS G n j)) (hx : ∀ m, (gK G m).1 ≠ 0 → ad' m = ad m) (h : va_at D vwCl (q, lw_E dT ad G n) H) : va_at D vwCl (q, lw_E dT ad' G' n) H := by
  rcases e : gK G n with ⟨k, N⟩
  rw [e] at ho
  unfold lw_E at h ⊢
  rw [hK, hS]
  rw [e] at h ⊢
  match k, h, ho with
  | 0, h, _ => exact h
  | 1, h, _ => exact h
  | 2, h, _ => exact h
  | 3, h, _ => exact h
  | 4, h, ho =>
    have h9 : H[q]? = some (arrV (dT 3) N (fun j => va_rf (nmv ad (gS G n j)))) := h
    show H[q]? = some (arrV (dT 3) N (fun j => va_rf (nmv ad' (gS G n j))))
    rw [h9]
    exact congrArg some (arrV_cg (fun j hj => by rw [nmv_mv (v := gS G n j) hx ((ho j hj).2.2 (Nat.le_refl 2))]))
  | 5, h, ho =>
    have h9 : H[q]? = some (arrV (dT 4) N (fun j => va_rf (nmv ad (gS G n j)))) := h
    show H[q]? = some (arrV (dT 4) N (fun j => va_rf (nmv ad' (gS G n j))))
    rw [h9]
    exact congrArg some (arrV_cg (fun j hj => by rw [nmv_mv (v := gS G n j) hx ((ho j hj).2.2 (Nat.le_refl 2))]))
  | 6, h, ho =>
    have h9 : H[q]? = some (arrV (dT 5) N (fun j => va_rf (nmv ad (gS G n j)))) := h
    show H[q]? = some (arrV (dT 5) N (fun j => va_rf (nmv ad' (gS G n j))))
    rw [h9]
    exact congrArg some (arrV_cg (fun j hj => by rw [nmv_mv (v := gS G n j) hx ((ho j hj).2.2 (Nat.le_refl 2))]))
  | 7, h, ho =>
    have h9 : H[q]? = some (arrV (dT 6) N (fun j => va_rf (nmv ad (gS G n j)))) := h
    show H[q]? = some (arrV (dT 6) N (fun j => va_rf (nmv ad' (gS G n j))))
    rw [h9]
    exact congrArg some (arrV_cg (fun j hj => by rw [nmv_mv (v := gS G n j) hx ((ho j hj).2.2 (Nat.le_refl 2))]))
  | c + 8, h, ho =>
    have e9 : (List.range (lw_num c)).map (fun j => rv ad' (lw_sc (lw_ty c j), gS G n j)) = (List.range (lw_num c)).map (fun j => rv ad (lw_sc (lw_ty c j), gS G n j)) := List.map_congr_left (fun j hj => rv_mv hx (ho j (List.mem_range.mp hj)))
    show va_at D vwCl (q, .inr (c, (List.range (lw_num c)).map (fun j => rv ad' (lw_sc (lw_ty c j), gS G n j)))) H
    rw [e9]
    exact h
/-- the names with one more -/
def adn (ad : Nat → Nat) (n q : Nat) : Nat → Nat := fun x => if x = n then q else ad x
theorem adn_at (ad : Nat → Nat) (n q : Nat) : adn ad n q n = q := if_pos rfl
theorem adn_ne (ad : Nat → Nat) {n q x : Nat} (h : x ≠ n) : adn ad n q x = ad x := if_neg h
theorem HD_new {dT : Nat → ClassId} {D : va_G} {base sbase : Nat} {ad : Nat → Nat} {G : LG} {H H1 : Heap} {n k L sl : Nat} {d : Nat → Int} {cell : Cell} (hd : HD dT D base sbase ad G H) (hn : (gK G n).1 = 0) (hc : gc G + 1 ≤ 601024) (hsl : gs G + sl ≤ 7293034)
    (e1 : H1[H.size]? = some cell) (z1 : H1.size = H.size + 1) (oq : ∀ q, q < H.size → H1[q]? = H[q]?) (hcs : cell.slots.size = sl) (hat : va_at D vwCl (H.size, lw_E dT (adn ad n H.size) (gnew G n k L sl d) n) H1) (hok : ∀ j, j < lw_len (k, L) → okv G (lw_st k j, d j)) :
    HD dT D base sbase (adn ad n H.size) (gnew G n k L sl d) H1 ∧ Ext base ad G (adn ad n H.size) (gnew G n k L sl d) := by
  obtain ⟨d1, d2, d3, d4, d5, d6, d7⟩ := hd
  have hne : ∀ m, (gK G m).1 ≠ 0 → m ≠ n := fun m hm q => hm (by rw [q]; exact hn)
  have hx : ∀ m, (gK G m).1 ≠ 0 → adn ad n H.size m = ad m := fun m hm => adn_ne ad (hne m hm)
  have hlt : ∀ m, (gK G m).1 ≠ 0 → ad m < H.size := fun m hm => (d1 m hm).lt
  have hE : Ext base ad G (adn ad n H.size) (gnew G n k L sl d) := by
    refine ⟨fun m hm => ⟨gnew_Kne G k L sl d (hne m hm), hx m hm⟩, fun m h0 h1 => ?_, Nat.le_succ _, Nat.le_add_right _ _⟩
    by_cases hm : m = n
    · subst hm; rw [adn_at]; omega
    · rw [gnew_Kne G k L sl d hm] at h1; exact absurd h0 h1
  have hok1 : ∀ v : LV, okv G v → okv (gnew G n k L sl d) v := fun v hv => hE.okE hv
  refine ⟨⟨fun m hm => ?_, fun m y hm hy he => ?_, fun m j hm hj => ?_, ?_, ?_, hc, hsl⟩, hE⟩
  · by_cases hmn : m = n
    · subst hmn; rw [adn_at]; exact hat
    · rw [gnew_Kne G k L sl d hmn] at hm
      rw [hx m hm]
      exact at_mv (gnew_Kne G k L sl d hmn) (gnew_ne G k L sl d hmn) (fun j hj => d3 m j hm hj) hx ((d1 m hm).kept (oq _ (hlt m hm)))
  · by_cases hmn : m = n
    · by_cases hyn : y = n
      · rw [hmn, hyn]
      · rw [gnew_Kne G k L sl d hyn] at hy
        rw [hmn, adn_at, hx y hy] at he
        have := hlt y hy
        omega
    · rw [gnew_Kne G k L sl d hmn] at hm
      by_cases hyn : y = n
      · rw [hyn, adn_at, hx m hm] at he
        have := hlt m hm
        omega
      · rw [gnew_Kne G k L sl d hyn] at hy
        rw [hx m hm, hx y hy] at he
        exact d2 m y hm hy he
  · by_cases hmn : m = n
    · subst hmn
      rw [gnew_K] at hj ⊢
      rw [gnew_at]
      exact hok1 _ (hok j hj)
    · rw [gnew_Kne G k L sl d hmn] at hm hj ⊢
      rw [gnew_ne G k L sl d hmn]
      exact hok1 _ (d3 m j hm hj)
  · rw [z1, d4]; show base + gc G + 1 = base + (gc G + 1); omega
  · rw [hsz_new z1 e1 oq, d5, hcs]; show sbase + gs G + sl = sbase + (gs G + sl); omega
theorem new_core {K : KD} {p : Program} {l : Launch} {e : Env} {R : Room} {s : State} {m : MethodId} {args : Array Value} {below : List Frame} {meth : Method} {c : Code} {D : va_G} {dT : Nat → ClassId} {ad0 : Nat → Nat} {G0 : LG} {Q : State → Prop} {base sbase : Nat} (ho : okX K (p, l, e, R, s, m, args, below, meth, c, D, dT, ad0, G0, Q, base, sbase))
    {ad : Nat → Nat} {G : LG} {H H1 : Heap} {locs : List Loc} {ls : Array Slot} (hd : HD dT D base sbase ad G H) (he : Ext base ad0 G0 ad G) (hs : va_S (AG base ad0 G0) s.heap H locs) {lv : List (Option LV)} (hl : lv_is ad ls K.2.2.1 lv) (o1 : ∀ v, some v ∈ lv → okv G v) {st : List LV} (o2 : ∀ v ∈ st, okv G v)
    {n k L sl pc : Nat} {d : Nat → Int} {cell : Cell} (hn : (gK G n).1 = 0) (hk0 : k ≠ 0) (hc : gc G + 1 ≤ 601024) (hsl : gs G + sl ≤ 7293034)
    (e1 : H1[H.size]? = some cell) (z1 : H1.size = H.size + 1) (oq : ∀ q, q < H.size → H1[q]? = H[q]?) (hcs : cell.slots.size = sl) (hat : va_at D vwCl (H.size, lw_E dT (adn ad n H.size) (gnew G n k L sl d) n) H1) (hok : ∀ j, j < lw_len (k, L) → okv G (lw_st k j, d j))
    (kk : WP K (p, l, e, R, s, m, args, below, meth, c, D, dT, ad0, G0, Q, base, sbase) pc lv ((2, (n : Int)) :: st) (gnew G n k L sl d)) :
    W p l e R s m args below meth c H1 locs (H.size - s.heap.size + 1) (hsz H - hsz s.heap + sl) Q (F0 m pc ls (.ref H.size :: st.map (rv ad))) := by
  obtain ⟨hd', hE⟩ := HD_new hd hn hc hsl e1 z1 oq hcs hat hok
  have hs1 := hs.1
  have z5 : hsz H1 = hsz H + sl := by rw [hsz_new z1 e1 oq, hcs]
  have z6 : hsz s.heap ≤ hsz H := by
    have h1 := hd.2.2.2.2.1
    have h2 := ho.2.2.2.2.2.2.2.2.2.2.2.2.2
    have h3 := he.2.2.2
    omega
  have hs' : va_S (AG base ad0 G0) s.heap H1 locs := ⟨by omega, fun x h1 h2 => (oq x (Nat.lt_of_lt_of_le h1 hs.1)).trans (hs.2.1 x h1 h2), hs.2.2⟩
  have hl' : lv_is (adn ad n H.size) ls K.2.2.1 lv := ⟨hl.1, hl.2.1, fun j w hk => by rw [hE.rvE (okv_lv o1 hk)]; exact hl.2.2 j w hk⟩
  have hkn : (gK (gnew G n k L sl d) n).1 ≠ 0 := by rw [gnew_K]; exact hk0
  have k9 := kk ho (adn ad n H.size) H1 locs ls hd' (he.trans hE) hs' hl' (fun w hw => hE.okE (o1 w hw)) (okv_c (okv_r (fun _ => by rw [Int.toNat_natCast]; exact hkn)) (fun w hw => hE.okE (o2 w hw)))
  have e9 : rv (adn ad n H.size) (2, (n : Int)) = .ref H.size := by
    show va_rf (nmv (adn ad n H.size) (n : Int)) = .ref H.size
    unfold nmv
    rw [if_neg (by omega), Int.toNat_natCast, adn_at]
    rfl
  rw [List.map_cons, e9, hE.rvsE o2, z1, z5, Nat.sub_add_comm hs1, Nat.sub_add_comm z6] at k9
  exact k9
section MAKES
variable {K : KD} {X : CX} {pc : Nat} {lv lv' : List (Option LV)} {st : List LV} {G : LG}
theorem room_new {K : KD} {p : Program} {l : Launch} {e : Env} {R : Room} {s : State} {m : MethodId} {args : Array Value} {below : List Frame} {meth : Method} {c : Code} {D : va_G} {dT : Nat → ClassId} {ad0 : Nat → Nat} {G0 : LG} {Q : State → Prop} {base sbase : Nat} (ho : okX K (p, l, e, R, s, m, args, below, meth, c, D, dT, ad0, G0, Q, base, sbase))
    {ad : Nat → Nat} {G : LG} {H : Heap} (hd : HD dT D base sbase ad G H) (he : Ext base ad0 G0 ad G) {a b : Nat} (hc : gc G + a ≤ 601024) (hs : gs G + b ≤ 7293034) : H.size - s.heap.size + a ≤ R.cells ∧ hsz H - hsz s.heap + b ≤ R.slots := by
  obtain ⟨-, -, -, -, -, -, -, -, -, -, -, ⟨r1, r2, r3⟩, r4, r5⟩ := ho
  obtain ⟨-, -, -, d4, d5, d6, d7⟩ := hd
  have e3 := he.2.2.1
  have e4 := he.2.2.2
  exact ⟨by omega, by omega⟩
theorem s_newI (n N : Nat) {v : Int} (hdg : decode K.2.1 pc = .ok (.newarray .int, 2)) (hv : v = (N : Int)) (hN : N ≤ 134217728) (hn : (gK G n).1 = 0) (hc : gc G + 1 ≤ 601024) (hs9 : gs G + N ≤ 7293034) (kk : WP K X (pc + 2) lv ((2, (n : Int)) :: st) (gnew G n 1 N N (fun _ => 0))) : WP K X pc lv ((0, v) :: st) G := by
  obtain ⟨p, l, e, R, s, m, args, below, meth, c, D, dT, ad0, G0, Q, base, sbase⟩ := X
  intro ho ad H locs ls hd he hs hl o1 o2
  subst hv
  have hr := okv_R (okv_h o2)
  obtain ⟨hc1, hs1⟩ := room_new ho hd he hc hs9
  refine va_newaK (atype := .int) (N := N) ho.1 ho.2.1 (ho.2.2.2.2.1 _ m_1) rfl hdg rfl (by rw [Int32.lt_iff_toInt_lt, I_toInt hr]; exact fun h => absurd h (by simp)) (by rw [I_clamp (by omega) hr.2]; omega) (by show N * 4 ≤ _; omega) hc1 hs1 rfl fun H1 cA e1 z1 oq hAr hNm => ?_
  have ec : cA = dT 0 := Option.some.inj (hNm.symm.trans (ho.2.2.2.2.2.2.2.2.1.2 0 _ rfl).2)
  subst ec
  refine new_core ho hd he hs hl o1 (okv_t o2) hn (by decide) hc hs9 e1 z1 oq (arrV_size _ _ _) ?_ (fun j hj => okv_i ⟨by decide, by decide⟩) kk
  unfold lw_E
  rw [gnew_K]
  show H1[H.size]? = some (arrV (dT 0) N (fun j => .int (Int32.ofInt (gS (gnew G n 1 N N (fun _ => 0)) n j))))
  rw [gnew_at]
  exact e1
theorem s_newZ (n N : Nat) {v : Int} (hdg : decode K.2.1 pc = .ok (.newarray .boolean, 2)) (hv : v = (N : Int)) (hN : N ≤ 134217728) (hn : (gK G n).1 = 0) (hc : gc G + 1 ≤ 601024) (hs9 : gs G + N ≤ 7293034) (kk : WP K X (pc + 2) lv ((2, (n : Int)) :: st) (gnew G n 2 N N (fun _ => 0))) : WP K X pc lv ((0, v) :: st) G := by
  obtain ⟨p, l, e, R, s, m, args, below, meth, c, D, dT, ad0, G0, Q, base, sbase⟩ := X
  intro ho ad H locs ls hd he hs hl o1 o2
  subst hv
  have hr := okv_R (okv_h o2)
  obtain ⟨hc1, hs1⟩ := room_new ho hd he hc hs9
  refine va_newaK (atype := .boolean) (N := N) ho.1 ho.2.1 (ho.2.2.2.2.1 _ m_0) rfl hdg rfl (by rw [Int32.lt_iff_toInt_lt, I_toInt hr]; exact fun h => absurd h (by simp)) (by rw [I_clamp (by omega) hr.2]; omega) (by show N * 1 ≤ _; omega) hc1 hs1 rfl fun H1 cA e1 z1 oq hAr hNm => ?_
  have ec : cA = dT 2 := Option.some.inj (hNm.symm.trans (ho.2.2.2.2.2.2.2.2.1.2 2 _ rfl).2)
  subst ec
  refine new_core ho hd he hs hl o1 (okv_t o2) hn (by decide) hc hs9 e1 z1 oq (arrV_size _ _ _) ?_ (fun j hj => okv_i ⟨by decide, by decide⟩) kk
  unfold lw_E
  rw [gnew_K]
  show H1[H.size]? = some (arrV (dT 2) N (fun j => .int (Int32.ofInt (gS (gnew G n 2 N N (fun _ => 0)) n j))))
  rw [gnew_at]
  exact e1
theorem s_newL (n N : Nat) {v : Int} (hdg : decode K.2.1 pc = .ok (.newarray .long, 2)) (hv : v = (N : Int)) (hN : N ≤ 67108864) (hn : (gK G n).1 = 0) (hc : gc G + 1 ≤ 601024) (hs9 : gs G + N ≤ 7293034) (kk : WP K X (pc + 2) lv ((2, (n : Int)) :: st) (gnew G n 3 N N (fun _ => 0))) : WP K X pc lv ((0, v) :: st) G := by
  obtain ⟨p, l, e, R, s, m, args, below, meth, c, D, dT, ad0, G0, Q, base, sbase⟩ := X
  intro ho ad H locs ls hd he hs hl o1 o2
  subst hv
  have hr := okv_R (okv_h o2)
  obtain ⟨hc1, hs1⟩ := room_new ho hd he hc hs9
  refine va_newaK (atype := .long) (N := N) ho.1 ho.2.1 (ho.2.2.2.2.1 _ m_2) rfl hdg rfl (by rw [Int32.lt_iff_toInt_lt, I_toInt hr]; exact fun h => absurd h (by simp)) (by rw [I_clamp (by omega) hr.2]; omega) (by show N * 8 ≤ _; omega) hc1 hs1 rfl fun H1 cA e1 z1 oq hAr hNm => ?_
  have ec : cA = dT 1 := Option.some.inj (hNm.symm.trans (ho.2.2.2.2.2.2.2.2.1.2 1 _ rfl).2)
  subst ec
  refine new_core ho hd he hs hl o1 (okv_t o2) hn (by decide) hc hs9 e1 z1 oq (arrV_size _ _ _) ?_ (fun j hj => okv_l ⟨by decide, by decide⟩) kk
  unfold lw_E
  rw [gnew_K]
  show H1[H.size]? = some (arrV (dT 1) N (fun j => .long (Int64.ofInt (gS (gnew G n 3 N N (fun _ => 0)) n j))))
  rw [gnew_at]
  exact e1
/-- what a new object's fields hold -/
def lw_d (ci : Nat) : Nat → Int := fun j => if lw_sc (lw_ty ci j) = 2 then -1 else 0
theorem lw_sc_le (t : FieldType) : lw_sc t = 0 ∨ lw_sc t = 1 ∨ lw_sc t = 2 := by cases t <;> first | exact Or.inl rfl | exact Or.inr (Or.inl rfl) | exact Or.inr (Or.inr rfl)
theorem s_new (n : Nat) {ci idx N : Nat} {C : String} {T : u_T} (hdg : decode K.2.1 pc = .ok (.new idx, 3)) (hcl : Cond.classLink K.1 idx C ∈ WALL) (hinst : Cond.instantiable C N ∈ WALL) (hini : Cond.initialized C ∈ WALL) (hci : vwCl[ci]? = some (C, T, N)) (hin : ∀ w ∈ u_ws C T N, w ∈ WALL) (hN : lw_num ci = N)
    (hty : ∀ k, k < N → parseFieldDescriptor (T k).2.2.1 = some (lw_ty ci k)) (hfs : ∀ ad : Nat → Nat, ∀ j, j < N → defaultValue (lw_ty ci j) = vp_V ((List.range (lw_num ci)).map (fun j => rv ad (lw_sc (lw_ty ci j), lw_d ci j))) j)
    (hn : (gK G n).1 = 0) (hc : gc G + 1 ≤ 601024) (hs9 : gs G + N ≤ 7293034) (kk : WP K X (pc + 3) lv ((2, (n : Int)) :: st) (gnew G n (ci + 8) 0 N (lw_d ci))) : WP K X pc lv st G := by
  obtain ⟨p, l, e, R, s, m, args, below, meth, c, D, dT, ad0, G0, Q, base, sbase⟩ := X
  intro ho ad H locs ls hd he hs hl o1 o2
  obtain ⟨hc1, hs1⟩ := room_new ho hd he hc hs9
  have hts := ho.2.2.2.2.1
  have hKn := ho.2.2.2.2.2.2.2.2.1.1 ci _ hci
  refine W.newcK ho.1 ho.2.1 ho.2.2.2.1 (hts _ hcl) (hts _ hinst) (hts _ hini) rfl hdg hc1 hs1 hKn.2.1 rfl fun H1 kC hkC e1 z1 oq => ?_
  have hb := (u_born (lw_ty ci) hts hin hKn hkC e1 hty).to (hfs (adn ad n H.size))
  have hsize : (blank (D.1 ci) kC).slots.size = N := by
    obtain ⟨c1, k1, hf1, hk1, -, -, -, hn1⟩ := Cond.instantiable_spec (hts _ hinst)
    cases hKn.2.1.symm.trans hf1
    cases hkC.symm.trans hk1
    show (kC.instanceTypes.map defaultValue).size = N
    rw [Array.size_map]
    exact hn1
  refine new_core ho hd he hs hl o1 o2 hn (Nat.succ_ne_zero _) hc hs9 e1 z1 oq hsize ?_ (fun j hj => ?_) kk
  · unfold lw_E
    rw [gnew_K]
    show va_at D vwCl (H.size, .inr (ci, (List.range (lw_num ci)).map (fun j => rv (adn ad n H.size) (lw_sc (lw_ty ci j), gS (gnew G n (ci + 8) 0 N (lw_d ci)) n j)))) H1
    rw [gnew_at]
    exact ⟨_, hci, hb⟩
  · show okv G (lw_sc (lw_ty ci j), lw_d ci j)
    unfold lw_d
    rcases lw_sc_le (lw_ty ci j) with h | h | h
    · rw [h, if_neg (by decide)]; exact okv_i ⟨by decide, by decide⟩
    · rw [h, if_neg (by decide)]; exact okv_l ⟨by decide, by decide⟩
    · rw [h, if_pos rfl]; exact okv_r (fun q => absurd q (by decide))
/-- the method's name -/
def nmX (X : CX) : String := X.2.2.2.2.2.2.2.2.1.name
theorem goodI_of {K : KD} {y : MethodName} {f : Nat} {T : TR} (hy : plainName y.cls = true) (hh : K.2.2.2.2 = []) (hc : K.1 = y.cls) (hlen : ∀ as G Qr, T as G Qr → (lv_as as).length ≤ K.2.2.1)
    (h : ∀ (X : CX) (as : List LV) (G : LG) (Qr : RS → LG → Prop), cf X = f → RetX X Qr → nmX X = y.name → T as G Qr → (∀ v ∈ as, okv G v) → WP K X 0 (lv_as as ++ List.replicate (K.2.2.1 - (lv_as as).length) none) [] G) : Good K y f T := by
  intro l hfl dT D base sbase as G Qr hT oa ad
  refine vx_ofW (cc := K.2.1) (maxL := K.2.2.1) (ret := K.2.2.2.1) hy rfl ?_
  intro p e s m args below meth c s₁ B hml hnt hv
  obtain ⟨ha, hd, hK, hE⟩ := hv
  have hts : ∀ w ∈ wsK K y, w.before args s = true := atoms_spec (ws := wsK K y) B.pre
  have hown : s.vm.findClass K.1 = some m.cls := by rw [hc]; exact findClass_of_methodNamed B.named
  have h0 : c.exceptionTable.toList = tableOf K.2.2.2.2 := by
    rw [hh]
    exact List.eq_nil_iff_forall_not_mem.mpr (fun x hx => hnt x hx)
  have hg1 := hd.2.2.2.2.2.1
  have hg2 := hd.2.2.2.2.2.2
  have hnm : meth.name = y.name := (name_of_methodNamed B.named B.method).1
  have ho : okX K (p, l, e, (headSpec (wsK K y) (rmF f G)).room, s, m, args, below, meth, c, D, dT, ad, G, vx_MQ below (QcG dT D base sbase ad G Qr) (XcG dT D base sbase ad G Qr) args s (601024 - gc G) (7293034 - gs G) (AG base ad G), base, sbase) :=
    ⟨B.exec, B.bytes, hml, hown, fun w hw => hts w (List.mem_cons_of_mem _ hw), B.notSynchronized, B.returns, h0, hK, hE, hfl, ⟨by show 601024 - gc G + gc G = _; omega, by show 7293034 - gs G + gs G = _; omega, rfl⟩, hd.2.2.2.1, hd.2.2.2.2.1⟩
  exact entry_of (K := K) (X := (p, l, e, (headSpec (wsK K y) (rmF f G)).room, s, m, args, below, meth, c, D, dT, ad, G, vx_MQ below (QcG dT D base sbase ad G Qr) (XcG dT D base sbase ad G Qr) args s (601024 - gc G) (7293034 - gs G) (AG base ad G), base, sbase)) (hlen as G Qr hT) (h _ as G Qr rfl rfl hnm hT oa) ho ha oa hd
theorem s_putF {ci k idx N : Nat} {C : String} {T : u_T} {n L : Nat} {v : Int} {t : Nat} (hdg : decode K.2.1 pc = .ok (.putfield idx, 3)) (hc : vwCl[ci]? = some (C, T, N)) (hin : ∀ w ∈ u_ws C T N, w ∈ WALL) (hlink : Cond.fieldLink K.1 idx (T k).1 (T k).2.1 (T k).2.2.1 ∈ WALL) (hkN : k < N) (hN : lw_num ci = N) (ht : lw_sc (lw_ty ci k) = t)
    (hty : ∀ k, k < N → parseFieldDescriptor (T k).2.2.1 = some (lw_ty ci k)) (hnm : ∀ a, a < N → ∀ b, b < N → a ≠ b → (T a).2.1 ≠ (T b).2.1) (hfin : (T k).2.2.2 = true) (hini : nmX X = "<init>") (hdecl : (T k).1 = K.1) (hfit : (lw_ty ci k = .int) ∨ (lw_ty ci k = .boolean ∧ (v = 0 ∨ v = 1)) ∨ lw_ty ci k = .long ∨ (∃ C, lw_ty ci k = .object C) ∨ (∃ t, lw_ty ci k = .array t))
    (hk : gK G n = (ci + 8, L)) (kk : WP K X (pc + 3) lv st (gset G n k v)) : WP K X pc lv ((t, v) :: (2, (n : Int)) :: st) G := by
  obtain ⟨p, l, e, R, s, m, args, below, meth, c, D, dT, ad0, G0, Q, base, sbase⟩ := X
  intro ho ad H locs ls hd he hs hl o1 o2
  subst ht
  have hn : (gK G n).1 ≠ 0 := kne hk (Nat.succ_ne_zero _)
  have hK := ho.2.2.2.2.2.2.2.2.1
  have hts := ho.2.2.2.2.1
  have hap := va_apart (own := K.1) hts hin (lw_ty ci) hty hnm hK hc
  obtain ⟨r, h1, cell, q1, q2, q3, q4⟩ := at_o hk (hd.1 n hn)
  have hr : r = (C, T, N) := Option.some.inj (h1.symm.trans hc)
  subst hr
  obtain ⟨hS, hfc, kC, hkC, hkind⟩ := hK.1 ci _ hc
  obtain ⟨cf, kf, fi, f, hi, hsl⟩ := hS k hkN
  have hlay := hts _ (hin _ (u_in_lay hkN))
  unfold u_lay at hlay
  rw [if_pos hfin] at hlay
  have hst := (u_facts hfc hkC (u_lays hts hin hkN) hi).1
  have hcf : m.cls = cf := by
    obtain ⟨_, _, c', _, _, _, -, -, hf', -, -, -, hown2, -⟩ := Cond.laysFinal_spec hlay
    have e1 : c' = cf := by have := hi.symm.trans hf'; simp at this; exact this.1.symm
    rw [hdecl] at hown2
    rw [← e1]; exact Option.some.inj (ho.2.2.2.1.symm.trans hown2)
  obtain ⟨f1, f2⟩ := fit_sc (ad := ad) hfit
  have h6 := u_fits hfc hkC hkind (Or.inr hlay) hi (hty k hkN) f1 f2
  rw [List.map_cons, List.map_cons, nmv_ref (Int.natCast_nonneg n)]
  refine W.putFinK ho.1 ho.2.1 ho.2.2.2.1 (hts _ hlink) hi hst hcf hini (by rw [q2]; exact h6) q1 q3 (by rw [hsl]; exact k2_hasslot (q4 k hkN)) rfl rfl hdg fun H1 e9 z9 oq => ?_
  have hd' := HD_putf hd hk hkN hN (okv_h o2) hc hap hsl q1 q2 q3 q4 e9 z9 oq
  have k9 := kk ho ad H1 _ ls hd' he (hs.put (k := f.slot) z9 oq (he.in hn)) hl o1 (okv_t (okv_t o2))
  have z5 : hsz H1 = hsz H := hd'.2.2.2.2.1.trans hd.2.2.2.2.1.symm
  rw [z9, z5] at k9
  exact k9
theorem s_objInit {idx n : Nat} (hdg : decode K.2.1 pc = .ok (.invokespecial idx, 3)) (hlink : Cond.methodLink K.1 idx objectInit ∈ WALL) (hinst : Cond.instanceMethod objectInit ∈ WALL) (hcode : Cond.code objectInit ⟨#[0xb1]⟩ 1 none ∈ WALL) (hcf : 1 ≤ cf X) (hst : (st.map (fun v => if v.1 = 1 then 2 else 1)).sum ≤ 8) (kk : WP K X (pc + 3) lv st G) : WP K X pc lv ((2, (n : Int)) :: st) G := by
  obtain ⟨p, l, e, R, s, m, args, below, meth, c, D, dT, ad0, G0, Q, base, sbase⟩ := X
  intro ho ad H locs ls hd he hs hl o1 o2
  have hts := ho.2.2.2.2.1
  have hcf' : 1 ≤ R.frames := hcf
  have hloc := ho.2.2.2.2.2.2.2.2.2.2.2.1.2.2
  rw [List.map_cons, nmv_ref (Int.natCast_nonneg n)]
  refine W.objInit ho.1 ho.2.1 ho.2.2.2.1 (hts _ hlink) (hts _ hinst) (hts _ hcode) rfl (hl.1.trans ho.2.2.1.symm) rfl hdg hcf' ?_ (kk ho ad H locs ls hd he hs hl o1 (okv_t o2))
  show 2 * 0 + ((st.map (rv ad)).map fun v => v.category).sum + 12 ≤ R.locals
  rw [cat_sum]
  omega
end MAKES
