/-! cells read and written -/
/-- the world with v at place j of the cell n -/
def gset (G : LG) (n j : Nat) (v : Int) : LG := (fun x y => if x = n ∧ y = j then v else gS G x y, gK G, gc G, gs G)
theorem gset_at (G : LG) (n j : Nat) (v : Int) : gS (gset G n j v) n j = v := if_pos ⟨rfl, rfl⟩
theorem gset_ne (G : LG) {n j n' j' : Nat} (v : Int) (h : ¬ (n' = n ∧ j' = j)) : gS (gset G n j v) n' j' = gS G n' j' := if_neg h
theorem gset_K (G : LG) (n j : Nat) (v : Int) : gK (gset G n j v) = gK G := rfl
theorem gset_eq (G : LG) (n j n' j' : Nat) (v : Int) : gS (gset G n j v) n' j' = if n' = n ∧ j' = j then v else gS G n' j' := rfl
theorem hsz_go (l1 l2 : List Cell) (h : l1.length = l2.length) (hs : ∀ q : Nat, (l1[q]?).map (fun c => c.slots.size) = (l2[q]?).map (fun c => c.slots.size)) : (l1.map (fun c => c.slots.size)).sum = (l2.map (fun c => c.slots.size)).sum := by
  congr 1
  apply List.ext_getElem?
  intro i
  rw [List.getElem?_map, List.getElem?_map]
  exact hs i
theorem hsz_eq {H H1 : Heap} (hz : H1.size = H.size) (hs : ∀ q : Nat, (H1[q]?).map (fun c => c.slots.size) = (H[q]?).map (fun c => c.slots.size)) : hsz H1 = hsz H :=
  hsz_go H1.toList H.toList (by simpa using hz) (fun q => by simpa using hs q)
theorem hsz_new {H H1 : Heap} {c : Cell} (hz : H1.size = H.size + 1) (h1 : H1[H.size]? = some c) (oq : ∀ q, q < H.size → H1[q]? = H[q]?) : hsz H1 = hsz H + c.slots.size := by
  have e : H1.toList = H.toList ++ [c] := by
    apply List.ext_getElem?
    intro i
    rw [Array.getElem?_toList]
    by_cases hi : i < H.size
    · rw [oq i hi, List.getElem?_append_left (by simpa using hi), Array.getElem?_toList]
    · rw [List.getElem?_append_right (by simpa using hi)]
      by_cases he : i = H.size
      · subst he
        simpa using h1
      · have h9 : ([c] : List Cell)[i - H.toList.length]? = none := by
          rw [List.getElem?_eq_none_iff]
          simp
          omega
        rw [h9, Array.getElem?_eq_none_iff]
        omega
  unfold hsz
  rw [e, List.map_append, List.sum_append]
  simp
theorem setSlot_size (c : Cell) (i : Nat) (v : Value) : (c.setSlot i v).slots.size = c.slots.size := by
  unfold Cell.setSlot
  simp
theorem lw_E_gset {dT : Nat → ClassId} {ad : Nat → Nat} {G : LG} {n j m : Nat} {v : Int} (h : m ≠ n) : lw_E dT ad (gset G n j v) m = lw_E dT ad G m := by
  have e : gS (gset G n j v) m = gS G m := by
    funext y
    exact if_neg (fun q => h q.1)
  unfold lw_E
  rw [gset_K, e]
theorem HD_put {dT : Nat → ClassId} {D : va_G} {base sbase : Nat} {ad : Nat → Nat} {G : LG} {H H1 : Heap} {n j i : Nat} {v : Int} {x : Value} {cell : Cell} (hd : HD dT D base sbase ad G H) (hn : (gK G n).1 ≠ 0) (hv : j < lw_len (gK G n) → okv G (lw_st (gK G n).1 j, v))
    (h0 : H[ad n]? = some cell) (e : H1[ad n]? = some (cell.setSlot i x)) (z : H1.size = H.size) (oq : ∀ q, q ≠ ad n → H1[q]? = H[q]?) (ha : va_at D vwCl (ad n, lw_E dT ad (gset G n j v) n) H1) : HD dT D base sbase ad (gset G n j v) H1 := by
  obtain ⟨d1, d2, d3, d4, d5, d6⟩ := hd
  refine ⟨fun m hm => ?_, d2, fun m y hm hy => ?_, z.trans d4, (hsz_eq z (fun q => ?_)).trans d5, d6⟩
  · by_cases hmn : m = n
    · subst hmn; exact ha
    · rw [lw_E_gset hmn]
      exact (d1 m hm).kept (oq _ (fun q => hmn (d2 m n hm hn q)))
  · show okv G (lw_st (gK G m).1 y, gS (gset G n j v) m y)
    by_cases hmn : m = n ∧ y = j
    · obtain ⟨rfl, rfl⟩ := hmn
      rw [gset_at]
      exact hv hy
    · rw [gset_ne G v hmn]
      exact d3 m y hm hy
  · by_cases hq : q = ad n
    · subst hq
      rw [e, h0]
      exact congrArg some (setSlot_size cell i x)
    · rw [oq q hq]
section CELLS
variable {K : KD} {X : CX} {pc : Nat} {lv lv' : List (Option LV)} {st : List LV} {G : LG}
theorem kne {k : Nat × Nat} {t N : Nat} (h : k = (t, N)) (ht : t ≠ 0) : k.1 ≠ 0 := by rw [h]; exact ht
theorem lwE1 {dT : Nat → ClassId} {ad : Nat → Nat} {G : LG} {n N : Nat} (hk : gK G n = (1, N)) : lw_E dT ad G n = .inl (dT 0, N, .inl (fun j => Int32.ofInt (gS G n j))) := by unfold lw_E; rw [hk]
theorem lwE2 {dT : Nat → ClassId} {ad : Nat → Nat} {G : LG} {n N : Nat} (hk : gK G n = (2, N)) : lw_E dT ad G n = .inl (dT 2, N, .inl (fun j => Int32.ofInt (gS G n j))) := by unfold lw_E; rw [hk]
theorem lwE3 {dT : Nat → ClassId} {ad : Nat → Nat} {G : LG} {n N : Nat} (hk : gK G n = (3, N)) : lw_E dT ad G n = .inl (dT 1, N, .inr (.inl (fun j => Int64.ofInt (gS G n j)))) := by unfold lw_E; rw [hk]
theorem lwE8 {dT : Nat → ClassId} {ad : Nat → Nat} {G : LG} {n c N : Nat} (hk : gK G n = (c + 8, N)) : lw_E dT ad G n = .inr (c, (List.range (lw_num c)).map (fun j => rv ad (lw_sc (lw_ty c j), gS G n j))) := by unfold lw_E; rw [hk]
theorem at_i {dT : Nat → ClassId} {D : va_G} {ad : Nat → Nat} {G : LG} {H : Heap} {n N : Nat} (hk : gK G n = (1, N)) (h : va_at D vwCl (ad n, lw_E dT ad G n) H) : H[ad n]? = some (arrV (dT 0) N (fun j => .int (Int32.ofInt (gS G n j)))) := by
  unfold lw_E at h; rw [hk] at h; exact h
theorem at_z {dT : Nat → ClassId} {D : va_G} {ad : Nat → Nat} {G : LG} {H : Heap} {n N : Nat} (hk : gK G n = (2, N)) (h : va_at D vwCl (ad n, lw_E dT ad G n) H) : H[ad n]? = some (arrV (dT 2) N (fun j => .int (Int32.ofInt (gS G n j)))) := by
  unfold lw_E at h; rw [hk] at h; exact h
theorem at_l {dT : Nat → ClassId} {D : va_G} {ad : Nat → Nat} {G : LG} {H : Heap} {n N : Nat} (hk : gK G n = (3, N)) (h : va_at D vwCl (ad n, lw_E dT ad G n) H) : H[ad n]? = some (arrV (dT 1) N (fun j => .long (Int64.ofInt (gS G n j)))) := by
  unfold lw_E at h; rw [hk] at h; exact h
theorem at_q {t : Nat} {dT : Nat → ClassId} {D : va_G} {ad : Nat → Nat} {G : LG} {H : Heap} {n N : Nat} (hk : gK G n = (t, N)) (ht : 4 ≤ t ∧ t ≤ 7) (h : va_at D vwCl (ad n, lw_E dT ad G n) H) : H[ad n]? = some (arrV (dT (t - 1)) N (fun j => va_rf (nmv ad (gS G n j)))) := by
  unfold lw_E at h; rw [hk] at h
  match t, ht with
  | 4, _ => exact h
  | 5, _ => exact h
  | 6, _ => exact h
  | 7, _ => exact h
theorem at_o {c : Nat} {dT : Nat → ClassId} {D : va_G} {ad : Nat → Nat} {G : LG} {H : Heap} {n N : Nat} (hk : gK G n = (c + 8, N)) (h : va_at D vwCl (ad n, lw_E dT ad G n) H) : va_at D vwCl (ad n, .inr (c, (List.range (lw_num c)).map (fun j => rv ad (lw_sc (lw_ty c j), gS G n j)))) H := by
  unfold lw_E at h; rw [hk] at h; exact h
theorem s_iald {n N : Nat} {i v : Int} (hdg : decode K.2.1 pc = .ok (.iaload, 1)) (hk : gK G n = (1, N)) (h0 : 0 ≤ i) (h1 : i < N) (hv : gS G n i.toNat = v) (kk : WP K X (pc + 1) lv ((0, v) :: st) G) : WP K X pc lv ((0, i) :: (2, (n : Int)) :: st) G := by
  obtain ⟨p, l, e, R, s, m, args, below, meth, c, D, dT, ad0, G0, Q, base, sbase⟩ := X
  intro ho ad H locs ls hd he hs hl o1 o2
  subst hv
  have hn : (gK G n).1 ≠ 0 := kne hk (by decide)
  have hi := okv_R (okv_h o2)
  have hc := at_i hk (hd.1 n hn)
  have e1 : (Int32.ofInt i).toNatClampNeg = i.toNat := I_clamp h0 hi.2
  have hlt : i.toNat < N := by omega
  have o3 : okv G (0, gS G n i.toNat) := by
    have h9 := hd.2.2.1 n i.toNat hn (by rw [hk]; exact hlt)
    rw [hk] at h9
    exact h9
  rw [List.map_cons, List.map_cons, nmv_ref (Int.natCast_nonneg n)]
  refine W.iald (v := rv ad (0, gS G n i.toNat)) ho.1 ho.2.1 hc ((ho.2.2.2.2.2.2.2.2.1.2 0 _ rfl).1 N _) (fun q => by cases q) (?_) (?_) rfl rfl hdg (kk ho ad H locs ls hd he hs hl o1 (okv_c o3 (okv_t (okv_t o2))))
  · rw [arrV_size]
    rintro (h9 | h9)
    · rw [Int32.lt_iff_toInt_lt, I_toInt hi] at h9
      exact absurd h9 (by simpa using h0)
    · rw [e1] at h9; omega
  · rw [e1, arrV_read _ _ hlt]
    rfl
theorem s_bald {n N : Nat} {i v : Int} (hdg : decode K.2.1 pc = .ok (.baload, 1)) (hk : gK G n = (2, N)) (h0 : 0 ≤ i) (h1 : i < N) (hv : gS G n i.toNat = v) (kk : WP K X (pc + 1) lv ((0, v) :: st) G) : WP K X pc lv ((0, i) :: (2, (n : Int)) :: st) G := by
  obtain ⟨p, l, e, R, s, m, args, below, meth, c, D, dT, ad0, G0, Q, base, sbase⟩ := X
  intro ho ad H locs ls hd he hs hl o1 o2
  subst hv
  have hn : (gK G n).1 ≠ 0 := kne hk (by decide)
  have hi := okv_R (okv_h o2)
  have hc := at_z hk (hd.1 n hn)
  have e1 : (Int32.ofInt i).toNatClampNeg = i.toNat := I_clamp h0 hi.2
  have hlt : i.toNat < N := by omega
  have o3 : okv G (0, gS G n i.toNat) := by
    have h9 := hd.2.2.1 n i.toNat hn (by rw [hk]; exact hlt)
    rw [hk] at h9
    exact h9
  rw [List.map_cons, List.map_cons, nmv_ref (Int.natCast_nonneg n)]
  refine W.zald (v := rv ad (0, gS G n i.toNat)) ho.1 ho.2.1 hc ((ho.2.2.2.2.2.2.2.2.1.2 2 _ rfl).1 N _) (fun q => by cases q) (?_) (?_) rfl rfl hdg (kk ho ad H locs ls hd he hs hl o1 (okv_c o3 (okv_t (okv_t o2))))
  · rw [arrV_size]
    rintro (h9 | h9)
    · rw [Int32.lt_iff_toInt_lt, I_toInt hi] at h9
      exact absurd h9 (by simpa using h0)
    · rw [e1] at h9; omega
  · rw [e1, arrV_read _ _ hlt]
    rfl
theorem s_lald {n N : Nat} {i v : Int} (hdg : decode K.2.1 pc = .ok (.laload, 1)) (hk : gK G n = (3, N)) (h0 : 0 ≤ i) (h1 : i < N) (hv : gS G n i.toNat = v) (kk : WP K X (pc + 1) lv ((1, v) :: st) G) : WP K X pc lv ((0, i) :: (2, (n : Int)) :: st) G := by
  obtain ⟨p, l, e, R, s, m, args, below, meth, c, D, dT, ad0, G0, Q, base, sbase⟩ := X
  intro ho ad H locs ls hd he hs hl o1 o2
  subst hv
  have hn : (gK G n).1 ≠ 0 := kne hk (by decide)
  have hi := okv_R (okv_h o2)
  have hc := at_l hk (hd.1 n hn)
  have e1 : (Int32.ofInt i).toNatClampNeg = i.toNat := I_clamp h0 hi.2
  have hlt : i.toNat < N := by omega
  have o3 : okv G (1, gS G n i.toNat) := by
    have h9 := hd.2.2.1 n i.toNat hn (by rw [hk]; exact hlt)
    rw [hk] at h9
    exact h9
  rw [List.map_cons, List.map_cons, nmv_ref (Int.natCast_nonneg n)]
  refine W.lald (v := rv ad (1, gS G n i.toNat)) ho.1 ho.2.1 hc ((ho.2.2.2.2.2.2.2.2.1.2 1 _ rfl).1 N _) (fun q => by cases q) (?_) (?_) rfl rfl hdg (kk ho ad H locs ls hd he hs hl o1 (okv_c o3 (okv_t (okv_t o2))))
  · rw [arrV_size]
    rintro (h9 | h9)
    · rw [Int32.lt_iff_toInt_lt, I_toInt hi] at h9
      exact absurd h9 (by simpa using h0)
    · rw [e1] at h9; omega
  · rw [e1, arrV_read _ _ hlt]
    rfl
theorem s_iast {n N : Nat} {i v : Int} (hdg : decode K.2.1 pc = .ok (.iastore, 1)) (hk : gK G n = (1, N)) (h0 : 0 ≤ i) (h1 : i < N) (kk : WP K X (pc + 1) lv st (gset G n i.toNat v)) : WP K X pc lv ((0, v) :: (0, i) :: (2, (n : Int)) :: st) G := by
  obtain ⟨p, l, e, R, s, m, args, below, meth, c, D, dT, ad0, G0, Q, base, sbase⟩ := X
  intro ho ad H locs ls hd he hs hl o1 o2
  have hn : (gK G n).1 ≠ 0 := kne hk (by decide)
  have hi := okv_R (okv_h (okv_t o2))
  have hv := okv_h o2
  have hc := at_i hk (hd.1 n hn)
  have e1 : (Int32.ofInt i).toNatClampNeg = i.toNat := I_clamp h0 hi.2
  have hlt : i.toNat < N := by omega
  rw [List.map_cons, List.map_cons, List.map_cons, nmv_ref (Int.natCast_nonneg n)]
  refine W.iast ho.1 ho.2.1 hc ((ho.2.2.2.2.2.2.2.2.1.2 0 _ rfl).1 N _) (fun q => by cases q) (?_) rfl rfl hdg (fun H1 e9 z9 oq => ?_)
  · rw [arrV_size]
    rintro (h9 | h9)
    · rw [Int32.lt_iff_toInt_lt, I_toInt hi] at h9
      exact absurd h9 (by simpa using h0)
    · rw [e1] at h9; omega
  rw [e1] at e9
  have hat : va_at D vwCl (ad n, lw_E dT ad (gset G n i.toNat v) n) H1 := by
    rw [lwE1 (G := gset G n i.toNat v) hk]
    show H1[ad n]? = some (arrV (dT 0) N (fun y => .int (Int32.ofInt (gS (gset G n i.toNat v) n y))))
    rw [e9]
    refine congrArg some ((arrV_store _ _ _ _ _).trans (congrArg (arrV _ N) ?_))
    funext y
    show updV _ _ _ y = .int (Int32.ofInt (gS (gset G n i.toNat v) n y))
    unfold updV
    rw [gset_eq]
    by_cases hy : y = i.toNat
    · rw [if_pos hy, if_pos ⟨rfl, hy⟩]
    · rw [if_neg hy, if_neg (fun q => hy q.2)]
  have hd' := HD_put hd hn (fun _ => by rw [hk]; exact hv) hc e9 z9 oq hat
  have k9 := kk ho ad H1 _ ls hd' he (hs.put (k := i.toNat) z9 oq (he.in hn)) hl o1 (okv_t (okv_t (okv_t o2)))
  have z5 : hsz H1 = hsz H := hd'.2.2.2.2.1.trans hd.2.2.2.2.1.symm
  rw [z9, z5] at k9
  rw [e1]
  exact k9
theorem s_bast {n N : Nat} {i v : Int} (hdg : decode K.2.1 pc = .ok (.bastore, 1)) (hk : gK G n = (2, N)) (h0 : 0 ≤ i) (h1 : i < N) (hx : v = 0 ∨ v = 1) (kk : WP K X (pc + 1) lv st (gset G n i.toNat v)) : WP K X pc lv ((0, v) :: (0, i) :: (2, (n : Int)) :: st) G := by
  obtain ⟨p, l, e, R, s, m, args, below, meth, c, D, dT, ad0, G0, Q, base, sbase⟩ := X
  intro ho ad H locs ls hd he hs hl o1 o2
  have hn : (gK G n).1 ≠ 0 := kne hk (by decide)
  have hi := okv_R (okv_h (okv_t o2))
  have hv := okv_h o2
  have hc := at_z hk (hd.1 n hn)
  have e1 : (Int32.ofInt i).toNatClampNeg = i.toNat := I_clamp h0 hi.2
  have hlt : i.toNat < N := by omega
  rw [List.map_cons, List.map_cons, List.map_cons, nmv_ref (Int.natCast_nonneg n)]
  refine W.zast ho.1 ho.2.1 hc ((ho.2.2.2.2.2.2.2.2.1.2 2 _ rfl).1 N _) (fun q => by cases q) (?_) rfl rfl hdg (fun H1 e9 z9 oq => ?_)
  · rw [arrV_size]
    rintro (h9 | h9)
    · rw [Int32.lt_iff_toInt_lt, I_toInt hi] at h9
      exact absurd h9 (by simpa using h0)
    · rw [e1] at h9; omega
  rw [e1] at e9
  have en : narrow .boolean (.int (Int32.ofInt v)) = .int (Int32.ofInt v) := by
    rcases hx with rfl | rfl <;> rfl
  rw [en] at e9
  have hat : va_at D vwCl (ad n, lw_E dT ad (gset G n i.toNat v) n) H1 := by
    rw [lwE2 (G := gset G n i.toNat v) hk]
    show H1[ad n]? = some (arrV (dT 2) N (fun y => .int (Int32.ofInt (gS (gset G n i.toNat v) n y))))
    rw [e9]
    refine congrArg some ((arrV_store _ _ _ _ _).trans (congrArg (arrV _ N) ?_))
    funext y
    show updV _ _ _ y = .int (Int32.ofInt (gS (gset G n i.toNat v) n y))
    unfold updV
    rw [gset_eq]
    by_cases hy : y = i.toNat
    · rw [if_pos hy, if_pos ⟨rfl, hy⟩]
    · rw [if_neg hy, if_neg (fun q => hy q.2)]
  have hd' := HD_put hd hn (fun _ => by rw [hk]; exact hv) hc e9 z9 oq hat
  have k9 := kk ho ad H1 _ ls hd' he (hs.put (k := i.toNat) z9 oq (he.in hn)) hl o1 (okv_t (okv_t (okv_t o2)))
  have z5 : hsz H1 = hsz H := hd'.2.2.2.2.1.trans hd.2.2.2.2.1.symm
  rw [z9, z5] at k9
  rw [e1]
  exact k9
theorem s_last {n N : Nat} {i v : Int} (hdg : decode K.2.1 pc = .ok (.lastore, 1)) (hk : gK G n = (3, N)) (h0 : 0 ≤ i) (h1 : i < N) (kk : WP K X (pc + 1) lv st (gset G n i.toNat v)) : WP K X pc lv ((1, v) :: (0, i) :: (2, (n : Int)) :: st) G := by
  obtain ⟨p, l, e, R, s, m, args, below, meth, c, D, dT, ad0, G0, Q, base, sbase⟩ := X
  intro ho ad H locs ls hd he hs hl o1 o2
  have hn : (gK G n).1 ≠ 0 := kne hk (by decide)
  have hi := okv_R (okv_h (okv_t o2))
  have hv := okv_h o2
  have hc := at_l hk (hd.1 n hn)
  have e1 : (Int32.ofInt i).toNatClampNeg = i.toNat := I_clamp h0 hi.2
  have hlt : i.toNat < N := by omega
  rw [List.map_cons, List.map_cons, List.map_cons, nmv_ref (Int.natCast_nonneg n)]
  refine W.last ho.1 ho.2.1 hc ((ho.2.2.2.2.2.2.2.2.1.2 1 _ rfl).1 N _) (fun q => by cases q) (?_) rfl rfl hdg (fun H1 e9 z9 oq => ?_)
  · rw [arrV_size]
    rintro (h9 | h9)
    · rw [Int32.lt_iff_toInt_lt, I_toInt hi] at h9
      exact absurd h9 (by simpa using h0)
    · rw [e1] at h9; omega
  rw [e1] at e9
  have hat : va_at D vwCl (ad n, lw_E dT ad (gset G n i.toNat v) n) H1 := by
    rw [lwE3 (G := gset G n i.toNat v) hk]
    show H1[ad n]? = some (arrV (dT 1) N (fun y => .long (Int64.ofInt (gS (gset G n i.toNat v) n y))))
    rw [e9]
    refine congrArg some ((arrV_store _ _ _ _ _).trans (congrArg (arrV _ N) ?_))
    funext y
    show updV _ _ _ y = .long (Int64.ofInt (gS (gset G n i.toNat v) n y))
    unfold updV
    rw [gset_eq]
    by_cases hy : y = i.toNat
    · rw [if_pos hy, if_pos ⟨rfl, hy⟩]
    · rw [if_neg hy, if_neg (fun q => hy q.2)]
  have hd' := HD_put hd hn (fun _ => by rw [hk]; exact hv) hc e9 z9 oq hat
  have k9 := kk ho ad H1 _ ls hd' he (hs.put (k := i.toNat) z9 oq (he.in hn)) hl o1 (okv_t (okv_t (okv_t o2)))
  have z5 : hsz H1 = hsz H := hd'.2.2.2.2.1.trans hd.2.2.2.2.1.symm
  rw [z9, z5] at k9
  rw [e1]
  exact k9
theorem s_alen {n N t : Nat} (hdg : decode K.2.1 pc = .ok (.arraylength, 1)) (hk : gK G n = (t, N)) (ht : 1 ≤ t ∧ t ≤ 7) (hN : N ≤ 2147483647) (kk : WP K X (pc + 1) lv ((0, (N : Int)) :: st) G) : WP K X pc lv ((2, (n : Int)) :: st) G := by
  obtain ⟨p, l, e, R, s, m, args, below, meth, c, D, dT, ad0, G0, Q, base, sbase⟩ := X
  intro ho ad H locs ls hd he hs hl o1 o2
  have hn : (gK G n).1 ≠ 0 := kne hk (by omega)
  have hK := ho.2.2.2.2.2.2.2.2.1
  have hi : inR (N : Int) := ⟨by omega, by omega⟩
  have k9 := kk ho ad H locs ls hd he hs hl o1 (okv_c (okv_i hi) (okv_t o2))
  rw [List.map_cons, nmv_ref (Int.natCast_nonneg n)]
  have hw : ∃ (cA : ClassId) (ty : FieldType) (f : Nat → Value), H[ad n]? = some (arrV cA N f) ∧ ArrOfT s cA ty := by
    have h1 := (hd.1 n hn)
    match t, ht with
    | 1, _ => exact ⟨_, _, _, at_i hk h1, (hK.2 0 _ rfl).1⟩
    | 2, _ => exact ⟨_, _, _, at_z hk h1, (hK.2 2 _ rfl).1⟩
    | 3, _ => exact ⟨_, _, _, at_l hk h1, (hK.2 1 _ rfl).1⟩
    | 4, _ => exact ⟨_, _, _, at_q hk (by decide) h1, (hK.2 3 _ rfl).1⟩
    | 5, _ => exact ⟨_, _, _, at_q hk (by decide) h1, (hK.2 4 _ rfl).1⟩
    | 6, _ => exact ⟨_, _, _, at_q hk (by decide) h1, (hK.2 5 _ rfl).1⟩
    | 7, _ => exact ⟨_, _, _, at_q hk (by decide) h1, (hK.2 6 _ rfl).1⟩
  obtain ⟨cA, ty, f, h2, h3⟩ := hw
  refine W.alen (n := Int32.ofInt N) ho.1 ho.2.1 h2 (h3 N f) ?_ rfl rfl hdg k9
  rw [arrV_size]
  rfl
theorem s_getf {ci k idx N : Nat} {C : String} {T : u_T} {n L t : Nat} {v : Int} (hdg : decode K.2.1 pc = .ok (.getfield idx, 3)) (hc : vwCl[ci]? = some (C, T, N)) (hin : ∀ w ∈ u_ws C T N, w ∈ WALL) (hlink : Cond.fieldLink K.1 idx (T k).1 (T k).2.1 (T k).2.2.1 ∈ WALL) (hkN : k < N) (hN : lw_num ci = N) (ht : lw_sc (lw_ty ci k) = t)
    (hk : gK G n = (ci + 8, L)) (hv : gS G n k = v) (kk : WP K X (pc + 3) lv ((t, v) :: st) G) : WP K X pc lv ((2, (n : Int)) :: st) G := by
  obtain ⟨p, l, e, R, s, m, args, below, meth, c, D, dT, ad0, G0, Q, base, sbase⟩ := X
  intro ho ad H locs ls hd he hs hl o1 o2
  subst hv
  have hn : (gK G n).1 ≠ 0 := kne hk (Nat.succ_ne_zero _)
  have o3 : okv G (t, gS G n k) := by
    have h9 := hd.2.2.1 n k hn (by rw [hk]; show k < lw_num ci; omega)
    rw [hk] at h9
    have e9 : lw_st (ci + 8) k = t := ht
    rw [e9] at h9
    exact h9
  have hP : va_P D vwCl [(ad n, .inr (ci, (List.range (lw_num ci)).map (fun j => rv ad (lw_sc (lw_ty ci j), gS G n j))))] H := by
    intro k1 q hq
    have h1 : k1 < 1 := (List.getElem?_eq_some_iff.mp hq).1
    have h2 : k1 = 0 := by omega
    subst h2
    cases hq
    exact at_o hk (hd.1 n hn)
  rw [List.map_cons, nmv_ref (Int.natCast_nonneg n)]
  refine va_get (D := D) (ci := ci) (v := rv ad (t, gS G n k)) (C := C) (T := T) (N := N) (k := k) (Ts := WALL) ho.1 ho.2.1 ho.2.2.2.2.1 hin ho.2.2.2.1 ho.2.2.2.2.2.2.2.2.1 hP 0 rfl hc hkN (ho.2.2.2.2.1 _ hlink) (fun _ h => h) ?_ hdg (kk ho ad H locs ls hd he hs hl o1 (okv_c o3 (okv_t o2)))
  rw [List.getElem?_map, List.getElem?_range (by omega), Option.map_some, ht]
theorem fit_sc {ad : Nat → Nat} {ty : FieldType} {v : Int} (h : (ty = .int) ∨ (ty = .boolean ∧ (v = 0 ∨ v = 1)) ∨ ty = .long ∨ (∃ C, ty = .object C) ∨ (∃ t, ty = .array t)) : narrow ty (rv ad (lw_sc ty, v)) = rv ad (lw_sc ty, v) ∧ fits ty (rv ad (lw_sc ty, v)) = true := by
  rcases h with rfl | ⟨rfl, rfl | rfl⟩ | rfl | ⟨C, rfl⟩ | ⟨t, rfl⟩
  · exact ⟨rfl, rfl⟩
  · exact ⟨rfl, rfl⟩
  · exact ⟨rfl, rfl⟩
  · exact ⟨rfl, rfl⟩
  · simp only [lw_sc, rv, nmv]
    by_cases hv : v < 0
    · rw [if_pos hv]; exact ⟨rfl, rfl⟩
    · rw [if_neg hv]; exact ⟨rfl, rfl⟩
  · simp only [lw_sc, rv, nmv]
    by_cases hv : v < 0
    · rw [if_pos hv]; exact ⟨rfl, rfl⟩
    · rw [if_neg hv]; exact ⟨rfl, rfl⟩
theorem set_map {N k : Nat} (f : Nat → Value) (v : Value) (_ : k < N) : ((List.range N).map f).set k v = (List.range N).map (fun j => if j = k then v else f j) := by
  apply List.ext_getElem?
  intro i
  rw [List.getElem?_set, List.getElem?_map, List.getElem?_map]
  by_cases hi : i < N
  · rw [List.getElem?_range hi]
    by_cases hik : k = i
    · subst hik; simp [hi]
    · rw [if_neg hik]; simp [Ne.symm hik]
  · have h9 : (List.range N)[i]? = none := by simp; omega
    rw [h9]
    simp
    omega
theorem HD_putf {dT : Nat → ClassId} {D : va_G} {base sbase : Nat} {ad : Nat → Nat} {G : LG} {H H1 : Heap} {n k L ci N : Nat} {C : String} {T : u_T} {v : Int} {i : Nat} {cell : Cell} (hd : HD dT D base sbase ad G H) (hk : gK G n = (ci + 8, L)) (hkN : k < N) (hN : lw_num ci = N) (hv : okv G (lw_sc (lw_ty ci k), v))
    (hc : vwCl[ci]? = some (C, T, N)) (hap : ∀ x y, x < N → y < N → x ≠ y → (D.2 ci) x ≠ (D.2 ci) y) (hi : i = D.2 ci k)
    (h0 : H[ad n]? = some cell) (q2 : cell.cls = D.1 ci) (q3 : cell.vm = .none) (q4 : ∀ j, j < N → cell.slots[D.2 ci j]? = some (vp_V ((List.range (lw_num ci)).map (fun j => rv ad (lw_sc (lw_ty ci j), gS G n j))) j)) (e : H1[ad n]? = some (cell.setSlot i (rv ad (lw_sc (lw_ty ci k), v)))) (z : H1.size = H.size) (oq : ∀ q, q ≠ ad n → H1[q]? = H[q]?) : HD dT D base sbase ad (gset G n k v) H1 := by
  subst hi
  have hn : (gK G n).1 ≠ 0 := kne hk (Nat.succ_ne_zero _)
  refine HD_put hd hn (fun _ => by rw [hk]; exact hv) h0 e z oq ?_
  rw [lwE8 (G := gset G n k v) hk]
  refine ⟨_, hc, t_OB.to (V := updV (vp_V ((List.range (lw_num ci)).map (fun j => rv ad (lw_sc (lw_ty ci j), gS G n j)))) k (rv ad (lw_sc (lw_ty ci k), v))) ⟨_, e, q2, q3, t_set q4 hap hkN _⟩ (fun j hj => ?_)⟩
  rw [vp_updV_set (by simp; omega), set_map _ _ (by omega)]
  congr 2
  funext y
  by_cases hy : y = k
  · subst hy
    rw [if_pos rfl, gset_at]
  · rw [if_neg hy, gset_ne _ _ (fun q => hy q.2)]
theorem s_putf {ci k idx N : Nat} {C : String} {T : u_T} {n L : Nat} {v : Int} {t : Nat} (hdg : decode K.2.1 pc = .ok (.putfield idx, 3)) (hc : vwCl[ci]? = some (C, T, N)) (hin : ∀ w ∈ u_ws C T N, w ∈ WALL) (hlink : Cond.fieldLink K.1 idx (T k).1 (T k).2.1 (T k).2.2.1 ∈ WALL) (hkN : k < N) (hN : lw_num ci = N) (ht : lw_sc (lw_ty ci k) = t)
    (hty : ∀ k, k < N → parseFieldDescriptor (T k).2.2.1 = some (lw_ty ci k)) (hnm : ∀ a, a < N → ∀ b, b < N → a ≠ b → (T a).2.1 ≠ (T b).2.1) (hfin : (T k).2.2.2 = false) (hfit : (lw_ty ci k = .int) ∨ (lw_ty ci k = .boolean ∧ (v = 0 ∨ v = 1)) ∨ lw_ty ci k = .long ∨ (∃ C, lw_ty ci k = .object C) ∨ (∃ t, lw_ty ci k = .array t))
    (hk : gK G n = (ci + 8, L)) (kk : WP K X (pc + 3) lv st (gset G n k v)) : WP K X pc lv ((t, v) :: (2, (n : Int)) :: st) G := by
  obtain ⟨p, l, e, R, s, m, args, below, meth, c, D, dT, ad0, G0, Q, base, sbase⟩ := X
  intro ho ad H locs ls hd he hs hl o1 o2
  subst ht
  have hn : (gK G n).1 ≠ 0 := kne hk (Nat.succ_ne_zero _)
  have hK := ho.2.2.2.2.2.2.2.2.1
  have hts := ho.2.2.2.2.1
  have hap := va_apart (own := K.1) hts hin (lw_ty ci) hty hnm hK hc
  obtain ⟨r, h1, cell, q1, q2, q3, q4⟩ := at_o hk (hd.1 n hn)
  have hr : r = (C, T, N) := Option.some.inj (h1.symm.trans hc)
  subst hr
  obtain ⟨hS, hfc, kC, hkC, hkind⟩ := hK.1 ci _ hc
  obtain ⟨cf, kf, fi, f, hi, hsl⟩ := hS k hkN
  have hlay := hts _ (hin _ (u_in_lay hkN))
  unfold u_lay at hlay
  rw [if_neg (by rw [hfin]; decide)] at hlay
  have hst := (u_facts hfc hkC (u_lays hts hin hkN) hi).1
  obtain ⟨f1, f2⟩ := fit_sc (ad := ad) hfit
  have h6 := u_store hfc hkC hkind hlay hi (hty k hkN) f1 f2
  rw [List.map_cons, List.map_cons, nmv_ref (Int.natCast_nonneg n)]
  refine W.putK ho.1 ho.2.1 (f := f) ⟨ho.2.2.2.1, hts _ hlink, ⟨_, _, _, hi⟩, hst⟩ (by rw [q2]; exact h6) q1 q3 (by rw [hsl]; exact k2_hasslot (q4 k hkN)) rfl rfl hdg fun H1 e9 z9 oq => ?_
  have hd' := HD_putf hd hk hkN hN (okv_h o2) hc hap hsl q1 q2 q3 q4 e9 z9 oq
  have k9 := kk ho ad H1 _ ls hd' he (hs.put (k := f.slot) z9 oq (he.in hn)) hl o1 (okv_t (okv_t o2))
  have z5 : hsz H1 = hsz H := hd'.2.2.2.2.1.trans hd.2.2.2.2.1.symm
  rw [z9, z5] at k9
  exact k9
end CELLS
