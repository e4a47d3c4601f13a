section MORE
variable {K : KD} {X : CX} {pc : Nat} {lv lv' : List (Option LV)} {st : List LV} {G : LG}
theorem s_ldc {idx : Nat} {v : Int} {own : String} (hdg : decode K.2.1 pc = .ok (.ldc idx, 2)) (hc : Cond.constant own idx (Int32.ofInt v) ∈ WALL) (hr : inR v) (how : own = K.1) (kk : WP K X (pc + 2) lv ((0, v) :: st) G) : WP K X pc lv st G := by
  subst how
  obtain ⟨p, l, e, R, s, m, args, below, meth, c, D, dT, ad0, G0, Q, base, sbase⟩ := X
  intro ho ad H locs ls hd he hs hl o1 o2
  exact lv_ldc ho.1 ho.2.1 ho.2.2.2.1 (ho.2.2.2.2.1 _ hc) hdg (kk ho ad H locs ls hd he hs hl o1 (okv_c (okv_i hr) o2))
theorem s_ldc_w {idx : Nat} {v : Int} {own : String} (hdg : decode K.2.1 pc = .ok (.ldc_w idx, 3)) (hc : Cond.constant own idx (Int32.ofInt v) ∈ WALL) (hr : inR v) (how : own = K.1) (kk : WP K X (pc + 3) lv ((0, v) :: st) G) : WP K X pc lv st G := by
  subst how
  obtain ⟨p, l, e, R, s, m, args, below, meth, c, D, dT, ad0, G0, Q, base, sbase⟩ := X
  intro ho ad H locs ls hd he hs hl o1 o2
  exact lv_ldcw ho.1 ho.2.1 ho.2.2.2.1 (ho.2.2.2.2.1 _ hc) hdg (kk ho ad H locs ls hd he hs hl o1 (okv_c (okv_i hr) o2))
theorem s_ldc2 {idx : Nat} {v : Int} {own : String} (hdg : decode K.2.1 pc = .ok (.ldc2_w idx, 3)) (hc : Cond.constantLong own idx (Int64.ofInt v) ∈ WALL) (hr : inL v) (how : own = K.1) (kk : WP K X (pc + 3) lv ((1, v) :: st) G) : WP K X pc lv st G := by
  subst how
  obtain ⟨p, l, e, R, s, m, args, below, meth, c, D, dT, ad0, G0, Q, base, sbase⟩ := X
  intro ho ad H locs ls hd he hs hl o1 o2
  exact lv_ldc2 ho.1 ho.2.1 ho.2.2.2.1 (ho.2.2.2.2.1 _ hc) hdg (kk ho ad H locs ls hd he hs hl o1 (okv_c (okv_l hr) o2))
/-- fewer locals: those of the mask -/
def lmask : List Bool → List (Option LV) → List (Option LV)
  | true :: m, v :: t => v :: lmask m t
  | false :: m, _ :: t => none :: lmask m t
  | _, _ => []
theorem lmask_get : ∀ (m : List Bool) (lv : List (Option LV)) (k : Nat) (v : LV), (lmask m lv)[k]? = some (some v) → lv[k]? = some (some v) := by
  intro m
  induction m with
  | nil => intro lv k v h; simp [lmask] at h
  | cons b m ih =>
    intro lv k v h
    cases lv with
    | nil => cases b <;> simp [lmask] at h
    | cons a t =>
      cases b with
      | true =>
        cases k with
        | zero => exact h
        | succ k => exact ih t k v h
      | false =>
        cases k with
        | zero => cases h
        | succ k => exact ih t k v h
theorem s_mask (bm : List Bool) (hl : lmask bm lv = lv') (kk : WP K X pc lv' st G) : WP K X pc lv st G := by
  subst hl
  obtain ⟨p, l, e, R, s, m, args, below, meth, c, D, dT, ad0, G0, Q, base, sbase⟩ := X
  intro ho ad H locs ls hd he hs hl o1 o2
  refine kk ho ad H locs ls hd he hs ⟨hl.1, hl.2.1, fun k v hk => hl.2.2 k v (lmask_get bm lv k v hk)⟩ (fun v hv => ?_) o2
  obtain ⟨k, hk⟩ := List.getElem?_of_mem hv
  exact okv_lv o1 (lmask_get bm lv k v hk)
end MORE
