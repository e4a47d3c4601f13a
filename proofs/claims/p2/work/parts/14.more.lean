section MORE
variable {K : KD} {X : CX} {pc : Nat} {lv lv' : List (Option LV)} {st : List LV} {G : LG}
theorem s_ldc {idx : Nat} {v : Int} {own : String} (hdg : decode K.2.1 pc = .ok (.ldc idx, 2)) (hc : Cond.constant own idx (Int32.ofInt v) ∈ WALL) (hr : inR v) (how : own = K.1) (kk : WP K X (pc + 2) lv ((0, v) :: st) G) : WP K X pc lv st G := by
  subst how
  obtain ⟨p, l, e, R, s, m, args, below, meth, c, D, dT, ad0, G0, Q, base, sbase⟩ := X
  intro ho ad H locs ls hd he hs hl o1 o2
  exact lv_ldc ho.1 ho.2.1 ho.2.2.2.1 (ho.2.2.2.2.1 _ hc) hdg (kk ho ad H locs ls hd he hs hl o1 (okv_c (okv_i hr) o2))
theorem s_ldc_w {idx : Nat} {v : Int} {own : String} (hdg : decode K.2.1 pc = .ok (.ldc_w idx, 3)) (hc : Cond.constant own idx (Int32.ofInt v) ∈ WALL) (hr : inR v) (how : own = K.1) (kk : WP K X (pc + 3) lv ((0, v) :: st) G) : WP K X pc lv st G := by
  subst how
  obtain ⟨p, l, e, R, s, m, args, below, meth, c, D, dT, ad0, G0, Q, base, sbase⟩ := X
  intro ho ad H locs ls hd he hs hl o1 o2
  exact lv_ldcw ho.1 ho.2.1 ho.2.2.2.1 (ho.2.2.2.2.1 _ hc) hdg (kk ho ad H locs ls hd he hs hl o1 (okv_c (okv_i hr) o2))
theorem s_ldc2 {idx : Nat} {v : Int} {own : String} (hdg : decode K.2.1 pc = .ok (.ldc2_w idx, 3)) (hc : Cond.constantLong own idx (Int64.ofInt v) ∈ WALL) (hr : inL v) (how : own = K.1) (kk : WP K X (pc + 3) lv ((1, v) :: st) G) : WP K X pc lv st G := by
  subst how
  obtain ⟨p, l, e, R, s, m, args, below, meth, c, D, dT, ad0, G0, Q, base, sbase⟩ := X
  intro ho ad H locs ls hd he hs hl o1 o2
  exact lv_ldc2 ho.1 ho.2.1 ho.2.2.2.1 (ho.2.2.2.2.1 _ hc) hdg (kk ho ad H locs ls hd he hs hl o1 (okv_c (okv_l hr) o2))
end MORE
