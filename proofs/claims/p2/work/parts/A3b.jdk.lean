/-! THE JDK'S MEMBERS: Math, rows filled, rows copied -/
section JROWS
variable {K : KD} {X : CX} {pc : Nat} {lv lv' : List (Option LV)} {st : List LV} {G : LG}
theorem s_mmax {x y : Int} {idx : Nat} (hdg : decode K.2.1 pc = .ok (.invokestatic idx, 3)) (hlink : Cond.methodLink K.1 idx Lib.Math.max.name ∈ WALL) (hcf : 1 ≤ cf X) (hw : (st.map (fun v => if v.1 = 1 then 2 else 1)).sum ≤ 8) (kk : WP K X (pc + 3) lv ((0, if x < y then y else x) :: st) G) : WP K X pc lv ((0, y) :: (0, x) :: st) G := by
  obtain ⟨p, l, e, R, s, m, args, below, meth, c, D, dT, ad0, G0, Q, base, sbase⟩ := X
  intro ho ad H locs ls hd he hs hl o1 o2
  have hts := ho.2.2.2.2.1
  have hy := okv_R (okv_h o2)
  have hx := okv_R (okv_h (okv_t o2))
  have o9 := okv_t (okv_t o2)
  have hcf' : 1 ≤ R.frames := hcf
  have hloc := ho.2.2.2.2.2.2.2.2.2.2.2.1.2.2
  obtain ⟨hc1, hs1⟩ := room_new (a := 0) (b := 0) ho hd he hd.2.2.2.2.2.1 hd.2.2.2.2.2.2
  have hr : inR (if x < y then y else x) := by split <;> assumption
  have k9 := kk ho ad H locs ls hd he hs hl o1 (okv_c (okv_i hr) o9)
  have e9 : rv ad (0, if x < y then y else x) = .int (if Int32.ofInt x < Int32.ofInt y then Int32.ofInt y else Int32.ofInt x) := by
    show Value.int (Int32.ofInt (if x < y then y else x)) = _
    by_cases h : x < y
    · rw [if_pos h, if_pos ((I_lt (by assumption) (by assumption)).mpr h)]
    · rw [if_neg h, if_neg (fun q => h ((I_lt (by assumption) (by assumption)).mp q))]
  rw [List.map_cons, e9] at k9
  exact va_mmax ho.1 ho.2.1 (ho.2.2.1.trans hl.1.symm) ho.2.2.2.1 (hts _ hlink) (hts _ m_1741) (hts _ m_701) (hts _ m_36) hcf' (by rw [cat_sum]; omega) hc1 hs1 hdg k9
theorem s_mmin {x y : Int} {idx : Nat} (hdg : decode K.2.1 pc = .ok (.invokestatic idx, 3)) (hlink : Cond.methodLink K.1 idx Lib.Math.min.name ∈ WALL) (hcf : 1 ≤ cf X) (hw : (st.map (fun v => if v.1 = 1 then 2 else 1)).sum ≤ 8) (kk : WP K X (pc + 3) lv ((0, if y < x then y else x) :: st) G) : WP K X pc lv ((0, y) :: (0, x) :: st) G := by
  obtain ⟨p, l, e, R, s, m, args, below, meth, c, D, dT, ad0, G0, Q, base, sbase⟩ := X
  intro ho ad H locs ls hd he hs hl o1 o2
  have hts := ho.2.2.2.2.1
  have hy := okv_R (okv_h o2)
  have hx := okv_R (okv_h (okv_t o2))
  have o9 := okv_t (okv_t o2)
  have hcf' : 1 ≤ R.frames := hcf
  have hloc := ho.2.2.2.2.2.2.2.2.2.2.2.1.2.2
  obtain ⟨hc1, hs1⟩ := room_new (a := 0) (b := 0) ho hd he hd.2.2.2.2.2.1 hd.2.2.2.2.2.2
  have hr : inR (if y < x then y else x) := by split <;> assumption
  have k9 := kk ho ad H locs ls hd he hs hl o1 (okv_c (okv_i hr) o9)
  have e9 : rv ad (0, if y < x then y else x) = .int (if Int32.ofInt y < Int32.ofInt x then Int32.ofInt y else Int32.ofInt x) := by
    show Value.int (Int32.ofInt (if y < x then y else x)) = _
    by_cases h : y < x
    · rw [if_pos h, if_pos ((I_lt (by assumption) (by assumption)).mpr h)]
    · rw [if_neg h, if_neg (fun q => h ((I_lt (by assumption) (by assumption)).mp q))]
  rw [List.map_cons, e9] at k9
  exact va_mmin ho.1 ho.2.1 (ho.2.2.1.trans hl.1.symm) ho.2.2.2.1 (hts _ hlink) (hts _ m_1742) (hts _ m_701) (hts _ m_37) hcf' (by rw [cat_sum]; omega) hc1 hs1 hdg k9
end JROWS
/-- the world with the first N places of the cell n all v -/
def gfil (G : LG) (n N : Nat) (v : Int) : LG := (fun x y => if x = n ∧ y < N then v else gS G x y, gK G, gc G, gs G)
theorem gfil_0 (G : LG) (n : Nat) (v : Int) : gfil G n 0 v = G := by
  unfold gfil
  have e : (fun x y => if x = n ∧ y < 0 then v else gS G x y) = gS G := by funext x y; exact if_neg (fun q => Nat.not_lt_zero _ q.2)
  rw [e]
theorem gfil_s (G : LG) (n k : Nat) (v : Int) : gset (gfil G n k v) n k v = gfil G n (k + 1) v := by
  unfold gset gfil
  congr 1
  funext x y
  show (if x = n ∧ y = k then v else if x = n ∧ y < k then v else gS G x y) = if x = n ∧ y < k + 1 then v else gS G x y
  by_cases h1 : x = n ∧ y = k
  · rw [if_pos h1, if_pos ⟨h1.1, by omega⟩]
  · rw [if_neg h1]
    by_cases h2 : x = n ∧ y < k
    · rw [if_pos h2, if_pos ⟨h2.1, by omega⟩]
    · rw [if_neg h2, if_neg (fun q => by rcases Nat.lt_or_ge y k with q9 | q9; exact h2 ⟨q.1, q9⟩; exact h1 ⟨q.1, by omega⟩)]
theorem gfil_ne (G : LG) {n N x : Nat} {v : Int} (h : x ≠ n) : gS (gfil G n N v) x = gS G x := by funext y; exact if_neg (fun q => h q.1)
theorem gfil_at (G : LG) (n N y : Nat) (v : Int) : gS (gfil G n N v) n y = if y < N then v else gS G n y := by
  show (if n = n ∧ y < N then v else gS G n y) = _
  by_cases h : y < N
  · rw [if_pos ⟨rfl, h⟩, if_pos h]
  · rw [if_neg (fun q => h q.2), if_neg h]
theorem CI.fil {a b : Nat} {G : LG} {n N : Nat} {v : Int} (h : CI a b G) (hs : spc (cde n) = false) (hv : ∀ j, j < N → tv (cde n) (n % 1048576) j v) : CI a b (gfil G n N v) := by
  refine ⟨fun x hx => ⟨(h.1 x hx).1, fun y hy => ?_⟩, h.2.fr (fun x hx => gfil_ne _ (spc_n hs hx)) rfl rfl rfl⟩
  by_cases e : x = n
  · subst e
    rw [gfil_at]
    by_cases q : y < N
    · rw [if_pos q]; exact hv y q
    · rw [if_neg q]; exact (h.1 x hx).2 y hy
  · rw [gfil_ne _ e]; exact (h.1 x hx).2 y hy
abbrev kJ7_fill_53178 : KD := (RJ7, cJ7_fill_53178, 4, none, [])
def TJ7_fill_53178 : TR := fun as G Qr => ∃ (n N : Nat) (v : Int), as = [(2, (n : Int)), (0, v)] ∧ gK G n = (1, N) ∧ N ≤ 100000 ∧ Qr (.inl none) (gfil G n N v)
theorem gJ7_fill_53178 : Good kJ7_fill_53178 yJ7_fill_53178 0 TJ7_fill_53178 := by
  refine good_of (by decide) rfl rfl (fun as G Qr h => ?_) (fun X as G Qr hcf hR hT oa => ?_)
  · obtain ⟨n, N, v, rfl, -⟩ := h; exact Nat.le_of_ble_eq_true rfl
  obtain ⟨n, N, v, rfl, hk, hN, hQ⟩ := hT
  show WP kJ7_fill_53178 X 0 [some (2, (n : Int)), some (0, v), none, none] [] G
  refine s_iconst dJ7_fill_53178_0 (by decide) ?_
  refine s_istore_n dJ7_fill_53178_1 (by decide) (lv' := [some (2, (n : Int)), some (0, v), some (0, 0), none]) rfl ?_
  refine s_aload_n dJ7_fill_53178_2 rfl (Int.natCast_nonneg _) ?_
  refine s_alen dJ7_fill_53178_3 hk (by decide) (by omega) ?_
  refine s_istore_n dJ7_fill_53178_4 (by decide) (lv' := [some (2, (n : Int)), some (0, v), some (0, 0), some (0, (N : Int))]) rfl ?_
  have lo : ∀ (f k : Nat), k + f = N → WP kJ7_fill_53178 X 5 [some (2, (n : Int)), some (0, v), some (0, (k : Int)), some (0, (N : Int))] [] (gfil G n k v) := by
    intro f
    induction f with
    | zero =>
      intro k hkN
      refine s_iload_n dJ7_fill_53178_5 rfl ?_
      refine s_iload_n dJ7_fill_53178_6 rfl ?_
      refine s_icmp_ge (tgt := 20) dJ7_fill_53178_7 (by decide) (fun c => ?_) (fun c => absurd c (by omega))
      have e : k = N := by omega
      subst e
      exact s_vret hR dJ7_fill_53178_20 rfl hQ
    | succ f ih =>
      intro k hkN
      refine s_iload_n dJ7_fill_53178_5 rfl ?_
      refine s_iload_n dJ7_fill_53178_6 rfl ?_
      refine s_icmp_ge (tgt := 20) dJ7_fill_53178_7 (by decide) (fun c => absurd c (by omega)) (fun c => ?_)
      refine s_aload_n dJ7_fill_53178_10 rfl (Int.natCast_nonneg _) ?_
      refine s_iload_n dJ7_fill_53178_11 rfl ?_
      refine s_iload_n dJ7_fill_53178_12 rfl ?_
      refine s_iast dJ7_fill_53178_13 (n := n) (N := N) hk (by omega) (by omega) ?_
      rw [Int.toNat_natCast, gfil_s]
      refine s_iinc dJ7_fill_53178_14 (v := (k : Int)) rfl (by omega) (by decide) (lv' := [some (2, (n : Int)), some (0, v), some (0, (k : Int) + 1), some (0, (N : Int))]) rfl ?_
      refine s_goto (tgt := 5) dJ7_fill_53178_17 (by decide) ?_
      exact ih (k + 1) (by omega)
  have l9 := lo N 0 (by omega)
  rw [gfil_0] at l9
  exact l9
abbrev kJ7_copyOf_59c91 : KD := (RJ7, cJ7_copyOf_59c91, 3, (some (.array .int)), [])
def TJ7_copyOf_59c91 : TR := fun as G Qr => ∃ (x N nm : Nat) (n : Int), as = [(2, (x : Int)), (0, n)] ∧ gK G x = (1, N) ∧ N ≤ 1000000 ∧ (0 ≤ n ∧ n ≤ 1000000 ∧ ¬ n = (N : Int)) ∧ (gK G nm).1 = 0 ∧ gc G + 1 ≤ 601024 ∧ gs G + n.toNat ≤ 7293034 ∧ Qr (.inl (some (2, (nm : Int)))) (gcpy (gnew G nm 1 n.toNat n.toNat (fun _ => 0)) x 0 nm 0 (if n < (N : Int) then n else (N : Int)).toNat)
theorem gJ7_copyOf_59c91 : Good kJ7_copyOf_59c91 yJ7_copyOf_59c91 1 TJ7_copyOf_59c91 := by
  refine good_of (by decide) rfl rfl (fun as G Qr h => ?_) (fun X as G Qr hcf hR hT oa => ?_)
  · obtain ⟨x, N, nm, n, rfl, -⟩ := h; exact Nat.le_of_ble_eq_true rfl
  obtain ⟨x, N, nm, n, rfl, hk, hN, hn, hd, hc, hs, hQ⟩ := hT
  show WP kJ7_copyOf_59c91 X 0 [some (2, (x : Int)), some (0, n), none] [] G
  have hxn : x ≠ nm := fun q => by rw [q] at hk; rw [hk] at hd; exact Nat.succ_ne_zero _ hd
  have hk9 : gK (gnew G nm 1 n.toNat n.toNat (fun _ => 0)) x = (1, N) := by rw [gnew_Kne _ _ _ _ _ hxn]; exact hk
  refine s_iload_n dJ7_copyOf_59c91_0 rfl ?_
  refine s_aload_n dJ7_copyOf_59c91_1 rfl (Int.natCast_nonneg _) ?_
  refine s_alen dJ7_copyOf_59c91_2 hk (by decide) (by omega) ?_
  refine s_icmp_ne (tgt := 14) dJ7_copyOf_59c91_3 (by decide) (fun c => ?_) (fun c => absurd c hn.2.2)
  refine s_iload_n dJ7_copyOf_59c91_14 rfl ?_
  refine s_newI nm n.toNat dJ7_copyOf_59c91_15 (by omega) (by omega) hd hc hs ?_
  refine s_astore_n (Int.natCast_nonneg _) dJ7_copyOf_59c91_17 (by decide) (lv' := [some (2, (x : Int)), some (0, n), some (2, (nm : Int))]) rfl ?_
  refine s_aload_n dJ7_copyOf_59c91_18 rfl (Int.natCast_nonneg _) ?_
  refine s_iconst dJ7_copyOf_59c91_19 (by decide) ?_
  refine s_aload_n dJ7_copyOf_59c91_20 rfl (Int.natCast_nonneg _) ?_
  refine s_iconst dJ7_copyOf_59c91_21 (by decide) ?_
  refine s_aload_n dJ7_copyOf_59c91_22 rfl (Int.natCast_nonneg _) ?_
  refine s_alen dJ7_copyOf_59c91_23 hk9 (by decide) (by omega) ?_
  refine s_iload_n dJ7_copyOf_59c91_24 rfl ?_
  refine s_mmin dJ7_copyOf_59c91_25 m_1039 (by rw [hcf]; exact Nat.le_refl _) (Nat.le_of_ble_eq_true rfl) ?_
  refine s_copyI dJ7_copyOf_59c91_28 m_1037 hk9 (gnew_K _ _ _ _ _ _) (by omega) (by omega) (by split <;> omega) (by split <;> omega) (by split <;> omega) (by rw [hcf]; exact Nat.le_refl _) (Nat.le_of_ble_eq_true rfl) ?_
  refine s_aload_n dJ7_copyOf_59c91_31 rfl (Int.natCast_nonneg _) ?_
  exact s_aret hR dJ7_copyOf_59c91_32 rfl (Or.inr ⟨_, rfl⟩) hQ
abbrev kJ7_copyOf_c38d5 : KD := (RJ7, cJ7_copyOf_c38d5, 3, (some (.array .long)), [])
def TJ7_copyOf_c38d5 : TR := fun as G Qr => ∃ (x N nm : Nat) (n : Int), as = [(2, (x : Int)), (0, n)] ∧ gK G x = (3, N) ∧ N ≤ 1000000 ∧ (0 ≤ n ∧ n ≤ 1000000 ∧ ¬ n = (N : Int)) ∧ (gK G nm).1 = 0 ∧ gc G + 1 ≤ 601024 ∧ gs G + n.toNat ≤ 7293034 ∧ Qr (.inl (some (2, (nm : Int)))) (gcpy (gnew G nm 3 n.toNat n.toNat (fun _ => 0)) x 0 nm 0 (if n < (N : Int) then n else (N : Int)).toNat)
theorem gJ7_copyOf_c38d5 : Good kJ7_copyOf_c38d5 yJ7_copyOf_c38d5 1 TJ7_copyOf_c38d5 := by
  refine good_of (by decide) rfl rfl (fun as G Qr h => ?_) (fun X as G Qr hcf hR hT oa => ?_)
  · obtain ⟨x, N, nm, n, rfl, -⟩ := h; exact Nat.le_of_ble_eq_true rfl
  obtain ⟨x, N, nm, n, rfl, hk, hN, hn, hd, hc, hs, hQ⟩ := hT
  show WP kJ7_copyOf_c38d5 X 0 [some (2, (x : Int)), some (0, n), none] [] G
  have hxn : x ≠ nm := fun q => by rw [q] at hk; rw [hk] at hd; exact Nat.succ_ne_zero _ hd
  have hk9 : gK (gnew G nm 3 n.toNat n.toNat (fun _ => 0)) x = (3, N) := by rw [gnew_Kne _ _ _ _ _ hxn]; exact hk
  refine s_iload_n dJ7_copyOf_c38d5_0 rfl ?_
  refine s_aload_n dJ7_copyOf_c38d5_1 rfl (Int.natCast_nonneg _) ?_
  refine s_alen dJ7_copyOf_c38d5_2 hk (by decide) (by omega) ?_
  refine s_icmp_ne (tgt := 14) dJ7_copyOf_c38d5_3 (by decide) (fun c => ?_) (fun c => absurd c hn.2.2)
  refine s_iload_n dJ7_copyOf_c38d5_14 rfl ?_
  refine s_newL nm n.toNat dJ7_copyOf_c38d5_15 (by omega) (by omega) hd hc hs ?_
  refine s_astore_n (Int.natCast_nonneg _) dJ7_copyOf_c38d5_17 (by decide) (lv' := [some (2, (x : Int)), some (0, n), some (2, (nm : Int))]) rfl ?_
  refine s_aload_n dJ7_copyOf_c38d5_18 rfl (Int.natCast_nonneg _) ?_
  refine s_iconst dJ7_copyOf_c38d5_19 (by decide) ?_
  refine s_aload_n dJ7_copyOf_c38d5_20 rfl (Int.natCast_nonneg _) ?_
  refine s_iconst dJ7_copyOf_c38d5_21 (by decide) ?_
  refine s_aload_n dJ7_copyOf_c38d5_22 rfl (Int.natCast_nonneg _) ?_
  refine s_alen dJ7_copyOf_c38d5_23 hk9 (by decide) (by omega) ?_
  refine s_iload_n dJ7_copyOf_c38d5_24 rfl ?_
  refine s_mmin dJ7_copyOf_c38d5_25 m_1039 (by rw [hcf]; exact Nat.le_refl _) (Nat.le_of_ble_eq_true rfl) ?_
  refine s_copyL dJ7_copyOf_c38d5_28 m_1037 hk9 (gnew_K _ _ _ _ _ _) (by omega) (by omega) (by split <;> omega) (by split <;> omega) (by split <;> omega) (by rw [hcf]; exact Nat.le_refl _) (Nat.le_of_ble_eq_true rfl) ?_
  refine s_aload_n dJ7_copyOf_c38d5_31 rfl (Int.natCast_nonneg _) ?_
  exact s_aret hR dJ7_copyOf_c38d5_32 rfl (Or.inr ⟨_, rfl⟩) hQ
theorem WX.fil {S : Nat → Prop} {G G1 G' : LG} {n N : Nat} {v : Int} (h : WX S G G1) (e : G' = gfil G1 n N v) (hn : S (n % 1048576)) : WX S G G' := fun z hz hs => by
  rw [← h z hz hs, e]
  exact gfil_ne _ (fun q => hs (by rw [q]; exact hn))
