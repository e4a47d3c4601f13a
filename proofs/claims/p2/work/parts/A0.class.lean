/-! THE CLASS: its cells are typed by their names -/
/-- what a cell is, by its name: what grows bears its owner's name below 2^20 -/
def cde (x : Nat) : Nat := if x % 1048576 < 65536 then (if x % 1048576 = 63 then 63 else 0) else if x % 1048576 < 131072 then 100 + x % 64 else if x % 1048576 < 196608 then 200 + x % 64 else if x % 1048576 < 262144 then 300 + x % 64 else if x % 1048576 < 327680 then 400 + x % 64 else if x % 1048576 < 393216 then 500 + (x % 1048576 - 327680) else 600
def tk (c : Nat) (k : Nat × Nat) : Prop := match c with
  | 63 => ∃ L, k = (6, L) ∧ 0 ≤ L ∧ L ≤ 3
  | 100 => k = (13, 0)
  | 101 => k = (9, 0)
  | 102 => k = (1, 6)
  | 103 => k = (1, 10)
  | 104 => k = (4, 16)
  | 105 => k = (1, 16)
  | 106 => k = (2, 10)
  | 107 => k = (1, 10)
  | 108 => ∃ L, k = (1, L) ∧ 4 ≤ L ∧ L ≤ 400
  | 109 => ∃ L, k = (1, L) ∧ 4 ≤ L ∧ L ≤ 400
  | 110 => ∃ L, k = (1, L) ∧ 4 ≤ L ∧ L ≤ 400
  | 111 => ∃ L, k = (1, L) ∧ 4 ≤ L ∧ L ≤ 400
  | 112 => ∃ L, k = (1, L) ∧ 4 ≤ L ∧ L ≤ 400
  | 113 => ∃ L, k = (1, L) ∧ 4 ≤ L ∧ L ≤ 400
  | 114 => ∃ L, k = (1, L) ∧ 4 ≤ L ∧ L ≤ 400
  | 115 => ∃ L, k = (1, L) ∧ 4 ≤ L ∧ L ≤ 400
  | 116 => ∃ L, k = (1, L) ∧ 4 ≤ L ∧ L ≤ 400
  | 117 => ∃ L, k = (1, L) ∧ 4 ≤ L ∧ L ≤ 400
  | 118 => ∃ L, k = (1, L) ∧ 4 ≤ L ∧ L ≤ 400
  | 119 => ∃ L, k = (1, L) ∧ 4 ≤ L ∧ L ≤ 400
  | 120 => ∃ L, k = (1, L) ∧ 4 ≤ L ∧ L ≤ 400
  | 121 => ∃ L, k = (1, L) ∧ 4 ≤ L ∧ L ≤ 400
  | 122 => ∃ L, k = (1, L) ∧ 4 ≤ L ∧ L ≤ 400
  | 123 => ∃ L, k = (1, L) ∧ 4 ≤ L ∧ L ≤ 400
  | 124 => k = (15, 0)
  | 125 => ∃ L, k = (1, L) ∧ 16 ≤ L ∧ L ≤ 19622
  | 126 => k = (15, 0)
  | 127 => ∃ L, k = (1, L) ∧ 16 ≤ L ∧ L ≤ 6540
  | 200 => k = (19, 0)
  | 201 => k = (1, 6)
  | 202 => k = (1, 10)
  | 203 => k = (1, 10)
  | 204 => k = (1, 10)
  | 300 => k = (12, 0)
  | 301 => k = (1, 240)
  | 302 => k = (1, 240)
  | 303 => k = (1, 240)
  | 304 => k = (1, 240)
  | 305 => k = (1, 240)
  | 306 => k = (2, 240)
  | 307 => k = (1, 240)
  | 308 => k = (1, 240)
  | 313 => k = (1, 240)
  | 315 => k = (1, 10)
  | 320 => k = (18, 0)
  | 321 => ∃ L, k = (1, L) ∧ 32 ≤ L ∧ L ≤ 8192
  | 322 => ∃ L, k = (1, L) ∧ 32 ≤ L ∧ L ≤ 8192
  | 323 => ∃ L, k = (3, L) ∧ 32 ≤ L ∧ L ≤ 8192
  | 324 => ∃ L, k = (1, L) ∧ 32 ≤ L ∧ L ≤ 8192
  | 400 => k = (10, 0)
  | 401 => k = (4, 6)
  | 402 => k = (1, 6)
  | 403 => k = (1, 6)
  | 404 => k = (4, 6)
  | 405 => k = (1, 6)
  | 408 => k = (1, 200)
  | 409 => k = (1, 200)
  | 410 => k = (1, 200)
  | 411 => k = (1, 200)
  | 412 => k = (1, 200)
  | 413 => k = (1, 200)
  | 416 => k = (1, 200)
  | 417 => k = (1, 200)
  | 418 => k = (1, 200)
  | 419 => k = (1, 200)
  | 420 => k = (1, 200)
  | 421 => k = (1, 200)
  | 500 => k = (20, 0)
  | 501 => k = (14, 0)
  | 502 => k = (11, 0)
  | 503 => k = (16, 0)
  | 504 => k = (17, 0)
  | 505 => k = (8, 0)
  | 506 => ∃ L, k = (7, L) ∧ 10 ≤ L ∧ L ≤ 60
  | 507 => ∃ L, k = (1, L) ∧ 320 ≤ L ∧ L ≤ 810000
  | 508 => k = (1, 64)
  | 509 => k = (1, 200)
  | 510 => ∃ L, k = (1, L) ∧ 64 ≤ L ∧ L ≤ 2412
  | 511 => k = (1, 200)
  | 512 => k = (1, 200)
  | 516 => k = (4, 60)
  | 517 => k = (1, 60)
  | 518 => k = (1, 60)
  | 519 => k = (1, 60)
  | 521 => k = (1, 120)
  | 522 => k = (1, 120)
  | 523 => k = (1, 120)
  | 524 => k = (1, 120)
  | 525 => k = (1, 120)
  | 526 => k = (1, 120)
  | 527 => k = (1, 120)
  | 529 => k = (5, 40)
  | 530 => k = (1, 8)
  | 600 => k = (1, 12)
  | _ => True
def tv100 (r j : Nat) (v : Int) : Prop := match j with
  | 0 => v = (((r - 65536) / 64 : Nat) : Int)
  | 1 => 0 ≤ v ∧ v ≤ 6
  | 2 => 0 ≤ v ∧ v % 1048576 = 63
  | 3 => 0 ≤ v ∧ v ≤ 9
  | 4 => -1 ≤ v ∧ v ≤ 9
  | 5 => 0 ≤ v ∧ v ≤ 1
  | 6 => 1 ≤ v ∧ v ≤ 24
  | 7 => v = ((r + 1 : Nat) : Int)
  | 8 => v = ((r + 24 : Nat) : Int)
  | 9 => v = ((r + 26 : Nat) : Int)
  | 10 => True
  | 11 => True
  | 12 => True
  | 13 => 0 ≤ v ∧ v ≤ 1
  | _ => True
def tv101 (r j : Nat) (v : Int) : Prop := match j with
  | 0 => True
  | 1 => v = ((r + 1 : Nat) : Int)
  | 2 => v = ((r + 2 : Nat) : Int)
  | 3 => v = ((r + 3 : Nat) : Int)
  | 4 => v = ((r + 4 : Nat) : Int)
  | 5 => v = ((r + 5 : Nat) : Int)
  | 6 => v = ((r + 6 : Nat) : Int)
  | _ => True
def tv124 (r j : Nat) (v : Int) : Prop := match j with
  | 0 => 0 ≤ v ∧ v % 1048576 = ((r + 1 : Nat) : Int)
  | 1 => 0 ≤ v ∧ v ≤ 9811
  | _ => True
def tv126 (r j : Nat) (v : Int) : Prop := match j with
  | 0 => 0 ≤ v ∧ v % 1048576 = ((r + 1 : Nat) : Int)
  | 1 => 0 ≤ v ∧ v ≤ 3270
  | _ => True
def tv200 (r j : Nat) (v : Int) : Prop := match j with
  | 0 => v = ((r + 1 : Nat) : Int)
  | 1 => v = ((r + 2 : Nat) : Int)
  | 2 => v = ((r + 3 : Nat) : Int)
  | 3 => v = ((r + 4 : Nat) : Int)
  | _ => True
def tv300 (r j : Nat) (v : Int) : Prop := match j with
  | 0 => v = 327681
  | 1 => v = ((r + 1 : Nat) : Int)
  | 2 => v = ((r + 2 : Nat) : Int)
  | 3 => v = ((r + 3 : Nat) : Int)
  | 4 => v = ((r + 4 : Nat) : Int)
  | 5 => v = ((r + 5 : Nat) : Int)
  | 6 => v = ((r + 6 : Nat) : Int)
  | 7 => v = ((r + 7 : Nat) : Int)
  | 8 => v = ((r + 8 : Nat) : Int)
  | 9 => 0 ≤ v ∧ v ≤ 24
  | 10 => -1 ≤ v ∧ v ≤ 239
  | 11 => True
  | 12 => v = ((r + 20 : Nat) : Int)
  | 13 => v = ((r + 13 : Nat) : Int)
  | 14 => 0 ≤ v ∧ v ≤ 240
  | 15 => v = ((r + 15 : Nat) : Int)
  | 16 => 0 ≤ v ∧ v ≤ 240
  | 17 => 0 ≤ v ∧ v ≤ 240
  | _ => True
def tv320 (r j : Nat) (v : Int) : Prop := match j with
  | 0 => 0 ≤ v ∧ v % 1048576 = ((r + 1 : Nat) : Int)
  | 1 => 0 ≤ v ∧ v % 1048576 = ((r + 2 : Nat) : Int)
  | 2 => 0 ≤ v ∧ v % 1048576 = ((r + 3 : Nat) : Int)
  | 3 => 0 ≤ v ∧ v % 1048576 = ((r + 4 : Nat) : Int)
  | 4 => 0 ≤ v ∧ v ≤ 8192
  | _ => True
def tv400 (r j : Nat) (v : Int) : Prop := match j with
  | 0 => v = ((r + 1 : Nat) : Int)
  | 1 => v = ((r + 2 : Nat) : Int)
  | 2 => v = ((r + 3 : Nat) : Int)
  | 3 => v = ((r + 4 : Nat) : Int)
  | 4 => v = ((r + 5 : Nat) : Int)
  | _ => True
def tv500 (r j : Nat) (v : Int) : Prop := match j with
  | 0 => v = 327681
  | 1 => v = 327682
  | 2 => v = 68184
  | 3 => v = 196608 ∨ v = 196672
  | 4 => v = 196608 ∨ v = 196672
  | 5 => 0 ≤ v ∧ v ≤ 1
  | _ => True
def tv501 (r j : Nat) (v : Int) : Prop := match j with
  | 0 => v = 327696
  | 1 => v = 327697
  | 2 => v = 327698
  | 3 => v = 327699
  | 4 => 0 ≤ v ∧ v ≤ 60
  | 5 => v = 327701
  | 6 => v = 327702
  | 7 => v = 327703
  | 8 => v = 327704
  | 9 => v = 327705
  | 10 => v = 327706
  | 11 => v = 327707
  | 12 => 0 ≤ v ∧ v ≤ 120
  | 13 => v = 327709
  | 14 => v = 327710
  | 15 => 0 ≤ v ∧ v ≤ 8
  | 16 => v = 327685
  | 17 => True
  | _ => True
def tv502 (r j : Nat) (v : Int) : Prop := match j with
  | 0 => v = 327681
  | 1 => v = 327683
  | 2 => v = 262144
  | 3 => v = 262208
  | 4 => v = 327684
  | 5 => v = 68097
  | 6 => v = 327691
  | 7 => v = 327692
  | _ => True
def tv503 (r j : Nat) (v : Int) : Prop := match j with
  | 0 => 0 ≤ v ∧ v % 1048576 = 327687
  | 1 => 0 ≤ v ∧ v ≤ 200000
  | 2 => v = 327688
  | _ => True
def tv504 (r j : Nat) (v : Int) : Prop := match j with
  | 0 => v = 327681
  | 1 => v = 262144
  | 2 => v = 327689
  | 3 => 0 ≤ v ∧ v % 1048576 = 327690
  | 4 => 0 ≤ v ∧ v ≤ 2412
  | _ => True
def tv505 (r j : Nat) (v : Int) : Prop := match j with
  | 0 => True
  | 1 => 0 ≤ v ∧ (v % 1048576 = 327686 ∨ v = 510)
  | 2 => 0 ≤ v ∧ v ≤ 40
  | _ => True
def tv (c r j : Nat) (v : Int) : Prop := match c with
  | 63 => v = -1 ∨ (65536 ≤ v ∧ v ≤ 68032 ∧ v % 64 = 0)
  | 100 => tv100 r j v
  | 101 => tv101 r j v
  | 104 => 0 ≤ v ∧ v % 1048576 = ((r + 4 + j : Nat) : Int)
  | 105 => 0 ≤ v ∧ v ≤ 200
  | 124 => tv124 r j v
  | 126 => tv126 r j v
  | 200 => tv200 r j v
  | 201 => -2 ≤ v ∧ v ≤ 59
  | 202 => (v = -2 ∨ 0 ≤ v) ∧ v ≤ 59
  | 203 => -1 ≤ v ∧ v ≤ 119
  | 204 => 0 ≤ v ∧ v ≤ 7
  | 300 => tv300 r j v
  | 301 => -2 ≤ v ∧ v ≤ 119
  | 303 => -1 ≤ v ∧ v ≤ 239
  | 304 => -1 ≤ v ∧ v ≤ 239
  | 305 => -1 ≤ v ∧ v ≤ 239
  | 308 => 0 ≤ v ∧ v ≤ 239
  | 320 => tv320 r j v
  | 400 => tv400 r j v
  | 401 => v = ((r + 7 + j : Nat) : Int)
  | 402 => 0 ≤ v ∧ v ≤ 200
  | 404 => v = ((r + 12 + j : Nat) : Int)
  | 405 => 0 ≤ v ∧ v ≤ 201
  | 500 => tv500 r j v
  | 501 => tv501 r j v
  | 502 => tv502 r j v
  | 503 => tv503 r j v
  | 504 => tv504 r j v
  | 505 => tv505 r j v
  | 506 => v = -1 ∨ (65536 ≤ v ∧ v ≤ 68032 ∧ v % 64 = 0)
  | 508 => -1 ≤ v ∧ v ≤ 200000
  | 516 => v = ((393216 + j : Nat) : Int)
  | 517 => 0 ≤ v ∧ v ≤ 12
  | 521 => 0 ≤ v ∧ v ≤ 6
  | 523 => -1 ≤ v ∧ v ≤ 119
  | 524 => -1 ≤ v ∧ v ≤ 119
  | 525 => 0 ≤ v ∧ v ≤ 12
  | 527 => 0 ≤ v ∧ v ≤ 119
  | 529 => v = ((131072 + 64 * j : Nat) : Int)
  | 530 => 0 ≤ v ∧ v ≤ 5
  | 600 => 0 ≤ v ∧ v ≤ 7
  | _ => True
/-- all cells that are there are what their names say -/
def TI (G : LG) : Prop := ∀ x, (gK G x).1 ≠ 0 → tk (cde x) (gK G x) ∧ ∀ j, j < lw_len (gK G x) → tv (cde x) (x % 1048576) j (gS G x j)
theorem TI.set {G : LG} {n j : Nat} {v : Int} (h : TI G) (hv : tv (cde n) (n % 1048576) j v) : TI (gset G n j v) := by
  intro x hx
  refine ⟨(h x hx).1, fun y hy => ?_⟩
  by_cases e : x = n ∧ y = j
  · obtain ⟨rfl, rfl⟩ := e; rw [gset_at]; exact hv
  · rw [gset_ne _ _ e]; exact (h x hx).2 y hy
theorem TI.cpy {G : LG} {a i b j n : Nat} (h : TI G) (hv : ∀ y, j ≤ y → y < j + n → tv (cde b) (b % 1048576) y (gS G a (i + (y - j)))) : TI (gcpy G a i b j n) := by
  intro x hx
  refine ⟨(h x hx).1, fun y hy => ?_⟩
  by_cases e : x = b
  · subst e
    rw [gcpy_at]
    by_cases q : j ≤ y ∧ y < j + n
    · rw [if_pos q]; exact hv y q.1 q.2
    · rw [if_neg q]; exact (h x hx).2 y hy
  · rw [gcpy_ne _ e]; exact (h x hx).2 y hy
theorem TI.new {G : LG} {n k L sl : Nat} {d : Nat → Int} (h : TI G) (hk : tk (cde n) (k, L)) (hv : ∀ j, j < lw_len (k, L) → tv (cde n) (n % 1048576) j (d j)) : TI (gnew G n k L sl d) := by
  intro x hx
  by_cases e : x = n
  · subst e
    rw [gnew_K, gnew_at]; exact ⟨hk, hv⟩
  · rw [gnew_Kne _ _ _ _ _ e] at hx ⊢
    rw [gnew_ne _ _ _ _ _ e]; exact h x hx
theorem TI.skip {G : LG} {a b : Nat} (h : TI G) : TI (gskip G a b) := h
theorem cde_mod {x y : Nat} (h : x % 1048576 = y) (hy : y < 1048576) : cde x = cde y := by
  have h1 : y % 1048576 = y := Nat.mod_eq_of_lt hy
  have h2 : x % 64 = y % 64 := by omega
  unfold cde
  rw [h1, h, h2]
theorem cde_n {x : Nat} (h : 65536 ≤ x % 1048576) (h2 : x % 1048576 < 131072) : cde x = 100 + x % 64 := by
  unfold cde
  rw [if_neg (by omega), if_pos h2]
theorem cde_v {x : Nat} (h : 131072 ≤ x % 1048576) (h2 : x % 1048576 < 196608) : cde x = 200 + x % 64 := by
  unfold cde
  rw [if_neg (by omega), if_neg (by omega), if_pos h2]
theorem cde_m {x : Nat} (h : 196608 ≤ x % 1048576) (h2 : x % 1048576 < 262144) : cde x = 300 + x % 64 := by
  unfold cde
  rw [if_neg (by omega), if_neg (by omega), if_neg (by omega), if_pos h2]
theorem cde_f {x : Nat} (h : 262144 ≤ x % 1048576) (h2 : x % 1048576 < 327680) : cde x = 400 + x % 64 := by
  unfold cde
  rw [if_neg (by omega), if_neg (by omega), if_neg (by omega), if_neg (by omega), if_pos h2]
theorem cde_t {x : Nat} (h : 393216 ≤ x % 1048576) : cde x = 600 := by
  unfold cde
  rw [if_neg (by omega), if_neg (by omega), if_neg (by omega), if_neg (by omega), if_neg (by omega), if_neg (by omega)]
theorem cde_s {x : Nat} (h : 327680 ≤ x % 1048576) (h2 : x % 1048576 < 393216) : cde x = 500 + (x % 1048576 - 327680) := by
  unfold cde
  rw [if_neg (by omega), if_neg (by omega), if_neg (by omega), if_neg (by omega), if_neg (by omega), if_pos h2]
section TROWS
variable {K : KD} {X : CX} {pc : Nat} {lv lv' : List (Option LV)} {st : List LV} {G : LG}
theorem s_alv (n : Nat) (hm : (2, (n : Int)) ∈ st) (kk : (gK G n).1 ≠ 0 → WP K X pc lv st G) : WP K X pc lv st G := by
  obtain ⟨p, l, e, R, s, m, args, below, meth, c, D, dT, ad0, G0, Q, base, sbase⟩ := X
  intro ho ad H locs ls hd he hs hl o1 o2
  have h9 := (o2 _ hm).2.2 (Nat.le_refl 2) (Int.natCast_nonneg n)
  rw [Int.toNat_natCast] at h9
  exact kk h9 ho ad H locs ls hd he hs hl o1 o2
theorem s_alvl (n : Nat) {k : Nat} (hm : lv[k]? = some (some (2, (n : Int)))) (kk : (gK G n).1 ≠ 0 → WP K X pc lv st G) : WP K X pc lv st G := by
  obtain ⟨p, l, e, R, s, m, args, below, meth, c, D, dT, ad0, G0, Q, base, sbase⟩ := X
  intro ho ad H locs ls hd he hs hl o1 o2
  have h9 := (okv_lv o1 hm).2.2 (Nat.le_refl 2) (Int.natCast_nonneg n)
  rw [Int.toNat_natCast] at h9
  exact kk h9 ho ad H locs ls hd he hs hl o1 o2
/-- what is referred to is there -/
theorem s_alh (n j : Nat) (hk : (gK G n).1 ≠ 0) (hj : j < lw_len (gK G n)) (ht : lw_st (gK G n).1 j = 2) (kk : (0 ≤ gS G n j → (gK G (gS G n j).toNat).1 ≠ 0) → WP K X pc lv st G) : WP K X pc lv st G := by
  obtain ⟨p, l, e, R, s, m, args, below, meth, c, D, dT, ad0, G0, Q, base, sbase⟩ := X
  intro ho ad H locs ls hd he hs hl o1 o2
  have h := hd.2.2.1 n j hk hj
  rw [ht] at h
  exact kk (fun h0 => h.2.2 (Nat.le_refl 2) h0) ho ad H locs ls hd he hs hl o1 o2
end TROWS
