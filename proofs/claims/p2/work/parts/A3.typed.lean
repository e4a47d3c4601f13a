/-! THE CLASS: what is read and written -/
theorem TI.k {G : LG} {n c : Nat} (h : TI G) (hc : cde n = c) (al : (gK G n).1 ≠ 0) : tk c (gK G n) := hc ▸ (h n al).1
theorem TI.v {G : LG} {n c j : Nat} (h : TI G) (hc : cde n = c) (al : (gK G n).1 ≠ 0) (hj : j < lw_len (gK G n)) : tv c (n % 1048576) j (gS G n j) := hc ▸ (h n al).2 j hj
/-- kinds stay -/
def KX (G G' : LG) : Prop := ∀ x, (gK G x).1 ≠ 0 → gK G' x = gK G x
theorem KX.rf {G : LG} : KX G G := fun _ _ => rfl
theorem KX.trans {G G1 G2 : LG} (h : KX G G1) (k : KX G1 G2) : KX G G2 := fun x hx => (k x (by rw [h x hx]; exact hx)).trans (h x hx)
theorem KX.of {G G' : LG} (h : gK G' = gK G) : KX G G' := fun x _ => by rw [h]
theorem KX.set {G G' G1 : LG} {n j : Nat} {v : Int} (h : KX G G1) (e : G' = gset G1 n j v) : KX G G' := h.trans (KX.of (by rw [e]; rfl))
theorem KX.cpy {G G' G1 : LG} {x i y j n : Nat} (h : KX G G1) (e : G' = gcpy G1 x i y j n) : KX G G' := h.trans (KX.of (by rw [e]; rfl))
theorem KX.new {G G' G1 : LG} {n k L sl : Nat} {d : Nat → Int} (h : KX G G1) (e : G' = gnew G1 n k L sl d) (hn : (gK G1 n).1 = 0) : KX G G' := h.trans (fun x hx => by rw [e, gnew_Kne _ _ _ _ _ (fun q => hx (by rw [q]; exact hn))])
theorem KX.k {G G' : LG} {n t L : Nat} (h : KX G G') (e : gK G n = (t, L)) (ht : t ≠ 0) : gK G' n = (t, L) := (h n (by rw [e]; exact ht)).trans e
/-- only cells whose names below 2^20 are so have changed, and new ones have come -/
def WX (S : Nat → Prop) (G G' : LG) : Prop := ∀ x, (gK G x).1 ≠ 0 → ¬ S (x % 1048576) → gS G' x = gS G x
theorem WX.rf {S : Nat → Prop} {G : LG} : WX S G G := fun _ _ _ => rfl
theorem WX.trans {S : Nat → Prop} {G G1 G2 : LG} (h : WX S G G1) (kx : KX G G1) (k : WX S G1 G2) : WX S G G2 := fun x hx hs => (k x (by rw [kx x hx]; exact hx) hs).trans (h x hx hs)
theorem WX.set {S : Nat → Prop} {G G1 G' : LG} {n j : Nat} {v : Int} (h : WX S G G1) (e : G' = gset G1 n j v) (hn : S (n % 1048576)) : WX S G G' := fun x hx hs => by
  rw [← h x hx hs, e]
  funext y
  exact gset_ne _ _ (fun q => hs (by rw [q.1]; exact hn))
theorem WX.mono {S S' : Nat → Prop} {G G' : LG} (h : WX S G G') (hs : ∀ x, S x → S' x) : WX S' G G' := fun x hx hn => h x hx (fun q => hn (hs _ q))
abbrev isFc (o : Nat) : Prop := 65537 ≤ o ∧ o ≤ 68097 ∧ o % 64 = 1
abbrev isNd (o : Nat) : Prop := 65536 ≤ o ∧ o ≤ 68032 ∧ o % 64 = 0
abbrev isRw (o : Nat) : Prop := 65536 ≤ o ∧ o ≤ 68184 ∧ (o % 64 = 24 ∨ o % 64 = 26)
abbrev isVr (o : Nat) : Prop := 131072 ≤ o ∧ o ≤ 133568 ∧ o % 64 = 0
abbrev isMc (o : Nat) : Prop := o = 196608 ∨ o = 196672
abbrev isVl (o : Nat) : Prop := o = 196628 ∨ o = 196692
abbrev isFl (o : Nat) : Prop := o = 262144 ∨ o = 262208
