/-! THE CLASS: rows of parts, what is filled in -/
/-- the first n places of a row are so -/
def RPs (P : Int → Prop) (G : LG) (r : Nat) (n : Int) : Prop := ∀ j : Nat, (j : Int) < n → (gK G r).1 ≠ 0 ∧ P (gS G r j)
theorem RPs.le {P : Int → Prop} {G : LG} {r : Nat} {m n : Int} (h : RPs P G r n) (hm : m ≤ n) : RPs P G r m := fun j hj => h j (by omega)
theorem RPs.zero {P : Int → Prop} {G : LG} {r : Nat} {n : Int} (hm : n ≤ 0) : RPs P G r n := fun j hj => absurd hj (by omega)
theorem RPs.mono {P P' : Int → Prop} {G : LG} {r : Nat} {n : Int} (h : RPs P G r n) (hP : ∀ x, P x → P' x) : RPs P' G r n := fun j hj => ⟨(h j hj).1, hP _ (h j hj).2⟩
theorem RPs.wx {P : Int → Prop} {S : Nat → Prop} {G G' : LG} {r : Nat} {n : Int} (h : RPs P G r n) (kx : KX G G') (wx : WX S G G') (hs : ¬ S (r % 1048576)) : RPs P G' r n := fun j hj => by
  obtain ⟨h1, h2⟩ := h j hj
  exact ⟨by rw [kx r h1]; exact h1, by rw [wx r h1 hs]; exact h2⟩
theorem RPs.set {P : Int → Prop} {G G' : LG} {r x j : Nat} {n v : Int} (h : RPs P G r n) (e : G' = gset G x j v) (hx : r ≠ x) : RPs P G' r n := fun i hi => by
  rw [gset_o e hx, e, gset_K]; exact h i hi
theorem RPs.cp9 {P : Int → Prop} {G G' : LG} {r x y i j m : Nat} {n : Int} (h : RPs P G r n) (e : G' = gcpy G x i y j m) (hx : r ≠ y) : RPs P G' r n := fun k hk => by
  rw [e, gcpy_ne _ hx, gcpy_K]; exact h k hk
theorem RPs.put {P : Int → Prop} {G G' : LG} {r : Nat} {n v : Int} (h : RPs P G r n) (hn : 0 ≤ n) (hv : P v) (al : (gK G r).1 ≠ 0) (e : G' = gset G r n.toNat v) : RPs P G' r (n + 1) := fun j hj => by
  refine ⟨by rw [e, gset_K]; exact al, ?_⟩
  by_cases q : j = n.toNat
  · subst q; rw [e, gset_at]; exact hv
  · rw [e, gset_ne _ _ (fun z => q z.2)]; exact (h j (by omega)).2
theorem RPs.cpy {P : Int → Prop} {G G' : LG} {r x : Nat} {n m : Int} (h : RPs P G r n) (hn : 0 ≤ n) (hm : 0 ≤ m) (hx : RPs P G x m) (al : (gK G r).1 ≠ 0) (e : G' = gcpy G x (0 : Int).toNat r n.toNat m.toNat) : RPs P G' r (n + m) := fun j hj => by
  refine ⟨by rw [e, gcpy_K]; exact al, ?_⟩
  rw [e, gcpy_at]
  by_cases q : n.toNat ≤ j ∧ j < n.toNat + m.toNat
  · rw [if_pos q]
    have h9 := (hx (j - n.toNat) (by omega)).2
    rw [show (0 : Int).toNat + (j - n.toNat) = j - n.toNat by simp]; exact h9
  · rw [if_neg q]; exact (h j (by omega)).2
/-- cells that hold whatever is put into them -/
def FRW (q : Nat) : Prop := spc (cde q) = false ∧ ∀ r j v, tv (cde q) r j v
theorem FRW.c {q c : Nat} (h : cde q = c) (hc : c = 509 ∨ c = 511 ∨ c = 512 ∨ (408 ≤ c ∧ c < 414) ∨ (416 ≤ c ∧ c < 422)) : FRW q := by
  unfold FRW
  rw [h]
  have hh : c = 509 ∨ c = 511 ∨ c = 512 ∨ c = 408 ∨ c = 409 ∨ c = 410 ∨ c = 411 ∨ c = 412 ∨ c = 413 ∨ c = 416 ∨ c = 417 ∨ c = 418 ∨ c = 419 ∨ c = 420 ∨ c = 421 := by omega
  rcases hh with rfl | rfl | rfl | rfl | rfl | rfl | rfl | rfl | rfl | rfl | rfl | rfl | rfl | rfl | rfl <;> exact ⟨rfl, fun _ _ _ => True.intro⟩
theorem FRW.f {q : Nat} (h : 262144 ≤ q ∧ q < 327680 ∧ ((8 ≤ q % 64 ∧ q % 64 < 14) ∨ (16 ≤ q % 64 ∧ q % 64 < 22))) : FRW q := FRW.c (cde_f (by omega) (by omega)) (by omega)
theorem FRW.u : FRW 327689 := FRW.c (c := 509) (by decide) (by omega)
theorem FRW.s : FRW 327691 := FRW.c (c := 511) (by decide) (by omega)
theorem FRW.o : FRW 327692 := FRW.c (c := 512) (by decide) (by omega)
/-- what is put for a name is so -/
def FIP (P : Int → Prop) (G : LG) (o k : Nat) : Prop := gS G (o + 5) k ≤ 200 → RPs P G (o + 16 + k) (gS G (o + 5) k)
/-- what is told of a name is so -/
def TLP (P : Int → Prop) (G : LG) (o k : Nat) : Prop := RPs P G (o + 8 + k) (gS G (o + 2) k)
theorem FIP.sm {P : Int → Prop} {S : Nat → Prop} {G G' : LG} {o k : Nat} (h : FIP P G o k) (kx : KX G G') (wx : WX S G G') (hs : ¬ S ((o + 16 + k) % 1048576)) (e : gS G' (o + 5) k = gS G (o + 5) k) : FIP P G' o k := fun h9 => by
  rw [e] at h9 ⊢
  exact (h h9).wx kx wx hs
theorem TLP.sm {P : Int → Prop} {S : Nat → Prop} {G G' : LG} {o k : Nat} (h : TLP P G o k) (kx : KX G G') (wx : WX S G G') (hs : ¬ S ((o + 8 + k) % 1048576)) (e : gS G' (o + 2) k = gS G (o + 2) k) : TLP P G' o k := by
  unfold TLP at h ⊢
  rw [e]
  exact h.wx kx wx hs
theorem FIP.set {P : Int → Prop} {G G' : LG} {o k x j : Nat} {v : Int} (h : FIP P G o k) (e : G' = gset G x j v) (hx : o + 16 + k ≠ x) (h5 : ¬ (o + 5 = x ∧ k = j)) : FIP P G' o k := fun h9 => by
  have e9 : gS G' (o + 5) k = gS G (o + 5) k := by rw [e]; exact gset_ne _ _ h5
  rw [e9] at h9 ⊢
  exact (h h9).set e hx
theorem RPs.cast {P : Int → Prop} {G : LG} {r : Nat} {m n : Int} (h : RPs P G r n) (e : n = m) : RPs P G r m := e ▸ h
theorem RPs.at {P : Int → Prop} {G : LG} {r x : Nat} {n : Int} (h : RPs P G r n) (e : r = x) : RPs P G x n := e ▸ h
theorem FIP.row {P : Int → Prop} {S : Nat → Prop} {G G1 : LG} {o k x : Nat} {m : Int} (h : FIP P G o k) (kx : KX G G1) (wx : WX S G G1) (e5 : gS G1 (o + 5) = gS G (o + 5)) (hs : ¬ S ((o + 16 + k) % 1048576)) (hm : m = gS G1 (o + 5) k) (h9 : m ≤ 200) (hx : x = o + 16 + k) : RPs P G1 x m := by
  subst hx hm
  rw [e5] at h9 ⊢
  exact (h h9).wx kx wx hs
theorem FIP.mk {P : Int → Prop} {G G2 : LG} {o k x j : Nat} {v : Int} (h : v ≤ 200 → RPs P G x v) (e : G2 = gset G (o + 5) j v) (hk : k = j) (hx : x = o + 16 + k) (h5 : x ≠ o + 5) : FIP P G2 o k := fun h9 => by
  have e9 : gS G2 (o + 5) k = v := by rw [hk, e]; exact gset_at _ _ _ _
  rw [e9] at h9 ⊢
  exact ((h h9).set e h5).at hx
