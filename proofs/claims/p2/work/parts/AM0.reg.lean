/-! THE CLASS: what lies outside of what a call writes -/
def RM (S S' : Nat → Prop) : Prop := ∀ x, S x → S' x
def RNx (S : Nat → Prop) (x : Nat) : Prop := ¬ S x
def RNk (S : Nat → Prop) (x m : Nat) : Prop := ∀ k, k < m → ¬ S ((x + k) % 1048576)
def RNf (S : Nat → Prop) (x : Nat) : Prop := ¬ S ((x + 3) % 1048576) ∧ ¬ S ((x + 4) % 1048576) ∧ ∀ p, p < 16 → ¬ S (x + 7 + p)
theorem FPa.ns {P : Int → Prop} {S : Nat → Prop} {G G' : LG} {o : Nat} (h : FPa P G o) (kx : KX G G') (wx : WX S G G') (al : (gK G (o + 3)).1 ≠ 0 ∧ (gK G (o + 4)).1 ≠ 0) (hn : RNf S o) : FPa P G' o := h.wx kx wx al hn.1 hn.2.1 hn.2.2
theorem FIP.ns {P : Int → Prop} {S : Nat → Prop} {G G' : LG} {o k : Nat} (h : FIP P G o k) (kx : KX G G') (wx : WX S G G') (hk : k < 6) (al : (gK G (o + 5)).1 ≠ 0) (hs : RNk S (o + 16) 6) (h5 : RNx S ((o + 5) % 1048576)) : FIP P G' o k := FIP.sm h kx wx (hs k hk) (congrFun (wx (o + 5) al h5) k)
theorem TLP.ns {P : Int → Prop} {S : Nat → Prop} {G G' : LG} {o k : Nat} (h : TLP P G o k) (kx : KX G G') (wx : WX S G G') (hk : k < 6) (al : (gK G (o + 2)).1 ≠ 0) (hs : RNk S (o + 8) 6) (h2 : RNx S ((o + 2) % 1048576)) : TLP P G' o k := TLP.sm h kx wx (hs k hk) (congrFun (wx (o + 2) al h2) k)
/-- a fact that is laid by -/
def HID (p : Prop) : Prop := p
def AL (G : LG) (x : Nat) : Prop := (gK G x).1 ≠ 0
def RNt (S : Nat → Prop) : Prop := (¬ S 327683 ∧ ¬ S 327687 ∧ ¬ S 327688 ∧ ¬ S 327685 ∧ ¬ S 327710 ∧ ¬ S 63) ∧ ∀ n : Nat, n < 40 → ¬ S (65536 + 64 * n)
