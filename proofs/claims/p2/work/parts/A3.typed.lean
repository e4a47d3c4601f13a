/-! THE CLASS: what is read and written -/
theorem TI.k {G : LG} {n c : Nat} (h : TI G) (hc : cde n = c) (al : (gK G n).1 ≠ 0) : tk c (gK G n) := hc ▸ (h n al).1
theorem TI.v {G : LG} {n c j : Nat} (h : TI G) (hc : cde n = c) (al : (gK G n).1 ≠ 0) (hj : j < lw_len (gK G n)) : tv c (n % 1048576) j (gS G n j) := hc ▸ (h n al).2 j hj
/-- kinds stay -/
def KX (G G' : LG) : Prop := ∀ x, (gK G x).1 ≠ 0 → gK G' x = gK G x
theorem KX.rf {G : LG} : KX G G := fun _ _ => rfl
theorem KX.trans {G G1 G2 : LG} (h : KX G G1) (k : KX G1 G2) : KX G G2 := fun x hx => (k x (by rw [h x hx]; exact hx)).trans (h x hx)
theorem KX.of {G G' : LG} (h : gK G' = gK G) : KX G G' := fun x _ => by rw [h]
theorem KX.set {G G' G1 : LG} {n j : Nat} {v : Int} (h : KX G G1) (e : G' = gset G1 n j v) : KX G G' := h.trans (KX.of (by rw [e]; rfl))
theorem KX.cpy {G G' G1 : LG} {x i y j n : Nat} (h : KX G G1) (e : G' = gcpy G1 x i y j n) : KX G G' := h.trans (KX.of (by rw [e]; rfl))
theorem KX.new {G G' G1 : LG} {n k L sl : Nat} {d : Nat → Int} (h : KX G G1) (e : G' = gnew G1 n k L sl d) (hn : (gK G1 n).1 = 0) : KX G G' := h.trans (fun x hx => by rw [e, gnew_Kne _ _ _ _ _ (fun q => hx (by rw [q]; exact hn))])
theorem KX.k {G G' : LG} {n t L : Nat} (h : KX G G') (e : gK G n = (t, L)) (ht : t ≠ 0) : gK G' n = (t, L) := (h n (by rw [e]; exact ht)).trans e
/-- only cells whose names below 2^20 are so have changed, and new ones have come -/
def WX (S : Nat → Prop) (G G' : LG) : Prop := ∀ x, (gK G x).1 ≠ 0 → ¬ S (x % 1048576) → gS G' x = gS G x
theorem WX.rf {S : Nat → Prop} {G : LG} : WX S G G := fun _ _ _ => rfl
theorem WX.trans {S : Nat → Prop} {G G1 G2 : LG} (h : WX S G G1) (kx : KX G G1) (k : WX S G1 G2) : WX S G G2 := fun x hx hs => (k x (by rw [kx x hx]; exact hx) hs).trans (h x hx hs)
theorem WX.set {S : Nat → Prop} {G G1 G' : LG} {n j : Nat} {v : Int} (h : WX S G G1) (e : G' = gset G1 n j v) (hn : S (n % 1048576)) : WX S G G' := fun x hx hs => by
  rw [← h x hx hs, e]
  funext y
  exact gset_ne _ _ (fun q => hs (by rw [q.1]; exact hn))
theorem WX.mono {S S' : Nat → Prop} {G G' : LG} (h : WX S G G') (hs : ∀ x, S x → S' x) : WX S' G G' := fun x hx hn => h x hx (fun q => hn (hs _ q))
abbrev isFc (o : Nat) : Prop := 65537 ≤ o ∧ o ≤ 68097 ∧ o % 64 = 1
abbrev isNd (o : Nat) : Prop := 65536 ≤ o ∧ o ≤ 68032 ∧ o % 64 = 0
abbrev isRw (o : Nat) : Prop := 65536 ≤ o ∧ o ≤ 68184 ∧ (o % 64 = 24 ∨ o % 64 = 26)
abbrev isVr (o : Nat) : Prop := 131072 ≤ o ∧ o ≤ 133568 ∧ o % 64 = 0
abbrev isMc (o : Nat) : Prop := o = 196608 ∨ o = 196672
abbrev isVl (o : Nat) : Prop := o = 196628 ∨ o = 196692
abbrev isFl (o : Nat) : Prop := o = 262144 ∨ o = 262208
theorem WX.cpy {S : Nat → Prop} {G G1 G' : LG} {x i y j n : Nat} (h : WX S G G1) (e : G' = gcpy G1 x i y j n) (hn : S (y % 1048576)) : WX S G G' := fun z hz hs => by
  rw [← h z hz hs, e]
  exact gcpy_ne _ (fun q => hs (by rw [q]; exact hn))
theorem WX.new {S : Nat → Prop} {G G1 G' : LG} {n k L sl : Nat} {d : Nat → Int} (h : WX S G G1) (kx : KX G G1) (e : G' = gnew G1 n k L sl d) (hn : (gK G1 n).1 = 0) : WX S G G' := fun z hz hs => by
  have hzn : z ≠ n := fun q => by rw [← kx z hz, q] at hz; exact hz hn
  rw [← h z hz hs, e]
  exact gnew_ne _ _ _ _ _ hzn
theorem TI.kr {G : LG} {n : Nat} (h : TI G) (hc : 108 ≤ cde n ∧ cde n < 124) (al : (gK G n).1 ≠ 0) : ∃ L, gK G n = (1, L) ∧ 4 ≤ L ∧ L ≤ 400 := by
  have h9 := (h n al).1
  have hh : cde n = 108 ∨ cde n = 109 ∨ cde n = 110 ∨ cde n = 111 ∨ cde n = 112 ∨ cde n = 113 ∨ cde n = 114 ∨ cde n = 115 ∨ cde n = 116 ∨ cde n = 117 ∨ cde n = 118 ∨ cde n = 119 ∨ cde n = 120 ∨ cde n = 121 ∨ cde n = 122 ∨ cde n = 123 := by omega
  rcases hh with q | q | q | q | q | q | q | q | q | q | q | q | q | q | q | q <;> (rw [q] at h9; exact h9)
theorem TI.kf {G : LG} {n : Nat} (h : TI G) (hc : (408 ≤ cde n ∧ cde n < 414) ∨ (416 ≤ cde n ∧ cde n < 422)) (al : (gK G n).1 ≠ 0) : gK G n = (1, 200) := by
  have h9 := (h n al).1
  have hh : cde n = 408 ∨ cde n = 409 ∨ cde n = 410 ∨ cde n = 411 ∨ cde n = 412 ∨ cde n = 413 ∨ cde n = 416 ∨ cde n = 417 ∨ cde n = 418 ∨ cde n = 419 ∨ cde n = 420 ∨ cde n = 421 := by omega
  rcases hh with q | q | q | q | q | q | q | q | q | q | q | q <;> (rw [q] at h9; exact h9)
theorem sv_fil {c r j : Nat} {v : Int} (hc : (408 ≤ c ∧ c < 414) ∨ (416 ≤ c ∧ c < 422)) : spc c = false ∧ tv c r j v := by
  have hh : c = 408 ∨ c = 409 ∨ c = 410 ∨ c = 411 ∨ c = 412 ∨ c = 413 ∨ c = 416 ∨ c = 417 ∨ c = 418 ∨ c = 419 ∨ c = 420 ∨ c = 421 := by omega
  rcases hh with rfl | rfl | rfl | rfl | rfl | rfl | rfl | rfl | rfl | rfl | rfl | rfl <;> exact ⟨rfl, True.intro⟩
/-- a row has been put into a face's place -/
def PRW (G G' : LG) (o : Nat) (p : Int) (r : Nat) (n N : Int) : Prop := (0 ≤ n ∧ n ≤ N → (∃ q L : Nat, gS G' (o + 3) p.toNat = (q : Int) ∧ q % 1048576 = o + 7 + p.toNat ∧ gK G' q = (1, L) ∧ n ≤ (L : Int) ∧ ∀ j : Nat, (j : Int) < n → gS G' q j = gS G r j) ∧ gS G' (o + 4) p.toNat = n) ∧ (¬ (0 ≤ n ∧ n ≤ N) → gS G' (o + 3) p.toNat = gS G (o + 3) p.toNat ∧ gS G' (o + 4) p.toNat = gS G (o + 4) p.toNat ∧ ∀ q, q % 1048576 = o + 7 + p.toNat → gS G' q = gS G q) ∧ ∀ j, j ≠ p.toNat → gS G' (o + 3) j = gS G (o + 3) j ∧ gS G' (o + 4) j = gS G (o + 4) j
theorem PRW.no {G : LG} {o r : Nat} {p n N : Int} (h : ¬ (0 ≤ n ∧ n ≤ N)) : PRW G G o p r n N := ⟨fun q => absurd q h, fun _ => ⟨rfl, rfl, fun _ _ => rfl⟩, fun _ _ => ⟨rfl, rfl⟩⟩
theorem PRW.mk {G Gx G2 G3 : LG} {o q r L : Nat} {p n N : Int} (hkq : gK Gx q = (1, L)) (hnL : n ≤ (L : Int)) (ho : isFc o) (hp : 0 ≤ p ∧ p < 16) (hx : gS Gx (o + 3) p.toNat = (q : Int)) (hq : q % 1048576 = o + 7 + p.toNat) (hr : ∀ j, gS Gx r j = gS G r j) (h3 : ∀ j, j ≠ p.toNat → gS Gx (o + 3) j = gS G (o + 3) j) (h4 : ∀ j, gS Gx (o + 4) j = gS G (o + 4) j) (e2 : G2 = gcpy Gx r (0 : Int).toNat q (0 : Int).toNat n.toNat) (e3 : G3 = gset G2 (o + 4) p.toNat n) (hn : 0 ≤ n ∧ n ≤ N) : PRW G G3 o p r n N := by
  have n3 : o + 3 ≠ q := by omega
  have n4 : o + 4 ≠ q := by omega
  have n34 : q ≠ o + 4 := by omega
  refine ⟨fun _ => ⟨⟨q, L, ?_, hq, by rw [e3, gset_K, e2, gcpy_K]; exact hkq, hnL, fun j hj => ?_⟩, by rw [e3]; exact gset_at _ _ _ _⟩, fun h => absurd hn h, fun j hj => ⟨?_, ?_⟩⟩
  · rw [e3, gset_ne _ _ (fun e => absurd e.1 (by omega)), e2, gcpy_ne _ n3]; exact hx
  · rw [e3, gset_ne _ _ (fun e => n34 e.1), e2, gcpy_at, if_pos ⟨by omega, by omega⟩]
    rw [← hr j]
    congr 1
    omega
  · rw [e3, gset_ne _ _ (fun e => absurd e.1 (by omega)), e2, gcpy_ne _ n3]; exact h3 j hj
  · rw [e3, gset_ne _ _ (fun e => hj e.2), e2, gcpy_ne _ n4]; exact h4 j
theorem gset_o {G G' : LG} {n j x : Nat} {v : Int} (e : G' = gset G n j v) (h : x ≠ n) : gS G' x = gS G x := by
  rw [e]; funext y; exact gset_ne _ _ (fun q => h q.1)
theorem PRW.pre {G G1 G' : LG} {o r : Nat} {p n N : Int} (h : PRW G1 G' o p r n N) (hr : gS G1 r = gS G r) (h3 : gS G1 (o + 3) = gS G (o + 3)) (h4 : gS G1 (o + 4) = gS G (o + 4)) (hq : ∀ q, q % 1048576 = o + 7 + p.toNat → gS G1 q = gS G q) : PRW G G' o p r n N := by
  unfold PRW at h ⊢
  rw [hr, h3, h4] at h
  exact ⟨h.1, fun z => ⟨(h.2.1 z).1, (h.2.1 z).2.1, fun q h9 => ((h.2.1 z).2.2 q h9).trans (hq q h9)⟩, h.2.2⟩
/-- all parts of a face's row are so, and it is as long as it says -/
def FPo (P : Int → Prop) (G : LG) (o p : Nat) : Prop := ∃ q L : Nat, gS G (o + 3) p = (q : Int) ∧ q % 1048576 = o + 7 + p ∧ gK G q = (1, L) ∧ (0 ≤ gS G (o + 4) p ∧ gS G (o + 4) p ≤ (L : Int)) ∧ ∀ j : Nat, (j : Int) < gS G (o + 4) p → P (gS G q j)
def FPa (P : Int → Prop) (G : LG) (o : Nat) : Prop := ∀ p, p < 16 → FPo P G o p
theorem PRW.fp {P : Int → Prop} {G G' : LG} {o r : Nat} {p n N : Int} (h : PRW G G' o p r n N) (hn : 0 ≤ n ∧ n ≤ N) (hP : ∀ j : Nat, (j : Int) < n → P (gS G r j)) : FPo P G' o p.toNat := by
  obtain ⟨⟨q, L, h1, h4, h5, h6, h2⟩, h3⟩ := h.1 hn
  refine ⟨q, L, h1, h4, h5, by rw [h3]; exact ⟨hn.1, h6⟩, fun j hj => ?_⟩
  rw [h3] at hj
  rw [h2 j hj]
  exact hP j hj
theorem FPo.wx {P : Int → Prop} {S : Nat → Prop} {G G' : LG} {o p : Nat} (h : FPo P G o p) (kx : KX G G') (wx : WX S G G') (hs : ¬ S (o + 7 + p)) (h3 : gS G' (o + 3) p = gS G (o + 3) p) (h4 : gS G' (o + 4) p = gS G (o + 4) p) : FPo P G' o p := by
  obtain ⟨q, L, a1, a2, a3, a4, a5⟩ := h
  refine ⟨q, L, h3.trans a1, a2, kx.k a3 (by decide), by rw [h4]; exact a4, fun j hj => ?_⟩
  rw [h4] at hj
  rw [wx q (kne a3 (by decide)) (by rw [a2]; exact hs)]
  exact a5 j hj
theorem FPo.mono {P P' : Int → Prop} {G : LG} {o p : Nat} (h : FPo P G o p) (hP : ∀ x, P x → P' x) : FPo P' G o p := by
  obtain ⟨q, L, a1, a2, a3, a4, a5⟩ := h
  exact ⟨q, L, a1, a2, a3, a4, fun j hj => hP _ (a5 j hj)⟩
theorem FPo.wo {P : Int → Prop} {S : Nat → Prop} {G G' : LG} {o p : Nat} (h : FPo P G o p) (kx : KX G G') (wx : WX S G G') (hs : ¬ S (o + 7 + p)) (hs3 : ¬ S ((o + 3) % 1048576)) (hs4 : ¬ S ((o + 4) % 1048576)) (al3 : (gK G (o + 3)).1 ≠ 0) (al4 : (gK G (o + 4)).1 ≠ 0) : FPo P G' o p := h.wx kx wx hs (congrFun (wx _ al3 hs3) _) (congrFun (wx _ al4 hs4) _)
theorem FPo.set {P : Int → Prop} {G G' : LG} {o p n j : Nat} {v : Int} (h : FPo P G o p) (e : G' = gset G n j v) (h1 : n % 1048576 ≠ o + 7 + p) (h3 : o + 3 ≠ n) (h4 : o + 4 ≠ n) : FPo P G' o p := by
  obtain ⟨q, L, a1, a2, a3, a4, a5⟩ := h
  have hq : q ≠ n := fun z => h1 (by rw [← z]; exact a2)
  refine ⟨q, L, by rw [gset_o e h3]; exact a1, a2, by rw [e, gset_K]; exact a3, by rw [gset_o e h4]; exact a4, fun j hj => ?_⟩
  rw [gset_o e h4] at hj
  rw [gset_o e hq]
  exact a5 j hj
theorem PRW.fo {P : Int → Prop} {G G' : LG} {o q o2 p2 N : Nat} {p n : Int} (h : PRW G G' o p q n (N : Int)) (hF : FPo P G o2 p2) (hq : gS G (o2 + 3) p2 = (q : Int)) (hn : n = gS G (o2 + 4) p2) (hk : gK G q = (1, N)) : FPo P G' o p.toNat := by
  obtain ⟨q9, L, a1, a2, a3, a4, a5⟩ := hF
  have e9 : q9 = q := by omega
  subst e9
  have eL : L = N := by rw [a3] at hk; exact congrArg Prod.snd hk
  subst eL
  subst hn
  exact h.fp a4 a5
theorem PRW.other {P : Int → Prop} {S : Nat → Prop} {G G' : LG} {o r p2 : Nat} {p n N : Int} (h : PRW G G' o p r n N) (hF : FPo P G o p2) (kx : KX G G') (wx : WX S G G') (hs : ¬ S (o + 7 + p2)) (hp : p2 ≠ p.toNat) : FPo P G' o p2 := hF.wx kx wx hs (h.2.2 p2 hp).1 (h.2.2 p2 hp).2
theorem KX.al {G G' : LG} {x : Nat} (h : KX G G') (al : (gK G x).1 ≠ 0) : (gK G' x).1 ≠ 0 := by rw [h x al]; exact al
