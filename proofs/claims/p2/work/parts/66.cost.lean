/-! WHAT THE FACES OF SOME NODES COST -/
noncomputable def psum (c : Int → Int) (S : Int → Prop) : Nat → Int
  | 0 => 0
  | n + 1 => psum c S n + @ite _ (S (n : Int)) (Classical.propDecidable _) (c (n : Int)) 0
theorem psum_s {c : Int → Int} {S : Int → Prop} {n : Nat} : psum c S (n + 1) = psum c S n + @ite _ (S (n : Int)) (Classical.propDecidable _) (c (n : Int)) 0 := rfl
theorem psum_nn {c : Int → Int} (hc : ∀ m, 0 ≤ c m) (S : Int → Prop) : ∀ n : Nat, 0 ≤ psum c S n := by
  intro n
  induction n with
  | zero => exact Int.le_refl _
  | succ n ih =>
    rw [psum_s]
    have := hc (n : Int)
    split <;> omega
theorem psum_le {c : Int → Int} (hc : ∀ m, 0 ≤ c m) {S T : Int → Prop} : ∀ n : Nat, (∀ m : Int, 0 ≤ m → m < n → S m → T m) → psum c S n ≤ psum c T n := by
  intro n
  induction n with
  | zero => intro _; exact Int.le_refl _
  | succ n ih =>
    intro h
    have h1 := ih (fun m m0 m1 => h m m0 (by omega))
    have h2 := h (n : Int) (by omega) (by omega)
    have h3 := hc (n : Int)
    rw [psum_s, psum_s]
    by_cases q : S (n : Int)
    · rw [if_pos q, if_pos (h2 q)]; omega
    · rw [if_neg q]; split <;> omega
theorem psum_or {c : Int → Int} (hc : ∀ m, 0 ≤ c m) {S T : Int → Prop} : ∀ n : Nat, psum c (fun m => S m ∨ T m) n ≤ psum c S n + psum c T n := by
  intro n
  induction n with
  | zero => exact Int.le_refl _
  | succ n ih =>
    rw [psum_s, psum_s, psum_s]
    have h3 := hc (n : Int)
    by_cases q : S (n : Int)
    · rw [if_pos (Or.inl q), if_pos q]; split <;> omega
    · by_cases z : T (n : Int)
      · rw [if_pos (Or.inr z), if_neg q, if_pos z]; omega
      · rw [if_neg (fun y => y.elim q z), if_neg q, if_neg z]; omega
theorem psum_one {c : Int → Int} (hc : ∀ m, 0 ≤ c m) (r : Int) : ∀ n : Nat, psum c (fun m => m = r) n ≤ (if r < (n : Int) then c r else 0) := by
  intro n
  have hr := hc r
  induction n with
  | zero => show (0 : Int) ≤ _; split <;> omega
  | succ n ih =>
    rw [psum_s]
    by_cases q : (n : Int) = r
    · rw [if_pos q, ← q]
      rw [← q, if_neg (by omega)] at ih
      rw [if_pos (by omega)]
      rw [q]
      rw [q] at ih
      omega
    · rw [if_neg q]
      by_cases z : r < (n : Int)
      · rw [if_pos z] at ih; rw [if_pos (by omega)]; omega
      · rw [if_neg z] at ih; rw [if_neg (by omega)]; omega
/-- the parts of its members are members -/
def clsd (G : LG) (S : Int → Prop) : Prop := ∀ m : Int, 0 ≤ m → m < (gS G 1000 18) → S m → ∀ k : Int, 0 ≤ k → k < nMany G m → S (nPart G m k)
/-- of what the node r is made, with it -/
def Dn (G : LG) (r m : Int) : Prop := ∀ S : Int → Prop, S r → clsd G S → S m
theorem Dn.self {G : LG} {r : Int} : Dn G r r := fun _ h _ => h
theorem Dn.cl {G : LG} {r : Int} : clsd G (Dn G r) := fun m m0 m1 h k k0 k1 S s1 s2 => s2 m m0 m1 (h S s1 s2) k k0 k1
theorem Dn.split {G : LG} (hN : ND G) {r m : Int} (r0 : 0 ≤ r) (r1 : r < (gS G 1000 18)) (h : Dn G r m) : m = r ∨ ∃ k : Int, (0 ≤ k ∧ k < nMany G r) ∧ Dn G (nPart G r k) m := by
  refine h (fun m => m = r ∨ ∃ k : Int, (0 ≤ k ∧ k < nMany G r) ∧ Dn G (nPart G r k) m) (Or.inl rfl) (fun m m0 m1 q k k0 k1 => Or.inr ?_)
  rcases q with q | ⟨i, hi, q⟩
  · subst q; exact ⟨k, ⟨k0, k1⟩, Dn.self⟩
  · exact ⟨i, hi, Dn.cl m m0 m1 q k k0 k1⟩
theorem ND.w {G : LG} (h : ND G) {n : Int} (n0 : 0 ≤ n) (n1 : n < (gS G 1000 18)) : (0 ≤ (gS G a_nKind (n).toNat) ∧ (gS G a_nKind (n).toNat) ≤ 6) ∧ (1 ≤ (gS G a_nWeight (n).toNat) ∧ (gS G a_nWeight (n).toNat) ≤ 24) ∧ (1 ≤ (gS G a_nKind (n).toNat) ∧ (gS G a_nKind (n).toNat) ≤ 3 → (gS G a_nWeight (n).toNat) = 1 + (gS G a_nWeight ((gS G a_nFirst (n).toNat)).toNat) + (gS G a_nWeight ((gS G a_nSecond (n).toNat)).toNat)) ∧ ((gS G a_nKind (n).toNat) = 4 → (gS G a_nWeight (n).toNat) = 1 + (gS G a_nWeight ((gS G a_nFirst (n).toNat)).toNat) + (gS G a_nWeight ((gS G a_nSecond (n).toNat)).toNat) + (gS G a_nWeight ((gS G a_nThird (n).toNat)).toNat)) ∧ (5 ≤ (gS G a_nKind (n).toNat) → (gS G a_nWeight (n).toNat) = 1 + (gS G a_nWeight ((gS G a_nFirst (n).toNat)).toNat)) ∧ ((gS G a_nKind (n).toNat) = 0 → (gS G a_nWeight (n).toNat) = 1) := by
  obtain ⟨h1, h2, h3, h4, h5, h6, h7, h8, h9, h10, h11, h12⟩ := h.2 n n0 n1
  exact ⟨h1, h8, h9, h10, h11, h12⟩
def wc (w : Int) : Int := 6738 * ((w - 1) / 2) + 370
theorem Dn.cost {G : LG} (hN : ND G) : ∀ (d : Nat) (r : Int), r < d → 0 ≤ r → r < (gS G 1000 18) → psum (ncost G) (Dn G r) 40 ≤ wc ((gS G a_nWeight (r).toNat)) := by
  have hc : ∀ m, 0 ≤ ncost G m := fun m => ncost_nn.1
  have h40 := hN.1
  intro d
  induction d with
  | zero => intro r hr r0; omega
  | succ d ih =>
    intro r hr r0 r1
    obtain ⟨hk, hw, w1, w2, w3, w4⟩ := hN.w r0 r1
    have hone := psum_one hc r 40
    rw [if_pos (by omega)] at hone
    have hpart : ∀ k : Int, 0 ≤ k → k < nMany G r → psum (ncost G) (Dn G (nPart G r k)) 40 ≤ wc ((gS G a_nWeight (nPart G r k).toNat)) ∧ (1 ≤ (gS G a_nWeight (nPart G r k).toNat) ∧ (gS G a_nWeight (nPart G r k).toNat) ≤ 24) := fun k k0 k1 => by
      have hp := hN.part r0 r1 k0 k1
      exact ⟨ih _ (by omega) hp.1 (by omega), (hN.w hp.1 (by omega)).2.1⟩
    have hnc := ncost.k (G := G) (n := r)
    have p0 : nPart G r 0 = (gS G a_nFirst (r).toNat) := rfl
    have p1 : nPart G r 1 = (gS G a_nSecond (r).toNat) := rfl
    have p2 : nPart G r 2 = (gS G a_nThird (r).toNat) := rfl
    have hsub : ∀ T : Int → Prop, (∀ m, (∃ k : Int, (0 ≤ k ∧ k < nMany G r) ∧ Dn G (nPart G r k) m) → T m) → psum (ncost G) (Dn G r) 40 ≤ ncost G r + psum (ncost G) T 40 := fun T hT => by
      have a1 := psum_le hc (S := Dn G r) (T := fun m => m = r ∨ T m) 40 (fun m _ _ q => (Dn.split hN r0 r1 q).imp id (hT m))
      have a2 := psum_or hc (S := fun m => m = r) (T := T) 40
      have a3 := psum_one hc r 40
      rw [if_pos (by omega)] at a3
      omega
    by_cases q0 : (gS G a_nKind (r).toNat) = 0
    · have e : nMany G r = 0 := if_pos q0
      have h1 := hsub (fun _ => False) (fun m ⟨k, hk, _⟩ => by omega)
      have h2 : psum (ncost G) (fun _ => False) 40 ≤ 0 := by
        have : ∀ n : Nat, psum (ncost G) (fun _ => False) n ≤ 0 := by
          intro n
          induction n with
          | zero => exact Int.le_refl _
          | succ n ih => rw [psum_s, if_neg id]; omega
        exact this 40
      rw [hnc.1 q0] at h1
      unfold wc
      have := w4 q0
      omega
    · by_cases q5 : 5 ≤ (gS G a_nKind (r).toNat)
      · have e : nMany G r = 1 := (if_neg q0).trans (if_pos q5)
        have h1 := hsub (Dn G (nPart G r 0)) (fun m ⟨k, hk, q⟩ => by have : k = 0 := (by omega); rw [this] at q; exact q)
        have h2 := hpart 0 (by omega) (by omega)
        have h3 : ncost G r = 0 := by unfold ncost; rw [if_neg q0, if_neg (by omega), if_neg (by omega), if_neg (by omega), if_neg (by omega)]
        have h4 := w3 q5
        rw [p0] at h1 h2
        unfold wc at h2 ⊢
        omega
      · by_cases q4 : (gS G a_nKind (r).toNat) = 4
        · have e : nMany G r = 3 := (if_neg q0).trans ((if_neg q5).trans (if_pos q4))
          have h1 := hsub (fun m => (Dn G (nPart G r 0) m ∨ Dn G (nPart G r 1) m) ∨ Dn G (nPart G r 2) m) (fun m ⟨k, hk, q⟩ => by
            have h9 : k = 0 ∨ k = 1 ∨ k = 2 := by omega
            rcases h9 with h9 | h9 | h9 <;> rw [h9] at q
            · exact Or.inl (Or.inl q)
            · exact Or.inl (Or.inr q)
            · exact Or.inr q)
          have a1 := psum_or hc (S := fun m => Dn G (nPart G r 0) m ∨ Dn G (nPart G r 1) m) (T := Dn G (nPart G r 2)) 40
          have a2 := psum_or hc (S := Dn G (nPart G r 0)) (T := Dn G (nPart G r 1)) 40
          have h2 := hpart 0 (by omega) (by omega)
          have h3 := hpart 1 (by omega) (by omega)
          have h5 := hpart 2 (by omega) (by omega)
          have h4 := w2 q4
          rw [hnc.2.2.2.2 q4] at h1
          rw [p0] at h1 a1 a2 h2
          rw [p1] at h1 a1 a2 h3
          rw [p2] at h1 a1 h5
          unfold wc at h2 h3 h5 ⊢
          omega
        · have e : nMany G r = 2 := (if_neg q0).trans ((if_neg q5).trans (if_neg q4))
          have h1 := hsub (fun m => Dn G (nPart G r 0) m ∨ Dn G (nPart G r 1) m) (fun m ⟨k, hk, q⟩ => by
            have h9 : k = 0 ∨ k = 1 := by omega
            rcases h9 with h9 | h9 <;> rw [h9] at q
            · exact Or.inl q
            · exact Or.inr q)
          have a2 := psum_or hc (S := Dn G (nPart G r 0)) (T := Dn G (nPart G r 1)) 40
          have h2 := hpart 0 (by omega) (by omega)
          have h3 := hpart 1 (by omega) (by omega)
          have h4 := w1 (by omega)
          have h5 : ncost G r ≤ 6368 := ncost_nn.2
          rw [p0] at h1 a2 h2
          rw [p1] at h1 a2 h3
          unfold wc at h2 h3 ⊢
          omega
noncomputable def csum (G : LG) (a : Int) (n : Nat) : Int := psum (ncost G) (fun m => bitL a m) n
theorem wc_top {w : Int} (h : w ≤ 24) : wc w ≤ 74488 := by unfold wc; omega
theorem RCH.cost {G : LG} (hN : ND G) {u a r s : Int} (h : RCH G u a) (hr : 0 ≤ r ∧ r < (gS G 1000 18)) (hs : 0 ≤ s ∧ s < (gS G 1000 18)) (hu : ∀ m : Int, 0 ≤ m → m < 64 → bitL u m → m = r ∨ m = s) : csum G a 40 ≤ 148976 := by
  have hc : ∀ m, 0 ≤ ncost G m := fun m => ncost_nn.1
  have h1 := psum_le hc (S := fun m => bitL a m) (T := fun m => Dn G r m ∨ Dn G s m) 40 (fun m m0 m1 q => h.2.2 (fun m => Dn G r m ∨ Dn G s m) (fun m m0 m1 q => (hu m m0 m1 q).imp (fun z => by rw [z]; exact Dn.self) (fun z => by rw [z]; exact Dn.self)) (fun m m0 m1 q k k0 k1 => q.imp (fun z => Dn.cl m m0 m1 z k k0 k1) (fun z => Dn.cl m m0 m1 z k k0 k1)) m m0 (by omega) q)
  have h2 := psum_or hc (S := Dn G r) (T := Dn G s) 40
  have h3 := Dn.cost hN (r.toNat + 1) r (by omega) hr.1 hr.2
  have h4 := Dn.cost hN (s.toNat + 1) s (by omega) hs.1 hs.2
  have h5 := wc_top (hN.w hr.1 hr.2).2.1.2
  have h6 := wc_top (hN.w hs.1 hs.2).2.1.2
  unfold csum
  omega
theorem csum_s {G : LG} {a n : Int} (n0 : 0 ≤ n) : (bitL a n → csum G a (n + 1).toNat = csum G a n.toNat + ncost G n) ∧ (¬ bitL a n → csum G a (n + 1).toNat = csum G a n.toNat) := by
  have e : (n + 1).toNat = n.toNat + 1 := by omega
  have e2 : ((n.toNat : Nat) : Int) = n := by omega
  unfold csum
  rw [e, psum_s, e2]
  exact ⟨fun q => by rw [if_pos q], fun q => by rw [if_neg q]; omega⟩
theorem csum_mono {G : LG} {a : Int} {m n : Nat} (h : m ≤ n) : csum G a m ≤ csum G a n := by
  have hc : ∀ m, 0 ≤ ncost G m := fun m => ncost_nn.1
  induction n with
  | zero => have : m = 0 := by omega
            rw [this]; exact Int.le_refl _
  | succ n ih =>
    by_cases q : m = n + 1
    · rw [q]; exact Int.le_refl _
    · have h1 := ih (by omega)
      have h2 : csum G a (n + 1) = csum G a n + @ite _ (bitL a (n : Int)) (Classical.propDecidable _) (ncost G (n : Int)) 0 := rfl
      have h3 := hc (n : Int)
      rw [h2]
      split <;> omega
/-- of the types below k: what they are as full types -/
def RK (G : LG) (k : Int) : Prop := ∀ j : Int, 0 ≤ j → j < k → (0 ≤ (gS G a_raw (j).toNat) ∧ (gS G a_raw (j).toNat) < (gS G 1000 26)) ∧ (gS G a_fSize ((gS G a_raw (j).toNat)).toNat) ≤ (gS G a_tWeight (j).toNat) ∧ okS G NF ((gS G a_raw (j).toNat))
theorem RK.set {G Gg G' : LG} {k kk aa bb r : Int} (h : RK G k) (hF : FU G) (hf : Fr nX12_full jX12_full G Gg) (hp : FU Gg ∧ (0 ≤ r ∧ r < (gS Gg 1000 26) ∧ (gS Gg 1000 26) ≤ (gS G 1000 26) + 1) ∧ FX G Gg ∧ (∀ j : Int, 0 ≤ j → j < (gS G 1000 26) → (gS Gg a_fMark (j).toNat) = (gS G a_fMark (j).toNat)) ∧ (gS Gg a_fKind (r).toNat) = kk ∧ (gS Gg a_fA (r).toNat) = aa ∧ (gS Gg a_fB (r).toNat) = bb)
    (e : G' = gset Gg a_raw (k).toNat r) (hk : 0 ≤ k) (hw : 1 ≤ (gS G a_tWeight (k).toNat) ∧ (gS G a_tWeight (k).toNat) ≤ 12) (hv : (kk = 0 ∨ kk = 1) ∨ (kk = 3 ∧ ∃ i j : Int, (0 ≤ i ∧ i < k) ∧ (0 ≤ j ∧ j < k) ∧ aa = (gS G a_raw (i).toNat) ∧ bb = (gS G a_raw (j).toNat) ∧ (gS G a_tWeight (k).toNat) = 1 + (gS G a_tWeight (i).toNat) + (gS G a_tWeight (j).toNat))) : RK G' (k + 1) ∧ FU G' ∧ (gS G' 1000 26) ≤ (gS G 1000 26) + 1 := by
  obtain ⟨p1, ⟨r0, r1, r2⟩, p3, p4, p5, p6, p7⟩ := hp
  have f2 : Fr [a_raw] [] Gg G' := Fr.setA Fr.rf e (by decide)
  have hx2 : FX Gg G' := FX.agf f2 (by decide) (by decide) (by decide)
  have e26 : (gS G' 1000 26) = (gS Gg 1000 26) := f2.atF (by decide) (by decide)
  have hF' : FU G' := p1.agr (f2.agr (by decide) (by decide) (by decide)) (by rw [f2.atF (j := 42) (by decide) (by decide)]; exact Int.le_refl _)
  have et : ∀ j : Nat, gS G' a_tWeight j = gS G a_tWeight j := fun j => (f2.atA (by decide) (by decide)).trans (hf.atA (by decide) (by decide))
  refine ⟨fun j j0 j1 => ?_, hF', by omega⟩
  rw [et, e26]
  by_cases hj : j = k
  · subst hj
    rw [g_at (g_upd e), (hx2.2 _ r0 r1).2.2.2]
    refine ⟨⟨r0, r1⟩, ?_⟩
    have hent := p1.2.2.2.2 r r0 r1
    rcases hv with hv | ⟨h3, i, l, hi, hl, ea, eb, ew⟩
    · exact ⟨by rw [hent.2.2.2.2.2.1 (by omega)]; omega, (okS.leaf (by omega) (fun q => by omega)).fx hx2 p1 r0 r1⟩
    · obtain ⟨i1, i2, i3⟩ := h i hi.1 hi.2
      obtain ⟨l1, l2, l3⟩ := h l hl.1 hl.2
      have hz := hent.2.2.2.2.2.2.1 (by omega)
      rw [p6, p7, ea, eb, (p3.2 _ i1.1 i1.2).2.2.2, (p3.2 _ l1.1 l1.2).2.2.2] at hz
      refine ⟨by rw [hz]; split <;> omega, (okS.pair (by omega) (by rw [p6, ea]; exact i3.fx p3 hF i1.1 i1.2) (by rw [p7, eb]; exact l3.fx p3 hF l1.1 l1.2)).fx hx2 p1 r0 r1⟩
  · have er : gS G' a_raw j.toNat = (gS G a_raw (j).toNat) := by rw [g_ne (g_upd e) (by omega)]; exact hf.atA (by decide) (by decide)
    obtain ⟨q1, q2, q3⟩ := h j j0 (by omega)
    have hx := p3.trans hx2
    rw [er, (hx.2 _ q1.1 q1.2).2.2.2]
    have := p3.1
    exact ⟨⟨q1.1, by omega⟩, q2, q3.fx hx hF q1.1 q1.2⟩
theorem RK.rw {G : LG} (hT : TB G) (h : RK G ((gS G 1000 0))) : RW G := fun k k0 k1 => by
  obtain ⟨q1, q2, q3⟩ := h k k0 k1
  have := (hT.2 k k0 k1).2.2.2
  exact ⟨q1, by omega, q3⟩
theorem FU.zero {G : LG} (h1 : (gS G 1000 26) = 0) (h2 : ∀ p : Int, 0 ≤ p → p < 16384 → (gS G a_fHead (p).toNat) = -1) (h3 : 0 ≤ (gS G 1000 35)) (h4 : 0 ≤ (gS G 1000 42)) : FU G := ⟨by omega, h3, h4, fun p p0 p1 => by rw [h2 p p0 p1]; omega, fun k k0 k1 => by omega⟩
/-- what is known of a node that has been found, in full -/
def FD (G : LG) (v : Int → Int) (n : Int) : Prop := FC G v n ∧ ((gS G a_error (n).toNat) = 0 → DN G n ∧ ∀ k : Int, 0 ≤ k → k < nMany G n → (gS G a_error (nPart G n k).toNat) = 0)
theorem DN.cg {G G' : LG} {n m : Int} (hN : ND G) (hU : UV G) (h : DN G m) (hm : 0 ≤ m ∧ m < n) (hn : n < (gS G 1000 18)) (hx : TX G G') (hs : SlotFa n G G') (hv : ∀ j : Nat, gS G' a_valueType j = gS G a_valueType j) : DN G' m := by
  have h40 := hN.1
  have e0 := hx.nd (n := a_nKind) (by decide) (m).toNat
  have e1 := hx.nd (n := a_nFirst) (by decide) (m).toNat
  have e2 := hx.nd (n := a_nSecond) (by decide) (m).toNat
  have e3 := hx.nd (n := a_nThird) (by decide) (m).toNat
  have ev : verC G' m = verC G m := by unfold verC; rw [e1, e2, hx.nd (n := a_versions) (by decide)]
  obtain ⟨n1, n2, n3, n4, n5, n6, n7, -⟩ := hN.2 m hm.1 (by omega)
  have hm4 : 0 ≤ m ∧ m < 40 := by omega
  have hmn : ¬ m = n := by omega
  have hA : 1 ≤ (gS G a_nKind (m).toNat) → (0 ≤ (gS G a_nFirst (m).toNat) ∧ (gS G a_nFirst (m).toNat) < 40) ∧ ¬ (gS G a_nFirst (m).toNat) = n := fun k => by have := n3 k; omega
  have hB : 1 ≤ (gS G a_nKind (m).toNat) ∧ (gS G a_nKind (m).toNat) ≤ 4 → (0 ≤ (gS G a_nSecond (m).toNat) ∧ (gS G a_nSecond (m).toNat) < 40) ∧ ¬ (gS G a_nSecond (m).toNat) = n := fun k => by have := n4 k; omega
  have hR : 1 ≤ (gS G a_nKind (m).toNat) → ∀ i : Int, 0 ≤ i → i < 10 → (gS G' a_sValue (10 * (gS G a_nFirst (m).toNat) + i).toNat) = (gS G a_sValue (10 * (gS G a_nFirst (m).toNat) + i).toNat) := fun k i i0 i1 => (hs.rv (hA k).1 (hA k).2 i i0 i1).1
  have hQ : 1 ≤ (gS G a_nKind (m).toNat) ∧ (gS G a_nKind (m).toNat) ≤ 4 → ∀ i : Int, 0 ≤ i → i < 10 → (gS G' a_sValue (10 * (gS G a_nSecond (m).toNat) + i).toNat) = (gS G a_sValue (10 * (gS G a_nSecond (m).toNat) + i).toNat) := fun k i i0 i1 => (hs.rv (hB k).1 (hB k).2 i i0 i1).1
  have hO := (hs.rv hm4 hmn)
  intro j j0 j1 q
  rw [(hO j j0 j1).1] at q
  have hd := h j j0 j1 q
  rw [e0, e1, e2, e3, ev]
  refine ⟨fun k => by rw [hv]; exact hd.1 k, fun k => ?_, fun k => ?_, fun k => ?_, fun k => ?_, fun k => ?_⟩
  · rw [hR (by rw [k]; decide) j j0 j1, hQ (by rw [k]; decide) j j0 j1]; exact hd.2.1 k
  · rw [hR (by rw [k]; decide) j j0 j1, hQ (by rw [k]; decide) j j0 j1]; exact hd.2.2.1 k
  · rw [hR (by rw [k]; decide) j j0 j1]; exact hd.2.2.2.1 k
  · rw [hR (by rw [k]; decide) j j0 j1, hQ (by rw [k]; decide) j j0 j1]; exact hd.2.2.2.2.1 k
  · have n9 := n6 k
    have k1 : 1 ≤ (gS G a_nKind (m).toNat) := Int.le_trans (by decide) k
    rw [hR k1 j j0 j1, hR k1 _ n9.1 (Int.lt_of_le_of_lt n9.2 (by decide))]; exact hd.2.2.2.2.2 k
theorem FD.cg {G G' : LG} {v : Int → Int} {n m : Int} (hN : ND G) (hU : UV G) (h : FD G v m) (hm : 0 ≤ m ∧ m < n) (hn : n < (gS G 1000 18)) (hx : TX G G') (hf : FX G G') (hF : FU G) (hs : SlotFa n G G') (hv : ∀ j : Nat, gS G' a_valueType j = gS G a_valueType j) (hi : ∀ j : Nat, j ≠ (n).toNat → gS G' a_ident j = gS G a_ident j) (he : ∀ j : Nat, j ≠ (n).toNat → gS G' a_error j = gS G a_error j) : FD G' v m := by
  have h40 := hN.1
  refine ⟨h.1.tx hx hf hF (hi _ (by omega)) (he _ (by omega)) (fun j j0 j1 => hs.rt ⟨hm.1, by omega⟩ (by omega) j j0 j1) (fun j j0 j1 => (hs.rv ⟨hm.1, by omega⟩ (by omega) j j0 j1).1), fun q => ?_⟩
  rw [he _ (by omega)] at q
  have hd := h.2 q
  refine ⟨DN.cg hN hU hd.1 hm hn hx hs hv, fun k k0 k1 => ?_⟩
  have em : nMany G' m = nMany G m := by unfold nMany; rw [hx.nd (n := a_nKind) (by decide)]
  have ep : nPart G' m k = nPart G m k := by unfold nPart; rw [hx.nd (n := a_nFirst) (by decide), hx.nd (n := a_nSecond) (by decide), hx.nd (n := a_nThird) (by decide)]
  rw [em] at k1
  have hp := hN.part hm.1 (by omega) k0 k1
  rw [ep, he _ (by omega)]
  exact hd.2 k k0 k1
