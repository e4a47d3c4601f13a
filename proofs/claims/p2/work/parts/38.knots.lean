/-! KNOTS: names that come into others, again and again -/
noncomputable def cnt6 (d : Int) : Int := b2i (bitI d 0) + b2i (bitI d 1) + b2i (bitI d 2) + b2i (bitI d 3) + b2i (bitI d 4) + b2i (bitI d 5)
theorem b2i_mono {p q : Prop} (h : p → q) : b2i p ≤ b2i q := by
  by_cases hp : p
  · rw [b2i_t hp, b2i_t (h hp)]; omega
  · rw [b2i_f hp]; rcases b2i_01 (p := q) with e | e <;> omega
theorem b2i_lt {p q : Prop} (h : q) (hn : ¬ p) : b2i p < b2i q := by rw [b2i_t h, b2i_f hn]; omega
theorem b2i_le1 {p : Prop} : 0 ≤ b2i p ∧ b2i p ≤ 1 := by rcases b2i_01 (p := p) with e | e <;> omega
theorem cnt_lt {a b : Int} (h : ∀ i : Int, 0 ≤ i → i < 6 → bitI a i → bitI b i) {i : Int} (i0 : 0 ≤ i) (i1 : i < 6) (hb : bitI b i) (ha : ¬ bitI a i) : cnt6 a < cnt6 b := by
  have h0 := b2i_mono (h 0 (by omega) (by omega))
  have h1 := b2i_mono (h 1 (by omega) (by omega))
  have h2 := b2i_mono (h 2 (by omega) (by omega))
  have h3 := b2i_mono (h 3 (by omega) (by omega))
  have h4 := b2i_mono (h 4 (by omega) (by omega))
  have h5 := b2i_mono (h 5 (by omega) (by omega))
  have hl := b2i_lt hb ha
  unfold cnt6
  have hi : i = 0 ∨ i = 1 ∨ i = 2 ∨ i = 3 ∨ i = 4 ∨ i = 5 := by omega
  rcases hi with rfl | rfl | rfl | rfl | rfl | rfl <;> omega
theorem cnt_rng (a : Int) : 0 ≤ cnt6 a ∧ cnt6 a ≤ 6 := by
  have h0 := b2i_le1 (p := bitI a 0)
  have h1 := b2i_le1 (p := bitI a 1)
  have h2 := b2i_le1 (p := bitI a 2)
  have h3 := b2i_le1 (p := bitI a 3)
  have h4 := b2i_le1 (p := bitI a 4)
  have h5 := b2i_le1 (p := bitI a 5)
  unfold cnt6
  omega
theorem cnt_full {a i : Int} (h : 6 ≤ cnt6 a) (i0 : 0 ≤ i) (i1 : i < 6) : bitI a i := by
  refine Classical.byContradiction fun q => ?_
  have hb := b2i_f q
  have h0 := b2i_le1 (p := bitI a 0)
  have h1 := b2i_le1 (p := bitI a 1)
  have h2 := b2i_le1 (p := bitI a 2)
  have h3 := b2i_le1 (p := bitI a 3)
  have h4 := b2i_le1 (p := bitI a 4)
  have h5 := b2i_le1 (p := bitI a 5)
  unfold cnt6 at h
  have hi : i = 0 ∨ i = 1 ∨ i = 2 ∨ i = 3 ∨ i = 4 ∨ i = 5 := by omega
  rcases hi with rfl | rfl | rfl | rfl | rfl | rfl <;> omega
/-- what a use of a member uses is a member -/
def clo (us : Int → Int) (d : Int) : Prop := ∀ l i : Int, 0 ≤ l → l < 6 → 0 ≤ i → i < 32 → bitI d l → bitI (us l) i → bitI d i
def snd6 (us : Int → Int) (d j : Int) : Prop := ∀ S : Int → Prop, (∀ i : Int, 0 ≤ i → i < 32 → bitI (us j) i → S i) → (∀ l i : Int, 0 ≤ l → l < 6 → 0 ≤ i → i < 32 → S l → bitI (us l) i → S i) → ∀ i : Int, 0 ≤ i → i < 32 → bitI d i → S i
def RJ (us : Int → Int) (d j c : Int) : Prop := (∀ i : Int, 0 ≤ i → i < 32 → bitI (us j) i → bitI d i) ∧ (∀ i : Int, 0 ≤ i → i < 32 → bitI d i → i < 6) ∧ snd6 us d j ∧ (clo us d ∨ c ≤ cnt6 d)
def RN (us : Int → Int) (d0 d j n : Int) : Prop := (∀ i : Int, 0 ≤ i → i < 32 → bitI d0 i → bitI d i) ∧ (∀ l : Int, 0 ≤ l → l < n → bitI d0 l → ∀ i : Int, 0 ≤ i → i < 32 → bitI (us l) i → bitI d i) ∧ (clo us d0 → ∀ i : Int, 0 ≤ i → i < 32 → bitI d i → bitI d0 i) ∧ (∀ i : Int, 0 ≤ i → i < 32 → bitI d i → i < 6) ∧ snd6 us d j
theorem RN.init {us : Int → Int} {d j c : Int} (h : RJ us d j c) : RN us d d j 0 := ⟨fun _ _ _ q => q, fun l l0 l1 => by omega, fun _ _ _ _ q => q, h.2.1, h.2.2.1⟩
theorem RN.yes {us : Int → Int} {d0 d j n : Int} (h : RN us d0 d j n) (n0 : 0 ≤ n) (n1 : n < 6) (hu : ∀ i : Int, 0 ≤ i → i < 32 → bitI (us n) i → i < 6) (hd : bitI d n) : RN us d0 (i_or d (us n)) j (n + 1) := by
  obtain ⟨h1, h2, h3, h4, h5⟩ := h
  refine ⟨fun i i0 i1 q => (bitI_or i0 i1).mpr (Or.inl (h1 i i0 i1 q)), fun l l0 l1 q i i0 i1 qi => (bitI_or i0 i1).mpr ?_, fun hc i i0 i1 q => ?_, fun i i0 i1 q => ?_, fun S s1 s2 i i0 i1 q => ?_⟩
  · by_cases hl : l = n
    · subst hl; exact Or.inr qi
    · exact Or.inl (h2 l l0 (by omega) q i i0 i1 qi)
  · rcases (bitI_or i0 i1).mp q with q | q
    · exact h3 hc i i0 i1 q
    · exact hc n i n0 n1 i0 i1 (h3 hc n n0 (by omega) hd) q
  · rcases (bitI_or i0 i1).mp q with q | q
    · exact h4 i i0 i1 q
    · exact hu i i0 i1 q
  · rcases (bitI_or i0 i1).mp q with q | q
    · exact h5 S s1 s2 i i0 i1 q
    · exact s2 n i n0 n1 i0 i1 (h5 S s1 s2 n n0 (by omega) hd) q
theorem RN.no {us : Int → Int} {d0 d j n : Int} (h : RN us d0 d j n) (n0 : 0 ≤ n) (n1 : n < 6) (hd : ¬ bitI d n) : RN us d0 (i_or d 0) j (n + 1) := by
  obtain ⟨h1, h2, h3, h4, h5⟩ := h
  have e : ∀ i : Int, 0 ≤ i → i < 32 → (bitI (i_or d 0) i ↔ bitI d i) := fun i i0 i1 => (bitI_or i0 i1).trans ⟨fun q => q.elim id (fun z => absurd z (bitI_0 i0 i1)), Or.inl⟩
  refine ⟨fun i i0 i1 q => (e i i0 i1).mpr (h1 i i0 i1 q), fun l l0 l1 q i i0 i1 qi => (e i i0 i1).mpr ?_, fun hc i i0 i1 q => h3 hc i i0 i1 ((e i i0 i1).mp q), fun i i0 i1 q => h4 i i0 i1 ((e i i0 i1).mp q), fun S s1 s2 i i0 i1 q => h5 S s1 s2 i i0 i1 ((e i i0 i1).mp q)⟩
  by_cases hl : l = n
  · subst hl; exact absurd (h1 l l0 (by omega) q) hd
  · exact h2 l l0 (by omega) q i i0 i1 qi
theorem RN.fin {us : Int → Int} {d0 d j c : Int} (h0 : RJ us d0 j c) (h : RN us d0 d j 6) : RJ us d j (c + 1) := by
  obtain ⟨h1, h2, h3, h4, h5⟩ := h
  refine ⟨fun i i0 i1 q => h1 i i0 i1 (h0.1 i i0 i1 q), h4, h5, ?_⟩
  by_cases hc : clo us d0
  · exact Or.inl (fun l i l0 l1 i0 i1 q1 q2 => h1 i i0 i1 (hc l i l0 l1 i0 i1 (h3 hc l l0 (by omega) q1) q2))
  · have hc' : ∃ l i : Int, (0 ≤ l ∧ l < 6) ∧ (0 ≤ i ∧ i < 32) ∧ bitI d0 l ∧ bitI (us l) i ∧ ¬ bitI d0 i := by
      refine Classical.byContradiction fun q => hc (fun l i l0 l1 i0 i1 q1 q2 => Classical.byContradiction fun q3 => q ⟨l, i, ⟨l0, l1⟩, ⟨i0, i1⟩, q1, q2, q3⟩)
    obtain ⟨l, i, ⟨l0, l1⟩, ⟨i0, i1⟩, q1, q2, q3⟩ := hc'
    have hi := h2 l l0 l1 q1 i i0 i1 q2
    have h9 := cnt_lt (a := d0) (b := d) (fun i i0 i1 q => h1 i i0 (by omega) q) i0 (h4 i i0 i1 hi) hi q3
    have h8 := h0.2.2.2.resolve_left hc
    exact Or.inr (by omega)
theorem RJ.weak {us : Int → Int} {d j c e : Int} (h : RJ us d j c) (he : e ≤ c) : RJ us d j e := ⟨h.1, h.2.1, h.2.2.1, h.2.2.2.imp id (fun q => by omega)⟩
theorem RJ.clo {us : Int → Int} {d j : Int} (h : RJ us d j 6) (hu : ∀ l : Int, 0 ≤ l → l < 6 → ∀ i : Int, 0 ≤ i → i < 32 → bitI (us l) i → i < 6) : clo us d := by
  rcases h.2.2.2 with q | q
  · exact q
  · exact fun l i l0 l1 i0 i1 _ q2 => cnt_full q i0 (hu l l0 l1 i i0 i1 q2)
/-- a row of so many uses begins at j -/
def Lp (us : Int → Int) : Nat → Int → Prop
  | 0, _ => True
  | r + 1, j => ∃ l : Int, (0 ≤ l ∧ l < 6) ∧ bitI (us j) l ∧ Lp us r l
theorem lp_cnt {us ds : Int → Int} (hu : ∀ l : Int, 0 ≤ l → l < 6 → ∀ i : Int, 0 ≤ i → i < 32 → bitI (us l) i → i < 6) (h : ∀ j : Int, 0 ≤ j → j < 6 → RJ us (ds j) j 6) (hno : ∀ j : Int, 0 ≤ j → j < 6 → ¬ bitI (ds j) j) : ∀ (r : Nat) (j : Int), 0 ≤ j → j < 6 → Lp us r j → (r : Int) ≤ cnt6 (ds j) := by
  intro r
  induction r with
  | zero => intro j _ _ _; exact (cnt_rng _).1
  | succ r ih =>
    intro j j0 j1 hp
    obtain ⟨l, ⟨l0, l1⟩, hl, hr⟩ := hp
    have h1 := ih l l0 l1 hr
    have hj := h j j0 j1
    have hcl := hj.clo hu
    have hlj : bitI (ds j) l := hj.1 l l0 (by omega) hl
    have hsub : ∀ i : Int, 0 ≤ i → i < 6 → bitI (ds l) i → bitI (ds j) i := fun i i0 i1 q =>
      (h l l0 l1).2.2.1 (fun x => bitI (ds j) x) (fun x x0 x1 z => hcl l x l0 l1 x0 x1 hlj z) (fun a b a0 a1 b0 b1 z1 z2 => hcl a b a0 a1 b0 b1 z1 z2) i i0 (by omega) q
    have h9 := cnt_lt hsub l0 l1 hlj (hno l l0 l1)
    have : ((r + 1 : Nat) : Int) = (r : Int) + 1 := by omega
    omega
theorem lp_none {us ds : Int → Int} (hu : ∀ l : Int, 0 ≤ l → l < 6 → ∀ i : Int, 0 ≤ i → i < 32 → bitI (us l) i → i < 6) (h : ∀ j : Int, 0 ≤ j → j < 6 → RJ us (ds j) j 6) (hno : ∀ j : Int, 0 ≤ j → j < 6 → ¬ bitI (ds j) j) {j : Int} (j0 : 0 ≤ j) (j1 : j < 6) : ¬ Lp us 6 j := by
  intro hp
  have h1 := lp_cnt hu h hno 6 j j0 j1 hp
  have h2 := cnt_full (a := ds j) (by omega) j0 j1
  exact hno j j0 j1 h2
