/-! A NEW VERSION -/
def HM (G : LG) (Hs : List (Int → Int)) : Prop := ∀ v ∈ Hs, ∀ x, v x ≤ cur G x
theorem UV.sw {G G' : LG} {i : Nat} {t e f : Int} (h : UV G) (ht : -1 ≤ t ∧ t < (gS G 1000 0)) (hk : ¬ t = -1 → (-1 ≤ e ∧ e < (gS G 1000 6)) ∧ 0 ≤ f ∧ f ≤ 7) (u1 : ∀ j : Nat, gS G' a_valueType j = if j = i then t else gS G a_valueType j) (u2 : ∀ j : Nat, gS G' a_valueBy j = if j = i then e else gS G a_valueBy j) (u3 : ∀ j : Nat, gS G' a_valueFlags j = if j = i then f else gS G a_valueFlags j)
    (ha : Agr [a_versions, a_typeOf] [0, 6, 12] G G') : UV G' := by
  unfold UV
  rw [ha.f (j := 0) (by decide), ha.f (j := 6) (by decide), ha.f (j := 12) (by decide)]
  simp only [ha.a (n := a_versions) (by decide), ha.a (n := a_typeOf) (by decide)]
  refine ⟨h.1, h.2.1, h.2.2.1, h.2.2.2.1, fun v k v0 v1 k0 k1 => ?_⟩
  have h9 := h.2.2.2.2 v k v0 v1 k0 k1
  rw [u1, u2, u3]
  by_cases hj : (10 * v + k).toNat = i
  · rw [if_pos hj, if_pos hj, if_pos hj]; exact ⟨ht, hk⟩
  · rw [if_neg hj, if_neg hj, if_neg hj]; exact h9
theorem UV.vp {G G' : LG} {u : Int} (h : UV G) (hu : 0 ≤ u ∧ u < (gS G 1000 12)) (hv : (gS G a_versions (u).toNat) ≤ 4) (u1 : ∀ j : Nat, gS G' a_versions j = if j = (u).toNat then (gS G a_versions (u).toNat) + 1 else gS G a_versions j) (ha : Agr [a_typeOf, a_valueType, a_valueBy, a_valueFlags] [0, 6, 12] G G') : UV G' := by
  have h0 := h.1
  unfold UV
  rw [ha.f (j := 0) (by decide), ha.f (j := 6) (by decide), ha.f (j := 12) (by decide)]
  simp only [ha.a (n := a_typeOf) (by decide), ha.a (n := a_valueType) (by decide), ha.a (n := a_valueBy) (by decide), ha.a (n := a_valueFlags) (by decide)]
  refine ⟨h.1, fun x x0 x1 => ?_, fun x x0 x1 => ?_, h.2.2.2.1, h.2.2.2.2⟩
  · have h9 := h.2.1 x x0 x1; have h8 := h.2.2.1 u hu.1 hu.2
    rw [u1]; split <;> omega
  · have h9 := h.2.2.1 x x0 x1; have h8 := h.2.2.1 u hu.1 hu.2
    rw [u1]; split <;> omega
theorem cur.b {G : LG} (h : UV G) (hz : UZ G) (x : Int) : 0 ≤ cur G x ∧ cur G x ≤ 4 := by
  unfold cur
  have h0 := h.1
  by_cases hx : (x).toNat < 8
  · have h9 := h.2.1 ((x).toNat : Int) (by omega) (by omega)
    rw [Int.toNat_natCast] at h9
    split <;> omega
  · rw [if_pos (hz _ (by omega))]; omega
theorem cur.vp {G G' : LG} {u : Int} (hv : 1 ≤ (gS G a_versions (u).toNat)) (u1 : ∀ j : Nat, gS G' a_versions j = if j = (u).toNat then (gS G a_versions (u).toNat) + 1 else gS G a_versions j) (x : Int) : cur G x ≤ cur G' x := by
  unfold cur
  rw [u1]
  by_cases hx : (x).toNat = (u).toNat
  · rw [if_pos hx, hx]; split <;> split <;> omega
  · rw [if_neg hx]; exact Int.le_refl _
theorem TH.vp {G G' : LG} {u : Int} {Hs : List (Int → Int)} (h : TH G Hs) (hm : HM G Hs) (hU : UV G) (hU' : UV G') (hz' : UZ G') (hu : 0 ≤ u ∧ u < (gS G 1000 12)) (u1 : ∀ j : Nat, gS G' a_versions j = if j = (u).toNat then (gS G a_versions (u).toNat) + 1 else gS G a_versions j)
    (ha : Agr [a_nKind, a_nFirst, a_nSecond, a_nThird, a_nWeight, a_isGenerative, a_thingKind, a_thingA, a_thingB, a_thingC, a_thingNext, a_thingHead] [42, 18, 12] G G') : TH G' (cur G' :: Hs) ∧ HM G' (cur G' :: Hs) := by
  have hv := hU.2.2.1 u hu.1 hu.2
  have hc := cur.vp hv u1
  have hb := cur.b hU' hz'
  have hM : HM G' (cur G' :: Hs) := fun v hv x => by
    rcases List.mem_cons.mp hv with rfl | q
    · exact Int.le_refl _
    · exact Int.le_trans (hm v q x) (hc x)
  have sub : ∀ ns js, (∀ n ∈ ns, n ∈ [a_nKind, a_nFirst, a_nSecond, a_nThird, a_nWeight, a_isGenerative, a_thingKind, a_thingA, a_thingB, a_thingC, a_thingNext, a_thingHead]) → (∀ j ∈ js, j ∈ [42, 18, 12]) → Agr ns js G G' := fun ns js a b n j q => ha n j (q.imp (a n) (fun z => ⟨z.1, b j z.2⟩))
  have hN : ND G' := h.2.2.2.1.vs (by rw [ha.f (j := 12) (by decide)]; exact Int.le_refl _) (fun x x0 x1 => by rw [u1]; split <;> first | (rename_i q; rw [q]; omega) | exact Int.le_refl _) (sub _ _ (by decide) (by decide))
  refine ⟨h.tn (TN.agr (sub _ _ (by decide) (by decide))) (sub _ _ (by decide) (by decide)) (by rw [ha.f (j := 18) (by decide)]; exact Int.le_refl _) hN ⟨fun v hv x => ?_, fun v hv w hw => ?_, fun v hv x => ?_⟩ (fun v q => List.mem_cons_of_mem _ q), hM⟩
  · rcases List.mem_cons.mp hv with rfl | q
    · exact hb x
    · exact h.2.2.1.1 v q x
  · rcases List.mem_cons.mp hv with rfl | q
    · exact Or.inr (hM w hw)
    · rcases List.mem_cons.mp hw with rfl | z
      · exact Or.inl (fun x => Int.le_trans (hm v q x) (hc x))
      · exact h.2.2.1.2.1 v q w z
  · rcases List.mem_cons.mp hv with rfl | q
    · intro h8
      have h9 : (gS G' a_versions (x).toNat) = 0 := hz' _ (by have := hU'.1; omega)
      unfold cur
      rw [if_pos h9]
    · exact h.2.2.1.2.2 v q x
theorem UZ.vp {G G' : LG} {u w : Int} (hz : UZ G) (hu : 0 ≤ u ∧ u < (gS G 1000 12)) (e : (gS G' 1000 12) = (gS G 1000 12)) (u1 : ∀ j : Nat, gS G' a_versions j = if j = (u).toNat then w else gS G a_versions j) : UZ G' := fun j hj => by
  rw [u1, if_neg (by omega)]
  exact hz j (by omega)
