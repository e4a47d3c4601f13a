/-! THE REFERENCE, NEW -/
def slm : Nat → Nat
  | 0 => 0
  | k + 1 => slm k + (mk k).2
/-- its first k slots have been made -/
def INI (G0 : LG) (k : Nat) (G : LG) : Prop := gK G 1000 = (21, 0) ∧ (∀ j, j < k → (mk j).1 ≠ 0 → gK G (1001 + j) = mk j ∧ gS G 1000 j = ((1001 + j : Nat) : Int) ∧ ∀ i, gS G (1001 + j) i = 0) ∧ (∀ j, k ≤ j → j < 109 → (gK G (1001 + j)).1 = 0) ∧ (∀ j, j < 109 → (mk j).1 = 0 → gS G 1000 j = 0) ∧
  (∀ n, n < 1000 ∨ 1109 < n → gS G n = gS G0 n ∧ gK G n = gK G0 n) ∧ gc G ≤ gc G0 + k ∧ gs G ≤ gs G0 + slm k
theorem INI.skip {G0 G : LG} {k : Nat} (h : INI G0 k G) (hm : mk k = (0, 0)) : INI G0 (k + 1) G := by
  obtain ⟨h1, h2, h3, h4, h5, h6, h7⟩ := h
  refine ⟨h1, fun j hj h0 => ?_, fun j hj => h3 j (by omega), h4, h5, by omega, ?_⟩
  · by_cases e : j = k
    · subst e; rw [hm] at h0; exact absurd rfl h0
    · exact h2 j (by omega) h0
  · show gs G ≤ gs G0 + (slm k + (mk k).2); omega
theorem INI.step {G0 G : LG} {k t L : Nat} (h : INI G0 k G) (hm : mk k = (t, L)) (ht : t ≠ 0) (hk : k < 109) : INI G0 (k + 1) (gset (gnew G (1001 + k) t L L (fun _ => 0)) 1000 k ((1001 + k : Nat) : Int)) := by
  obtain ⟨h1, h2, h3, h4, h5, h6, h7⟩ := h
  refine ⟨?_, fun j hj h0 => ⟨?_, ?_, fun i => ?_⟩, fun j hj j9 => ?_, fun j j9 h0 => ?_, fun n hn => ⟨?_, ?_⟩, ?_, ?_⟩
  · rw [gset_K, gnew_Kne _ _ _ _ _ (by omega)]; exact h1
  · rw [gset_K]
    by_cases e : j = k
    · subst e; rw [gnew_K, hm]
    · rw [gnew_Kne _ _ _ _ _ (by omega)]; exact (h2 j (by omega) h0).1
  · by_cases e : j = k
    · subst e; rw [gset_at]
    · rw [gset_ne _ _ (fun q => e q.2), gnew_ne _ _ _ _ _ (by omega)]; exact (h2 j (by omega) h0).2.1
  · rw [gset_ne _ _ (fun q => absurd q.1 (by omega))]
    by_cases e : j = k
    · subst e; rw [gnew_at]
    · rw [gnew_ne _ _ _ _ _ (by omega)]; exact (h2 j (by omega) h0).2.2 i
  · rw [gset_K, gnew_Kne _ _ _ _ _ (by omega)]; exact h3 j (by omega) j9
  · have e : j ≠ k := fun q => by rw [q, hm] at h0; exact ht h0
    rw [gset_ne _ _ (fun q => e q.2), gnew_ne _ _ _ _ _ (by omega)]; exact h4 j j9 h0
  · funext y
    rw [gset_ne _ _ (fun q => absurd q.1 (by omega)), gnew_ne _ _ _ _ _ (by omega), (h5 n hn).1]
  · rw [gset_K, gnew_Kne _ _ _ _ _ (by omega)]; exact (h5 n hn).2
  · show gc G + 1 ≤ _; omega
  · show gs G + L ≤ gs G0 + (slm k + (mk k).2); rw [hm]; omega
section INITS
variable {K : KD} {X : CX} {pc : Nat} {lv lv' : List (Option LV)} {st : List LV} {G : LG}
theorem r_mkI {k L idx : Nat} {v : Int} {G0 : LG} (hI : INI G0 k G) (hr1 : gc G0 + 109 ≤ 601024) (hr2 : gs G0 + 2200000 ≤ 7293034) (hm : mk k = (1, L)) (hk : k < 109) (hsl : slm k + L ≤ 2200000) (hv : v = (L : Int)) (hd1 : decode K.2.1 pc = .ok (.newarray .int, 2)) (hd2 : decode K.2.1 (pc + 2) = .ok (.putfield idx, 3)) (hlink : Cond.fieldLink K.1 idx (TX12 k).1 (TX12 k).2.1 (TX12 k).2.2.1 ∈ WALL) (hfin : (TX12 k).2.2.2 = true) (hdecl : (TX12 k).1 = K.1) (hini : nmX X = "<init>") (hty : ∃ t, lw_ty 13 k = .array t)
    (kk : ∀ G' : LG, INI G0 (k + 1) G' → WP K X (pc + 5) lv st G') : WP K X pc lv ((0, v) :: (2, ((1000 : Nat) : Int)) :: st) G := by
  have h6 := hI.2.2.2.2.2.1
  have h7 := hI.2.2.2.2.2.2
  refine s_newI (1001 + k) L hd1 hv (by omega) (hI.2.2.1 k (Nat.le_refl _) hk) (by omega) (by omega) ?_
  refine s_putF (ci := 13) (k := k) (C := RX12) (T := TX12) (N := 109) (n := 1000) (t := 2) (L := 0) hd2 rfl wi_69 hlink hk rfl (by obtain ⟨t, e⟩ := hty; rw [e]; rfl) tyX12_ok nmX12 hfin hini hdecl (Or.inr (Or.inr (Or.inr (Or.inr hty)))) ?_ ?_
  · rw [gnew_Kne _ _ _ _ _ (by omega)]; exact hI.1
  · exact kk _ (hI.step hm (by decide) hk)
theorem r_mkZ {k L idx : Nat} {v : Int} {G0 : LG} (hI : INI G0 k G) (hr1 : gc G0 + 109 ≤ 601024) (hr2 : gs G0 + 2200000 ≤ 7293034) (hm : mk k = (2, L)) (hk : k < 109) (hsl : slm k + L ≤ 2200000) (hv : v = (L : Int)) (hd1 : decode K.2.1 pc = .ok (.newarray .boolean, 2)) (hd2 : decode K.2.1 (pc + 2) = .ok (.putfield idx, 3)) (hlink : Cond.fieldLink K.1 idx (TX12 k).1 (TX12 k).2.1 (TX12 k).2.2.1 ∈ WALL) (hfin : (TX12 k).2.2.2 = true) (hdecl : (TX12 k).1 = K.1) (hini : nmX X = "<init>") (hty : ∃ t, lw_ty 13 k = .array t)
    (kk : ∀ G' : LG, INI G0 (k + 1) G' → WP K X (pc + 5) lv st G') : WP K X pc lv ((0, v) :: (2, ((1000 : Nat) : Int)) :: st) G := by
  have h6 := hI.2.2.2.2.2.1
  have h7 := hI.2.2.2.2.2.2
  refine s_newZ (1001 + k) L hd1 hv (by omega) (hI.2.2.1 k (Nat.le_refl _) hk) (by omega) (by omega) ?_
  refine s_putF (ci := 13) (k := k) (C := RX12) (T := TX12) (N := 109) (n := 1000) (t := 2) (L := 0) hd2 rfl wi_69 hlink hk rfl (by obtain ⟨t, e⟩ := hty; rw [e]; rfl) tyX12_ok nmX12 hfin hini hdecl (Or.inr (Or.inr (Or.inr (Or.inr hty)))) ?_ ?_
  · rw [gnew_Kne _ _ _ _ _ (by omega)]; exact hI.1
  · exact kk _ (hI.step hm (by decide) hk)
theorem r_mkL {k L idx : Nat} {v : Int} {G0 : LG} (hI : INI G0 k G) (hr1 : gc G0 + 109 ≤ 601024) (hr2 : gs G0 + 2200000 ≤ 7293034) (hm : mk k = (3, L)) (hk : k < 109) (hsl : slm k + L ≤ 2200000) (hv : v = (L : Int)) (hd1 : decode K.2.1 pc = .ok (.newarray .long, 2)) (hd2 : decode K.2.1 (pc + 2) = .ok (.putfield idx, 3)) (hlink : Cond.fieldLink K.1 idx (TX12 k).1 (TX12 k).2.1 (TX12 k).2.2.1 ∈ WALL) (hfin : (TX12 k).2.2.2 = true) (hdecl : (TX12 k).1 = K.1) (hini : nmX X = "<init>") (hty : ∃ t, lw_ty 13 k = .array t)
    (kk : ∀ G' : LG, INI G0 (k + 1) G' → WP K X (pc + 5) lv st G') : WP K X pc lv ((0, v) :: (2, ((1000 : Nat) : Int)) :: st) G := by
  have h6 := hI.2.2.2.2.2.1
  have h7 := hI.2.2.2.2.2.2
  refine s_newL (1001 + k) L hd1 hv (by omega) (hI.2.2.1 k (Nat.le_refl _) hk) (by omega) (by omega) ?_
  refine s_putF (ci := 13) (k := k) (C := RX12) (T := TX12) (N := 109) (n := 1000) (t := 2) (L := 0) hd2 rfl wi_69 hlink hk rfl (by obtain ⟨t, e⟩ := hty; rw [e]; rfl) tyX12_ok nmX12 hfin hini hdecl (Or.inr (Or.inr (Or.inr (Or.inr hty)))) ?_ ?_
  · rw [gnew_Kne _ _ _ _ _ (by omega)]; exact hI.1
  · exact kk _ (hI.step hm (by decide) hk)
end INITS
/-- the reference as it begins -/
def M0 (G0 G : LG) : Prop := MG G ∧ (∀ n, n < 1000 ∨ 1109 < n → gS G n = gS G0 n ∧ gK G n = gK G0 n) ∧ gc G ≤ gc G0 + 109 ∧ gs G ≤ gs G0 + 2200000 ∧ (∀ j, j < 109 → (mk j).1 = 0 → gS G 1000 j = 0) ∧ (∀ j, j < 109 → (mk j).1 ≠ 0 → j ≠ 14 → j ≠ 15 → ∀ i, gS G (1001 + j) i = 0) ∧ (∀ i, gS G a_typeOf i = if i < 240 then -2 else 0) ∧ (∀ i, gS G a_valueType i = if i < 400 then -1 else 0)
theorem INI.mg {G0 G : LG} (h : INI G0 109 G) : MG G := ⟨h.1, fun k hk h0 => ⟨(h.2.1 k hk h0).1, (h.2.1 k hk h0).2.1⟩⟩
/-- a row of equal numbers is written -/
def FLL (n : Nat) (v : Int) (G0 : LG) (k : Nat) (G : LG) : Prop := MG G ∧ gK G = gK G0 ∧ gc G = gc G0 ∧ gs G = gs G0 ∧ (∀ x, x ≠ n → gS G x = gS G0 x) ∧ ∀ j, gS G n j = if j < k then v else 0
theorem FLL.step {n : Nat} {v : Int} {G0 G G' : LG} {k : Nat} (h : FLL n v G0 k G) (e : G' = gset G n k v) (hM : MG G') : FLL n v G0 (k + 1) G' := by
  subst e
  obtain ⟨h1, h2, h3, h4, h5, h6⟩ := h
  refine ⟨hM, h2, h3, h4, fun x hx => ?_, fun j => ?_⟩
  · funext y; rw [gset_ne _ _ (fun q => hx q.1), h5 x hx]
  · by_cases e : j = k
    · subst e; rw [gset_at, if_pos (by omega)]
    · rw [gset_ne _ _ (fun q => e q.2), h6]
      by_cases q : j < k
      · rw [if_pos q, if_pos (by omega)]
      · rw [if_neg q, if_neg (by omega)]
def TX12_init : TR := fun as G Qr => as = [(2, ((1000 : Nat) : Int))] ∧ gK G 1000 = (21, 0) ∧ gS G 1000 = lw_d 13 ∧ (∀ j, j < 109 → (gK G (1001 + j)).1 = 0) ∧ gc G + 109 ≤ 601024 ∧ gs G + 2200000 ≤ 7293034 ∧ ∀ G' : LG, M0 G G' → Qr (.inl none) G'

theorem in0 : ∀ j, j < 109 → (mk j).1 = 0 → lw_d 13 j = 0 := by decide +kernel
theorem init_loops {X : CX} {G0 G1 : LG} {Qr : RS → LG → Prop} {v9 : Option LV} (hcf : cf X = 1) (hR : RetX X Qr) (hr2 : gs G0 + 2200000 ≤ 7293034) (hI : INI G0 109 G1) (hQ : ∀ G' : LG, M0 G0 G' → Qr (.inl none) G') : WP kX12_init X 723 [some (2, ((1000 : Nat) : Int)), v9] [] G1 := by
  have hsl : slm 109 ≤ 2200000 := by decide +kernel
  obtain ⟨h1, h2, h3, h4, h5, h6, h7⟩ := hI
  have hM : MG G1 := INI.mg ⟨h1, h2, h3, h4, h5, h6, h7⟩
  refine s_iconst dX12_init_723 (by decide) ?_
  refine s_istore_n dX12_init_724 (by decide) (lv' := [some (2, ((1000 : Nat) : Int)), some (0, 0)]) rfl ?_
  have lo2 : ∀ (G2 : LG), FLL a_typeOf (-2) G1 240 G2 → ∀ (f k : Nat) (G : LG), k + f = 400 → FLL a_valueType (-1) G2 k G → WP kX12_init X 748 [some (2, ((1000 : Nat) : Int)), some (0, (k : Int))] [] G := by
    intro G2 hF2 f
    induction f with
    | zero =>
      intro k G hk hF
      refine s_iload_n dX12_init_748 rfl ?_
      refine s_sipush dX12_init_749 rfl (by decide) ?_
      refine s_icmp_ge (tgt := 768) dX12_init_752 (by decide) (fun c => ?_) (fun c => absurd c (by omega))
      refine s_vret hR dX12_init_768 rfl (hQ _ ?_)
      obtain ⟨a1, a2, a3, a4, a5, a6⟩ := hF2
      obtain ⟨b1, b2, b3, b4, b5, b6⟩ := hF
      refine ⟨b1, fun n hn => ?_, by omega, by omega, fun j hj h0 => ?_, fun j hj h0 j14 j15 i => ?_, fun i => ?_, fun i => ?_⟩
      · rw [b5 n (by show n ≠ 1016; omega), a5 n (by show n ≠ 1015; omega), b2, a2]; exact h5 n hn
      · rw [b5 1000 (by decide), a5 1000 (by decide)]; exact h4 j hj h0
      · rw [b5 (1001 + j) (by show 1001 + j ≠ 1016; omega), a5 (1001 + j) (by show 1001 + j ≠ 1015; omega)]; exact (h2 j hj h0).2.2 i
      · rw [b5 a_typeOf (by decide), a6]
      · rw [b6, show k = 400 by omega]
    | succ f ih =>
      intro k G hk hF
      refine s_iload_n dX12_init_748 rfl ?_
      refine s_sipush dX12_init_749 rfl (by decide) ?_
      refine s_icmp_ge (tgt := 768) dX12_init_752 (by decide) (fun c => absurd c (by omega)) (fun c => ?_)
      refine s_aload_n dX12_init_755 rfl (Int.natCast_nonneg _) ?_
      refine gf_valueType rfl dX12_init_756 hF.1 ?_
      refine s_iload_n dX12_init_759 rfl ?_
      refine s_iconst dX12_init_760 (by decide) ?_
      refine r_iast dX12_init_761 hF.1 (mg_a_valueType hF.1) (by decide) (by omega) (by omega) (fun G9 e9 hM9 => ?_)
      refine s_iinc dX12_init_762 (v := (k : Int)) rfl (by omega) (by decide) (lv' := [some (2, ((1000 : Nat) : Int)), some (0, (k : Int) + 1)]) rfl ?_
      refine s_goto (tgt := 748) dX12_init_765 (by decide) ?_
      rw [Int.toNat_natCast] at e9
      exact ih (k + 1) G9 (by omega) (hF.step e9 hM9)
  have lo1 : ∀ (f k : Nat) (G : LG), k + f = 240 → FLL a_typeOf (-2) G1 k G → WP kX12_init X 725 [some (2, ((1000 : Nat) : Int)), some (0, (k : Int))] [] G := by
    intro f
    induction f with
    | zero =>
      intro k G hk hF
      refine s_iload_n dX12_init_725 rfl ?_
      refine s_sipush dX12_init_726 rfl (by decide) ?_
      refine s_icmp_ge (tgt := 746) dX12_init_729 (by decide) (fun c => ?_) (fun c => absurd c (by omega))
      refine s_iconst dX12_init_746 (by decide) ?_
      refine s_istore_n dX12_init_747 (by decide) (lv' := [some (2, ((1000 : Nat) : Int)), some (0, 0)]) rfl ?_
      have hk4 : k = 240 := by omega
      subst hk4
      have hz : ∀ j, gS G a_valueType j = 0 := fun j => by
        rw [hF.2.2.2.2.1 a_valueType (by decide)]; exact (h2 15 (by decide) (by decide)).2.2 j
      exact lo2 G hF 400 0 G rfl ⟨hF.1, rfl, rfl, rfl, fun _ _ => rfl, fun j => by rw [hz, if_neg (Nat.not_lt_zero _)]⟩
    | succ f ih =>
      intro k G hk hF
      refine s_iload_n dX12_init_725 rfl ?_
      refine s_sipush dX12_init_726 rfl (by decide) ?_
      refine s_icmp_ge (tgt := 746) dX12_init_729 (by decide) (fun c => absurd c (by omega)) (fun c => ?_)
      refine s_aload_n dX12_init_732 rfl (Int.natCast_nonneg _) ?_
      refine gf_typeOf rfl dX12_init_733 hF.1 ?_
      refine s_iload_n dX12_init_736 rfl ?_
      refine s_bipush dX12_init_737 rfl (by decide) ?_
      refine r_iast dX12_init_739 hF.1 (mg_a_typeOf hF.1) (by decide) (by omega) (by omega) (fun G9 e9 hM9 => ?_)
      refine s_iinc dX12_init_740 (v := (k : Int)) rfl (by omega) (by decide) (lv' := [some (2, ((1000 : Nat) : Int)), some (0, (k : Int) + 1)]) rfl ?_
      refine s_goto (tgt := 725) dX12_init_743 (by decide) ?_
      rw [Int.toNat_natCast] at e9
      exact ih (k + 1) G9 (by omega) (hF.step e9 hM9)
  exact lo1 240 0 G1 rfl ⟨hM, rfl, rfl, rfl, fun _ _ => rfl, fun j => by rw [(h2 14 (by decide) (by decide)).2.2 j, if_neg (Nat.not_lt_zero _)]⟩
set_option maxHeartbeats 4000000 in
set_option maxRecDepth 100000 in
theorem gX12_init : Good kX12_init yX12_init 1 TX12_init := by
  refine goodI_of (by decide) rfl rfl (fun as G Qr h => ?_) (fun X as G Qr hcf hR hnm hT oa => ?_)
  · obtain ⟨rfl, -⟩ := h; exact Nat.le_of_ble_eq_true rfl
  obtain ⟨rfl, hk, hs0, hfree, hr1, hr2, hQ⟩ := hT
  show WP kX12_init X 0 [some (2, ((1000 : Nat) : Int)), none] [] G
  have hI0 : INI G 0 G := ⟨hk, fun j hj => absurd hj (Nat.not_lt_zero _), fun j _ h => hfree j h, fun j h h0 => by rw [hs0]; exact (in0 j h h0), fun n _ => ⟨rfl, rfl⟩, Nat.le_add_right _ _, Nat.le_add_right _ _⟩
  refine s_aload_n dX12_init_0 rfl (Int.natCast_nonneg _) ?_
  refine s_objInit dX12_init_1 m_1200 m_724 m_39 (by rw [hcf]; exact Nat.le_refl _) (by decide) ?_
  have hI1 := hI0.skip rfl
  refine s_aload_n dX12_init_4 rfl (Int.natCast_nonneg _) ?_
  refine s_bipush dX12_init_5 rfl (by decide) ?_
  refine r_mkI (k := 1) (L := 60) hI1 hr1 hr2 rfl (Nat.le_of_ble_eq_true rfl) (Nat.le_of_ble_eq_true rfl) rfl dX12_init_7 dX12_init_9 m_555 rfl rfl hnm ⟨_, rfl⟩ (fun G2 hI2 => ?_)
  refine s_aload_n dX12_init_12 rfl (Int.natCast_nonneg _) ?_
  refine s_bipush dX12_init_13 rfl (by decide) ?_
  refine r_mkI (k := 2) (L := 60) hI2 hr1 hr2 rfl (Nat.le_of_ble_eq_true rfl) (Nat.le_of_ble_eq_true rfl) rfl dX12_init_15 dX12_init_17 m_466 rfl rfl hnm ⟨_, rfl⟩ (fun G3 hI3 => ?_)
  refine s_aload_n dX12_init_20 rfl (Int.natCast_nonneg _) ?_
  refine s_bipush dX12_init_21 rfl (by decide) ?_
  refine r_mkI (k := 3) (L := 60) hI3 hr1 hr2 rfl (Nat.le_of_ble_eq_true rfl) (Nat.le_of_ble_eq_true rfl) rfl dX12_init_23 dX12_init_25 m_477 rfl rfl hnm ⟨_, rfl⟩ (fun G4 hI4 => ?_)
  refine s_aload_n dX12_init_28 rfl (Int.natCast_nonneg _) ?_
  refine s_bipush dX12_init_29 rfl (by decide) ?_
  refine r_mkI (k := 4) (L := 60) hI4 hr1 hr2 rfl (Nat.le_of_ble_eq_true rfl) (Nat.le_of_ble_eq_true rfl) rfl dX12_init_31 dX12_init_33 m_488 rfl rfl hnm ⟨_, rfl⟩ (fun G5 hI5 => ?_)
  refine s_aload_n dX12_init_36 rfl (Int.natCast_nonneg _) ?_
  refine s_bipush dX12_init_37 rfl (by decide) ?_
  refine r_mkI (k := 5) (L := 60) hI5 hr1 hr2 rfl (Nat.le_of_ble_eq_true rfl) (Nat.le_of_ble_eq_true rfl) rfl dX12_init_39 dX12_init_41 m_499 rfl rfl hnm ⟨_, rfl⟩ (fun G6 hI6 => ?_)
  have hI7 := hI6.skip rfl
  refine s_aload_n dX12_init_44 rfl (Int.natCast_nonneg _) ?_
  refine s_bipush dX12_init_45 rfl (by decide) ?_
  refine r_mkI (k := 7) (L := 120) hI7 hr1 hr2 rfl (Nat.le_of_ble_eq_true rfl) (Nat.le_of_ble_eq_true rfl) rfl dX12_init_47 dX12_init_49 m_510 rfl rfl hnm ⟨_, rfl⟩ (fun G8 hI8 => ?_)
  refine s_aload_n dX12_init_52 rfl (Int.natCast_nonneg _) ?_
  refine s_bipush dX12_init_53 rfl (by decide) ?_
  refine r_mkI (k := 8) (L := 120) hI8 hr1 hr2 rfl (Nat.le_of_ble_eq_true rfl) (Nat.le_of_ble_eq_true rfl) rfl dX12_init_55 dX12_init_57 m_519 rfl rfl hnm ⟨_, rfl⟩ (fun G9 hI9 => ?_)
  refine s_aload_n dX12_init_60 rfl (Int.natCast_nonneg _) ?_
  refine s_bipush dX12_init_61 rfl (by decide) ?_
  refine r_mkI (k := 9) (L := 120) hI9 hr1 hr2 rfl (Nat.le_of_ble_eq_true rfl) (Nat.le_of_ble_eq_true rfl) rfl dX12_init_63 dX12_init_65 m_523 rfl rfl hnm ⟨_, rfl⟩ (fun G10 hI10 => ?_)
  refine s_aload_n dX12_init_68 rfl (Int.natCast_nonneg _) ?_
  refine s_bipush dX12_init_69 rfl (by decide) ?_
  refine r_mkI (k := 10) (L := 120) hI10 hr1 hr2 rfl (Nat.le_of_ble_eq_true rfl) (Nat.le_of_ble_eq_true rfl) rfl dX12_init_71 dX12_init_73 m_525 rfl rfl hnm ⟨_, rfl⟩ (fun G11 hI11 => ?_)
  refine s_aload_n dX12_init_76 rfl (Int.natCast_nonneg _) ?_
  refine s_bipush dX12_init_77 rfl (by decide) ?_
  refine r_mkI (k := 11) (L := 120) hI11 hr1 hr2 rfl (Nat.le_of_ble_eq_true rfl) (Nat.le_of_ble_eq_true rfl) rfl dX12_init_79 dX12_init_81 m_531 rfl rfl hnm ⟨_, rfl⟩ (fun G12 hI12 => ?_)
  have hI13 := hI12.skip rfl
  refine s_aload_n dX12_init_84 rfl (Int.natCast_nonneg _) ?_
  refine s_bipush dX12_init_85 rfl (by decide) ?_
  refine r_mkI (k := 13) (L := 8) hI13 hr1 hr2 rfl (Nat.le_of_ble_eq_true rfl) (Nat.le_of_ble_eq_true rfl) rfl dX12_init_87 dX12_init_89 m_532 rfl rfl hnm ⟨_, rfl⟩ (fun G14 hI14 => ?_)
  refine s_aload_n dX12_init_92 rfl (Int.natCast_nonneg _) ?_
  refine s_sipush dX12_init_93 rfl (by decide) ?_
  refine r_mkI (k := 14) (L := 240) hI14 hr1 hr2 rfl (Nat.le_of_ble_eq_true rfl) (Nat.le_of_ble_eq_true rfl) rfl dX12_init_96 dX12_init_98 m_533 rfl rfl hnm ⟨_, rfl⟩ (fun G15 hI15 => ?_)
  refine s_aload_n dX12_init_101 rfl (Int.natCast_nonneg _) ?_
  refine s_sipush dX12_init_102 rfl (by decide) ?_
  refine r_mkI (k := 15) (L := 400) hI15 hr1 hr2 rfl (Nat.le_of_ble_eq_true rfl) (Nat.le_of_ble_eq_true rfl) rfl dX12_init_105 dX12_init_107 m_534 rfl rfl hnm ⟨_, rfl⟩ (fun G16 hI16 => ?_)
  refine s_aload_n dX12_init_110 rfl (Int.natCast_nonneg _) ?_
  refine s_sipush dX12_init_111 rfl (by decide) ?_
  refine r_mkI (k := 16) (L := 400) hI16 hr1 hr2 rfl (Nat.le_of_ble_eq_true rfl) (Nat.le_of_ble_eq_true rfl) rfl dX12_init_114 dX12_init_116 m_536 rfl rfl hnm ⟨_, rfl⟩ (fun G17 hI17 => ?_)
  refine s_aload_n dX12_init_119 rfl (Int.natCast_nonneg _) ?_
  refine s_sipush dX12_init_120 rfl (by decide) ?_
  refine r_mkI (k := 17) (L := 400) hI17 hr1 hr2 rfl (Nat.le_of_ble_eq_true rfl) (Nat.le_of_ble_eq_true rfl) rfl dX12_init_123 dX12_init_125 m_540 rfl rfl hnm ⟨_, rfl⟩ (fun G18 hI18 => ?_)
  have hI19 := hI18.skip rfl
  refine s_aload_n dX12_init_128 rfl (Int.natCast_nonneg _) ?_
  refine s_bipush dX12_init_129 rfl (by decide) ?_
  refine r_mkI (k := 19) (L := 40) hI19 hr1 hr2 rfl (Nat.le_of_ble_eq_true rfl) (Nat.le_of_ble_eq_true rfl) rfl dX12_init_131 dX12_init_133 m_544 rfl rfl hnm ⟨_, rfl⟩ (fun G20 hI20 => ?_)
  refine s_aload_n dX12_init_136 rfl (Int.natCast_nonneg _) ?_
  refine s_bipush dX12_init_137 rfl (by decide) ?_
  refine r_mkI (k := 20) (L := 40) hI20 hr1 hr2 rfl (Nat.le_of_ble_eq_true rfl) (Nat.le_of_ble_eq_true rfl) rfl dX12_init_139 dX12_init_141 m_546 rfl rfl hnm ⟨_, rfl⟩ (fun G21 hI21 => ?_)
  refine s_aload_n dX12_init_144 rfl (Int.natCast_nonneg _) ?_
  refine s_bipush dX12_init_145 rfl (by decide) ?_
  refine r_mkI (k := 21) (L := 40) hI21 hr1 hr2 rfl (Nat.le_of_ble_eq_true rfl) (Nat.le_of_ble_eq_true rfl) rfl dX12_init_147 dX12_init_149 m_552 rfl rfl hnm ⟨_, rfl⟩ (fun G22 hI22 => ?_)
  refine s_aload_n dX12_init_152 rfl (Int.natCast_nonneg _) ?_
  refine s_bipush dX12_init_153 rfl (by decide) ?_
  refine r_mkI (k := 22) (L := 40) hI22 hr1 hr2 rfl (Nat.le_of_ble_eq_true rfl) (Nat.le_of_ble_eq_true rfl) rfl dX12_init_155 dX12_init_157 m_553 rfl rfl hnm ⟨_, rfl⟩ (fun G23 hI23 => ?_)
  refine s_aload_n dX12_init_160 rfl (Int.natCast_nonneg _) ?_
  refine s_bipush dX12_init_161 rfl (by decide) ?_
  refine r_mkI (k := 23) (L := 40) hI23 hr1 hr2 rfl (Nat.le_of_ble_eq_true rfl) (Nat.le_of_ble_eq_true rfl) rfl dX12_init_163 dX12_init_165 m_554 rfl rfl hnm ⟨_, rfl⟩ (fun G24 hI24 => ?_)
  refine s_aload_n dX12_init_168 rfl (Int.natCast_nonneg _) ?_
  refine s_bipush dX12_init_169 rfl (by decide) ?_
  refine r_mkZ (k := 24) (L := 40) hI24 hr1 hr2 rfl (Nat.le_of_ble_eq_true rfl) (Nat.le_of_ble_eq_true rfl) rfl dX12_init_171 dX12_init_173 m_556 rfl rfl hnm ⟨_, rfl⟩ (fun G25 hI25 => ?_)
  have hI26 := hI25.skip rfl
  have hI27 := hI26.skip rfl
  refine s_aload_n dX12_init_176 rfl (Int.natCast_nonneg _) ?_
  refine s_ldc dX12_init_177 (v := 150000) m_397 (by decide) rfl ?_
  refine r_mkI (k := 27) (L := 150000) hI27 hr1 hr2 rfl (Nat.le_of_ble_eq_true rfl) (Nat.le_of_ble_eq_true rfl) rfl dX12_init_179 dX12_init_181 m_557 rfl rfl hnm ⟨_, rfl⟩ (fun G28 hI28 => ?_)
  refine s_aload_n dX12_init_184 rfl (Int.natCast_nonneg _) ?_
  refine s_ldc dX12_init_185 (v := 150000) m_397 (by decide) rfl ?_
  refine r_mkI (k := 28) (L := 150000) hI28 hr1 hr2 rfl (Nat.le_of_ble_eq_true rfl) (Nat.le_of_ble_eq_true rfl) rfl dX12_init_187 dX12_init_189 m_558 rfl rfl hnm ⟨_, rfl⟩ (fun G29 hI29 => ?_)
  refine s_aload_n dX12_init_192 rfl (Int.natCast_nonneg _) ?_
  refine s_ldc dX12_init_193 (v := 150000) m_397 (by decide) rfl ?_
  refine r_mkI (k := 29) (L := 150000) hI29 hr1 hr2 rfl (Nat.le_of_ble_eq_true rfl) (Nat.le_of_ble_eq_true rfl) rfl dX12_init_195 dX12_init_197 m_559 rfl rfl hnm ⟨_, rfl⟩ (fun G30 hI30 => ?_)
  refine s_aload_n dX12_init_200 rfl (Int.natCast_nonneg _) ?_
  refine s_ldc dX12_init_201 (v := 150000) m_397 (by decide) rfl ?_
  refine r_mkI (k := 30) (L := 150000) hI30 hr1 hr2 rfl (Nat.le_of_ble_eq_true rfl) (Nat.le_of_ble_eq_true rfl) rfl dX12_init_203 dX12_init_205 m_560 rfl rfl hnm ⟨_, rfl⟩ (fun G31 hI31 => ?_)
  refine s_aload_n dX12_init_208 rfl (Int.natCast_nonneg _) ?_
  refine s_ldc dX12_init_209 (v := 150000) m_397 (by decide) rfl ?_
  refine r_mkI (k := 31) (L := 150000) hI31 hr1 hr2 rfl (Nat.le_of_ble_eq_true rfl) (Nat.le_of_ble_eq_true rfl) rfl dX12_init_211 dX12_init_213 m_561 rfl rfl hnm ⟨_, rfl⟩ (fun G32 hI32 => ?_)
  refine s_aload_n dX12_init_216 rfl (Int.natCast_nonneg _) ?_
  refine s_sipush dX12_init_217 rfl (by decide) ?_
  refine r_mkI (k := 32) (L := 16384) hI32 hr1 hr2 rfl (Nat.le_of_ble_eq_true rfl) (Nat.le_of_ble_eq_true rfl) rfl dX12_init_220 dX12_init_222 m_562 rfl rfl hnm ⟨_, rfl⟩ (fun G33 hI33 => ?_)
  refine s_aload_n dX12_init_225 rfl (Int.natCast_nonneg _) ?_
  refine s_ldc dX12_init_226 (v := 150000) m_397 (by decide) rfl ?_
  refine r_mkI (k := 33) (L := 150000) hI33 hr1 hr2 rfl (Nat.le_of_ble_eq_true rfl) (Nat.le_of_ble_eq_true rfl) rfl dX12_init_228 dX12_init_230 m_563 rfl rfl hnm ⟨_, rfl⟩ (fun G34 hI34 => ?_)
  refine s_aload_n dX12_init_233 rfl (Int.natCast_nonneg _) ?_
  refine s_ldc dX12_init_234 (v := 150000) m_397 (by decide) rfl ?_
  refine r_mkI (k := 34) (L := 150000) hI34 hr1 hr2 rfl (Nat.le_of_ble_eq_true rfl) (Nat.le_of_ble_eq_true rfl) rfl dX12_init_236 dX12_init_238 m_564 rfl rfl hnm ⟨_, rfl⟩ (fun G35 hI35 => ?_)
  have hI36 := hI35.skip rfl
  have hI37 := hI36.skip rfl
  refine s_aload_n dX12_init_241 rfl (Int.natCast_nonneg _) ?_
  refine s_sipush dX12_init_242 rfl (by decide) ?_
  refine r_mkI (k := 37) (L := 20000) hI37 hr1 hr2 rfl (Nat.le_of_ble_eq_true rfl) (Nat.le_of_ble_eq_true rfl) rfl dX12_init_245 dX12_init_247 m_565 rfl rfl hnm ⟨_, rfl⟩ (fun G38 hI38 => ?_)
  refine s_aload_n dX12_init_250 rfl (Int.natCast_nonneg _) ?_
  refine s_bipush dX12_init_251 rfl (by decide) ?_
  refine r_mkI (k := 38) (L := 6) hI38 hr1 hr2 rfl (Nat.le_of_ble_eq_true rfl) (Nat.le_of_ble_eq_true rfl) rfl dX12_init_253 dX12_init_255 m_457 rfl rfl hnm ⟨_, rfl⟩ (fun G39 hI39 => ?_)
  refine s_aload_n dX12_init_258 rfl (Int.natCast_nonneg _) ?_
  refine s_bipush dX12_init_259 rfl (by decide) ?_
  refine r_mkI (k := 39) (L := 6) hI39 hr1 hr2 rfl (Nat.le_of_ble_eq_true rfl) (Nat.le_of_ble_eq_true rfl) rfl dX12_init_261 dX12_init_263 m_458 rfl rfl hnm ⟨_, rfl⟩ (fun G40 hI40 => ?_)
  have hI41 := hI40.skip rfl
  have hI42 := hI41.skip rfl
  have hI43 := hI42.skip rfl
  refine s_aload_n dX12_init_266 rfl (Int.natCast_nonneg _) ?_
  refine s_ldc dX12_init_267 (v := 60000) m_392 (by decide) rfl ?_
  refine r_mkI (k := 43) (L := 60000) hI43 hr1 hr2 rfl (Nat.le_of_ble_eq_true rfl) (Nat.le_of_ble_eq_true rfl) rfl dX12_init_269 dX12_init_271 m_459 rfl rfl hnm ⟨_, rfl⟩ (fun G44 hI44 => ?_)
  refine s_aload_n dX12_init_274 rfl (Int.natCast_nonneg _) ?_
  refine s_ldc dX12_init_275 (v := 60000) m_392 (by decide) rfl ?_
  refine r_mkI (k := 44) (L := 60000) hI44 hr1 hr2 rfl (Nat.le_of_ble_eq_true rfl) (Nat.le_of_ble_eq_true rfl) rfl dX12_init_277 dX12_init_279 m_460 rfl rfl hnm ⟨_, rfl⟩ (fun G45 hI45 => ?_)
  refine s_aload_n dX12_init_282 rfl (Int.natCast_nonneg _) ?_
  refine s_ldc dX12_init_283 (v := 60000) m_392 (by decide) rfl ?_
  refine r_mkI (k := 45) (L := 60000) hI45 hr1 hr2 rfl (Nat.le_of_ble_eq_true rfl) (Nat.le_of_ble_eq_true rfl) rfl dX12_init_285 dX12_init_287 m_461 rfl rfl hnm ⟨_, rfl⟩ (fun G46 hI46 => ?_)
  refine s_aload_n dX12_init_290 rfl (Int.natCast_nonneg _) ?_
  refine s_ldc dX12_init_291 (v := 60000) m_392 (by decide) rfl ?_
  refine r_mkI (k := 46) (L := 60000) hI46 hr1 hr2 rfl (Nat.le_of_ble_eq_true rfl) (Nat.le_of_ble_eq_true rfl) rfl dX12_init_293 dX12_init_295 m_462 rfl rfl hnm ⟨_, rfl⟩ (fun G47 hI47 => ?_)
  refine s_aload_n dX12_init_298 rfl (Int.natCast_nonneg _) ?_
  refine s_ldc dX12_init_299 (v := 60000) m_392 (by decide) rfl ?_
  refine r_mkI (k := 47) (L := 60000) hI47 hr1 hr2 rfl (Nat.le_of_ble_eq_true rfl) (Nat.le_of_ble_eq_true rfl) rfl dX12_init_301 dX12_init_303 m_463 rfl rfl hnm ⟨_, rfl⟩ (fun G48 hI48 => ?_)
  refine s_aload_n dX12_init_306 rfl (Int.natCast_nonneg _) ?_
  refine s_sipush dX12_init_307 rfl (by decide) ?_
  refine r_mkI (k := 48) (L := 4096) hI48 hr1 hr2 rfl (Nat.le_of_ble_eq_true rfl) (Nat.le_of_ble_eq_true rfl) rfl dX12_init_310 dX12_init_312 m_464 rfl rfl hnm ⟨_, rfl⟩ (fun G49 hI49 => ?_)
  refine s_aload_n dX12_init_315 rfl (Int.natCast_nonneg _) ?_
  refine s_sipush dX12_init_316 rfl (by decide) ?_
  refine r_mkI (k := 49) (L := 258) hI49 hr1 hr2 rfl (Nat.le_of_ble_eq_true rfl) (Nat.le_of_ble_eq_true rfl) rfl dX12_init_319 dX12_init_321 m_465 rfl rfl hnm ⟨_, rfl⟩ (fun G50 hI50 => ?_)
  refine s_aload_n dX12_init_324 rfl (Int.natCast_nonneg _) ?_
  refine s_sipush dX12_init_325 rfl (by decide) ?_
  refine r_mkI (k := 50) (L := 430) hI50 hr1 hr2 rfl (Nat.le_of_ble_eq_true rfl) (Nat.le_of_ble_eq_true rfl) rfl dX12_init_328 dX12_init_330 m_467 rfl rfl hnm ⟨_, rfl⟩ (fun G51 hI51 => ?_)
  refine s_aload_n dX12_init_333 rfl (Int.natCast_nonneg _) ?_
  refine s_sipush dX12_init_334 rfl (by decide) ?_
  refine r_mkI (k := 51) (L := 430) hI51 hr1 hr2 rfl (Nat.le_of_ble_eq_true rfl) (Nat.le_of_ble_eq_true rfl) rfl dX12_init_337 dX12_init_339 m_468 rfl rfl hnm ⟨_, rfl⟩ (fun G52 hI52 => ?_)
  refine s_aload_n dX12_init_342 rfl (Int.natCast_nonneg _) ?_
  refine s_sipush dX12_init_343 rfl (by decide) ?_
  refine r_mkI (k := 52) (L := 430) hI52 hr1 hr2 rfl (Nat.le_of_ble_eq_true rfl) (Nat.le_of_ble_eq_true rfl) rfl dX12_init_346 dX12_init_348 m_469 rfl rfl hnm ⟨_, rfl⟩ (fun G53 hI53 => ?_)
  refine s_aload_n dX12_init_351 rfl (Int.natCast_nonneg _) ?_
  refine s_bipush dX12_init_352 rfl (by decide) ?_
  refine r_mkI (k := 53) (L := 40) hI53 hr1 hr2 rfl (Nat.le_of_ble_eq_true rfl) (Nat.le_of_ble_eq_true rfl) rfl dX12_init_354 dX12_init_356 m_470 rfl rfl hnm ⟨_, rfl⟩ (fun G54 hI54 => ?_)
  refine s_aload_n dX12_init_359 rfl (Int.natCast_nonneg _) ?_
  refine s_bipush dX12_init_360 rfl (by decide) ?_
  refine r_mkI (k := 54) (L := 40) hI54 hr1 hr2 rfl (Nat.le_of_ble_eq_true rfl) (Nat.le_of_ble_eq_true rfl) rfl dX12_init_362 dX12_init_364 m_471 rfl rfl hnm ⟨_, rfl⟩ (fun G55 hI55 => ?_)
  refine s_aload_n dX12_init_367 rfl (Int.natCast_nonneg _) ?_
  refine s_bipush dX12_init_368 rfl (by decide) ?_
  refine r_mkI (k := 55) (L := 60) hI55 hr1 hr2 rfl (Nat.le_of_ble_eq_true rfl) (Nat.le_of_ble_eq_true rfl) rfl dX12_init_370 dX12_init_372 m_472 rfl rfl hnm ⟨_, rfl⟩ (fun G56 hI56 => ?_)
  refine s_aload_n dX12_init_375 rfl (Int.natCast_nonneg _) ?_
  refine s_bipush dX12_init_376 rfl (by decide) ?_
  refine r_mkI (k := 56) (L := 6) hI56 hr1 hr2 rfl (Nat.le_of_ble_eq_true rfl) (Nat.le_of_ble_eq_true rfl) rfl dX12_init_378 dX12_init_380 m_473 rfl rfl hnm ⟨_, rfl⟩ (fun G57 hI57 => ?_)
  refine s_aload_n dX12_init_383 rfl (Int.natCast_nonneg _) ?_
  refine s_bipush dX12_init_384 rfl (by decide) ?_
  refine r_mkI (k := 57) (L := 6) hI57 hr1 hr2 rfl (Nat.le_of_ble_eq_true rfl) (Nat.le_of_ble_eq_true rfl) rfl dX12_init_386 dX12_init_388 m_474 rfl rfl hnm ⟨_, rfl⟩ (fun G58 hI58 => ?_)
  refine s_aload_n dX12_init_391 rfl (Int.natCast_nonneg _) ?_
  refine s_bipush dX12_init_392 rfl (by decide) ?_
  refine r_mkI (k := 58) (L := 6) hI58 hr1 hr2 rfl (Nat.le_of_ble_eq_true rfl) (Nat.le_of_ble_eq_true rfl) rfl dX12_init_394 dX12_init_396 m_475 rfl rfl hnm ⟨_, rfl⟩ (fun G59 hI59 => ?_)
  refine s_aload_n dX12_init_399 rfl (Int.natCast_nonneg _) ?_
  refine s_bipush dX12_init_400 rfl (by decide) ?_
  refine r_mkI (k := 59) (L := 6) hI59 hr1 hr2 rfl (Nat.le_of_ble_eq_true rfl) (Nat.le_of_ble_eq_true rfl) rfl dX12_init_402 dX12_init_404 m_476 rfl rfl hnm ⟨_, rfl⟩ (fun G60 hI60 => ?_)
  refine s_aload_n dX12_init_407 rfl (Int.natCast_nonneg _) ?_
  refine s_sipush dX12_init_408 rfl (by decide) ?_
  refine r_mkI (k := 60) (L := 200) hI60 hr1 hr2 rfl (Nat.le_of_ble_eq_true rfl) (Nat.le_of_ble_eq_true rfl) rfl dX12_init_411 dX12_init_413 m_478 rfl rfl hnm ⟨_, rfl⟩ (fun G61 hI61 => ?_)
  refine s_aload_n dX12_init_416 rfl (Int.natCast_nonneg _) ?_
  refine s_sipush dX12_init_417 rfl (by decide) ?_
  refine r_mkI (k := 61) (L := 200) hI61 hr1 hr2 rfl (Nat.le_of_ble_eq_true rfl) (Nat.le_of_ble_eq_true rfl) rfl dX12_init_420 dX12_init_422 m_479 rfl rfl hnm ⟨_, rfl⟩ (fun G62 hI62 => ?_)
  refine s_aload_n dX12_init_425 rfl (Int.natCast_nonneg _) ?_
  refine s_sipush dX12_init_426 rfl (by decide) ?_
  refine r_mkI (k := 62) (L := 200) hI62 hr1 hr2 rfl (Nat.le_of_ble_eq_true rfl) (Nat.le_of_ble_eq_true rfl) rfl dX12_init_429 dX12_init_431 m_480 rfl rfl hnm ⟨_, rfl⟩ (fun G63 hI63 => ?_)
  have hI64 := hI63.skip rfl
  refine s_aload_n dX12_init_434 rfl (Int.natCast_nonneg _) ?_
  refine s_bipush dX12_init_435 rfl (by decide) ?_
  refine r_mkI (k := 64) (L := 24) hI64 hr1 hr2 rfl (Nat.le_of_ble_eq_true rfl) (Nat.le_of_ble_eq_true rfl) rfl dX12_init_437 dX12_init_439 m_481 rfl rfl hnm ⟨_, rfl⟩ (fun G65 hI65 => ?_)
  refine s_aload_n dX12_init_442 rfl (Int.natCast_nonneg _) ?_
  refine s_sipush dX12_init_443 rfl (by decide) ?_
  refine r_mkI (k := 65) (L := 240) hI65 hr1 hr2 rfl (Nat.le_of_ble_eq_true rfl) (Nat.le_of_ble_eq_true rfl) rfl dX12_init_446 dX12_init_448 m_482 rfl rfl hnm ⟨_, rfl⟩ (fun G66 hI66 => ?_)
  refine s_aload_n dX12_init_451 rfl (Int.natCast_nonneg _) ?_
  refine s_sipush dX12_init_452 rfl (by decide) ?_
  refine r_mkI (k := 66) (L := 240) hI66 hr1 hr2 rfl (Nat.le_of_ble_eq_true rfl) (Nat.le_of_ble_eq_true rfl) rfl dX12_init_455 dX12_init_457 m_483 rfl rfl hnm ⟨_, rfl⟩ (fun G67 hI67 => ?_)
  have hI68 := hI67.skip rfl
  refine s_aload_n dX12_init_460 rfl (Int.natCast_nonneg _) ?_
  refine s_sipush dX12_init_461 rfl (by decide) ?_
  refine r_mkI (k := 68) (L := 240) hI68 hr1 hr2 rfl (Nat.le_of_ble_eq_true rfl) (Nat.le_of_ble_eq_true rfl) rfl dX12_init_464 dX12_init_466 m_484 rfl rfl hnm ⟨_, rfl⟩ (fun G69 hI69 => ?_)
  have hI70 := hI69.skip rfl
  refine s_aload_n dX12_init_469 rfl (Int.natCast_nonneg _) ?_
  refine s_sipush dX12_init_470 rfl (by decide) ?_
  refine r_mkI (k := 70) (L := 500) hI70 hr1 hr2 rfl (Nat.le_of_ble_eq_true rfl) (Nat.le_of_ble_eq_true rfl) rfl dX12_init_473 dX12_init_475 m_485 rfl rfl hnm ⟨_, rfl⟩ (fun G71 hI71 => ?_)
  refine s_aload_n dX12_init_478 rfl (Int.natCast_nonneg _) ?_
  refine s_bipush dX12_init_479 rfl (by decide) ?_
  refine r_mkI (k := 71) (L := 40) hI71 hr1 hr2 rfl (Nat.le_of_ble_eq_true rfl) (Nat.le_of_ble_eq_true rfl) rfl dX12_init_481 dX12_init_483 m_486 rfl rfl hnm ⟨_, rfl⟩ (fun G72 hI72 => ?_)
  refine s_aload_n dX12_init_486 rfl (Int.natCast_nonneg _) ?_
  refine s_bipush dX12_init_487 rfl (by decide) ?_
  refine r_mkI (k := 72) (L := 40) hI72 hr1 hr2 rfl (Nat.le_of_ble_eq_true rfl) (Nat.le_of_ble_eq_true rfl) rfl dX12_init_489 dX12_init_491 m_487 rfl rfl hnm ⟨_, rfl⟩ (fun G73 hI73 => ?_)
  have hI74 := hI73.skip rfl
  refine s_aload_n dX12_init_494 rfl (Int.natCast_nonneg _) ?_
  refine s_sipush dX12_init_495 rfl (by decide) ?_
  refine r_mkI (k := 74) (L := 200) hI74 hr1 hr2 rfl (Nat.le_of_ble_eq_true rfl) (Nat.le_of_ble_eq_true rfl) rfl dX12_init_498 dX12_init_500 m_489 rfl rfl hnm ⟨_, rfl⟩ (fun G75 hI75 => ?_)
  refine s_aload_n dX12_init_503 rfl (Int.natCast_nonneg _) ?_
  refine s_sipush dX12_init_504 rfl (by decide) ?_
  refine r_mkI (k := 75) (L := 200) hI75 hr1 hr2 rfl (Nat.le_of_ble_eq_true rfl) (Nat.le_of_ble_eq_true rfl) rfl dX12_init_507 dX12_init_509 m_490 rfl rfl hnm ⟨_, rfl⟩ (fun G76 hI76 => ?_)
  refine s_aload_n dX12_init_512 rfl (Int.natCast_nonneg _) ?_
  refine s_sipush dX12_init_513 rfl (by decide) ?_
  refine r_mkI (k := 76) (L := 240) hI76 hr1 hr2 rfl (Nat.le_of_ble_eq_true rfl) (Nat.le_of_ble_eq_true rfl) rfl dX12_init_516 dX12_init_518 m_491 rfl rfl hnm ⟨_, rfl⟩ (fun G77 hI77 => ?_)
  refine s_aload_n dX12_init_521 rfl (Int.natCast_nonneg _) ?_
  refine s_sipush dX12_init_522 rfl (by decide) ?_
  refine r_mkI (k := 77) (L := 240) hI77 hr1 hr2 rfl (Nat.le_of_ble_eq_true rfl) (Nat.le_of_ble_eq_true rfl) rfl dX12_init_525 dX12_init_527 m_492 rfl rfl hnm ⟨_, rfl⟩ (fun G78 hI78 => ?_)
  refine s_aload_n dX12_init_530 rfl (Int.natCast_nonneg _) ?_
  refine s_sipush dX12_init_531 rfl (by decide) ?_
  refine r_mkZ (k := 78) (L := 240) hI78 hr1 hr2 rfl (Nat.le_of_ble_eq_true rfl) (Nat.le_of_ble_eq_true rfl) rfl dX12_init_534 dX12_init_536 m_493 rfl rfl hnm ⟨_, rfl⟩ (fun G79 hI79 => ?_)
  have hI80 := hI79.skip rfl
  refine s_aload_n dX12_init_539 rfl (Int.natCast_nonneg _) ?_
  refine s_sipush dX12_init_540 rfl (by decide) ?_
  refine r_mkI (k := 80) (L := 4000) hI80 hr1 hr2 rfl (Nat.le_of_ble_eq_true rfl) (Nat.le_of_ble_eq_true rfl) rfl dX12_init_543 dX12_init_545 m_494 rfl rfl hnm ⟨_, rfl⟩ (fun G81 hI81 => ?_)
  refine s_aload_n dX12_init_548 rfl (Int.natCast_nonneg _) ?_
  refine s_sipush dX12_init_549 rfl (by decide) ?_
  refine r_mkI (k := 81) (L := 4000) hI81 hr1 hr2 rfl (Nat.le_of_ble_eq_true rfl) (Nat.le_of_ble_eq_true rfl) rfl dX12_init_552 dX12_init_554 m_495 rfl rfl hnm ⟨_, rfl⟩ (fun G82 hI82 => ?_)
  refine s_aload_n dX12_init_557 rfl (Int.natCast_nonneg _) ?_
  refine s_sipush dX12_init_558 rfl (by decide) ?_
  refine r_mkI (k := 82) (L := 4000) hI82 hr1 hr2 rfl (Nat.le_of_ble_eq_true rfl) (Nat.le_of_ble_eq_true rfl) rfl dX12_init_561 dX12_init_563 m_496 rfl rfl hnm ⟨_, rfl⟩ (fun G83 hI83 => ?_)
  refine s_aload_n dX12_init_566 rfl (Int.natCast_nonneg _) ?_
  refine s_sipush dX12_init_567 rfl (by decide) ?_
  refine r_mkL (k := 83) (L := 4000) hI83 hr1 hr2 rfl (Nat.le_of_ble_eq_true rfl) (Nat.le_of_ble_eq_true rfl) rfl dX12_init_570 dX12_init_572 m_497 rfl rfl hnm ⟨_, rfl⟩ (fun G84 hI84 => ?_)
  have hI85 := hI84.skip rfl
  refine s_aload_n dX12_init_575 rfl (Int.natCast_nonneg _) ?_
  refine s_sipush dX12_init_576 rfl (by decide) ?_
  refine r_mkI (k := 85) (L := 4000) hI85 hr1 hr2 rfl (Nat.le_of_ble_eq_true rfl) (Nat.le_of_ble_eq_true rfl) rfl dX12_init_579 dX12_init_581 m_498 rfl rfl hnm ⟨_, rfl⟩ (fun G86 hI86 => ?_)
  refine s_aload_n dX12_init_584 rfl (Int.natCast_nonneg _) ?_
  refine s_sipush dX12_init_585 rfl (by decide) ?_
  refine r_mkI (k := 86) (L := 4000) hI86 hr1 hr2 rfl (Nat.le_of_ble_eq_true rfl) (Nat.le_of_ble_eq_true rfl) rfl dX12_init_588 dX12_init_590 m_500 rfl rfl hnm ⟨_, rfl⟩ (fun G87 hI87 => ?_)
  refine s_aload_n dX12_init_593 rfl (Int.natCast_nonneg _) ?_
  refine s_sipush dX12_init_594 rfl (by decide) ?_
  refine r_mkI (k := 87) (L := 4000) hI87 hr1 hr2 rfl (Nat.le_of_ble_eq_true rfl) (Nat.le_of_ble_eq_true rfl) rfl dX12_init_597 dX12_init_599 m_501 rfl rfl hnm ⟨_, rfl⟩ (fun G88 hI88 => ?_)
  have hI89 := hI88.skip rfl
  refine s_aload_n dX12_init_602 rfl (Int.natCast_nonneg _) ?_
  refine s_sipush dX12_init_603 rfl (by decide) ?_
  refine r_mkI (k := 89) (L := 4000) hI89 hr1 hr2 rfl (Nat.le_of_ble_eq_true rfl) (Nat.le_of_ble_eq_true rfl) rfl dX12_init_606 dX12_init_608 m_502 rfl rfl hnm ⟨_, rfl⟩ (fun G90 hI90 => ?_)
  have hI91 := hI90.skip rfl
  refine s_aload_n dX12_init_611 rfl (Int.natCast_nonneg _) ?_
  refine s_sipush dX12_init_612 rfl (by decide) ?_
  refine r_mkI (k := 91) (L := 240) hI91 hr1 hr2 rfl (Nat.le_of_ble_eq_true rfl) (Nat.le_of_ble_eq_true rfl) rfl dX12_init_615 dX12_init_617 m_503 rfl rfl hnm ⟨_, rfl⟩ (fun G92 hI92 => ?_)
  have hI93 := hI92.skip rfl
  refine s_aload_n dX12_init_620 rfl (Int.natCast_nonneg _) ?_
  refine s_bipush dX12_init_621 rfl (by decide) ?_
  refine r_mkI (k := 93) (L := 10) hI93 hr1 hr2 rfl (Nat.le_of_ble_eq_true rfl) (Nat.le_of_ble_eq_true rfl) rfl dX12_init_623 dX12_init_625 m_504 rfl rfl hnm ⟨_, rfl⟩ (fun G94 hI94 => ?_)
  refine s_aload_n dX12_init_628 rfl (Int.natCast_nonneg _) ?_
  refine s_sipush dX12_init_629 rfl (by decide) ?_
  refine r_mkI (k := 94) (L := 4000) hI94 hr1 hr2 rfl (Nat.le_of_ble_eq_true rfl) (Nat.le_of_ble_eq_true rfl) rfl dX12_init_632 dX12_init_634 m_505 rfl rfl hnm ⟨_, rfl⟩ (fun G95 hI95 => ?_)
  refine s_aload_n dX12_init_637 rfl (Int.natCast_nonneg _) ?_
  refine s_sipush dX12_init_638 rfl (by decide) ?_
  refine r_mkI (k := 95) (L := 4000) hI95 hr1 hr2 rfl (Nat.le_of_ble_eq_true rfl) (Nat.le_of_ble_eq_true rfl) rfl dX12_init_641 dX12_init_643 m_506 rfl rfl hnm ⟨_, rfl⟩ (fun G96 hI96 => ?_)
  refine s_aload_n dX12_init_646 rfl (Int.natCast_nonneg _) ?_
  refine s_sipush dX12_init_647 rfl (by decide) ?_
  refine r_mkI (k := 96) (L := 4000) hI96 hr1 hr2 rfl (Nat.le_of_ble_eq_true rfl) (Nat.le_of_ble_eq_true rfl) rfl dX12_init_650 dX12_init_652 m_507 rfl rfl hnm ⟨_, rfl⟩ (fun G97 hI97 => ?_)
  refine s_aload_n dX12_init_655 rfl (Int.natCast_nonneg _) ?_
  refine s_sipush dX12_init_656 rfl (by decide) ?_
  refine r_mkL (k := 97) (L := 4000) hI97 hr1 hr2 rfl (Nat.le_of_ble_eq_true rfl) (Nat.le_of_ble_eq_true rfl) rfl dX12_init_659 dX12_init_661 m_508 rfl rfl hnm ⟨_, rfl⟩ (fun G98 hI98 => ?_)
  have hI99 := hI98.skip rfl
  refine s_aload_n dX12_init_664 rfl (Int.natCast_nonneg _) ?_
  refine s_sipush dX12_init_665 rfl (by decide) ?_
  refine r_mkI (k := 99) (L := 240) hI99 hr1 hr2 rfl (Nat.le_of_ble_eq_true rfl) (Nat.le_of_ble_eq_true rfl) rfl dX12_init_668 dX12_init_670 m_509 rfl rfl hnm ⟨_, rfl⟩ (fun G100 hI100 => ?_)
  have hI101 := hI100.skip rfl
  have hI102 := hI101.skip rfl
  have hI103 := hI102.skip rfl
  refine s_aload_n dX12_init_673 rfl (Int.natCast_nonneg _) ?_
  refine s_sipush dX12_init_674 rfl (by decide) ?_
  refine r_mkI (k := 103) (L := 11000) hI103 hr1 hr2 rfl (Nat.le_of_ble_eq_true rfl) (Nat.le_of_ble_eq_true rfl) rfl dX12_init_677 dX12_init_679 m_511 rfl rfl hnm ⟨_, rfl⟩ (fun G104 hI104 => ?_)
  refine s_aload_n dX12_init_682 rfl (Int.natCast_nonneg _) ?_
  refine s_ldc dX12_init_683 (v := 396000) m_393 (by decide) rfl ?_
  refine r_mkI (k := 104) (L := 396000) hI104 hr1 hr2 rfl (Nat.le_of_ble_eq_true rfl) (Nat.le_of_ble_eq_true rfl) rfl dX12_init_685 dX12_init_687 m_512 rfl rfl hnm ⟨_, rfl⟩ (fun G105 hI105 => ?_)
  refine s_aload_n dX12_init_690 rfl (Int.natCast_nonneg _) ?_
  refine s_bipush dX12_init_691 rfl (by decide) ?_
  refine r_mkI (k := 105) (L := 40) hI105 hr1 hr2 rfl (Nat.le_of_ble_eq_true rfl) (Nat.le_of_ble_eq_true rfl) rfl dX12_init_693 dX12_init_695 m_513 rfl rfl hnm ⟨_, rfl⟩ (fun G106 hI106 => ?_)
  refine s_aload_n dX12_init_698 rfl (Int.natCast_nonneg _) ?_
  refine s_ldc_w dX12_init_699 (v := 136000) m_394 (by decide) rfl ?_
  refine r_mkI (k := 106) (L := 136000) hI106 hr1 hr2 rfl (Nat.le_of_ble_eq_true rfl) (Nat.le_of_ble_eq_true rfl) rfl dX12_init_702 dX12_init_704 m_514 rfl rfl hnm ⟨_, rfl⟩ (fun G107 hI107 => ?_)
  refine s_aload_n dX12_init_707 rfl (Int.natCast_nonneg _) ?_
  refine s_bipush dX12_init_708 rfl (by decide) ?_
  refine r_mkI (k := 107) (L := 40) hI107 hr1 hr2 rfl (Nat.le_of_ble_eq_true rfl) (Nat.le_of_ble_eq_true rfl) rfl dX12_init_710 dX12_init_712 m_515 rfl rfl hnm ⟨_, rfl⟩ (fun G108 hI108 => ?_)
  refine s_aload_n dX12_init_715 rfl (Int.natCast_nonneg _) ?_
  refine s_bipush dX12_init_716 rfl (by decide) ?_
  refine r_mkI (k := 108) (L := 40) hI108 hr1 hr2 rfl (Nat.le_of_ble_eq_true rfl) (Nat.le_of_ble_eq_true rfl) rfl dX12_init_718 dX12_init_720 m_516 rfl rfl hnm ⟨_, rfl⟩ (fun G109 hI109 => ?_)
  have hM1 := hI109.mg
  exact init_loops hcf hR hr2 hI109 hQ
