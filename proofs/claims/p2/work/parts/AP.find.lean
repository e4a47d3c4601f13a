/-! THE CLASS: what is found of nodes -/
theorem FPa.mono {P P' : Int → Prop} {G : LG} {o : Nat} (h : FPa P G o) (hP : ∀ x, P x → P' x) : FPa P' G o := fun p hp => (h p hp).mono hP
/-- the node's cell says what the node is -/
def WhC (G : LG) (v : Int → Int) (m : Nat) : Prop := idC G v m (gS G (65536 + 64 * m) 10)
/-- a part of a type, as the node may show it -/
def PnC (G : LG) (v : Int → Int) (m : Nat) (x : Int) : Prop := 8 ≤ x → stC G v m (x - 8)
theorem PnC.sm {G : LG} {v : Int → Int} {m : Nat} : SMP (PnC G v m) := fun x _ h1 h8 => absurd h8 (by omega)
theorem TxC.pn {G G' : LG} {v : Int → Int} {m : Nat} {x : Int} (tx : TxC G G') (hN : NdC G) (hm : (m : Int) < nN G) (h : PnC G v m x) : PnC G' v m x := fun h8 => (tx.ag hN).st hm (h h8)
theorem TxC.wh {G G' : LG} {v : Int → Int} {m : Nat} (tx : TxC G G') (hN : NdC G) (hm : (m : Int) < nN G) (h : WhC G v m) (e : gS G' (65536 + 64 * m) 10 = gS G (65536 + 64 * m) 10) : WhC G' v m := by
  unfold WhC; rw [e]; exact (tx.ag hN).id hm h
theorem stC.link0 {G : LG} {v : Int → Int} {n : Nat} {t : Int} (hk : nkC G n = 0) (h : stC G v (ptC G n 0) t) : stC G v n t := h.elim fun d hd => ⟨d + 1, Or.inl ⟨hk, Or.inl hd⟩⟩
theorem stC.link1 {G : LG} {v : Int → Int} {n : Nat} {t : Int} (hk : nkC G n = 0) (h : stC G v (ptC G n 1) t) : stC G v n t := h.elim fun d hd => ⟨d + 1, Or.inl ⟨hk, Or.inr hd⟩⟩
theorem stC.seal1 {G : LG} {v : Int → Int} {n : Nat} {t : Int} (hk : nkC G n = 1) (h : stC G v (ptC G n 1) t) : stC G v n t := h.elim fun d hd => ⟨d + 1, Or.inr (Or.inl ⟨hk, Or.inl hd⟩)⟩
theorem stC.sealS {G : LG} {v : Int → Int} {n : Nat} {t : Int} (hk : nkC G n = 1) (h : skC G v n t) : stC G v n t := ⟨1, Or.inr (Or.inl ⟨hk, Or.inr h⟩)⟩
theorem stC.app1 {G : LG} {v : Int → Int} {n : Nat} {t : Int} (hk : nkC G n = 2) (h : stC G v (ptC G n 1) t) : stC G v n t := h.elim fun d hd => ⟨d + 1, Or.inr (Or.inr (Or.inl ⟨hk, Or.inl hd⟩))⟩
theorem stC.appA {G : LG} {v : Int → Int} {n : Nat} {s t : Int} (hk : nkC G n = 2) (h : stC G v (ptC G n 0) s) (h2 : akC G v n s t) : stC G v n t := h.elim fun d hd => ⟨d + 1, Or.inr (Or.inr (Or.inl ⟨hk, Or.inr ⟨s, hd, h2⟩⟩))⟩
theorem stC.ch0 {G : LG} {v : Int → Int} {n : Nat} {t : Int} (hk : nkC G n = 3) (h : stC G v (ptC G n 0) t) : stC G v n t := h.elim fun d hd => ⟨d + 1, Or.inr (Or.inr (Or.inr (Or.inl ⟨hk, Or.inl hd⟩)))⟩
theorem stC.chS {G : LG} {v : Int → Int} {n : Nat} {t : Int} (hk : nkC G n = 3) (h : skC G v n t) : stC G v n t := ⟨1, Or.inr (Or.inr (Or.inr (Or.inl ⟨hk, Or.inr h⟩)))⟩
theorem stC.re0 {G : LG} {v : Int → Int} {n : Nat} {t : Int} (hk : nkC G n = 4 ∨ nkC G n = 5) (h : stC G v (ptC G n 0) t) : stC G v n t := h.elim fun d hd => ⟨d + 1, Or.inr (Or.inr (Or.inr (Or.inr ⟨hk, hd⟩)))⟩
/-- a node's cells and its parts -/
theorem CI.nd {a b : Nat} {G : LG} (hC : CI a b G) {n o : Nat} (ho : o = 65536 + 64 * n) (hn : (n : Int) < nN G) : n < 40 ∧ gK G o = (13, 0) ∧ ∃ pa : Nat, gS G o 2 = (pa : Int) ∧ pa % 1048576 = 63 ∧ cde pa = 63 ∧ gK G pa = (6, npt (gS G o 1)) ∧ (∀ k, k < npt (gS G o 1) → gS G pa k = ((65536 + 64 * ptC G n k : Nat) : Int) ∧ ptC G n k < n) ∧
    (gS G o 1 = 6 → (gS G o 3 ≤ 7 ∧ gS G o 3 < gS G 327681 15) ∧ gS G o 4 < gS G 327710 (gS G o 3).toNat ∧ 1 ≤ gS G 327710 (gS G o 3).toNat ∧ gS G 327710 (gS G o 3).toNat ≤ 5) ∧ (gS G o 1 = 4 → 0 ≤ gS G o 4) := by
  subst ho
  obtain ⟨pa, p1, p2, p3, p4, p5, p6, p7⟩ := hC.2.2.2.2.2.2.2.2.1 n hn
  have hp : pa % 1048576 = 63 := by
    unfold cde at p2
    (repeat' split at p2) <;> omega
  refine ⟨p3.1, p3.2, pa, p1, hp, p2, p4, fun k hk => ?_, p6, p7⟩
  obtain ⟨p, q1, q2⟩ := p5 k hk
  have e : ptC G n k = p := by
    unfold ptC
    rw [p1, Int.toNat_natCast, q2, Int.toNat_natCast]; omega
  rw [e]; exact ⟨q2, q1⟩
theorem sk_self {G G' : LG} {v : Int → Int} {n : Nat} {w k t : Int} (tx : TxC G G') (hN : NdC G) (hn : (n : Int) < nN G) (hs : slC G n) (hw : idC G v n w) (hk : 0 ≤ k ∧ k < 6) (h : keyC G' t 8 w k 0) : skC G' v n t := by
  obtain ⟨e1, e2, e3, e4, -⟩ := tx.1.2 n hn
  refine ⟨k, hk, Or.inl ⟨?_, w, (tx.ag hN).id hn hw, h⟩⟩
  unfold slC; rw [e1, e4]; exact hs
theorem sk_parts {G G' : LG} {v : Int → Int} {n : Nat} {x y k t : Int} (tx : TxC G G') (hN : NdC G) (hn : (n : Int) < nN G) (hs : ¬ slC G n) (h3 : nkC G n ≤ 3) (hx : idC G v (ptC G n 0) x) (hy : idC G v (ptC G n 1) y) (hk : 0 ≤ k ∧ k < 6) (h : keyC G' t 9 x y k) : skC G' v n t := by
  obtain ⟨e1, e2, e3, e4, -, e6⟩ := tx.1.2 n hn
  obtain ⟨-, -, b3, b4, -⟩ := hN.2 n hn
  have q0 := b3 (by omega)
  have q1 := b4 h3
  refine ⟨k, hk, Or.inr ⟨?_, x, y, ?_, ?_, h⟩⟩
  · unfold slC; rw [e1, e4]; exact hs
  · rw [e6 0 (npt_0 (by omega))]; exact (tx.ag hN).id (by omega) hx
  · rw [e6 1 (npt_1 h3)]; exact (tx.ag hN).id (by omega) hy
theorem mk_sk {G G' : LG} {v : Int → Int} {n : Nat} {t : Int} (tx : TxC G G') (hn : (n : Int) < nN G) (hk : nkC G n = 1 ∨ nkC G n = 3) (h : skC G' v n t) : ∃ m : Nat, (m : Int) < nN G' ∧ mkC G' v m t :=
  ⟨n, by rw [tx.1.1]; exact hn, Or.inr (Or.inl ⟨by rw [(tx.1.2 n hn).1]; exact hk, h⟩)⟩
theorem id_self {G G' : LG} {v : Int → Int} {n : Nat} {t : Int} (tx : TxC G G') (hn : (n : Int) < nN G) (hs : slC G n) (h : keyC G' t 7 n 0 0) : idC G' v n t := by
  obtain ⟨e1, e2, e3, e4, -⟩ := tx.1.2 n hn
  exact ⟨1, Or.inl ⟨by unfold slC; rw [e1, e4]; exact hs, h⟩⟩
theorem id_unit {G G' : LG} {v : Int → Int} {n : Nat} {t x y : Int} (tx : TxC G G') (hn : (n : Int) < nN G) (hs : ¬ slC G n) (hk : nkC G n = 6) (hx : x = nnC G n) (hy : y = vrC G v n) (h : keyC G' t 6 x y 0) : idC G' v n t := by
  obtain ⟨e1, e2, e3, e4, -⟩ := tx.1.2 n hn
  refine ⟨1, Or.inr (Or.inl ⟨by unfold slC; rw [e1, e4]; exact hs, e1.trans hk, ?_⟩)⟩
  have ev : vrC G' v n = vrC G v n := by unfold vrC; rw [e2, e3]
  rw [ev, e2, ← hx, ← hy]; exact h
theorem id_ren {G G' : LG} {v : Int → Int} {n : Nat} {t k x y z : Int} (tx : TxC G G') (hN : NdC G) (hn : (n : Int) < nN G) (hs : ¬ slC G n) (hk : nkC G n = 4 ∨ nkC G n = 5) (hx : idC G v (ptC G n 0) x) (hkk : k = nkC G n) (hy : y = nnC G n) (hz : z = ntC G n) (h : keyC G' t k x y z) : idC G' v n t := by
  obtain ⟨e1, e2, e3, e4, -, e6⟩ := tx.1.2 n hn
  obtain ⟨-, -, b3, b4, -⟩ := hN.2 n hn
  have q0 := b3 (by omega)
  obtain ⟨d, hd⟩ := (tx.ag hN).id (by omega) hx
  refine ⟨d + 1, Or.inr (Or.inr ⟨by unfold slC; rw [e1, e4]; exact hs, by rw [e1]; omega, x, ?_, Or.inl ⟨by rw [e1]; omega, ?_⟩⟩)⟩
  · rw [e6 0 (npt_0 (by omega))]; exact hd
  · rw [e1, e2, e3, ← hkk, ← hy, ← hz]; exact h
theorem idCF.up {G : LG} {v : Int → Int} : ∀ (d e n : Nat) (t : Int), d ≤ e → idCF G v d n t → idCF G v e n t := by
  intro d
  induction d with
  | zero => intro e n t _ h; exact h.elim
  | succ d ih =>
    intro e n t he h
    match e, he with
    | e + 1, he =>
      unfold idCF at h ⊢
      rcases h with h | h | ⟨h1, h2, a, h3, h4⟩
      · exact Or.inl h
      · exact Or.inr (Or.inl h)
      · refine Or.inr (Or.inr ⟨h1, h2, a, ih e _ _ (by omega) h3, ?_⟩)
        rcases h4 with h4 | ⟨h4, b, h5, h6⟩
        · exact Or.inl h4
        · exact Or.inr ⟨h4, b, ih e _ _ (by omega) h5, h6⟩
theorem id_parts {G G' : LG} {v : Int → Int} {n : Nat} {t k x y : Int} (tx : TxC G G') (hN : NdC G) (hn : (n : Int) < nN G) (hs : ¬ slC G n) (hk : nkC G n < 4) (hx : idC G v (ptC G n 0) x) (hy : idC G v (ptC G n 1) y) (hkk : k = nkC G n) (h : keyC G' t k x y 0) : idC G' v n t := by
  obtain ⟨e1, e2, e3, e4, -, e6⟩ := tx.1.2 n hn
  obtain ⟨-, -, b3, b4, -⟩ := hN.2 n hn
  have q0 := b3 (by omega)
  have q1 := b4 (by omega)
  obtain ⟨d, hd⟩ := (tx.ag hN).id (by omega) hx
  obtain ⟨e, he⟩ := (tx.ag hN).id (by omega) hy
  refine ⟨d + e + 1, Or.inr (Or.inr ⟨by unfold slC; rw [e1, e4]; exact hs, by rw [e1]; omega, x, ?_, Or.inr ⟨by rw [e1]; omega, y, ?_, ?_⟩⟩)⟩
  · rw [e6 0 (npt_0 (by omega))]; exact idCF.up d _ _ _ (by omega) hd
  · rw [e6 1 (npt_1 (by omega))]; exact idCF.up e _ _ _ (by omega) he
  · rw [e1, ← hkk]; exact h
theorem mk_id {G G' : LG} {v : Int → Int} {n : Nat} {t : Int} (tx : TxC G G') (hn : (n : Int) < nN G) (h : idC G' v n t) : ∃ m : Nat, (m : Int) < nN G' ∧ mkC G' v m t := ⟨n, by rw [tx.1.1]; exact hn, Or.inl h⟩
theorem ak_of {G G' : LG} {v : Int → Int} {n : Nat} {w s t : Int} (tx : TxC G G') (hN : NdC G) (hn : (n : Int) < nN G) (h3 : nkC G n ≤ 3) (hw : byC G v n w) (h : keyC G' t 10 w s 0) : akC G' v n s t := ⟨w, (tx.ag hN).by hn h3 hw, h⟩
theorem mk_ak {G G' : LG} {v : Int → Int} {n : Nat} {s t : Int} (tx : TxC G G') (hN : NdC G) (hn : (n : Int) < nN G) (h2 : nkC G n = 2) (hs : stC G v (ptC G n 0) s) (h : akC G' v n s t) : ∃ m : Nat, (m : Int) < nN G' ∧ mkC G' v m t := by
  obtain ⟨e1, -, -, -, -, e6⟩ := tx.1.2 n hn
  have q0 := (hN.2 n hn).2.2.1 (by omega)
  refine ⟨n, by rw [tx.1.1]; exact hn, Or.inr (Or.inr ⟨e1.trans h2, s, ?_, h⟩)⟩
  rw [e6 0 (npt_0 (by omega))]; exact (tx.ag hN).st (by omega) hs
/-- nothing of the table, of nodes and versions has changed -/
theorem ThC.wx {a b : Nat} {S : Nat → Prop} {G G' : LG} {Hs : List (Int → Int)} (h : ThC G Hs) (hC : CI a b G) (kx : KX G G') (wx : WX S G G') (hf : FNA G) (hS : ¬ S 327683 ∧ ¬ S 327687 ∧ ¬ S 327688 ∧ ¬ S 327685 ∧ ¬ S 327710 ∧ ¬ S 63) (hO : ∀ n : Nat, n < 40 → ¬ S (65536 + 64 * n)) : ThC G' Hs ∧ TxC G G' := by
  have h40 := h.2.2.2.1.1
  obtain ⟨t1, t2, t3⟩ := TxC.wx hC kx wx (kne hf.k327685 (by decide)) (kne hf.k327683 (by decide)) (kne hf.k327710 (by decide)) ⟨hS.1, hS.2.1, hS.2.2.2.1, hS.2.2.2.2.1, hS.2.2.2.2.2⟩ (fun n hn j _ _ => by
    have hk := (hC.nd (n := n) rfl hn).2.1
    rw [wx (65536 + 64 * n) (kne hk (by decide)) (by rw [Nat.mod_eq_of_lt (by omega)]; exact hO n (by omega))])
  exact ⟨h.tx t1 t2 t3 (fun p _ => by rw [wx 327688 (kne hf.k327688 (by decide)) hS.2.2.1]), t1⟩
theorem TxC.sl {G G' : LG} {n : Nat} (tx : TxC G G') (hn : (n : Int) < nN G) : slC G' n ↔ slC G n := by
  unfold slC; rw [(tx.1.2 n hn).1, (tx.1.2 n hn).2.2.2.1]
