/-! THE CLASS: what is noted in nodes -/
theorem RLC.node {a b : Nat} {G : LG} {x j : Nat} {v : Int} (h : RLC a b G) (hx : cde x = 100) (hj : 10 ≤ j) : RLC a b (gset G x j v) := by
  have ha := h.2.2.2.2.2.2.2.2.2
  obtain ⟨h1, h2, h3, h4, h5, h6, h8, h9, hd, -⟩ := h
  have hS : ∀ z, (cde z != 100) = true → gS (gset G x j v) z = gS G z := fun z hz => by
    rw [bne_iff_ne] at hz
    funext y; exact gset_ne _ _ (fun q => hz (by rw [q.1]; exact hx))
  have s2 := hS 327683 (by decide)
  have s3 := hS 327684 (by decide)
  have s4 := hS 327685 (by decide)
  have s5 := hS 327681 (by decide)
  have s6 := hS 327688 (by decide)
  have s7 := hS 327701 (by decide)
  have s8 := hS 327702 (by decide)
  have s9 := hS 327703 (by decide)
  have s10 := hS 327704 (by decide)
  have s11 := hS 327705 (by decide)
  have s12 := hS 327707 (by decide)
  have s13 := hS 327710 (by decide)
  refine ⟨fun z hz hz2 => ?_, ?_, ?_, ?_, fun k hk => ?_, ?_, ⟨fun j2 k hj2 hk => ?_, ?_⟩, fun i hi => ?_, ?_, ?_⟩
  · have e := hS z (by rcases hz2 with q | q <;> rw [q] <;> rfl)
    rw [e]; exact h1 z hz hz2
  · obtain ⟨q, L, a1, a2, a3⟩ := h2
    have sq := hS q (by rw [a2]; rfl)
    refine ⟨q, L, ?_⟩
    rw [s2, s6, sq]; exact ⟨a1, a2, a3⟩
  · obtain ⟨q, L, a1⟩ := h3
    refine ⟨q, L, ?_⟩
    rw [s3]; exact a1
  · obtain ⟨q, L, a1, a2, a3, a4, a5⟩ := h4
    refine ⟨q, L, ?_⟩
    rw [s4]
    refine ⟨a1, a2, a3, a4, fun j hj => ?_⟩
    rcases a2 with a2 | a2
    · rw [hS q (by rw [a2]; rfl)]; exact a5 j hj
    · omega
  · obtain ⟨q0, q1, q2, q3, L0, L1, L2, L3, B, a1, a2, a3⟩ := h5 k hk
    have sk := hS k (by rcases hk with rfl | rfl <;> decide)
    have sA := hS (k - 13) (by rcases hk with rfl | rfl <;> decide)
    have sB := hS (k - 5) (by rcases hk with rfl | rfl <;> decide)
    have t0 := hS q0 (by rw [a2.1]; rfl)
    have t1 := hS q1 (by rw [a2.2.1]; rfl)
    refine ⟨q0, q1, q2, q3, L0, L1, L2, L3, B, ?_⟩
    rw [sk, t0, t1, sA, sB]; exact ⟨a1, a2, a3⟩
  · unfold E6
    rw [s5, s7, s8, s9, s10, s11, s12]; exact h6
  · rw [hS (131072 + 64 * j2 + 2) (by rw [cde_v (by omega) (by omega), show (131072 + 64 * j2 + 2) % 64 = 2 by omega]; rfl), hS (131072 + 64 * j2 + 3) (by rw [cde_v (by omega) (by omega), show (131072 + 64 * j2 + 3) % 64 = 3 by omega]; rfl), s5]
    exact h8.1 j2 k hj2 hk
  · rw [s5, hS 327697 (by decide)]; exact h8.2
  · have hi0 : (i : Int) < gS G 327685 2 := by rw [s4] at hi; exact hi
    obtain ⟨pa, a1, a2, a3⟩ := h9 i hi0
    have f : ∀ y, y < 10 → gS (gset G x j v) (65536 + 64 * i) y = gS G (65536 + 64 * i) y := fun y hy => gset_ne _ _ (fun q => by omega)
    have sp := hS pa (by rw [a2]; rfl)
    refine ⟨pa, ?_⟩
    rw [f 1 (by decide), f 2 (by decide), f 3 (by decide), f 4 (by decide), sp, s5, s13]; exact ⟨a1, a2, a3⟩
  · unfold DD
    rw [s4]; exact hd
  · have e := Sm_same (G := G) (G' := gset G x j v) rfl (fun m hm => gset_ne _ _ (fun e => by
      have h7 := HL_sh m hm
      have h6 : cde m.1 = 100 := by rw [e.1]; exact hx
      unfold SH at h7
      rcases h7 with ⟨z1, ⟨z2, z3, z4⟩ | z2 | z2 | ⟨z2, z3⟩⟩
      · have := cde_n (x := m.1) (by omega) (by omega); omega
      · rw [z2.1] at h6; exact absurd h6 (by decide)
      · rw [z2.1] at h6; exact absurd h6 (by decide)
      · rcases z2 with z2 | z2 <;> (rw [z2] at h6; exact absurd h6 (by decide))))
    exact ⟨by rw [e]; exact ha.1, by rw [e]; exact ha.2⟩
theorem CI.node {a b : Nat} {G : LG} {x j : Nat} {v : Int} (h : CI a b G) (hx : cde x = 100) (hj : 10 ≤ j) (hv : tv 100 (x % 1048576) j v) : CI a b (gset G x j v) := ⟨h.1.set (by rw [hx]; exact hv), h.2.node hx hj⟩
theorem npt_le (k : Int) : npt k ≤ 3 := by unfold npt; (repeat' split) <;> omega
/-- of nodes just what is noted has changed -/
def NoC (G G' : LG) : Prop := ∀ m : Nat, (m : Int) < nN G → ∀ j, j < 10 → gS G' (65536 + 64 * m) j = gS G (65536 + 64 * m) j
theorem NoC.rf {G : LG} : NoC G G := fun _ _ _ _ => rfl
theorem NoC.trans {G G1 G2 : LG} (h : NoC G G1) (k : NoC G1 G2) (e : nN G1 = nN G) : NoC G G2 := fun m hm j hj => (k m (by rw [e]; exact hm) j hj).trans (h m hm j hj)
theorem NoC.set {G G' : LG} {x j : Nat} {v : Int} (e : G' = gset G x j v) (hj : 10 ≤ j) : NoC G G' := fun m _ y hy => by rw [e]; exact gset_ne _ _ (fun q => by omega)
theorem NoC.wx {a b : Nat} {S : Nat → Prop} {G G' : LG} (hC : CI a b G) (wx : WX S G G') (hO : ∀ n : Nat, n < 40 → ¬ S (65536 + 64 * n)) : NoC G G' := fun m hm j _ => by
  obtain ⟨h1, h2, -⟩ := hC.nd (n := m) rfl hm
  rw [wx (65536 + 64 * m) (kne h2 (by decide)) (by rw [Nat.mod_eq_of_lt (by omega)]; exact hO m h1)]
/-- nothing of the table and of versions has changed, of nodes just what is noted -/
theorem ThC.nx {a b : Nat} {S : Nat → Prop} {G G' : LG} {Hs : List (Int → Int)} (h : ThC G Hs) (hC : CI a b G) (kx : KX G G') (wx : WX S G G') (hf : FNA G) (hS : ¬ S 327683 ∧ ¬ S 327687 ∧ ¬ S 327688 ∧ ¬ S 327685 ∧ ¬ S 327710 ∧ ¬ S 63) (hO : NoC G G') : ThC G' Hs ∧ TxC G G' := by
  obtain ⟨t1, t2, t3⟩ := TxC.wx hC kx wx (kne hf.k327685 (by decide)) (kne hf.k327683 (by decide)) (kne hf.k327710 (by decide)) ⟨hS.1, hS.2.1, hS.2.2.2.1, hS.2.2.2.2.1, hS.2.2.2.2.2⟩ (fun n hn j _ h6 => hO n hn j (by omega))
  exact ⟨h.tx t1 t2 t3 (fun p _ => by rw [wx 327688 (kne hf.k327688 (by decide)) hS.2.2.1]), t1⟩
/-- the node is wanted -/
abbrev nd13 (G : LG) (m : Nat) : Int := gS G (65536 + 64 * m) 13
abbrev nd11 (G : LG) (m : Nat) : Int := gS G (65536 + 64 * m) 11
/-- the parts of wanted nodes beyond i are wanted -/
def ClN (G0 G : LG) (i : Int) : Prop := ∀ m : Nat, i < (m : Int) → (m : Int) < nN G0 → ¬ nd13 G m = 0 → ∀ k, k < npt (nkC G0 m) → ¬ nd13 G (ptC G0 m k) = 0
/-- of nodes just whether they are wanted has changed -/
def NX13 (G G' : LG) : Prop := ∀ (m : Nat) (j : Nat), (m : Int) < nN G → j ≠ 13 → gS G' (65536 + 64 * m) j = gS G (65536 + 64 * m) j
theorem NX13.rf {G : LG} : NX13 G G := fun _ _ _ _ => rfl
theorem NX13.set {G0 G G' : LG} {x : Nat} {v : Int} (h : NX13 G0 G) (e : G' = gset G x 13 v) : NX13 G0 G' := fun m j hm hj => by
  rw [e, gset_ne _ _ (fun q => hj q.2)]; exact h m j hm hj
theorem NX13.no {G G' : LG} (h : NX13 G G') : NoC G G' := fun m hm j hj => h m j hm (by omega)
theorem ClN.set {G0 G G' : LG} {i : Int} {p : Nat} (h : ClN G0 G i) (e : G' = gset G (65536 + 64 * p) 13 1) (hp : (p : Int) ≤ i) : ClN G0 G' i := fun m hm hn h1 k hk => by
  have e1 : nd13 G' m = nd13 G m := by show gS G' _ _ = _; rw [e]; exact gset_ne _ _ (fun q => by omega)
  rw [e1] at h1
  have h2 := h m hm hn h1 k hk
  by_cases w : ptC G0 m k = p
  · show ¬ gS G' _ _ = 0
    rw [w, e, gset_at]; decide
  · have e2 : nd13 G' (ptC G0 m k) = nd13 G (ptC G0 m k) := by show gS G' _ _ = _; rw [e]; exact gset_ne _ _ (fun q => by omega)
    rw [e2]; exact h2
theorem ClN.next {G0 G : LG} {i : Int} (h : ClN G0 G i) (hi : ∀ m : Nat, (m : Int) = i → ¬ nd13 G m = 0 → ∀ k, k < npt (nkC G0 m) → ¬ nd13 G (ptC G0 m k) = 0) : ClN G0 G (i - 1) := fun m hm hn h1 k hk => by
  by_cases w : (m : Int) = i
  · exact hi m w h1 k hk
  · exact h m (by omega) hn h1 k hk
/-- what has been found of nodes (but one) is so -/
def FdE (G : LG) (v : Int → Int) (e : Int) (i : Int) : Prop := ∀ m : Nat, (m : Int) < nN G → ((gK G (65536 + 64 * m + 1 + 3)).1 ≠ 0 ∧ (gK G (65536 + 64 * m + 1 + 4)).1 ≠ 0) ∧ ((m : Int) ≠ i → nd11 G m = e → WhC G v m ∧ FPa (PnC G v m) G (65536 + 64 * m + 1))
def FdC (G : LG) : Prop := FdE G (curC G) (gS G 327681 17) (-1)
theorem FdE.out {G : LG} {v : Int → Int} {e i j : Int} (h : FdE G v e i) (hi : i < 0) : FdE G v e j := fun m hm => ⟨(h m hm).1, fun _ he => (h m hm).2 (by omega) he⟩
theorem FdE.in {G : LG} {v : Int → Int} {e i j : Int} (h : FdE G v e i) (hi : ∀ m : Nat, (m : Int) = i → nd11 G m = e → WhC G v m ∧ FPa (PnC G v m) G (65536 + 64 * m + 1)) : FdE G v e j := fun m hm => ⟨(h m hm).1, fun _ he => by
  by_cases w : (m : Int) = i
  · exact hi m w he
  · exact (h m hm).2 w he⟩
theorem FdE.wx {S : Nat → Prop} {G G' : LG} {v : Int → Int} {e i : Int} (h : FdE G v e i) (kx : KX G G') (wx : WX S G G') (tx : TxC G G') (hN : NdC G) (hO : ∀ m : Nat, (m : Int) < nN G → (m : Int) ≠ i → gS G' (65536 + 64 * m) 10 = gS G (65536 + 64 * m) 10 ∧ gS G' (65536 + 64 * m) 11 = gS G (65536 + 64 * m) 11) (hS : ∀ m : Nat, m < 40 → (m : Int) ≠ i → ∀ j, 3 ≤ j → j ≤ 22 → ¬ S (65536 + 64 * m + 1 + j)) : FdE G' v e i := fun m hm => by
  rw [tx.1.1] at hm
  have h40 := hN.1
  obtain ⟨⟨a3, a4⟩, h2⟩ := h m hm
  refine ⟨⟨kx.al a3, kx.al a4⟩, fun w he => ?_⟩
  obtain ⟨o1, o2⟩ := hO m hm w
  have he9 : nd11 G m = e := by rw [← he]; exact o2.symm
  obtain ⟨z1, z2⟩ := h2 w he9
  refine ⟨tx.wh hN hm z1 o1, (z2.wx kx wx ⟨a3, a4⟩ ?_ ?_ (fun p hp => ?_)).mono (fun x hx => tx.pn hN hm hx)⟩
  · rw [Nat.mod_eq_of_lt (by omega)]; exact hS m (by omega) w 3 (by omega) (by omega)
  · rw [Nat.mod_eq_of_lt (by omega)]; exact hS m (by omega) w 4 (by omega) (by omega)
  · have h9 := hS m (by omega) w (7 + p) (by omega) (by omega)
    rw [show 65536 + 64 * m + 1 + (7 + p) = 65536 + 64 * m + 1 + 7 + p by omega] at h9
    exact h9
