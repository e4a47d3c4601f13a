/-! THE CLASS: rows that grow -/
theorem tk_row {c M : Nat} (hc : 108 ≤ c ∧ c < 124) (h1 : 4 ≤ M) (h2 : M ≤ 400) : tk c (1, M) := by
  have h : c = 108 ∨ c = 109 ∨ c = 110 ∨ c = 111 ∨ c = 112 ∨ c = 113 ∨ c = 114 ∨ c = 115 ∨ c = 116 ∨ c = 117 ∨ c = 118 ∨ c = 119 ∨ c = 120 ∨ c = 121 ∨ c = 122 ∨ c = 123 := by omega
  rcases h with rfl | rfl | rfl | rfl | rfl | rfl | rfl | rfl | rfl | rfl | rfl | rfl | rfl | rfl | rfl | rfl <;> exact ⟨M, rfl, h1, h2⟩
theorem tv_row {c r j : Nat} {v : Int} (hc : 108 ≤ c ∧ c < 124) : tv c r j v := by
  have h : c = 108 ∨ c = 109 ∨ c = 110 ∨ c = 111 ∨ c = 112 ∨ c = 113 ∨ c = 114 ∨ c = 115 ∨ c = 116 ∨ c = 117 ∨ c = 118 ∨ c = 119 ∨ c = 120 ∨ c = 121 ∨ c = 122 ∨ c = 123 := by omega
  rcases h with rfl | rfl | rfl | rfl | rfl | rfl | rfl | rfl | rfl | rfl | rfl | rfl | rfl | rfl | rfl | rfl <;> exact True.intro
theorem spc_row {c : Nat} (hc : 108 ≤ c ∧ c < 124) : spc c = false := by
  have h : c = 108 ∨ c = 109 ∨ c = 110 ∨ c = 111 ∨ c = 112 ∨ c = 113 ∨ c = 114 ∨ c = 115 ∨ c = 116 ∨ c = 117 ∨ c = 118 ∨ c = 119 ∨ c = 120 ∨ c = 121 ∨ c = 122 ∨ c = 123 := by omega
  rcases h with rfl | rfl | rfl | rfl | rfl | rfl | rfl | rfl | rfl | rfl | rfl | rfl | rfl | rfl | rfl | rfl <;> rfl
/-- a face's row gives way to a longer one -/
theorem CI.growFace {a b : Nat} {G : LG} {o p q L M n : Nat} (h : CI a b G) (ho : 65537 ≤ o ∧ o ≤ 68097 ∧ o % 64 = 1) (hp : p < 16) (al : (gK G (o + 3)).1 ≠ 0) (hq : gS G (o + 3) p = (q : Int)) (hk : gK G q = (1, L)) (hL : 1 ≤ L) (hM : 2 * L ≤ M) (hM2 : 4 ≤ M ∧ M ≤ 400) (hn : n = o + 7 + p + 1048576 * (1 + gc G)) :
    CI a b (gset (gnew G n 1 M M (fun _ => 0)) (o + 3) p (n : Int)) := by
  have hcn : cde n = 108 + p := by rw [cde_n (by omega) (by omega)]; omega
  have hco : cde (o + 3) = 104 := by rw [cde_n (by omega) (by omega)]; omega
  have hnd : n / 1048576 = 1 + gc G := by omega
  have hn0 : (gK G n).1 = 0 := h.2.2.2.2.2.2.2.2.2.1.1 n (by omega)
  have ht : TI (gnew G n 1 M M (fun _ => 0)) := h.1.new (by rw [hcn]; exact tk_row (by omega) hM2.1 hM2.2) (fun j _ => by rw [hcn]; exact tv_row (by omega))
  refine ⟨ht.set (by rw [hco]; exact ⟨by omega, by omega⟩), (h.2.new (k := 1) (L := M) (sl := M) (d := fun _ => 0) hnd (by rw [hcn]; omega)).frA (fun x _ hx => ?_) rfl rfl ?_⟩
  · funext y
    exact gset_ne _ _ (fun e => hx (by rw [e.1]; exact hco))
  · have hm : (o + 3, p) ∈ HL := by
      have h9 := HL_face (i := (o - 65537) / 64) (p := p) (by omega) hp
      rw [show 65540 + 64 * ((o - 65537) / 64) = o + 3 by omega] at h9
      exact h9
    exact h.2.2.2.2.2.2.2.2.2.2.hold hm al hq hk (by decide) (by decide) hL (Or.inl hM) (by omega) hn0 (by omega)
