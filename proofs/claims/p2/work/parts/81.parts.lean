abbrev nX12_beginsPart : List Nat := [a_state, a_cellValue, a_left, a_right, a_number, a_count, a_actOn, a_actPhase, a_actFor, a_give, a_logOf]
abbrev jX12_beginsPart : List Nat := [79, 84, 88, 90]
def TX12_beginsPart : TR := fun as G Qr => ∃ (e c : Int) (Gz : LG) (I : Int) (st : List (Int × Int × Int)), as = [(2, ((1000 : Nat) : Int)), (0, e), (0, c)] ∧ MG G ∧ (IN Gz I (10 * I)) ∧ (UV Gz) ∧ (EX Gz) ∧ (FI Gz) ∧ (Fr nRun jRun Gz G) ∧ (RU G Gz st (po1 Gz e 0) (po1 Gz e 0) 0) ∧ (EVt Gz e 0 c) ∧ (GV Gz st ((gS G 1000 88) + 1)) ∧ ∀ G' : LG, MG G' → (Fr nX12_beginsPart jX12_beginsPart G G' ∧ (∃ s2 : List (Int × Int × Int), RU G' Gz s2 0 0 0 ∧ GW Gz s2 ((gS G' 1000 88)) ∧ mesL Gz s2 + 26 * s0 G' ((gS Gz 1000 67)) + 1 ≤ mesL Gz st + me1 Gz e 0 + 26 * s0 G ((gS Gz 1000 67)))) → Qr (.inl none) G'
set_option maxHeartbeats 4000000 in
set_option maxRecDepth 100000 in
theorem gX12_beginsPart : Good kX12_beginsPart yX12_beginsPart 2 TX12_beginsPart := by
  refine good_of (by decide) rfl rfl (fun as G Qr h => ?_) (fun X as G Qr hcf hR hT oa => ?_)
  · obtain ⟨e, c, Gz, I, st, rfl, -⟩ := h; exact Nat.le_of_ble_eq_true rfl
  obtain ⟨e, c, Gz, I, st, rfl, hM, hI, hUV, hEX, hFI, hZ, hRU, hev, hG, hQ⟩ := hT
  show WP kX12_beginsPart X 0 [some (2, ((1000 : Nat) : Int)), some (0, e), some (0, c), none, none] [] G
  have hr_e : inR e := okv_R (oa _ (by simp))
  have hr_c : inR c := okv_R (oa _ (by simp))
  have hI3 := hI.2.2.1
  have hI1 := hI.1
  have hk1 : (gS G a_eKind (e).toNat) = (gS Gz a_eKind (e).toNat) := hZ.atA (by decide) (by decide)
  have hfi : (gS G a_eFirst (e).toNat) = (gS Gz a_eFirst (e).toNat) := hZ.atA (by decide) (by decide)
  have hse : (gS G a_eSecond (e).toNat) = (gS Gz a_eSecond (e).toNat) := hZ.atA (by decide) (by decide)
  have hth : (gS G a_eThird (e).toNat) = (gS Gz a_eThird (e).toNat) := hZ.atA (by decide) (by decide)
  have hcz : (gS G 1000 67) = (gS Gz 1000 67) := hZ.atF (by decide) (by decide)
  have hxz : (gS G 1000 6) = (gS Gz 1000 6) := hZ.atF (by decide) (by decide)
  have hxx := hEX.1
  obtain ⟨-, he, hcc, hocc⟩ := hev.resolve_left (fun z => absurd z.1 (by decide))
  have hent := hEX.2 e he.1 he.2
  have hkd0 := hent.1
  have hkd1 := hent.2.1
  have hew := hEX.w he.1 he.2
  have hpz := po1.z (Gz := Gz) (e := e)
  have hpz2 := hpz.2
  rw [hpz.1] at hRU
  clear hpz
  have hl0 := hRU.len hEX (by omega) (by omega) (by omega)
  have hms := (hRU.1.len hEX _ _ hRU.2.1)
  have hIG : IN G I (10 * I) := hI.agr (hZ.agr (by decide) (by decide) (by decide))
  have hent := fun (_ : Unit) => hent
  refine s_aload_n dX12_beginsPart_0 rfl (Int.natCast_nonneg _) ?_
  refine gf_eKind rfl dX12_beginsPart_1 hM ?_
  refine s_iload_n dX12_beginsPart_4 rfl ?_
  refine s_iald dX12_beginsPart_5 (mg_a_eKind hM) (by omega) (by omega) rfl ?_
  refine s_istore_n dX12_beginsPart_6 (by decide) (lv' := [some (2, ((1000 : Nat) : Int)), some (0, e), some (0, c), some (0, gS G a_eKind ((e).toNat)), none]) rfl ?_
  refine s_iload_n dX12_beginsPart_7 rfl ?_
  refine s_if_ne (tgt := 30) dX12_beginsPart_8 (by decide) (fun c1 => ?_) (fun c1 => ?_)
  · -- 8 to 30
    refine s_iload_n dX12_beginsPart_30 rfl ?_
    refine s_iconst dX12_beginsPart_31 (by decide) ?_
    refine s_icmp_ne (tgt := 99) dX12_beginsPart_32 (by decide) (fun c2 => ?_) (fun c2 => ?_)
    · -- 32 to 99
      refine s_aload_n dX12_beginsPart_99 rfl (Int.natCast_nonneg _) ?_
      refine s_iload_n dX12_beginsPart_100 rfl ?_
      refine s_iconst dX12_beginsPart_101 (by decide) ?_
      refine s_iload_n dX12_beginsPart_102 rfl ?_
      refine cv_X12_536 rfl gX12_act dX12_beginsPart_103 hM (by rw [hcf]; decide) (as := [(0, e), (0, 1), (0, c)]) rfl (Nat.le_of_ble_eq_true rfl) ⟨e, 1, c, rfl, hM, (by first | assumption | omega), fun G3 hMG3 hpG3 => ?_⟩
      obtain ⟨G5, G6, G7, eG5, eG6, eG7, eG3, hpG3⟩ := hpG3
      have hFG5 : Fr nX12_beginsPart jX12_beginsPart G G5 := Fr.setA Fr.rf eG5 (by decide)
      have hFG6 : Fr nX12_beginsPart jX12_beginsPart G G6 := Fr.setA hFG5 eG6 (by decide)
      have hFG7 : Fr nX12_beginsPart jX12_beginsPart G G7 := Fr.setA hFG6 eG7 (by decide)
      have hFG3 : Fr nX12_beginsPart jX12_beginsPart G G3 := Fr.setF hFG7 eG3 (by decide)
      show WP kX12_beginsPart X 106 [some (2, ((1000 : Nat) : Int)), some (0, e), some (0, c), some (0, gS G a_eKind ((e).toNat)), none] [] G3
      have hu1 := hRU.push rfl (e := e) (q := 1) (c := c) (Or.inr ⟨Or.inr ⟨rfl, by omega⟩, he, hcc, hocc⟩) eG5 eG6 eG7 eG3 hEX
      rw [if_neg (by decide)] at hu1
      have hw2 := (hent ()).2.2.2.2.2.2.1
      have hw4 := (hent ()).2.2.2.2.2.2.2.1
      have hw6 := (hent ()).2.2.2.2.2.2.2.2
      have hmk := eMany.k (G := Gz) (x := e)
      have hm1 : 0 < eMany Gz e := by by_cases q6 : (gS Gz a_eKind (e).toNat) = 6; (rw [hmk.2.2.1 q6]; decide); (by_cases q4 : (gS Gz a_eKind (e).toNat) = 4 ∨ (gS Gz a_eKind (e).toNat) = 5; (rw [hmk.2.1 q4]; decide); (rw [hmk.2.2.2 (by omega)]; decide))
      have hpw : 0 ≤ (gS Gz a_eWeight (e).toNat) - po1 Gz e 1 ∧ ((gS Gz a_eKind (e).toNat) = 2 ∨ (gS Gz a_eKind (e).toNat) = 3 → po1 Gz e 1 = 1) := by refine ⟨?_, fun q => ((po1.o (Gz := Gz) (e := e)).2 (by omega)).1⟩; by_cases q6 : (gS Gz a_eKind (e).toNat) = 6; (have := hw6 q6; have := (po1.o (Gz := Gz) (e := e)).1 q6; have p1 := hEX.part (k := 0) he.1 he.2 (by omega) hm1; have := (hEX.w p1.1 (by omega)).1; rw [show ePart Gz e 0 = (gS Gz a_eFirst (e).toNat) from rfl] at this; omega); (have := ((po1.o (Gz := Gz) (e := e)).2 q6).1; omega)
      have hpw1 := hpw.1
      have hl2 := hu1.len hEX hpw1 hpw1 (by omega)
      have hk4 := (hent ()).1
      have hmku := fun (_ : Unit) => hmk
      clear hmk
      have hpwu := fun (_ : Unit) => hpw.2
      clear hpw
      have hw2u := fun (_ : Unit) => hw2
      clear hw2
      have hw4u := fun (_ : Unit) => hw4
      have hw6u := fun (_ : Unit) => hw6
      clear hw4 hw6
      have hw4 := fun q => hw4u () q
      have hw6 := fun q => hw6u () q
      refine s_iload_n dX12_beginsPart_106 rfl ?_
      refine s_iconst dX12_beginsPart_107 (by decide) ?_
      refine s_icmp_eq (tgt := 116) dX12_beginsPart_108 (by decide) (fun c8 => ?_) (fun c8 => ?_)
      · -- 108 to 116
        refine s_aload_n dX12_beginsPart_116 rfl (Int.natCast_nonneg _) ?_
        refine s_aload_n dX12_beginsPart_117 rfl (Int.natCast_nonneg _) ?_
        refine gf_eSecond rfl dX12_beginsPart_118 hMG3 ?_
        refine s_iload_n dX12_beginsPart_121 rfl ?_
        refine s_iald dX12_beginsPart_122 (mg_a_eSecond hMG3) (by omega) (by omega) (Eq.trans (gsnE eG3 (by decide)) (Eq.trans (gsnE eG7 (by decide)) (Eq.trans (gsnE eG6 (by decide)) (gsnE eG5 (by decide))))) ?_
        refine s_iconst dX12_beginsPart_123 (by decide) ?_
        refine s_iload_n dX12_beginsPart_124 rfl ?_
        refine cv_X12_536 rfl gX12_act dX12_beginsPart_125 hMG3 (by rw [hcf]; decide) (as := [(0, gS G a_eSecond ((e).toNat)), (0, 0), (0, c)]) rfl (Nat.le_of_ble_eq_true rfl) ⟨gS G a_eSecond ((e).toNat), 0, c, rfl, hMG3, (by first | assumption | omega), fun G9 hMG9 hpG9 => ?_⟩
        obtain ⟨G11, G12, G13, eG11, eG12, eG13, eG9, hpG9⟩ := hpG9
        have hFG11 : Fr nX12_beginsPart jX12_beginsPart G G11 := Fr.setA hFG3 eG11 (by decide)
        have hFG12 : Fr nX12_beginsPart jX12_beginsPart G G12 := Fr.setA hFG11 eG12 (by decide)
        have hFG13 : Fr nX12_beginsPart jX12_beginsPart G G13 := Fr.setA hFG12 eG13 (by decide)
        have hFG9 : Fr nX12_beginsPart jX12_beginsPart G G9 := Fr.setF hFG13 eG9 (by decide)
        show WP kX12_beginsPart X 128 [some (2, ((1000 : Nat) : Int)), some (0, e), some (0, c), some (0, gS G a_eKind ((e).toNat)), none] [] G9
        have hk23 : (gS Gz a_eKind (e).toNat) = 2 ∨ (gS Gz a_eKind (e).toNat) = 3 := by omega
        have hu2 := hu1.push rfl (e := (gS G a_eSecond (e).toNat)) (q := 0) (c := c) (by rw [hse]; exact hev.part (Or.inl rfl) hEX (k := 1) (by rw [(hmku ()).2.2.2 hk23]; decide)) eG11 eG12 eG13 eG9 hEX
        rw [po1.z.1, hse, if_neg (by decide)] at hu2
        have hw23 := hw2u () hk23
        have hp23 := hpwu () hk23
        have p1 := hEX.part (k := 0) he.1 he.2 (by omega) hm1
        have hwf := (hEX.w p1.1 (by omega)).1
        rw [show ePart Gz e 0 = (gS Gz a_eFirst (e).toNat) from rfl] at hwf
        have hl3 := hu2.len hEX (by omega) (by omega) (by omega)
        refine s_aload_n dX12_beginsPart_128 rfl (Int.natCast_nonneg _) ?_
        refine s_aload_n dX12_beginsPart_129 rfl (Int.natCast_nonneg _) ?_
        refine gf_eFirst rfl dX12_beginsPart_130 hMG9 ?_
        refine s_iload_n dX12_beginsPart_133 rfl ?_
        refine s_iald dX12_beginsPart_134 (mg_a_eFirst hMG9) (by omega) (by omega) (Eq.trans (gsnE eG9 (by decide)) (Eq.trans (gsnE eG13 (by decide)) (Eq.trans (gsnE eG12 (by decide)) (Eq.trans (gsnE eG11 (by decide)) (Eq.trans (gsnE eG3 (by decide)) (Eq.trans (gsnE eG7 (by decide)) (Eq.trans (gsnE eG6 (by decide)) (gsnE eG5 (by decide))))))))) ?_
        refine s_iconst dX12_beginsPart_135 (by decide) ?_
        refine s_iload_n dX12_beginsPart_136 rfl ?_
        refine cv_X12_536 rfl gX12_act dX12_beginsPart_137 hMG9 (by rw [hcf]; decide) (as := [(0, gS G a_eFirst ((e).toNat)), (0, 0), (0, c)]) rfl (Nat.le_of_ble_eq_true rfl) ⟨gS G a_eFirst ((e).toNat), 0, c, rfl, hMG9, (by first | assumption | omega), fun G14 hMG14 hpG14 => ?_⟩
        obtain ⟨G16, G17, G18, eG16, eG17, eG18, eG14, hpG14⟩ := hpG14
        have hFG16 : Fr nX12_beginsPart jX12_beginsPart G G16 := Fr.setA hFG9 eG16 (by decide)
        have hFG17 : Fr nX12_beginsPart jX12_beginsPart G G17 := Fr.setA hFG16 eG17 (by decide)
        have hFG18 : Fr nX12_beginsPart jX12_beginsPart G G18 := Fr.setA hFG17 eG18 (by decide)
        have hFG14 : Fr nX12_beginsPart jX12_beginsPart G G14 := Fr.setF hFG18 eG14 (by decide)
        show WP kX12_beginsPart X 140 [some (2, ((1000 : Nat) : Int)), some (0, e), some (0, c), some (0, gS G a_eKind ((e).toNat)), none] [] G14
        have hu3 := hu2.push rfl (e := (gS G a_eFirst (e).toNat)) (q := 0) (c := c) (by rw [hfi]; exact hev.part (Or.inl rfl) hEX (k := 0) (by omega)) eG16 eG17 eG18 eG14 hEX
        rw [po1.z.1, hfi, if_neg (by decide)] at hu3
        have hgg : (gS G14 1000 88) = (gS G 1000 88) := (Fr.setF (Fr.setA (Fr.setA (Fr.setA (Fr.setF (Fr.setA (Fr.setA (Fr.setA (Fr.setF (Fr.setA (Fr.setA (Fr.setA (Fr.rf) eG5 (by decide)) eG6 (by decide)) eG7 (by decide)) eG3 (by decide)) eG11 (by decide)) eG12 (by decide)) eG13 (by decide)) eG9 (by decide)) eG16 (by decide)) eG17 (by decide)) eG18 (by decide)) eG14 (by decide) : Fr [a_actOn, a_actPhase, a_actFor] [84] G G14).atF (by decide) (by decide)
        exact s_vret hR dX12_beginsPart_140 rfl (hQ G14 hMG14 (⟨hFG14, ⟨((gS Gz a_eFirst (e).toNat), 0, c) :: ((gS Gz a_eSecond (e).toNat), 0, c) :: (e, 1, c) :: st, hu3.weak (by have := (po1.o (Gz := Gz) (e := e)).2 (by omega); omega) (by have := (po1.o (Gz := Gz) (e := e)).2 (by omega); omega) (by omega), Or.inr (Or.inl ⟨rfl, Or.inl ⟨rfl, Or.inr (Or.inl ⟨rfl, Or.inl ⟨by omega, by omega, by rw [hgg, show (gS G 1000 88) + 1 + 1 - 1 = (gS G 1000 88) + 1 by omega]; exact hG⟩⟩)⟩⟩), by rw [s0.cg (G := G) (G' := G14) (n := (gS Gz 1000 67)) (fun j => (Fr.setF (Fr.setA (Fr.setA (Fr.setA (Fr.setF (Fr.setA (Fr.setA (Fr.setA (Fr.setF (Fr.setA (Fr.setA (Fr.setA (Fr.rf) eG5 (by decide)) eG6 (by decide)) eG7 (by decide)) eG3 (by decide)) eG11 (by decide)) eG12 (by decide)) eG13 (by decide)) eG9 (by decide)) eG16 (by decide)) eG17 (by decide)) eG18 (by decide)) eG14 (by decide) : Fr [a_actOn, a_actPhase, a_actFor] [84] G G14).atA (by decide) (by decide))]; have z2 : mesL Gz (((gS Gz a_eFirst (e).toNat), 0, c) :: ((gS Gz a_eSecond (e).toNat), 0, c) :: (e, 1, c) :: st) = me1 Gz ((gS Gz a_eFirst (e).toNat)) 0 + (me1 Gz ((gS Gz a_eSecond (e).toNat)) 0 + (me1 Gz e 1 + mesL Gz st)) := rfl; rw [po1.z.2, po1.z.2, (po1.o.2 (by omega)).2] at z2; omega⟩⟩))
      · -- 108 to 111
        refine s_iload_n dX12_beginsPart_111 rfl ?_
        refine s_iconst dX12_beginsPart_112 (by decide) ?_
        refine s_icmp_ne (tgt := 128) dX12_beginsPart_113 (by decide) (fun c19 => ?_) (fun c19 => ?_)
        · -- 113 to 128
          refine s_aload_n dX12_beginsPart_128 rfl (Int.natCast_nonneg _) ?_
          refine s_aload_n dX12_beginsPart_129 rfl (Int.natCast_nonneg _) ?_
          refine gf_eFirst rfl dX12_beginsPart_130 hMG3 ?_
          refine s_iload_n dX12_beginsPart_133 rfl ?_
          refine s_iald dX12_beginsPart_134 (mg_a_eFirst hMG3) (by omega) (by omega) (Eq.trans (gsnE eG3 (by decide)) (Eq.trans (gsnE eG7 (by decide)) (Eq.trans (gsnE eG6 (by decide)) (gsnE eG5 (by decide))))) ?_
          refine s_iconst dX12_beginsPart_135 (by decide) ?_
          refine s_iload_n dX12_beginsPart_136 rfl ?_
          refine cv_X12_536 rfl gX12_act dX12_beginsPart_137 hMG3 (by rw [hcf]; decide) (as := [(0, gS G a_eFirst ((e).toNat)), (0, 0), (0, c)]) rfl (Nat.le_of_ble_eq_true rfl) ⟨gS G a_eFirst ((e).toNat), 0, c, rfl, hMG3, (by first | assumption | omega), fun G20 hMG20 hpG20 => ?_⟩
          obtain ⟨G22, G23, G24, eG22, eG23, eG24, eG20, hpG20⟩ := hpG20
          have hFG22 : Fr nX12_beginsPart jX12_beginsPart G G22 := Fr.setA hFG3 eG22 (by decide)
          have hFG23 : Fr nX12_beginsPart jX12_beginsPart G G23 := Fr.setA hFG22 eG23 (by decide)
          have hFG24 : Fr nX12_beginsPart jX12_beginsPart G G24 := Fr.setA hFG23 eG24 (by decide)
          have hFG20 : Fr nX12_beginsPart jX12_beginsPart G G20 := Fr.setF hFG24 eG20 (by decide)
          show WP kX12_beginsPart X 140 [some (2, ((1000 : Nat) : Int)), some (0, e), some (0, c), some (0, gS G a_eKind ((e).toNat)), none] [] G20
          have hu3 := hu1.push rfl (e := (gS G a_eFirst (e).toNat)) (q := 0) (c := c) (by rw [hfi]; exact hev.part (Or.inl rfl) hEX (k := 0) (by omega)) eG22 eG23 eG24 eG20 hEX
          rw [po1.z.1, hfi, if_neg (by decide)] at hu3
          have hgg : (gS G20 1000 88) = (gS G 1000 88) := (Fr.setF (Fr.setA (Fr.setA (Fr.setA (Fr.setF (Fr.setA (Fr.setA (Fr.setA (Fr.rf) eG5 (by decide)) eG6 (by decide)) eG7 (by decide)) eG3 (by decide)) eG22 (by decide)) eG23 (by decide)) eG24 (by decide)) eG20 (by decide) : Fr [a_actOn, a_actPhase, a_actFor] [84] G G20).atF (by decide) (by decide)
          exact s_vret hR dX12_beginsPart_140 rfl (hQ G20 hMG20 (⟨hFG20, ⟨((gS Gz a_eFirst (e).toNat), 0, c) :: (e, 1, c) :: st, hu3.weak (by by_cases q6 : (gS Gz a_eKind (e).toNat) = 6; (have := hw6 q6; have := (po1.o (Gz := Gz) (e := e)).1 q6; omega); (have := hw4 (by omega); have := (po1.o (Gz := Gz) (e := e)).2 q6; omega)) (by by_cases q6 : (gS Gz a_eKind (e).toNat) = 6; (have := hw6 q6; have := (po1.o (Gz := Gz) (e := e)).1 q6; omega); (have := hw4 (by omega); have := (po1.o (Gz := Gz) (e := e)).2 q6; omega)) (by omega), Or.inr (Or.inl ⟨rfl, Or.inr (Or.inl ⟨rfl, Or.inr ⟨by omega, by omega, by rw [hgg]; exact hG⟩⟩)⟩), by rw [s0.cg (G := G) (G' := G20) (n := (gS Gz 1000 67)) (fun j => (Fr.setF (Fr.setA (Fr.setA (Fr.setA (Fr.setF (Fr.setA (Fr.setA (Fr.setA (Fr.rf) eG5 (by decide)) eG6 (by decide)) eG7 (by decide)) eG3 (by decide)) eG22 (by decide)) eG23 (by decide)) eG24 (by decide)) eG20 (by decide) : Fr [a_actOn, a_actPhase, a_actFor] [84] G G20).atA (by decide) (by decide))]; have z2 : mesL Gz (((gS Gz a_eFirst (e).toNat), 0, c) :: (e, 1, c) :: st) = me1 Gz ((gS Gz a_eFirst (e).toNat)) 0 + (me1 Gz e 1 + mesL Gz st) := rfl; rw [po1.z.2] at z2; by_cases q6 : (gS Gz a_eKind (e).toNat) = 6; (have := hw6 q6; have := (po1.o (Gz := Gz) (e := e)).1 q6; omega); (have := hw4 (by omega); have := (po1.o (Gz := Gz) (e := e)).2 q6; omega)⟩⟩))
        · -- 113 to 116
          refine s_aload_n dX12_beginsPart_116 rfl (Int.natCast_nonneg _) ?_
          refine s_aload_n dX12_beginsPart_117 rfl (Int.natCast_nonneg _) ?_
          refine gf_eSecond rfl dX12_beginsPart_118 hMG3 ?_
          refine s_iload_n dX12_beginsPart_121 rfl ?_
          refine s_iald dX12_beginsPart_122 (mg_a_eSecond hMG3) (by omega) (by omega) (Eq.trans (gsnE eG3 (by decide)) (Eq.trans (gsnE eG7 (by decide)) (Eq.trans (gsnE eG6 (by decide)) (gsnE eG5 (by decide))))) ?_
          refine s_iconst dX12_beginsPart_123 (by decide) ?_
          refine s_iload_n dX12_beginsPart_124 rfl ?_
          refine cv_X12_536 rfl gX12_act dX12_beginsPart_125 hMG3 (by rw [hcf]; decide) (as := [(0, gS G a_eSecond ((e).toNat)), (0, 0), (0, c)]) rfl (Nat.le_of_ble_eq_true rfl) ⟨gS G a_eSecond ((e).toNat), 0, c, rfl, hMG3, (by first | assumption | omega), fun G25 hMG25 hpG25 => ?_⟩
          obtain ⟨G27, G28, G29, eG27, eG28, eG29, eG25, hpG25⟩ := hpG25
          have hFG27 : Fr nX12_beginsPart jX12_beginsPart G G27 := Fr.setA hFG3 eG27 (by decide)
          have hFG28 : Fr nX12_beginsPart jX12_beginsPart G G28 := Fr.setA hFG27 eG28 (by decide)
          have hFG29 : Fr nX12_beginsPart jX12_beginsPart G G29 := Fr.setA hFG28 eG29 (by decide)
          have hFG25 : Fr nX12_beginsPart jX12_beginsPart G G25 := Fr.setF hFG29 eG25 (by decide)
          show WP kX12_beginsPart X 128 [some (2, ((1000 : Nat) : Int)), some (0, e), some (0, c), some (0, gS G a_eKind ((e).toNat)), none] [] G25
          have hk23 : (gS Gz a_eKind (e).toNat) = 2 ∨ (gS Gz a_eKind (e).toNat) = 3 := by omega
          have hu2 := hu1.push rfl (e := (gS G a_eSecond (e).toNat)) (q := 0) (c := c) (by rw [hse]; exact hev.part (Or.inl rfl) hEX (k := 1) (by rw [(hmku ()).2.2.2 hk23]; decide)) eG27 eG28 eG29 eG25 hEX
          rw [po1.z.1, hse, if_neg (by decide)] at hu2
          have hw23 := hw2u () hk23
          have hp23 := hpwu () hk23
          have p1 := hEX.part (k := 0) he.1 he.2 (by omega) hm1
          have hwf := (hEX.w p1.1 (by omega)).1
          rw [show ePart Gz e 0 = (gS Gz a_eFirst (e).toNat) from rfl] at hwf
          have hl3 := hu2.len hEX (by omega) (by omega) (by omega)
          refine s_aload_n dX12_beginsPart_128 rfl (Int.natCast_nonneg _) ?_
          refine s_aload_n dX12_beginsPart_129 rfl (Int.natCast_nonneg _) ?_
          refine gf_eFirst rfl dX12_beginsPart_130 hMG25 ?_
          refine s_iload_n dX12_beginsPart_133 rfl ?_
          refine s_iald dX12_beginsPart_134 (mg_a_eFirst hMG25) (by omega) (by omega) (Eq.trans (gsnE eG25 (by decide)) (Eq.trans (gsnE eG29 (by decide)) (Eq.trans (gsnE eG28 (by decide)) (Eq.trans (gsnE eG27 (by decide)) (Eq.trans (gsnE eG3 (by decide)) (Eq.trans (gsnE eG7 (by decide)) (Eq.trans (gsnE eG6 (by decide)) (gsnE eG5 (by decide))))))))) ?_
          refine s_iconst dX12_beginsPart_135 (by decide) ?_
          refine s_iload_n dX12_beginsPart_136 rfl ?_
          refine cv_X12_536 rfl gX12_act dX12_beginsPart_137 hMG25 (by rw [hcf]; decide) (as := [(0, gS G a_eFirst ((e).toNat)), (0, 0), (0, c)]) rfl (Nat.le_of_ble_eq_true rfl) ⟨gS G a_eFirst ((e).toNat), 0, c, rfl, hMG25, (by first | assumption | omega), fun G30 hMG30 hpG30 => ?_⟩
          obtain ⟨G32, G33, G34, eG32, eG33, eG34, eG30, hpG30⟩ := hpG30
          have hFG32 : Fr nX12_beginsPart jX12_beginsPart G G32 := Fr.setA hFG25 eG32 (by decide)
          have hFG33 : Fr nX12_beginsPart jX12_beginsPart G G33 := Fr.setA hFG32 eG33 (by decide)
          have hFG34 : Fr nX12_beginsPart jX12_beginsPart G G34 := Fr.setA hFG33 eG34 (by decide)
          have hFG30 : Fr nX12_beginsPart jX12_beginsPart G G30 := Fr.setF hFG34 eG30 (by decide)
          show WP kX12_beginsPart X 140 [some (2, ((1000 : Nat) : Int)), some (0, e), some (0, c), some (0, gS G a_eKind ((e).toNat)), none] [] G30
          have hu3 := hu2.push rfl (e := (gS G a_eFirst (e).toNat)) (q := 0) (c := c) (by rw [hfi]; exact hev.part (Or.inl rfl) hEX (k := 0) (by omega)) eG32 eG33 eG34 eG30 hEX
          rw [po1.z.1, hfi, if_neg (by decide)] at hu3
          have hgg : (gS G30 1000 88) = (gS G 1000 88) := (Fr.setF (Fr.setA (Fr.setA (Fr.setA (Fr.setF (Fr.setA (Fr.setA (Fr.setA (Fr.setF (Fr.setA (Fr.setA (Fr.setA (Fr.rf) eG5 (by decide)) eG6 (by decide)) eG7 (by decide)) eG3 (by decide)) eG27 (by decide)) eG28 (by decide)) eG29 (by decide)) eG25 (by decide)) eG32 (by decide)) eG33 (by decide)) eG34 (by decide)) eG30 (by decide) : Fr [a_actOn, a_actPhase, a_actFor] [84] G G30).atF (by decide) (by decide)
          exact s_vret hR dX12_beginsPart_140 rfl (hQ G30 hMG30 (⟨hFG30, ⟨((gS Gz a_eFirst (e).toNat), 0, c) :: ((gS Gz a_eSecond (e).toNat), 0, c) :: (e, 1, c) :: st, hu3.weak (by have := (po1.o (Gz := Gz) (e := e)).2 (by omega); omega) (by have := (po1.o (Gz := Gz) (e := e)).2 (by omega); omega) (by omega), Or.inr (Or.inl ⟨rfl, Or.inl ⟨rfl, Or.inr (Or.inl ⟨rfl, Or.inl ⟨by omega, by omega, by rw [hgg, show (gS G 1000 88) + 1 + 1 - 1 = (gS G 1000 88) + 1 by omega]; exact hG⟩⟩)⟩⟩), by rw [s0.cg (G := G) (G' := G30) (n := (gS Gz 1000 67)) (fun j => (Fr.setF (Fr.setA (Fr.setA (Fr.setA (Fr.setF (Fr.setA (Fr.setA (Fr.setA (Fr.setF (Fr.setA (Fr.setA (Fr.setA (Fr.rf) eG5 (by decide)) eG6 (by decide)) eG7 (by decide)) eG3 (by decide)) eG27 (by decide)) eG28 (by decide)) eG29 (by decide)) eG25 (by decide)) eG32 (by decide)) eG33 (by decide)) eG34 (by decide)) eG30 (by decide) : Fr [a_actOn, a_actPhase, a_actFor] [84] G G30).atA (by decide) (by decide))]; have z2 : mesL Gz (((gS Gz a_eFirst (e).toNat), 0, c) :: ((gS Gz a_eSecond (e).toNat), 0, c) :: (e, 1, c) :: st) = me1 Gz ((gS Gz a_eFirst (e).toNat)) 0 + (me1 Gz ((gS Gz a_eSecond (e).toNat)) 0 + (me1 Gz e 1 + mesL Gz st)) := rfl; rw [po1.z.2, po1.z.2, (po1.o.2 (by omega)).2] at z2; omega⟩⟩))
    · -- 32 to 35
      refine s_aload_n dX12_beginsPart_35 rfl (Int.natCast_nonneg _) ?_
      refine s_iload_n dX12_beginsPart_36 rfl ?_
      refine s_aload_n dX12_beginsPart_37 rfl (Int.natCast_nonneg _) ?_
      refine gf_eFirst rfl dX12_beginsPart_38 hM ?_
      refine s_iload_n dX12_beginsPart_41 rfl ?_
      refine s_iald dX12_beginsPart_42 (mg_a_eFirst hM) (by omega) (by omega) rfl ?_
      refine cv_X12_518 rfl gX12_targetOf dX12_beginsPart_43 hM (by rw [hcf]; decide) (as := [(0, c), (0, gS G a_eFirst ((e).toNat))]) rfl (Nat.le_of_ble_eq_true rfl) ⟨c, gS G a_eFirst ((e).toNat), I, (10 * I), rfl, hM, (by exact hIG), (by rfl), (by omega), (by omega), ?_⟩
      show WP kX12_beginsPart X 46 [some (2, ((1000 : Nat) : Int)), some (0, e), some (0, c), some (0, gS G a_eKind ((e).toNat)), none] [(0, (gS G a_cellAt (rootV G ((gS G a_cellOf (c).toNat) / 10 * 10 + (gS G a_eFirst ((e).toNat)))).toNat))] G
      refine s_istore dX12_beginsPart_46 (by decide) (lv' := [some (2, ((1000 : Nat) : Int)), some (0, e), some (0, c), some (0, gS G a_eKind ((e).toNat)), some (0, (gS G a_cellAt (rootV G ((gS G a_cellOf (c).toNat) / 10 * 10 + (gS G a_eFirst ((e).toNat)))).toNat))]) rfl ?_
      have htz : (gS G a_cellAt (rootV G ((gS G a_cellOf (c).toNat) / 10 * 10 + (gS G a_eFirst ((e).toNat)))).toNat) = tgtC Gz c ((gS Gz a_eFirst (e).toNat)) := by rw [hfi]; exact tgtC.agr (hZ.agr (by decide) (by decide) (by decide)) _ _
      rw [htz]
      have htg := hFI c ((gS Gz a_eFirst (e).toNat)) hcc.1 hcc.2 (by omega) (by omega) (hocc _ (by omega) (by omega) (Occ.step.mpr (Or.inl ⟨by omega, rfl⟩)))
      have htl := hI.tgt (c := c) (k := (gS Gz a_eFirst (e).toNat)) hcc.1 hcc.2 (by omega) (by omega)
      generalize tgtC Gz c ((gS Gz a_eFirst (e).toNat)) = T at htg htl ⊢
      clear htz
      have htg : 0 ≤ T ∧ T < (gS Gz 1000 67) := ⟨htg, htl⟩
      have htq := hRU.2.2.2.1 T htg.1 htg.2
      refine s_aload_n dX12_beginsPart_48 rfl (Int.natCast_nonneg _) ?_
      refine gf_state rfl dX12_beginsPart_49 hM ?_
      refine s_iload dX12_beginsPart_52 rfl ?_
      refine s_iald dX12_beginsPart_54 (mg_a_state hM) (by omega) (by omega) rfl ?_
      refine s_iconst dX12_beginsPart_55 (by decide) ?_
      refine s_icmp_ne (tgt := 73) dX12_beginsPart_56 (by decide) (fun c35 => ?_) (fun c35 => ?_)
      · -- 56 to 73
        refine s_aload_n dX12_beginsPart_73 rfl (Int.natCast_nonneg _) ?_
        refine gf_state rfl dX12_beginsPart_74 hM ?_
        refine s_iload dX12_beginsPart_77 rfl ?_
        refine s_iald dX12_beginsPart_79 (mg_a_state hM) (by omega) (by omega) rfl ?_
        refine s_if_ne (tgt := 92) dX12_beginsPart_80 (by decide) (fun c36 => ?_) (fun c36 => ?_)
        · -- 80 to 92
          refine s_aload_n dX12_beginsPart_92 rfl (Int.natCast_nonneg _) ?_
          refine cv_X12_549 rfl gX12_fails dX12_beginsPart_93 hM (by rw [hcf]; decide) (as := []) rfl (Nat.le_of_ble_eq_true rfl) ⟨Gz, st, rfl, hM, (by exact hEX), (by omega), (by exact hRU.weak (by omega) (by omega) (by omega)), fun G37 hMG37 hpG37 => ?_⟩
          obtain ⟨hfG37, hpG37⟩ := hpG37
          have hFG37 : Fr nX12_beginsPart jX12_beginsPart G G37 := Fr.call Fr.rf hfG37 (by decide) (by decide)
          show WP kX12_beginsPart X 96 [some (2, ((1000 : Nat) : Int)), some (0, e), some (0, c), some (0, gS G a_eKind ((e).toNat)), some (0, T)] [] G37
          refine s_goto (tgt := 140) dX12_beginsPart_96 (by decide) ?_
          exact s_vret hR dX12_beginsPart_140 rfl (hQ G37 hMG37 (⟨hFG37, ⟨[], hpG37.1, Or.inl rfl, by have z1 := hpG37.2; have z2 : mesL Gz [] = 0 := rfl; omega⟩⟩))
        · -- 80 to 83
          refine s_aload_n dX12_beginsPart_83 rfl (Int.natCast_nonneg _) ?_
          refine s_iload dX12_beginsPart_84 rfl ?_
          refine cv_X12_546 rfl gX12_beginsCell dX12_beginsPart_86 hM (by rw [hcf]; decide) (as := [(0, T)]) rfl (Nat.le_of_ble_eq_true rfl) ⟨T, Gz, I, st, rfl, hM, (by exact hI), (by exact hUV), (by exact hEX), (by exact hFI), (by exact hZ), (by exact hRU.weak (by omega) (by omega) (by omega)), (by exact htg), (by omega), fun G39 hMG39 hpG39 => ?_⟩
          obtain ⟨hfG39, hpG39⟩ := hpG39
          have hFG39 : Fr nX12_beginsPart jX12_beginsPart G G39 := Fr.call Fr.rf hfG39 (by decide) (by decide)
          show WP kX12_beginsPart X 89 [some (2, ((1000 : Nat) : Int)), some (0, e), some (0, c), some (0, gS G a_eKind ((e).toNat)), some (0, T)] [] G39
          refine s_goto (tgt := 96) dX12_beginsPart_89 (by decide) ?_
          refine s_goto (tgt := 140) dX12_beginsPart_96 (by decide) ?_
          exact s_vret hR dX12_beginsPart_140 rfl (hQ G39 hMG39 (⟨hFG39, ⟨_, hpG39.1, Or.inr (by rw [hpG39.2.1]; exact GV.cell (Or.inr ⟨hG.nonil (by omega), hG⟩) (by omega)), by have z1 := hpG39.2.2; have z2 : mesL Gz ((exprC Gz T, 0, T) :: (T, 2, T) :: st) = me1 Gz (exprC Gz T) 0 + (me1 Gz T 2 + mesL Gz st) := rfl; rw [po1.z.2, po1.t.2] at z2; have hce := hI.cell hUV htg.1 htg.2; have hw := (hEX.w hce.2.2.1.1 hce.2.2.1.2).2; omega⟩⟩))
      · -- 56 to 59
        refine s_aload_n dX12_beginsPart_59 rfl (Int.natCast_nonneg _) ?_
        refine s_aload_n dX12_beginsPart_60 rfl (Int.natCast_nonneg _) ?_
        refine gf_cellValue rfl dX12_beginsPart_61 hM ?_
        refine s_iload dX12_beginsPart_64 rfl ?_
        refine s_iald dX12_beginsPart_66 (mg_a_cellValue hM) (by omega) (by omega) rfl ?_
        refine cv_X12_543 rfl gX12_gives dX12_beginsPart_67 hM (by rw [hcf]; decide) (as := [(0, gS G a_cellValue ((T).toNat))]) rfl (Nat.le_of_ble_eq_true rfl) ⟨gS G a_cellValue ((T).toNat), rfl, hM, (by first | assumption | omega), fun G41 hMG41 hpG41 => ?_⟩
        obtain ⟨G43, eG43, eG41, hpG41⟩ := hpG41
        have hFG43 : Fr nX12_beginsPart jX12_beginsPart G G43 := Fr.setA Fr.rf eG43 (by decide)
        have hFG41 : Fr nX12_beginsPart jX12_beginsPart G G41 := Fr.setF hFG43 eG41 (by decide)
        show WP kX12_beginsPart X 70 [some (2, ((1000 : Nat) : Int)), some (0, e), some (0, c), some (0, gS G a_eKind ((e).toNat)), some (0, T)] [] G41
        refine s_goto (tgt := 96) dX12_beginsPart_70 (by decide) ?_
        refine s_goto (tgt := 140) dX12_beginsPart_96 (by decide) ?_
        obtain ⟨hu2, hg2⟩ := hRU.give rfl (hRU.2.2.2.1 T htg.1 htg.2 (by omega)) eG43 eG41
        exact s_vret hR dX12_beginsPart_140 rfl (hQ G41 hMG41 (⟨hFG41, ⟨st, hu2.weak (by omega) (by omega) (by omega), Or.inr (by rw [hg2]; exact hG), by rw [s0.cg (G := G) (G' := G41) (n := (gS Gz 1000 67)) (fun j => (Fr.setF (Fr.setA (Fr.rf) eG43 (by decide)) eG41 (by decide) : Fr [a_give] [88] G G41).atA (by decide) (by decide))]; omega⟩⟩))
  · -- 8 to 11
    refine s_aload_n dX12_beginsPart_11 rfl (Int.natCast_nonneg _) ?_
    refine s_aload_n dX12_beginsPart_12 rfl (Int.natCast_nonneg _) ?_
    refine s_iconst dX12_beginsPart_13 (by decide) ?_
    refine s_iconst dX12_beginsPart_14 (by decide) ?_
    refine s_aload_n dX12_beginsPart_15 rfl (Int.natCast_nonneg _) ?_
    refine gf_eFirst rfl dX12_beginsPart_16 hM ?_
    refine s_iload_n dX12_beginsPart_19 rfl ?_
    refine s_iald dX12_beginsPart_20 (mg_a_eFirst hM) (by omega) (by omega) rfl ?_
    refine cv_X12_540 rfl gX12_value dX12_beginsPart_21 hM (by rw [hcf]; decide) (as := [(0, (-1)), (0, (-1)), (0, gS G a_eFirst ((e).toNat))]) rfl (Nat.le_of_ble_eq_true rfl) ⟨(-1), (-1), gS G a_eFirst ((e).toNat), rfl, hM, (by first | assumption | omega), (by first | assumption | omega), fun r45 G44 hMG44 hpG44 => ?_⟩
    obtain ⟨hfG44, hpG44⟩ := hpG44
    have hFG44 : Fr nX12_beginsPart jX12_beginsPart G G44 := Fr.call Fr.rf hfG44 (by decide) (by decide)
    show WP kX12_beginsPart X 24 [some (2, ((1000 : Nat) : Int)), some (0, e), some (0, c), some (0, gS G a_eKind ((e).toNat)), none] [(0, r45), (2, ((1000 : Nat) : Int))] G44
    have hq1 := hpG44
    have hu1 := hRU.val hfG44 (by decide) (by decide) (by decide) hq1.2.1 (hq1.2.2 hRU.2.2.1)
    have hl1 := hu1.len hEX (by omega) (by omega) (by omega)
    have hg1 : (gS G44 1000 88) = (gS G 1000 88) := hfG44.atF (by decide) (by decide)
    have hv1 := hq1.2.1
    refine cv_X12_543 rfl gX12_gives dX12_beginsPart_24 hMG44 (by rw [hcf]; decide) (as := [(0, r45)]) rfl (Nat.le_of_ble_eq_true rfl) ⟨r45, rfl, hMG44, (by first | assumption | omega), fun G46 hMG46 hpG46 => ?_⟩
    obtain ⟨G48, eG48, eG46, hpG46⟩ := hpG46
    have hFG48 : Fr nX12_beginsPart jX12_beginsPart G G48 := Fr.setA hFG44 eG48 (by decide)
    have hFG46 : Fr nX12_beginsPart jX12_beginsPart G G46 := Fr.setF hFG48 eG46 (by decide)
    show WP kX12_beginsPart X 27 [some (2, ((1000 : Nat) : Int)), some (0, e), some (0, c), some (0, gS G a_eKind ((e).toNat)), none] [] G46
    refine s_goto (tgt := 140) dX12_beginsPart_27 (by decide) ?_
    obtain ⟨hu2, hg2⟩ := hu1.give rfl (by omega) eG48 eG46
    exact s_vret hR dX12_beginsPart_140 rfl (hQ G46 hMG46 (⟨hFG46, ⟨st, hu2.weak (by omega) (by omega) (by omega), Or.inr (by rw [hg2, hg1]; exact hG), by rw [s0.cg (G := G) (G' := G46) (n := (gS Gz 1000 67)) (fun j => (Fr.setF (Fr.setA (Fr.call (Fr.rf) hfG44 (by decide) (by decide)) eG48 (by decide)) eG46 (by decide) : Fr [a_left, a_right, a_number, a_count, a_give] [79, 88] G G46).atA (by decide) (by decide))]; omega⟩⟩))
