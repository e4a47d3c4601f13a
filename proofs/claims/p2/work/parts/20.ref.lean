/-! THE REFERENCE: its object is the cell 1000, its array of the field in slot k the cell 1001 + k -/
abbrev a_tKind : Nat := 1002
abbrev a_tFirst : Nat := 1003
abbrev a_tSecond : Nat := 1004
abbrev a_tWeight : Nat := 1005
abbrev a_tNames : Nat := 1006
abbrev a_eKind : Nat := 1008
abbrev a_eFirst : Nat := 1009
abbrev a_eSecond : Nat := 1010
abbrev a_eThird : Nat := 1011
abbrev a_eWeight : Nat := 1012
abbrev a_versions : Nat := 1014
abbrev a_typeOf : Nat := 1015
abbrev a_valueType : Nat := 1016
abbrev a_valueBy : Nat := 1017
abbrev a_valueFlags : Nat := 1018
abbrev a_nKind : Nat := 1020
abbrev a_nFirst : Nat := 1021
abbrev a_nSecond : Nat := 1022
abbrev a_nThird : Nat := 1023
abbrev a_nWeight : Nat := 1024
abbrev a_isGenerative : Nat := 1025
abbrev a_fKind : Nat := 1028
abbrev a_fA : Nat := 1029
abbrev a_fB : Nat := 1030
abbrev a_fSize : Nat := 1031
abbrev a_fNext : Nat := 1032
abbrev a_fHead : Nat := 1033
abbrev a_fMark : Nat := 1034
abbrev a_fMemo : Nat := 1035
abbrev a_stackOf : Nat := 1038
abbrev a_by : Nat := 1039
abbrev a_byStamp : Nat := 1040
abbrev a_thingKind : Nat := 1044
abbrev a_thingA : Nat := 1045
abbrev a_thingB : Nat := 1046
abbrev a_thingC : Nat := 1047
abbrev a_thingNext : Nat := 1048
abbrev a_thingHead : Nat := 1049
abbrev a_sType : Nat := 1050
abbrev a_sValue : Nat := 1051
abbrev a_sFlags : Nat := 1052
abbrev a_sNumber : Nat := 1053
abbrev a_error : Nat := 1054
abbrev a_ident : Nat := 1055
abbrev a_raw : Nat := 1056
abbrev a_equation : Nat := 1057
abbrev a_solved : Nat := 1058
abbrev a_uses : Nat := 1059
abbrev a_reaches : Nat := 1060
abbrev a_todo : Nat := 1061
abbrev a_phase : Nat := 1062
abbrev a_found : Nat := 1063
abbrev a_versionAt : Nat := 1065
abbrev a_above : Nat := 1066
abbrev a_cellAt : Nat := 1067
abbrev a_cellOf : Nat := 1069
abbrev a_table : Nat := 1071
abbrev a_choiceCode : Nat := 1072
abbrev a_taken : Nat := 1073
abbrev a_workOn : Nat := 1075
abbrev a_workPhase : Nat := 1076
abbrev a_state : Nat := 1077
abbrev a_cellValue : Nat := 1078
abbrev a_reached : Nat := 1079
abbrev a_left : Nat := 1081
abbrev a_right : Nat := 1082
abbrev a_number : Nat := 1083
abbrev a_count : Nat := 1084
abbrev a_actOn : Nat := 1086
abbrev a_actPhase : Nat := 1087
abbrev a_actFor : Nat := 1088
abbrev a_give : Nat := 1090
abbrev a_logOf : Nat := 1092
abbrev a_lastOf : Nat := 1094
abbrev a_lastLeft : Nat := 1095
abbrev a_lastRight : Nat := 1096
abbrev a_lastNumber : Nat := 1097
abbrev a_lastCount : Nat := 1098
abbrev a_lastLog : Nat := 1100
abbrev a_build : Nat := 1104
abbrev a_seen : Nat := 1105
abbrev a_seenMany : Nat := 1106
abbrev a_face : Nat := 1107
abbrev a_faceMany : Nat := 1108
abbrev a_compiled : Nat := 1109
/-- kinds and lengths of its arrays, by slots -/
def mk : Nat → Nat × Nat := fun k => match k with
  | 1 => (1, 60)
  | 2 => (1, 60)
  | 3 => (1, 60)
  | 4 => (1, 60)
  | 5 => (1, 60)
  | 7 => (1, 120)
  | 8 => (1, 120)
  | 9 => (1, 120)
  | 10 => (1, 120)
  | 11 => (1, 120)
  | 13 => (1, 8)
  | 14 => (1, 240)
  | 15 => (1, 400)
  | 16 => (1, 400)
  | 17 => (1, 400)
  | 19 => (1, 40)
  | 20 => (1, 40)
  | 21 => (1, 40)
  | 22 => (1, 40)
  | 23 => (1, 40)
  | 24 => (2, 40)
  | 27 => (1, 150000)
  | 28 => (1, 150000)
  | 29 => (1, 150000)
  | 30 => (1, 150000)
  | 31 => (1, 150000)
  | 32 => (1, 16384)
  | 33 => (1, 150000)
  | 34 => (1, 150000)
  | 37 => (1, 20000)
  | 38 => (1, 6)
  | 39 => (1, 6)
  | 43 => (1, 60000)
  | 44 => (1, 60000)
  | 45 => (1, 60000)
  | 46 => (1, 60000)
  | 47 => (1, 60000)
  | 48 => (1, 4096)
  | 49 => (1, 258)
  | 50 => (1, 430)
  | 51 => (1, 430)
  | 52 => (1, 430)
  | 53 => (1, 40)
  | 54 => (1, 40)
  | 55 => (1, 60)
  | 56 => (1, 6)
  | 57 => (1, 6)
  | 58 => (1, 6)
  | 59 => (1, 6)
  | 60 => (1, 200)
  | 61 => (1, 200)
  | 62 => (1, 200)
  | 64 => (1, 24)
  | 65 => (1, 240)
  | 66 => (1, 240)
  | 68 => (1, 240)
  | 70 => (1, 500)
  | 71 => (1, 40)
  | 72 => (1, 40)
  | 74 => (1, 200)
  | 75 => (1, 200)
  | 76 => (1, 240)
  | 77 => (1, 240)
  | 78 => (2, 240)
  | 80 => (1, 4000)
  | 81 => (1, 4000)
  | 82 => (1, 4000)
  | 83 => (3, 4000)
  | 85 => (1, 4000)
  | 86 => (1, 4000)
  | 87 => (1, 4000)
  | 89 => (1, 4000)
  | 91 => (1, 240)
  | 93 => (1, 10)
  | 94 => (1, 4000)
  | 95 => (1, 4000)
  | 96 => (1, 4000)
  | 97 => (3, 4000)
  | 99 => (1, 240)
  | 103 => (1, 11000)
  | 104 => (1, 396000)
  | 105 => (1, 40)
  | 106 => (1, 136000)
  | 107 => (1, 40)
  | 108 => (1, 40)
  | _ => (0, 0)
def MG (G : LG) : Prop := gK G 1000 = (21, 0) ∧ ∀ k, k < 109 → (mk k).1 ≠ 0 → gK G (1001 + k) = mk k ∧ gS G 1000 k = ((1001 + k : Nat) : Int)
theorem MG.obj {G : LG} (h : MG G) : gK G 1000 = (13 + 8, 0) := h.1
theorem mg_set {G G' : LG} {n j : Nat} {v : Int} (h : MG G) (e : G' = gset G n j v) (hn : n ≠ 1000 ∨ (mk j).1 = 0) : MG G' := by
  subst e
  refine ⟨h.1, fun k hk h0 => ⟨(h.2 k hk h0).1, ?_⟩⟩
  rw [gset_ne]
  · exact (h.2 k hk h0).2
  · rintro ⟨rfl, rfl⟩
    rcases hn with hn | hn
    · exact hn rfl
    · exact h0 hn
theorem gsnE {G G' : LG} {n j n' j' : Nat} {v : Int} (e : G' = gset G n j v) (h : n' ≠ n) : gS G' n' j' = gS G n' j' := by rw [e]; exact gset_ne _ _ (fun q => h q.1)
theorem gsjE {G G' : LG} {n j j' : Nat} {v : Int} (e : G' = gset G n j v) (h : j' ≠ j) : gS G' n j' = gS G n j' := by rw [e]; exact gset_ne _ _ (fun q => h q.2)
theorem gsaE {G G' : LG} {n j : Nat} {v : Int} (e : G' = gset G n j v) : gS G' n j = v := by rw [e]; exact gset_at _ _ _ _
noncomputable def b2i (p : Prop) : Int := @ite _ p (Classical.propDecidable p) 1 0
theorem b2i_t {p : Prop} (h : p) : b2i p = 1 := if_pos h
theorem b2i_f {p : Prop} (h : ¬ p) : b2i p = 0 := if_neg h
theorem b2i_01 {p : Prop} : b2i p = 0 ∨ b2i p = 1 := by
  by_cases h : p
  · exact Or.inr (b2i_t h)
  · exact Or.inl (b2i_f h)
theorem b2i_e0 {p : Prop} : b2i p = 0 ↔ ¬ p := by
  by_cases h : p
  · rw [b2i_t h]; exact ⟨fun q => absurd q (by decide), fun q => absurd h q⟩
  · rw [b2i_f h]; exact ⟨fun _ => h, fun _ => rfl⟩
theorem b2i_e1 {p : Prop} : b2i p = 1 ↔ p := by
  by_cases h : p
  · rw [b2i_t h]; exact ⟨fun _ => h, fun _ => rfl⟩
  · rw [b2i_f h]; exact ⟨fun q => absurd q (by decide), fun q => absurd q h⟩
theorem b2i_c {p q : Prop} (h : p ↔ q) : b2i p = b2i q := by rw [propext h]
/-- the bit k of s, as the code asks for it -/
def bitI (s k : Int) : Prop := i_and (i_shr s k) 1 = 1
section REFR
variable {K : KD} {X : CX} {pc : Nat} {lv lv' : List (Option LV)} {st : List LV} {G : LG} {P : Prop}
theorem s_if_eqB {off : Int} {tgt : Nat} (hdg : decode K.2.1 pc = .ok (.ifCond .eq off, 3)) (ht : (pc : Int) + off = (tgt : Int)) (kt : ¬ P → WP K X tgt lv st G) (kf : P → WP K X (pc + 3) lv st G) : WP K X pc lv ((0, b2i P) :: st) G :=
  s_if_eq hdg ht (fun h => kt (b2i_e0.mp h)) (fun h => kf (Classical.byContradiction fun q => h (b2i_e0.mpr q)))
theorem s_if_neB {off : Int} {tgt : Nat} (hdg : decode K.2.1 pc = .ok (.ifCond .ne off, 3)) (ht : (pc : Int) + off = (tgt : Int)) (kt : P → WP K X tgt lv st G) (kf : ¬ P → WP K X (pc + 3) lv st G) : WP K X pc lv ((0, b2i P) :: st) G :=
  s_if_ne hdg ht (fun h => kt (Classical.byContradiction fun q => h (b2i_e0.mpr q))) (fun h => kf (b2i_e0.mp h))
theorem r_iast {n N : Nat} {i v : Int} (hdg : decode K.2.1 pc = .ok (.iastore, 1)) (hM : MG G) (hk : gK G n = (1, N)) (hn : n ≠ 1000) (h0 : 0 ≤ i) (h1 : i < N) (kk : ∀ G' : LG, G' = gset G n i.toNat v → MG G' → WP K X (pc + 1) lv st G') : WP K X pc lv ((0, v) :: (0, i) :: (2, (n : Int)) :: st) G :=
  s_iast hdg hk h0 h1 (kk _ rfl (mg_set hM rfl (Or.inl hn)))
theorem r_last {n N : Nat} {i v : Int} (hdg : decode K.2.1 pc = .ok (.lastore, 1)) (hM : MG G) (hk : gK G n = (3, N)) (hn : n ≠ 1000) (h0 : 0 ≤ i) (h1 : i < N) (kk : ∀ G' : LG, G' = gset G n i.toNat v → MG G' → WP K X (pc + 1) lv st G') : WP K X pc lv ((1, v) :: (0, i) :: (2, (n : Int)) :: st) G :=
  s_last hdg hk h0 h1 (kk _ rfl (mg_set hM rfl (Or.inl hn)))
theorem r_bast {n N : Nat} {i v : Int} (hdg : decode K.2.1 pc = .ok (.bastore, 1)) (hM : MG G) (hk : gK G n = (2, N)) (hn : n ≠ 1000) (h0 : 0 ≤ i) (h1 : i < N) (hx : v = 0 ∨ v = 1) (kk : ∀ G' : LG, G' = gset G n i.toNat v → MG G' → WP K X (pc + 1) lv st G') : WP K X pc lv ((0, v) :: (0, i) :: (2, (n : Int)) :: st) G :=
  s_bast hdg hk h0 h1 hx (kk _ rfl (mg_set hM rfl (Or.inl hn)))
theorem mg_a_tKind (h : MG G) : gK G a_tKind = (1, 60) := (h.2 1 (Nat.le_of_ble_eq_true rfl) (by decide)).1
theorem gf_tKind (ho : K.1 = RX12) (hdg : decode K.2.1 pc = .ok (.getfield 7, 3)) (hM : MG G) (kk : WP K X (pc + 3) lv ((2, ((a_tKind : Nat) : Int)) :: st) G) : WP K X pc lv ((2, ((1000 : Nat) : Int)) :: st) G :=
  s_getf (ci := 13) (k := 1) (C := RX12) (T := TX12) (N := 109) (n := 1000) hdg rfl wi_69 (by rw [ho]; exact m_555) (Nat.le_of_ble_eq_true rfl) rfl rfl hM.obj (hM.2 1 (Nat.le_of_ble_eq_true rfl) (by decide)).2 kk
theorem mg_a_tFirst (h : MG G) : gK G a_tFirst = (1, 60) := (h.2 2 (Nat.le_of_ble_eq_true rfl) (by decide)).1
theorem gf_tFirst (ho : K.1 = RX12) (hdg : decode K.2.1 pc = .ok (.getfield 13, 3)) (hM : MG G) (kk : WP K X (pc + 3) lv ((2, ((a_tFirst : Nat) : Int)) :: st) G) : WP K X pc lv ((2, ((1000 : Nat) : Int)) :: st) G :=
  s_getf (ci := 13) (k := 2) (C := RX12) (T := TX12) (N := 109) (n := 1000) hdg rfl wi_69 (by rw [ho]; exact m_466) (Nat.le_of_ble_eq_true rfl) rfl rfl hM.obj (hM.2 2 (Nat.le_of_ble_eq_true rfl) (by decide)).2 kk
theorem mg_a_tSecond (h : MG G) : gK G a_tSecond = (1, 60) := (h.2 3 (Nat.le_of_ble_eq_true rfl) (by decide)).1
theorem gf_tSecond (ho : K.1 = RX12) (hdg : decode K.2.1 pc = .ok (.getfield 16, 3)) (hM : MG G) (kk : WP K X (pc + 3) lv ((2, ((a_tSecond : Nat) : Int)) :: st) G) : WP K X pc lv ((2, ((1000 : Nat) : Int)) :: st) G :=
  s_getf (ci := 13) (k := 3) (C := RX12) (T := TX12) (N := 109) (n := 1000) hdg rfl wi_69 (by rw [ho]; exact m_477) (Nat.le_of_ble_eq_true rfl) rfl rfl hM.obj (hM.2 3 (Nat.le_of_ble_eq_true rfl) (by decide)).2 kk
theorem mg_a_tWeight (h : MG G) : gK G a_tWeight = (1, 60) := (h.2 4 (Nat.le_of_ble_eq_true rfl) (by decide)).1
theorem gf_tWeight (ho : K.1 = RX12) (hdg : decode K.2.1 pc = .ok (.getfield 19, 3)) (hM : MG G) (kk : WP K X (pc + 3) lv ((2, ((a_tWeight : Nat) : Int)) :: st) G) : WP K X pc lv ((2, ((1000 : Nat) : Int)) :: st) G :=
  s_getf (ci := 13) (k := 4) (C := RX12) (T := TX12) (N := 109) (n := 1000) hdg rfl wi_69 (by rw [ho]; exact m_488) (Nat.le_of_ble_eq_true rfl) rfl rfl hM.obj (hM.2 4 (Nat.le_of_ble_eq_true rfl) (by decide)).2 kk
theorem mg_a_tNames (h : MG G) : gK G a_tNames = (1, 60) := (h.2 5 (Nat.le_of_ble_eq_true rfl) (by decide)).1
theorem gf_tNames (ho : K.1 = RX12) (hdg : decode K.2.1 pc = .ok (.getfield 22, 3)) (hM : MG G) (kk : WP K X (pc + 3) lv ((2, ((a_tNames : Nat) : Int)) :: st) G) : WP K X pc lv ((2, ((1000 : Nat) : Int)) :: st) G :=
  s_getf (ci := 13) (k := 5) (C := RX12) (T := TX12) (N := 109) (n := 1000) hdg rfl wi_69 (by rw [ho]; exact m_499) (Nat.le_of_ble_eq_true rfl) rfl rfl hM.obj (hM.2 5 (Nat.le_of_ble_eq_true rfl) (by decide)).2 kk
theorem mg_a_eKind (h : MG G) : gK G a_eKind = (1, 120) := (h.2 7 (Nat.le_of_ble_eq_true rfl) (by decide)).1
theorem gf_eKind (ho : K.1 = RX12) (hdg : decode K.2.1 pc = .ok (.getfield 25, 3)) (hM : MG G) (kk : WP K X (pc + 3) lv ((2, ((a_eKind : Nat) : Int)) :: st) G) : WP K X pc lv ((2, ((1000 : Nat) : Int)) :: st) G :=
  s_getf (ci := 13) (k := 7) (C := RX12) (T := TX12) (N := 109) (n := 1000) hdg rfl wi_69 (by rw [ho]; exact m_510) (Nat.le_of_ble_eq_true rfl) rfl rfl hM.obj (hM.2 7 (Nat.le_of_ble_eq_true rfl) (by decide)).2 kk
theorem mg_a_eFirst (h : MG G) : gK G a_eFirst = (1, 120) := (h.2 8 (Nat.le_of_ble_eq_true rfl) (by decide)).1
theorem gf_eFirst (ho : K.1 = RX12) (hdg : decode K.2.1 pc = .ok (.getfield 28, 3)) (hM : MG G) (kk : WP K X (pc + 3) lv ((2, ((a_eFirst : Nat) : Int)) :: st) G) : WP K X pc lv ((2, ((1000 : Nat) : Int)) :: st) G :=
  s_getf (ci := 13) (k := 8) (C := RX12) (T := TX12) (N := 109) (n := 1000) hdg rfl wi_69 (by rw [ho]; exact m_519) (Nat.le_of_ble_eq_true rfl) rfl rfl hM.obj (hM.2 8 (Nat.le_of_ble_eq_true rfl) (by decide)).2 kk
theorem mg_a_eSecond (h : MG G) : gK G a_eSecond = (1, 120) := (h.2 9 (Nat.le_of_ble_eq_true rfl) (by decide)).1
theorem gf_eSecond (ho : K.1 = RX12) (hdg : decode K.2.1 pc = .ok (.getfield 31, 3)) (hM : MG G) (kk : WP K X (pc + 3) lv ((2, ((a_eSecond : Nat) : Int)) :: st) G) : WP K X pc lv ((2, ((1000 : Nat) : Int)) :: st) G :=
  s_getf (ci := 13) (k := 9) (C := RX12) (T := TX12) (N := 109) (n := 1000) hdg rfl wi_69 (by rw [ho]; exact m_523) (Nat.le_of_ble_eq_true rfl) rfl rfl hM.obj (hM.2 9 (Nat.le_of_ble_eq_true rfl) (by decide)).2 kk
theorem mg_a_eThird (h : MG G) : gK G a_eThird = (1, 120) := (h.2 10 (Nat.le_of_ble_eq_true rfl) (by decide)).1
theorem gf_eThird (ho : K.1 = RX12) (hdg : decode K.2.1 pc = .ok (.getfield 34, 3)) (hM : MG G) (kk : WP K X (pc + 3) lv ((2, ((a_eThird : Nat) : Int)) :: st) G) : WP K X pc lv ((2, ((1000 : Nat) : Int)) :: st) G :=
  s_getf (ci := 13) (k := 10) (C := RX12) (T := TX12) (N := 109) (n := 1000) hdg rfl wi_69 (by rw [ho]; exact m_525) (Nat.le_of_ble_eq_true rfl) rfl rfl hM.obj (hM.2 10 (Nat.le_of_ble_eq_true rfl) (by decide)).2 kk
theorem mg_a_eWeight (h : MG G) : gK G a_eWeight = (1, 120) := (h.2 11 (Nat.le_of_ble_eq_true rfl) (by decide)).1
theorem gf_eWeight (ho : K.1 = RX12) (hdg : decode K.2.1 pc = .ok (.getfield 37, 3)) (hM : MG G) (kk : WP K X (pc + 3) lv ((2, ((a_eWeight : Nat) : Int)) :: st) G) : WP K X pc lv ((2, ((1000 : Nat) : Int)) :: st) G :=
  s_getf (ci := 13) (k := 11) (C := RX12) (T := TX12) (N := 109) (n := 1000) hdg rfl wi_69 (by rw [ho]; exact m_531) (Nat.le_of_ble_eq_true rfl) rfl rfl hM.obj (hM.2 11 (Nat.le_of_ble_eq_true rfl) (by decide)).2 kk
theorem mg_a_versions (h : MG G) : gK G a_versions = (1, 8) := (h.2 13 (Nat.le_of_ble_eq_true rfl) (by decide)).1
theorem gf_versions (ho : K.1 = RX12) (hdg : decode K.2.1 pc = .ok (.getfield 40, 3)) (hM : MG G) (kk : WP K X (pc + 3) lv ((2, ((a_versions : Nat) : Int)) :: st) G) : WP K X pc lv ((2, ((1000 : Nat) : Int)) :: st) G :=
  s_getf (ci := 13) (k := 13) (C := RX12) (T := TX12) (N := 109) (n := 1000) hdg rfl wi_69 (by rw [ho]; exact m_532) (Nat.le_of_ble_eq_true rfl) rfl rfl hM.obj (hM.2 13 (Nat.le_of_ble_eq_true rfl) (by decide)).2 kk
theorem mg_a_typeOf (h : MG G) : gK G a_typeOf = (1, 240) := (h.2 14 (Nat.le_of_ble_eq_true rfl) (by decide)).1
theorem gf_typeOf (ho : K.1 = RX12) (hdg : decode K.2.1 pc = .ok (.getfield 43, 3)) (hM : MG G) (kk : WP K X (pc + 3) lv ((2, ((a_typeOf : Nat) : Int)) :: st) G) : WP K X pc lv ((2, ((1000 : Nat) : Int)) :: st) G :=
  s_getf (ci := 13) (k := 14) (C := RX12) (T := TX12) (N := 109) (n := 1000) hdg rfl wi_69 (by rw [ho]; exact m_533) (Nat.le_of_ble_eq_true rfl) rfl rfl hM.obj (hM.2 14 (Nat.le_of_ble_eq_true rfl) (by decide)).2 kk
theorem mg_a_valueType (h : MG G) : gK G a_valueType = (1, 400) := (h.2 15 (Nat.le_of_ble_eq_true rfl) (by decide)).1
theorem gf_valueType (ho : K.1 = RX12) (hdg : decode K.2.1 pc = .ok (.getfield 46, 3)) (hM : MG G) (kk : WP K X (pc + 3) lv ((2, ((a_valueType : Nat) : Int)) :: st) G) : WP K X pc lv ((2, ((1000 : Nat) : Int)) :: st) G :=
  s_getf (ci := 13) (k := 15) (C := RX12) (T := TX12) (N := 109) (n := 1000) hdg rfl wi_69 (by rw [ho]; exact m_534) (Nat.le_of_ble_eq_true rfl) rfl rfl hM.obj (hM.2 15 (Nat.le_of_ble_eq_true rfl) (by decide)).2 kk
theorem mg_a_valueBy (h : MG G) : gK G a_valueBy = (1, 400) := (h.2 16 (Nat.le_of_ble_eq_true rfl) (by decide)).1
theorem gf_valueBy (ho : K.1 = RX12) (hdg : decode K.2.1 pc = .ok (.getfield 49, 3)) (hM : MG G) (kk : WP K X (pc + 3) lv ((2, ((a_valueBy : Nat) : Int)) :: st) G) : WP K X pc lv ((2, ((1000 : Nat) : Int)) :: st) G :=
  s_getf (ci := 13) (k := 16) (C := RX12) (T := TX12) (N := 109) (n := 1000) hdg rfl wi_69 (by rw [ho]; exact m_536) (Nat.le_of_ble_eq_true rfl) rfl rfl hM.obj (hM.2 16 (Nat.le_of_ble_eq_true rfl) (by decide)).2 kk
theorem mg_a_valueFlags (h : MG G) : gK G a_valueFlags = (1, 400) := (h.2 17 (Nat.le_of_ble_eq_true rfl) (by decide)).1
theorem gf_valueFlags (ho : K.1 = RX12) (hdg : decode K.2.1 pc = .ok (.getfield 52, 3)) (hM : MG G) (kk : WP K X (pc + 3) lv ((2, ((a_valueFlags : Nat) : Int)) :: st) G) : WP K X pc lv ((2, ((1000 : Nat) : Int)) :: st) G :=
  s_getf (ci := 13) (k := 17) (C := RX12) (T := TX12) (N := 109) (n := 1000) hdg rfl wi_69 (by rw [ho]; exact m_540) (Nat.le_of_ble_eq_true rfl) rfl rfl hM.obj (hM.2 17 (Nat.le_of_ble_eq_true rfl) (by decide)).2 kk
theorem mg_a_nKind (h : MG G) : gK G a_nKind = (1, 40) := (h.2 19 (Nat.le_of_ble_eq_true rfl) (by decide)).1
theorem gf_nKind (ho : K.1 = RX12) (hdg : decode K.2.1 pc = .ok (.getfield 55, 3)) (hM : MG G) (kk : WP K X (pc + 3) lv ((2, ((a_nKind : Nat) : Int)) :: st) G) : WP K X pc lv ((2, ((1000 : Nat) : Int)) :: st) G :=
  s_getf (ci := 13) (k := 19) (C := RX12) (T := TX12) (N := 109) (n := 1000) hdg rfl wi_69 (by rw [ho]; exact m_544) (Nat.le_of_ble_eq_true rfl) rfl rfl hM.obj (hM.2 19 (Nat.le_of_ble_eq_true rfl) (by decide)).2 kk
theorem mg_a_nFirst (h : MG G) : gK G a_nFirst = (1, 40) := (h.2 20 (Nat.le_of_ble_eq_true rfl) (by decide)).1
theorem gf_nFirst (ho : K.1 = RX12) (hdg : decode K.2.1 pc = .ok (.getfield 58, 3)) (hM : MG G) (kk : WP K X (pc + 3) lv ((2, ((a_nFirst : Nat) : Int)) :: st) G) : WP K X pc lv ((2, ((1000 : Nat) : Int)) :: st) G :=
  s_getf (ci := 13) (k := 20) (C := RX12) (T := TX12) (N := 109) (n := 1000) hdg rfl wi_69 (by rw [ho]; exact m_546) (Nat.le_of_ble_eq_true rfl) rfl rfl hM.obj (hM.2 20 (Nat.le_of_ble_eq_true rfl) (by decide)).2 kk
theorem mg_a_nSecond (h : MG G) : gK G a_nSecond = (1, 40) := (h.2 21 (Nat.le_of_ble_eq_true rfl) (by decide)).1
theorem gf_nSecond (ho : K.1 = RX12) (hdg : decode K.2.1 pc = .ok (.getfield 61, 3)) (hM : MG G) (kk : WP K X (pc + 3) lv ((2, ((a_nSecond : Nat) : Int)) :: st) G) : WP K X pc lv ((2, ((1000 : Nat) : Int)) :: st) G :=
  s_getf (ci := 13) (k := 21) (C := RX12) (T := TX12) (N := 109) (n := 1000) hdg rfl wi_69 (by rw [ho]; exact m_552) (Nat.le_of_ble_eq_true rfl) rfl rfl hM.obj (hM.2 21 (Nat.le_of_ble_eq_true rfl) (by decide)).2 kk
theorem mg_a_nThird (h : MG G) : gK G a_nThird = (1, 40) := (h.2 22 (Nat.le_of_ble_eq_true rfl) (by decide)).1
theorem gf_nThird (ho : K.1 = RX12) (hdg : decode K.2.1 pc = .ok (.getfield 64, 3)) (hM : MG G) (kk : WP K X (pc + 3) lv ((2, ((a_nThird : Nat) : Int)) :: st) G) : WP K X pc lv ((2, ((1000 : Nat) : Int)) :: st) G :=
  s_getf (ci := 13) (k := 22) (C := RX12) (T := TX12) (N := 109) (n := 1000) hdg rfl wi_69 (by rw [ho]; exact m_553) (Nat.le_of_ble_eq_true rfl) rfl rfl hM.obj (hM.2 22 (Nat.le_of_ble_eq_true rfl) (by decide)).2 kk
theorem mg_a_nWeight (h : MG G) : gK G a_nWeight = (1, 40) := (h.2 23 (Nat.le_of_ble_eq_true rfl) (by decide)).1
theorem gf_nWeight (ho : K.1 = RX12) (hdg : decode K.2.1 pc = .ok (.getfield 67, 3)) (hM : MG G) (kk : WP K X (pc + 3) lv ((2, ((a_nWeight : Nat) : Int)) :: st) G) : WP K X pc lv ((2, ((1000 : Nat) : Int)) :: st) G :=
  s_getf (ci := 13) (k := 23) (C := RX12) (T := TX12) (N := 109) (n := 1000) hdg rfl wi_69 (by rw [ho]; exact m_554) (Nat.le_of_ble_eq_true rfl) rfl rfl hM.obj (hM.2 23 (Nat.le_of_ble_eq_true rfl) (by decide)).2 kk
theorem mg_a_isGenerative (h : MG G) : gK G a_isGenerative = (2, 40) := (h.2 24 (Nat.le_of_ble_eq_true rfl) (by decide)).1
theorem gf_isGenerative (ho : K.1 = RX12) (hdg : decode K.2.1 pc = .ok (.getfield 70, 3)) (hM : MG G) (kk : WP K X (pc + 3) lv ((2, ((a_isGenerative : Nat) : Int)) :: st) G) : WP K X pc lv ((2, ((1000 : Nat) : Int)) :: st) G :=
  s_getf (ci := 13) (k := 24) (C := RX12) (T := TX12) (N := 109) (n := 1000) hdg rfl wi_69 (by rw [ho]; exact m_556) (Nat.le_of_ble_eq_true rfl) rfl rfl hM.obj (hM.2 24 (Nat.le_of_ble_eq_true rfl) (by decide)).2 kk
theorem mg_a_fKind (h : MG G) : gK G a_fKind = (1, 150000) := (h.2 27 (Nat.le_of_ble_eq_true rfl) (by decide)).1
theorem gf_fKind (ho : K.1 = RX12) (hdg : decode K.2.1 pc = .ok (.getfield 75, 3)) (hM : MG G) (kk : WP K X (pc + 3) lv ((2, ((a_fKind : Nat) : Int)) :: st) G) : WP K X pc lv ((2, ((1000 : Nat) : Int)) :: st) G :=
  s_getf (ci := 13) (k := 27) (C := RX12) (T := TX12) (N := 109) (n := 1000) hdg rfl wi_69 (by rw [ho]; exact m_557) (Nat.le_of_ble_eq_true rfl) rfl rfl hM.obj (hM.2 27 (Nat.le_of_ble_eq_true rfl) (by decide)).2 kk
theorem mg_a_fA (h : MG G) : gK G a_fA = (1, 150000) := (h.2 28 (Nat.le_of_ble_eq_true rfl) (by decide)).1
theorem gf_fA (ho : K.1 = RX12) (hdg : decode K.2.1 pc = .ok (.getfield 78, 3)) (hM : MG G) (kk : WP K X (pc + 3) lv ((2, ((a_fA : Nat) : Int)) :: st) G) : WP K X pc lv ((2, ((1000 : Nat) : Int)) :: st) G :=
  s_getf (ci := 13) (k := 28) (C := RX12) (T := TX12) (N := 109) (n := 1000) hdg rfl wi_69 (by rw [ho]; exact m_558) (Nat.le_of_ble_eq_true rfl) rfl rfl hM.obj (hM.2 28 (Nat.le_of_ble_eq_true rfl) (by decide)).2 kk
theorem mg_a_fB (h : MG G) : gK G a_fB = (1, 150000) := (h.2 29 (Nat.le_of_ble_eq_true rfl) (by decide)).1
theorem gf_fB (ho : K.1 = RX12) (hdg : decode K.2.1 pc = .ok (.getfield 81, 3)) (hM : MG G) (kk : WP K X (pc + 3) lv ((2, ((a_fB : Nat) : Int)) :: st) G) : WP K X pc lv ((2, ((1000 : Nat) : Int)) :: st) G :=
  s_getf (ci := 13) (k := 29) (C := RX12) (T := TX12) (N := 109) (n := 1000) hdg rfl wi_69 (by rw [ho]; exact m_559) (Nat.le_of_ble_eq_true rfl) rfl rfl hM.obj (hM.2 29 (Nat.le_of_ble_eq_true rfl) (by decide)).2 kk
theorem mg_a_fSize (h : MG G) : gK G a_fSize = (1, 150000) := (h.2 30 (Nat.le_of_ble_eq_true rfl) (by decide)).1
theorem gf_fSize (ho : K.1 = RX12) (hdg : decode K.2.1 pc = .ok (.getfield 84, 3)) (hM : MG G) (kk : WP K X (pc + 3) lv ((2, ((a_fSize : Nat) : Int)) :: st) G) : WP K X pc lv ((2, ((1000 : Nat) : Int)) :: st) G :=
  s_getf (ci := 13) (k := 30) (C := RX12) (T := TX12) (N := 109) (n := 1000) hdg rfl wi_69 (by rw [ho]; exact m_560) (Nat.le_of_ble_eq_true rfl) rfl rfl hM.obj (hM.2 30 (Nat.le_of_ble_eq_true rfl) (by decide)).2 kk
theorem mg_a_fNext (h : MG G) : gK G a_fNext = (1, 150000) := (h.2 31 (Nat.le_of_ble_eq_true rfl) (by decide)).1
theorem gf_fNext (ho : K.1 = RX12) (hdg : decode K.2.1 pc = .ok (.getfield 87, 3)) (hM : MG G) (kk : WP K X (pc + 3) lv ((2, ((a_fNext : Nat) : Int)) :: st) G) : WP K X pc lv ((2, ((1000 : Nat) : Int)) :: st) G :=
  s_getf (ci := 13) (k := 31) (C := RX12) (T := TX12) (N := 109) (n := 1000) hdg rfl wi_69 (by rw [ho]; exact m_561) (Nat.le_of_ble_eq_true rfl) rfl rfl hM.obj (hM.2 31 (Nat.le_of_ble_eq_true rfl) (by decide)).2 kk
theorem mg_a_fHead (h : MG G) : gK G a_fHead = (1, 16384) := (h.2 32 (Nat.le_of_ble_eq_true rfl) (by decide)).1
theorem gf_fHead (ho : K.1 = RX12) (hdg : decode K.2.1 pc = .ok (.getfield 90, 3)) (hM : MG G) (kk : WP K X (pc + 3) lv ((2, ((a_fHead : Nat) : Int)) :: st) G) : WP K X pc lv ((2, ((1000 : Nat) : Int)) :: st) G :=
  s_getf (ci := 13) (k := 32) (C := RX12) (T := TX12) (N := 109) (n := 1000) hdg rfl wi_69 (by rw [ho]; exact m_562) (Nat.le_of_ble_eq_true rfl) rfl rfl hM.obj (hM.2 32 (Nat.le_of_ble_eq_true rfl) (by decide)).2 kk
theorem mg_a_fMark (h : MG G) : gK G a_fMark = (1, 150000) := (h.2 33 (Nat.le_of_ble_eq_true rfl) (by decide)).1
theorem gf_fMark (ho : K.1 = RX12) (hdg : decode K.2.1 pc = .ok (.getfield 93, 3)) (hM : MG G) (kk : WP K X (pc + 3) lv ((2, ((a_fMark : Nat) : Int)) :: st) G) : WP K X pc lv ((2, ((1000 : Nat) : Int)) :: st) G :=
  s_getf (ci := 13) (k := 33) (C := RX12) (T := TX12) (N := 109) (n := 1000) hdg rfl wi_69 (by rw [ho]; exact m_563) (Nat.le_of_ble_eq_true rfl) rfl rfl hM.obj (hM.2 33 (Nat.le_of_ble_eq_true rfl) (by decide)).2 kk
theorem mg_a_fMemo (h : MG G) : gK G a_fMemo = (1, 150000) := (h.2 34 (Nat.le_of_ble_eq_true rfl) (by decide)).1
theorem gf_fMemo (ho : K.1 = RX12) (hdg : decode K.2.1 pc = .ok (.getfield 96, 3)) (hM : MG G) (kk : WP K X (pc + 3) lv ((2, ((a_fMemo : Nat) : Int)) :: st) G) : WP K X pc lv ((2, ((1000 : Nat) : Int)) :: st) G :=
  s_getf (ci := 13) (k := 34) (C := RX12) (T := TX12) (N := 109) (n := 1000) hdg rfl wi_69 (by rw [ho]; exact m_564) (Nat.le_of_ble_eq_true rfl) rfl rfl hM.obj (hM.2 34 (Nat.le_of_ble_eq_true rfl) (by decide)).2 kk
theorem mg_a_stackOf (h : MG G) : gK G a_stackOf = (1, 20000) := (h.2 37 (Nat.le_of_ble_eq_true rfl) (by decide)).1
theorem gf_stackOf (ho : K.1 = RX12) (hdg : decode K.2.1 pc = .ok (.getfield 99, 3)) (hM : MG G) (kk : WP K X (pc + 3) lv ((2, ((a_stackOf : Nat) : Int)) :: st) G) : WP K X pc lv ((2, ((1000 : Nat) : Int)) :: st) G :=
  s_getf (ci := 13) (k := 37) (C := RX12) (T := TX12) (N := 109) (n := 1000) hdg rfl wi_69 (by rw [ho]; exact m_565) (Nat.le_of_ble_eq_true rfl) rfl rfl hM.obj (hM.2 37 (Nat.le_of_ble_eq_true rfl) (by decide)).2 kk
theorem mg_a_by (h : MG G) : gK G a_by = (1, 6) := (h.2 38 (Nat.le_of_ble_eq_true rfl) (by decide)).1
theorem gf_by (ho : K.1 = RX12) (hdg : decode K.2.1 pc = .ok (.getfield 102, 3)) (hM : MG G) (kk : WP K X (pc + 3) lv ((2, ((a_by : Nat) : Int)) :: st) G) : WP K X pc lv ((2, ((1000 : Nat) : Int)) :: st) G :=
  s_getf (ci := 13) (k := 38) (C := RX12) (T := TX12) (N := 109) (n := 1000) hdg rfl wi_69 (by rw [ho]; exact m_457) (Nat.le_of_ble_eq_true rfl) rfl rfl hM.obj (hM.2 38 (Nat.le_of_ble_eq_true rfl) (by decide)).2 kk
theorem mg_a_byStamp (h : MG G) : gK G a_byStamp = (1, 6) := (h.2 39 (Nat.le_of_ble_eq_true rfl) (by decide)).1
theorem gf_byStamp (ho : K.1 = RX12) (hdg : decode K.2.1 pc = .ok (.getfield 105, 3)) (hM : MG G) (kk : WP K X (pc + 3) lv ((2, ((a_byStamp : Nat) : Int)) :: st) G) : WP K X pc lv ((2, ((1000 : Nat) : Int)) :: st) G :=
  s_getf (ci := 13) (k := 39) (C := RX12) (T := TX12) (N := 109) (n := 1000) hdg rfl wi_69 (by rw [ho]; exact m_458) (Nat.le_of_ble_eq_true rfl) rfl rfl hM.obj (hM.2 39 (Nat.le_of_ble_eq_true rfl) (by decide)).2 kk
theorem mg_a_thingKind (h : MG G) : gK G a_thingKind = (1, 60000) := (h.2 43 (Nat.le_of_ble_eq_true rfl) (by decide)).1
theorem gf_thingKind (ho : K.1 = RX12) (hdg : decode K.2.1 pc = .ok (.getfield 109, 3)) (hM : MG G) (kk : WP K X (pc + 3) lv ((2, ((a_thingKind : Nat) : Int)) :: st) G) : WP K X pc lv ((2, ((1000 : Nat) : Int)) :: st) G :=
  s_getf (ci := 13) (k := 43) (C := RX12) (T := TX12) (N := 109) (n := 1000) hdg rfl wi_69 (by rw [ho]; exact m_459) (Nat.le_of_ble_eq_true rfl) rfl rfl hM.obj (hM.2 43 (Nat.le_of_ble_eq_true rfl) (by decide)).2 kk
theorem mg_a_thingA (h : MG G) : gK G a_thingA = (1, 60000) := (h.2 44 (Nat.le_of_ble_eq_true rfl) (by decide)).1
theorem gf_thingA (ho : K.1 = RX12) (hdg : decode K.2.1 pc = .ok (.getfield 112, 3)) (hM : MG G) (kk : WP K X (pc + 3) lv ((2, ((a_thingA : Nat) : Int)) :: st) G) : WP K X pc lv ((2, ((1000 : Nat) : Int)) :: st) G :=
  s_getf (ci := 13) (k := 44) (C := RX12) (T := TX12) (N := 109) (n := 1000) hdg rfl wi_69 (by rw [ho]; exact m_460) (Nat.le_of_ble_eq_true rfl) rfl rfl hM.obj (hM.2 44 (Nat.le_of_ble_eq_true rfl) (by decide)).2 kk
theorem mg_a_thingB (h : MG G) : gK G a_thingB = (1, 60000) := (h.2 45 (Nat.le_of_ble_eq_true rfl) (by decide)).1
theorem gf_thingB (ho : K.1 = RX12) (hdg : decode K.2.1 pc = .ok (.getfield 115, 3)) (hM : MG G) (kk : WP K X (pc + 3) lv ((2, ((a_thingB : Nat) : Int)) :: st) G) : WP K X pc lv ((2, ((1000 : Nat) : Int)) :: st) G :=
  s_getf (ci := 13) (k := 45) (C := RX12) (T := TX12) (N := 109) (n := 1000) hdg rfl wi_69 (by rw [ho]; exact m_461) (Nat.le_of_ble_eq_true rfl) rfl rfl hM.obj (hM.2 45 (Nat.le_of_ble_eq_true rfl) (by decide)).2 kk
theorem mg_a_thingC (h : MG G) : gK G a_thingC = (1, 60000) := (h.2 46 (Nat.le_of_ble_eq_true rfl) (by decide)).1
theorem gf_thingC (ho : K.1 = RX12) (hdg : decode K.2.1 pc = .ok (.getfield 118, 3)) (hM : MG G) (kk : WP K X (pc + 3) lv ((2, ((a_thingC : Nat) : Int)) :: st) G) : WP K X pc lv ((2, ((1000 : Nat) : Int)) :: st) G :=
  s_getf (ci := 13) (k := 46) (C := RX12) (T := TX12) (N := 109) (n := 1000) hdg rfl wi_69 (by rw [ho]; exact m_462) (Nat.le_of_ble_eq_true rfl) rfl rfl hM.obj (hM.2 46 (Nat.le_of_ble_eq_true rfl) (by decide)).2 kk
theorem mg_a_thingNext (h : MG G) : gK G a_thingNext = (1, 60000) := (h.2 47 (Nat.le_of_ble_eq_true rfl) (by decide)).1
theorem gf_thingNext (ho : K.1 = RX12) (hdg : decode K.2.1 pc = .ok (.getfield 121, 3)) (hM : MG G) (kk : WP K X (pc + 3) lv ((2, ((a_thingNext : Nat) : Int)) :: st) G) : WP K X pc lv ((2, ((1000 : Nat) : Int)) :: st) G :=
  s_getf (ci := 13) (k := 47) (C := RX12) (T := TX12) (N := 109) (n := 1000) hdg rfl wi_69 (by rw [ho]; exact m_463) (Nat.le_of_ble_eq_true rfl) rfl rfl hM.obj (hM.2 47 (Nat.le_of_ble_eq_true rfl) (by decide)).2 kk
theorem mg_a_thingHead (h : MG G) : gK G a_thingHead = (1, 4096) := (h.2 48 (Nat.le_of_ble_eq_true rfl) (by decide)).1
theorem gf_thingHead (ho : K.1 = RX12) (hdg : decode K.2.1 pc = .ok (.getfield 124, 3)) (hM : MG G) (kk : WP K X (pc + 3) lv ((2, ((a_thingHead : Nat) : Int)) :: st) G) : WP K X pc lv ((2, ((1000 : Nat) : Int)) :: st) G :=
  s_getf (ci := 13) (k := 48) (C := RX12) (T := TX12) (N := 109) (n := 1000) hdg rfl wi_69 (by rw [ho]; exact m_464) (Nat.le_of_ble_eq_true rfl) rfl rfl hM.obj (hM.2 48 (Nat.le_of_ble_eq_true rfl) (by decide)).2 kk
theorem mg_a_sType (h : MG G) : gK G a_sType = (1, 258) := (h.2 49 (Nat.le_of_ble_eq_true rfl) (by decide)).1
theorem gf_sType (ho : K.1 = RX12) (hdg : decode K.2.1 pc = .ok (.getfield 127, 3)) (hM : MG G) (kk : WP K X (pc + 3) lv ((2, ((a_sType : Nat) : Int)) :: st) G) : WP K X pc lv ((2, ((1000 : Nat) : Int)) :: st) G :=
  s_getf (ci := 13) (k := 49) (C := RX12) (T := TX12) (N := 109) (n := 1000) hdg rfl wi_69 (by rw [ho]; exact m_465) (Nat.le_of_ble_eq_true rfl) rfl rfl hM.obj (hM.2 49 (Nat.le_of_ble_eq_true rfl) (by decide)).2 kk
theorem mg_a_sValue (h : MG G) : gK G a_sValue = (1, 430) := (h.2 50 (Nat.le_of_ble_eq_true rfl) (by decide)).1
theorem gf_sValue (ho : K.1 = RX12) (hdg : decode K.2.1 pc = .ok (.getfield 130, 3)) (hM : MG G) (kk : WP K X (pc + 3) lv ((2, ((a_sValue : Nat) : Int)) :: st) G) : WP K X pc lv ((2, ((1000 : Nat) : Int)) :: st) G :=
  s_getf (ci := 13) (k := 50) (C := RX12) (T := TX12) (N := 109) (n := 1000) hdg rfl wi_69 (by rw [ho]; exact m_467) (Nat.le_of_ble_eq_true rfl) rfl rfl hM.obj (hM.2 50 (Nat.le_of_ble_eq_true rfl) (by decide)).2 kk
theorem mg_a_sFlags (h : MG G) : gK G a_sFlags = (1, 430) := (h.2 51 (Nat.le_of_ble_eq_true rfl) (by decide)).1
theorem gf_sFlags (ho : K.1 = RX12) (hdg : decode K.2.1 pc = .ok (.getfield 133, 3)) (hM : MG G) (kk : WP K X (pc + 3) lv ((2, ((a_sFlags : Nat) : Int)) :: st) G) : WP K X pc lv ((2, ((1000 : Nat) : Int)) :: st) G :=
  s_getf (ci := 13) (k := 51) (C := RX12) (T := TX12) (N := 109) (n := 1000) hdg rfl wi_69 (by rw [ho]; exact m_468) (Nat.le_of_ble_eq_true rfl) rfl rfl hM.obj (hM.2 51 (Nat.le_of_ble_eq_true rfl) (by decide)).2 kk
theorem mg_a_sNumber (h : MG G) : gK G a_sNumber = (1, 430) := (h.2 52 (Nat.le_of_ble_eq_true rfl) (by decide)).1
theorem gf_sNumber (ho : K.1 = RX12) (hdg : decode K.2.1 pc = .ok (.getfield 136, 3)) (hM : MG G) (kk : WP K X (pc + 3) lv ((2, ((a_sNumber : Nat) : Int)) :: st) G) : WP K X pc lv ((2, ((1000 : Nat) : Int)) :: st) G :=
  s_getf (ci := 13) (k := 52) (C := RX12) (T := TX12) (N := 109) (n := 1000) hdg rfl wi_69 (by rw [ho]; exact m_469) (Nat.le_of_ble_eq_true rfl) rfl rfl hM.obj (hM.2 52 (Nat.le_of_ble_eq_true rfl) (by decide)).2 kk
theorem mg_a_error (h : MG G) : gK G a_error = (1, 40) := (h.2 53 (Nat.le_of_ble_eq_true rfl) (by decide)).1
theorem gf_error (ho : K.1 = RX12) (hdg : decode K.2.1 pc = .ok (.getfield 139, 3)) (hM : MG G) (kk : WP K X (pc + 3) lv ((2, ((a_error : Nat) : Int)) :: st) G) : WP K X pc lv ((2, ((1000 : Nat) : Int)) :: st) G :=
  s_getf (ci := 13) (k := 53) (C := RX12) (T := TX12) (N := 109) (n := 1000) hdg rfl wi_69 (by rw [ho]; exact m_470) (Nat.le_of_ble_eq_true rfl) rfl rfl hM.obj (hM.2 53 (Nat.le_of_ble_eq_true rfl) (by decide)).2 kk
theorem mg_a_ident (h : MG G) : gK G a_ident = (1, 40) := (h.2 54 (Nat.le_of_ble_eq_true rfl) (by decide)).1
theorem gf_ident (ho : K.1 = RX12) (hdg : decode K.2.1 pc = .ok (.getfield 142, 3)) (hM : MG G) (kk : WP K X (pc + 3) lv ((2, ((a_ident : Nat) : Int)) :: st) G) : WP K X pc lv ((2, ((1000 : Nat) : Int)) :: st) G :=
  s_getf (ci := 13) (k := 54) (C := RX12) (T := TX12) (N := 109) (n := 1000) hdg rfl wi_69 (by rw [ho]; exact m_471) (Nat.le_of_ble_eq_true rfl) rfl rfl hM.obj (hM.2 54 (Nat.le_of_ble_eq_true rfl) (by decide)).2 kk
theorem mg_a_raw (h : MG G) : gK G a_raw = (1, 60) := (h.2 55 (Nat.le_of_ble_eq_true rfl) (by decide)).1
theorem gf_raw (ho : K.1 = RX12) (hdg : decode K.2.1 pc = .ok (.getfield 145, 3)) (hM : MG G) (kk : WP K X (pc + 3) lv ((2, ((a_raw : Nat) : Int)) :: st) G) : WP K X pc lv ((2, ((1000 : Nat) : Int)) :: st) G :=
  s_getf (ci := 13) (k := 55) (C := RX12) (T := TX12) (N := 109) (n := 1000) hdg rfl wi_69 (by rw [ho]; exact m_472) (Nat.le_of_ble_eq_true rfl) rfl rfl hM.obj (hM.2 55 (Nat.le_of_ble_eq_true rfl) (by decide)).2 kk
theorem mg_a_equation (h : MG G) : gK G a_equation = (1, 6) := (h.2 56 (Nat.le_of_ble_eq_true rfl) (by decide)).1
theorem gf_equation (ho : K.1 = RX12) (hdg : decode K.2.1 pc = .ok (.getfield 148, 3)) (hM : MG G) (kk : WP K X (pc + 3) lv ((2, ((a_equation : Nat) : Int)) :: st) G) : WP K X pc lv ((2, ((1000 : Nat) : Int)) :: st) G :=
  s_getf (ci := 13) (k := 56) (C := RX12) (T := TX12) (N := 109) (n := 1000) hdg rfl wi_69 (by rw [ho]; exact m_473) (Nat.le_of_ble_eq_true rfl) rfl rfl hM.obj (hM.2 56 (Nat.le_of_ble_eq_true rfl) (by decide)).2 kk
theorem mg_a_solved (h : MG G) : gK G a_solved = (1, 6) := (h.2 57 (Nat.le_of_ble_eq_true rfl) (by decide)).1
theorem gf_solved (ho : K.1 = RX12) (hdg : decode K.2.1 pc = .ok (.getfield 151, 3)) (hM : MG G) (kk : WP K X (pc + 3) lv ((2, ((a_solved : Nat) : Int)) :: st) G) : WP K X pc lv ((2, ((1000 : Nat) : Int)) :: st) G :=
  s_getf (ci := 13) (k := 57) (C := RX12) (T := TX12) (N := 109) (n := 1000) hdg rfl wi_69 (by rw [ho]; exact m_474) (Nat.le_of_ble_eq_true rfl) rfl rfl hM.obj (hM.2 57 (Nat.le_of_ble_eq_true rfl) (by decide)).2 kk
theorem mg_a_uses (h : MG G) : gK G a_uses = (1, 6) := (h.2 58 (Nat.le_of_ble_eq_true rfl) (by decide)).1
theorem gf_uses (ho : K.1 = RX12) (hdg : decode K.2.1 pc = .ok (.getfield 154, 3)) (hM : MG G) (kk : WP K X (pc + 3) lv ((2, ((a_uses : Nat) : Int)) :: st) G) : WP K X pc lv ((2, ((1000 : Nat) : Int)) :: st) G :=
  s_getf (ci := 13) (k := 58) (C := RX12) (T := TX12) (N := 109) (n := 1000) hdg rfl wi_69 (by rw [ho]; exact m_475) (Nat.le_of_ble_eq_true rfl) rfl rfl hM.obj (hM.2 58 (Nat.le_of_ble_eq_true rfl) (by decide)).2 kk
theorem mg_a_reaches (h : MG G) : gK G a_reaches = (1, 6) := (h.2 59 (Nat.le_of_ble_eq_true rfl) (by decide)).1
theorem gf_reaches (ho : K.1 = RX12) (hdg : decode K.2.1 pc = .ok (.getfield 157, 3)) (hM : MG G) (kk : WP K X (pc + 3) lv ((2, ((a_reaches : Nat) : Int)) :: st) G) : WP K X pc lv ((2, ((1000 : Nat) : Int)) :: st) G :=
  s_getf (ci := 13) (k := 59) (C := RX12) (T := TX12) (N := 109) (n := 1000) hdg rfl wi_69 (by rw [ho]; exact m_476) (Nat.le_of_ble_eq_true rfl) rfl rfl hM.obj (hM.2 59 (Nat.le_of_ble_eq_true rfl) (by decide)).2 kk
theorem mg_a_todo (h : MG G) : gK G a_todo = (1, 200) := (h.2 60 (Nat.le_of_ble_eq_true rfl) (by decide)).1
theorem gf_todo (ho : K.1 = RX12) (hdg : decode K.2.1 pc = .ok (.getfield 160, 3)) (hM : MG G) (kk : WP K X (pc + 3) lv ((2, ((a_todo : Nat) : Int)) :: st) G) : WP K X pc lv ((2, ((1000 : Nat) : Int)) :: st) G :=
  s_getf (ci := 13) (k := 60) (C := RX12) (T := TX12) (N := 109) (n := 1000) hdg rfl wi_69 (by rw [ho]; exact m_478) (Nat.le_of_ble_eq_true rfl) rfl rfl hM.obj (hM.2 60 (Nat.le_of_ble_eq_true rfl) (by decide)).2 kk
theorem mg_a_phase (h : MG G) : gK G a_phase = (1, 200) := (h.2 61 (Nat.le_of_ble_eq_true rfl) (by decide)).1
theorem gf_phase (ho : K.1 = RX12) (hdg : decode K.2.1 pc = .ok (.getfield 163, 3)) (hM : MG G) (kk : WP K X (pc + 3) lv ((2, ((a_phase : Nat) : Int)) :: st) G) : WP K X pc lv ((2, ((1000 : Nat) : Int)) :: st) G :=
  s_getf (ci := 13) (k := 61) (C := RX12) (T := TX12) (N := 109) (n := 1000) hdg rfl wi_69 (by rw [ho]; exact m_479) (Nat.le_of_ble_eq_true rfl) rfl rfl hM.obj (hM.2 61 (Nat.le_of_ble_eq_true rfl) (by decide)).2 kk
theorem mg_a_found (h : MG G) : gK G a_found = (1, 200) := (h.2 62 (Nat.le_of_ble_eq_true rfl) (by decide)).1
theorem gf_found (ho : K.1 = RX12) (hdg : decode K.2.1 pc = .ok (.getfield 166, 3)) (hM : MG G) (kk : WP K X (pc + 3) lv ((2, ((a_found : Nat) : Int)) :: st) G) : WP K X pc lv ((2, ((1000 : Nat) : Int)) :: st) G :=
  s_getf (ci := 13) (k := 62) (C := RX12) (T := TX12) (N := 109) (n := 1000) hdg rfl wi_69 (by rw [ho]; exact m_480) (Nat.le_of_ble_eq_true rfl) rfl rfl hM.obj (hM.2 62 (Nat.le_of_ble_eq_true rfl) (by decide)).2 kk
theorem mg_a_versionAt (h : MG G) : gK G a_versionAt = (1, 24) := (h.2 64 (Nat.le_of_ble_eq_true rfl) (by decide)).1
theorem gf_versionAt (ho : K.1 = RX12) (hdg : decode K.2.1 pc = .ok (.getfield 169, 3)) (hM : MG G) (kk : WP K X (pc + 3) lv ((2, ((a_versionAt : Nat) : Int)) :: st) G) : WP K X pc lv ((2, ((1000 : Nat) : Int)) :: st) G :=
  s_getf (ci := 13) (k := 64) (C := RX12) (T := TX12) (N := 109) (n := 1000) hdg rfl wi_69 (by rw [ho]; exact m_481) (Nat.le_of_ble_eq_true rfl) rfl rfl hM.obj (hM.2 64 (Nat.le_of_ble_eq_true rfl) (by decide)).2 kk
theorem mg_a_above (h : MG G) : gK G a_above = (1, 240) := (h.2 65 (Nat.le_of_ble_eq_true rfl) (by decide)).1
theorem gf_above (ho : K.1 = RX12) (hdg : decode K.2.1 pc = .ok (.getfield 172, 3)) (hM : MG G) (kk : WP K X (pc + 3) lv ((2, ((a_above : Nat) : Int)) :: st) G) : WP K X pc lv ((2, ((1000 : Nat) : Int)) :: st) G :=
  s_getf (ci := 13) (k := 65) (C := RX12) (T := TX12) (N := 109) (n := 1000) hdg rfl wi_69 (by rw [ho]; exact m_482) (Nat.le_of_ble_eq_true rfl) rfl rfl hM.obj (hM.2 65 (Nat.le_of_ble_eq_true rfl) (by decide)).2 kk
theorem mg_a_cellAt (h : MG G) : gK G a_cellAt = (1, 240) := (h.2 66 (Nat.le_of_ble_eq_true rfl) (by decide)).1
theorem gf_cellAt (ho : K.1 = RX12) (hdg : decode K.2.1 pc = .ok (.getfield 175, 3)) (hM : MG G) (kk : WP K X (pc + 3) lv ((2, ((a_cellAt : Nat) : Int)) :: st) G) : WP K X pc lv ((2, ((1000 : Nat) : Int)) :: st) G :=
  s_getf (ci := 13) (k := 66) (C := RX12) (T := TX12) (N := 109) (n := 1000) hdg rfl wi_69 (by rw [ho]; exact m_483) (Nat.le_of_ble_eq_true rfl) rfl rfl hM.obj (hM.2 66 (Nat.le_of_ble_eq_true rfl) (by decide)).2 kk
theorem mg_a_cellOf (h : MG G) : gK G a_cellOf = (1, 240) := (h.2 68 (Nat.le_of_ble_eq_true rfl) (by decide)).1
theorem gf_cellOf (ho : K.1 = RX12) (hdg : decode K.2.1 pc = .ok (.getfield 178, 3)) (hM : MG G) (kk : WP K X (pc + 3) lv ((2, ((a_cellOf : Nat) : Int)) :: st) G) : WP K X pc lv ((2, ((1000 : Nat) : Int)) :: st) G :=
  s_getf (ci := 13) (k := 68) (C := RX12) (T := TX12) (N := 109) (n := 1000) hdg rfl wi_69 (by rw [ho]; exact m_484) (Nat.le_of_ble_eq_true rfl) rfl rfl hM.obj (hM.2 68 (Nat.le_of_ble_eq_true rfl) (by decide)).2 kk
theorem mg_a_table (h : MG G) : gK G a_table = (1, 500) := (h.2 70 (Nat.le_of_ble_eq_true rfl) (by decide)).1
theorem gf_table (ho : K.1 = RX12) (hdg : decode K.2.1 pc = .ok (.getfield 181, 3)) (hM : MG G) (kk : WP K X (pc + 3) lv ((2, ((a_table : Nat) : Int)) :: st) G) : WP K X pc lv ((2, ((1000 : Nat) : Int)) :: st) G :=
  s_getf (ci := 13) (k := 70) (C := RX12) (T := TX12) (N := 109) (n := 1000) hdg rfl wi_69 (by rw [ho]; exact m_485) (Nat.le_of_ble_eq_true rfl) rfl rfl hM.obj (hM.2 70 (Nat.le_of_ble_eq_true rfl) (by decide)).2 kk
theorem mg_a_choiceCode (h : MG G) : gK G a_choiceCode = (1, 40) := (h.2 71 (Nat.le_of_ble_eq_true rfl) (by decide)).1
theorem gf_choiceCode (ho : K.1 = RX12) (hdg : decode K.2.1 pc = .ok (.getfield 184, 3)) (hM : MG G) (kk : WP K X (pc + 3) lv ((2, ((a_choiceCode : Nat) : Int)) :: st) G) : WP K X pc lv ((2, ((1000 : Nat) : Int)) :: st) G :=
  s_getf (ci := 13) (k := 71) (C := RX12) (T := TX12) (N := 109) (n := 1000) hdg rfl wi_69 (by rw [ho]; exact m_486) (Nat.le_of_ble_eq_true rfl) rfl rfl hM.obj (hM.2 71 (Nat.le_of_ble_eq_true rfl) (by decide)).2 kk
theorem mg_a_taken (h : MG G) : gK G a_taken = (1, 40) := (h.2 72 (Nat.le_of_ble_eq_true rfl) (by decide)).1
theorem gf_taken (ho : K.1 = RX12) (hdg : decode K.2.1 pc = .ok (.getfield 187, 3)) (hM : MG G) (kk : WP K X (pc + 3) lv ((2, ((a_taken : Nat) : Int)) :: st) G) : WP K X pc lv ((2, ((1000 : Nat) : Int)) :: st) G :=
  s_getf (ci := 13) (k := 72) (C := RX12) (T := TX12) (N := 109) (n := 1000) hdg rfl wi_69 (by rw [ho]; exact m_487) (Nat.le_of_ble_eq_true rfl) rfl rfl hM.obj (hM.2 72 (Nat.le_of_ble_eq_true rfl) (by decide)).2 kk
theorem mg_a_workOn (h : MG G) : gK G a_workOn = (1, 200) := (h.2 74 (Nat.le_of_ble_eq_true rfl) (by decide)).1
theorem gf_workOn (ho : K.1 = RX12) (hdg : decode K.2.1 pc = .ok (.getfield 190, 3)) (hM : MG G) (kk : WP K X (pc + 3) lv ((2, ((a_workOn : Nat) : Int)) :: st) G) : WP K X pc lv ((2, ((1000 : Nat) : Int)) :: st) G :=
  s_getf (ci := 13) (k := 74) (C := RX12) (T := TX12) (N := 109) (n := 1000) hdg rfl wi_69 (by rw [ho]; exact m_489) (Nat.le_of_ble_eq_true rfl) rfl rfl hM.obj (hM.2 74 (Nat.le_of_ble_eq_true rfl) (by decide)).2 kk
theorem mg_a_workPhase (h : MG G) : gK G a_workPhase = (1, 200) := (h.2 75 (Nat.le_of_ble_eq_true rfl) (by decide)).1
theorem gf_workPhase (ho : K.1 = RX12) (hdg : decode K.2.1 pc = .ok (.getfield 193, 3)) (hM : MG G) (kk : WP K X (pc + 3) lv ((2, ((a_workPhase : Nat) : Int)) :: st) G) : WP K X pc lv ((2, ((1000 : Nat) : Int)) :: st) G :=
  s_getf (ci := 13) (k := 75) (C := RX12) (T := TX12) (N := 109) (n := 1000) hdg rfl wi_69 (by rw [ho]; exact m_490) (Nat.le_of_ble_eq_true rfl) rfl rfl hM.obj (hM.2 75 (Nat.le_of_ble_eq_true rfl) (by decide)).2 kk
theorem mg_a_state (h : MG G) : gK G a_state = (1, 240) := (h.2 76 (Nat.le_of_ble_eq_true rfl) (by decide)).1
theorem gf_state (ho : K.1 = RX12) (hdg : decode K.2.1 pc = .ok (.getfield 196, 3)) (hM : MG G) (kk : WP K X (pc + 3) lv ((2, ((a_state : Nat) : Int)) :: st) G) : WP K X pc lv ((2, ((1000 : Nat) : Int)) :: st) G :=
  s_getf (ci := 13) (k := 76) (C := RX12) (T := TX12) (N := 109) (n := 1000) hdg rfl wi_69 (by rw [ho]; exact m_491) (Nat.le_of_ble_eq_true rfl) rfl rfl hM.obj (hM.2 76 (Nat.le_of_ble_eq_true rfl) (by decide)).2 kk
theorem mg_a_cellValue (h : MG G) : gK G a_cellValue = (1, 240) := (h.2 77 (Nat.le_of_ble_eq_true rfl) (by decide)).1
theorem gf_cellValue (ho : K.1 = RX12) (hdg : decode K.2.1 pc = .ok (.getfield 199, 3)) (hM : MG G) (kk : WP K X (pc + 3) lv ((2, ((a_cellValue : Nat) : Int)) :: st) G) : WP K X pc lv ((2, ((1000 : Nat) : Int)) :: st) G :=
  s_getf (ci := 13) (k := 77) (C := RX12) (T := TX12) (N := 109) (n := 1000) hdg rfl wi_69 (by rw [ho]; exact m_492) (Nat.le_of_ble_eq_true rfl) rfl rfl hM.obj (hM.2 77 (Nat.le_of_ble_eq_true rfl) (by decide)).2 kk
theorem mg_a_reached (h : MG G) : gK G a_reached = (2, 240) := (h.2 78 (Nat.le_of_ble_eq_true rfl) (by decide)).1
theorem gf_reached (ho : K.1 = RX12) (hdg : decode K.2.1 pc = .ok (.getfield 202, 3)) (hM : MG G) (kk : WP K X (pc + 3) lv ((2, ((a_reached : Nat) : Int)) :: st) G) : WP K X pc lv ((2, ((1000 : Nat) : Int)) :: st) G :=
  s_getf (ci := 13) (k := 78) (C := RX12) (T := TX12) (N := 109) (n := 1000) hdg rfl wi_69 (by rw [ho]; exact m_493) (Nat.le_of_ble_eq_true rfl) rfl rfl hM.obj (hM.2 78 (Nat.le_of_ble_eq_true rfl) (by decide)).2 kk
theorem mg_a_left (h : MG G) : gK G a_left = (1, 4000) := (h.2 80 (Nat.le_of_ble_eq_true rfl) (by decide)).1
theorem gf_left (ho : K.1 = RX12) (hdg : decode K.2.1 pc = .ok (.getfield 205, 3)) (hM : MG G) (kk : WP K X (pc + 3) lv ((2, ((a_left : Nat) : Int)) :: st) G) : WP K X pc lv ((2, ((1000 : Nat) : Int)) :: st) G :=
  s_getf (ci := 13) (k := 80) (C := RX12) (T := TX12) (N := 109) (n := 1000) hdg rfl wi_69 (by rw [ho]; exact m_494) (Nat.le_of_ble_eq_true rfl) rfl rfl hM.obj (hM.2 80 (Nat.le_of_ble_eq_true rfl) (by decide)).2 kk
theorem mg_a_right (h : MG G) : gK G a_right = (1, 4000) := (h.2 81 (Nat.le_of_ble_eq_true rfl) (by decide)).1
theorem gf_right (ho : K.1 = RX12) (hdg : decode K.2.1 pc = .ok (.getfield 208, 3)) (hM : MG G) (kk : WP K X (pc + 3) lv ((2, ((a_right : Nat) : Int)) :: st) G) : WP K X pc lv ((2, ((1000 : Nat) : Int)) :: st) G :=
  s_getf (ci := 13) (k := 81) (C := RX12) (T := TX12) (N := 109) (n := 1000) hdg rfl wi_69 (by rw [ho]; exact m_495) (Nat.le_of_ble_eq_true rfl) rfl rfl hM.obj (hM.2 81 (Nat.le_of_ble_eq_true rfl) (by decide)).2 kk
theorem mg_a_number (h : MG G) : gK G a_number = (1, 4000) := (h.2 82 (Nat.le_of_ble_eq_true rfl) (by decide)).1
theorem gf_number (ho : K.1 = RX12) (hdg : decode K.2.1 pc = .ok (.getfield 211, 3)) (hM : MG G) (kk : WP K X (pc + 3) lv ((2, ((a_number : Nat) : Int)) :: st) G) : WP K X pc lv ((2, ((1000 : Nat) : Int)) :: st) G :=
  s_getf (ci := 13) (k := 82) (C := RX12) (T := TX12) (N := 109) (n := 1000) hdg rfl wi_69 (by rw [ho]; exact m_496) (Nat.le_of_ble_eq_true rfl) rfl rfl hM.obj (hM.2 82 (Nat.le_of_ble_eq_true rfl) (by decide)).2 kk
theorem mg_a_count (h : MG G) : gK G a_count = (3, 4000) := (h.2 83 (Nat.le_of_ble_eq_true rfl) (by decide)).1
theorem gf_count (ho : K.1 = RX12) (hdg : decode K.2.1 pc = .ok (.getfield 214, 3)) (hM : MG G) (kk : WP K X (pc + 3) lv ((2, ((a_count : Nat) : Int)) :: st) G) : WP K X pc lv ((2, ((1000 : Nat) : Int)) :: st) G :=
  s_getf (ci := 13) (k := 83) (C := RX12) (T := TX12) (N := 109) (n := 1000) hdg rfl wi_69 (by rw [ho]; exact m_497) (Nat.le_of_ble_eq_true rfl) rfl rfl hM.obj (hM.2 83 (Nat.le_of_ble_eq_true rfl) (by decide)).2 kk
theorem mg_a_actOn (h : MG G) : gK G a_actOn = (1, 4000) := (h.2 85 (Nat.le_of_ble_eq_true rfl) (by decide)).1
theorem gf_actOn (ho : K.1 = RX12) (hdg : decode K.2.1 pc = .ok (.getfield 218, 3)) (hM : MG G) (kk : WP K X (pc + 3) lv ((2, ((a_actOn : Nat) : Int)) :: st) G) : WP K X pc lv ((2, ((1000 : Nat) : Int)) :: st) G :=
  s_getf (ci := 13) (k := 85) (C := RX12) (T := TX12) (N := 109) (n := 1000) hdg rfl wi_69 (by rw [ho]; exact m_498) (Nat.le_of_ble_eq_true rfl) rfl rfl hM.obj (hM.2 85 (Nat.le_of_ble_eq_true rfl) (by decide)).2 kk
theorem mg_a_actPhase (h : MG G) : gK G a_actPhase = (1, 4000) := (h.2 86 (Nat.le_of_ble_eq_true rfl) (by decide)).1
theorem gf_actPhase (ho : K.1 = RX12) (hdg : decode K.2.1 pc = .ok (.getfield 221, 3)) (hM : MG G) (kk : WP K X (pc + 3) lv ((2, ((a_actPhase : Nat) : Int)) :: st) G) : WP K X pc lv ((2, ((1000 : Nat) : Int)) :: st) G :=
  s_getf (ci := 13) (k := 86) (C := RX12) (T := TX12) (N := 109) (n := 1000) hdg rfl wi_69 (by rw [ho]; exact m_500) (Nat.le_of_ble_eq_true rfl) rfl rfl hM.obj (hM.2 86 (Nat.le_of_ble_eq_true rfl) (by decide)).2 kk
theorem mg_a_actFor (h : MG G) : gK G a_actFor = (1, 4000) := (h.2 87 (Nat.le_of_ble_eq_true rfl) (by decide)).1
theorem gf_actFor (ho : K.1 = RX12) (hdg : decode K.2.1 pc = .ok (.getfield 224, 3)) (hM : MG G) (kk : WP K X (pc + 3) lv ((2, ((a_actFor : Nat) : Int)) :: st) G) : WP K X pc lv ((2, ((1000 : Nat) : Int)) :: st) G :=
  s_getf (ci := 13) (k := 87) (C := RX12) (T := TX12) (N := 109) (n := 1000) hdg rfl wi_69 (by rw [ho]; exact m_501) (Nat.le_of_ble_eq_true rfl) rfl rfl hM.obj (hM.2 87 (Nat.le_of_ble_eq_true rfl) (by decide)).2 kk
theorem mg_a_give (h : MG G) : gK G a_give = (1, 4000) := (h.2 89 (Nat.le_of_ble_eq_true rfl) (by decide)).1
theorem gf_give (ho : K.1 = RX12) (hdg : decode K.2.1 pc = .ok (.getfield 227, 3)) (hM : MG G) (kk : WP K X (pc + 3) lv ((2, ((a_give : Nat) : Int)) :: st) G) : WP K X pc lv ((2, ((1000 : Nat) : Int)) :: st) G :=
  s_getf (ci := 13) (k := 89) (C := RX12) (T := TX12) (N := 109) (n := 1000) hdg rfl wi_69 (by rw [ho]; exact m_502) (Nat.le_of_ble_eq_true rfl) rfl rfl hM.obj (hM.2 89 (Nat.le_of_ble_eq_true rfl) (by decide)).2 kk
theorem mg_a_logOf (h : MG G) : gK G a_logOf = (1, 240) := (h.2 91 (Nat.le_of_ble_eq_true rfl) (by decide)).1
theorem gf_logOf (ho : K.1 = RX12) (hdg : decode K.2.1 pc = .ok (.getfield 230, 3)) (hM : MG G) (kk : WP K X (pc + 3) lv ((2, ((a_logOf : Nat) : Int)) :: st) G) : WP K X pc lv ((2, ((1000 : Nat) : Int)) :: st) G :=
  s_getf (ci := 13) (k := 91) (C := RX12) (T := TX12) (N := 109) (n := 1000) hdg rfl wi_69 (by rw [ho]; exact m_503) (Nat.le_of_ble_eq_true rfl) rfl rfl hM.obj (hM.2 91 (Nat.le_of_ble_eq_true rfl) (by decide)).2 kk
theorem mg_a_lastOf (h : MG G) : gK G a_lastOf = (1, 10) := (h.2 93 (Nat.le_of_ble_eq_true rfl) (by decide)).1
theorem gf_lastOf (ho : K.1 = RX12) (hdg : decode K.2.1 pc = .ok (.getfield 233, 3)) (hM : MG G) (kk : WP K X (pc + 3) lv ((2, ((a_lastOf : Nat) : Int)) :: st) G) : WP K X pc lv ((2, ((1000 : Nat) : Int)) :: st) G :=
  s_getf (ci := 13) (k := 93) (C := RX12) (T := TX12) (N := 109) (n := 1000) hdg rfl wi_69 (by rw [ho]; exact m_504) (Nat.le_of_ble_eq_true rfl) rfl rfl hM.obj (hM.2 93 (Nat.le_of_ble_eq_true rfl) (by decide)).2 kk
theorem mg_a_lastLeft (h : MG G) : gK G a_lastLeft = (1, 4000) := (h.2 94 (Nat.le_of_ble_eq_true rfl) (by decide)).1
theorem gf_lastLeft (ho : K.1 = RX12) (hdg : decode K.2.1 pc = .ok (.getfield 236, 3)) (hM : MG G) (kk : WP K X (pc + 3) lv ((2, ((a_lastLeft : Nat) : Int)) :: st) G) : WP K X pc lv ((2, ((1000 : Nat) : Int)) :: st) G :=
  s_getf (ci := 13) (k := 94) (C := RX12) (T := TX12) (N := 109) (n := 1000) hdg rfl wi_69 (by rw [ho]; exact m_505) (Nat.le_of_ble_eq_true rfl) rfl rfl hM.obj (hM.2 94 (Nat.le_of_ble_eq_true rfl) (by decide)).2 kk
theorem mg_a_lastRight (h : MG G) : gK G a_lastRight = (1, 4000) := (h.2 95 (Nat.le_of_ble_eq_true rfl) (by decide)).1
theorem gf_lastRight (ho : K.1 = RX12) (hdg : decode K.2.1 pc = .ok (.getfield 239, 3)) (hM : MG G) (kk : WP K X (pc + 3) lv ((2, ((a_lastRight : Nat) : Int)) :: st) G) : WP K X pc lv ((2, ((1000 : Nat) : Int)) :: st) G :=
  s_getf (ci := 13) (k := 95) (C := RX12) (T := TX12) (N := 109) (n := 1000) hdg rfl wi_69 (by rw [ho]; exact m_506) (Nat.le_of_ble_eq_true rfl) rfl rfl hM.obj (hM.2 95 (Nat.le_of_ble_eq_true rfl) (by decide)).2 kk
theorem mg_a_lastNumber (h : MG G) : gK G a_lastNumber = (1, 4000) := (h.2 96 (Nat.le_of_ble_eq_true rfl) (by decide)).1
theorem gf_lastNumber (ho : K.1 = RX12) (hdg : decode K.2.1 pc = .ok (.getfield 242, 3)) (hM : MG G) (kk : WP K X (pc + 3) lv ((2, ((a_lastNumber : Nat) : Int)) :: st) G) : WP K X pc lv ((2, ((1000 : Nat) : Int)) :: st) G :=
  s_getf (ci := 13) (k := 96) (C := RX12) (T := TX12) (N := 109) (n := 1000) hdg rfl wi_69 (by rw [ho]; exact m_507) (Nat.le_of_ble_eq_true rfl) rfl rfl hM.obj (hM.2 96 (Nat.le_of_ble_eq_true rfl) (by decide)).2 kk
theorem mg_a_lastCount (h : MG G) : gK G a_lastCount = (3, 4000) := (h.2 97 (Nat.le_of_ble_eq_true rfl) (by decide)).1
theorem gf_lastCount (ho : K.1 = RX12) (hdg : decode K.2.1 pc = .ok (.getfield 245, 3)) (hM : MG G) (kk : WP K X (pc + 3) lv ((2, ((a_lastCount : Nat) : Int)) :: st) G) : WP K X pc lv ((2, ((1000 : Nat) : Int)) :: st) G :=
  s_getf (ci := 13) (k := 97) (C := RX12) (T := TX12) (N := 109) (n := 1000) hdg rfl wi_69 (by rw [ho]; exact m_508) (Nat.le_of_ble_eq_true rfl) rfl rfl hM.obj (hM.2 97 (Nat.le_of_ble_eq_true rfl) (by decide)).2 kk
theorem mg_a_lastLog (h : MG G) : gK G a_lastLog = (1, 240) := (h.2 99 (Nat.le_of_ble_eq_true rfl) (by decide)).1
theorem gf_lastLog (ho : K.1 = RX12) (hdg : decode K.2.1 pc = .ok (.getfield 248, 3)) (hM : MG G) (kk : WP K X (pc + 3) lv ((2, ((a_lastLog : Nat) : Int)) :: st) G) : WP K X pc lv ((2, ((1000 : Nat) : Int)) :: st) G :=
  s_getf (ci := 13) (k := 99) (C := RX12) (T := TX12) (N := 109) (n := 1000) hdg rfl wi_69 (by rw [ho]; exact m_509) (Nat.le_of_ble_eq_true rfl) rfl rfl hM.obj (hM.2 99 (Nat.le_of_ble_eq_true rfl) (by decide)).2 kk
theorem mg_a_build (h : MG G) : gK G a_build = (1, 11000) := (h.2 103 (Nat.le_of_ble_eq_true rfl) (by decide)).1
theorem gf_build (ho : K.1 = RX12) (hdg : decode K.2.1 pc = .ok (.getfield 251, 3)) (hM : MG G) (kk : WP K X (pc + 3) lv ((2, ((a_build : Nat) : Int)) :: st) G) : WP K X pc lv ((2, ((1000 : Nat) : Int)) :: st) G :=
  s_getf (ci := 13) (k := 103) (C := RX12) (T := TX12) (N := 109) (n := 1000) hdg rfl wi_69 (by rw [ho]; exact m_511) (Nat.le_of_ble_eq_true rfl) rfl rfl hM.obj (hM.2 103 (Nat.le_of_ble_eq_true rfl) (by decide)).2 kk
theorem mg_a_seen (h : MG G) : gK G a_seen = (1, 396000) := (h.2 104 (Nat.le_of_ble_eq_true rfl) (by decide)).1
theorem gf_seen (ho : K.1 = RX12) (hdg : decode K.2.1 pc = .ok (.getfield 255, 3)) (hM : MG G) (kk : WP K X (pc + 3) lv ((2, ((a_seen : Nat) : Int)) :: st) G) : WP K X pc lv ((2, ((1000 : Nat) : Int)) :: st) G :=
  s_getf (ci := 13) (k := 104) (C := RX12) (T := TX12) (N := 109) (n := 1000) hdg rfl wi_69 (by rw [ho]; exact m_512) (Nat.le_of_ble_eq_true rfl) rfl rfl hM.obj (hM.2 104 (Nat.le_of_ble_eq_true rfl) (by decide)).2 kk
theorem mg_a_seenMany (h : MG G) : gK G a_seenMany = (1, 40) := (h.2 105 (Nat.le_of_ble_eq_true rfl) (by decide)).1
theorem gf_seenMany (ho : K.1 = RX12) (hdg : decode K.2.1 pc = .ok (.getfield 258, 3)) (hM : MG G) (kk : WP K X (pc + 3) lv ((2, ((a_seenMany : Nat) : Int)) :: st) G) : WP K X pc lv ((2, ((1000 : Nat) : Int)) :: st) G :=
  s_getf (ci := 13) (k := 105) (C := RX12) (T := TX12) (N := 109) (n := 1000) hdg rfl wi_69 (by rw [ho]; exact m_513) (Nat.le_of_ble_eq_true rfl) rfl rfl hM.obj (hM.2 105 (Nat.le_of_ble_eq_true rfl) (by decide)).2 kk
theorem mg_a_face (h : MG G) : gK G a_face = (1, 136000) := (h.2 106 (Nat.le_of_ble_eq_true rfl) (by decide)).1
theorem gf_face (ho : K.1 = RX12) (hdg : decode K.2.1 pc = .ok (.getfield 262, 3)) (hM : MG G) (kk : WP K X (pc + 3) lv ((2, ((a_face : Nat) : Int)) :: st) G) : WP K X pc lv ((2, ((1000 : Nat) : Int)) :: st) G :=
  s_getf (ci := 13) (k := 106) (C := RX12) (T := TX12) (N := 109) (n := 1000) hdg rfl wi_69 (by rw [ho]; exact m_514) (Nat.le_of_ble_eq_true rfl) rfl rfl hM.obj (hM.2 106 (Nat.le_of_ble_eq_true rfl) (by decide)).2 kk
theorem mg_a_faceMany (h : MG G) : gK G a_faceMany = (1, 40) := (h.2 107 (Nat.le_of_ble_eq_true rfl) (by decide)).1
theorem gf_faceMany (ho : K.1 = RX12) (hdg : decode K.2.1 pc = .ok (.getfield 265, 3)) (hM : MG G) (kk : WP K X (pc + 3) lv ((2, ((a_faceMany : Nat) : Int)) :: st) G) : WP K X pc lv ((2, ((1000 : Nat) : Int)) :: st) G :=
  s_getf (ci := 13) (k := 107) (C := RX12) (T := TX12) (N := 109) (n := 1000) hdg rfl wi_69 (by rw [ho]; exact m_515) (Nat.le_of_ble_eq_true rfl) rfl rfl hM.obj (hM.2 107 (Nat.le_of_ble_eq_true rfl) (by decide)).2 kk
theorem mg_a_compiled (h : MG G) : gK G a_compiled = (1, 40) := (h.2 108 (Nat.le_of_ble_eq_true rfl) (by decide)).1
theorem gf_compiled (ho : K.1 = RX12) (hdg : decode K.2.1 pc = .ok (.getfield 268, 3)) (hM : MG G) (kk : WP K X (pc + 3) lv ((2, ((a_compiled : Nat) : Int)) :: st) G) : WP K X pc lv ((2, ((1000 : Nat) : Int)) :: st) G :=
  s_getf (ci := 13) (k := 108) (C := RX12) (T := TX12) (N := 109) (n := 1000) hdg rfl wi_69 (by rw [ho]; exact m_516) (Nat.le_of_ble_eq_true rfl) rfl rfl hM.obj (hM.2 108 (Nat.le_of_ble_eq_true rfl) (by decide)).2 kk
theorem gf_thrown (ho : K.1 = RX12) (hdg : decode K.2.1 pc = .ok (.getfield 271, 3)) (hM : MG G) {v : Int} (hv : gS G 1000 25 = v) (kk : WP K X (pc + 3) lv ((0, v) :: st) G) : WP K X pc lv ((2, ((1000 : Nat) : Int)) :: st) G :=
  s_getf (ci := 13) (k := 25) (C := RX12) (T := TX12) (N := 109) (n := 1000) hdg rfl wi_69 (by rw [ho]; exact m_517) (Nat.le_of_ble_eq_true rfl) rfl rfl hM.obj hv kk
theorem pf_thrown (ho : K.1 = RX12) {v : Int} (hdg : decode K.2.1 pc = .ok (.putfield 271, 3)) (hM : MG G) (kk : ∀ G' : LG, G' = gset G 1000 25 v → MG G' → WP K X (pc + 3) lv st G') : WP K X pc lv ((0, v) :: (2, ((1000 : Nat) : Int)) :: st) G :=
  s_putf (ci := 13) (k := 25) (C := RX12) (T := TX12) (N := 109) (n := 1000) hdg rfl wi_69 (by rw [ho]; exact m_517) (Nat.le_of_ble_eq_true rfl) rfl rfl tyX12_ok nmX12 rfl (Or.inl rfl) hM.obj (kk _ rfl (mg_set hM rfl (Or.inr rfl)))
theorem gf_types (ho : K.1 = RX12) (hdg : decode K.2.1 pc = .ok (.getfield 275, 3)) (hM : MG G) {v : Int} (hv : gS G 1000 0 = v) (kk : WP K X (pc + 3) lv ((0, v) :: st) G) : WP K X pc lv ((2, ((1000 : Nat) : Int)) :: st) G :=
  s_getf (ci := 13) (k := 0) (C := RX12) (T := TX12) (N := 109) (n := 1000) hdg rfl wi_69 (by rw [ho]; exact m_518) (Nat.le_of_ble_eq_true rfl) rfl rfl hM.obj hv kk
theorem pf_types (ho : K.1 = RX12) {v : Int} (hdg : decode K.2.1 pc = .ok (.putfield 275, 3)) (hM : MG G) (kk : ∀ G' : LG, G' = gset G 1000 0 v → MG G' → WP K X (pc + 3) lv st G') : WP K X pc lv ((0, v) :: (2, ((1000 : Nat) : Int)) :: st) G :=
  s_putf (ci := 13) (k := 0) (C := RX12) (T := TX12) (N := 109) (n := 1000) hdg rfl wi_69 (by rw [ho]; exact m_518) (Nat.le_of_ble_eq_true rfl) rfl rfl tyX12_ok nmX12 rfl (Or.inl rfl) hM.obj (kk _ rfl (mg_set hM rfl (Or.inr rfl)))
theorem gf_expressions (ho : K.1 = RX12) (hdg : decode K.2.1 pc = .ok (.getfield 282, 3)) (hM : MG G) {v : Int} (hv : gS G 1000 6 = v) (kk : WP K X (pc + 3) lv ((0, v) :: st) G) : WP K X pc lv ((2, ((1000 : Nat) : Int)) :: st) G :=
  s_getf (ci := 13) (k := 6) (C := RX12) (T := TX12) (N := 109) (n := 1000) hdg rfl wi_69 (by rw [ho]; exact m_520) (Nat.le_of_ble_eq_true rfl) rfl rfl hM.obj hv kk
theorem pf_expressions (ho : K.1 = RX12) {v : Int} (hdg : decode K.2.1 pc = .ok (.putfield 282, 3)) (hM : MG G) (kk : ∀ G' : LG, G' = gset G 1000 6 v → MG G' → WP K X (pc + 3) lv st G') : WP K X pc lv ((0, v) :: (2, ((1000 : Nat) : Int)) :: st) G :=
  s_putf (ci := 13) (k := 6) (C := RX12) (T := TX12) (N := 109) (n := 1000) hdg rfl wi_69 (by rw [ho]; exact m_520) (Nat.le_of_ble_eq_true rfl) rfl rfl tyX12_ok nmX12 rfl (Or.inl rfl) hM.obj (kk _ rfl (mg_set hM rfl (Or.inr rfl)))
theorem gf_units (ho : K.1 = RX12) (hdg : decode K.2.1 pc = .ok (.getfield 285, 3)) (hM : MG G) {v : Int} (hv : gS G 1000 12 = v) (kk : WP K X (pc + 3) lv ((0, v) :: st) G) : WP K X pc lv ((2, ((1000 : Nat) : Int)) :: st) G :=
  s_getf (ci := 13) (k := 12) (C := RX12) (T := TX12) (N := 109) (n := 1000) hdg rfl wi_69 (by rw [ho]; exact m_521) (Nat.le_of_ble_eq_true rfl) rfl rfl hM.obj hv kk
theorem pf_units (ho : K.1 = RX12) {v : Int} (hdg : decode K.2.1 pc = .ok (.putfield 285, 3)) (hM : MG G) (kk : ∀ G' : LG, G' = gset G 1000 12 v → MG G' → WP K X (pc + 3) lv st G') : WP K X pc lv ((0, v) :: (2, ((1000 : Nat) : Int)) :: st) G :=
  s_putf (ci := 13) (k := 12) (C := RX12) (T := TX12) (N := 109) (n := 1000) hdg rfl wi_69 (by rw [ho]; exact m_521) (Nat.le_of_ble_eq_true rfl) rfl rfl tyX12_ok nmX12 rfl (Or.inl rfl) hM.obj (kk _ rfl (mg_set hM rfl (Or.inr rfl)))
theorem gf_nodes (ho : K.1 = RX12) (hdg : decode K.2.1 pc = .ok (.getfield 288, 3)) (hM : MG G) {v : Int} (hv : gS G 1000 18 = v) (kk : WP K X (pc + 3) lv ((0, v) :: st) G) : WP K X pc lv ((2, ((1000 : Nat) : Int)) :: st) G :=
  s_getf (ci := 13) (k := 18) (C := RX12) (T := TX12) (N := 109) (n := 1000) hdg rfl wi_69 (by rw [ho]; exact m_522) (Nat.le_of_ble_eq_true rfl) rfl rfl hM.obj hv kk
theorem pf_nodes (ho : K.1 = RX12) {v : Int} (hdg : decode K.2.1 pc = .ok (.putfield 288, 3)) (hM : MG G) (kk : ∀ G' : LG, G' = gset G 1000 18 v → MG G' → WP K X (pc + 3) lv st G') : WP K X pc lv ((0, v) :: (2, ((1000 : Nat) : Int)) :: st) G :=
  s_putf (ci := 13) (k := 18) (C := RX12) (T := TX12) (N := 109) (n := 1000) hdg rfl wi_69 (by rw [ho]; exact m_522) (Nat.le_of_ble_eq_true rfl) rfl rfl tyX12_ok nmX12 rfl (Or.inl rfl) hM.obj (kk _ rfl (mg_set hM rfl (Or.inr rfl)))
theorem gf_fulls (ho : K.1 = RX12) (hdg : decode K.2.1 pc = .ok (.getfield 333, 3)) (hM : MG G) {v : Int} (hv : gS G 1000 26 = v) (kk : WP K X (pc + 3) lv ((0, v) :: st) G) : WP K X pc lv ((2, ((1000 : Nat) : Int)) :: st) G :=
  s_getf (ci := 13) (k := 26) (C := RX12) (T := TX12) (N := 109) (n := 1000) hdg rfl wi_69 (by rw [ho]; exact m_524) (Nat.le_of_ble_eq_true rfl) rfl rfl hM.obj hv kk
theorem pf_fulls (ho : K.1 = RX12) {v : Int} (hdg : decode K.2.1 pc = .ok (.putfield 333, 3)) (hM : MG G) (kk : ∀ G' : LG, G' = gset G 1000 26 v → MG G' → WP K X (pc + 3) lv st G') : WP K X pc lv ((0, v) :: (2, ((1000 : Nat) : Int)) :: st) G :=
  s_putf (ci := 13) (k := 26) (C := RX12) (T := TX12) (N := 109) (n := 1000) hdg rfl wi_69 (by rw [ho]; exact m_524) (Nat.le_of_ble_eq_true rfl) rfl rfl tyX12_ok nmX12 rfl (Or.inl rfl) hM.obj (kk _ rfl (mg_set hM rfl (Or.inr rfl)))
theorem gf_stampKind (ho : K.1 = RX12) (hdg : decode K.2.1 pc = .ok (.getfield 342, 3)) (hM : MG G) {v : Int} (hv : gS G 1000 40 = v) (kk : WP K X (pc + 3) lv ((0, v) :: st) G) : WP K X pc lv ((2, ((1000 : Nat) : Int)) :: st) G :=
  s_getf (ci := 13) (k := 40) (C := RX12) (T := TX12) (N := 109) (n := 1000) hdg rfl wi_69 (by rw [ho]; exact m_526) (Nat.le_of_ble_eq_true rfl) rfl rfl hM.obj hv kk
theorem pf_stampKind (ho : K.1 = RX12) {v : Int} (hdg : decode K.2.1 pc = .ok (.putfield 342, 3)) (hM : MG G) (kk : ∀ G' : LG, G' = gset G 1000 40 v → MG G' → WP K X (pc + 3) lv st G') : WP K X pc lv ((0, v) :: (2, ((1000 : Nat) : Int)) :: st) G :=
  s_putf (ci := 13) (k := 40) (C := RX12) (T := TX12) (N := 109) (n := 1000) hdg rfl wi_69 (by rw [ho]; exact m_526) (Nat.le_of_ble_eq_true rfl) rfl rfl tyX12_ok nmX12 rfl (Or.inl rfl) hM.obj (kk _ rfl (mg_set hM rfl (Or.inr rfl)))
theorem gf_stampOf (ho : K.1 = RX12) (hdg : decode K.2.1 pc = .ok (.getfield 345, 3)) (hM : MG G) {v : Int} (hv : gS G 1000 41 = v) (kk : WP K X (pc + 3) lv ((0, v) :: st) G) : WP K X pc lv ((2, ((1000 : Nat) : Int)) :: st) G :=
  s_getf (ci := 13) (k := 41) (C := RX12) (T := TX12) (N := 109) (n := 1000) hdg rfl wi_69 (by rw [ho]; exact m_527) (Nat.le_of_ble_eq_true rfl) rfl rfl hM.obj hv kk
theorem pf_stampOf (ho : K.1 = RX12) {v : Int} (hdg : decode K.2.1 pc = .ok (.putfield 345, 3)) (hM : MG G) (kk : ∀ G' : LG, G' = gset G 1000 41 v → MG G' → WP K X (pc + 3) lv st G') : WP K X pc lv ((0, v) :: (2, ((1000 : Nat) : Int)) :: st) G :=
  s_putf (ci := 13) (k := 41) (C := RX12) (T := TX12) (N := 109) (n := 1000) hdg rfl wi_69 (by rw [ho]; exact m_527) (Nat.le_of_ble_eq_true rfl) rfl rfl tyX12_ok nmX12 rfl (Or.inl rfl) hM.obj (kk _ rfl (mg_set hM rfl (Or.inr rfl)))
theorem gf_mark (ho : K.1 = RX12) (hdg : decode K.2.1 pc = .ok (.getfield 351, 3)) (hM : MG G) {v : Int} (hv : gS G 1000 35 = v) (kk : WP K X (pc + 3) lv ((0, v) :: st) G) : WP K X pc lv ((2, ((1000 : Nat) : Int)) :: st) G :=
  s_getf (ci := 13) (k := 35) (C := RX12) (T := TX12) (N := 109) (n := 1000) hdg rfl wi_69 (by rw [ho]; exact m_528) (Nat.le_of_ble_eq_true rfl) rfl rfl hM.obj hv kk
theorem pf_mark (ho : K.1 = RX12) {v : Int} (hdg : decode K.2.1 pc = .ok (.putfield 351, 3)) (hM : MG G) (kk : ∀ G' : LG, G' = gset G 1000 35 v → MG G' → WP K X (pc + 3) lv st G') : WP K X pc lv ((0, v) :: (2, ((1000 : Nat) : Int)) :: st) G :=
  s_putf (ci := 13) (k := 35) (C := RX12) (T := TX12) (N := 109) (n := 1000) hdg rfl wi_69 (by rw [ho]; exact m_528) (Nat.le_of_ble_eq_true rfl) rfl rfl tyX12_ok nmX12 rfl (Or.inl rfl) hM.obj (kk _ rfl (mg_set hM rfl (Or.inr rfl)))
theorem gf_stack (ho : K.1 = RX12) (hdg : decode K.2.1 pc = .ok (.getfield 354, 3)) (hM : MG G) {v : Int} (hv : gS G 1000 36 = v) (kk : WP K X (pc + 3) lv ((0, v) :: st) G) : WP K X pc lv ((2, ((1000 : Nat) : Int)) :: st) G :=
  s_getf (ci := 13) (k := 36) (C := RX12) (T := TX12) (N := 109) (n := 1000) hdg rfl wi_69 (by rw [ho]; exact m_529) (Nat.le_of_ble_eq_true rfl) rfl rfl hM.obj hv kk
theorem pf_stack (ho : K.1 = RX12) {v : Int} (hdg : decode K.2.1 pc = .ok (.putfield 354, 3)) (hM : MG G) (kk : ∀ G' : LG, G' = gset G 1000 36 v → MG G' → WP K X (pc + 3) lv st G') : WP K X pc lv ((0, v) :: (2, ((1000 : Nat) : Int)) :: st) G :=
  s_putf (ci := 13) (k := 36) (C := RX12) (T := TX12) (N := 109) (n := 1000) hdg rfl wi_69 (by rw [ho]; exact m_529) (Nat.le_of_ble_eq_true rfl) rfl rfl tyX12_ok nmX12 rfl (Or.inl rfl) hM.obj (kk _ rfl (mg_set hM rfl (Or.inr rfl)))
theorem gf_things (ho : K.1 = RX12) (hdg : decode K.2.1 pc = .ok (.getfield 360, 3)) (hM : MG G) {v : Int} (hv : gS G 1000 42 = v) (kk : WP K X (pc + 3) lv ((0, v) :: st) G) : WP K X pc lv ((2, ((1000 : Nat) : Int)) :: st) G :=
  s_getf (ci := 13) (k := 42) (C := RX12) (T := TX12) (N := 109) (n := 1000) hdg rfl wi_69 (by rw [ho]; exact m_530) (Nat.le_of_ble_eq_true rfl) rfl rfl hM.obj hv kk
theorem pf_things (ho : K.1 = RX12) {v : Int} (hdg : decode K.2.1 pc = .ok (.putfield 360, 3)) (hM : MG G) (kk : ∀ G' : LG, G' = gset G 1000 42 v → MG G' → WP K X (pc + 3) lv st G') : WP K X pc lv ((0, v) :: (2, ((1000 : Nat) : Int)) :: st) G :=
  s_putf (ci := 13) (k := 42) (C := RX12) (T := TX12) (N := 109) (n := 1000) hdg rfl wi_69 (by rw [ho]; exact m_530) (Nat.le_of_ble_eq_true rfl) rfl rfl tyX12_ok nmX12 rfl (Or.inl rfl) hM.obj (kk _ rfl (mg_set hM rfl (Or.inr rfl)))
theorem gf_works (ho : K.1 = RX12) (hdg : decode K.2.1 pc = .ok (.getfield 488, 3)) (hM : MG G) {v : Int} (hv : gS G 1000 73 = v) (kk : WP K X (pc + 3) lv ((0, v) :: st) G) : WP K X pc lv ((2, ((1000 : Nat) : Int)) :: st) G :=
  s_getf (ci := 13) (k := 73) (C := RX12) (T := TX12) (N := 109) (n := 1000) hdg rfl wi_69 (by rw [ho]; exact m_535) (Nat.le_of_ble_eq_true rfl) rfl rfl hM.obj hv kk
theorem pf_works (ho : K.1 = RX12) {v : Int} (hdg : decode K.2.1 pc = .ok (.putfield 488, 3)) (hM : MG G) (kk : ∀ G' : LG, G' = gset G 1000 73 v → MG G' → WP K X (pc + 3) lv st G') : WP K X pc lv ((0, v) :: (2, ((1000 : Nat) : Int)) :: st) G :=
  s_putf (ci := 13) (k := 73) (C := RX12) (T := TX12) (N := 109) (n := 1000) hdg rfl wi_69 (by rw [ho]; exact m_535) (Nat.le_of_ble_eq_true rfl) rfl rfl tyX12_ok nmX12 rfl (Or.inl rfl) hM.obj (kk _ rfl (mg_set hM rfl (Or.inr rfl)))
theorem gf_instances (ho : K.1 = RX12) (hdg : decode K.2.1 pc = .ok (.getfield 491, 3)) (hM : MG G) {v : Int} (hv : gS G 1000 63 = v) (kk : WP K X (pc + 3) lv ((0, v) :: st) G) : WP K X pc lv ((2, ((1000 : Nat) : Int)) :: st) G :=
  s_getf (ci := 13) (k := 63) (C := RX12) (T := TX12) (N := 109) (n := 1000) hdg rfl wi_69 (by rw [ho]; exact m_537) (Nat.le_of_ble_eq_true rfl) rfl rfl hM.obj hv kk
theorem pf_instances (ho : K.1 = RX12) {v : Int} (hdg : decode K.2.1 pc = .ok (.putfield 491, 3)) (hM : MG G) (kk : ∀ G' : LG, G' = gset G 1000 63 v → MG G' → WP K X (pc + 3) lv st G') : WP K X pc lv ((0, v) :: (2, ((1000 : Nat) : Int)) :: st) G :=
  s_putf (ci := 13) (k := 63) (C := RX12) (T := TX12) (N := 109) (n := 1000) hdg rfl wi_69 (by rw [ho]; exact m_537) (Nat.le_of_ble_eq_true rfl) rfl rfl tyX12_ok nmX12 rfl (Or.inl rfl) hM.obj (kk _ rfl (mg_set hM rfl (Or.inr rfl)))
theorem gf_cells (ho : K.1 = RX12) (hdg : decode K.2.1 pc = .ok (.getfield 494, 3)) (hM : MG G) {v : Int} (hv : gS G 1000 67 = v) (kk : WP K X (pc + 3) lv ((0, v) :: st) G) : WP K X pc lv ((2, ((1000 : Nat) : Int)) :: st) G :=
  s_getf (ci := 13) (k := 67) (C := RX12) (T := TX12) (N := 109) (n := 1000) hdg rfl wi_69 (by rw [ho]; exact m_538) (Nat.le_of_ble_eq_true rfl) rfl rfl hM.obj hv kk
theorem pf_cells (ho : K.1 = RX12) {v : Int} (hdg : decode K.2.1 pc = .ok (.putfield 494, 3)) (hM : MG G) (kk : ∀ G' : LG, G' = gset G 1000 67 v → MG G' → WP K X (pc + 3) lv st G') : WP K X pc lv ((0, v) :: (2, ((1000 : Nat) : Int)) :: st) G :=
  s_putf (ci := 13) (k := 67) (C := RX12) (T := TX12) (N := 109) (n := 1000) hdg rfl wi_69 (by rw [ho]; exact m_538) (Nat.le_of_ble_eq_true rfl) rfl rfl tyX12_ok nmX12 rfl (Or.inl rfl) hM.obj (kk _ rfl (mg_set hM rfl (Or.inr rfl)))
theorem gf_tables (ho : K.1 = RX12) (hdg : decode K.2.1 pc = .ok (.getfield 497, 3)) (hM : MG G) {v : Int} (hv : gS G 1000 69 = v) (kk : WP K X (pc + 3) lv ((0, v) :: st) G) : WP K X pc lv ((2, ((1000 : Nat) : Int)) :: st) G :=
  s_getf (ci := 13) (k := 69) (C := RX12) (T := TX12) (N := 109) (n := 1000) hdg rfl wi_69 (by rw [ho]; exact m_539) (Nat.le_of_ble_eq_true rfl) rfl rfl hM.obj hv kk
theorem pf_tables (ho : K.1 = RX12) {v : Int} (hdg : decode K.2.1 pc = .ok (.putfield 497, 3)) (hM : MG G) (kk : ∀ G' : LG, G' = gset G 1000 69 v → MG G' → WP K X (pc + 3) lv st G') : WP K X pc lv ((0, v) :: (2, ((1000 : Nat) : Int)) :: st) G :=
  s_putf (ci := 13) (k := 69) (C := RX12) (T := TX12) (N := 109) (n := 1000) hdg rfl wi_69 (by rw [ho]; exact m_539) (Nat.le_of_ble_eq_true rfl) rfl rfl tyX12_ok nmX12 rfl (Or.inl rfl) hM.obj (kk _ rfl (mg_set hM rfl (Or.inr rfl)))
theorem gf_values (ho : K.1 = RX12) (hdg : decode K.2.1 pc = .ok (.getfield 527, 3)) (hM : MG G) {v : Int} (hv : gS G 1000 79 = v) (kk : WP K X (pc + 3) lv ((0, v) :: st) G) : WP K X pc lv ((2, ((1000 : Nat) : Int)) :: st) G :=
  s_getf (ci := 13) (k := 79) (C := RX12) (T := TX12) (N := 109) (n := 1000) hdg rfl wi_69 (by rw [ho]; exact m_541) (Nat.le_of_ble_eq_true rfl) rfl rfl hM.obj hv kk
theorem pf_values (ho : K.1 = RX12) {v : Int} (hdg : decode K.2.1 pc = .ok (.putfield 527, 3)) (hM : MG G) (kk : ∀ G' : LG, G' = gset G 1000 79 v → MG G' → WP K X (pc + 3) lv st G') : WP K X pc lv ((0, v) :: (2, ((1000 : Nat) : Int)) :: st) G :=
  s_putf (ci := 13) (k := 79) (C := RX12) (T := TX12) (N := 109) (n := 1000) hdg rfl wi_69 (by rw [ho]; exact m_541) (Nat.le_of_ble_eq_true rfl) rfl rfl tyX12_ok nmX12 rfl (Or.inl rfl) hM.obj (kk _ rfl (mg_set hM rfl (Or.inr rfl)))
theorem gf_acts (ho : K.1 = RX12) (hdg : decode K.2.1 pc = .ok (.getfield 530, 3)) (hM : MG G) {v : Int} (hv : gS G 1000 84 = v) (kk : WP K X (pc + 3) lv ((0, v) :: st) G) : WP K X pc lv ((2, ((1000 : Nat) : Int)) :: st) G :=
  s_getf (ci := 13) (k := 84) (C := RX12) (T := TX12) (N := 109) (n := 1000) hdg rfl wi_69 (by rw [ho]; exact m_542) (Nat.le_of_ble_eq_true rfl) rfl rfl hM.obj hv kk
theorem pf_acts (ho : K.1 = RX12) {v : Int} (hdg : decode K.2.1 pc = .ok (.putfield 530, 3)) (hM : MG G) (kk : ∀ G' : LG, G' = gset G 1000 84 v → MG G' → WP K X (pc + 3) lv st G') : WP K X pc lv ((0, v) :: (2, ((1000 : Nat) : Int)) :: st) G :=
  s_putf (ci := 13) (k := 84) (C := RX12) (T := TX12) (N := 109) (n := 1000) hdg rfl wi_69 (by rw [ho]; exact m_542) (Nat.le_of_ble_eq_true rfl) rfl rfl tyX12_ok nmX12 rfl (Or.inl rfl) hM.obj (kk _ rfl (mg_set hM rfl (Or.inr rfl)))
theorem gf_given (ho : K.1 = RX12) (hdg : decode K.2.1 pc = .ok (.getfield 533, 3)) (hM : MG G) {v : Int} (hv : gS G 1000 88 = v) (kk : WP K X (pc + 3) lv ((0, v) :: st) G) : WP K X pc lv ((2, ((1000 : Nat) : Int)) :: st) G :=
  s_getf (ci := 13) (k := 88) (C := RX12) (T := TX12) (N := 109) (n := 1000) hdg rfl wi_69 (by rw [ho]; exact m_543) (Nat.le_of_ble_eq_true rfl) rfl rfl hM.obj hv kk
theorem pf_given (ho : K.1 = RX12) {v : Int} (hdg : decode K.2.1 pc = .ok (.putfield 533, 3)) (hM : MG G) (kk : ∀ G' : LG, G' = gset G 1000 88 v → MG G' → WP K X (pc + 3) lv st G') : WP K X pc lv ((0, v) :: (2, ((1000 : Nat) : Int)) :: st) G :=
  s_putf (ci := 13) (k := 88) (C := RX12) (T := TX12) (N := 109) (n := 1000) hdg rfl wi_69 (by rw [ho]; exact m_543) (Nat.le_of_ble_eq_true rfl) rfl rfl tyX12_ok nmX12 rfl (Or.inl rfl) hM.obj (kk _ rfl (mg_set hM rfl (Or.inr rfl)))
theorem gf_logs (ho : K.1 = RX12) (hdg : decode K.2.1 pc = .ok (.getfield 555, 3)) (hM : MG G) {v : Int} (hv : gS G 1000 90 = v) (kk : WP K X (pc + 3) lv ((0, v) :: st) G) : WP K X pc lv ((2, ((1000 : Nat) : Int)) :: st) G :=
  s_getf (ci := 13) (k := 90) (C := RX12) (T := TX12) (N := 109) (n := 1000) hdg rfl wi_69 (by rw [ho]; exact m_545) (Nat.le_of_ble_eq_true rfl) rfl rfl hM.obj hv kk
theorem pf_logs (ho : K.1 = RX12) {v : Int} (hdg : decode K.2.1 pc = .ok (.putfield 555, 3)) (hM : MG G) (kk : ∀ G' : LG, G' = gset G 1000 90 v → MG G' → WP K X (pc + 3) lv st G') : WP K X pc lv ((0, v) :: (2, ((1000 : Nat) : Int)) :: st) G :=
  s_putf (ci := 13) (k := 90) (C := RX12) (T := TX12) (N := 109) (n := 1000) hdg rfl wi_69 (by rw [ho]; exact m_545) (Nat.le_of_ble_eq_true rfl) rfl rfl tyX12_ok nmX12 rfl (Or.inl rfl) hM.obj (kk _ rfl (mg_set hM rfl (Or.inr rfl)))
theorem gf_hasRun (ho : K.1 = RX12) (hdg : decode K.2.1 pc = .ok (.getfield 591, 3)) (hM : MG G) {v : Int} (hv : gS G 1000 92 = v) (kk : WP K X (pc + 3) lv ((0, v) :: st) G) : WP K X pc lv ((2, ((1000 : Nat) : Int)) :: st) G :=
  s_getf (ci := 13) (k := 92) (C := RX12) (T := TX12) (N := 109) (n := 1000) hdg rfl wi_69 (by rw [ho]; exact m_547) (Nat.le_of_ble_eq_true rfl) rfl rfl hM.obj hv kk
theorem pf_hasRun (ho : K.1 = RX12) {v : Int} (hdg : decode K.2.1 pc = .ok (.putfield 591, 3)) (hM : MG G) (hx : v = 0 ∨ v = 1) (kk : ∀ G' : LG, G' = gset G 1000 92 v → MG G' → WP K X (pc + 3) lv st G') : WP K X pc lv ((0, v) :: (2, ((1000 : Nat) : Int)) :: st) G :=
  s_putf (ci := 13) (k := 92) (C := RX12) (T := TX12) (N := 109) (n := 1000) hdg rfl wi_69 (by rw [ho]; exact m_547) (Nat.le_of_ble_eq_true rfl) rfl rfl tyX12_ok nmX12 rfl (Or.inr (Or.inl ⟨rfl, hx⟩)) hM.obj (kk _ rfl (mg_set hM rfl (Or.inr rfl)))
theorem gf_lastLogs (ho : K.1 = RX12) (hdg : decode K.2.1 pc = .ok (.getfield 595, 3)) (hM : MG G) {v : Int} (hv : gS G 1000 98 = v) (kk : WP K X (pc + 3) lv ((0, v) :: st) G) : WP K X pc lv ((2, ((1000 : Nat) : Int)) :: st) G :=
  s_getf (ci := 13) (k := 98) (C := RX12) (T := TX12) (N := 109) (n := 1000) hdg rfl wi_69 (by rw [ho]; exact m_548) (Nat.le_of_ble_eq_true rfl) rfl rfl hM.obj hv kk
theorem pf_lastLogs (ho : K.1 = RX12) {v : Int} (hdg : decode K.2.1 pc = .ok (.putfield 595, 3)) (hM : MG G) (kk : ∀ G' : LG, G' = gset G 1000 98 v → MG G' → WP K X (pc + 3) lv st G') : WP K X pc lv ((0, v) :: (2, ((1000 : Nat) : Int)) :: st) G :=
  s_putf (ci := 13) (k := 98) (C := RX12) (T := TX12) (N := 109) (n := 1000) hdg rfl wi_69 (by rw [ho]; exact m_548) (Nat.le_of_ble_eq_true rfl) rfl rfl tyX12_ok nmX12 rfl (Or.inl rfl) hM.obj (kk _ rfl (mg_set hM rfl (Or.inr rfl)))
theorem gf_lastCells (ho : K.1 = RX12) (hdg : decode K.2.1 pc = .ok (.getfield 598, 3)) (hM : MG G) {v : Int} (hv : gS G 1000 100 = v) (kk : WP K X (pc + 3) lv ((0, v) :: st) G) : WP K X pc lv ((2, ((1000 : Nat) : Int)) :: st) G :=
  s_getf (ci := 13) (k := 100) (C := RX12) (T := TX12) (N := 109) (n := 1000) hdg rfl wi_69 (by rw [ho]; exact m_549) (Nat.le_of_ble_eq_true rfl) rfl rfl hM.obj hv kk
theorem pf_lastCells (ho : K.1 = RX12) {v : Int} (hdg : decode K.2.1 pc = .ok (.putfield 598, 3)) (hM : MG G) (kk : ∀ G' : LG, G' = gset G 1000 100 v → MG G' → WP K X (pc + 3) lv st G') : WP K X pc lv ((0, v) :: (2, ((1000 : Nat) : Int)) :: st) G :=
  s_putf (ci := 13) (k := 100) (C := RX12) (T := TX12) (N := 109) (n := 1000) hdg rfl wi_69 (by rw [ho]; exact m_549) (Nat.le_of_ble_eq_true rfl) rfl rfl tyX12_ok nmX12 rfl (Or.inl rfl) hM.obj (kk _ rfl (mg_set hM rfl (Or.inr rfl)))
theorem gf_lastDropped (ho : K.1 = RX12) (hdg : decode K.2.1 pc = .ok (.getfield 601, 3)) (hM : MG G) {v : Int} (hv : gS G 1000 101 = v) (kk : WP K X (pc + 3) lv ((0, v) :: st) G) : WP K X pc lv ((2, ((1000 : Nat) : Int)) :: st) G :=
  s_getf (ci := 13) (k := 101) (C := RX12) (T := TX12) (N := 109) (n := 1000) hdg rfl wi_69 (by rw [ho]; exact m_550) (Nat.le_of_ble_eq_true rfl) rfl rfl hM.obj hv kk
theorem pf_lastDropped (ho : K.1 = RX12) {v : Int} (hdg : decode K.2.1 pc = .ok (.putfield 601, 3)) (hM : MG G) (kk : ∀ G' : LG, G' = gset G 1000 101 v → MG G' → WP K X (pc + 3) lv st G') : WP K X pc lv ((0, v) :: (2, ((1000 : Nat) : Int)) :: st) G :=
  s_putf (ci := 13) (k := 101) (C := RX12) (T := TX12) (N := 109) (n := 1000) hdg rfl wi_69 (by rw [ho]; exact m_550) (Nat.le_of_ble_eq_true rfl) rfl rfl tyX12_ok nmX12 rfl (Or.inl rfl) hM.obj (kk _ rfl (mg_set hM rfl (Or.inr rfl)))
theorem gf_built (ho : K.1 = RX12) (hdg : decode K.2.1 pc = .ok (.getfield 607, 3)) (hM : MG G) {v : Int} (hv : gS G 1000 102 = v) (kk : WP K X (pc + 3) lv ((0, v) :: st) G) : WP K X pc lv ((2, ((1000 : Nat) : Int)) :: st) G :=
  s_getf (ci := 13) (k := 102) (C := RX12) (T := TX12) (N := 109) (n := 1000) hdg rfl wi_69 (by rw [ho]; exact m_551) (Nat.le_of_ble_eq_true rfl) rfl rfl hM.obj hv kk
theorem pf_built (ho : K.1 = RX12) {v : Int} (hdg : decode K.2.1 pc = .ok (.putfield 607, 3)) (hM : MG G) (kk : ∀ G' : LG, G' = gset G 1000 102 v → MG G' → WP K X (pc + 3) lv st G') : WP K X pc lv ((0, v) :: (2, ((1000 : Nat) : Int)) :: st) G :=
  s_putf (ci := 13) (k := 102) (C := RX12) (T := TX12) (N := 109) (n := 1000) hdg rfl wi_69 (by rw [ho]; exact m_551) (Nat.le_of_ble_eq_true rfl) rfl rfl tyX12_ok nmX12 rfl (Or.inl rfl) hM.obj (kk _ rfl (mg_set hM rfl (Or.inr rfl)))
abbrev kX12_act : KD := (RX12, cX12_act, 4, none, [])
abbrev kX12_applies : KD := (RX12, cX12_applies, 7, (some .int), [])
abbrev kX12_areFilled : KD := (RX12, cX12_areFilled, 5, (some .boolean), [])
abbrev kX12_asks : KD := (RX12, cX12_asks, 4, (some .boolean), [])
abbrev kX12_at : KD := (RX12, cX12_at, 2, (some .int), [])
abbrev kX12_beginsCell : KD := (RX12, cX12_beginsCell, 2, none, [])
abbrev kX12_beginsFulls : KD := (RX12, cX12_beginsFulls, 2, none, [])
abbrev kX12_beginsPart : KD := (RX12, cX12_beginsPart, 5, none, [])
abbrev kX12_build : KD := (RX12, cX12_build, 6, (some .int), [])
abbrev kX12_choiceError : KD := (RX12, cX12_choiceError, 6, (some .int), [])
abbrev kX12_choose : KD := (RX12, cX12_choose, 6, (some .int), [])
abbrev kX12_chooses : KD := (RX12, cX12_chooses, 10, (some .int), [])
abbrev kX12_clears : KD := (RX12, cX12_clears, 3, none, [])
abbrev kX12_closes : KD := (RX12, cX12_closes, 5, (some .int), [])
abbrev kX12_compiled : KD := (RX12, cX12_compiled, 2, (some .int), [])
abbrev kX12_compiles : KD := (RX12, cX12_compiles, 3, (some .boolean), [])
abbrev kX12_copies : KD := (RX12, cX12_copies, 4, none, [])
abbrev kX12_decides : KD := (RX12, cX12_decides, 4, none, [])
abbrev kX12_definitionError : KD := (RX12, cX12_definitionError, 9, (some .int), [])
abbrev kX12_dropped : KD := (RX12, cX12_dropped, 1, (some .int), [])
abbrev kX12_error : KD := (RX12, cX12_error, 2, (some .int), [])
abbrev kX12_expression : KD := (RX12, cX12_expression, 9, (some .int), [])
abbrev kX12_expressionOf : KD := (RX12, cX12_expressionOf, 3, (some .int), [])
abbrev kX12_faceOf : KD := (RX12, cX12_faceOf, 3, (some .int), [])
abbrev kX12_faces : KD := (RX12, cX12_faces, 6, none, [])
abbrev kX12_fails : KD := (RX12, cX12_fails, 1, none, [])
abbrev kX12_finds : KD := (RX12, cX12_finds, 3, none, [])
abbrev kX12_finishes : KD := (RX12, cX12_finishes, 8, none, [])
abbrev kX12_finishesCell : KD := (RX12, cX12_finishesCell, 3, none, [])
abbrev kX12_finishesPart : KD := (RX12, cX12_finishesPart, 6, none, [])
abbrev kX12_full : KD := (RX12, cX12_full, 6, (some .int), [])
abbrev kX12_gives : KD := (RX12, cX12_gives, 2, none, [])
abbrev kX12_goes : KD := (RX12, cX12_goes, 4, (some .boolean), [])
abbrev kX12_has : KD := (RX12, cX12_has, 2, (some .boolean), [])
abbrev kX12_identOf : KD := (RX12, cX12_identOf, 4, (some .int), [])
abbrev kX12_in : KD := (RX12, cX12_in, 3, (some .boolean), [])
abbrev kX12_init : KD := (RX12, cX12_init, 2, none, [])
abbrev kX12_instance : KD := (RX12, cX12_instance, 7, none, [])
abbrev kX12_isA : KD := (RX12, cX12_isA, 4, (some .boolean), [])
abbrev kX12_isAs : KD := (RX12, cX12_isAs, 6, (some .boolean), [])
abbrev kX12_isExpression : KD := (RX12, cX12_isExpression, 2, (some .boolean), [])
abbrev kX12_isFresh : KD := (RX12, cX12_isFresh, 2, (some .boolean), [])
abbrev kX12_isGhost : KD := (RX12, cX12_isGhost, 3, (some .boolean), [])
abbrev kX12_isHole : KD := (RX12, cX12_isHole, 3, (some .boolean), [])
abbrev kX12_isName : KD := (RX12, cX12_isName, 1, (some .boolean), [])
abbrev kX12_isNode : KD := (RX12, cX12_isNode, 2, (some .boolean), [])
abbrev kX12_isOf : KD := (RX12, cX12_isOf, 3, (some .int), [])
abbrev kX12_isPair : KD := (RX12, cX12_isPair, 2, (some .boolean), [])
abbrev kX12_isRight : KD := (RX12, cX12_isRight, 2, (some .boolean), [])
abbrev kX12_isRing : KD := (RX12, cX12_isRing, 7, (some .boolean), [])
abbrev kX12_isSameType : KD := (RX12, cX12_isSameType, 6, (some .boolean), [])
abbrev kX12_isType : KD := (RX12, cX12_isType, 2, (some .boolean), [])
abbrev kX12_isType_ : KD := (RX12, cX12_isType_, 3, (some .int), [])
abbrev kX12_isUnit : KD := (RX12, cX12_isUnit, 2, (some .boolean), [])
abbrev kX12_isValue : KD := (RX12, cX12_isValue, 1, (some .boolean), [])
abbrev kX12_joins : KD := (RX12, cX12_joins, 4, (some .int), [])
abbrev kX12_keeps : KD := (RX12, cX12_keeps, 4, none, [])
abbrev kX12_latest : KD := (RX12, cX12_latest, 2, (some .int), [])
abbrev kX12_lays : KD := (RX12, cX12_lays, 4, (some .int), [])
abbrev kX12_leaf : KD := (RX12, cX12_leaf, 3, (some .int), [])
abbrev kX12_links : KD := (RX12, cX12_links, 6, (some .int), [])
abbrev kX12_linksTypes : KD := (RX12, cX12_linksTypes, 8, (some .int), [])
abbrev kX12_linksValue : KD := (RX12, cX12_linksValue, 13, (some .int), [])
abbrev kX12_log : KD := (RX12, cX12_log, 2, (some .int), [])
abbrev kX12_logged : KD := (RX12, cX12_logged, 1, (some .int), [])
abbrev kX12_made : KD := (RX12, cX12_made, 6, (some .int), [])
abbrev kX12_moves : KD := (RX12, cX12_moves, 5, none, [])
abbrev kX12_node : KD := (RX12, cX12_node, 7, (some .int), [])
abbrev kX12_nodeOf : KD := (RX12, cX12_nodeOf, 7, (some .int), [])
abbrev kX12_opens : KD := (RX12, cX12_opens, 4, (some .int), [])
abbrev kX12_partOf : KD := (RX12, cX12_partOf, 3, (some .int), [])
abbrev kX12_partsOf : KD := (RX12, cX12_partsOf, 1, (some .int), [])
abbrev kX12_partsOfNode : KD := (RX12, cX12_partsOfNode, 2, (some .int), [])
abbrev kX12_puts : KD := (RX12, cX12_puts, 9, (some .int), [])
abbrev kX12_putsOne : KD := (RX12, cX12_putsOne, 4, (some .int), [])
abbrev kX12_reachOf : KD := (RX12, cX12_reachOf, 7, (some .long), [])
abbrev kX12_reaches : KD := (RX12, cX12_reaches, 6, none, [])
abbrev kX12_refsOf : KD := (RX12, cX12_refsOf, 7, (some .int), [])
abbrev kX12_remove : KD := (RX12, cX12_remove, 5, (some .boolean), [])
abbrev kX12_rename : KD := (RX12, cX12_rename, 7, (some .int), [])
abbrev kX12_renames : KD := (RX12, cX12_renames, 6, (some .int), [])
abbrev kX12_result : KD := (RX12, cX12_result, 8, (some .int), [])
abbrev kX12_rootOf : KD := (RX12, cX12_rootOf, 3, (some .int), [])
abbrev kX12_run : KD := (RX12, cX12_run, 5, (some .int), [])
abbrev kX12_runsOnce : KD := (RX12, cX12_runsOnce, 5, (some .int), [])
abbrev kX12_seals : KD := (RX12, cX12_seals, 8, (some .int), [])
abbrev kX12_sealsValue : KD := (RX12, cX12_sealsValue, 5, (some .int), [])
abbrev kX12_sees : KD := (RX12, cX12_sees, 6, none, [])
abbrev kX12_setType : KD := (RX12, cX12_setType, 4, none, [])
abbrev kX12_setValue : KD := (RX12, cX12_setValue, 9, none, [])
abbrev kX12_setsBy : KD := (RX12, cX12_setsBy, 3, none, [])
abbrev kX12_setsStamps : KD := (RX12, cX12_setsStamps, 3, none, [])
abbrev kX12_shownBy : KD := (RX12, cX12_shownBy, 4, (some .int), [])
abbrev kX12_shows : KD := (RX12, cX12_shows, 6, none, [])
abbrev kX12_size : KD := (RX12, cX12_size, 3, (some .int), [])
abbrev kX12_stamp : KD := (RX12, cX12_stamp, 4, (some .int), [])
abbrev kX12_targetOf : KD := (RX12, cX12_targetOf, 3, (some .int), [])
abbrev kX12_tells : KD := (RX12, cX12_tells, 2, (some .int), [])
abbrev kX12_tellsExpression : KD := (RX12, cX12_tellsExpression, 6, none, [])
abbrev kX12_tellsFace : KD := (RX12, cX12_tellsFace, 5, none, [])
abbrev kX12_tellsFull : KD := (RX12, cX12_tellsFull, 3, none, [])
abbrev kX12_tellsMade : KD := (RX12, cX12_tellsMade, 4, none, [])
abbrev kX12_tellsOf : KD := (RX12, cX12_tellsOf, 2, none, [])
abbrev kX12_tellsVersion : KD := (RX12, cX12_tellsVersion, 4, none, [])
abbrev kX12_thing : KD := (RX12, cX12_thing, 7, (some .int), [])
abbrev kX12_thrown : KD := (RX12, cX12_thrown, 1, (some .int), [])
abbrev kX12_together : KD := (RX12, cX12_together, 5, (some .int), [])
abbrev kX12_total : KD := (RX12, cX12_total, 1, (some .int), [])
abbrev kX12_type : KD := (RX12, cX12_type, 7, (some .int), [])
abbrev kX12_typeFor : KD := (RX12, cX12_typeFor, 8, (some .int), [])
abbrev kX12_typeOf : KD := (RX12, cX12_typeOf, 4, (some .int), [])
abbrev kX12_unit : KD := (RX12, cX12_unit, 1, (some .int), [])
abbrev kX12_unitFace : KD := (RX12, cX12_unitFace, 12, (some .int), [])
abbrev kX12_unitNode : KD := (RX12, cX12_unitNode, 4, (some .int), [])
abbrev kX12_value : KD := (RX12, cX12_value, 4, (some .int), [])
abbrev kX12_valueOf : KD := (RX12, cX12_valueOf, 3, (some .int), [])
abbrev kX12_valuesOf : KD := (RX12, cX12_valuesOf, 4, (some .int), [])
abbrev kX12_version : KD := (RX12, cX12_version, 5, (some .int), [])
abbrev kX12_versionOf : KD := (RX12, cX12_versionOf, 2, (some .int), [])
abbrev kX12_work : KD := (RX12, cX12_work, 3, none, [])
theorem cs_X12_278 {as rest st : List LV} {f : Nat} {T : TR} (ho : K.1 = RX12) (hG : Good kX12_in yX12_in f T) (hdg : decode K.2.1 pc = .ok (.invokestatic 278, 3)) (hf : f + 1 ≤ cf X) (hst : st = as.reverse ++ rest) (hw8 : (rest.map (fun v => if v.1 = 1 then 2 else 1)).sum ≤ 8) (hT : T as G (thenW K X (pc + 3) lv rest)) (hn : as.length = 3 := by rfl) : WP K X pc lv st G :=
  s_callS hG hdg (by rw [ho]; exact m_1201) m_1787 (by rw [ho]; exact m_715) m_167 ⟨ho.symm, by decide +kernel, by decide +kernel, by rw [hn]; decide +kernel⟩ (by decide) hf hst hw8 hT
theorem cs_X12_291 {as rest st : List LV} {f : Nat} {T : TR} (ho : K.1 = RX12) (hG : Good kX12_isName yX12_isName f T) (hdg : decode K.2.1 pc = .ok (.invokestatic 291, 3)) (hf : f + 1 ≤ cf X) (hst : st = as.reverse ++ rest) (hw8 : (rest.map (fun v => if v.1 = 1 then 2 else 1)).sum ≤ 8) (hT : T as G (thenW K X (pc + 3) lv rest)) (hn : as.length = 1 := by rfl) : WP K X pc lv st G :=
  s_callS hG hdg (by rw [ho]; exact m_1202) m_1788 (by rw [ho]; exact m_715) m_176 ⟨ho.symm, by decide +kernel, by decide +kernel, by rw [hn]; decide +kernel⟩ (by decide) hf hst hw8 hT
theorem cv_X12_295 {as rest st : List LV} {f : Nat} {T : TR} (ho : K.1 = RX12) (hG : Good kX12_isType yX12_isType f T) (hdg : decode K.2.1 pc = .ok (.invokevirtual 295, 3)) (hM : MG G) (hf : f + 1 ≤ cf X) (hst : st = as.reverse ++ (2, ((1000 : Nat) : Int)) :: rest) (hw8 : (rest.map (fun v => if v.1 = 1 then 2 else 1)).sum ≤ 8) (hT : T ((2, ((1000 : Nat) : Int)) :: as) G (thenW K X (pc + 3) lv rest)) (hn : as.length = 1 := by rfl) : WP K X pc lv st G :=
  s_callV (ci := 13) (TT := TX12) (N := 109) hG hdg (by rw [ho]; exact m_1203) m_844 m_1582 m_715 m_183 ⟨by decide +kernel, by decide +kernel, by rw [hn]; decide +kernel⟩ (by decide) hf hM.obj rfl hst hw8 hT
theorem cv_X12_298 {as rest st : List LV} {f : Nat} {T : TR} (ho : K.1 = RX12) (hG : Good kX12_goes yX12_goes f T) (hdg : decode K.2.1 pc = .ok (.invokevirtual 298, 3)) (hM : MG G) (hf : f + 1 ≤ cf X) (hst : st = as.reverse ++ (2, ((1000 : Nat) : Int)) :: rest) (hw8 : (rest.map (fun v => if v.1 = 1 then 2 else 1)).sum ≤ 8) (hT : T ((2, ((1000 : Nat) : Int)) :: as) G (thenW K X (pc + 3) lv rest)) (hn : as.length = 3 := by rfl) : WP K X pc lv st G :=
  s_callV (ci := 13) (TT := TX12) (N := 109) hG hdg (by rw [ho]; exact m_1204) m_828 m_1567 m_715 m_164 ⟨by decide +kernel, by decide +kernel, by rw [hn]; decide +kernel⟩ (by decide) hf hM.obj rfl hst hw8 hT
theorem cs_X12_302 {as rest st : List LV} {f : Nat} {T : TR} (ho : K.1 = RX12) (hG : Good kX12_isValue yX12_isValue f T) (hdg : decode K.2.1 pc = .ok (.invokestatic 302, 3)) (hf : f + 1 ≤ cf X) (hst : st = as.reverse ++ rest) (hw8 : (rest.map (fun v => if v.1 = 1 then 2 else 1)).sum ≤ 8) (hT : T as G (thenW K X (pc + 3) lv rest)) (hn : as.length = 1 := by rfl) : WP K X pc lv st G :=
  s_callS hG hdg (by rw [ho]; exact m_1205) m_1789 (by rw [ho]; exact m_715) m_186 ⟨ho.symm, by decide +kernel, by decide +kernel, by rw [hn]; decide +kernel⟩ (by decide) hf hst hw8 hT
theorem cv_X12_305 {as rest st : List LV} {f : Nat} {T : TR} (ho : K.1 = RX12) (hG : Good kX12_made yX12_made f T) (hdg : decode K.2.1 pc = .ok (.invokevirtual 305, 3)) (hM : MG G) (hf : f + 1 ≤ cf X) (hst : st = as.reverse ++ (2, ((1000 : Nat) : Int)) :: rest) (hw8 : (rest.map (fun v => if v.1 = 1 then 2 else 1)).sum ≤ 8) (hT : T ((2, ((1000 : Nat) : Int)) :: as) G (thenW K X (pc + 3) lv rest)) (hn : as.length = 5 := by rfl) : WP K X pc lv st G :=
  s_callV (ci := 13) (TT := TX12) (N := 109) hG hdg (by rw [ho]; exact m_1206) m_857 m_1595 m_715 m_197 ⟨by decide +kernel, by decide +kernel, by rw [hn]; decide +kernel⟩ (by decide) hf hM.obj rfl hst hw8 hT
theorem cs_X12_309 {as rest st : List LV} {f : Nat} {T : TR} (ho : K.1 = RX12) (hG : Good kX12_partsOf yX12_partsOf f T) (hdg : decode K.2.1 pc = .ok (.invokestatic 309, 3)) (hf : f + 1 ≤ cf X) (hst : st = as.reverse ++ rest) (hw8 : (rest.map (fun v => if v.1 = 1 then 2 else 1)).sum ≤ 8) (hT : T as G (thenW K X (pc + 3) lv rest)) (hn : as.length = 1 := by rfl) : WP K X pc lv st G :=
  s_callS hG hdg (by rw [ho]; exact m_1207) m_1790 (by rw [ho]; exact m_715) m_203 ⟨ho.symm, by decide +kernel, by decide +kernel, by rw [hn]; decide +kernel⟩ (by decide) hf hst hw8 hT
theorem cv_X12_313 {as rest st : List LV} {f : Nat} {T : TR} (ho : K.1 = RX12) (hG : Good kX12_isExpression yX12_isExpression f T) (hdg : decode K.2.1 pc = .ok (.invokevirtual 313, 3)) (hM : MG G) (hf : f + 1 ≤ cf X) (hst : st = as.reverse ++ (2, ((1000 : Nat) : Int)) :: rest) (hw8 : (rest.map (fun v => if v.1 = 1 then 2 else 1)).sum ≤ 8) (hT : T ((2, ((1000 : Nat) : Int)) :: as) G (thenW K X (pc + 3) lv rest)) (hn : as.length = 1 := by rfl) : WP K X pc lv st G :=
  s_callV (ci := 13) (TT := TX12) (N := 109) hG hdg (by rw [ho]; exact m_1208) m_834 m_1572 m_715 m_172 ⟨by decide +kernel, by decide +kernel, by rw [hn]; decide +kernel⟩ (by decide) hf hM.obj rfl hst hw8 hT
theorem cs_X12_316 {as rest st : List LV} {f : Nat} {T : TR} (ho : K.1 = RX12) (hG : Good kX12_at yX12_at f T) (hdg : decode K.2.1 pc = .ok (.invokestatic 316, 3)) (hf : f + 1 ≤ cf X) (hst : st = as.reverse ++ rest) (hw8 : (rest.map (fun v => if v.1 = 1 then 2 else 1)).sum ≤ 8) (hT : T as G (thenW K X (pc + 3) lv rest)) (hn : as.length = 2 := by rfl) : WP K X pc lv st G :=
  s_callS hG hdg (by rw [ho]; exact m_1209) m_1785 (by rw [ho]; exact m_715) m_136 ⟨ho.symm, by decide +kernel, by decide +kernel, by rw [hn]; decide +kernel⟩ (by decide) hf hst hw8 hT
theorem cv_X12_320 {as rest st : List LV} {f : Nat} {T : TR} (ho : K.1 = RX12) (hG : Good kX12_isUnit yX12_isUnit f T) (hdg : decode K.2.1 pc = .ok (.invokevirtual 320, 3)) (hM : MG G) (hf : f + 1 ≤ cf X) (hst : st = as.reverse ++ (2, ((1000 : Nat) : Int)) :: rest) (hw8 : (rest.map (fun v => if v.1 = 1 then 2 else 1)).sum ≤ 8) (hT : T ((2, ((1000 : Nat) : Int)) :: as) G (thenW K X (pc + 3) lv rest)) (hn : as.length = 1 := by rfl) : WP K X pc lv st G :=
  s_callV (ci := 13) (TT := TX12) (N := 109) hG hdg (by rw [ho]; exact m_1210) m_846 m_1584 m_715 m_185 ⟨by decide +kernel, by decide +kernel, by rw [hn]; decide +kernel⟩ (by decide) hf hM.obj rfl hst hw8 hT
theorem cv_X12_323 {as rest st : List LV} {f : Nat} {T : TR} (ho : K.1 = RX12) (hG : Good kX12_latest yX12_latest f T) (hdg : decode K.2.1 pc = .ok (.invokevirtual 323, 3)) (hM : MG G) (hf : f + 1 ≤ cf X) (hst : st = as.reverse ++ (2, ((1000 : Nat) : Int)) :: rest) (hw8 : (rest.map (fun v => if v.1 = 1 then 2 else 1)).sum ≤ 8) (hT : T ((2, ((1000 : Nat) : Int)) :: as) G (thenW K X (pc + 3) lv rest)) (hn : as.length = 1 := by rfl) : WP K X pc lv st G :=
  s_callV (ci := 13) (TT := TX12) (N := 109) hG hdg (by rw [ho]; exact m_1211) m_849 m_1587 m_715 m_189 ⟨by decide +kernel, by decide +kernel, by rw [hn]; decide +kernel⟩ (by decide) hf hM.obj rfl hst hw8 hT
theorem cv_X12_326 {as rest st : List LV} {f : Nat} {T : TR} (ho : K.1 = RX12) (hG : Good kX12_nodeOf yX12_nodeOf f T) (hdg : decode K.2.1 pc = .ok (.invokevirtual 326, 3)) (hM : MG G) (hf : f + 1 ≤ cf X) (hst : st = as.reverse ++ (2, ((1000 : Nat) : Int)) :: rest) (hw8 : (rest.map (fun v => if v.1 = 1 then 2 else 1)).sum ≤ 8) (hT : T ((2, ((1000 : Nat) : Int)) :: as) G (thenW K X (pc + 3) lv rest)) (hn : as.length = 6 := by rfl) : WP K X pc lv st G :=
  s_callV (ci := 13) (TT := TX12) (N := 109) hG hdg (by rw [ho]; exact m_1212) m_860 m_1598 m_715 m_200 ⟨by decide +kernel, by decide +kernel, by rw [hn]; decide +kernel⟩ (by decide) hf hM.obj rfl hst hw8 hT
theorem cv_X12_330 {as rest st : List LV} {f : Nat} {T : TR} (ho : K.1 = RX12) (hG : Good kX12_isNode yX12_isNode f T) (hdg : decode K.2.1 pc = .ok (.invokevirtual 330, 3)) (hM : MG G) (hf : f + 1 ≤ cf X) (hst : st = as.reverse ++ (2, ((1000 : Nat) : Int)) :: rest) (hw8 : (rest.map (fun v => if v.1 = 1 then 2 else 1)).sum ≤ 8) (hT : T ((2, ((1000 : Nat) : Int)) :: as) G (thenW K X (pc + 3) lv rest)) (hn : as.length = 1 := by rfl) : WP K X pc lv st G :=
  s_callV (ci := 13) (TT := TX12) (N := 109) hG hdg (by rw [ho]; exact m_1213) m_838 m_1576 m_715 m_177 ⟨by decide +kernel, by decide +kernel, by rw [hn]; decide +kernel⟩ (by decide) hf hM.obj rfl hst hw8 hT
theorem cv_X12_338 {as rest st : List LV} {f : Nat} {T : TR} (ho : K.1 = RX12) (hG : Good kX12_full yX12_full f T) (hdg : decode K.2.1 pc = .ok (.invokevirtual 338, 3)) (hM : MG G) (hf : f + 1 ≤ cf X) (hst : st = as.reverse ++ (2, ((1000 : Nat) : Int)) :: rest) (hw8 : (rest.map (fun v => if v.1 = 1 then 2 else 1)).sum ≤ 8) (hT : T ((2, ((1000 : Nat) : Int)) :: as) G (thenW K X (pc + 3) lv rest)) (hn : as.length = 3 := by rfl) : WP K X pc lv st G :=
  s_callV (ci := 13) (TT := TX12) (N := 109) hG hdg (by rw [ho]; exact m_1214) m_826 m_1565 m_715 m_162 ⟨by decide +kernel, by decide +kernel, by rw [hn]; decide +kernel⟩ (by decide) hf hM.obj rfl hst hw8 hT
theorem cv_X12_348 {as rest st : List LV} {f : Nat} {T : TR} (ho : K.1 = RX12) (hG : Good kX12_stamp yX12_stamp f T) (hdg : decode K.2.1 pc = .ok (.invokevirtual 348, 3)) (hM : MG G) (hf : f + 1 ≤ cf X) (hst : st = as.reverse ++ (2, ((1000 : Nat) : Int)) :: rest) (hw8 : (rest.map (fun v => if v.1 = 1 then 2 else 1)).sum ≤ 8) (hT : T ((2, ((1000 : Nat) : Int)) :: as) G (thenW K X (pc + 3) lv rest)) (hn : as.length = 3 := by rfl) : WP K X pc lv st G :=
  s_callV (ci := 13) (TT := TX12) (N := 109) hG hdg (by rw [ho]; exact m_1215) m_886 m_1624 m_715 m_227 ⟨by decide +kernel, by decide +kernel, by rw [hn]; decide +kernel⟩ (by decide) hf hM.obj rfl hst hw8 hT
theorem cv_X12_357 {as rest st : List LV} {f : Nat} {T : TR} (ho : K.1 = RX12) (hG : Good kX12_putsOne yX12_putsOne f T) (hdg : decode K.2.1 pc = .ok (.invokevirtual 357, 3)) (hM : MG G) (hf : f + 1 ≤ cf X) (hst : st = as.reverse ++ (2, ((1000 : Nat) : Int)) :: rest) (hw8 : (rest.map (fun v => if v.1 = 1 then 2 else 1)).sum ≤ 8) (hT : T ((2, ((1000 : Nat) : Int)) :: as) G (thenW K X (pc + 3) lv rest)) (hn : as.length = 2 := by rfl) : WP K X pc lv st G :=
  s_callV (ci := 13) (TT := TX12) (N := 109) hG hdg (by rw [ho]; exact m_1216) m_865 m_1603 m_715 m_206 ⟨by decide +kernel, by decide +kernel, by rw [hn]; decide +kernel⟩ (by decide) hf hM.obj rfl hst hw8 hT
theorem cv_X12_363 {as rest st : List LV} {f : Nat} {T : TR} (ho : K.1 = RX12) (hG : Good kX12_thing yX12_thing f T) (hdg : decode K.2.1 pc = .ok (.invokevirtual 363, 3)) (hM : MG G) (hf : f + 1 ≤ cf X) (hst : st = as.reverse ++ (2, ((1000 : Nat) : Int)) :: rest) (hw8 : (rest.map (fun v => if v.1 = 1 then 2 else 1)).sum ≤ 8) (hT : T ((2, ((1000 : Nat) : Int)) :: as) G (thenW K X (pc + 3) lv rest)) (hn : as.length = 4 := by rfl) : WP K X pc lv st G :=
  s_callV (ci := 13) (TT := TX12) (N := 109) hG hdg (by rw [ho]; exact m_1217) m_895 m_1633 m_715 m_236 ⟨by decide +kernel, by decide +kernel, by rw [hn]; decide +kernel⟩ (by decide) hf hM.obj rfl hst hw8 hT
theorem cs_X12_367 {as rest st : List LV} {f : Nat} {T : TR} (ho : K.1 = RX12) (hG : Good kX12_has yX12_has f T) (hdg : decode K.2.1 pc = .ok (.invokestatic 367, 3)) (hf : f + 1 ≤ cf X) (hst : st = as.reverse ++ rest) (hw8 : (rest.map (fun v => if v.1 = 1 then 2 else 1)).sum ≤ 8) (hT : T as G (thenW K X (pc + 3) lv rest)) (hn : as.length = 2 := by rfl) : WP K X pc lv st G :=
  s_callS hG hdg (by rw [ho]; exact m_1218) m_1786 (by rw [ho]; exact m_715) m_165 ⟨ho.symm, by decide +kernel, by decide +kernel, by rw [hn]; decide +kernel⟩ (by decide) hf hst hw8 hT
theorem cv_X12_371 {as rest st : List LV} {f : Nat} {T : TR} (ho : K.1 = RX12) (hG : Good kX12_opens yX12_opens f T) (hdg : decode K.2.1 pc = .ok (.invokevirtual 371, 3)) (hM : MG G) (hf : f + 1 ≤ cf X) (hst : st = as.reverse ++ (2, ((1000 : Nat) : Int)) :: rest) (hw8 : (rest.map (fun v => if v.1 = 1 then 2 else 1)).sum ≤ 8) (hT : T ((2, ((1000 : Nat) : Int)) :: as) G (thenW K X (pc + 3) lv rest)) (hn : as.length = 1 := by rfl) : WP K X pc lv st G :=
  s_callV (ci := 13) (TT := TX12) (N := 109) hG hdg (by rw [ho]; exact m_1219) m_861 m_1599 m_715 m_201 ⟨by decide +kernel, by decide +kernel, by rw [hn]; decide +kernel⟩ (by decide) hf hM.obj rfl hst hw8 hT
theorem cv_X12_374 {as rest st : List LV} {f : Nat} {T : TR} (ho : K.1 = RX12) (hG : Good kX12_setsBy yX12_setsBy f T) (hdg : decode K.2.1 pc = .ok (.invokevirtual 374, 3)) (hM : MG G) (hf : f + 1 ≤ cf X) (hst : st = as.reverse ++ (2, ((1000 : Nat) : Int)) :: rest) (hw8 : (rest.map (fun v => if v.1 = 1 then 2 else 1)).sum ≤ 8) (hT : T ((2, ((1000 : Nat) : Int)) :: as) G (thenW K X (pc + 3) lv rest)) (hn : as.length = 1 := by rfl) : WP K X pc lv st G :=
  s_callV (ci := 13) (TT := TX12) (N := 109) hG hdg (by rw [ho]; exact m_1220) m_881 m_1619 m_715 m_222 ⟨by decide +kernel, by decide +kernel, by rw [hn]; decide +kernel⟩ (by decide) hf hM.obj rfl hst hw8 hT
theorem cv_X12_378 {as rest st : List LV} {f : Nat} {T : TR} (ho : K.1 = RX12) (hG : Good kX12_puts yX12_puts f T) (hdg : decode K.2.1 pc = .ok (.invokevirtual 378, 3)) (hM : MG G) (hf : f + 1 ≤ cf X) (hst : st = as.reverse ++ (2, ((1000 : Nat) : Int)) :: rest) (hw8 : (rest.map (fun v => if v.1 = 1 then 2 else 1)).sum ≤ 8) (hT : T ((2, ((1000 : Nat) : Int)) :: as) G (thenW K X (pc + 3) lv rest)) (hn : as.length = 2 := by rfl) : WP K X pc lv st G :=
  s_callV (ci := 13) (TT := TX12) (N := 109) hG hdg (by rw [ho]; exact m_1221) m_864 m_1602 m_715 m_205 ⟨by decide +kernel, by decide +kernel, by rw [hn]; decide +kernel⟩ (by decide) hf hM.obj rfl hst hw8 hT
theorem cv_X12_381 {as rest st : List LV} {f : Nat} {T : TR} (ho : K.1 = RX12) (hG : Good kX12_moves yX12_moves f T) (hdg : decode K.2.1 pc = .ok (.invokevirtual 381, 3)) (hM : MG G) (hf : f + 1 ≤ cf X) (hst : st = as.reverse ++ (2, ((1000 : Nat) : Int)) :: rest) (hw8 : (rest.map (fun v => if v.1 = 1 then 2 else 1)).sum ≤ 8) (hT : T ((2, ((1000 : Nat) : Int)) :: as) G (thenW K X (pc + 3) lv rest)) (hn : as.length = 4 := by rfl) : WP K X pc lv st G :=
  s_callV (ci := 13) (TT := TX12) (N := 109) hG hdg (by rw [ho]; exact m_1222) m_858 m_1596 m_715 m_198 ⟨by decide +kernel, by decide +kernel, by rw [hn]; decide +kernel⟩ (by decide) hf hM.obj rfl hst hw8 hT
theorem cv_X12_385 {as rest st : List LV} {f : Nat} {T : TR} (ho : K.1 = RX12) (hG : Good kX12_joins yX12_joins f T) (hdg : decode K.2.1 pc = .ok (.invokevirtual 385, 3)) (hM : MG G) (hf : f + 1 ≤ cf X) (hst : st = as.reverse ++ (2, ((1000 : Nat) : Int)) :: rest) (hw8 : (rest.map (fun v => if v.1 = 1 then 2 else 1)).sum ≤ 8) (hT : T ((2, ((1000 : Nat) : Int)) :: as) G (thenW K X (pc + 3) lv rest)) (hn : as.length = 2 := by rfl) : WP K X pc lv st G :=
  s_callV (ci := 13) (TT := TX12) (N := 109) hG hdg (by rw [ho]; exact m_1223) m_847 m_1585 m_715 m_187 ⟨by decide +kernel, by decide +kernel, by rw [hn]; decide +kernel⟩ (by decide) hf hM.obj rfl hst hw8 hT
theorem cv_X12_388 {as rest st : List LV} {f : Nat} {T : TR} (ho : K.1 = RX12) (hG : Good kX12_isOf yX12_isOf f T) (hdg : decode K.2.1 pc = .ok (.invokevirtual 388, 3)) (hM : MG G) (hf : f + 1 ≤ cf X) (hst : st = as.reverse ++ (2, ((1000 : Nat) : Int)) :: rest) (hw8 : (rest.map (fun v => if v.1 = 1 then 2 else 1)).sum ≤ 8) (hT : T ((2, ((1000 : Nat) : Int)) :: as) G (thenW K X (pc + 3) lv rest)) (hn : as.length = 2 := by rfl) : WP K X pc lv st G :=
  s_callV (ci := 13) (TT := TX12) (N := 109) hG hdg (by rw [ho]; exact m_1224) m_839 m_1577 m_715 m_178 ⟨by decide +kernel, by decide +kernel, by rw [hn]; decide +kernel⟩ (by decide) hf hM.obj rfl hst hw8 hT
theorem cv_X12_391 {as rest st : List LV} {f : Nat} {T : TR} (ho : K.1 = RX12) (hG : Good kX12_closes yX12_closes f T) (hdg : decode K.2.1 pc = .ok (.invokevirtual 391, 3)) (hM : MG G) (hf : f + 1 ≤ cf X) (hst : st = as.reverse ++ (2, ((1000 : Nat) : Int)) :: rest) (hw8 : (rest.map (fun v => if v.1 = 1 then 2 else 1)).sum ≤ 8) (hT : T ((2, ((1000 : Nat) : Int)) :: as) G (thenW K X (pc + 3) lv rest)) (hn : as.length = 1 := by rfl) : WP K X pc lv st G :=
  s_callV (ci := 13) (TT := TX12) (N := 109) hG hdg (by rw [ho]; exact m_1225) m_809 m_1548 m_715 m_145 ⟨by decide +kernel, by decide +kernel, by rw [hn]; decide +kernel⟩ (by decide) hf hM.obj rfl hst hw8 hT
theorem cv_X12_394 {as rest st : List LV} {f : Nat} {T : TR} (ho : K.1 = RX12) (hG : Good kX12_shows yX12_shows f T) (hdg : decode K.2.1 pc = .ok (.invokevirtual 394, 3)) (hM : MG G) (hf : f + 1 ≤ cf X) (hst : st = as.reverse ++ (2, ((1000 : Nat) : Int)) :: rest) (hw8 : (rest.map (fun v => if v.1 = 1 then 2 else 1)).sum ≤ 8) (hT : T ((2, ((1000 : Nat) : Int)) :: as) G (thenW K X (pc + 3) lv rest)) (hn : as.length = 5 := by rfl) : WP K X pc lv st G :=
  s_callV (ci := 13) (TT := TX12) (N := 109) hG hdg (by rw [ho]; exact m_1226) m_884 m_1622 m_715 m_225 ⟨by decide +kernel, by decide +kernel, by rw [hn]; decide +kernel⟩ (by decide) hf hM.obj rfl hst hw8 hT
theorem cv_X12_398 {as rest st : List LV} {f : Nat} {T : TR} (ho : K.1 = RX12) (hG : Good kX12_isHole yX12_isHole f T) (hdg : decode K.2.1 pc = .ok (.invokevirtual 398, 3)) (hM : MG G) (hf : f + 1 ≤ cf X) (hst : st = as.reverse ++ (2, ((1000 : Nat) : Int)) :: rest) (hw8 : (rest.map (fun v => if v.1 = 1 then 2 else 1)).sum ≤ 8) (hT : T ((2, ((1000 : Nat) : Int)) :: as) G (thenW K X (pc + 3) lv rest)) (hn : as.length = 2 := by rfl) : WP K X pc lv st G :=
  s_callV (ci := 13) (TT := TX12) (N := 109) hG hdg (by rw [ho]; exact m_1227) m_837 m_1575 m_715 m_175 ⟨by decide +kernel, by decide +kernel, by rw [hn]; decide +kernel⟩ (by decide) hf hM.obj rfl hst hw8 hT
theorem cv_X12_401 {as rest st : List LV} {f : Nat} {T : TR} (ho : K.1 = RX12) (hG : Good kX12_definitionError yX12_definitionError f T) (hdg : decode K.2.1 pc = .ok (.invokevirtual 401, 3)) (hM : MG G) (hf : f + 1 ≤ cf X) (hst : st = as.reverse ++ (2, ((1000 : Nat) : Int)) :: rest) (hw8 : (rest.map (fun v => if v.1 = 1 then 2 else 1)).sum ≤ 8) (hT : T ((2, ((1000 : Nat) : Int)) :: as) G (thenW K X (pc + 3) lv rest)) (hn : as.length = 3 := by rfl) : WP K X pc lv st G :=
  s_callV (ci := 13) (TT := TX12) (N := 109) hG hdg (by rw [ho]; exact m_1228) m_814 m_1553 m_715 m_150 ⟨by decide +kernel, by decide +kernel, by rw [hn]; decide +kernel⟩ (by decide) hf hM.obj rfl hst hw8 hT
theorem cv_X12_404 {as rest st : List LV} {f : Nat} {T : TR} (ho : K.1 = RX12) (hG : Good kX12_typeFor yX12_typeFor f T) (hdg : decode K.2.1 pc = .ok (.invokevirtual 404, 3)) (hM : MG G) (hf : f + 1 ≤ cf X) (hst : st = as.reverse ++ (2, ((1000 : Nat) : Int)) :: rest) (hw8 : (rest.map (fun v => if v.1 = 1 then 2 else 1)).sum ≤ 8) (hT : T ((2, ((1000 : Nat) : Int)) :: as) G (thenW K X (pc + 3) lv rest)) (hn : as.length = 2 := by rfl) : WP K X pc lv st G :=
  s_callV (ci := 13) (TT := TX12) (N := 109) hG hdg (by rw [ho]; exact m_1229) m_900 m_1638 m_715 m_241 ⟨by decide +kernel, by decide +kernel, by rw [hn]; decide +kernel⟩ (by decide) hf hM.obj rfl hst hw8 hT
theorem cv_X12_407 {as rest st : List LV} {f : Nat} {T : TR} (ho : K.1 = RX12) (hG : Good kX12_refsOf yX12_refsOf f T) (hdg : decode K.2.1 pc = .ok (.invokevirtual 407, 3)) (hM : MG G) (hf : f + 1 ≤ cf X) (hst : st = as.reverse ++ (2, ((1000 : Nat) : Int)) :: rest) (hw8 : (rest.map (fun v => if v.1 = 1 then 2 else 1)).sum ≤ 8) (hT : T ((2, ((1000 : Nat) : Int)) :: as) G (thenW K X (pc + 3) lv rest)) (hn : as.length = 1 := by rfl) : WP K X pc lv st G :=
  s_callV (ci := 13) (TT := TX12) (N := 109) hG hdg (by rw [ho]; exact m_1230) m_868 m_1606 m_715 m_209 ⟨by decide +kernel, by decide +kernel, by rw [hn]; decide +kernel⟩ (by decide) hf hM.obj rfl hst hw8 hT
theorem cv_X12_410 {as rest st : List LV} {f : Nat} {T : TR} (ho : K.1 = RX12) (hG : Good kX12_isGhost yX12_isGhost f T) (hdg : decode K.2.1 pc = .ok (.invokevirtual 410, 3)) (hM : MG G) (hf : f + 1 ≤ cf X) (hst : st = as.reverse ++ (2, ((1000 : Nat) : Int)) :: rest) (hw8 : (rest.map (fun v => if v.1 = 1 then 2 else 1)).sum ≤ 8) (hT : T ((2, ((1000 : Nat) : Int)) :: as) G (thenW K X (pc + 3) lv rest)) (hn : as.length = 2 := by rfl) : WP K X pc lv st G :=
  s_callV (ci := 13) (TT := TX12) (N := 109) hG hdg (by rw [ho]; exact m_1231) m_836 m_1574 m_715 m_174 ⟨by decide +kernel, by decide +kernel, by rw [hn]; decide +kernel⟩ (by decide) hf hM.obj rfl hst hw8 hT
theorem cv_X12_413 {as rest st : List LV} {f : Nat} {T : TR} (ho : K.1 = RX12) (hG : Good kX12_isType_ yX12_isType_ f T) (hdg : decode K.2.1 pc = .ok (.invokevirtual 413, 3)) (hM : MG G) (hf : f + 1 ≤ cf X) (hst : st = as.reverse ++ (2, ((1000 : Nat) : Int)) :: rest) (hw8 : (rest.map (fun v => if v.1 = 1 then 2 else 1)).sum ≤ 8) (hT : T ((2, ((1000 : Nat) : Int)) :: as) G (thenW K X (pc + 3) lv rest)) (hn : as.length = 2 := by rfl) : WP K X pc lv st G :=
  s_callV (ci := 13) (TT := TX12) (N := 109) hG hdg (by rw [ho]; exact m_1232) m_845 m_1583 m_715 m_184 ⟨by decide +kernel, by decide +kernel, by rw [hn]; decide +kernel⟩ (by decide) hf hM.obj rfl hst hw8 hT
theorem cv_X12_415 {as rest st : List LV} {f : Nat} {T : TR} (ho : K.1 = RX12) (hG : Good kX12_linksTypes yX12_linksTypes f T) (hdg : decode K.2.1 pc = .ok (.invokevirtual 415, 3)) (hM : MG G) (hf : f + 1 ≤ cf X) (hst : st = as.reverse ++ (2, ((1000 : Nat) : Int)) :: rest) (hw8 : (rest.map (fun v => if v.1 = 1 then 2 else 1)).sum ≤ 8) (hT : T ((2, ((1000 : Nat) : Int)) :: as) G (thenW K X (pc + 3) lv rest)) (hn : as.length = 3 := by rfl) : WP K X pc lv st G :=
  s_callV (ci := 13) (TT := TX12) (N := 109) hG hdg (by rw [ho]; exact m_1233) m_853 m_1591 m_715 m_193 ⟨by decide +kernel, by decide +kernel, by rw [hn]; decide +kernel⟩ (by decide) hf hM.obj rfl hst hw8 hT
theorem cv_X12_418 {as rest st : List LV} {f : Nat} {T : TR} (ho : K.1 = RX12) (hG : Good kX12_linksValue yX12_linksValue f T) (hdg : decode K.2.1 pc = .ok (.invokevirtual 418, 3)) (hM : MG G) (hf : f + 1 ≤ cf X) (hst : st = as.reverse ++ (2, ((1000 : Nat) : Int)) :: rest) (hw8 : (rest.map (fun v => if v.1 = 1 then 2 else 1)).sum ≤ 8) (hT : T ((2, ((1000 : Nat) : Int)) :: as) G (thenW K X (pc + 3) lv rest)) (hn : as.length = 4 := by rfl) : WP K X pc lv st G :=
  s_callV (ci := 13) (TT := TX12) (N := 109) hG hdg (by rw [ho]; exact m_1234) m_854 m_1592 m_715 m_194 ⟨by decide +kernel, by decide +kernel, by rw [hn]; decide +kernel⟩ (by decide) hf hM.obj rfl hst hw8 hT
theorem cv_X12_421 {as rest st : List LV} {f : Nat} {T : TR} (ho : K.1 = RX12) (hG : Good kX12_sealsValue yX12_sealsValue f T) (hdg : decode K.2.1 pc = .ok (.invokevirtual 421, 3)) (hM : MG G) (hf : f + 1 ≤ cf X) (hst : st = as.reverse ++ (2, ((1000 : Nat) : Int)) :: rest) (hw8 : (rest.map (fun v => if v.1 = 1 then 2 else 1)).sum ≤ 8) (hT : T ((2, ((1000 : Nat) : Int)) :: as) G (thenW K X (pc + 3) lv rest)) (hn : as.length = 3 := by rfl) : WP K X pc lv st G :=
  s_callV (ci := 13) (TT := TX12) (N := 109) hG hdg (by rw [ho]; exact m_1235) m_877 m_1615 m_715 m_218 ⟨by decide +kernel, by decide +kernel, by rw [hn]; decide +kernel⟩ (by decide) hf hM.obj rfl hst hw8 hT
theorem cv_X12_424 {as rest st : List LV} {f : Nat} {T : TR} (ho : K.1 = RX12) (hG : Good kX12_copies yX12_copies f T) (hdg : decode K.2.1 pc = .ok (.invokevirtual 424, 3)) (hM : MG G) (hf : f + 1 ≤ cf X) (hst : st = as.reverse ++ (2, ((1000 : Nat) : Int)) :: rest) (hw8 : (rest.map (fun v => if v.1 = 1 then 2 else 1)).sum ≤ 8) (hT : T ((2, ((1000 : Nat) : Int)) :: as) G (thenW K X (pc + 3) lv rest)) (hn : as.length = 2 := by rfl) : WP K X pc lv st G :=
  s_callV (ci := 13) (TT := TX12) (N := 109) hG hdg (by rw [ho]; exact m_1236) m_812 m_1551 m_715 m_148 ⟨by decide +kernel, by decide +kernel, by rw [hn]; decide +kernel⟩ (by decide) hf hM.obj rfl hst hw8 hT
theorem cv_X12_428 {as rest st : List LV} {f : Nat} {T : TR} (ho : K.1 = RX12) (hG : Good kX12_clears yX12_clears f T) (hdg : decode K.2.1 pc = .ok (.invokevirtual 428, 3)) (hM : MG G) (hf : f + 1 ≤ cf X) (hst : st = as.reverse ++ (2, ((1000 : Nat) : Int)) :: rest) (hw8 : (rest.map (fun v => if v.1 = 1 then 2 else 1)).sum ≤ 8) (hT : T ((2, ((1000 : Nat) : Int)) :: as) G (thenW K X (pc + 3) lv rest)) (hn : as.length = 1 := by rfl) : WP K X pc lv st G :=
  s_callV (ci := 13) (TT := TX12) (N := 109) hG hdg (by rw [ho]; exact m_1237) m_808 m_1547 m_715 m_144 ⟨by decide +kernel, by decide +kernel, by rw [hn]; decide +kernel⟩ (by decide) hf hM.obj rfl hst hw8 hT
theorem cv_X12_431 {as rest st : List LV} {f : Nat} {T : TR} (ho : K.1 = RX12) (hG : Good kX12_links yX12_links f T) (hdg : decode K.2.1 pc = .ok (.invokevirtual 431, 3)) (hM : MG G) (hf : f + 1 ≤ cf X) (hst : st = as.reverse ++ (2, ((1000 : Nat) : Int)) :: rest) (hw8 : (rest.map (fun v => if v.1 = 1 then 2 else 1)).sum ≤ 8) (hT : T ((2, ((1000 : Nat) : Int)) :: as) G (thenW K X (pc + 3) lv rest)) (hn : as.length = 3 := by rfl) : WP K X pc lv st G :=
  s_callV (ci := 13) (TT := TX12) (N := 109) hG hdg (by rw [ho]; exact m_1238) m_852 m_1590 m_715 m_192 ⟨by decide +kernel, by decide +kernel, by rw [hn]; decide +kernel⟩ (by decide) hf hM.obj rfl hst hw8 hT
theorem cv_X12_434 {as rest st : List LV} {f : Nat} {T : TR} (ho : K.1 = RX12) (hG : Good kX12_choiceError yX12_choiceError f T) (hdg : decode K.2.1 pc = .ok (.invokevirtual 434, 3)) (hM : MG G) (hf : f + 1 ≤ cf X) (hst : st = as.reverse ++ (2, ((1000 : Nat) : Int)) :: rest) (hw8 : (rest.map (fun v => if v.1 = 1 then 2 else 1)).sum ≤ 8) (hT : T ((2, ((1000 : Nat) : Int)) :: as) G (thenW K X (pc + 3) lv rest)) (hn : as.length = 3 := by rfl) : WP K X pc lv st G :=
  s_callV (ci := 13) (TT := TX12) (N := 109) hG hdg (by rw [ho]; exact m_1239) m_805 m_1544 m_715 m_141 ⟨by decide +kernel, by decide +kernel, by rw [hn]; decide +kernel⟩ (by decide) hf hM.obj rfl hst hw8 hT
theorem cv_X12_437 {as rest st : List LV} {f : Nat} {T : TR} (ho : K.1 = RX12) (hG : Good kX12_setsStamps yX12_setsStamps f T) (hdg : decode K.2.1 pc = .ok (.invokevirtual 437, 3)) (hM : MG G) (hf : f + 1 ≤ cf X) (hst : st = as.reverse ++ (2, ((1000 : Nat) : Int)) :: rest) (hw8 : (rest.map (fun v => if v.1 = 1 then 2 else 1)).sum ≤ 8) (hT : T ((2, ((1000 : Nat) : Int)) :: as) G (thenW K X (pc + 3) lv rest)) (hn : as.length = 1 := by rfl) : WP K X pc lv st G :=
  s_callV (ci := 13) (TT := TX12) (N := 109) hG hdg (by rw [ho]; exact m_1240) m_882 m_1620 m_715 m_223 ⟨by decide +kernel, by decide +kernel, by rw [hn]; decide +kernel⟩ (by decide) hf hM.obj rfl hst hw8 hT
theorem cv_X12_440 {as rest st : List LV} {f : Nat} {T : TR} (ho : K.1 = RX12) (hG : Good kX12_versionOf yX12_versionOf f T) (hdg : decode K.2.1 pc = .ok (.invokevirtual 440, 3)) (hM : MG G) (hf : f + 1 ≤ cf X) (hst : st = as.reverse ++ (2, ((1000 : Nat) : Int)) :: rest) (hw8 : (rest.map (fun v => if v.1 = 1 then 2 else 1)).sum ≤ 8) (hT : T ((2, ((1000 : Nat) : Int)) :: as) G (thenW K X (pc + 3) lv rest)) (hn : as.length = 1 := by rfl) : WP K X pc lv st G :=
  s_callV (ci := 13) (TT := TX12) (N := 109) hG hdg (by rw [ho]; exact m_1241) m_909 m_1647 m_715 m_250 ⟨by decide +kernel, by decide +kernel, by rw [hn]; decide +kernel⟩ (by decide) hf hM.obj rfl hst hw8 hT
theorem cv_X12_443 {as rest st : List LV} {f : Nat} {T : TR} (ho : K.1 = RX12) (hG : Good kX12_identOf yX12_identOf f T) (hdg : decode K.2.1 pc = .ok (.invokevirtual 443, 3)) (hM : MG G) (hf : f + 1 ≤ cf X) (hst : st = as.reverse ++ (2, ((1000 : Nat) : Int)) :: rest) (hw8 : (rest.map (fun v => if v.1 = 1 then 2 else 1)).sum ≤ 8) (hT : T ((2, ((1000 : Nat) : Int)) :: as) G (thenW K X (pc + 3) lv rest)) (hn : as.length = 1 := by rfl) : WP K X pc lv st G :=
  s_callV (ci := 13) (TT := TX12) (N := 109) hG hdg (by rw [ho]; exact m_1242) m_829 m_1568 m_715 m_166 ⟨by decide +kernel, by decide +kernel, by rw [hn]; decide +kernel⟩ (by decide) hf hM.obj rfl hst hw8 hT
theorem cv_X12_446 {as rest st : List LV} {f : Nat} {T : TR} (ho : K.1 = RX12) (hG : Good kX12_partsOfNode yX12_partsOfNode f T) (hdg : decode K.2.1 pc = .ok (.invokevirtual 446, 3)) (hM : MG G) (hf : f + 1 ≤ cf X) (hst : st = as.reverse ++ (2, ((1000 : Nat) : Int)) :: rest) (hw8 : (rest.map (fun v => if v.1 = 1 then 2 else 1)).sum ≤ 8) (hT : T ((2, ((1000 : Nat) : Int)) :: as) G (thenW K X (pc + 3) lv rest)) (hn : as.length = 1 := by rfl) : WP K X pc lv st G :=
  s_callV (ci := 13) (TT := TX12) (N := 109) hG hdg (by rw [ho]; exact m_1243) m_863 m_1601 m_715 m_204 ⟨by decide +kernel, by decide +kernel, by rw [hn]; decide +kernel⟩ (by decide) hf hM.obj rfl hst hw8 hT
theorem cv_X12_449 {as rest st : List LV} {f : Nat} {T : TR} (ho : K.1 = RX12) (hG : Good kX12_partOf yX12_partOf f T) (hdg : decode K.2.1 pc = .ok (.invokevirtual 449, 3)) (hM : MG G) (hf : f + 1 ≤ cf X) (hst : st = as.reverse ++ (2, ((1000 : Nat) : Int)) :: rest) (hw8 : (rest.map (fun v => if v.1 = 1 then 2 else 1)).sum ≤ 8) (hT : T ((2, ((1000 : Nat) : Int)) :: as) G (thenW K X (pc + 3) lv rest)) (hn : as.length = 2 := by rfl) : WP K X pc lv st G :=
  s_callV (ci := 13) (TT := TX12) (N := 109) hG hdg (by rw [ho]; exact m_1244) m_862 m_1600 m_715 m_202 ⟨by decide +kernel, by decide +kernel, by rw [hn]; decide +kernel⟩ (by decide) hf hM.obj rfl hst hw8 hT
theorem cv_X12_452 {as rest st : List LV} {f : Nat} {T : TR} (ho : K.1 = RX12) (hG : Good kX12_unitFace yX12_unitFace f T) (hdg : decode K.2.1 pc = .ok (.invokevirtual 452, 3)) (hM : MG G) (hf : f + 1 ≤ cf X) (hst : st = as.reverse ++ (2, ((1000 : Nat) : Int)) :: rest) (hw8 : (rest.map (fun v => if v.1 = 1 then 2 else 1)).sum ≤ 8) (hT : T ((2, ((1000 : Nat) : Int)) :: as) G (thenW K X (pc + 3) lv rest)) (hn : as.length = 2 := by rfl) : WP K X pc lv st G :=
  s_callV (ci := 13) (TT := TX12) (N := 109) hG hdg (by rw [ho]; exact m_1245) m_903 m_1641 m_715 m_244 ⟨by decide +kernel, by decide +kernel, by rw [hn]; decide +kernel⟩ (by decide) hf hM.obj rfl hst hw8 hT
theorem cv_X12_455 {as rest st : List LV} {f : Nat} {T : TR} (ho : K.1 = RX12) (hG : Good kX12_seals yX12_seals f T) (hdg : decode K.2.1 pc = .ok (.invokevirtual 455, 3)) (hM : MG G) (hf : f + 1 ≤ cf X) (hst : st = as.reverse ++ (2, ((1000 : Nat) : Int)) :: rest) (hw8 : (rest.map (fun v => if v.1 = 1 then 2 else 1)).sum ≤ 8) (hT : T ((2, ((1000 : Nat) : Int)) :: as) G (thenW K X (pc + 3) lv rest)) (hn : as.length = 4 := by rfl) : WP K X pc lv st G :=
  s_callV (ci := 13) (TT := TX12) (N := 109) hG hdg (by rw [ho]; exact m_1246) m_876 m_1614 m_715 m_217 ⟨by decide +kernel, by decide +kernel, by rw [hn]; decide +kernel⟩ (by decide) hf hM.obj rfl hst hw8 hT
theorem cv_X12_458 {as rest st : List LV} {f : Nat} {T : TR} (ho : K.1 = RX12) (hG : Good kX12_applies yX12_applies f T) (hdg : decode K.2.1 pc = .ok (.invokevirtual 458, 3)) (hM : MG G) (hf : f + 1 ≤ cf X) (hst : st = as.reverse ++ (2, ((1000 : Nat) : Int)) :: rest) (hw8 : (rest.map (fun v => if v.1 = 1 then 2 else 1)).sum ≤ 8) (hT : T ((2, ((1000 : Nat) : Int)) :: as) G (thenW K X (pc + 3) lv rest)) (hn : as.length = 4 := by rfl) : WP K X pc lv st G :=
  s_callV (ci := 13) (TT := TX12) (N := 109) hG hdg (by rw [ho]; exact m_1247) m_798 m_1537 m_715 m_133 ⟨by decide +kernel, by decide +kernel, by rw [hn]; decide +kernel⟩ (by decide) hf hM.obj rfl hst hw8 hT
theorem cv_X12_461 {as rest st : List LV} {f : Nat} {T : TR} (ho : K.1 = RX12) (hG : Good kX12_chooses yX12_chooses f T) (hdg : decode K.2.1 pc = .ok (.invokevirtual 461, 3)) (hM : MG G) (hf : f + 1 ≤ cf X) (hst : st = as.reverse ++ (2, ((1000 : Nat) : Int)) :: rest) (hw8 : (rest.map (fun v => if v.1 = 1 then 2 else 1)).sum ≤ 8) (hT : T ((2, ((1000 : Nat) : Int)) :: as) G (thenW K X (pc + 3) lv rest)) (hn : as.length = 5 := by rfl) : WP K X pc lv st G :=
  s_callV (ci := 13) (TT := TX12) (N := 109) hG hdg (by rw [ho]; exact m_1248) m_807 m_1546 m_715 m_143 ⟨by decide +kernel, by decide +kernel, by rw [hn]; decide +kernel⟩ (by decide) hf hM.obj rfl hst hw8 hT
theorem cv_X12_464 {as rest st : List LV} {f : Nat} {T : TR} (ho : K.1 = RX12) (hG : Good kX12_renames yX12_renames f T) (hdg : decode K.2.1 pc = .ok (.invokevirtual 464, 3)) (hM : MG G) (hf : f + 1 ≤ cf X) (hst : st = as.reverse ++ (2, ((1000 : Nat) : Int)) :: rest) (hw8 : (rest.map (fun v => if v.1 = 1 then 2 else 1)).sum ≤ 8) (hT : T ((2, ((1000 : Nat) : Int)) :: as) G (thenW K X (pc + 3) lv rest)) (hn : as.length = 2 := by rfl) : WP K X pc lv st G :=
  s_callV (ci := 13) (TT := TX12) (N := 109) hG hdg (by rw [ho]; exact m_1249) m_871 m_1609 m_715 m_212 ⟨by decide +kernel, by decide +kernel, by rw [hn]; decide +kernel⟩ (by decide) hf hM.obj rfl hst hw8 hT
theorem cv_X12_467 {as rest st : List LV} {f : Nat} {T : TR} (ho : K.1 = RX12) (hG : Good kX12_beginsFulls yX12_beginsFulls f T) (hdg : decode K.2.1 pc = .ok (.invokevirtual 467, 3)) (hM : MG G) (hf : f + 1 ≤ cf X) (hst : st = as.reverse ++ (2, ((1000 : Nat) : Int)) :: rest) (hw8 : (rest.map (fun v => if v.1 = 1 then 2 else 1)).sum ≤ 8) (hT : T ((2, ((1000 : Nat) : Int)) :: as) G (thenW K X (pc + 3) lv rest)) (hn : as.length = 0 := by rfl) : WP K X pc lv st G :=
  s_callV (ci := 13) (TT := TX12) (N := 109) hG hdg (by rw [ho]; exact m_1250) m_802 m_1541 m_715 m_138 ⟨by decide +kernel, by decide +kernel, by rw [hn]; decide +kernel⟩ (by decide) hf hM.obj rfl hst hw8 hT
theorem cv_X12_470 {as rest st : List LV} {f : Nat} {T : TR} (ho : K.1 = RX12) (hG : Good kX12_reachOf yX12_reachOf f T) (hdg : decode K.2.1 pc = .ok (.invokevirtual 470, 3)) (hM : MG G) (hf : f + 1 ≤ cf X) (hst : st = as.reverse ++ (2, ((1000 : Nat) : Int)) :: rest) (hw8 : (rest.map (fun v => if v.1 = 1 then 2 else 1)).sum ≤ 8) (hT : T ((2, ((1000 : Nat) : Int)) :: as) G (thenW K X (pc + 3) lv rest)) (hn : as.length = 1 := by rfl) : WP K X pc lv st G :=
  s_callV (ci := 13) (TT := TX12) (N := 109) hG hdg (by rw [ho]; exact m_1251) m_866 m_1604 m_715 m_207 ⟨by decide +kernel, by decide +kernel, by rw [hn]; decide +kernel⟩ (by decide) hf hM.obj rfl hst hw8 hT
theorem cv_X12_474 {as rest st : List LV} {f : Nat} {T : TR} (ho : K.1 = RX12) (hG : Good kX12_faceOf yX12_faceOf f T) (hdg : decode K.2.1 pc = .ok (.invokevirtual 474, 3)) (hM : MG G) (hf : f + 1 ≤ cf X) (hst : st = as.reverse ++ (2, ((1000 : Nat) : Int)) :: rest) (hw8 : (rest.map (fun v => if v.1 = 1 then 2 else 1)).sum ≤ 8) (hT : T ((2, ((1000 : Nat) : Int)) :: as) G (thenW K X (pc + 3) lv rest)) (hn : as.length = 1 := by rfl) : WP K X pc lv st G :=
  s_callV (ci := 13) (TT := TX12) (N := 109) hG hdg (by rw [ho]; exact m_1252) m_819 m_1558 m_715 m_155 ⟨by decide +kernel, by decide +kernel, by rw [hn]; decide +kernel⟩ (by decide) hf hM.obj rfl hst hw8 hT
theorem cv_X12_477 {as rest st : List LV} {f : Nat} {T : TR} (ho : K.1 = RX12) (hG : Good kX12_faces yX12_faces f T) (hdg : decode K.2.1 pc = .ok (.invokevirtual 477, 3)) (hM : MG G) (hf : f + 1 ≤ cf X) (hst : st = as.reverse ++ (2, ((1000 : Nat) : Int)) :: rest) (hw8 : (rest.map (fun v => if v.1 = 1 then 2 else 1)).sum ≤ 8) (hT : T ((2, ((1000 : Nat) : Int)) :: as) G (thenW K X (pc + 3) lv rest)) (hn : as.length = 1 := by rfl) : WP K X pc lv st G :=
  s_callV (ci := 13) (TT := TX12) (N := 109) hG hdg (by rw [ho]; exact m_1253) m_820 m_1559 m_715 m_156 ⟨by decide +kernel, by decide +kernel, by rw [hn]; decide +kernel⟩ (by decide) hf hM.obj rfl hst hw8 hT
theorem cv_X12_481 {as rest st : List LV} {f : Nat} {T : TR} (ho : K.1 = RX12) (hG : Good kX12_isRight yX12_isRight f T) (hdg : decode K.2.1 pc = .ok (.invokevirtual 481, 3)) (hM : MG G) (hf : f + 1 ≤ cf X) (hst : st = as.reverse ++ (2, ((1000 : Nat) : Int)) :: rest) (hw8 : (rest.map (fun v => if v.1 = 1 then 2 else 1)).sum ≤ 8) (hT : T ((2, ((1000 : Nat) : Int)) :: as) G (thenW K X (pc + 3) lv rest)) (hn : as.length = 1 := by rfl) : WP K X pc lv st G :=
  s_callV (ci := 13) (TT := TX12) (N := 109) hG hdg (by rw [ho]; exact m_1254) m_841 m_1579 m_715 m_180 ⟨by decide +kernel, by decide +kernel, by rw [hn]; decide +kernel⟩ (by decide) hf hM.obj rfl hst hw8 hT
theorem cv_X12_484 {as rest st : List LV} {f : Nat} {T : TR} (ho : K.1 = RX12) (hG : Good kX12_asks yX12_asks f T) (hdg : decode K.2.1 pc = .ok (.invokevirtual 484, 3)) (hM : MG G) (hf : f + 1 ≤ cf X) (hst : st = as.reverse ++ (2, ((1000 : Nat) : Int)) :: rest) (hw8 : (rest.map (fun v => if v.1 = 1 then 2 else 1)).sum ≤ 8) (hT : T ((2, ((1000 : Nat) : Int)) :: as) G (thenW K X (pc + 3) lv rest)) (hn : as.length = 2 := by rfl) : WP K X pc lv st G :=
  s_callV (ci := 13) (TT := TX12) (N := 109) hG hdg (by rw [ho]; exact m_1255) m_800 m_1539 m_715 m_135 ⟨by decide +kernel, by decide +kernel, by rw [hn]; decide +kernel⟩ (by decide) hf hM.obj rfl hst hw8 hT
theorem cv_X12_500 {as rest st : List LV} {f : Nat} {T : TR} (ho : K.1 = RX12) (hG : Good kX12_rootOf yX12_rootOf f T) (hdg : decode K.2.1 pc = .ok (.invokevirtual 500, 3)) (hM : MG G) (hf : f + 1 ≤ cf X) (hst : st = as.reverse ++ (2, ((1000 : Nat) : Int)) :: rest) (hw8 : (rest.map (fun v => if v.1 = 1 then 2 else 1)).sum ≤ 8) (hT : T ((2, ((1000 : Nat) : Int)) :: as) G (thenW K X (pc + 3) lv rest)) (hn : as.length = 1 := by rfl) : WP K X pc lv st G :=
  s_callV (ci := 13) (TT := TX12) (N := 109) hG hdg (by rw [ho]; exact m_1256) m_873 m_1611 m_715 m_214 ⟨by decide +kernel, by decide +kernel, by rw [hn]; decide +kernel⟩ (by decide) hf hM.obj rfl hst hw8 hT
theorem cv_X12_503 {as rest st : List LV} {f : Nat} {T : TR} (ho : K.1 = RX12) (hG : Good kX12_together yX12_together f T) (hdg : decode K.2.1 pc = .ok (.invokevirtual 503, 3)) (hM : MG G) (hf : f + 1 ≤ cf X) (hst : st = as.reverse ++ (2, ((1000 : Nat) : Int)) :: rest) (hw8 : (rest.map (fun v => if v.1 = 1 then 2 else 1)).sum ≤ 8) (hT : T ((2, ((1000 : Nat) : Int)) :: as) G (thenW K X (pc + 3) lv rest)) (hn : as.length = 2 := by rfl) : WP K X pc lv st G :=
  s_callV (ci := 13) (TT := TX12) (N := 109) hG hdg (by rw [ho]; exact m_1257) m_897 m_1635 m_715 m_238 ⟨by decide +kernel, by decide +kernel, by rw [hn]; decide +kernel⟩ (by decide) hf hM.obj rfl hst hw8 hT
theorem cv_X12_506 {as rest st : List LV} {f : Nat} {T : TR} (ho : K.1 = RX12) (hG : Good kX12_work yX12_work f T) (hdg : decode K.2.1 pc = .ok (.invokevirtual 506, 3)) (hM : MG G) (hf : f + 1 ≤ cf X) (hst : st = as.reverse ++ (2, ((1000 : Nat) : Int)) :: rest) (hw8 : (rest.map (fun v => if v.1 = 1 then 2 else 1)).sum ≤ 8) (hT : T ((2, ((1000 : Nat) : Int)) :: as) G (thenW K X (pc + 3) lv rest)) (hn : as.length = 2 := by rfl) : WP K X pc lv st G :=
  s_callV (ci := 13) (TT := TX12) (N := 109) hG hdg (by rw [ho]; exact m_1258) m_910 m_1648 m_715 m_251 ⟨by decide +kernel, by decide +kernel, by rw [hn]; decide +kernel⟩ (by decide) hf hM.obj rfl hst hw8 hT
theorem cv_X12_509 {as rest st : List LV} {f : Nat} {T : TR} (ho : K.1 = RX12) (hG : Good kX12_finishes yX12_finishes f T) (hdg : decode K.2.1 pc = .ok (.invokevirtual 509, 3)) (hM : MG G) (hf : f + 1 ≤ cf X) (hst : st = as.reverse ++ (2, ((1000 : Nat) : Int)) :: rest) (hw8 : (rest.map (fun v => if v.1 = 1 then 2 else 1)).sum ≤ 8) (hT : T ((2, ((1000 : Nat) : Int)) :: as) G (thenW K X (pc + 3) lv rest)) (hn : as.length = 1 := by rfl) : WP K X pc lv st G :=
  s_callV (ci := 13) (TT := TX12) (N := 109) hG hdg (by rw [ho]; exact m_1259) m_823 m_1562 m_715 m_159 ⟨by decide +kernel, by decide +kernel, by rw [hn]; decide +kernel⟩ (by decide) hf hM.obj rfl hst hw8 hT
theorem cv_X12_512 {as rest st : List LV} {f : Nat} {T : TR} (ho : K.1 = RX12) (hG : Good kX12_instance yX12_instance f T) (hdg : decode K.2.1 pc = .ok (.invokevirtual 512, 3)) (hM : MG G) (hf : f + 1 ≤ cf X) (hst : st = as.reverse ++ (2, ((1000 : Nat) : Int)) :: rest) (hw8 : (rest.map (fun v => if v.1 = 1 then 2 else 1)).sum ≤ 8) (hT : T ((2, ((1000 : Nat) : Int)) :: as) G (thenW K X (pc + 3) lv rest)) (hn : as.length = 1 := by rfl) : WP K X pc lv st G :=
  s_callV (ci := 13) (TT := TX12) (N := 109) hG hdg (by rw [ho]; exact m_1260) m_831 m_1569 m_715 m_169 ⟨by decide +kernel, by decide +kernel, by rw [hn]; decide +kernel⟩ (by decide) hf hM.obj rfl hst hw8 hT
theorem cv_X12_515 {as rest st : List LV} {f : Nat} {T : TR} (ho : K.1 = RX12) (hG : Good kX12_expressionOf yX12_expressionOf f T) (hdg : decode K.2.1 pc = .ok (.invokevirtual 515, 3)) (hM : MG G) (hf : f + 1 ≤ cf X) (hst : st = as.reverse ++ (2, ((1000 : Nat) : Int)) :: rest) (hw8 : (rest.map (fun v => if v.1 = 1 then 2 else 1)).sum ≤ 8) (hT : T ((2, ((1000 : Nat) : Int)) :: as) G (thenW K X (pc + 3) lv rest)) (hn : as.length = 1 := by rfl) : WP K X pc lv st G :=
  s_callV (ci := 13) (TT := TX12) (N := 109) hG hdg (by rw [ho]; exact m_1261) m_818 m_1557 m_715 m_154 ⟨by decide +kernel, by decide +kernel, by rw [hn]; decide +kernel⟩ (by decide) hf hM.obj rfl hst hw8 hT
theorem cv_X12_518 {as rest st : List LV} {f : Nat} {T : TR} (ho : K.1 = RX12) (hG : Good kX12_targetOf yX12_targetOf f T) (hdg : decode K.2.1 pc = .ok (.invokevirtual 518, 3)) (hM : MG G) (hf : f + 1 ≤ cf X) (hst : st = as.reverse ++ (2, ((1000 : Nat) : Int)) :: rest) (hw8 : (rest.map (fun v => if v.1 = 1 then 2 else 1)).sum ≤ 8) (hT : T ((2, ((1000 : Nat) : Int)) :: as) G (thenW K X (pc + 3) lv rest)) (hn : as.length = 2 := by rfl) : WP K X pc lv st G :=
  s_callV (ci := 13) (TT := TX12) (N := 109) hG hdg (by rw [ho]; exact m_1262) m_887 m_1625 m_715 m_228 ⟨by decide +kernel, by decide +kernel, by rw [hn]; decide +kernel⟩ (by decide) hf hM.obj rfl hst hw8 hT
theorem cv_X12_521 {as rest st : List LV} {f : Nat} {T : TR} (ho : K.1 = RX12) (hG : Good kX12_isA yX12_isA f T) (hdg : decode K.2.1 pc = .ok (.invokevirtual 521, 3)) (hM : MG G) (hf : f + 1 ≤ cf X) (hst : st = as.reverse ++ (2, ((1000 : Nat) : Int)) :: rest) (hw8 : (rest.map (fun v => if v.1 = 1 then 2 else 1)).sum ≤ 8) (hT : T ((2, ((1000 : Nat) : Int)) :: as) G (thenW K X (pc + 3) lv rest)) (hn : as.length = 2 := by rfl) : WP K X pc lv st G :=
  s_callV (ci := 13) (TT := TX12) (N := 109) hG hdg (by rw [ho]; exact m_1263) m_832 m_1570 m_715 m_170 ⟨by decide +kernel, by decide +kernel, by rw [hn]; decide +kernel⟩ (by decide) hf hM.obj rfl hst hw8 hT
theorem cv_X12_524 {as rest st : List LV} {f : Nat} {T : TR} (ho : K.1 = RX12) (hG : Good kX12_shownBy yX12_shownBy f T) (hdg : decode K.2.1 pc = .ok (.invokevirtual 524, 3)) (hM : MG G) (hf : f + 1 ≤ cf X) (hst : st = as.reverse ++ (2, ((1000 : Nat) : Int)) :: rest) (hw8 : (rest.map (fun v => if v.1 = 1 then 2 else 1)).sum ≤ 8) (hT : T ((2, ((1000 : Nat) : Int)) :: as) G (thenW K X (pc + 3) lv rest)) (hn : as.length = 2 := by rfl) : WP K X pc lv st G :=
  s_callV (ci := 13) (TT := TX12) (N := 109) hG hdg (by rw [ho]; exact m_1264) m_883 m_1621 m_715 m_224 ⟨by decide +kernel, by decide +kernel, by rw [hn]; decide +kernel⟩ (by decide) hf hM.obj rfl hst hw8 hT
theorem cv_X12_536 {as rest st : List LV} {f : Nat} {T : TR} (ho : K.1 = RX12) (hG : Good kX12_act yX12_act f T) (hdg : decode K.2.1 pc = .ok (.invokevirtual 536, 3)) (hM : MG G) (hf : f + 1 ≤ cf X) (hst : st = as.reverse ++ (2, ((1000 : Nat) : Int)) :: rest) (hw8 : (rest.map (fun v => if v.1 = 1 then 2 else 1)).sum ≤ 8) (hT : T ((2, ((1000 : Nat) : Int)) :: as) G (thenW K X (pc + 3) lv rest)) (hn : as.length = 3 := by rfl) : WP K X pc lv st G :=
  s_callV (ci := 13) (TT := TX12) (N := 109) hG hdg (by rw [ho]; exact m_1265) m_797 m_1536 m_715 m_132 ⟨by decide +kernel, by decide +kernel, by rw [hn]; decide +kernel⟩ (by decide) hf hM.obj rfl hst hw8 hT
theorem cv_X12_540 {as rest st : List LV} {f : Nat} {T : TR} (ho : K.1 = RX12) (hG : Good kX12_value yX12_value f T) (hdg : decode K.2.1 pc = .ok (.invokevirtual 540, 3)) (hM : MG G) (hf : f + 1 ≤ cf X) (hst : st = as.reverse ++ (2, ((1000 : Nat) : Int)) :: rest) (hw8 : (rest.map (fun v => if v.1 = 1 then 2 else 1)).sum ≤ 8) (hT : T ((2, ((1000 : Nat) : Int)) :: as) G (thenW K X (pc + 3) lv rest)) (hn : as.length = 3 := by rfl) : WP K X pc lv st G :=
  s_callV (ci := 13) (TT := TX12) (N := 109) hG hdg (by rw [ho]; exact m_1266) m_905 m_1643 m_715 m_246 ⟨by decide +kernel, by decide +kernel, by rw [hn]; decide +kernel⟩ (by decide) hf hM.obj rfl hst hw8 hT
theorem cv_X12_543 {as rest st : List LV} {f : Nat} {T : TR} (ho : K.1 = RX12) (hG : Good kX12_gives yX12_gives f T) (hdg : decode K.2.1 pc = .ok (.invokevirtual 543, 3)) (hM : MG G) (hf : f + 1 ≤ cf X) (hst : st = as.reverse ++ (2, ((1000 : Nat) : Int)) :: rest) (hw8 : (rest.map (fun v => if v.1 = 1 then 2 else 1)).sum ≤ 8) (hT : T ((2, ((1000 : Nat) : Int)) :: as) G (thenW K X (pc + 3) lv rest)) (hn : as.length = 1 := by rfl) : WP K X pc lv st G :=
  s_callV (ci := 13) (TT := TX12) (N := 109) hG hdg (by rw [ho]; exact m_1267) m_827 m_1566 m_715 m_163 ⟨by decide +kernel, by decide +kernel, by rw [hn]; decide +kernel⟩ (by decide) hf hM.obj rfl hst hw8 hT
theorem cv_X12_546 {as rest st : List LV} {f : Nat} {T : TR} (ho : K.1 = RX12) (hG : Good kX12_beginsCell yX12_beginsCell f T) (hdg : decode K.2.1 pc = .ok (.invokevirtual 546, 3)) (hM : MG G) (hf : f + 1 ≤ cf X) (hst : st = as.reverse ++ (2, ((1000 : Nat) : Int)) :: rest) (hw8 : (rest.map (fun v => if v.1 = 1 then 2 else 1)).sum ≤ 8) (hT : T ((2, ((1000 : Nat) : Int)) :: as) G (thenW K X (pc + 3) lv rest)) (hn : as.length = 1 := by rfl) : WP K X pc lv st G :=
  s_callV (ci := 13) (TT := TX12) (N := 109) hG hdg (by rw [ho]; exact m_1268) m_801 m_1540 m_715 m_137 ⟨by decide +kernel, by decide +kernel, by rw [hn]; decide +kernel⟩ (by decide) hf hM.obj rfl hst hw8 hT
theorem cv_X12_549 {as rest st : List LV} {f : Nat} {T : TR} (ho : K.1 = RX12) (hG : Good kX12_fails yX12_fails f T) (hdg : decode K.2.1 pc = .ok (.invokevirtual 549, 3)) (hM : MG G) (hf : f + 1 ≤ cf X) (hst : st = as.reverse ++ (2, ((1000 : Nat) : Int)) :: rest) (hw8 : (rest.map (fun v => if v.1 = 1 then 2 else 1)).sum ≤ 8) (hT : T ((2, ((1000 : Nat) : Int)) :: as) G (thenW K X (pc + 3) lv rest)) (hn : as.length = 0 := by rfl) : WP K X pc lv st G :=
  s_callV (ci := 13) (TT := TX12) (N := 109) hG hdg (by rw [ho]; exact m_1269) m_821 m_1560 m_715 m_157 ⟨by decide +kernel, by decide +kernel, by rw [hn]; decide +kernel⟩ (by decide) hf hM.obj rfl hst hw8 hT
theorem cv_X12_552 {as rest st : List LV} {f : Nat} {T : TR} (ho : K.1 = RX12) (hG : Good kX12_isPair yX12_isPair f T) (hdg : decode K.2.1 pc = .ok (.invokevirtual 552, 3)) (hM : MG G) (hf : f + 1 ≤ cf X) (hst : st = as.reverse ++ (2, ((1000 : Nat) : Int)) :: rest) (hw8 : (rest.map (fun v => if v.1 = 1 then 2 else 1)).sum ≤ 8) (hT : T ((2, ((1000 : Nat) : Int)) :: as) G (thenW K X (pc + 3) lv rest)) (hn : as.length = 1 := by rfl) : WP K X pc lv st G :=
  s_callV (ci := 13) (TT := TX12) (N := 109) hG hdg (by rw [ho]; exact m_1270) m_840 m_1578 m_715 m_179 ⟨by decide +kernel, by decide +kernel, by rw [hn]; decide +kernel⟩ (by decide) hf hM.obj rfl hst hw8 hT
theorem cv_X12_558 {as rest st : List LV} {f : Nat} {T : TR} (ho : K.1 = RX12) (hG : Good kX12_finishesCell yX12_finishesCell f T) (hdg : decode K.2.1 pc = .ok (.invokevirtual 558, 3)) (hM : MG G) (hf : f + 1 ≤ cf X) (hst : st = as.reverse ++ (2, ((1000 : Nat) : Int)) :: rest) (hw8 : (rest.map (fun v => if v.1 = 1 then 2 else 1)).sum ≤ 8) (hT : T ((2, ((1000 : Nat) : Int)) :: as) G (thenW K X (pc + 3) lv rest)) (hn : as.length = 1 := by rfl) : WP K X pc lv st G :=
  s_callV (ci := 13) (TT := TX12) (N := 109) hG hdg (by rw [ho]; exact m_1271) m_824 m_1563 m_715 m_160 ⟨by decide +kernel, by decide +kernel, by rw [hn]; decide +kernel⟩ (by decide) hf hM.obj rfl hst hw8 hT
theorem cv_X12_561 {as rest st : List LV} {f : Nat} {T : TR} (ho : K.1 = RX12) (hG : Good kX12_beginsPart yX12_beginsPart f T) (hdg : decode K.2.1 pc = .ok (.invokevirtual 561, 3)) (hM : MG G) (hf : f + 1 ≤ cf X) (hst : st = as.reverse ++ (2, ((1000 : Nat) : Int)) :: rest) (hw8 : (rest.map (fun v => if v.1 = 1 then 2 else 1)).sum ≤ 8) (hT : T ((2, ((1000 : Nat) : Int)) :: as) G (thenW K X (pc + 3) lv rest)) (hn : as.length = 2 := by rfl) : WP K X pc lv st G :=
  s_callV (ci := 13) (TT := TX12) (N := 109) hG hdg (by rw [ho]; exact m_1272) m_803 m_1542 m_715 m_139 ⟨by decide +kernel, by decide +kernel, by rw [hn]; decide +kernel⟩ (by decide) hf hM.obj rfl hst hw8 hT
theorem cv_X12_564 {as rest st : List LV} {f : Nat} {T : TR} (ho : K.1 = RX12) (hG : Good kX12_finishesPart yX12_finishesPart f T) (hdg : decode K.2.1 pc = .ok (.invokevirtual 564, 3)) (hM : MG G) (hf : f + 1 ≤ cf X) (hst : st = as.reverse ++ (2, ((1000 : Nat) : Int)) :: rest) (hw8 : (rest.map (fun v => if v.1 = 1 then 2 else 1)).sum ≤ 8) (hT : T ((2, ((1000 : Nat) : Int)) :: as) G (thenW K X (pc + 3) lv rest)) (hn : as.length = 2 := by rfl) : WP K X pc lv st G :=
  s_callV (ci := 13) (TT := TX12) (N := 109) hG hdg (by rw [ho]; exact m_1273) m_825 m_1564 m_715 m_161 ⟨by decide +kernel, by decide +kernel, by rw [hn]; decide +kernel⟩ (by decide) hf hM.obj rfl hst hw8 hT
theorem cv_X12_567 {as rest st : List LV} {f : Nat} {T : TR} (ho : K.1 = RX12) (hG : Good kX12_lays yX12_lays f T) (hdg : decode K.2.1 pc = .ok (.invokevirtual 567, 3)) (hM : MG G) (hf : f + 1 ≤ cf X) (hst : st = as.reverse ++ (2, ((1000 : Nat) : Int)) :: rest) (hw8 : (rest.map (fun v => if v.1 = 1 then 2 else 1)).sum ≤ 8) (hT : T ((2, ((1000 : Nat) : Int)) :: as) G (thenW K X (pc + 3) lv rest)) (hn : as.length = 1 := by rfl) : WP K X pc lv st G :=
  s_callV (ci := 13) (TT := TX12) (N := 109) hG hdg (by rw [ho]; exact m_1274) m_850 m_1588 m_715 m_190 ⟨by decide +kernel, by decide +kernel, by rw [hn]; decide +kernel⟩ (by decide) hf hM.obj rfl hst hw8 hT
theorem cv_X12_570 {as rest st : List LV} {f : Nat} {T : TR} (ho : K.1 = RX12) (hG : Good kX12_areFilled yX12_areFilled f T) (hdg : decode K.2.1 pc = .ok (.invokevirtual 570, 3)) (hM : MG G) (hf : f + 1 ≤ cf X) (hst : st = as.reverse ++ (2, ((1000 : Nat) : Int)) :: rest) (hw8 : (rest.map (fun v => if v.1 = 1 then 2 else 1)).sum ≤ 8) (hT : T ((2, ((1000 : Nat) : Int)) :: as) G (thenW K X (pc + 3) lv rest)) (hn : as.length = 0 := by rfl) : WP K X pc lv st G :=
  s_callV (ci := 13) (TT := TX12) (N := 109) hG hdg (by rw [ho]; exact m_1275) m_799 m_1538 m_715 m_134 ⟨by decide +kernel, by decide +kernel, by rw [hn]; decide +kernel⟩ (by decide) hf hM.obj rfl hst hw8 hT
theorem cv_X12_574 {as rest st : List LV} {f : Nat} {T : TR} (ho : K.1 = RX12) (hG : Good kX12_isRing yX12_isRing f T) (hdg : decode K.2.1 pc = .ok (.invokevirtual 574, 3)) (hM : MG G) (hf : f + 1 ≤ cf X) (hst : st = as.reverse ++ (2, ((1000 : Nat) : Int)) :: rest) (hw8 : (rest.map (fun v => if v.1 = 1 then 2 else 1)).sum ≤ 8) (hT : T ((2, ((1000 : Nat) : Int)) :: as) G (thenW K X (pc + 3) lv rest)) (hn : as.length = 0 := by rfl) : WP K X pc lv st G :=
  s_callV (ci := 13) (TT := TX12) (N := 109) hG hdg (by rw [ho]; exact m_1276) m_842 m_1580 m_715 m_181 ⟨by decide +kernel, by decide +kernel, by rw [hn]; decide +kernel⟩ (by decide) hf hM.obj rfl hst hw8 hT
theorem cv_X12_577 {as rest st : List LV} {f : Nat} {T : TR} (ho : K.1 = RX12) (hG : Good kX12_reaches yX12_reaches f T) (hdg : decode K.2.1 pc = .ok (.invokevirtual 577, 3)) (hM : MG G) (hf : f + 1 ≤ cf X) (hst : st = as.reverse ++ (2, ((1000 : Nat) : Int)) :: rest) (hw8 : (rest.map (fun v => if v.1 = 1 then 2 else 1)).sum ≤ 8) (hT : T ((2, ((1000 : Nat) : Int)) :: as) G (thenW K X (pc + 3) lv rest)) (hn : as.length = 1 := by rfl) : WP K X pc lv st G :=
  s_callV (ci := 13) (TT := TX12) (N := 109) hG hdg (by rw [ho]; exact m_1277) m_867 m_1605 m_715 m_208 ⟨by decide +kernel, by decide +kernel, by rw [hn]; decide +kernel⟩ (by decide) hf hM.obj rfl hst hw8 hT
theorem cv_X12_579 {as rest st : List LV} {f : Nat} {T : TR} (ho : K.1 = RX12) (hG : Good kX12_finds yX12_finds f T) (hdg : decode K.2.1 pc = .ok (.invokevirtual 579, 3)) (hM : MG G) (hf : f + 1 ≤ cf X) (hst : st = as.reverse ++ (2, ((1000 : Nat) : Int)) :: rest) (hw8 : (rest.map (fun v => if v.1 = 1 then 2 else 1)).sum ≤ 8) (hT : T ((2, ((1000 : Nat) : Int)) :: as) G (thenW K X (pc + 3) lv rest)) (hn : as.length = 1 := by rfl) : WP K X pc lv st G :=
  s_callV (ci := 13) (TT := TX12) (N := 109) hG hdg (by rw [ho]; exact m_1278) m_822 m_1561 m_715 m_158 ⟨by decide +kernel, by decide +kernel, by rw [hn]; decide +kernel⟩ (by decide) hf hM.obj rfl hst hw8 hT
theorem cv_X12_582 {as rest st : List LV} {f : Nat} {T : TR} (ho : K.1 = RX12) (hG : Good kX12_runsOnce yX12_runsOnce f T) (hdg : decode K.2.1 pc = .ok (.invokevirtual 582, 3)) (hM : MG G) (hf : f + 1 ≤ cf X) (hst : st = as.reverse ++ (2, ((1000 : Nat) : Int)) :: rest) (hw8 : (rest.map (fun v => if v.1 = 1 then 2 else 1)).sum ≤ 8) (hT : T ((2, ((1000 : Nat) : Int)) :: as) G (thenW K X (pc + 3) lv rest)) (hn : as.length = 1 := by rfl) : WP K X pc lv st G :=
  s_callV (ci := 13) (TT := TX12) (N := 109) hG hdg (by rw [ho]; exact m_1279) m_875 m_1613 m_715 m_216 ⟨by decide +kernel, by decide +kernel, by rw [hn]; decide +kernel⟩ (by decide) hf hM.obj rfl hst hw8 hT
theorem cv_X12_585 {as rest st : List LV} {f : Nat} {T : TR} (ho : K.1 = RX12) (hG : Good kX12_decides yX12_decides f T) (hdg : decode K.2.1 pc = .ok (.invokevirtual 585, 3)) (hM : MG G) (hf : f + 1 ≤ cf X) (hst : st = as.reverse ++ (2, ((1000 : Nat) : Int)) :: rest) (hw8 : (rest.map (fun v => if v.1 = 1 then 2 else 1)).sum ≤ 8) (hT : T ((2, ((1000 : Nat) : Int)) :: as) G (thenW K X (pc + 3) lv rest)) (hn : as.length = 1 := by rfl) : WP K X pc lv st G :=
  s_callV (ci := 13) (TT := TX12) (N := 109) hG hdg (by rw [ho]; exact m_1280) m_813 m_1552 m_715 m_149 ⟨by decide +kernel, by decide +kernel, by rw [hn]; decide +kernel⟩ (by decide) hf hM.obj rfl hst hw8 hT
theorem cv_X12_588 {as rest st : List LV} {f : Nat} {T : TR} (ho : K.1 = RX12) (hG : Good kX12_keeps yX12_keeps f T) (hdg : decode K.2.1 pc = .ok (.invokevirtual 588, 3)) (hM : MG G) (hf : f + 1 ≤ cf X) (hst : st = as.reverse ++ (2, ((1000 : Nat) : Int)) :: rest) (hw8 : (rest.map (fun v => if v.1 = 1 then 2 else 1)).sum ≤ 8) (hT : T ((2, ((1000 : Nat) : Int)) :: as) G (thenW K X (pc + 3) lv rest)) (hn : as.length = 1 := by rfl) : WP K X pc lv st G :=
  s_callV (ci := 13) (TT := TX12) (N := 109) hG hdg (by rw [ho]; exact m_1281) m_848 m_1586 m_715 m_188 ⟨by decide +kernel, by decide +kernel, by rw [hn]; decide +kernel⟩ (by decide) hf hM.obj rfl hst hw8 hT
theorem cv_X12_604 {as rest st : List LV} {f : Nat} {T : TR} (ho : K.1 = RX12) (hG : Good kX12_tells yX12_tells f T) (hdg : decode K.2.1 pc = .ok (.invokevirtual 604, 3)) (hM : MG G) (hf : f + 1 ≤ cf X) (hst : st = as.reverse ++ (2, ((1000 : Nat) : Int)) :: rest) (hw8 : (rest.map (fun v => if v.1 = 1 then 2 else 1)).sum ≤ 8) (hT : T ((2, ((1000 : Nat) : Int)) :: as) G (thenW K X (pc + 3) lv rest)) (hn : as.length = 1 := by rfl) : WP K X pc lv st G :=
  s_callV (ci := 13) (TT := TX12) (N := 109) hG hdg (by rw [ho]; exact m_1282) m_888 m_1626 m_715 m_229 ⟨by decide +kernel, by decide +kernel, by rw [hn]; decide +kernel⟩ (by decide) hf hM.obj rfl hst hw8 hT
theorem cv_X12_610 {as rest st : List LV} {f : Nat} {T : TR} (ho : K.1 = RX12) (hG : Good kX12_tellsOf yX12_tellsOf f T) (hdg : decode K.2.1 pc = .ok (.invokevirtual 610, 3)) (hM : MG G) (hf : f + 1 ≤ cf X) (hst : st = as.reverse ++ (2, ((1000 : Nat) : Int)) :: rest) (hw8 : (rest.map (fun v => if v.1 = 1 then 2 else 1)).sum ≤ 8) (hT : T ((2, ((1000 : Nat) : Int)) :: as) G (thenW K X (pc + 3) lv rest)) (hn : as.length = 1 := by rfl) : WP K X pc lv st G :=
  s_callV (ci := 13) (TT := TX12) (N := 109) hG hdg (by rw [ho]; exact m_1283) m_893 m_1631 m_715 m_234 ⟨by decide +kernel, by decide +kernel, by rw [hn]; decide +kernel⟩ (by decide) hf hM.obj rfl hst hw8 hT
theorem cv_X12_613 {as rest st : List LV} {f : Nat} {T : TR} (ho : K.1 = RX12) (hG : Good kX12_tellsMade yX12_tellsMade f T) (hdg : decode K.2.1 pc = .ok (.invokevirtual 613, 3)) (hM : MG G) (hf : f + 1 ≤ cf X) (hst : st = as.reverse ++ (2, ((1000 : Nat) : Int)) :: rest) (hw8 : (rest.map (fun v => if v.1 = 1 then 2 else 1)).sum ≤ 8) (hT : T ((2, ((1000 : Nat) : Int)) :: as) G (thenW K X (pc + 3) lv rest)) (hn : as.length = 1 := by rfl) : WP K X pc lv st G :=
  s_callV (ci := 13) (TT := TX12) (N := 109) hG hdg (by rw [ho]; exact m_1284) m_892 m_1630 m_715 m_233 ⟨by decide +kernel, by decide +kernel, by rw [hn]; decide +kernel⟩ (by decide) hf hM.obj rfl hst hw8 hT
theorem cv_X12_616 {as rest st : List LV} {f : Nat} {T : TR} (ho : K.1 = RX12) (hG : Good kX12_tellsExpression yX12_tellsExpression f T) (hdg : decode K.2.1 pc = .ok (.invokevirtual 616, 3)) (hM : MG G) (hf : f + 1 ≤ cf X) (hst : st = as.reverse ++ (2, ((1000 : Nat) : Int)) :: rest) (hw8 : (rest.map (fun v => if v.1 = 1 then 2 else 1)).sum ≤ 8) (hT : T ((2, ((1000 : Nat) : Int)) :: as) G (thenW K X (pc + 3) lv rest)) (hn : as.length = 1 := by rfl) : WP K X pc lv st G :=
  s_callV (ci := 13) (TT := TX12) (N := 109) hG hdg (by rw [ho]; exact m_1285) m_889 m_1627 m_715 m_230 ⟨by decide +kernel, by decide +kernel, by rw [hn]; decide +kernel⟩ (by decide) hf hM.obj rfl hst hw8 hT
theorem cv_X12_619 {as rest st : List LV} {f : Nat} {T : TR} (ho : K.1 = RX12) (hG : Good kX12_tellsFull yX12_tellsFull f T) (hdg : decode K.2.1 pc = .ok (.invokevirtual 619, 3)) (hM : MG G) (hf : f + 1 ≤ cf X) (hst : st = as.reverse ++ (2, ((1000 : Nat) : Int)) :: rest) (hw8 : (rest.map (fun v => if v.1 = 1 then 2 else 1)).sum ≤ 8) (hT : T ((2, ((1000 : Nat) : Int)) :: as) G (thenW K X (pc + 3) lv rest)) (hn : as.length = 1 := by rfl) : WP K X pc lv st G :=
  s_callV (ci := 13) (TT := TX12) (N := 109) hG hdg (by rw [ho]; exact m_1286) m_891 m_1629 m_715 m_232 ⟨by decide +kernel, by decide +kernel, by rw [hn]; decide +kernel⟩ (by decide) hf hM.obj rfl hst hw8 hT
theorem cv_X12_622 {as rest st : List LV} {f : Nat} {T : TR} (ho : K.1 = RX12) (hG : Good kX12_tellsVersion yX12_tellsVersion f T) (hdg : decode K.2.1 pc = .ok (.invokevirtual 622, 3)) (hM : MG G) (hf : f + 1 ≤ cf X) (hst : st = as.reverse ++ (2, ((1000 : Nat) : Int)) :: rest) (hw8 : (rest.map (fun v => if v.1 = 1 then 2 else 1)).sum ≤ 8) (hT : T ((2, ((1000 : Nat) : Int)) :: as) G (thenW K X (pc + 3) lv rest)) (hn : as.length = 1 := by rfl) : WP K X pc lv st G :=
  s_callV (ci := 13) (TT := TX12) (N := 109) hG hdg (by rw [ho]; exact m_1287) m_894 m_1632 m_715 m_235 ⟨by decide +kernel, by decide +kernel, by rw [hn]; decide +kernel⟩ (by decide) hf hM.obj rfl hst hw8 hT
theorem cv_X12_625 {as rest st : List LV} {f : Nat} {T : TR} (ho : K.1 = RX12) (hG : Good kX12_valuesOf yX12_valuesOf f T) (hdg : decode K.2.1 pc = .ok (.invokevirtual 625, 3)) (hM : MG G) (hf : f + 1 ≤ cf X) (hst : st = as.reverse ++ (2, ((1000 : Nat) : Int)) :: rest) (hw8 : (rest.map (fun v => if v.1 = 1 then 2 else 1)).sum ≤ 8) (hT : T ((2, ((1000 : Nat) : Int)) :: as) G (thenW K X (pc + 3) lv rest)) (hn : as.length = 1 := by rfl) : WP K X pc lv st G :=
  s_callV (ci := 13) (TT := TX12) (N := 109) hG hdg (by rw [ho]; exact m_1288) m_907 m_1645 m_715 m_248 ⟨by decide +kernel, by decide +kernel, by rw [hn]; decide +kernel⟩ (by decide) hf hM.obj rfl hst hw8 hT
theorem cv_X12_628 {as rest st : List LV} {f : Nat} {T : TR} (ho : K.1 = RX12) (hG : Good kX12_tellsFace yX12_tellsFace f T) (hdg : decode K.2.1 pc = .ok (.invokevirtual 628, 3)) (hM : MG G) (hf : f + 1 ≤ cf X) (hst : st = as.reverse ++ (2, ((1000 : Nat) : Int)) :: rest) (hw8 : (rest.map (fun v => if v.1 = 1 then 2 else 1)).sum ≤ 8) (hT : T ((2, ((1000 : Nat) : Int)) :: as) G (thenW K X (pc + 3) lv rest)) (hn : as.length = 2 := by rfl) : WP K X pc lv st G :=
  s_callV (ci := 13) (TT := TX12) (N := 109) hG hdg (by rw [ho]; exact m_1289) m_890 m_1628 m_715 m_231 ⟨by decide +kernel, by decide +kernel, by rw [hn]; decide +kernel⟩ (by decide) hf hM.obj rfl hst hw8 hT
theorem cv_X12_631 {as rest st : List LV} {f : Nat} {T : TR} (ho : K.1 = RX12) (hG : Good kX12_sees yX12_sees f T) (hdg : decode K.2.1 pc = .ok (.invokevirtual 631, 3)) (hM : MG G) (hf : f + 1 ≤ cf X) (hst : st = as.reverse ++ (2, ((1000 : Nat) : Int)) :: rest) (hw8 : (rest.map (fun v => if v.1 = 1 then 2 else 1)).sum ≤ 8) (hT : T ((2, ((1000 : Nat) : Int)) :: as) G (thenW K X (pc + 3) lv rest)) (hn : as.length = 1 := by rfl) : WP K X pc lv st G :=
  s_callV (ci := 13) (TT := TX12) (N := 109) hG hdg (by rw [ho]; exact m_1290) m_878 m_1616 m_715 m_219 ⟨by decide +kernel, by decide +kernel, by rw [hn]; decide +kernel⟩ (by decide) hf hM.obj rfl hst hw8 hT
theorem cv_X12_634 {as rest st : List LV} {f : Nat} {T : TR} (ho : K.1 = RX12) (hG : Good kX12_isAs yX12_isAs f T) (hdg : decode K.2.1 pc = .ok (.invokevirtual 634, 3)) (hM : MG G) (hf : f + 1 ≤ cf X) (hst : st = as.reverse ++ (2, ((1000 : Nat) : Int)) :: rest) (hw8 : (rest.map (fun v => if v.1 = 1 then 2 else 1)).sum ≤ 8) (hT : T ((2, ((1000 : Nat) : Int)) :: as) G (thenW K X (pc + 3) lv rest)) (hn : as.length = 3 := by rfl) : WP K X pc lv st G :=
  s_callV (ci := 13) (TT := TX12) (N := 109) hG hdg (by rw [ho]; exact m_1291) m_833 m_1571 m_715 m_171 ⟨by decide +kernel, by decide +kernel, by rw [hn]; decide +kernel⟩ (by decide) hf hM.obj rfl hst hw8 hT
theorem cv_X12_638 {as rest st : List LV} {f : Nat} {T : TR} (ho : K.1 = RX12) (hG : Good kX12_compiles yX12_compiles f T) (hdg : decode K.2.1 pc = .ok (.invokevirtual 638, 3)) (hM : MG G) (hf : f + 1 ≤ cf X) (hst : st = as.reverse ++ (2, ((1000 : Nat) : Int)) :: rest) (hw8 : (rest.map (fun v => if v.1 = 1 then 2 else 1)).sum ≤ 8) (hT : T ((2, ((1000 : Nat) : Int)) :: as) G (thenW K X (pc + 3) lv rest)) (hn : as.length = 1 := by rfl) : WP K X pc lv st G :=
  s_callV (ci := 13) (TT := TX12) (N := 109) hG hdg (by rw [ho]; exact m_1292) m_811 m_1550 m_715 m_147 ⟨by decide +kernel, by decide +kernel, by rw [hn]; decide +kernel⟩ (by decide) hf hM.obj rfl hst hw8 hT
end REFR
/-- nothing of the world has changed but the cells ns and, of the reference's object, the slots js -/
def Fr (ns js : List Nat) (G G' : LG) : Prop := gK G' = gK G ∧ gc G' = gc G ∧ gs G' = gs G ∧ ∀ n j, n ∉ ns → (n = 1000 → j ∉ js) → gS G' n j = gS G n j
theorem Fr.rf {ns js : List Nat} {G : LG} : Fr ns js G G := ⟨rfl, rfl, rfl, fun _ _ _ _ => rfl⟩
theorem Fr.setA {ns js : List Nat} {G0 G G' : LG} {n j : Nat} {v : Int} (h : Fr ns js G0 G) (e : G' = gset G n j v) (hn : n ∈ ns) : Fr ns js G0 G' := by
  subst e
  refine ⟨h.1, h.2.1, h.2.2.1, fun m y hm hy => ?_⟩
  rw [gset_ne _ _ (fun q => hm (by rw [q.1]; exact hn))]
  exact h.2.2.2 m y hm hy
theorem Fr.setF {ns js : List Nat} {G0 G G' : LG} {j : Nat} {v : Int} (h : Fr ns js G0 G) (e : G' = gset G 1000 j v) (hj : j ∈ js) : Fr ns js G0 G' := by
  subst e
  refine ⟨h.1, h.2.1, h.2.2.1, fun m y hm hy => ?_⟩
  rw [gset_ne _ _ (fun q => hy q.1 (by rw [q.2]; exact hj))]
  exact h.2.2.2 m y hm hy
theorem Fr.call {ns js ns' js' : List Nat} {G0 G G' : LG} (h : Fr ns js G0 G) (k : Fr ns' js' G G') (hn : ∀ n ∈ ns', n ∈ ns) (hj : ∀ j ∈ js', j ∈ js) : Fr ns js G0 G' :=
  ⟨k.1.trans h.1, k.2.1.trans h.2.1, k.2.2.1.trans h.2.2.1, fun n j h1 h2 => (k.2.2.2 n j (fun q => h1 (hn n q)) (fun q z => h2 q (hj j z))).trans (h.2.2.2 n j h1 h2)⟩
theorem Fr.at {ns js : List Nat} {G G' : LG} (h : Fr ns js G G') {n j : Nat} (hn : n ∉ ns) (hj : n ≠ 1000 ∨ j ∉ js) : gS G' n j = gS G n j := h.2.2.2 n j hn (fun q => hj.elim (fun z => absurd q z) id)
theorem Fr.atA {ns js : List Nat} {G G' : LG} (h : Fr ns js G G') {n j : Nat} (hn : n ∉ ns) (hj : n ≠ 1000) : gS G' n j = gS G n j := h.2.2.2 n j hn (fun q => absurd q hj)
theorem Fr.atF {ns js : List Nat} {G G' : LG} (h : Fr ns js G G') {j : Nat} (hn : 1000 ∉ ns) (hj : j ∉ js) : gS G' 1000 j = gS G 1000 j := h.2.2.2 1000 j hn (fun _ => hj)
/-- the worlds are alike at these cells and, of the reference's object, at these slots -/
def Agr (ns js : List Nat) (G G' : LG) : Prop := ∀ n j, n ∈ ns ∨ (n = 1000 ∧ j ∈ js) → gS G' n j = gS G n j
theorem Fr.agr {ns js ns' js' : List Nat} {G G' : LG} (h : Fr ns js G G') (h1 : ∀ n ∈ ns', n ∉ ns ∧ n ≠ 1000) (h2 : 1000 ∉ ns) (h3 : ∀ j ∈ js', j ∉ js) : Agr ns' js' G G' := fun n j hq => by
  rcases hq with hq | ⟨rfl, hq⟩
  · exact h.atA (h1 n hq).1 (h1 n hq).2
  · exact h.atF h2 (h3 j hq)
theorem Agr.a {ns js : List Nat} {G G' : LG} (h : Agr ns js G G') {n : Nat} (hn : n ∈ ns) (j : Nat) : gS G' n j = gS G n j := h n j (Or.inl hn)
theorem Agr.f {ns js : List Nat} {G G' : LG} (h : Agr ns js G G') {j : Nat} (hj : j ∈ js) : gS G' 1000 j = gS G 1000 j := h 1000 j (Or.inr ⟨rfl, hj⟩)
