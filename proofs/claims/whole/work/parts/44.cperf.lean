set_option maxRecDepth 100000 in
set_option maxHeartbeats 4000000 in
theorem c_X4_carryOut {l : Launch} {E : xE} {C : xC} {G : Nat → Nat} {ln u8 b : Nat} {T : Tb} {fl sc se vb rw0 nm0 kd0 nb0 : Int32} (gb : 41 ≤ b) (gb2 : b < 61) (h0 : C (0) = .inr (4, [.ref (E.2.1 (1)), .ref (E.2.1 (6)), .ref (E.2.1 (33)), .int fl, .ref (E.2.1 (38)), .int sc, .int se])) (sb : C (b) = .inr (0, [.int vb, .int rw0, .int nm0, .int kd0, .int nb0])) (gT : RC E C 1 T) (gw : WB T) (gO : cmO G ln u8) (gQ : CD G ln u8 vb rw0 nm0 kd0 nb0) : xM E l yX4_carryOut wsX4_carryOut 3 88 [.ref (E.2.1 (0)), .ref (E.2.1 (b))] C (fun v C1 => v = some (.int (exC T G ln u8).1) ∧ RC E C1 1 (exC T G ln u8).2 ∧ (∀ i : Nat, (i < 1 ∨ 1 + 4 < i) → C1 i = C i)) := by
  obtain ⟨zK, zD, zS, zV, t1, -, -, -, -, -⟩ := id gT
  refine xM_ofY (cc := cX4_carryOut) (maxL := 2) (ret := (some .int)) (by decide) rfl (Nat.le_of_ble_eq_true rfl) ?_
  intro p e s m args below meth c X hr
  have inX0 : ∀ w ∈ wsX00, w ∈ wsX4_carryOut := by decide +kernel
  have inX4 : ∀ w ∈ wsX40, w ∈ wsX4_carryOut := by decide +kernel
  refine y_lv [(0, .ref (E.2.1 (0))), (1, .ref (E.2.1 (b)))] rfl ?_
  obtain ⟨q1, q2, q3, q4, q5⟩ := gQ
  by_cases gs9 : cmS G ln u8 = 97
  ·
    obtain ⟨evb, enm0, ekd0, enb0⟩ := q1 gs9
    subst evb
    rw [opV_N] at enm0
    subst enm0
    subst ekd0
    subst enb0
    have gj := opN_b (cm_97 gO gs9).1.1
    refine y_aload_n X dX4_carryOut_0 1 rfl ?_
    refine y_getN X (b) 0 0 (Cn := RX0) (T := TX0) (N := 5) (index := 213) (v := .int (0)) dX4_carryOut_1 (by omega) sb rfl (by decide) inX0 (by decide +kernel : Cond.fieldLinkNest RX4 213 "ColumnSeasons$Command" "verb" "I" "ColumnSeasons" ∈ xnest) rfl rfl ?_
    refine y_tableIn X 36 (off := 32) dX4_carryOut_4 (by decide) (by decide) (by decide) (by decide) ?_
    refine y_aload_n X dX4_carryOut_36 0 rfl ?_
    refine y_get X (0) 4 0 (Cn := RX4) (T := TX4) (N := 7) (index := 10) (v := .ref (E.2.1 (1))) dX4_carryOut_37 (by omega) h0 rfl (by decide) inX4 (by decide +kernel : Cond.fieldLink RX4 10 "ColumnSeasons" "table" "LColumnSeasons$Table;" ∈ wsX4_carryOut) rfl rfl ?_
    refine y_aload_n X dX4_carryOut_40 1 rfl ?_
    refine y_getN X (b) 0 2 (Cn := RX0) (T := TX0) (N := 5) (index := 218) (v := .int (nI (opN G ln 7 (u8 + 3)))) dX4_carryOut_41 (by omega) sb rfl (by decide) inX0 (by decide +kernel : Cond.fieldLinkNest RX4 218 "ColumnSeasons$Command" "name" "I" "ColumnSeasons" ∈ xnest) rfl rfl ?_
    refine y_aload_n X dX4_carryOut_44 1 rfl ?_
    refine y_getN X (b) 0 3 (Cn := RX0) (T := TX0) (N := 5) (index := 221) (v := .int (nI (colK G ln (u8 + 3)))) dX4_carryOut_45 (by omega) sb rfl (by decide) inX0 (by decide +kernel : Cond.fieldLinkNest RX4 221 "ColumnSeasons$Command" "kind" "I" "ColumnSeasons" ∈ xnest) rfl rfl ?_
    refine y_aload_n X dX4_carryOut_48 1 rfl ?_
    refine y_getN X (b) 0 4 (Cn := RX0) (T := TX0) (N := 5) (index := 224) (v := .int (dftV G ln (colK G ln (u8 + 3)) (colP G ln (u8 + 3)))) dX4_carryOut_49 (by omega) sb rfl (by decide) inX0 (by decide +kernel : Cond.fieldLinkNest RX4 224 "ColumnSeasons$Command" "number" "I" "ColumnSeasons" ∈ xnest) rfl rfl ?_
    refine y_callV X (1) 3 (av := [.int (nI (opN G ln 7 (u8 + 3))), .int (nI (colK G ln (u8 + 3))), .int (dftV G ln (colK G ln (u8 + 3)) (colP G ln (u8 + 3)))]) [] 3 (c_X3_addColumn (b := 1) (T := T) (by omega) gT gw (x := (nI (opN G ln 7 (u8 + 3)))) (k0 := (nI (colK G ln (u8 + 3)))) (d0 := (dftV G ln (colK G ln (u8 + 3)) (colP G ln (u8 + 3))))) (by omega) t1 rfl gX4_carryOut_X3_addColumn rfl (by decide +kernel) rfl ⟨Nat.le_of_ble_eq_true rfl, Nat.le_of_ble_eq_true rfl⟩ ⟨Nat.zero_le _, Nat.zero_le _⟩ (Nat.le_of_ble_eq_true rfl) rfl dX4_carryOut_52 (fun v_1 C_2 hp_3 => ?_)
    obtain ⟨gv9, gR, gF⟩ := hp_3
    subst gv9
    exact y_iret X hr dX4_carryOut_55 rfl (by have ez : exC T G ln u8 = sAdd T (nI (opN G ln 7 (u8 + 3))) (nI (colK G ln (u8 + 3))) (dftV G ln (colK G ln (u8 + 3)) (colP G ln (u8 + 3))) := (by unfold exC; rw [if_pos gs9]; exact (sAdd_in (by omega) (xin_3 kdK_3) (dftV_ok kdK_3 (cm_97 gO gs9).2)).symm); rw [ez]; exact ⟨rfl, gR, fun i g9 => gF i (by omega)⟩)
  ·
    have gn97 := gs9
    clear gs9
    by_cases gs9 : cmS G ln u8 = 107
    ·
      obtain ⟨evb, enm0, ekd0⟩ := q2 gs9
      subst evb
      rw [opV_N] at enm0
      subst enm0
      subst ekd0
      have gj := opN_b (cm_107 gO gs9).1
      refine y_aload_n X dX4_carryOut_0 1 rfl ?_
      refine y_getN X (b) 0 0 (Cn := RX0) (T := TX0) (N := 5) (index := 213) (v := .int (2)) dX4_carryOut_1 (by omega) sb rfl (by decide) inX0 (by decide +kernel : Cond.fieldLinkNest RX4 213 "ColumnSeasons$Command" "verb" "I" "ColumnSeasons" ∈ xnest) rfl rfl ?_
      refine y_tableIn X 68 (off := 64) dX4_carryOut_4 (by decide) (by decide) (by decide) (by decide) ?_
      refine y_aload_n X dX4_carryOut_68 0 rfl ?_
      refine y_get X (0) 4 0 (Cn := RX4) (T := TX4) (N := 7) (index := 10) (v := .ref (E.2.1 (1))) dX4_carryOut_69 (by omega) h0 rfl (by decide) inX4 (by decide +kernel : Cond.fieldLink RX4 10 "ColumnSeasons" "table" "LColumnSeasons$Table;" ∈ wsX4_carryOut) rfl rfl ?_
      refine y_aload_n X dX4_carryOut_72 1 rfl ?_
      refine y_getN X (b) 0 2 (Cn := RX0) (T := TX0) (N := 5) (index := 218) (v := .int (nI (opN G ln 7 (u8 + 4)))) dX4_carryOut_73 (by omega) sb rfl (by decide) inX0 (by decide +kernel : Cond.fieldLinkNest RX4 218 "ColumnSeasons$Command" "name" "I" "ColumnSeasons" ∈ xnest) rfl rfl ?_
      refine y_aload_n X dX4_carryOut_76 1 rfl ?_
      refine y_getN X (b) 0 3 (Cn := RX0) (T := TX0) (N := 5) (index := 221) (v := .int (nI (colK G ln (u8 + 4)))) dX4_carryOut_77 (by omega) sb rfl (by decide) inX0 (by decide +kernel : Cond.fieldLinkNest RX4 221 "ColumnSeasons$Command" "kind" "I" "ColumnSeasons" ∈ xnest) rfl rfl ?_
      refine y_callV X (1) 3 (av := [.int (nI (opN G ln 7 (u8 + 4))), .int (nI (colK G ln (u8 + 4)))]) [] 2 (c_X3_changeKind (b := 1) (T := T) (by omega) gT gw (x := (nI (opN G ln 7 (u8 + 4)))) (k0 := (nI (colK G ln (u8 + 4))))) (by omega) t1 rfl gX4_carryOut_X3_changeKind rfl (by decide +kernel) rfl ⟨Nat.le_of_ble_eq_true rfl, Nat.le_of_ble_eq_true rfl⟩ ⟨Nat.zero_le _, Nat.zero_le _⟩ (Nat.le_of_ble_eq_true rfl) rfl dX4_carryOut_80 (fun v_4 C_5 hp_6 => ?_)
      obtain ⟨gv9, gR, gF⟩ := hp_6
      subst gv9
      exact y_iret X hr dX4_carryOut_83 rfl (by have ez : exC T G ln u8 = sKind T (nI (opN G ln 7 (u8 + 4))) (nI (colK G ln (u8 + 4))) := (by unfold exC; rw [if_neg (by omega), if_pos gs9]; exact (sKind_in (by omega) (xin_3 kdK_3)).symm); rw [ez]; exact ⟨rfl, gR, fun i g9 => gF i (by omega)⟩)
    ·
      have gn107 := gs9
      clear gs9
      by_cases gs9 : cmS G ln u8 = 100
      ·
        obtain ⟨evb, enm0⟩ := q3 gs9
        subst evb
        rw [opV_N] at enm0
        subst enm0
        have gj := opN_b (cm_100 gO gs9)
        refine y_aload_n X dX4_carryOut_0 1 rfl ?_
        refine y_getN X (b) 0 0 (Cn := RX0) (T := TX0) (N := 5) (index := 213) (v := .int (1)) dX4_carryOut_1 (by omega) sb rfl (by decide) inX0 (by decide +kernel : Cond.fieldLinkNest RX4 213 "ColumnSeasons$Command" "verb" "I" "ColumnSeasons" ∈ xnest) rfl rfl ?_
        refine y_tableIn X 56 (off := 52) dX4_carryOut_4 (by decide) (by decide) (by decide) (by decide) ?_
        refine y_aload_n X dX4_carryOut_56 0 rfl ?_
        refine y_get X (0) 4 0 (Cn := RX4) (T := TX4) (N := 7) (index := 10) (v := .ref (E.2.1 (1))) dX4_carryOut_57 (by omega) h0 rfl (by decide) inX4 (by decide +kernel : Cond.fieldLink RX4 10 "ColumnSeasons" "table" "LColumnSeasons$Table;" ∈ wsX4_carryOut) rfl rfl ?_
        refine y_aload_n X dX4_carryOut_60 1 rfl ?_
        refine y_getN X (b) 0 2 (Cn := RX0) (T := TX0) (N := 5) (index := 218) (v := .int (nI (opN G ln 7 (u8 + 4)))) dX4_carryOut_61 (by omega) sb rfl (by decide) inX0 (by decide +kernel : Cond.fieldLinkNest RX4 218 "ColumnSeasons$Command" "name" "I" "ColumnSeasons" ∈ xnest) rfl rfl ?_
        refine y_callV X (1) 3 (av := [.int (nI (opN G ln 7 (u8 + 4)))]) [] 1 (c_X3_dropColumn (b := 1) (T := T) (by omega) gT gw (x := (nI (opN G ln 7 (u8 + 4))))) (by omega) t1 rfl gX4_carryOut_X3_dropColumn rfl (by decide +kernel) rfl ⟨Nat.le_of_ble_eq_true rfl, Nat.le_of_ble_eq_true rfl⟩ ⟨Nat.zero_le _, Nat.zero_le _⟩ (Nat.le_of_ble_eq_true rfl) rfl dX4_carryOut_64 (fun v_7 C_8 hp_9 => ?_)
        obtain ⟨gv9, gR, gF⟩ := hp_9
        subst gv9
        exact y_iret X hr dX4_carryOut_67 rfl (by have ez : exC T G ln u8 = sDrop T (nI (opN G ln 7 (u8 + 4))) := (by unfold exC; rw [if_neg (by omega), if_neg (by omega), if_pos gs9]; exact (sDrop_in (by omega)).symm); rw [ez]; exact ⟨rfl, gR, fun i g9 => gF i (by omega)⟩)
      ·
        have gn100 := gs9
        clear gs9
        by_cases gs9 : cmS G ln u8 = 114
        ·
          have evb := q4 gs9
          subst evb
          refine y_aload_n X dX4_carryOut_0 1 rfl ?_
          refine y_getN X (b) 0 0 (Cn := RX0) (T := TX0) (N := 5) (index := 213) (v := .int (3)) dX4_carryOut_1 (by omega) sb rfl (by decide) inX0 (by decide +kernel : Cond.fieldLinkNest RX4 213 "ColumnSeasons$Command" "verb" "I" "ColumnSeasons" ∈ xnest) rfl rfl ?_
          refine y_tableIn X 84 (off := 80) dX4_carryOut_4 (by decide) (by decide) (by decide) (by decide) ?_
          refine y_aload_n X dX4_carryOut_84 0 rfl ?_
          refine y_get X (0) 4 0 (Cn := RX4) (T := TX4) (N := 7) (index := 10) (v := .ref (E.2.1 (1))) dX4_carryOut_85 (by omega) h0 rfl (by decide) inX4 (by decide +kernel : Cond.fieldLink RX4 10 "ColumnSeasons" "table" "LColumnSeasons$Table;" ∈ wsX4_carryOut) rfl rfl ?_
          refine y_callV X (1) 3 (av := []) [] 0 (c_X3_writeRow (b := 1) (T := T) (by omega) gT gw ) (by omega) t1 rfl gX4_carryOut_X3_writeRow rfl (by decide +kernel) rfl ⟨Nat.le_of_ble_eq_true rfl, Nat.le_of_ble_eq_true rfl⟩ ⟨Nat.zero_le _, Nat.zero_le _⟩ (Nat.le_of_ble_eq_true rfl) rfl dX4_carryOut_88 (fun v_10 C_11 hp_12 => ?_)
          obtain ⟨gv9, gR, gF⟩ := hp_12
          subst gv9
          exact y_iret X hr dX4_carryOut_91 rfl (by have ez : exC T G ln u8 = sRow T := (by unfold exC; rw [if_neg (by omega), if_neg (by omega), if_neg (by omega), if_pos gs9]); rw [ez]; exact ⟨rfl, gR, fun i g9 => gF i (by omega)⟩)
        ·
          have gn114 := gs9
          clear gs9
          have gs9 := cm_115 gO gn97 gn107 gn100 gn114
          obtain ⟨evb, erw0, enm0, enb0⟩ := q5 gs9
          subst evb
          subst erw0
          subst enm0
          subst enb0
          refine y_aload_n X dX4_carryOut_0 1 rfl ?_
          refine y_getN X (b) 0 0 (Cn := RX0) (T := TX0) (N := 5) (index := 213) (v := .int (4)) dX4_carryOut_1 (by omega) sb rfl (by decide) inX0 (by decide +kernel : Cond.fieldLinkNest RX4 213 "ColumnSeasons$Command" "verb" "I" "ColumnSeasons" ∈ xnest) rfl rfl ?_
          refine y_tableOut X 92 dX4_carryOut_4 (Or.inr (by decide)) (by decide) ?_
          refine y_aload_n X dX4_carryOut_92 0 rfl ?_
          refine y_get X (0) 4 0 (Cn := RX4) (T := TX4) (N := 7) (index := 10) (v := .ref (E.2.1 (1))) dX4_carryOut_93 (by omega) h0 rfl (by decide) inX4 (by decide +kernel : Cond.fieldLink RX4 10 "ColumnSeasons" "table" "LColumnSeasons$Table;" ∈ wsX4_carryOut) rfl rfl ?_
          refine y_aload_n X dX4_carryOut_96 1 rfl ?_
          refine y_getN X (b) 0 1 (Cn := RX0) (T := TX0) (N := 5) (index := 227) (v := .int (opV G ln 0 23 (u8 + 3))) dX4_carryOut_97 (by omega) sb rfl (by decide) inX0 (by decide +kernel : Cond.fieldLinkNest RX4 227 "ColumnSeasons$Command" "row" "I" "ColumnSeasons" ∈ xnest) rfl rfl ?_
          refine y_aload_n X dX4_carryOut_100 1 rfl ?_
          refine y_getN X (b) 0 2 (Cn := RX0) (T := TX0) (N := 5) (index := 218) (v := .int (opV G ln 0 7 (opP G ln 0 23 (u8 + 3)))) dX4_carryOut_101 (by omega) sb rfl (by decide) inX0 (by decide +kernel : Cond.fieldLinkNest RX4 218 "ColumnSeasons$Command" "name" "I" "ColumnSeasons" ∈ xnest) rfl rfl ?_
          refine y_aload_n X dX4_carryOut_104 1 rfl ?_
          refine y_getN X (b) 0 4 (Cn := RX0) (T := TX0) (N := 5) (index := 224) (v := .int (opV G ln (-9999) 9999 (opP G ln 0 7 (opP G ln 0 23 (u8 + 3))))) dX4_carryOut_105 (by omega) sb rfl (by decide) inX0 (by decide +kernel : Cond.fieldLinkNest RX4 224 "ColumnSeasons$Command" "number" "I" "ColumnSeasons" ∈ xnest) rfl rfl ?_
          refine y_callV X (1) 3 (av := [.int (opV G ln 0 23 (u8 + 3)), .int (opV G ln 0 7 (opP G ln 0 23 (u8 + 3))), .int (opV G ln (-9999) 9999 (opP G ln 0 7 (opP G ln 0 23 (u8 + 3))))]) [] 3 (c_X3_changeValue (b := 1) (T := T) (by omega) gT gw (x := (opV G ln 0 23 (u8 + 3))) (y := (opV G ln 0 7 (opP G ln 0 23 (u8 + 3)))) (v0 := (opV G ln (-9999) 9999 (opP G ln 0 7 (opP G ln 0 23 (u8 + 3)))))) (by omega) t1 rfl gX4_carryOut_X3_changeValue rfl (by decide +kernel) rfl ⟨Nat.le_of_ble_eq_true rfl, Nat.le_of_ble_eq_true rfl⟩ ⟨Nat.zero_le _, Nat.zero_le _⟩ (Nat.le_of_ble_eq_true rfl) rfl dX4_carryOut_108 (fun v_13 C_14 hp_15 => ?_)
          obtain ⟨gv9, gR, gF⟩ := hp_15
          subst gv9
          exact y_iret X hr dX4_carryOut_111 rfl (by have ez : exC T G ln u8 = sSet T (opV G ln 0 23 (u8 + 3)) (opV G ln 0 7 (opP G ln 0 23 (u8 + 3))) (opV G ln (-9999) 9999 (opP G ln 0 7 (opP G ln 0 23 (u8 + 3)))) := (by unfold exC; rw [if_neg (by omega), if_neg (by omega), if_neg (by omega), if_neg (by omega)]); rw [ez]; exact ⟨rfl, gR, fun i g9 => gF i (by omega)⟩)
