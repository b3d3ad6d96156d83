set_option maxRecDepth 100000 in
set_option maxHeartbeats 4000000 in
theorem c_X4_carryOut {l : Launch} {E : xE} {C : xC} {G : Nat → Nat} {ln u8 b : Nat} {T : Tb} {fl sc se vb rw0 nm0 kd0 nb0 : Int32} (gb : 41 ≤ b) (gb2 : b < 61) (h0 : C (0) = .inr (4, [.ref (E.2.1 (1)), .ref (E.2.1 (6)), .ref (E.2.1 (33)), .int fl, .ref (E.2.1 (38)), .int sc, .int se])) (sb : C (b) = .inr (0, [.int vb, .int rw0, .int nm0, .int kd0, .int nb0])) (gT : RC E C 1 T) (gw : WB T) (gO : cmO G ln u8) (gQ : CD G ln u8 vb rw0 nm0 kd0 nb0) : xM E l yX4_carryOut wsX4_carryOut 3 88 [.ref (E.2.1 (0)), .ref (E.2.1 (b))] C (fun v C1 => v = some (.int (exC T G ln u8).1) ∧ RC E C1 1 (exC T G ln u8).2 ∧ (∀ i : Nat, (i < 1 ∨ 1 + 4 < i) → C1 i = C i)) := by
  obtain ⟨zK, zD, zS, zV, t1, -, -, -, -, -⟩ := id gT
  refine xM_ofY (cc := cX4_carryOut) (maxL := 2) (ret := (some .int)) (by decide) rfl (Nat.le_of_ble_eq_true rfl) ?_
  intro p e s m args below meth c X hr
  have inX0 : ∀ w ∈ wsX00, w ∈ wsX4_carryOut := by decide +kernel
  have inX4 : ∀ w ∈ wsX40, w ∈ wsX4_carryOut := by decide +kernel
  refine y_lv [(0, .ref (E.2.1 (0))), (1, .ref (E.2.1 (b)))] rfl ?_
  obtain ⟨q1, q2, q3, q4, q5⟩ := gQ
  by_cases gs9 : cmS G ln u8 = 97
  ·
    obtain ⟨evb, enm0, ekd0, enb0⟩ := q1 gs9
    subst evb
    rw [opV_N] at enm0
    subst enm0
    subst ekd0
    subst enb0
    have gj := opN_b (cm_97 gO gs9).1.1
    refine y_aload_n X dX4_carryOut_0 1 rfl ?_
    refine y_getN X (b) 0 0 (Cn := RX0) (T := TX0) (N := 5) (index := 213) (v := .int (0)) dX4_carryOut_1 (by omega) sb rfl (by decide) inX0 (by decide +kernel : Cond.fieldLinkNest RX4 213 "ColumnSeasons$Command" "verb" "I" "ColumnSeasons" ∈ xnest) rfl rfl ?_
    refine y_tableIn X 36 (off := 32) dX4_carryOut_4 (by decide) (by decide) (by decide) (by decide) ?_
    refine y_aload_n X dX4_carryOut_36 0 rfl ?_
    refine y_get X (0) 4 0 (Cn := RX4) (T := TX4) (N := 7) (index := 10) (v := .ref (E.2.1 (1))) dX4_carryOut_37 (by omega) h0 rfl (by decide) inX4 (by decide +kernel : Cond.fieldLink RX4 10 "ColumnSeasons" "table" "LColumnSeasons$Table;" ∈ wsX4_carryOut) rfl rfl ?_
    refine y_aload_n X dX4_carryOut_40 1 rfl ?_
    refine y_getN X (b) 0 2 (Cn := RX0) (T := TX0) (N := 5) (index := 218) (v := .int (nI (opN G ln 7 (u8 + 3)))) dX4_carryOut_41 (by omega) sb rfl (by decide) inX0 (by decide +kernel : Cond.fieldLinkNest RX4 218 "ColumnSeasons$Command" "name" "I" "ColumnSeasons" ∈ xnest) rfl rfl ?_
    refine y_aload_n X dX4_carryOut_44 1 rfl ?_
    refine y_getN X (b) 0 3 (Cn := RX0) (T := TX0) (N := 5) (index := 221) (v := .int (nI (colK G ln (u8 + 3)))) dX4_carryOut_45 (by omega) sb rfl (by decide) inX0 (by decide +kernel : Cond.fieldLinkNest RX4 221 "ColumnSeasons$Command" "kind" "I" "ColumnSeasons" ∈ xnest) rfl rfl ?_
    refine y_aload_n X dX4_carryOut_48 1 rfl ?_
    refine y_getN X (b) 0 4 (Cn := RX0) (T := TX0) (N := 5) (index := 224) (v := .int (dftV G ln (colK G ln (u8 + 3)) (colP G ln (u8 + 3)))) dX4_carryOut_49 (by omega) sb rfl (by decide) inX0 (by decide +kernel : Cond.fieldLinkNest RX4 224 "ColumnSeasons$Command" "number" "I" "ColumnSeasons" ∈ xnest) rfl rfl ?_
    refine y_callV X (1) 3 (av := [.int (nI (opN G ln 7 (u8 + 3))), .int (nI (colK G ln (u8 + 3))), .int (dftV G ln (colK G ln (u8 + 3)) (colP G ln (u8 + 3)))]) [] 3 (c_X3_addColumn (b := 1) (T := T) (by omega) gT gw (x := (nI (opN G ln 7 (u8 + 3)))) (k0 := (nI (colK G ln (u8 + 3)))) (d0 := (dftV G ln (colK G ln (u8 + 3)) (colP G ln (u8 + 3))))) (by omega) t1 rfl gX4_carryOut_X3_addColumn rfl (by decide +kernel) rfl ⟨Nat.le_of_ble_eq_true rfl, Nat.le_of_ble_eq_true rfl⟩ ⟨Nat.zero_le _, Nat.zero_le _⟩ (Nat.le_of_ble_eq_true rfl) rfl dX4_carryOut_52 (fun v_1 C_2 hp_3 => ?_)
    obtain ⟨gv9, gR, gF⟩ := hp_3
    subst gv9
    exact y_iret X hr dX4_carryOut_55 rfl (by have ez : exC T G ln u8 = sAdd T (nI (opN G ln 7 (u8 + 3))) (nI (colK G ln (u8 + 3))) (dftV G ln (colK G ln (u8 + 3)) (colP G ln (u8 + 3))) := (by unfold exC; rw [if_pos gs9]; exact (sAdd_in (by omega) (xin_3 kdK_3) (dftV_ok kdK_3 (cm_97 gO gs9).2)).symm); rw [ez]; exact ⟨rfl, gR, fun i g9 => gF i (by omega)⟩)
  ·
    have gn97 := gs9
    clear gs9
    by_cases gs9 : cmS G ln u8 = 107
    ·
      obtain ⟨evb, enm0, ekd0⟩ := q2 gs9
      subst evb
      rw [opV_N] at enm0
      subst enm0
      subst ekd0
      have gj := opN_b (cm_107 gO gs9).1
      refine y_aload_n X dX4_carryOut_0 1 rfl ?_
      refine y_getN X (b) 0 0 (Cn := RX0) (T := TX0) (N := 5) (index := 213) (v := .int (2)) dX4_carryOut_1 (by omega) sb rfl (by decide) inX0 (by decide +kernel : Cond.fieldLinkNest RX4 213 "ColumnSeasons$Command" "verb" "I" "ColumnSeasons" ∈ xnest) rfl rfl ?_
      refine y_tableIn X 68 (off := 64) dX4_carryOut_4 (by decide) (by decide) (by decide) (by decide) ?_
      refine y_aload_n X dX4_carryOut_68 0 rfl ?_
      refine y_get X (0) 4 0 (Cn := RX4) (T := TX4) (N := 7) (index := 10) (v := .ref (E.2.1 (1))) dX4_carryOut_69 (by omega) h0 rfl (by decide) inX4 (by decide +kernel : Cond.fieldLink RX4 10 "ColumnSeasons" "table" "LColumnSeasons$Table;" ∈ wsX4_carryOut) rfl rfl ?_
      refine y_aload_n X dX4_carryOut_72 1 rfl ?_
      refine y_getN X (b) 0 2 (Cn := RX0) (T := TX0) (N := 5) (index := 218) (v := .int (nI (opN G ln 7 (u8 + 4)))) dX4_carryOut_73 (by omega) sb rfl (by decide) inX0 (by decide +kernel : Cond.fieldLinkNest RX4 218 "ColumnSeasons$Command" "name" "I" "ColumnSeasons" ∈ xnest) rfl rfl ?_
      refine y_aload_n X dX4_carryOut_76 1 rfl ?_
      refine y_getN X (b) 0 3 (Cn := RX0) (T := TX0) (N := 5) (index := 221) (v := .int (nI (colK G ln (u8 + 4)))) dX4_carryOut_77 (by omega) sb rfl (by decide) inX0 (by decide +kernel : Cond.fieldLinkNest RX4 221 "ColumnSeasons$Command" "kind" "I" "ColumnSeasons" ∈ xnest) rfl rfl ?_
      refine y_callV X (1) 3 (av := [.int (nI (opN G ln 7 (u8 + 4))), .int (nI (colK G ln (u8 + 4)))]) [] 2 (c_X3_changeKind (b := 1) (T := T) (by omega) gT gw (x := (nI (opN G ln 7 (u8 + 4)))) (k0 := (nI (colK G ln (u8 + 4))))) (by omega) t1 rfl gX4_carryOut_X3_changeKind rfl (by decide +kernel) rfl ⟨Nat.le_of_ble_eq_true rfl, Nat.le_of_ble_eq_true rfl⟩ ⟨Nat.zero_le _, Nat.zero_le _⟩ (Nat.le_of_ble_eq_true rfl) rfl dX4_carryOut_80 (fun v_4 C_5 hp_6 => ?_)
      obtain ⟨gv9, gR, gF⟩ := hp_6
      subst gv9
      exact y_iret X hr dX4_carryOut_83 rfl (by have ez : exC T G ln u8 = sKind T (nI (opN G ln 7 (u8 + 4))) (nI (colK G ln (u8 + 4))) := (by unfold exC; rw [if_neg (by omega), if_pos gs9]; exact (sKind_in (by omega) (xin_3 kdK_3)).symm); rw [ez]; exact ⟨rfl, gR, fun i g9 => gF i (by omega)⟩)
    ·
      have gn107 := gs9
      clear gs9
      by_cases gs9 : cmS G ln u8 = 100
      ·
        obtain ⟨evb, enm0⟩ := q3 gs9
        subst evb
        rw [opV_N] at enm0
        subst enm0
        have gj := opN_b (cm_100 gO gs9)
        refine y_aload_n X dX4_carryOut_0 1 rfl ?_
        refine y_getN X (b) 0 0 (Cn := RX0) (T := TX0) (N := 5) (index := 213) (v := .int (1)) dX4_carryOut_1 (by omega) sb rfl (by decide) inX0 (by decide +kernel : Cond.fieldLinkNest RX4 213 "ColumnSeasons$Command" "verb" "I" "ColumnSeasons" ∈ xnest) rfl rfl ?_
        refine y_tableIn X 56 (off := 52) dX4_carryOut_4 (by decide) (by decide) (by decide) (by decide) ?_
        refine y_aload_n X dX4_carryOut_56 0 rfl ?_
        refine y_get X (0) 4 0 (Cn := RX4) (T := TX4) (N := 7) (index := 10) (v := .ref (E.2.1 (1))) dX4_carryOut_57 (by omega) h0 rfl (by decide) inX4 (by decide +kernel : Cond.fieldLink RX4 10 "ColumnSeasons" "table" "LColumnSeasons$Table;" ∈ wsX4_carryOut) rfl rfl ?_
        refine y_aload_n X dX4_carryOut_60 1 rfl ?_
        refine y_getN X (b) 0 2 (Cn := RX0) (T := TX0) (N := 5) (index := 218) (v := .int (nI (opN G ln 7 (u8 + 4)))) dX4_carryOut_61 (by omega) sb rfl (by decide) inX0 (by decide +kernel : Cond.fieldLinkNest RX4 218 "ColumnSeasons$Command" "name" "I" "ColumnSeasons" ∈ xnest) rfl rfl ?_
        refine y_callV X (1) 3 (av := [.int (nI (opN G ln 7 (u8 + 4)))]) [] 1 (c_X3_dropColumn (b := 1) (T := T) (by omega) gT gw (x := (nI (opN G ln 7 (u8 + 4))))) (by omega) t1 rfl gX4_carryOut_X3_dropColumn rfl (by decide +kernel) rfl ⟨Nat.le_of_ble_eq_true rfl, Nat.le_of_ble_eq_true rfl⟩ ⟨Nat.zero_le _, Nat.zero_le _⟩ (Nat.le_of_ble_eq_true rfl) rfl dX4_carryOut_64 (fun v_7 C_8 hp_9 => ?_)
        obtain ⟨gv9, gR, gF⟩ := hp_9
        subst gv9
        exact y_iret X hr dX4_carryOut_67 rfl (by have ez : exC T G ln u8 = sDrop T (nI (opN G ln 7 (u8 + 4))) := (by unfold exC; rw [if_neg (by omega), if_neg (by omega), if_pos gs9]; exact (sDrop_in (by omega)).symm); rw [ez]; exact ⟨rfl, gR, fun i g9 => gF i (by omega)⟩)
      ·
        have gn100 := gs9
        clear gs9
        by_cases gs9 : cmS G ln u8 = 114
        ·
          have evb := q4 gs9
          subst evb
          refine y_aload_n X dX4_carryOut_0 1 rfl ?_
          refine y_getN X (b) 0 0 (Cn := RX0) (T := TX0) (N := 5) (index := 213) (v := .int (3)) dX4_carryOut_1 (by omega) sb rfl (by decide) inX0 (by decide +kernel : Cond.fieldLinkNest RX4 213 "ColumnSeasons$Command" "verb" "I" "ColumnSeasons" ∈ xnest) rfl rfl ?_
          refine y_tableIn X 84 (off := 80) dX4_carryOut_4 (by decide) (by decide) (by decide) (by decide) ?_
          refine y_aload_n X dX4_carryOut_84 0 rfl ?_
          refine y_get X (0) 4 0 (Cn := RX4) (T := TX4) (N := 7) (index := 10) (v := .ref (E.2.1 (1))) dX4_carryOut_85 (by omega) h0 rfl (by decide) inX4 (by decide +kernel : Cond.fieldLink RX4 10 "ColumnSeasons" "table" "LColumnSeasons$Table;" ∈ wsX4_carryOut) rfl rfl ?_
          refine y_callV X (1) 3 (av := []) [] 0 (c_X3_writeRow (b := 1) (T := T) (by omega) gT gw ) (by omega) t1 rfl gX4_carryOut_X3_writeRow rfl (by decide +kernel) rfl ⟨Nat.le_of_ble_eq_true rfl, Nat.le_of_ble_eq_true rfl⟩ ⟨Nat.zero_le _, Nat.zero_le _⟩ (Nat.le_of_ble_eq_true rfl) rfl dX4_carryOut_88 (fun v_10 C_11 hp_12 => ?_)
          obtain ⟨gv9, gR, gF⟩ := hp_12
          subst gv9
          exact y_iret X hr dX4_carryOut_91 rfl (by have ez : exC T G ln u8 = sRow T := (by unfold exC; rw [if_neg (by omega), if_neg (by omega), if_neg (by omega), if_pos gs9]); rw [ez]; exact ⟨rfl, gR, fun i g9 => gF i (by omega)⟩)
        ·
          have gn114 := gs9
          clear gs9
          have gs9 := cm_115 gO gn97 gn107 gn100 gn114
          obtain ⟨evb, erw0, enm0, enb0⟩ := q5 gs9
          subst evb
          subst erw0
          subst enm0
          subst enb0
          refine y_aload_n X dX4_carryOut_0 1 rfl ?_
          refine y_getN X (b) 0 0 (Cn := RX0) (T := TX0) (N := 5) (index := 213) (v := .int (4)) dX4_carryOut_1 (by omega) sb rfl (by decide) inX0 (by decide +kernel : Cond.fieldLinkNest RX4 213 "ColumnSeasons$Command" "verb" "I" "ColumnSeasons" ∈ xnest) rfl rfl ?_
          refine y_tableOut X 92 dX4_carryOut_4 (Or.inr (by decide)) (by decide) ?_
          refine y_aload_n X dX4_carryOut_92 0 rfl ?_
          refine y_get X (0) 4 0 (Cn := RX4) (T := TX4) (N := 7) (index := 10) (v := .ref (E.2.1 (1))) dX4_carryOut_93 (by omega) h0 rfl (by decide) inX4 (by decide +kernel : Cond.fieldLink RX4 10 "ColumnSeasons" "table" "LColumnSeasons$Table;" ∈ wsX4_carryOut) rfl rfl ?_
          refine y_aload_n X dX4_carryOut_96 1 rfl ?_
          refine y_getN X (b) 0 1 (Cn := RX0) (T := TX0) (N := 5) (index := 227) (v := .int (opV G ln 0 23 (u8 + 3))) dX4_carryOut_97 (by omega) sb rfl (by decide) inX0 (by decide +kernel : Cond.fieldLinkNest RX4 227 "ColumnSeasons$Command" "row" "I" "ColumnSeasons" ∈ xnest) rfl rfl ?_
          refine y_aload_n X dX4_carryOut_100 1 rfl ?_
          refine y_getN X (b) 0 2 (Cn := RX0) (T := TX0) (N := 5) (index := 218) (v := .int (opV G ln 0 7 (opP G ln 0 23 (u8 + 3)))) dX4_carryOut_101 (by omega) sb rfl (by decide) inX0 (by decide +kernel : Cond.fieldLinkNest RX4 218 "ColumnSeasons$Command" "name" "I" "ColumnSeasons" ∈ xnest) rfl rfl ?_
          refine y_aload_n X dX4_carryOut_104 1 rfl ?_
          refine y_getN X (b) 0 4 (Cn := RX0) (T := TX0) (N := 5) (index := 224) (v := .int (opV G ln (-9999) 9999 (opP G ln 0 7 (opP G ln 0 23 (u8 + 3))))) dX4_carryOut_105 (by omega) sb rfl (by decide) inX0 (by decide +kernel : Cond.fieldLinkNest RX4 224 "ColumnSeasons$Command" "number" "I" "ColumnSeasons" ∈ xnest) rfl rfl ?_
          refine y_callV X (1) 3 (av := [.int (opV G ln 0 23 (u8 + 3)), .int (opV G ln 0 7 (opP G ln 0 23 (u8 + 3))), .int (opV G ln (-9999) 9999 (opP G ln 0 7 (opP G ln 0 23 (u8 + 3))))]) [] 3 (c_X3_changeValue (b := 1) (T := T) (by omega) gT gw (x := (opV G ln 0 23 (u8 + 3))) (y := (opV G ln 0 7 (opP G ln 0 23 (u8 + 3)))) (v0 := (opV G ln (-9999) 9999 (opP G ln 0 7 (opP G ln 0 23 (u8 + 3)))))) (by omega) t1 rfl gX4_carryOut_X3_changeValue rfl (by decide +kernel) rfl ⟨Nat.le_of_ble_eq_true rfl, Nat.le_of_ble_eq_true rfl⟩ ⟨Nat.zero_le _, Nat.zero_le _⟩ (Nat.le_of_ble_eq_true rfl) rfl dX4_carryOut_108 (fun v_13 C_14 hp_15 => ?_)
          obtain ⟨gv9, gR, gF⟩ := hp_15
          subst gv9
          exact y_iret X hr dX4_carryOut_111 rfl (by have ez : exC T G ln u8 = sSet T (opV G ln 0 23 (u8 + 3)) (opV G ln 0 7 (opP G ln 0 23 (u8 + 3))) (opV G ln (-9999) 9999 (opP G ln 0 7 (opP G ln 0 23 (u8 + 3)))) := (by unfold exC; rw [if_neg (by omega), if_neg (by omega), if_neg (by omega), if_neg (by omega)]); rw [ez]; exact ⟨rfl, gR, fun i g9 => gF i (by omega)⟩)

set_option maxRecDepth 100000 in
set_option maxHeartbeats 4000000 in
theorem c_X4_perform {l : Launch} {E : xE} {C : xC} {T : Tb} {hh : Nat → Tb} {hn : Nat} {sn : Option Tb} {tx : Nat → Int32} {ln : Nat} {sp : Option (Nat × Int32)} (gC : CX E C T hh hn sn tx ln sp) (gW : WX T hh hn sn tx ln sp) : xM E l yX4_perform wsX4_perform 8 169 [.ref (E.2.1 (0))] C (fun v C1 => v = some (.int (prV T tx ln)) ∧ CX E C1 (prT T tx ln) (prH T hh hn tx ln) (prN T hn tx ln) (sn) (tx) (ln) (prS T tx ln sp) ∧ (∀ i : Nat, 61 ≤ i → C1 i = C i)) := by
  obtain ⟨o, gO⟩ := id gC
  obtain ⟨sl, cm, xt, cc, pl, nu, h0, h6, h7, h38, h39, h40, go5, gSL, gCM, gT, gRG, gSN0, gSN, gTX, gCD⟩ := id gO
  obtain ⟨gv, gn4, gWH, gWS, gl80, gch, gsp⟩ := id gW
  have gw := gv.1
  obtain ⟨gw1, gw2, gw3, gw4⟩ := id gv.1
  obtain ⟨zK, zD, zS, zV, h1, -, -, -, -, -⟩ := id gT
  have eC : cntT tx ln = tcN (gxT tx) ln + 1 := rfl
  refine xM_ofY (cc := cX4_perform) (maxL := 4) (ret := (some .int)) (by decide) rfl (Nat.le_of_ble_eq_true rfl) ?_
  intro p e s m args below meth c X hr
  have inX2 : ∀ w ∈ wsX20, w ∈ wsX4_perform := by decide +kernel
  have inX4 : ∀ w ∈ wsX40, w ∈ wsX4_perform := by decide +kernel
  refine y_lv [(0, .ref (E.2.1 (0)))] rfl ?_
  refine y_aload_n X dX4_perform_0 0 rfl ?_
  refine y_get X (0) 4 4 (Cn := RX4) (T := TX4) (N := 7) (index := 33) (v := .ref (E.2.1 (38))) dX4_perform_1 (by omega) h0 rfl (by decide) inX4 (by decide +kernel : Cond.fieldLink RX4 33 "ColumnSeasons" "script" "LColumnSeasons$Script;" ∈ wsX4_perform) rfl rfl ?_
  refine y_callV X (38) 2 (av := []) [] 0 (c_X2_findFault (G := (gxT tx)) gl80 (fun z q1 => (gTX z q1).trans (gxT_eq gch z q1).1) (fun z q1 => (gxT_eq gch z q1).2) h38 h39 h40 gCM gCD) (by omega) h38 rfl gX4_perform_X2_findFault rfl (by decide +kernel) rfl ⟨Nat.le_of_ble_eq_true rfl, Nat.le_of_ble_eq_true rfl⟩ ⟨Nat.zero_le _, Nat.zero_le _⟩ (Nat.le_of_ble_eq_true rfl) rfl dX4_perform_4 (fun v_1 C_2 hp_3 => ?_)
  obtain ⟨gv8, ⟨cc2, pl2, nu2, gM8, gD8, gW8⟩, gF8⟩ := hp_3
  have gO8 : CXo E C_2 o T hh hn sn tx ln sp := by
    obtain ⟨S0, gS0⟩ := gSN0
    exact ⟨sl, cm, xt, cc2, pl2, nu2, (gF8 _ (by omega) (by omega)).trans h0, (gF8 _ (by omega) (by omega)).trans h6, (gF8 _ (by omega) (by omega)).trans h7, gM8, (gF8 _ (by omega) (by omega)).trans h39, (gF8 _ (by omega) (by omega)).trans h40, go5, gSL, gCM, RC_same gT (fun i q1 q2 => gF8 i (by omega) (by omega)), RG_same gRG (Nat.le_refl _) (fun i q1 q2 => gF8 i (by omega) (by omega)), ⟨S0, RC_same gS0 (fun i q1 q2 => gF8 i (by omega) (by omega))⟩, fun S hS => RC_same (gSN S hS) (fun i q1 q2 => gF8 i (by omega) (by omega)), gTX, gD8⟩
  rcases Decidable.em (okT (gxT tx) ln) with cT | cT
  ·
    rw [if_pos cT] at gv8
    subst gv8
    obtain ⟨e8, gt2, gDC⟩ := gW8 cT
    subst e8
    have h_4 : C_2 (0) = .inr (4, [.ref (E.2.1 (1)), .ref (E.2.1 (6)), .ref (E.2.1 (33)), .int (flg sn), .ref (E.2.1 (38)), .int (scC sp), .int (seC sp)]) := (gF8 _ (by omega) (by omega)).trans h0
    have h_5 : C_2 (1) = .inr (3, [.int (nI (tn T)), .ref (E.2.1 (1 + 1)), .ref (E.2.1 (1 + 2)), .int (nI (tr T)), .ref (E.2.1 (1 + 3)), .ref (E.2.1 (1 + 4))]) := (gF8 _ (by omega) (by omega)).trans h1
    have h_6 : C_2 (6) = .inr (1, [.ref (E.2.1 (7)), .int (nI (o)), .int (nI (hn))]) := (gF8 _ (by omega) (by omega)).trans h6
    have h_7 : C_2 (7) = .inl (E.2.2.1 3, 5, .inr (.inr (.inr (.inr sl)))) := (gF8 _ (by omega) (by omega)).trans h7
    have h_8 : C_2 (39) = .inl (E.2.2.1 0, 80, .inl xt) := (gF8 _ (by omega) (by omega)).trans h39
    have h_9 : C_2 (40) = .inl (E.2.2.1 2, 20, .inr (.inr (.inr (.inr cm)))) := (gF8 _ (by omega) (by omega)).trans h40
    have gA8 := atT_le (G := (gxT tx)) (ln := ln)
    refine y_istore_n X [(1, .int (-1)), (0, .ref (E.2.1 (0)))] dX4_perform_7 rfl (by decide) rfl ?_
    refine y_iload_n X dX4_perform_8 0 rfl ?_
    refine y_iconst X (v := (-1)) dX4_perform_9 (by decide) ?_
    refine y_icmp_eq X 19 ((-1) = (-1)) dX4_perform_10 (by decide) Iff.rfl (fun c_10 => ?_) (fun c_10 => ?_)
    ·
      refine y_aload_n X dX4_perform_19 1 rfl ?_
      refine y_get X (0) 4 1 (Cn := RX4) (T := TX4) (N := 7) (index := 19) (v := .ref (E.2.1 (6))) dX4_perform_20 (by omega) h_4 rfl (by decide) inX4 (by decide +kernel : Cond.fieldLink RX4 19 "ColumnSeasons" "history" "LColumnSeasons$History;" ∈ wsX4_perform) rfl rfl ?_
      refine y_aload_n X dX4_perform_23 1 rfl ?_
      refine y_get X (0) 4 0 (Cn := RX4) (T := TX4) (N := 7) (index := 10) (v := .ref (E.2.1 (1))) dX4_perform_24 (by omega) h_4 rfl (by decide) inX4 (by decide +kernel : Cond.fieldLink RX4 10 "ColumnSeasons" "table" "LColumnSeasons$Table;" ∈ wsX4_perform) rfl rfl ?_
      refine y_callV X (6) 1 (av := [.ref (E.2.1 (1))]) [] 1 (c_X1_prepare (o := o) (hn := hn) (T := T) (hh := hh) go5 gn4 h_6 h_7 gSL (RC_same gT (fun i q1 q2 => gF8 i (by omega) (by omega))) gw (RG_same gRG (Nat.le_refl _) (fun i q1 q2 => gF8 i (by omega) (by omega)))) (by omega) h_6 rfl gX4_perform_X1_prepare rfl (by decide +kernel) rfl ⟨Nat.le_of_ble_eq_true rfl, Nat.le_of_ble_eq_true rfl⟩ ⟨Nat.zero_le _, Nat.zero_le _⟩ (Nat.le_of_ble_eq_true rfl) rfl dX4_perform_27 (fun v_11 C_12 hp_13 => ?_)
      obtain ⟨gv9, gP1, gPF⟩ := hp_13
      subst gv9
      have h_14 : C_12 (0) = .inr (4, [.ref (E.2.1 (1)), .ref (E.2.1 (6)), .ref (E.2.1 (33)), .int (flg sn), .ref (E.2.1 (38)), .int (scC sp), .int (seC sp)]) := (gPF _ (by omega)).trans h_4
      have h_15 : C_12 (6) = .inr (1, [.ref (E.2.1 (7)), .int (nI (o)), .int (nI (hn))]) := (gPF _ (by omega)).trans h_6
      have h_16 : C_12 (38) = .inr (2, [.ref (E.2.1 (39)), .int (nI (ln)), .ref (E.2.1 (40)), .int (nI (tcN (gxT tx) ln + 1)), .int pl2, .int nu2]) := (gPF _ (by omega)).trans gM8
      have h_17 : C_12 (7) = .inl (E.2.2.1 3, 5, .inr (.inr (.inr (.inr sl)))) := (gPF _ (by omega)).trans h_7
      have h_18 : C_12 (39) = .inl (E.2.2.1 0, 80, .inl xt) := (gPF _ (by omega)).trans h_8
      have h_19 : C_12 (40) = .inl (E.2.2.1 2, 20, .inr (.inr (.inr (.inr cm)))) := (gPF _ (by omega)).trans h_9
      have gT1 : RC E C_12 1 T := RC_same (RC_same gT (fun i q1 q2 => gF8 i (by omega) (by omega))) (fun i q1 q2 => gPF i (by omega))
      refine y_iconst X (v := (0)) dX4_perform_30 (by decide) ?_
      refine y_istore_n X [(2, .int (0)), (1, .int (-1)), (0, .ref (E.2.1 (0)))] dX4_perform_31 rfl (by decide) rfl ?_
      have L_32 : ∀ (n : Nat) (C2 : xC) (i : Nat), tcN (gxT tx) ln + 1 - i < n → (C2 (0) = .inr (4, [.ref (E.2.1 (1)), .ref (E.2.1 (6)), .ref (E.2.1 (33)), .int (flg sn), .ref (E.2.1 (38)), .int (scC sp), .int (seC sp)])) → (C2 (6) = .inr (1, [.ref (E.2.1 (7)), .int (nI (o)), .int (nI (hn))])) → (C2 (38) = .inr (2, [.ref (E.2.1 (39)), .int (nI (ln)), .ref (E.2.1 (40)), .int (nI (tcN (gxT tx) ln + 1)), .int pl2, .int nu2])) → (C2 (7) = .inl (E.2.2.1 3, 5, .inr (.inr (.inr (.inr sl))))) → (C2 (39) = .inl (E.2.2.1 0, 80, .inl xt)) → (C2 (40) = .inl (E.2.2.1 2, 20, .inr (.inr (.inr (.inr cm))))) → (∀ i9 : Nat, (i9 < 1 ∨ 1 + 4 < i9) → C2 i9 = C_12 i9) → (RC E C2 1 (exT T (gxT tx) ln i)) → (∀ k : Nat, k < i → ¬ erP (exR T (gxT tx) ln k)) → (i ≤ tcN (gxT tx) ln + 1) → xY p l e ({ frames := 8, cells := 0, slots := 0, locals := 169 } : Room) s m args below meth c E (xA E) 4 0 0 (MQ below (xQ E (fun v C1 => v = some (.int (prV T tx ln)) ∧ CX E C1 (prT T tx ln) (prH T hh hn tx ln) (prN T hn tx ln) (sn) (tx) (ln) (prS T tx ln sp) ∧ (∀ i : Nat, 61 ≤ i → C1 i = C i))) args s 0 0 (xA E)) C2 32 [(0, .ref (E.2.1 (0))), (1, .int (-1)), (2, .int (nI (i)))] [] := by
        intro n32
        induction n32 with
        | zero => intro _ _ hm32; exact absurd hm32 (Nat.not_lt_zero _)
        | succ n32 ih32 =>
          intro C2 i hm32 k0 k6 k38 k7 k39 k40 gF2 gR2 gNE gi
          refine y_iload_n X dX4_perform_32 2 rfl ?_
          refine y_aload_n X dX4_perform_33 0 rfl ?_
          refine y_get X (0) 4 4 (Cn := RX4) (T := TX4) (N := 7) (index := 33) (v := .ref (E.2.1 (38))) dX4_perform_34 (by omega) k0 rfl (by decide) inX4 (by decide +kernel : Cond.fieldLink RX4 33 "ColumnSeasons" "script" "LColumnSeasons$Script;" ∈ wsX4_perform) rfl rfl ?_
          refine y_getN X (38) 2 3 (Cn := RX2) (T := TX2) (N := 6) (index := 89) (v := .int (nI (tcN (gxT tx) ln + 1))) dX4_perform_37 (by omega) k38 rfl (by decide) inX2 (by decide +kernel : Cond.fieldLinkNest RX4 89 "ColumnSeasons$Script" "commandCount" "I" "ColumnSeasons" ∈ xnest) rfl rfl ?_
          refine y_icmp_ge X 98 ((tcN (gxT tx) ln + 1) ≤ (i)) dX4_perform_40 (by decide) (nI_leI (a := tcN (gxT tx) ln + 1) (b := i) (by omega) (by omega)) (fun c_20 => ?_) (fun c_20 => ?_)
          ·
            refine y_aload_n X dX4_perform_98 0 rfl ?_
            refine y_get X (0) 4 1 (Cn := RX4) (T := TX4) (N := 7) (index := 19) (v := .ref (E.2.1 (6))) dX4_perform_99 (by omega) k0 rfl (by decide) inX4 (by decide +kernel : Cond.fieldLink RX4 19 "ColumnSeasons" "history" "LColumnSeasons$History;" ∈ wsX4_perform) rfl rfl ?_
            refine y_callV X (6) 1 (av := []) [] 0 (c_X1_record (o := o) (hn := hn) go5 gn4 k6) (by omega) k6 rfl gX4_perform_X1_record rfl (by decide +kernel) rfl ⟨Nat.le_of_ble_eq_true rfl, Nat.le_of_ble_eq_true rfl⟩ ⟨Nat.zero_le _, Nat.zero_le _⟩ (Nat.le_of_ble_eq_true rfl) rfl dX4_perform_102 (fun v_21 C_22 hp_23 => ?_)
            obtain ⟨gv9, gD6, gDF⟩ := hp_23
            subst gv9
            have h_24 : C_22 (0) = .inr (4, [.ref (E.2.1 (1)), .ref (E.2.1 (6)), .ref (E.2.1 (33)), .int (flg sn), .ref (E.2.1 (38)), .int (scC sp), .int (seC sp)]) := (gDF _ (by omega)).trans k0
            have h_25 : C_22 (38) = .inr (2, [.ref (E.2.1 (39)), .int (nI (ln)), .ref (E.2.1 (40)), .int (nI (tcN (gxT tx) ln + 1)), .int pl2, .int nu2]) := (gDF _ (by omega)).trans k38
            have h_26 : C_22 (7) = .inl (E.2.2.1 3, 5, .inr (.inr (.inr (.inr sl)))) := (gDF _ (by omega)).trans k7
            have h_27 : C_22 (39) = .inl (E.2.2.1 0, 80, .inl xt) := (gDF _ (by omega)).trans k39
            have h_28 : C_22 (40) = .inl (E.2.2.1 2, 20, .inr (.inr (.inr (.inr cm)))) := (gDF _ (by omega)).trans k40
            refine y_aload_n X dX4_perform_105 0 rfl ?_
            refine y_get X (0) 4 4 (Cn := RX4) (T := TX4) (N := 7) (index := 33) (v := .ref (E.2.1 (38))) dX4_perform_106 (by omega) h_24 rfl (by decide) inX4 (by decide +kernel : Cond.fieldLink RX4 33 "ColumnSeasons" "script" "LColumnSeasons$Script;" ∈ wsX4_perform) rfl rfl ?_
            refine y_getN X (38) 2 3 (Cn := RX2) (T := TX2) (N := 6) (index := 89) (v := .int (nI (tcN (gxT tx) ln + 1))) dX4_perform_109 (by omega) h_25 rfl (by decide) inX2 (by decide +kernel : Cond.fieldLinkNest RX4 89 "ColumnSeasons$Script" "commandCount" "I" "ColumnSeasons" ∈ xnest) rfl rfl ?_
            exact y_iret X hr dX4_perform_112 rfl (by have ei : i = tcN (gxT tx) ln + 1 := (by omega); subst ei; have eX : xsT T tx ln = cntT tx ln := (xs_none _ 0 (fun k q => gNE k (by omega))).trans (Nat.zero_add _); have e1 : prV T tx ln = nI (tcN (gxT tx) ln + 1) := (if_pos cT).trans (if_pos eX); have e2 : prT T tx ln = exT T (gxT tx) ln (tcN (gxT tx) ln + 1) := if_pos ⟨cT, eX⟩; have e3 : prH T hh hn tx ln = recH hh hn T := if_pos ⟨cT, eX⟩; have e4 : prN T hn tx ln = recN hn := if_pos ⟨cT, eX⟩; have e5 : prS T tx ln sp = sp := if_neg (fun z => z.2 eX); rw [e1, e2, e3, e4, e5]; have gps : (-10001 : Int32) < nI (tcN (gxT tx) ln + 1) := act_pos (by omega); have ez := CX_act (r := (nI (tcN (gxT tx) ln + 1), exT T (gxT tx) ln (tcN (gxT tx) ln + 1))) gO8 gn4 gP1 gPF gR2 gF2 (Or.inl ⟨gps, gD6, gDF⟩) (fun z => absurd gps z); simp only [acT, acH, acN, if_pos gps] at ez; exact ⟨rfl, ez.1, fun i9 g9 => (ez.2 i9 g9).trans (gF8 i9 (by omega) (by omega))⟩)
          ·
            obtain ⟨qa, qb, qd, qf, qg, gcl, gQ⟩ := gDC i (by omega)
            have gcl2 : C2 (41 + i) = .inr (0, [.int qa, .int qb, .int qd, .int qf, .int qg]) := (gF2 _ (by omega)).trans ((gPF _ (by omega)).trans gcl)
            refine y_aload_n X dX4_perform_43 0 rfl ?_
            refine y_aload_n X dX4_perform_44 0 rfl ?_
            refine y_get X (0) 4 4 (Cn := RX4) (T := TX4) (N := 7) (index := 33) (v := .ref (E.2.1 (38))) dX4_perform_45 (by omega) k0 rfl (by decide) inX4 (by decide +kernel : Cond.fieldLink RX4 33 "ColumnSeasons" "script" "LColumnSeasons$Script;" ∈ wsX4_perform) rfl rfl ?_
            refine y_getN X (38) 2 2 (Cn := RX2) (T := TX2) (N := 6) (index := 92) (v := .ref (E.2.1 (40))) dX4_perform_48 (by omega) k38 rfl (by decide) inX2 (by decide +kernel : Cond.fieldLinkNest RX4 92 "ColumnSeasons$Script" "commands" "[LColumnSeasons$Command;" "ColumnSeasons" ∈ xnest) rfl rfl ?_
            refine y_iload_n X dX4_perform_51 2 rfl ?_
            refine y_aald X (40) 2 dX4_perform_52 (by omega) rfl k40 (j := i) rfl (by omega) (by omega) (gCM _ (by omega)) ?_
            refine y_callV X (0) 4 (av := [.ref (E.2.1 (41 + i))]) [] 1 (c_X4_carryOut (G := (gxT tx)) (ln := ln) (u8 := psN (gxT tx) ln i) (b := 41 + i) (T := exT T (gxT tx) ln i) (by omega) (by omega) k0 gcl2 gR2 (WF_exT gv cT i (by omega)).1 (okT_cm cT (by omega)) gQ) (by omega) k0 rfl gX4_perform_X4_carryOut rfl (by decide +kernel) rfl ⟨Nat.le_of_ble_eq_true rfl, Nat.le_of_ble_eq_true rfl⟩ ⟨Nat.zero_le _, Nat.zero_le _⟩ (Nat.le_of_ble_eq_true rfl) rfl dX4_perform_53 (fun v_29 C_30 hp_31 => ?_)
            obtain ⟨gv9, gR3, gF3⟩ := hp_31
            subst gv9
            have h_32 : C_30 (0) = .inr (4, [.ref (E.2.1 (1)), .ref (E.2.1 (6)), .ref (E.2.1 (33)), .int (flg sn), .ref (E.2.1 (38)), .int (scC sp), .int (seC sp)]) := (gF3 _ (by omega)).trans k0
            have h_33 : C_30 (6) = .inr (1, [.ref (E.2.1 (7)), .int (nI (o)), .int (nI (hn))]) := (gF3 _ (by omega)).trans k6
            have h_34 : C_30 (38) = .inr (2, [.ref (E.2.1 (39)), .int (nI (ln)), .ref (E.2.1 (40)), .int (nI (tcN (gxT tx) ln + 1)), .int pl2, .int nu2]) := (gF3 _ (by omega)).trans k38
            have h_35 : C_30 (7) = .inl (E.2.2.1 3, 5, .inr (.inr (.inr (.inr sl)))) := (gF3 _ (by omega)).trans k7
            have h_36 : C_30 (39) = .inl (E.2.2.1 0, 80, .inl xt) := (gF3 _ (by omega)).trans k39
            have h_37 : C_30 (40) = .inl (E.2.2.1 2, 20, .inr (.inr (.inr (.inr cm)))) := (gF3 _ (by omega)).trans k40
            refine y_istore_n X [(3, .int (exR T (gxT tx) ln i)), (0, .ref (E.2.1 (0))), (1, .int (-1)), (2, .int (nI (i)))] dX4_perform_56 rfl (by decide) rfl ?_
            refine y_iload_n X dX4_perform_57 0 rfl ?_
            refine y_callJr X (av := [.int (exR T (gxT tx) ln i)]) [] 1 (c_X4_isError (x := (exR T (gxT tx) ln i))) gX4_perform_X4_isError rfl (by decide +kernel) rfl ⟨Nat.le_of_ble_eq_true rfl, Nat.le_of_ble_eq_true rfl⟩ ⟨Nat.zero_le _, Nat.zero_le _⟩ (Nat.le_of_ble_eq_true rfl) rfl dX4_perform_58 ?_
            refine y_if_eq X 92 (¬ (erP (exR T (gxT tx) ln i))) dX4_perform_61 (by decide) bI_eq (fun c_38 => ?_) (fun c_38 => ?_)
            ·
              refine y_iinc X [(2, .int (nI (i + 1))), (3, .int (exR T (gxT tx) ln i)), (0, .ref (E.2.1 (0))), (1, .int (-1))] dX4_perform_92 3 rfl (nI_1 _) (by decide) rfl ?_
              refine y_goto X 32 dX4_perform_95 (by decide) ?_
              refine y_pick [2, 3, 0] [(0, .ref (E.2.1 (0))), (1, .int (-1)), (2, .int (nI (i + 1)))] rfl ?_
              exact ih32 (C_30) (i + 1) (by omega) h_32 h_33 h_34 h_35 h_36 h_37 (fun i9 g9 => by rw [gF3 i9 g9, gF2 i9 g9]) gR3 (fun k q1 q2 => by rcases Nat.lt_or_ge k i with q3 | q3; exact gNE k q3 q2; rw [show k = i by omega] at q2; exact c_38 q2) (by omega)
            ·
              have c_38 := Decidable.of_not_not c_38
              refine y_aload_n X dX4_perform_64 1 rfl ?_
              refine y_iload_n X dX4_perform_65 3 rfl ?_
              refine y_put X (0) 4 5 (Cn := RX4) (T := TX4) (N := 7) (index := 37) tyX4 (v := .int (nI (i))) dX4_perform_66 (by omega) h_32 rfl (by decide) inX4 (by decide +kernel : Cond.fieldLink RX4 37 "ColumnSeasons" "stoppedCommand" "I" ∈ wsX4_perform) rfl tyX4_ok nmX4 rfl rfl rfl (Nat.le_of_ble_eq_true rfl) ?_
              refine y_mem (va_up C_30 (0) (.inr (4, [.ref (E.2.1 (1)), .ref (E.2.1 (6)), .ref (E.2.1 (33)), .int (flg sn), .ref (E.2.1 (38)), .int (nI (i)), .int (seC sp)]))) rfl (fun C_39 eC_40 => ?_)
              have h_41 : C_39 (0) = .inr (4, [.ref (E.2.1 (1)), .ref (E.2.1 (6)), .ref (E.2.1 (33)), .int (flg sn), .ref (E.2.1 (38)), .int (nI (i)), .int (seC sp)]) := by rw [eC_40, va_up, if_pos rfl]
              have h_42 : C_39 (6) = .inr (1, [.ref (E.2.1 (7)), .int (nI (o)), .int (nI (hn))]) := by rw [eC_40, va_up, if_neg (by omega)]; exact h_33
              have h_43 : C_39 (38) = .inr (2, [.ref (E.2.1 (39)), .int (nI (ln)), .ref (E.2.1 (40)), .int (nI (tcN (gxT tx) ln + 1)), .int pl2, .int nu2]) := by rw [eC_40, va_up, if_neg (by omega)]; exact h_34
              have h_44 : C_39 (7) = .inl (E.2.2.1 3, 5, .inr (.inr (.inr (.inr sl)))) := by rw [eC_40, va_up, if_neg (by omega)]; exact h_35
              have h_45 : C_39 (39) = .inl (E.2.2.1 0, 80, .inl xt) := by rw [eC_40, va_up, if_neg (by omega)]; exact h_36
              have h_46 : C_39 (40) = .inl (E.2.2.1 2, 20, .inr (.inr (.inr (.inr cm)))) := by rw [eC_40, va_up, if_neg (by omega)]; exact h_37
              refine y_aload_n X dX4_perform_69 1 rfl ?_
              refine y_iload_n X dX4_perform_70 0 rfl ?_
              refine y_put X (0) 4 6 (Cn := RX4) (T := TX4) (N := 7) (index := 41) tyX4 (v := .int (exR T (gxT tx) ln i)) dX4_perform_71 (by omega) h_41 rfl (by decide) inX4 (by decide +kernel : Cond.fieldLink RX4 41 "ColumnSeasons" "stoppedError" "I" ∈ wsX4_perform) rfl tyX4_ok nmX4 rfl rfl rfl (Nat.le_of_ble_eq_true rfl) ?_
              refine y_mem (va_up C_39 (0) (.inr (4, [.ref (E.2.1 (1)), .ref (E.2.1 (6)), .ref (E.2.1 (33)), .int (flg sn), .ref (E.2.1 (38)), .int (nI (i)), .int (exR T (gxT tx) ln i)]))) rfl (fun C_47 eC_48 => ?_)
              have h_49 : C_47 (0) = .inr (4, [.ref (E.2.1 (1)), .ref (E.2.1 (6)), .ref (E.2.1 (33)), .int (flg sn), .ref (E.2.1 (38)), .int (nI (i)), .int (exR T (gxT tx) ln i)]) := by rw [eC_48, va_up, if_pos rfl]
              have h_50 : C_47 (6) = .inr (1, [.ref (E.2.1 (7)), .int (nI (o)), .int (nI (hn))]) := by rw [eC_48, va_up, if_neg (by omega)]; exact h_42
              have h_51 : C_47 (38) = .inr (2, [.ref (E.2.1 (39)), .int (nI (ln)), .ref (E.2.1 (40)), .int (nI (tcN (gxT tx) ln + 1)), .int pl2, .int nu2]) := by rw [eC_48, va_up, if_neg (by omega)]; exact h_43
              have h_52 : C_47 (7) = .inl (E.2.2.1 3, 5, .inr (.inr (.inr (.inr sl)))) := by rw [eC_48, va_up, if_neg (by omega)]; exact h_44
              have h_53 : C_47 (39) = .inl (E.2.2.1 0, 80, .inl xt) := by rw [eC_48, va_up, if_neg (by omega)]; exact h_45
              have h_54 : C_47 (40) = .inl (E.2.2.1 2, 20, .inr (.inr (.inr (.inr cm)))) := by rw [eC_48, va_up, if_neg (by omega)]; exact h_46
              have gR4 : RC E C_47 1 (exT T (gxT tx) ln (i + 1)) := RC_same gR3 (fun i q1 q2 => by rw [eC_48, va_up, if_neg (by omega)]; rw [eC_40, va_up, if_neg (by omega)])
              have gS4 : RC E C_47 (8 + 5 * ((o + hn) % 5)) T := RC_same gP1 (fun i9 q1 q2 => by rw [eC_48, va_up, if_neg (by omega)]; rw [eC_40, va_up, if_neg (by omega)]; rw [gF3 i9 (by omega), gF2 i9 (by omega)])
              obtain ⟨-, -, -, -, t1, -, -, -, -, -⟩ := id gR4
              refine y_aload_n X dX4_perform_74 1 rfl ?_
              refine y_get X (0) 4 0 (Cn := RX4) (T := TX4) (N := 7) (index := 10) (v := .ref (E.2.1 (1))) dX4_perform_75 (by omega) h_49 rfl (by decide) inX4 (by decide +kernel : Cond.fieldLink RX4 10 "ColumnSeasons" "table" "LColumnSeasons$Table;" ∈ wsX4_perform) rfl rfl ?_
              refine y_aload_n X dX4_perform_78 1 rfl ?_
              refine y_get X (0) 4 1 (Cn := RX4) (T := TX4) (N := 7) (index := 19) (v := .ref (E.2.1 (6))) dX4_perform_79 (by omega) h_49 rfl (by decide) inX4 (by decide +kernel : Cond.fieldLink RX4 19 "ColumnSeasons" "history" "LColumnSeasons$History;" ∈ wsX4_perform) rfl rfl ?_
              refine y_callV X (6) 1 (av := []) [.ref (E.2.1 (1))] 0 (c_X1_prepared (o := o) (hn := hn) go5 (by omega) h_50 h_52 gSL) (by omega) h_50 rfl gX4_perform_X1_prepared rfl (by decide +kernel) rfl ⟨Nat.le_of_ble_eq_true rfl, Nat.le_of_ble_eq_true rfl⟩ ⟨Nat.zero_le _, Nat.zero_le _⟩ (Nat.le_of_ble_eq_true rfl) rfl dX4_perform_82 (fun v_55 C_56 hp_57 => ?_)
              obtain ⟨gv9, gc9⟩ := hp_57
              subst gv9
              subst gc9
              refine y_callV X (1) 3 (av := [.ref (E.2.1 (8 + 5 * ((o + hn) % 5)))]) [] 1 (c_X3_copyFrom (b := 1) (b2 := 8 + 5 * ((o + hn) % 5)) (T0 := exT T (gxT tx) ln (i + 1)) (T := T) (by omega) (by omega) (by omega) gR4 gS4 gw) (by omega) t1 rfl gX4_perform_X3_copyFrom rfl (by decide +kernel) rfl ⟨Nat.le_of_ble_eq_true rfl, Nat.le_of_ble_eq_true rfl⟩ ⟨Nat.zero_le _, Nat.zero_le _⟩ (Nat.le_of_ble_eq_true rfl) rfl dX4_perform_85 (fun v_58 C_59 hp_60 => ?_)
              obtain ⟨gv9, gKR, gKF⟩ := hp_60
              subst gv9
              have h_61 : C_59 (0) = .inr (4, [.ref (E.2.1 (1)), .ref (E.2.1 (6)), .ref (E.2.1 (33)), .int (flg sn), .ref (E.2.1 (38)), .int (nI (i)), .int (exR T (gxT tx) ln i)]) := (gKF _ (by omega)).trans h_49
              have h_62 : C_59 (6) = .inr (1, [.ref (E.2.1 (7)), .int (nI (o)), .int (nI (hn))]) := (gKF _ (by omega)).trans h_50
              have h_63 : C_59 (38) = .inr (2, [.ref (E.2.1 (39)), .int (nI (ln)), .ref (E.2.1 (40)), .int (nI (tcN (gxT tx) ln + 1)), .int pl2, .int nu2]) := (gKF _ (by omega)).trans h_51
              have h_64 : C_59 (7) = .inl (E.2.2.1 3, 5, .inr (.inr (.inr (.inr sl)))) := (gKF _ (by omega)).trans h_52
              have h_65 : C_59 (39) = .inl (E.2.2.1 0, 80, .inl xt) := (gKF _ (by omega)).trans h_53
              have h_66 : C_59 (40) = .inl (E.2.2.1 2, 20, .inr (.inr (.inr (.inr cm)))) := (gKF _ (by omega)).trans h_54
              refine y_sipush X (v := (-10004)) dX4_perform_88 (by decide) ?_
              exact y_iret X hr dX4_perform_91 rfl (by have eX : xsT T tx ln = i := xs_hit _ 0 (Nat.zero_le _) (by omega) gNE c_38; have nX : ¬ xsT T tx ln = cntT tx ln := (by rw [eX]; omega); have e1 : prV T tx ln = -10004 := (if_pos cT).trans (if_neg nX); have e2 : prT T tx ln = T := if_neg (fun z => nX z.2); have e3 : prH T hh hn tx ln = hh := if_neg (fun z => nX z.2); have e4 : prN T hn tx ln = hn := if_neg (fun z => nX z.2); have e5 : prS T tx ln sp = some (i, exR T (gxT tx) ln i) := (if_pos ⟨cT, nX⟩).trans (by rw [eX]); rw [e1, e2, e3, e4, e5]; have ez := CX_stop (sp2 := some (i, exR T (gxT tx) ln i)) gO8 gn4 gP1 gPF gKR (fun i9 q0 q1 => by rw [gKF i9 q1]; rw [eC_48, va_up, if_neg (by omega)]; rw [eC_40, va_up, if_neg (by omega)]; rw [gF3 i9 q1, gF2 i9 q1]) h_61; exact ⟨rfl, ez.1, fun i9 g9 => (ez.2 i9 g9).trans (gF8 i9 (by omega) (by omega))⟩)
      refine y_pick [2, 1, 0] [(0, .ref (E.2.1 (0))), (1, .int (-1)), (2, .int (0))] rfl ?_
      exact L_32 _ (C_12) (0) (Nat.lt_succ_self _) h_14 h_15 h_16 h_17 h_18 h_19 (fun _ _ => rfl) gT1 (fun _ q1 => absurd q1 (Nat.not_lt_zero _)) (by omega)
    ·
      exact absurd c_10 (by decide)
  ·
    rw [if_neg cT] at gv8
    subst gv8
    have h_67 : C_2 (0) = .inr (4, [.ref (E.2.1 (1)), .ref (E.2.1 (6)), .ref (E.2.1 (33)), .int (flg sn), .ref (E.2.1 (38)), .int (scC sp), .int (seC sp)]) := (gF8 _ (by omega) (by omega)).trans h0
    have h_68 : C_2 (1) = .inr (3, [.int (nI (tn T)), .ref (E.2.1 (1 + 1)), .ref (E.2.1 (1 + 2)), .int (nI (tr T)), .ref (E.2.1 (1 + 3)), .ref (E.2.1 (1 + 4))]) := (gF8 _ (by omega) (by omega)).trans h1
    have h_69 : C_2 (6) = .inr (1, [.ref (E.2.1 (7)), .int (nI (o)), .int (nI (hn))]) := (gF8 _ (by omega) (by omega)).trans h6
    have h_70 : C_2 (7) = .inl (E.2.2.1 3, 5, .inr (.inr (.inr (.inr sl)))) := (gF8 _ (by omega) (by omega)).trans h7
    have h_71 : C_2 (39) = .inl (E.2.2.1 0, 80, .inl xt) := (gF8 _ (by omega) (by omega)).trans h39
    have h_72 : C_2 (40) = .inl (E.2.2.1 2, 20, .inr (.inr (.inr (.inr cm)))) := (gF8 _ (by omega) (by omega)).trans h40
    have gA8 := atT_le (G := (gxT tx)) (ln := ln)
    refine y_istore_n X [(1, .int (nI (atT (gxT tx) ln))), (0, .ref (E.2.1 (0)))] dX4_perform_7 rfl (by decide) rfl ?_
    refine y_iload_n X dX4_perform_8 0 rfl ?_
    refine y_iconst X (v := (-1)) dX4_perform_9 (by decide) ?_
    refine y_icmp_eq X 19 ((nI (atT (gxT tx) ln)) = (-1)) dX4_perform_10 (by decide) Iff.rfl (fun c_73 => ?_) (fun c_73 => ?_)
    ·
      exact absurd c_73 (nI_ne1 (by omega))
    ·
      refine y_sipush X (v := (-10100)) dX4_perform_13 (by decide) ?_
      refine y_iload_n X dX4_perform_16 0 rfl ?_
      refine y_isub X (z := ((-10100) - (nI (atT (gxT tx) ln)))) dX4_perform_17 rfl ?_
      exact y_iret X hr dX4_perform_18 rfl (by have e1 : prV T tx ln = -10100 - nI (atT (gxT tx) ln) := if_neg cT; have e2 : prT T tx ln = T := if_neg (fun z => cT z.1); have e3 : prH T hh hn tx ln = hh := if_neg (fun z => cT z.1); have e4 : prN T hn tx ln = hn := if_neg (fun z => cT z.1); have e5 : prS T tx ln sp = sp := if_neg (fun z => cT z.1); rw [e1, e2, e3, e4, e5]; exact ⟨rfl, ⟨o, gO8⟩, (fun i9 g9 => gF8 i9 (by omega) (by omega))⟩)
