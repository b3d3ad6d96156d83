set_option maxRecDepth 100000 in
set_option maxHeartbeats 4000000 in
theorem c_X1_prepared {l : Launch} {E : xE} {C : xC} {o hn : Nat} {sl : Nat → Option Nat} (go5 : o < 5) (gn4 : hn ≤ 4) (h6 : C (6) = .inr (1, [.ref (E.2.1 (7)), .int (nI (o)), .int (nI (hn))])) (h7 : C (7) = .inl (E.2.2.1 3, 5, .inr (.inr (.inr (.inr sl))))) (gSL : ∀ i : Nat, i < 5 → sl i = some (E.2.1 (8 + 5 * i))) : xM E l yX1_prepared wsX1_prepared 0 0 [.ref (E.2.1 (6))] C (fun v C1 => v = some (.ref (E.2.1 (8 + 5 * ((o + hn) % 5)))) ∧ C1 = C) := by
  refine xM_ofY (cc := cX1_prepared) (maxL := 1) (ret := (some (.object "ColumnSeasons$Table"))) (by decide) rfl (Nat.le_of_ble_eq_true rfl) ?_
  intro p e s m args below meth c X hr
  have inX1 : ∀ w ∈ wsX10, w ∈ wsX1_prepared := by decide +kernel
  refine y_lv [(0, .ref (E.2.1 (6)))] rfl ?_
  refine y_aload_n X dX1_prepared_0 0 rfl ?_
  refine y_get X (6) 1 0 (Cn := RX1) (T := TX1) (N := 3) (index := 13) (v := .ref (E.2.1 (7))) dX1_prepared_1 (by omega) h6 rfl (by decide) inX1 (by decide +kernel : Cond.fieldLink RX1 13 "ColumnSeasons$History" "slots" "[LColumnSeasons$Table;" ∈ wsX1_prepared) rfl rfl ?_
  refine y_aload_n X dX1_prepared_4 0 rfl ?_
  refine y_get X (6) 1 1 (Cn := RX1) (T := TX1) (N := 3) (index := 17) (v := .int (nI (o))) dX1_prepared_5 (by omega) h6 rfl (by decide) inX1 (by decide +kernel : Cond.fieldLink RX1 17 "ColumnSeasons$History" "oldest" "I" ∈ wsX1_prepared) rfl rfl ?_
  refine y_aload_n X dX1_prepared_8 0 rfl ?_
  refine y_get X (6) 1 2 (Cn := RX1) (T := TX1) (N := 3) (index := 21) (v := .int (nI (hn))) dX1_prepared_9 (by omega) h6 rfl (by decide) inX1 (by decide +kernel : Cond.fieldLink RX1 21 "ColumnSeasons$History" "length" "I" ∈ wsX1_prepared) rfl rfl ?_
  refine y_iadd X (z := (nI (o + hn))) dX1_prepared_12 (nI_add (o) (hn)) ?_
  refine y_iconst X (v := (5)) dX1_prepared_13 (by decide) ?_
  refine y_irem X (z := (nI ((o + hn) % (5)))) dX1_prepared_14 (by decide) (pk_rem (a := o + hn) (d := 5) (by omega) (by omega) (by omega)) ?_
  refine y_aald X (7) 3 dX1_prepared_15 (by omega) rfl h7 (j := (o + hn) % (5)) rfl (by omega) (by omega) (gSL _ (by omega)) ?_
  exact y_aret X hr (Or.inl ⟨_, rfl⟩) dX1_prepared_16 rfl ⟨rfl, rfl⟩

set_option maxRecDepth 100000 in
set_option maxHeartbeats 4000000 in
theorem c_X1_prepare {l : Launch} {E : xE} {C : xC} {o hn : Nat} {sl : Nat → Option Nat} (go5 : o < 5) (gn4 : hn ≤ 4) (h6 : C (6) = .inr (1, [.ref (E.2.1 (7)), .int (nI (o)), .int (nI (hn))])) (h7 : C (7) = .inl (E.2.2.1 3, 5, .inr (.inr (.inr (.inr sl))))) (gSL : ∀ i : Nat, i < 5 → sl i = some (E.2.1 (8 + 5 * i))) {T : Tb} {hh : Nat → Tb} (gT : RC E C 1 T) (gw : WB T) (gRG : RG E C o hh hn) : xM E l yX1_prepare wsX1_prepare 2 61 [.ref (E.2.1 (6)), .ref (E.2.1 (1))] C (fun v C1 => v = none ∧ RC E C1 (8 + 5 * ((o + hn) % 5)) T ∧ (∀ i : Nat, i < 8 + 5 * ((o + hn) % 5) ∨ 8 + 5 * ((o + hn) % 5) + 4 < i → C1 i = C i)) := by
  obtain ⟨S0, gS0⟩ := gRG.1 ((o + hn) % 5) (by omega)
  refine xM_ofY (cc := cX1_prepare) (maxL := 2) (ret := none) (by decide) rfl (Nat.le_of_ble_eq_true rfl) ?_
  intro p e s m args below meth c X hr
  refine y_lv [(0, .ref (E.2.1 (6))), (1, .ref (E.2.1 (1)))] rfl ?_
  refine y_aload_n X dX1_prepare_0 0 rfl ?_
  refine y_callV X (6) 1 (av := []) [] 0 (c_X1_prepared (o := o) (hn := hn) go5 (by omega) h6 h7 gSL) (by omega) h6 rfl gX1_prepare_X1_prepared rfl (by decide +kernel) rfl ⟨Nat.le_of_ble_eq_true rfl, Nat.le_of_ble_eq_true rfl⟩ ⟨Nat.zero_le _, Nat.zero_le _⟩ (Nat.le_of_ble_eq_true rfl) rfl dX1_prepare_1 (fun v_1 C_2 hp_3 => ?_)
  obtain ⟨gv9, gc9⟩ := hp_3
  subst gv9
  subst gc9
  obtain ⟨-, -, -, -, j0, -, -, -, -, -⟩ := id gS0
  refine y_aload_n X dX1_prepare_4 1 rfl ?_
  refine y_callV X (8 + 5 * ((o + hn) % 5)) 3 (av := [.ref (E.2.1 (1))]) [] 1 (c_X3_copyFrom (b := 8 + 5 * ((o + hn) % 5)) (b2 := 1) (T0 := S0) (T := T) (by omega) (by omega) (by omega) gS0 gT gw) (by omega) j0 rfl gX1_prepare_X3_copyFrom rfl (by decide +kernel) rfl ⟨Nat.le_of_ble_eq_true rfl, Nat.le_of_ble_eq_true rfl⟩ ⟨Nat.zero_le _, Nat.zero_le _⟩ (Nat.le_of_ble_eq_true rfl) rfl dX1_prepare_5 (fun v_4 C_5 hp_6 => ?_)
  obtain ⟨gv9, gR1, gF1⟩ := hp_6
  subst gv9
  exact y_vret X hr dX1_prepare_8 rfl ⟨rfl, gR1, gF1⟩

set_option maxRecDepth 100000 in
set_option maxHeartbeats 4000000 in
theorem c_X1_record {l : Launch} {E : xE} {C : xC} {o hn : Nat} (go5 : o < 5) (gn4 : hn ≤ 4) (h6 : C (6) = .inr (1, [.ref (E.2.1 (7)), .int (nI (o)), .int (nI (hn))])) : xM E l yX1_record wsX1_record 0 0 [.ref (E.2.1 (6))] C (fun v C1 => v = none ∧ C1 (6) = .inr (1, [.ref (E.2.1 (7)), .int (nI (recO o hn)), .int (nI (recN hn))]) ∧ ∀ i : Nat, ¬ i = 6 → C1 i = C i) := by
  refine xM_ofY (cc := cX1_record) (maxL := 1) (ret := none) (by decide) rfl (Nat.le_of_ble_eq_true rfl) ?_
  intro p e s m args below meth c X hr
  have inX1 : ∀ w ∈ wsX10, w ∈ wsX1_record := by decide +kernel
  refine y_lv [(0, .ref (E.2.1 (6)))] rfl ?_
  refine y_aload_n X dX1_record_0 0 rfl ?_
  refine y_get X (6) 1 2 (Cn := RX1) (T := TX1) (N := 3) (index := 21) (v := .int (nI (hn))) dX1_record_1 (by omega) h6 rfl (by decide) inX1 (by decide +kernel : Cond.fieldLink RX1 21 "ColumnSeasons$History" "length" "I" ∈ wsX1_record) rfl rfl ?_
  refine y_iconst X (v := (4)) dX1_record_4 (by decide) ?_
  refine y_icmp_ge X 21 ((4) ≤ (hn)) dX1_record_5 (by decide) (nI_leI (a := 4) (b := hn) (by omega) (by omega)) (fun c_1 => ?_) (fun c_1 => ?_)
  ·
    refine y_aload_n X dX1_record_21 0 rfl ?_
    refine y_aload_n X dX1_record_22 0 rfl ?_
    refine y_get X (6) 1 1 (Cn := RX1) (T := TX1) (N := 3) (index := 17) (v := .int (nI (o))) dX1_record_23 (by omega) h6 rfl (by decide) inX1 (by decide +kernel : Cond.fieldLink RX1 17 "ColumnSeasons$History" "oldest" "I" ∈ wsX1_record) rfl rfl ?_
    refine y_iconst X (v := (1)) dX1_record_26 (by decide) ?_
    refine y_iadd X (z := (nI (o + 1))) dX1_record_27 (nI_add (o) (1)) ?_
    refine y_iconst X (v := (5)) dX1_record_28 (by decide) ?_
    refine y_irem X (z := (nI ((o + 1) % (5)))) dX1_record_29 (by decide) (pk_rem (a := o + 1) (d := 5) (by omega) (by omega) (by omega)) ?_
    refine y_put X (6) 1 1 (Cn := RX1) (T := TX1) (N := 3) (index := 17) tyX1 (v := .int (nI ((o + 1) % (5)))) dX1_record_30 (by omega) h6 rfl (by decide) inX1 (by decide +kernel : Cond.fieldLink RX1 17 "ColumnSeasons$History" "oldest" "I" ∈ wsX1_record) rfl tyX1_ok nmX1 rfl rfl rfl (Nat.le_of_ble_eq_true rfl) ?_
    refine y_mem (va_up C (6) (.inr (1, [.ref (E.2.1 (7)), .int (nI ((o + 1) % (5))), .int (nI (hn))]))) rfl (fun C_2 eC_3 => ?_)
    have h_4 : C_2 (6) = .inr (1, [.ref (E.2.1 (7)), .int (nI ((o + 1) % (5))), .int (nI (hn))]) := by rw [eC_3, va_up, if_pos rfl]
    exact y_vret X hr dX1_record_33 rfl ⟨rfl, (by rw [recO, recN, if_pos (by omega), if_pos (by omega), show (4 : Nat) = hn by omega]; exact h_4), (fun i9 g9 => by rw [eC_3, va_up, if_neg (by omega)])⟩
  ·
    refine y_aload_n X dX1_record_8 0 rfl ?_
    refine y_dup X dX1_record_9 rfl ?_
    refine y_get X (6) 1 2 (Cn := RX1) (T := TX1) (N := 3) (index := 21) (v := .int (nI (hn))) dX1_record_10 (by omega) h6 rfl (by decide) inX1 (by decide +kernel : Cond.fieldLink RX1 21 "ColumnSeasons$History" "length" "I" ∈ wsX1_record) rfl rfl ?_
    refine y_iconst X (v := (1)) dX1_record_13 (by decide) ?_
    refine y_iadd X (z := (nI (hn + 1))) dX1_record_14 (nI_add (hn) (1)) ?_
    refine y_put X (6) 1 2 (Cn := RX1) (T := TX1) (N := 3) (index := 21) tyX1 (v := .int (nI (hn + 1))) dX1_record_15 (by omega) h6 rfl (by decide) inX1 (by decide +kernel : Cond.fieldLink RX1 21 "ColumnSeasons$History" "length" "I" ∈ wsX1_record) rfl tyX1_ok nmX1 rfl rfl rfl (Nat.le_of_ble_eq_true rfl) ?_
    refine y_mem (va_up C (6) (.inr (1, [.ref (E.2.1 (7)), .int (nI (o)), .int (nI (hn + 1))]))) rfl (fun C_5 eC_6 => ?_)
    have h_7 : C_5 (6) = .inr (1, [.ref (E.2.1 (7)), .int (nI (o)), .int (nI (hn + 1))]) := by rw [eC_6, va_up, if_pos rfl]
    refine y_goto X 33 dX1_record_18 (by decide) ?_
    exact y_vret X hr dX1_record_33 rfl ⟨rfl, (by rw [recO, recN, if_neg (by omega), if_neg (by omega)]; exact h_7), (fun i9 g9 => by rw [eC_6, va_up, if_neg (by omega)])⟩

set_option maxRecDepth 100000 in
set_option maxHeartbeats 4000000 in
theorem c_X4_recordIfDone {l : Launch} {E : xE} {C : xC} {o hn : Nat} {r0 : Int32} {fl sc se : Int32} (go5 : o < 5) (gn4 : hn ≤ 4) (h0 : C (0) = .inr (4, [.ref (E.2.1 (1)), .ref (E.2.1 (6)), .ref (E.2.1 (33)), .int fl, .ref (E.2.1 (38)), .int sc, .int se])) (h6 : C (6) = .inr (1, [.ref (E.2.1 (7)), .int (nI (o)), .int (nI (hn))])) : xM E l yX4_recordIfDone wsX4_recordIfDone 1 20 [.ref (E.2.1 (0)), .int r0] C (fun v C1 => v = some (.int r0) ∧ DRo E C C1 r0 o hn) := by
  refine xM_ofY (cc := cX4_recordIfDone) (maxL := 2) (ret := (some .int)) (by decide) rfl (Nat.le_of_ble_eq_true rfl) ?_
  intro p e s m args below meth c X hr
  have inX4 : ∀ w ∈ wsX40, w ∈ wsX4_recordIfDone := by decide +kernel
  refine y_lv [(0, .ref (E.2.1 (0))), (1, .int r0)] rfl ?_
  refine y_iload_n X dX4_recordIfDone_0 1 rfl ?_
  refine y_callJr X (av := [.int r0]) [] 1 (c_X4_isError (x := r0)) gX4_recordIfDone_X4_isError rfl (by decide +kernel) rfl ⟨Nat.le_of_ble_eq_true rfl, Nat.le_of_ble_eq_true rfl⟩ ⟨Nat.zero_le _, Nat.zero_le _⟩ (Nat.le_of_ble_eq_true rfl) rfl dX4_recordIfDone_1 ?_
  refine y_if_ne X 21 (erP r0) dX4_recordIfDone_4 (by decide) bI_ne (fun c_1 => ?_) (fun c_1 => ?_)
  ·
    refine y_iload_n X dX4_recordIfDone_21 1 rfl ?_
    exact y_iret X hr dX4_recordIfDone_22 rfl ⟨rfl, Or.inr ⟨fun z => (erP_iff.mp z).1 c_1, rfl⟩⟩
  ·
    refine y_iload_n X dX4_recordIfDone_7 1 rfl ?_
    refine y_sipush X (v := (-10005)) dX4_recordIfDone_8 (by decide) ?_
    refine y_icmp_eq X 21 (r0 = (-10005)) dX4_recordIfDone_11 (by decide) Iff.rfl (fun c_2 => ?_) (fun c_2 => ?_)
    ·
      refine y_iload_n X dX4_recordIfDone_21 1 rfl ?_
      exact y_iret X hr dX4_recordIfDone_22 rfl ⟨rfl, Or.inr ⟨fun z => (erP_iff.mp z).2 c_2, rfl⟩⟩
    ·
      refine y_aload_n X dX4_recordIfDone_14 0 rfl ?_
      refine y_get X (0) 4 1 (Cn := RX4) (T := TX4) (N := 7) (index := 19) (v := .ref (E.2.1 (6))) dX4_recordIfDone_15 (by omega) h0 rfl (by decide) inX4 (by decide +kernel : Cond.fieldLink RX4 19 "ColumnSeasons" "history" "LColumnSeasons$History;" ∈ wsX4_recordIfDone) rfl rfl ?_
      refine y_callV X (6) 1 (av := []) [] 0 (c_X1_record (o := o) (hn := hn) go5 gn4 h6) (by omega) h6 rfl gX4_recordIfDone_X1_record rfl (by decide +kernel) rfl ⟨Nat.le_of_ble_eq_true rfl, Nat.le_of_ble_eq_true rfl⟩ ⟨Nat.zero_le _, Nat.zero_le _⟩ (Nat.le_of_ble_eq_true rfl) rfl dX4_recordIfDone_18 (fun v_3 C_4 hp_5 => ?_)
      obtain ⟨gv9, gD6, gDF⟩ := hp_5
      subst gv9
      have h_6 : C_4 (0) = .inr (4, [.ref (E.2.1 (1)), .ref (E.2.1 (6)), .ref (E.2.1 (33)), .int fl, .ref (E.2.1 (38)), .int sc, .int se]) := (gDF _ (by omega)).trans h0
      refine y_iload_n X dX4_recordIfDone_21 1 rfl ?_
      exact y_iret X hr dX4_recordIfDone_22 rfl ⟨rfl, Or.inl ⟨erP_iff.mpr ⟨c_1, c_2⟩, gD6, gDF⟩⟩

set_option maxRecDepth 100000 in
set_option maxHeartbeats 4000000 in
theorem c_X4_add {l : Launch} {E : xE} {C : xC} {T : Tb} {hh : Nat → Tb} {hn : Nat} {sn : Option Tb} {tx : Nat → Int32} {ln : Nat} {sp : Option (Nat × Int32)} (gC : CX E C T hh hn sn tx ln sp) (gW : WX T hh hn sn tx ln sp) {x k0 d0 : Int32} : xM E l yX4_add wsX4_add 3 88 [.ref (E.2.1 (0)), .int x, .int k0, .int d0] C (fun v C1 => v = some (.int ((sAdd T x k0 d0).1)) ∧ CX E C1 (acT (sAdd T x k0 d0) T) (acH (sAdd T x k0 d0) T hh hn) (acN (sAdd T x k0 d0) hn) (sn) (tx) (ln) (sp) ∧ (∀ i : Nat, 61 ≤ i → C1 i = C i)) := by
  obtain ⟨o, gO⟩ := id gC
  obtain ⟨sl, cm, xt, cc, pl, nu, h0, h6, h7, h38, h39, h40, go5, gSL, gCM, gT, gRG, gSN0, gSN, gTX, gCD⟩ := id gO
  obtain ⟨gv, gn4, gWH, gWS, gl80, gch, gsp⟩ := id gW
  have gw := gv.1
  obtain ⟨gw1, gw2, gw3, gw4⟩ := id gv.1
  obtain ⟨zK, zD, zS, zV, h1, -, -, -, -, -⟩ := id gT
  refine xM_ofY (cc := cX4_add) (maxL := 4) (ret := (some .int)) (by decide) rfl (Nat.le_of_ble_eq_true rfl) ?_
  intro p e s m args below meth c X hr
  have inX4 : ∀ w ∈ wsX40, w ∈ wsX4_add := by decide +kernel
  refine y_lv [(0, .ref (E.2.1 (0))), (1, .int x), (2, .int k0), (3, .int d0)] rfl ?_
  refine y_aload_n X dX4_add_0 0 rfl ?_
  refine y_get X (0) 4 1 (Cn := RX4) (T := TX4) (N := 7) (index := 19) (v := .ref (E.2.1 (6))) dX4_add_1 (by omega) h0 rfl (by decide) inX4 (by decide +kernel : Cond.fieldLink RX4 19 "ColumnSeasons" "history" "LColumnSeasons$History;" ∈ wsX4_add) rfl rfl ?_
  refine y_aload_n X dX4_add_4 0 rfl ?_
  refine y_get X (0) 4 0 (Cn := RX4) (T := TX4) (N := 7) (index := 10) (v := .ref (E.2.1 (1))) dX4_add_5 (by omega) h0 rfl (by decide) inX4 (by decide +kernel : Cond.fieldLink RX4 10 "ColumnSeasons" "table" "LColumnSeasons$Table;" ∈ wsX4_add) rfl rfl ?_
  refine y_callV X (6) 1 (av := [.ref (E.2.1 (1))]) [] 1 (c_X1_prepare (o := o) (hn := hn) (T := T) (hh := hh) go5 gn4 h6 h7 gSL gT gw gRG) (by omega) h6 rfl gX4_add_X1_prepare rfl (by decide +kernel) rfl ⟨Nat.le_of_ble_eq_true rfl, Nat.le_of_ble_eq_true rfl⟩ ⟨Nat.zero_le _, Nat.zero_le _⟩ (Nat.le_of_ble_eq_true rfl) rfl dX4_add_8 (fun v_1 C_2 hp_3 => ?_)
  obtain ⟨gv9, gP1, gPF⟩ := hp_3
  subst gv9
  have h_4 : C_2 (0) = .inr (4, [.ref (E.2.1 (1)), .ref (E.2.1 (6)), .ref (E.2.1 (33)), .int (flg sn), .ref (E.2.1 (38)), .int (scC sp), .int (seC sp)]) := (gPF _ (by omega)).trans h0
  have h_5 : C_2 (1) = .inr (3, [.int (nI (tn T)), .ref (E.2.1 (1 + 1)), .ref (E.2.1 (1 + 2)), .int (nI (tr T)), .ref (E.2.1 (1 + 3)), .ref (E.2.1 (1 + 4))]) := (gPF _ (by omega)).trans h1
  have h_6 : C_2 (6) = .inr (1, [.ref (E.2.1 (7)), .int (nI (o)), .int (nI (hn))]) := (gPF _ (by omega)).trans h6
  have h_7 : C_2 (38) = .inr (2, [.ref (E.2.1 (39)), .int (nI (ln)), .ref (E.2.1 (40)), .int cc, .int pl, .int nu]) := (gPF _ (by omega)).trans h38
  have h_8 : C_2 (7) = .inl (E.2.2.1 3, 5, .inr (.inr (.inr (.inr sl)))) := (gPF _ (by omega)).trans h7
  have gT1 : RC E C_2 1 T := RC_same gT (fun i q1 q2 => gPF i (by omega))
  refine y_aload_n X dX4_add_11 0 rfl ?_
  refine y_aload_n X dX4_add_12 0 rfl ?_
  refine y_get X (0) 4 0 (Cn := RX4) (T := TX4) (N := 7) (index := 10) (v := .ref (E.2.1 (1))) dX4_add_13 (by omega) h_4 rfl (by decide) inX4 (by decide +kernel : Cond.fieldLink RX4 10 "ColumnSeasons" "table" "LColumnSeasons$Table;" ∈ wsX4_add) rfl rfl ?_
  refine y_iload_n X dX4_add_16 1 rfl ?_
  refine y_iload_n X dX4_add_17 2 rfl ?_
  refine y_iload_n X dX4_add_18 3 rfl ?_
  refine y_callV X (1) 3 (av := [.int x, .int k0, .int d0]) [.ref (E.2.1 (0))] 3 (c_X3_addColumn (b := 1) (T := T) (by omega) gT1 gw (x := x) (k0 := k0) (d0 := d0)) (by omega) h_5 rfl gX4_add_X3_addColumn rfl (by decide +kernel) rfl ⟨Nat.le_of_ble_eq_true rfl, Nat.le_of_ble_eq_true rfl⟩ ⟨Nat.zero_le _, Nat.zero_le _⟩ (Nat.le_of_ble_eq_true rfl) rfl dX4_add_19 (fun v_9 C_10 hp_11 => ?_)
  obtain ⟨gv9, gR2, gF2⟩ := hp_11
  subst gv9
  have h_12 : C_10 (0) = .inr (4, [.ref (E.2.1 (1)), .ref (E.2.1 (6)), .ref (E.2.1 (33)), .int (flg sn), .ref (E.2.1 (38)), .int (scC sp), .int (seC sp)]) := (gF2 _ (by omega)).trans h_4
  have h_13 : C_10 (6) = .inr (1, [.ref (E.2.1 (7)), .int (nI (o)), .int (nI (hn))]) := (gF2 _ (by omega)).trans h_6
  have h_14 : C_10 (38) = .inr (2, [.ref (E.2.1 (39)), .int (nI (ln)), .ref (E.2.1 (40)), .int cc, .int pl, .int nu]) := (gF2 _ (by omega)).trans h_7
  have h_15 : C_10 (7) = .inl (E.2.2.1 3, 5, .inr (.inr (.inr (.inr sl)))) := (gF2 _ (by omega)).trans h_8
  refine y_callV X (0) 4 (av := [.int (sAdd T x k0 d0).1]) [] 1 (c_X4_recordIfDone (o := o) (hn := hn) (r0 := (sAdd T x k0 d0).1) go5 gn4 h_12 h_13) (by omega) h_12 rfl gX4_add_X4_recordIfDone rfl (by decide +kernel) rfl ⟨Nat.le_of_ble_eq_true rfl, Nat.le_of_ble_eq_true rfl⟩ ⟨Nat.zero_le _, Nat.zero_le _⟩ (Nat.le_of_ble_eq_true rfl) rfl dX4_add_22 (fun v_16 C_17 hp_18 => ?_)
  obtain ⟨gv9, gDR⟩ := hp_18
  subst gv9
  exact y_iret X hr dX4_add_25 rfl (by have ez := CX_act (r := sAdd T x k0 d0) gO gn4 gP1 gPF gR2 gF2 gDR (e_sAdd gw); exact ⟨rfl, ez.1, ez.2⟩)

set_option maxRecDepth 100000 in
set_option maxHeartbeats 4000000 in
theorem c_X4_drop {l : Launch} {E : xE} {C : xC} {T : Tb} {hh : Nat → Tb} {hn : Nat} {sn : Option Tb} {tx : Nat → Int32} {ln : Nat} {sp : Option (Nat × Int32)} (gC : CX E C T hh hn sn tx ln sp) (gW : WX T hh hn sn tx ln sp) {x : Int32} : xM E l yX4_drop wsX4_drop 3 86 [.ref (E.2.1 (0)), .int x] C (fun v C1 => v = some (.int ((sDrop T x).1)) ∧ CX E C1 (acT (sDrop T x) T) (acH (sDrop T x) T hh hn) (acN (sDrop T x) hn) (sn) (tx) (ln) (sp) ∧ (∀ i : Nat, 61 ≤ i → C1 i = C i)) := by
  obtain ⟨o, gO⟩ := id gC
  obtain ⟨sl, cm, xt, cc, pl, nu, h0, h6, h7, h38, h39, h40, go5, gSL, gCM, gT, gRG, gSN0, gSN, gTX, gCD⟩ := id gO
  obtain ⟨gv, gn4, gWH, gWS, gl80, gch, gsp⟩ := id gW
  have gw := gv.1
  obtain ⟨gw1, gw2, gw3, gw4⟩ := id gv.1
  obtain ⟨zK, zD, zS, zV, h1, -, -, -, -, -⟩ := id gT
  refine xM_ofY (cc := cX4_drop) (maxL := 2) (ret := (some .int)) (by decide) rfl (Nat.le_of_ble_eq_true rfl) ?_
  intro p e s m args below meth c X hr
  have inX4 : ∀ w ∈ wsX40, w ∈ wsX4_drop := by decide +kernel
  refine y_lv [(0, .ref (E.2.1 (0))), (1, .int x)] rfl ?_
  refine y_aload_n X dX4_drop_0 0 rfl ?_
  refine y_get X (0) 4 1 (Cn := RX4) (T := TX4) (N := 7) (index := 19) (v := .ref (E.2.1 (6))) dX4_drop_1 (by omega) h0 rfl (by decide) inX4 (by decide +kernel : Cond.fieldLink RX4 19 "ColumnSeasons" "history" "LColumnSeasons$History;" ∈ wsX4_drop) rfl rfl ?_
  refine y_aload_n X dX4_drop_4 0 rfl ?_
  refine y_get X (0) 4 0 (Cn := RX4) (T := TX4) (N := 7) (index := 10) (v := .ref (E.2.1 (1))) dX4_drop_5 (by omega) h0 rfl (by decide) inX4 (by decide +kernel : Cond.fieldLink RX4 10 "ColumnSeasons" "table" "LColumnSeasons$Table;" ∈ wsX4_drop) rfl rfl ?_
  refine y_callV X (6) 1 (av := [.ref (E.2.1 (1))]) [] 1 (c_X1_prepare (o := o) (hn := hn) (T := T) (hh := hh) go5 gn4 h6 h7 gSL gT gw gRG) (by omega) h6 rfl gX4_drop_X1_prepare rfl (by decide +kernel) rfl ⟨Nat.le_of_ble_eq_true rfl, Nat.le_of_ble_eq_true rfl⟩ ⟨Nat.zero_le _, Nat.zero_le _⟩ (Nat.le_of_ble_eq_true rfl) rfl dX4_drop_8 (fun v_1 C_2 hp_3 => ?_)
  obtain ⟨gv9, gP1, gPF⟩ := hp_3
  subst gv9
  have h_4 : C_2 (0) = .inr (4, [.ref (E.2.1 (1)), .ref (E.2.1 (6)), .ref (E.2.1 (33)), .int (flg sn), .ref (E.2.1 (38)), .int (scC sp), .int (seC sp)]) := (gPF _ (by omega)).trans h0
  have h_5 : C_2 (1) = .inr (3, [.int (nI (tn T)), .ref (E.2.1 (1 + 1)), .ref (E.2.1 (1 + 2)), .int (nI (tr T)), .ref (E.2.1 (1 + 3)), .ref (E.2.1 (1 + 4))]) := (gPF _ (by omega)).trans h1
  have h_6 : C_2 (6) = .inr (1, [.ref (E.2.1 (7)), .int (nI (o)), .int (nI (hn))]) := (gPF _ (by omega)).trans h6
  have h_7 : C_2 (38) = .inr (2, [.ref (E.2.1 (39)), .int (nI (ln)), .ref (E.2.1 (40)), .int cc, .int pl, .int nu]) := (gPF _ (by omega)).trans h38
  have h_8 : C_2 (7) = .inl (E.2.2.1 3, 5, .inr (.inr (.inr (.inr sl)))) := (gPF _ (by omega)).trans h7
  have gT1 : RC E C_2 1 T := RC_same gT (fun i q1 q2 => gPF i (by omega))
  refine y_aload_n X dX4_drop_11 0 rfl ?_
  refine y_aload_n X dX4_drop_12 0 rfl ?_
  refine y_get X (0) 4 0 (Cn := RX4) (T := TX4) (N := 7) (index := 10) (v := .ref (E.2.1 (1))) dX4_drop_13 (by omega) h_4 rfl (by decide) inX4 (by decide +kernel : Cond.fieldLink RX4 10 "ColumnSeasons" "table" "LColumnSeasons$Table;" ∈ wsX4_drop) rfl rfl ?_
  refine y_iload_n X dX4_drop_16 1 rfl ?_
  refine y_callV X (1) 3 (av := [.int x]) [.ref (E.2.1 (0))] 1 (c_X3_dropColumn (b := 1) (T := T) (by omega) gT1 gw (x := x)) (by omega) h_5 rfl gX4_drop_X3_dropColumn rfl (by decide +kernel) rfl ⟨Nat.le_of_ble_eq_true rfl, Nat.le_of_ble_eq_true rfl⟩ ⟨Nat.zero_le _, Nat.zero_le _⟩ (Nat.le_of_ble_eq_true rfl) rfl dX4_drop_17 (fun v_9 C_10 hp_11 => ?_)
  obtain ⟨gv9, gR2, gF2⟩ := hp_11
  subst gv9
  have h_12 : C_10 (0) = .inr (4, [.ref (E.2.1 (1)), .ref (E.2.1 (6)), .ref (E.2.1 (33)), .int (flg sn), .ref (E.2.1 (38)), .int (scC sp), .int (seC sp)]) := (gF2 _ (by omega)).trans h_4
  have h_13 : C_10 (6) = .inr (1, [.ref (E.2.1 (7)), .int (nI (o)), .int (nI (hn))]) := (gF2 _ (by omega)).trans h_6
  have h_14 : C_10 (38) = .inr (2, [.ref (E.2.1 (39)), .int (nI (ln)), .ref (E.2.1 (40)), .int cc, .int pl, .int nu]) := (gF2 _ (by omega)).trans h_7
  have h_15 : C_10 (7) = .inl (E.2.2.1 3, 5, .inr (.inr (.inr (.inr sl)))) := (gF2 _ (by omega)).trans h_8
  refine y_callV X (0) 4 (av := [.int (sDrop T x).1]) [] 1 (c_X4_recordIfDone (o := o) (hn := hn) (r0 := (sDrop T x).1) go5 gn4 h_12 h_13) (by omega) h_12 rfl gX4_drop_X4_recordIfDone rfl (by decide +kernel) rfl ⟨Nat.le_of_ble_eq_true rfl, Nat.le_of_ble_eq_true rfl⟩ ⟨Nat.zero_le _, Nat.zero_le _⟩ (Nat.le_of_ble_eq_true rfl) rfl dX4_drop_20 (fun v_16 C_17 hp_18 => ?_)
  obtain ⟨gv9, gDR⟩ := hp_18
  subst gv9
  exact y_iret X hr dX4_drop_23 rfl (by have ez := CX_act (r := sDrop T x) gO gn4 gP1 gPF gR2 gF2 gDR (e_sDrop gw); exact ⟨rfl, ez.1, ez.2⟩)

set_option maxRecDepth 100000 in
set_option maxHeartbeats 4000000 in
theorem c_X4_kind {l : Launch} {E : xE} {C : xC} {T : Tb} {hh : Nat → Tb} {hn : Nat} {sn : Option Tb} {tx : Nat → Int32} {ln : Nat} {sp : Option (Nat × Int32)} (gC : CX E C T hh hn sn tx ln sp) (gW : WX T hh hn sn tx ln sp) {x k0 : Int32} : xM E l yX4_kind wsX4_kind 3 87 [.ref (E.2.1 (0)), .int x, .int k0] C (fun v C1 => v = some (.int ((sKind T x k0).1)) ∧ CX E C1 (acT (sKind T x k0) T) (acH (sKind T x k0) T hh hn) (acN (sKind T x k0) hn) (sn) (tx) (ln) (sp) ∧ (∀ i : Nat, 61 ≤ i → C1 i = C i)) := by
  obtain ⟨o, gO⟩ := id gC
  obtain ⟨sl, cm, xt, cc, pl, nu, h0, h6, h7, h38, h39, h40, go5, gSL, gCM, gT, gRG, gSN0, gSN, gTX, gCD⟩ := id gO
  obtain ⟨gv, gn4, gWH, gWS, gl80, gch, gsp⟩ := id gW
  have gw := gv.1
  obtain ⟨gw1, gw2, gw3, gw4⟩ := id gv.1
  obtain ⟨zK, zD, zS, zV, h1, -, -, -, -, -⟩ := id gT
  refine xM_ofY (cc := cX4_kind) (maxL := 3) (ret := (some .int)) (by decide) rfl (Nat.le_of_ble_eq_true rfl) ?_
  intro p e s m args below meth c X hr
  have inX4 : ∀ w ∈ wsX40, w ∈ wsX4_kind := by decide +kernel
  refine y_lv [(0, .ref (E.2.1 (0))), (1, .int x), (2, .int k0)] rfl ?_
  refine y_aload_n X dX4_kind_0 0 rfl ?_
  refine y_get X (0) 4 1 (Cn := RX4) (T := TX4) (N := 7) (index := 19) (v := .ref (E.2.1 (6))) dX4_kind_1 (by omega) h0 rfl (by decide) inX4 (by decide +kernel : Cond.fieldLink RX4 19 "ColumnSeasons" "history" "LColumnSeasons$History;" ∈ wsX4_kind) rfl rfl ?_
  refine y_aload_n X dX4_kind_4 0 rfl ?_
  refine y_get X (0) 4 0 (Cn := RX4) (T := TX4) (N := 7) (index := 10) (v := .ref (E.2.1 (1))) dX4_kind_5 (by omega) h0 rfl (by decide) inX4 (by decide +kernel : Cond.fieldLink RX4 10 "ColumnSeasons" "table" "LColumnSeasons$Table;" ∈ wsX4_kind) rfl rfl ?_
  refine y_callV X (6) 1 (av := [.ref (E.2.1 (1))]) [] 1 (c_X1_prepare (o := o) (hn := hn) (T := T) (hh := hh) go5 gn4 h6 h7 gSL gT gw gRG) (by omega) h6 rfl gX4_kind_X1_prepare rfl (by decide +kernel) rfl ⟨Nat.le_of_ble_eq_true rfl, Nat.le_of_ble_eq_true rfl⟩ ⟨Nat.zero_le _, Nat.zero_le _⟩ (Nat.le_of_ble_eq_true rfl) rfl dX4_kind_8 (fun v_1 C_2 hp_3 => ?_)
  obtain ⟨gv9, gP1, gPF⟩ := hp_3
  subst gv9
  have h_4 : C_2 (0) = .inr (4, [.ref (E.2.1 (1)), .ref (E.2.1 (6)), .ref (E.2.1 (33)), .int (flg sn), .ref (E.2.1 (38)), .int (scC sp), .int (seC sp)]) := (gPF _ (by omega)).trans h0
  have h_5 : C_2 (1) = .inr (3, [.int (nI (tn T)), .ref (E.2.1 (1 + 1)), .ref (E.2.1 (1 + 2)), .int (nI (tr T)), .ref (E.2.1 (1 + 3)), .ref (E.2.1 (1 + 4))]) := (gPF _ (by omega)).trans h1
  have h_6 : C_2 (6) = .inr (1, [.ref (E.2.1 (7)), .int (nI (o)), .int (nI (hn))]) := (gPF _ (by omega)).trans h6
  have h_7 : C_2 (38) = .inr (2, [.ref (E.2.1 (39)), .int (nI (ln)), .ref (E.2.1 (40)), .int cc, .int pl, .int nu]) := (gPF _ (by omega)).trans h38
  have h_8 : C_2 (7) = .inl (E.2.2.1 3, 5, .inr (.inr (.inr (.inr sl)))) := (gPF _ (by omega)).trans h7
  have gT1 : RC E C_2 1 T := RC_same gT (fun i q1 q2 => gPF i (by omega))
  refine y_aload_n X dX4_kind_11 0 rfl ?_
  refine y_aload_n X dX4_kind_12 0 rfl ?_
  refine y_get X (0) 4 0 (Cn := RX4) (T := TX4) (N := 7) (index := 10) (v := .ref (E.2.1 (1))) dX4_kind_13 (by omega) h_4 rfl (by decide) inX4 (by decide +kernel : Cond.fieldLink RX4 10 "ColumnSeasons" "table" "LColumnSeasons$Table;" ∈ wsX4_kind) rfl rfl ?_
  refine y_iload_n X dX4_kind_16 1 rfl ?_
  refine y_iload_n X dX4_kind_17 2 rfl ?_
  refine y_callV X (1) 3 (av := [.int x, .int k0]) [.ref (E.2.1 (0))] 2 (c_X3_changeKind (b := 1) (T := T) (by omega) gT1 gw (x := x) (k0 := k0)) (by omega) h_5 rfl gX4_kind_X3_changeKind rfl (by decide +kernel) rfl ⟨Nat.le_of_ble_eq_true rfl, Nat.le_of_ble_eq_true rfl⟩ ⟨Nat.zero_le _, Nat.zero_le _⟩ (Nat.le_of_ble_eq_true rfl) rfl dX4_kind_18 (fun v_9 C_10 hp_11 => ?_)
  obtain ⟨gv9, gR2, gF2⟩ := hp_11
  subst gv9
  have h_12 : C_10 (0) = .inr (4, [.ref (E.2.1 (1)), .ref (E.2.1 (6)), .ref (E.2.1 (33)), .int (flg sn), .ref (E.2.1 (38)), .int (scC sp), .int (seC sp)]) := (gF2 _ (by omega)).trans h_4
  have h_13 : C_10 (6) = .inr (1, [.ref (E.2.1 (7)), .int (nI (o)), .int (nI (hn))]) := (gF2 _ (by omega)).trans h_6
  have h_14 : C_10 (38) = .inr (2, [.ref (E.2.1 (39)), .int (nI (ln)), .ref (E.2.1 (40)), .int cc, .int pl, .int nu]) := (gF2 _ (by omega)).trans h_7
  have h_15 : C_10 (7) = .inl (E.2.2.1 3, 5, .inr (.inr (.inr (.inr sl)))) := (gF2 _ (by omega)).trans h_8
  refine y_callV X (0) 4 (av := [.int (sKind T x k0).1]) [] 1 (c_X4_recordIfDone (o := o) (hn := hn) (r0 := (sKind T x k0).1) go5 gn4 h_12 h_13) (by omega) h_12 rfl gX4_kind_X4_recordIfDone rfl (by decide +kernel) rfl ⟨Nat.le_of_ble_eq_true rfl, Nat.le_of_ble_eq_true rfl⟩ ⟨Nat.zero_le _, Nat.zero_le _⟩ (Nat.le_of_ble_eq_true rfl) rfl dX4_kind_21 (fun v_16 C_17 hp_18 => ?_)
  obtain ⟨gv9, gDR⟩ := hp_18
  subst gv9
  exact y_iret X hr dX4_kind_24 rfl (by have ez := CX_act (r := sKind T x k0) gO gn4 gP1 gPF gR2 gF2 gDR (e_sKind gw); exact ⟨rfl, ez.1, ez.2⟩)

set_option maxRecDepth 100000 in
set_option maxHeartbeats 4000000 in
theorem c_X4_row {l : Launch} {E : xE} {C : xC} {T : Tb} {hh : Nat → Tb} {hn : Nat} {sn : Option Tb} {tx : Nat → Int32} {ln : Nat} {sp : Option (Nat × Int32)} (gC : CX E C T hh hn sn tx ln sp) (gW : WX T hh hn sn tx ln sp) : xM E l yX4_row wsX4_row 3 82 [.ref (E.2.1 (0))] C (fun v C1 => v = some (.int ((sRow T).1)) ∧ CX E C1 (acT (sRow T) T) (acH (sRow T) T hh hn) (acN (sRow T) hn) (sn) (tx) (ln) (sp) ∧ (∀ i : Nat, 61 ≤ i → C1 i = C i)) := by
  obtain ⟨o, gO⟩ := id gC
  obtain ⟨sl, cm, xt, cc, pl, nu, h0, h6, h7, h38, h39, h40, go5, gSL, gCM, gT, gRG, gSN0, gSN, gTX, gCD⟩ := id gO
  obtain ⟨gv, gn4, gWH, gWS, gl80, gch, gsp⟩ := id gW
  have gw := gv.1
  obtain ⟨gw1, gw2, gw3, gw4⟩ := id gv.1
  obtain ⟨zK, zD, zS, zV, h1, -, -, -, -, -⟩ := id gT
  refine xM_ofY (cc := cX4_row) (maxL := 1) (ret := (some .int)) (by decide) rfl (Nat.le_of_ble_eq_true rfl) ?_
  intro p e s m args below meth c X hr
  have inX4 : ∀ w ∈ wsX40, w ∈ wsX4_row := by decide +kernel
  refine y_lv [(0, .ref (E.2.1 (0)))] rfl ?_
  refine y_aload_n X dX4_row_0 0 rfl ?_
  refine y_get X (0) 4 1 (Cn := RX4) (T := TX4) (N := 7) (index := 19) (v := .ref (E.2.1 (6))) dX4_row_1 (by omega) h0 rfl (by decide) inX4 (by decide +kernel : Cond.fieldLink RX4 19 "ColumnSeasons" "history" "LColumnSeasons$History;" ∈ wsX4_row) rfl rfl ?_
  refine y_aload_n X dX4_row_4 0 rfl ?_
  refine y_get X (0) 4 0 (Cn := RX4) (T := TX4) (N := 7) (index := 10) (v := .ref (E.2.1 (1))) dX4_row_5 (by omega) h0 rfl (by decide) inX4 (by decide +kernel : Cond.fieldLink RX4 10 "ColumnSeasons" "table" "LColumnSeasons$Table;" ∈ wsX4_row) rfl rfl ?_
  refine y_callV X (6) 1 (av := [.ref (E.2.1 (1))]) [] 1 (c_X1_prepare (o := o) (hn := hn) (T := T) (hh := hh) go5 gn4 h6 h7 gSL gT gw gRG) (by omega) h6 rfl gX4_row_X1_prepare rfl (by decide +kernel) rfl ⟨Nat.le_of_ble_eq_true rfl, Nat.le_of_ble_eq_true rfl⟩ ⟨Nat.zero_le _, Nat.zero_le _⟩ (Nat.le_of_ble_eq_true rfl) rfl dX4_row_8 (fun v_1 C_2 hp_3 => ?_)
  obtain ⟨gv9, gP1, gPF⟩ := hp_3
  subst gv9
  have h_4 : C_2 (0) = .inr (4, [.ref (E.2.1 (1)), .ref (E.2.1 (6)), .ref (E.2.1 (33)), .int (flg sn), .ref (E.2.1 (38)), .int (scC sp), .int (seC sp)]) := (gPF _ (by omega)).trans h0
  have h_5 : C_2 (1) = .inr (3, [.int (nI (tn T)), .ref (E.2.1 (1 + 1)), .ref (E.2.1 (1 + 2)), .int (nI (tr T)), .ref (E.2.1 (1 + 3)), .ref (E.2.1 (1 + 4))]) := (gPF _ (by omega)).trans h1
  have h_6 : C_2 (6) = .inr (1, [.ref (E.2.1 (7)), .int (nI (o)), .int (nI (hn))]) := (gPF _ (by omega)).trans h6
  have h_7 : C_2 (38) = .inr (2, [.ref (E.2.1 (39)), .int (nI (ln)), .ref (E.2.1 (40)), .int cc, .int pl, .int nu]) := (gPF _ (by omega)).trans h38
  have h_8 : C_2 (7) = .inl (E.2.2.1 3, 5, .inr (.inr (.inr (.inr sl)))) := (gPF _ (by omega)).trans h7
  have gT1 : RC E C_2 1 T := RC_same gT (fun i q1 q2 => gPF i (by omega))
  refine y_aload_n X dX4_row_11 0 rfl ?_
  refine y_aload_n X dX4_row_12 0 rfl ?_
  refine y_get X (0) 4 0 (Cn := RX4) (T := TX4) (N := 7) (index := 10) (v := .ref (E.2.1 (1))) dX4_row_13 (by omega) h_4 rfl (by decide) inX4 (by decide +kernel : Cond.fieldLink RX4 10 "ColumnSeasons" "table" "LColumnSeasons$Table;" ∈ wsX4_row) rfl rfl ?_
  refine y_callV X (1) 3 (av := []) [.ref (E.2.1 (0))] 0 (c_X3_writeRow (b := 1) (T := T) (by omega) gT1 gw ) (by omega) h_5 rfl gX4_row_X3_writeRow rfl (by decide +kernel) rfl ⟨Nat.le_of_ble_eq_true rfl, Nat.le_of_ble_eq_true rfl⟩ ⟨Nat.zero_le _, Nat.zero_le _⟩ (Nat.le_of_ble_eq_true rfl) rfl dX4_row_16 (fun v_9 C_10 hp_11 => ?_)
  obtain ⟨gv9, gR2, gF2⟩ := hp_11
  subst gv9
  have h_12 : C_10 (0) = .inr (4, [.ref (E.2.1 (1)), .ref (E.2.1 (6)), .ref (E.2.1 (33)), .int (flg sn), .ref (E.2.1 (38)), .int (scC sp), .int (seC sp)]) := (gF2 _ (by omega)).trans h_4
  have h_13 : C_10 (6) = .inr (1, [.ref (E.2.1 (7)), .int (nI (o)), .int (nI (hn))]) := (gF2 _ (by omega)).trans h_6
  have h_14 : C_10 (38) = .inr (2, [.ref (E.2.1 (39)), .int (nI (ln)), .ref (E.2.1 (40)), .int cc, .int pl, .int nu]) := (gF2 _ (by omega)).trans h_7
  have h_15 : C_10 (7) = .inl (E.2.2.1 3, 5, .inr (.inr (.inr (.inr sl)))) := (gF2 _ (by omega)).trans h_8
  refine y_callV X (0) 4 (av := [.int (sRow T).1]) [] 1 (c_X4_recordIfDone (o := o) (hn := hn) (r0 := (sRow T).1) go5 gn4 h_12 h_13) (by omega) h_12 rfl gX4_row_X4_recordIfDone rfl (by decide +kernel) rfl ⟨Nat.le_of_ble_eq_true rfl, Nat.le_of_ble_eq_true rfl⟩ ⟨Nat.zero_le _, Nat.zero_le _⟩ (Nat.le_of_ble_eq_true rfl) rfl dX4_row_19 (fun v_16 C_17 hp_18 => ?_)
  obtain ⟨gv9, gDR⟩ := hp_18
  subst gv9
  exact y_iret X hr dX4_row_22 rfl (by have ez := CX_act (r := sRow T) gO gn4 gP1 gPF gR2 gF2 gDR (e_sRow); exact ⟨rfl, ez.1, ez.2⟩)

set_option maxRecDepth 100000 in
set_option maxHeartbeats 4000000 in
theorem c_X4_set {l : Launch} {E : xE} {C : xC} {T : Tb} {hh : Nat → Tb} {hn : Nat} {sn : Option Tb} {tx : Nat → Int32} {ln : Nat} {sp : Option (Nat × Int32)} (gC : CX E C T hh hn sn tx ln sp) (gW : WX T hh hn sn tx ln sp) {x y v0 : Int32} : xM E l yX4_set wsX4_set 3 82 [.ref (E.2.1 (0)), .int x, .int y, .int v0] C (fun v C1 => v = some (.int ((sSet T x y v0).1)) ∧ CX E C1 (acT (sSet T x y v0) T) (acH (sSet T x y v0) T hh hn) (acN (sSet T x y v0) hn) (sn) (tx) (ln) (sp) ∧ (∀ i : Nat, 61 ≤ i → C1 i = C i)) := by
  obtain ⟨o, gO⟩ := id gC
  obtain ⟨sl, cm, xt, cc, pl, nu, h0, h6, h7, h38, h39, h40, go5, gSL, gCM, gT, gRG, gSN0, gSN, gTX, gCD⟩ := id gO
  obtain ⟨gv, gn4, gWH, gWS, gl80, gch, gsp⟩ := id gW
  have gw := gv.1
  obtain ⟨gw1, gw2, gw3, gw4⟩ := id gv.1
  obtain ⟨zK, zD, zS, zV, h1, -, -, -, -, -⟩ := id gT
  refine xM_ofY (cc := cX4_set) (maxL := 4) (ret := (some .int)) (by decide) rfl (Nat.le_of_ble_eq_true rfl) ?_
  intro p e s m args below meth c X hr
  have inX4 : ∀ w ∈ wsX40, w ∈ wsX4_set := by decide +kernel
  refine y_lv [(0, .ref (E.2.1 (0))), (1, .int x), (2, .int y), (3, .int v0)] rfl ?_
  refine y_aload_n X dX4_set_0 0 rfl ?_
  refine y_get X (0) 4 1 (Cn := RX4) (T := TX4) (N := 7) (index := 19) (v := .ref (E.2.1 (6))) dX4_set_1 (by omega) h0 rfl (by decide) inX4 (by decide +kernel : Cond.fieldLink RX4 19 "ColumnSeasons" "history" "LColumnSeasons$History;" ∈ wsX4_set) rfl rfl ?_
  refine y_aload_n X dX4_set_4 0 rfl ?_
  refine y_get X (0) 4 0 (Cn := RX4) (T := TX4) (N := 7) (index := 10) (v := .ref (E.2.1 (1))) dX4_set_5 (by omega) h0 rfl (by decide) inX4 (by decide +kernel : Cond.fieldLink RX4 10 "ColumnSeasons" "table" "LColumnSeasons$Table;" ∈ wsX4_set) rfl rfl ?_
  refine y_callV X (6) 1 (av := [.ref (E.2.1 (1))]) [] 1 (c_X1_prepare (o := o) (hn := hn) (T := T) (hh := hh) go5 gn4 h6 h7 gSL gT gw gRG) (by omega) h6 rfl gX4_set_X1_prepare rfl (by decide +kernel) rfl ⟨Nat.le_of_ble_eq_true rfl, Nat.le_of_ble_eq_true rfl⟩ ⟨Nat.zero_le _, Nat.zero_le _⟩ (Nat.le_of_ble_eq_true rfl) rfl dX4_set_8 (fun v_1 C_2 hp_3 => ?_)
  obtain ⟨gv9, gP1, gPF⟩ := hp_3
  subst gv9
  have h_4 : C_2 (0) = .inr (4, [.ref (E.2.1 (1)), .ref (E.2.1 (6)), .ref (E.2.1 (33)), .int (flg sn), .ref (E.2.1 (38)), .int (scC sp), .int (seC sp)]) := (gPF _ (by omega)).trans h0
  have h_5 : C_2 (1) = .inr (3, [.int (nI (tn T)), .ref (E.2.1 (1 + 1)), .ref (E.2.1 (1 + 2)), .int (nI (tr T)), .ref (E.2.1 (1 + 3)), .ref (E.2.1 (1 + 4))]) := (gPF _ (by omega)).trans h1
  have h_6 : C_2 (6) = .inr (1, [.ref (E.2.1 (7)), .int (nI (o)), .int (nI (hn))]) := (gPF _ (by omega)).trans h6
  have h_7 : C_2 (38) = .inr (2, [.ref (E.2.1 (39)), .int (nI (ln)), .ref (E.2.1 (40)), .int cc, .int pl, .int nu]) := (gPF _ (by omega)).trans h38
  have h_8 : C_2 (7) = .inl (E.2.2.1 3, 5, .inr (.inr (.inr (.inr sl)))) := (gPF _ (by omega)).trans h7
  have gT1 : RC E C_2 1 T := RC_same gT (fun i q1 q2 => gPF i (by omega))
  refine y_aload_n X dX4_set_11 0 rfl ?_
  refine y_aload_n X dX4_set_12 0 rfl ?_
  refine y_get X (0) 4 0 (Cn := RX4) (T := TX4) (N := 7) (index := 10) (v := .ref (E.2.1 (1))) dX4_set_13 (by omega) h_4 rfl (by decide) inX4 (by decide +kernel : Cond.fieldLink RX4 10 "ColumnSeasons" "table" "LColumnSeasons$Table;" ∈ wsX4_set) rfl rfl ?_
  refine y_iload_n X dX4_set_16 1 rfl ?_
  refine y_iload_n X dX4_set_17 2 rfl ?_
  refine y_iload_n X dX4_set_18 3 rfl ?_
  refine y_callV X (1) 3 (av := [.int x, .int y, .int v0]) [.ref (E.2.1 (0))] 3 (c_X3_changeValue (b := 1) (T := T) (by omega) gT1 gw (x := x) (y := y) (v0 := v0)) (by omega) h_5 rfl gX4_set_X3_changeValue rfl (by decide +kernel) rfl ⟨Nat.le_of_ble_eq_true rfl, Nat.le_of_ble_eq_true rfl⟩ ⟨Nat.zero_le _, Nat.zero_le _⟩ (Nat.le_of_ble_eq_true rfl) rfl dX4_set_19 (fun v_9 C_10 hp_11 => ?_)
  obtain ⟨gv9, gR2, gF2⟩ := hp_11
  subst gv9
  have h_12 : C_10 (0) = .inr (4, [.ref (E.2.1 (1)), .ref (E.2.1 (6)), .ref (E.2.1 (33)), .int (flg sn), .ref (E.2.1 (38)), .int (scC sp), .int (seC sp)]) := (gF2 _ (by omega)).trans h_4
  have h_13 : C_10 (6) = .inr (1, [.ref (E.2.1 (7)), .int (nI (o)), .int (nI (hn))]) := (gF2 _ (by omega)).trans h_6
  have h_14 : C_10 (38) = .inr (2, [.ref (E.2.1 (39)), .int (nI (ln)), .ref (E.2.1 (40)), .int cc, .int pl, .int nu]) := (gF2 _ (by omega)).trans h_7
  have h_15 : C_10 (7) = .inl (E.2.2.1 3, 5, .inr (.inr (.inr (.inr sl)))) := (gF2 _ (by omega)).trans h_8
  refine y_callV X (0) 4 (av := [.int (sSet T x y v0).1]) [] 1 (c_X4_recordIfDone (o := o) (hn := hn) (r0 := (sSet T x y v0).1) go5 gn4 h_12 h_13) (by omega) h_12 rfl gX4_set_X4_recordIfDone rfl (by decide +kernel) rfl ⟨Nat.le_of_ble_eq_true rfl, Nat.le_of_ble_eq_true rfl⟩ ⟨Nat.zero_le _, Nat.zero_le _⟩ (Nat.le_of_ble_eq_true rfl) rfl dX4_set_22 (fun v_16 C_17 hp_18 => ?_)
  obtain ⟨gv9, gDR⟩ := hp_18
  subst gv9
  exact y_iret X hr dX4_set_25 rfl (by have ez := CX_act (r := sSet T x y v0) gO gn4 gP1 gPF gR2 gF2 gDR (e_sSet gv); exact ⟨rfl, ez.1, ez.2⟩)

set_option maxRecDepth 100000 in
set_option maxHeartbeats 4000000 in
theorem c_X4_remove {l : Launch} {E : xE} {C : xC} {T : Tb} {hh : Nat → Tb} {hn : Nat} {sn : Option Tb} {tx : Nat → Int32} {ln : Nat} {sp : Option (Nat × Int32)} (gC : CX E C T hh hn sn tx ln sp) (gW : WX T hh hn sn tx ln sp) {x : Int32} : xM E l yX4_remove wsX4_remove 3 82 [.ref (E.2.1 (0)), .int x] C (fun v C1 => v = some (.int ((sRem T x).1)) ∧ CX E C1 (acT (sRem T x) T) (acH (sRem T x) T hh hn) (acN (sRem T x) hn) (sn) (tx) (ln) (sp) ∧ (∀ i : Nat, 61 ≤ i → C1 i = C i)) := by
  obtain ⟨o, gO⟩ := id gC
  obtain ⟨sl, cm, xt, cc, pl, nu, h0, h6, h7, h38, h39, h40, go5, gSL, gCM, gT, gRG, gSN0, gSN, gTX, gCD⟩ := id gO
  obtain ⟨gv, gn4, gWH, gWS, gl80, gch, gsp⟩ := id gW
  have gw := gv.1
  obtain ⟨gw1, gw2, gw3, gw4⟩ := id gv.1
  obtain ⟨zK, zD, zS, zV, h1, -, -, -, -, -⟩ := id gT
  refine xM_ofY (cc := cX4_remove) (maxL := 2) (ret := (some .int)) (by decide) rfl (Nat.le_of_ble_eq_true rfl) ?_
  intro p e s m args below meth c X hr
  have inX4 : ∀ w ∈ wsX40, w ∈ wsX4_remove := by decide +kernel
  refine y_lv [(0, .ref (E.2.1 (0))), (1, .int x)] rfl ?_
  refine y_aload_n X dX4_remove_0 0 rfl ?_
  refine y_get X (0) 4 1 (Cn := RX4) (T := TX4) (N := 7) (index := 19) (v := .ref (E.2.1 (6))) dX4_remove_1 (by omega) h0 rfl (by decide) inX4 (by decide +kernel : Cond.fieldLink RX4 19 "ColumnSeasons" "history" "LColumnSeasons$History;" ∈ wsX4_remove) rfl rfl ?_
  refine y_aload_n X dX4_remove_4 0 rfl ?_
  refine y_get X (0) 4 0 (Cn := RX4) (T := TX4) (N := 7) (index := 10) (v := .ref (E.2.1 (1))) dX4_remove_5 (by omega) h0 rfl (by decide) inX4 (by decide +kernel : Cond.fieldLink RX4 10 "ColumnSeasons" "table" "LColumnSeasons$Table;" ∈ wsX4_remove) rfl rfl ?_
  refine y_callV X (6) 1 (av := [.ref (E.2.1 (1))]) [] 1 (c_X1_prepare (o := o) (hn := hn) (T := T) (hh := hh) go5 gn4 h6 h7 gSL gT gw gRG) (by omega) h6 rfl gX4_remove_X1_prepare rfl (by decide +kernel) rfl ⟨Nat.le_of_ble_eq_true rfl, Nat.le_of_ble_eq_true rfl⟩ ⟨Nat.zero_le _, Nat.zero_le _⟩ (Nat.le_of_ble_eq_true rfl) rfl dX4_remove_8 (fun v_1 C_2 hp_3 => ?_)
  obtain ⟨gv9, gP1, gPF⟩ := hp_3
  subst gv9
  have h_4 : C_2 (0) = .inr (4, [.ref (E.2.1 (1)), .ref (E.2.1 (6)), .ref (E.2.1 (33)), .int (flg sn), .ref (E.2.1 (38)), .int (scC sp), .int (seC sp)]) := (gPF _ (by omega)).trans h0
  have h_5 : C_2 (1) = .inr (3, [.int (nI (tn T)), .ref (E.2.1 (1 + 1)), .ref (E.2.1 (1 + 2)), .int (nI (tr T)), .ref (E.2.1 (1 + 3)), .ref (E.2.1 (1 + 4))]) := (gPF _ (by omega)).trans h1
  have h_6 : C_2 (6) = .inr (1, [.ref (E.2.1 (7)), .int (nI (o)), .int (nI (hn))]) := (gPF _ (by omega)).trans h6
  have h_7 : C_2 (38) = .inr (2, [.ref (E.2.1 (39)), .int (nI (ln)), .ref (E.2.1 (40)), .int cc, .int pl, .int nu]) := (gPF _ (by omega)).trans h38
  have h_8 : C_2 (7) = .inl (E.2.2.1 3, 5, .inr (.inr (.inr (.inr sl)))) := (gPF _ (by omega)).trans h7
  have gT1 : RC E C_2 1 T := RC_same gT (fun i q1 q2 => gPF i (by omega))
  refine y_aload_n X dX4_remove_11 0 rfl ?_
  refine y_aload_n X dX4_remove_12 0 rfl ?_
  refine y_get X (0) 4 0 (Cn := RX4) (T := TX4) (N := 7) (index := 10) (v := .ref (E.2.1 (1))) dX4_remove_13 (by omega) h_4 rfl (by decide) inX4 (by decide +kernel : Cond.fieldLink RX4 10 "ColumnSeasons" "table" "LColumnSeasons$Table;" ∈ wsX4_remove) rfl rfl ?_
  refine y_iload_n X dX4_remove_16 1 rfl ?_
  refine y_callV X (1) 3 (av := [.int x]) [.ref (E.2.1 (0))] 1 (c_X3_removeRow (b := 1) (T := T) (by omega) gT1 gw (x := x)) (by omega) h_5 rfl gX4_remove_X3_removeRow rfl (by decide +kernel) rfl ⟨Nat.le_of_ble_eq_true rfl, Nat.le_of_ble_eq_true rfl⟩ ⟨Nat.zero_le _, Nat.zero_le _⟩ (Nat.le_of_ble_eq_true rfl) rfl dX4_remove_17 (fun v_9 C_10 hp_11 => ?_)
  obtain ⟨gv9, gR2, gF2⟩ := hp_11
  subst gv9
  have h_12 : C_10 (0) = .inr (4, [.ref (E.2.1 (1)), .ref (E.2.1 (6)), .ref (E.2.1 (33)), .int (flg sn), .ref (E.2.1 (38)), .int (scC sp), .int (seC sp)]) := (gF2 _ (by omega)).trans h_4
  have h_13 : C_10 (6) = .inr (1, [.ref (E.2.1 (7)), .int (nI (o)), .int (nI (hn))]) := (gF2 _ (by omega)).trans h_6
  have h_14 : C_10 (38) = .inr (2, [.ref (E.2.1 (39)), .int (nI (ln)), .ref (E.2.1 (40)), .int cc, .int pl, .int nu]) := (gF2 _ (by omega)).trans h_7
  have h_15 : C_10 (7) = .inl (E.2.2.1 3, 5, .inr (.inr (.inr (.inr sl)))) := (gF2 _ (by omega)).trans h_8
  refine y_callV X (0) 4 (av := [.int (sRem T x).1]) [] 1 (c_X4_recordIfDone (o := o) (hn := hn) (r0 := (sRem T x).1) go5 gn4 h_12 h_13) (by omega) h_12 rfl gX4_remove_X4_recordIfDone rfl (by decide +kernel) rfl ⟨Nat.le_of_ble_eq_true rfl, Nat.le_of_ble_eq_true rfl⟩ ⟨Nat.zero_le _, Nat.zero_le _⟩ (Nat.le_of_ble_eq_true rfl) rfl dX4_remove_20 (fun v_16 C_17 hp_18 => ?_)
  obtain ⟨gv9, gDR⟩ := hp_18
  subst gv9
  exact y_iret X hr dX4_remove_23 rfl (by have ez := CX_act (r := sRem T x) gO gn4 gP1 gPF gR2 gF2 gDR (e_sRem gw); exact ⟨rfl, ez.1, ez.2⟩)

set_option maxRecDepth 100000 in
set_option maxHeartbeats 4000000 in
theorem c_X4_makeOver {l : Launch} {E : xE} {C : xC} {T : Tb} {hh : Nat → Tb} {hn : Nat} {sn : Option Tb} {tx : Nat → Int32} {ln : Nat} {sp : Option (Nat × Int32)} (gC : CX E C T hh hn sn tx ln sp) (gW : WX T hh hn sn tx ln sp) {x y : Int32} : xM E l yX4_makeOver wsX4_makeOver 5 114 [.ref (E.2.1 (0)), .int x, .int y] C (fun v C1 => v = some (.int ((sMk T x y).1)) ∧ CX E C1 (acT (sMk T x y) T) (acH (sMk T x y) T hh hn) (acN (sMk T x y) hn) (sn) (tx) (ln) (sp) ∧ (∀ i : Nat, 61 ≤ i → C1 i = C i)) := by
  obtain ⟨o, gO⟩ := id gC
  obtain ⟨sl, cm, xt, cc, pl, nu, h0, h6, h7, h38, h39, h40, go5, gSL, gCM, gT, gRG, gSN0, gSN, gTX, gCD⟩ := id gO
  obtain ⟨gv, gn4, gWH, gWS, gl80, gch, gsp⟩ := id gW
  have gw := gv.1
  obtain ⟨gw1, gw2, gw3, gw4⟩ := id gv.1
  obtain ⟨zK, zD, zS, zV, h1, -, -, -, -, -⟩ := id gT
  refine xM_ofY (cc := cX4_makeOver) (maxL := 3) (ret := (some .int)) (by decide) rfl (Nat.le_of_ble_eq_true rfl) ?_
  intro p e s m args below meth c X hr
  have inX4 : ∀ w ∈ wsX40, w ∈ wsX4_makeOver := by decide +kernel
  refine y_lv [(0, .ref (E.2.1 (0))), (1, .int x), (2, .int y)] rfl ?_
  refine y_aload_n X dX4_makeOver_0 0 rfl ?_
  refine y_get X (0) 4 1 (Cn := RX4) (T := TX4) (N := 7) (index := 19) (v := .ref (E.2.1 (6))) dX4_makeOver_1 (by omega) h0 rfl (by decide) inX4 (by decide +kernel : Cond.fieldLink RX4 19 "ColumnSeasons" "history" "LColumnSeasons$History;" ∈ wsX4_makeOver) rfl rfl ?_
  refine y_aload_n X dX4_makeOver_4 0 rfl ?_
  refine y_get X (0) 4 0 (Cn := RX4) (T := TX4) (N := 7) (index := 10) (v := .ref (E.2.1 (1))) dX4_makeOver_5 (by omega) h0 rfl (by decide) inX4 (by decide +kernel : Cond.fieldLink RX4 10 "ColumnSeasons" "table" "LColumnSeasons$Table;" ∈ wsX4_makeOver) rfl rfl ?_
  refine y_callV X (6) 1 (av := [.ref (E.2.1 (1))]) [] 1 (c_X1_prepare (o := o) (hn := hn) (T := T) (hh := hh) go5 gn4 h6 h7 gSL gT gw gRG) (by omega) h6 rfl gX4_makeOver_X1_prepare rfl (by decide +kernel) rfl ⟨Nat.le_of_ble_eq_true rfl, Nat.le_of_ble_eq_true rfl⟩ ⟨Nat.zero_le _, Nat.zero_le _⟩ (Nat.le_of_ble_eq_true rfl) rfl dX4_makeOver_8 (fun v_1 C_2 hp_3 => ?_)
  obtain ⟨gv9, gP1, gPF⟩ := hp_3
  subst gv9
  have h_4 : C_2 (0) = .inr (4, [.ref (E.2.1 (1)), .ref (E.2.1 (6)), .ref (E.2.1 (33)), .int (flg sn), .ref (E.2.1 (38)), .int (scC sp), .int (seC sp)]) := (gPF _ (by omega)).trans h0
  have h_5 : C_2 (1) = .inr (3, [.int (nI (tn T)), .ref (E.2.1 (1 + 1)), .ref (E.2.1 (1 + 2)), .int (nI (tr T)), .ref (E.2.1 (1 + 3)), .ref (E.2.1 (1 + 4))]) := (gPF _ (by omega)).trans h1
  have h_6 : C_2 (6) = .inr (1, [.ref (E.2.1 (7)), .int (nI (o)), .int (nI (hn))]) := (gPF _ (by omega)).trans h6
  have h_7 : C_2 (38) = .inr (2, [.ref (E.2.1 (39)), .int (nI (ln)), .ref (E.2.1 (40)), .int cc, .int pl, .int nu]) := (gPF _ (by omega)).trans h38
  have h_8 : C_2 (7) = .inl (E.2.2.1 3, 5, .inr (.inr (.inr (.inr sl)))) := (gPF _ (by omega)).trans h7
  have gT1 : RC E C_2 1 T := RC_same gT (fun i q1 q2 => gPF i (by omega))
  refine y_aload_n X dX4_makeOver_11 0 rfl ?_
  refine y_aload_n X dX4_makeOver_12 0 rfl ?_
  refine y_get X (0) 4 0 (Cn := RX4) (T := TX4) (N := 7) (index := 10) (v := .ref (E.2.1 (1))) dX4_makeOver_13 (by omega) h_4 rfl (by decide) inX4 (by decide +kernel : Cond.fieldLink RX4 10 "ColumnSeasons" "table" "LColumnSeasons$Table;" ∈ wsX4_makeOver) rfl rfl ?_
  refine y_iload_n X dX4_makeOver_16 1 rfl ?_
  refine y_iload_n X dX4_makeOver_17 2 rfl ?_
  refine y_callV X (1) 3 (av := [.int x, .int y]) [.ref (E.2.1 (0))] 2 (c_X3_makeRowsOver (b := 1) (T := T) (by omega) gT1 gw (x := x) (y := y)) (by omega) h_5 rfl gX4_makeOver_X3_makeRowsOver rfl (by decide +kernel) rfl ⟨Nat.le_of_ble_eq_true rfl, Nat.le_of_ble_eq_true rfl⟩ ⟨Nat.zero_le _, Nat.zero_le _⟩ (Nat.le_of_ble_eq_true rfl) rfl dX4_makeOver_18 (fun v_9 C_10 hp_11 => ?_)
  obtain ⟨gv9, gR2, gF2⟩ := hp_11
  subst gv9
  have h_12 : C_10 (0) = .inr (4, [.ref (E.2.1 (1)), .ref (E.2.1 (6)), .ref (E.2.1 (33)), .int (flg sn), .ref (E.2.1 (38)), .int (scC sp), .int (seC sp)]) := (gF2 _ (by omega)).trans h_4
  have h_13 : C_10 (6) = .inr (1, [.ref (E.2.1 (7)), .int (nI (o)), .int (nI (hn))]) := (gF2 _ (by omega)).trans h_6
  have h_14 : C_10 (38) = .inr (2, [.ref (E.2.1 (39)), .int (nI (ln)), .ref (E.2.1 (40)), .int cc, .int pl, .int nu]) := (gF2 _ (by omega)).trans h_7
  have h_15 : C_10 (7) = .inl (E.2.2.1 3, 5, .inr (.inr (.inr (.inr sl)))) := (gF2 _ (by omega)).trans h_8
  refine y_callV X (0) 4 (av := [.int (sMk T x y).1]) [] 1 (c_X4_recordIfDone (o := o) (hn := hn) (r0 := (sMk T x y).1) go5 gn4 h_12 h_13) (by omega) h_12 rfl gX4_makeOver_X4_recordIfDone rfl (by decide +kernel) rfl ⟨Nat.le_of_ble_eq_true rfl, Nat.le_of_ble_eq_true rfl⟩ ⟨Nat.zero_le _, Nat.zero_le _⟩ (Nat.le_of_ble_eq_true rfl) rfl dX4_makeOver_21 (fun v_16 C_17 hp_18 => ?_)
  obtain ⟨gv9, gDR⟩ := hp_18
  subst gv9
  exact y_iret X hr dX4_makeOver_24 rfl (by have ez := CX_act (r := sMk T x y) gO gn4 gP1 gPF gR2 gF2 gDR (e_sMk gw); exact ⟨rfl, ez.1, ez.2⟩)

set_option maxRecDepth 100000 in
set_option maxHeartbeats 4000000 in
theorem c_X4_forget {l : Launch} {E : xE} {C : xC} {T : Tb} {hh : Nat → Tb} {hn : Nat} {sn : Option Tb} {tx : Nat → Int32} {ln : Nat} {sp : Option (Nat × Int32)} (gC : CX E C T hh hn sn tx ln sp) (gW : WX T hh hn sn tx ln sp) : xM E l yX4_forget wsX4_forget 3 82 [.ref (E.2.1 (0))] C (fun v C1 => v = some (.int ((sFor T).1)) ∧ CX E C1 (acT (sFor T) T) (acH (sFor T) T hh hn) (acN (sFor T) hn) (sn) (tx) (ln) (sp) ∧ (∀ i : Nat, 61 ≤ i → C1 i = C i)) := by
  obtain ⟨o, gO⟩ := id gC
  obtain ⟨sl, cm, xt, cc, pl, nu, h0, h6, h7, h38, h39, h40, go5, gSL, gCM, gT, gRG, gSN0, gSN, gTX, gCD⟩ := id gO
  obtain ⟨gv, gn4, gWH, gWS, gl80, gch, gsp⟩ := id gW
  have gw := gv.1
  obtain ⟨gw1, gw2, gw3, gw4⟩ := id gv.1
  obtain ⟨zK, zD, zS, zV, h1, -, -, -, -, -⟩ := id gT
  refine xM_ofY (cc := cX4_forget) (maxL := 1) (ret := (some .int)) (by decide) rfl (Nat.le_of_ble_eq_true rfl) ?_
  intro p e s m args below meth c X hr
  have inX4 : ∀ w ∈ wsX40, w ∈ wsX4_forget := by decide +kernel
  refine y_lv [(0, .ref (E.2.1 (0)))] rfl ?_
  refine y_aload_n X dX4_forget_0 0 rfl ?_
  refine y_get X (0) 4 1 (Cn := RX4) (T := TX4) (N := 7) (index := 19) (v := .ref (E.2.1 (6))) dX4_forget_1 (by omega) h0 rfl (by decide) inX4 (by decide +kernel : Cond.fieldLink RX4 19 "ColumnSeasons" "history" "LColumnSeasons$History;" ∈ wsX4_forget) rfl rfl ?_
  refine y_aload_n X dX4_forget_4 0 rfl ?_
  refine y_get X (0) 4 0 (Cn := RX4) (T := TX4) (N := 7) (index := 10) (v := .ref (E.2.1 (1))) dX4_forget_5 (by omega) h0 rfl (by decide) inX4 (by decide +kernel : Cond.fieldLink RX4 10 "ColumnSeasons" "table" "LColumnSeasons$Table;" ∈ wsX4_forget) rfl rfl ?_
  refine y_callV X (6) 1 (av := [.ref (E.2.1 (1))]) [] 1 (c_X1_prepare (o := o) (hn := hn) (T := T) (hh := hh) go5 gn4 h6 h7 gSL gT gw gRG) (by omega) h6 rfl gX4_forget_X1_prepare rfl (by decide +kernel) rfl ⟨Nat.le_of_ble_eq_true rfl, Nat.le_of_ble_eq_true rfl⟩ ⟨Nat.zero_le _, Nat.zero_le _⟩ (Nat.le_of_ble_eq_true rfl) rfl dX4_forget_8 (fun v_1 C_2 hp_3 => ?_)
  obtain ⟨gv9, gP1, gPF⟩ := hp_3
  subst gv9
  have h_4 : C_2 (0) = .inr (4, [.ref (E.2.1 (1)), .ref (E.2.1 (6)), .ref (E.2.1 (33)), .int (flg sn), .ref (E.2.1 (38)), .int (scC sp), .int (seC sp)]) := (gPF _ (by omega)).trans h0
  have h_5 : C_2 (1) = .inr (3, [.int (nI (tn T)), .ref (E.2.1 (1 + 1)), .ref (E.2.1 (1 + 2)), .int (nI (tr T)), .ref (E.2.1 (1 + 3)), .ref (E.2.1 (1 + 4))]) := (gPF _ (by omega)).trans h1
  have h_6 : C_2 (6) = .inr (1, [.ref (E.2.1 (7)), .int (nI (o)), .int (nI (hn))]) := (gPF _ (by omega)).trans h6
  have h_7 : C_2 (38) = .inr (2, [.ref (E.2.1 (39)), .int (nI (ln)), .ref (E.2.1 (40)), .int cc, .int pl, .int nu]) := (gPF _ (by omega)).trans h38
  have h_8 : C_2 (7) = .inl (E.2.2.1 3, 5, .inr (.inr (.inr (.inr sl)))) := (gPF _ (by omega)).trans h7
  have gT1 : RC E C_2 1 T := RC_same gT (fun i q1 q2 => gPF i (by omega))
  refine y_aload_n X dX4_forget_11 0 rfl ?_
  refine y_aload_n X dX4_forget_12 0 rfl ?_
  refine y_get X (0) 4 0 (Cn := RX4) (T := TX4) (N := 7) (index := 10) (v := .ref (E.2.1 (1))) dX4_forget_13 (by omega) h_4 rfl (by decide) inX4 (by decide +kernel : Cond.fieldLink RX4 10 "ColumnSeasons" "table" "LColumnSeasons$Table;" ∈ wsX4_forget) rfl rfl ?_
  refine y_callV X (1) 3 (av := []) [.ref (E.2.1 (0))] 0 (c_X3_forgetSeasons (b := 1) (T := T) (by omega) gT1 gw ) (by omega) h_5 rfl gX4_forget_X3_forgetSeasons rfl (by decide +kernel) rfl ⟨Nat.le_of_ble_eq_true rfl, Nat.le_of_ble_eq_true rfl⟩ ⟨Nat.zero_le _, Nat.zero_le _⟩ (Nat.le_of_ble_eq_true rfl) rfl dX4_forget_16 (fun v_9 C_10 hp_11 => ?_)
  obtain ⟨gv9, gR2, gF2⟩ := hp_11
  subst gv9
  have h_12 : C_10 (0) = .inr (4, [.ref (E.2.1 (1)), .ref (E.2.1 (6)), .ref (E.2.1 (33)), .int (flg sn), .ref (E.2.1 (38)), .int (scC sp), .int (seC sp)]) := (gF2 _ (by omega)).trans h_4
  have h_13 : C_10 (6) = .inr (1, [.ref (E.2.1 (7)), .int (nI (o)), .int (nI (hn))]) := (gF2 _ (by omega)).trans h_6
  have h_14 : C_10 (38) = .inr (2, [.ref (E.2.1 (39)), .int (nI (ln)), .ref (E.2.1 (40)), .int cc, .int pl, .int nu]) := (gF2 _ (by omega)).trans h_7
  have h_15 : C_10 (7) = .inl (E.2.2.1 3, 5, .inr (.inr (.inr (.inr sl)))) := (gF2 _ (by omega)).trans h_8
  refine y_callV X (0) 4 (av := [.int (sFor T).1]) [] 1 (c_X4_recordIfDone (o := o) (hn := hn) (r0 := (sFor T).1) go5 gn4 h_12 h_13) (by omega) h_12 rfl gX4_forget_X4_recordIfDone rfl (by decide +kernel) rfl ⟨Nat.le_of_ble_eq_true rfl, Nat.le_of_ble_eq_true rfl⟩ ⟨Nat.zero_le _, Nat.zero_le _⟩ (Nat.le_of_ble_eq_true rfl) rfl dX4_forget_19 (fun v_16 C_17 hp_18 => ?_)
  obtain ⟨gv9, gDR⟩ := hp_18
  subst gv9
  exact y_iret X hr dX4_forget_22 rfl (by have ez := CX_act (r := sFor T) gO gn4 gP1 gPF gR2 gF2 gDR (e_sFor gw); exact ⟨rfl, ez.1, ez.2⟩)
