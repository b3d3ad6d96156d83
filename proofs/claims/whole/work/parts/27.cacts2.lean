set_option maxRecDepth 100000 in
set_option maxHeartbeats 4000000 in
theorem c_X4_undo {l : Launch} {E : xE} {C : xC} {T : Tb} {hh : Nat → Tb} {hn : Nat} {sn : Option Tb} {tx : Nat → Int32} {ln : Nat} {sp : Option (Nat × Int32)} (gC : CX E C T hh hn sn tx ln sp) (gW : WX T hh hn sn tx ln sp) : xM E l yX4_undo wsX4_undo 3 82 [.ref (E.2.1 (0))] C (fun v C1 => v = some (.int (if hn = 0 then -10005 else nI (hn - 1))) ∧ CX E C1 (if hn = 0 then T else hh (hn - 1)) (hh) (hn - 1) (sn) (tx) (ln) (sp) ∧ (∀ i : Nat, 61 ≤ i → C1 i = C i)) := by
  obtain ⟨o, gO⟩ := id gC
  obtain ⟨sl, cm, xt, cc, pl, nu, h0, h6, h7, h38, h39, h40, go5, gSL, gCM, gT, gRG, gSN0, gSN, gTX, gCD⟩ := id gO
  obtain ⟨gv, gn4, gWH, gWS, gl80, gch, gsp⟩ := id gW
  have gw := gv.1
  obtain ⟨gw1, gw2, gw3, gw4⟩ := id gv.1
  obtain ⟨zK, zD, zS, zV, h1, -, -, -, -, -⟩ := id gT
  refine xM_ofY (cc := cX4_undo) (maxL := 1) (ret := (some .int)) (by decide) rfl (Nat.le_of_ble_eq_true rfl) ?_
  intro p e s m args below meth c X hr
  have inX1 : ∀ w ∈ wsX10, w ∈ wsX4_undo := by decide +kernel
  have inX4 : ∀ w ∈ wsX40, w ∈ wsX4_undo := by decide +kernel
  refine y_lv [(0, .ref (E.2.1 (0)))] rfl ?_
  refine y_aload_n X dX4_undo_0 0 rfl ?_
  refine y_get X (0) 4 1 (Cn := RX4) (T := TX4) (N := 7) (index := 19) (v := .ref (E.2.1 (6))) dX4_undo_1 (by omega) h0 rfl (by decide) inX4 (by decide +kernel : Cond.fieldLink RX4 19 "ColumnSeasons" "history" "LColumnSeasons$History;" ∈ wsX4_undo) rfl rfl ?_
  refine y_getN X (6) 1 2 (Cn := RX1) (T := TX1) (N := 3) (index := 114) (v := .int (nI (hn))) dX4_undo_4 (by omega) h6 rfl (by decide) inX1 (by decide +kernel : Cond.fieldLinkNest RX4 114 "ColumnSeasons$History" "length" "I" "ColumnSeasons" ∈ xnest) rfl rfl ?_
  refine y_if_ne X 14 (¬ ((hn) = (0))) dX4_undo_7 (by decide) (cNe (nI_eq (a := hn) (b := 0) (by omega) (by omega))) (fun c_1 => ?_) (fun c_1 => ?_)
  ·
    refine y_aload_n X dX4_undo_14 0 rfl ?_
    refine y_get X (0) 4 1 (Cn := RX4) (T := TX4) (N := 7) (index := 19) (v := .ref (E.2.1 (6))) dX4_undo_15 (by omega) h0 rfl (by decide) inX4 (by decide +kernel : Cond.fieldLink RX4 19 "ColumnSeasons" "history" "LColumnSeasons$History;" ∈ wsX4_undo) rfl rfl ?_
    refine y_aload_n X dX4_undo_18 0 rfl ?_
    refine y_get X (0) 4 0 (Cn := RX4) (T := TX4) (N := 7) (index := 10) (v := .ref (E.2.1 (1))) dX4_undo_19 (by omega) h0 rfl (by decide) inX4 (by decide +kernel : Cond.fieldLink RX4 10 "ColumnSeasons" "table" "LColumnSeasons$Table;" ∈ wsX4_undo) rfl rfl ?_
    refine y_callV X (6) 1 (av := [.ref (E.2.1 (1))]) [] 1 (c_X1_takeLatestInto (o := o) (hn := hn) (T := T) (S := hh (hn - 1)) go5 gn4 h6 h7 gSL (by omega) gT (gRG.2 (hn - 1) (by omega)) (gWH (hn - 1) (by omega)).1) (by omega) h6 rfl gX4_undo_X1_takeLatestInto rfl (by decide +kernel) rfl ⟨Nat.le_of_ble_eq_true rfl, Nat.le_of_ble_eq_true rfl⟩ ⟨Nat.zero_le _, Nat.zero_le _⟩ (Nat.le_of_ble_eq_true rfl) rfl dX4_undo_22 (fun v_2 C_3 hp_4 => ?_)
    obtain ⟨gv9, gU6, gUR, gUF⟩ := hp_4
    subst gv9
    have h_5 : C_3 (0) = .inr (4, [.ref (E.2.1 (1)), .ref (E.2.1 (6)), .ref (E.2.1 (33)), .int (flg sn), .ref (E.2.1 (38)), .int (scC sp), .int (seC sp)]) := (gUF _ (by omega) (by omega)).trans h0
    have h_6 : C_3 (38) = .inr (2, [.ref (E.2.1 (39)), .int (nI (ln)), .ref (E.2.1 (40)), .int cc, .int pl, .int nu]) := (gUF _ (by omega) (by omega)).trans h38
    have h_7 : C_3 (7) = .inl (E.2.2.1 3, 5, .inr (.inr (.inr (.inr sl)))) := (gUF _ (by omega) (by omega)).trans h7
    have h_8 : C_3 (39) = .inl (E.2.2.1 0, 80, .inl xt) := (gUF _ (by omega) (by omega)).trans h39
    have h_9 : C_3 (40) = .inl (E.2.2.1 2, 20, .inr (.inr (.inr (.inr cm)))) := (gUF _ (by omega) (by omega)).trans h40
    refine y_aload_n X dX4_undo_25 0 rfl ?_
    refine y_get X (0) 4 1 (Cn := RX4) (T := TX4) (N := 7) (index := 19) (v := .ref (E.2.1 (6))) dX4_undo_26 (by omega) h_5 rfl (by decide) inX4 (by decide +kernel : Cond.fieldLink RX4 19 "ColumnSeasons" "history" "LColumnSeasons$History;" ∈ wsX4_undo) rfl rfl ?_
    refine y_getN X (6) 1 2 (Cn := RX1) (T := TX1) (N := 3) (index := 114) (v := .int (nI (hn - 1))) dX4_undo_29 (by omega) gU6 rfl (by decide) inX1 (by decide +kernel : Cond.fieldLinkNest RX4 114 "ColumnSeasons$History" "length" "I" "ColumnSeasons" ∈ xnest) rfl rfl ?_
    exact y_iret X hr dX4_undo_32 rfl (by rw [if_neg (by omega), if_neg (by omega)]; exact ⟨rfl, CX_mk h_5 gU6 h_7 h_6 h_8 h_9 go5 gSL gCM gUR (RG_same gRG (by omega) (fun i9 _ _ => by rw [gUF i9 (by omega) (by omega)])) (by obtain ⟨S, hS⟩ := gSN0; exact ⟨S, (RC_same hS (fun i9 g8 g9 => by rw [gUF i9 (by omega) (by omega)]))⟩) (fun S hS => (RC_same (gSN S hS) (fun i9 g8 g9 => by rw [gUF i9 (by omega) (by omega)]))) gTX gCD (fun i9 _ _ => by rw [gUF i9 (by omega) (by omega)]), (fun i9 g9 => by rw [gUF i9 (by omega) (by omega)])⟩)
  ·
    have c_1 := Decidable.of_not_not c_1
    refine y_sipush X (v := (-10005)) dX4_undo_10 (by decide) ?_
    exact y_iret X hr dX4_undo_13 rfl (by have c9 : hn = 0 := (by omega); subst c9; exact ⟨rfl, gC, (fun _ _ => rfl)⟩)

set_option maxRecDepth 100000 in
set_option maxHeartbeats 4000000 in
theorem c_X4_keep {l : Launch} {E : xE} {C : xC} {T : Tb} {hh : Nat → Tb} {hn : Nat} {sn : Option Tb} {tx : Nat → Int32} {ln : Nat} {sp : Option (Nat × Int32)} (gC : CX E C T hh hn sn tx ln sp) (gW : WX T hh hn sn tx ln sp) : xM E l yX4_keep wsX4_keep 2 61 [.ref (E.2.1 (0))] C (fun v C1 => v = some (.int (nI (tr T))) ∧ CX E C1 (T) (hh) (hn) (some T) (tx) (ln) (sp) ∧ (∀ i : Nat, 61 ≤ i → C1 i = C i)) := by
  obtain ⟨o, gO⟩ := id gC
  obtain ⟨sl, cm, xt, cc, pl, nu, h0, h6, h7, h38, h39, h40, go5, gSL, gCM, gT, gRG, gSN0, gSN, gTX, gCD⟩ := id gO
  obtain ⟨gv, gn4, gWH, gWS, gl80, gch, gsp⟩ := id gW
  have gw := gv.1
  obtain ⟨gw1, gw2, gw3, gw4⟩ := id gv.1
  obtain ⟨zK, zD, zS, zV, h1, -, -, -, -, -⟩ := id gT
  obtain ⟨S0, gS0⟩ := gSN0
  refine xM_ofY (cc := cX4_keep) (maxL := 1) (ret := (some .int)) (by decide) rfl (Nat.le_of_ble_eq_true rfl) ?_
  intro p e s m args below meth c X hr
  have inX3 : ∀ w ∈ wsX30, w ∈ wsX4_keep := by decide +kernel
  have inX4 : ∀ w ∈ wsX40, w ∈ wsX4_keep := by decide +kernel
  refine y_lv [(0, .ref (E.2.1 (0)))] rfl ?_
  refine y_aload_n X dX4_keep_0 0 rfl ?_
  refine y_get X (0) 4 2 (Cn := RX4) (T := TX4) (N := 7) (index := 23) (v := .ref (E.2.1 (33))) dX4_keep_1 (by omega) h0 rfl (by decide) inX4 (by decide +kernel : Cond.fieldLink RX4 23 "ColumnSeasons" "snapshot" "LColumnSeasons$Table;" ∈ wsX4_keep) rfl rfl ?_
  refine y_aload_n X dX4_keep_4 0 rfl ?_
  refine y_get X (0) 4 0 (Cn := RX4) (T := TX4) (N := 7) (index := 10) (v := .ref (E.2.1 (1))) dX4_keep_5 (by omega) h0 rfl (by decide) inX4 (by decide +kernel : Cond.fieldLink RX4 10 "ColumnSeasons" "table" "LColumnSeasons$Table;" ∈ wsX4_keep) rfl rfl ?_
  obtain ⟨-, -, -, -, j0, -, -, -, -, -⟩ := id gS0
  refine y_callV X (33) 3 (av := [.ref (E.2.1 (1))]) [] 1 (c_X3_copyFrom (b := 33) (b2 := 1) (T0 := S0) (T := T) (by omega) (by omega) (by omega) gS0 gT gw) (by omega) j0 rfl gX4_keep_X3_copyFrom rfl (by decide +kernel) rfl ⟨Nat.le_of_ble_eq_true rfl, Nat.le_of_ble_eq_true rfl⟩ ⟨Nat.zero_le _, Nat.zero_le _⟩ (Nat.le_of_ble_eq_true rfl) rfl dX4_keep_8 (fun v_1 C_2 hp_3 => ?_)
  obtain ⟨gv9, gKR, gKF⟩ := hp_3
  subst gv9
  have h_4 : C_2 (0) = .inr (4, [.ref (E.2.1 (1)), .ref (E.2.1 (6)), .ref (E.2.1 (33)), .int (flg sn), .ref (E.2.1 (38)), .int (scC sp), .int (seC sp)]) := (gKF _ (by omega)).trans h0
  have h_5 : C_2 (1) = .inr (3, [.int (nI (tn T)), .ref (E.2.1 (1 + 1)), .ref (E.2.1 (1 + 2)), .int (nI (tr T)), .ref (E.2.1 (1 + 3)), .ref (E.2.1 (1 + 4))]) := (gKF _ (by omega)).trans h1
  have h_6 : C_2 (6) = .inr (1, [.ref (E.2.1 (7)), .int (nI (o)), .int (nI (hn))]) := (gKF _ (by omega)).trans h6
  have h_7 : C_2 (38) = .inr (2, [.ref (E.2.1 (39)), .int (nI (ln)), .ref (E.2.1 (40)), .int cc, .int pl, .int nu]) := (gKF _ (by omega)).trans h38
  have h_8 : C_2 (7) = .inl (E.2.2.1 3, 5, .inr (.inr (.inr (.inr sl)))) := (gKF _ (by omega)).trans h7
  have h_9 : C_2 (39) = .inl (E.2.2.1 0, 80, .inl xt) := (gKF _ (by omega)).trans h39
  have h_10 : C_2 (40) = .inl (E.2.2.1 2, 20, .inr (.inr (.inr (.inr cm)))) := (gKF _ (by omega)).trans h40
  refine y_aload_n X dX4_keep_11 0 rfl ?_
  refine y_iconst X (v := (1)) dX4_keep_12 (by decide) ?_
  refine y_put X (0) 4 3 (Cn := RX4) (T := TX4) (N := 7) (index := 26) tyX4 (v := .int (1)) dX4_keep_13 (by omega) h_4 rfl (by decide) inX4 (by decide +kernel : Cond.fieldLink RX4 26 "ColumnSeasons" "hasSnapshot" "Z" ∈ wsX4_keep) rfl tyX4_ok nmX4 rfl rfl rfl (Nat.le_of_ble_eq_true rfl) ?_
  refine y_mem (va_up C_2 (0) (.inr (4, [.ref (E.2.1 (1)), .ref (E.2.1 (6)), .ref (E.2.1 (33)), .int (1), .ref (E.2.1 (38)), .int (scC sp), .int (seC sp)]))) rfl (fun C_11 eC_12 => ?_)
  have h_13 : C_11 (0) = .inr (4, [.ref (E.2.1 (1)), .ref (E.2.1 (6)), .ref (E.2.1 (33)), .int (1), .ref (E.2.1 (38)), .int (scC sp), .int (seC sp)]) := by rw [eC_12, va_up, if_pos rfl]
  have h_14 : C_11 (1) = .inr (3, [.int (nI (tn T)), .ref (E.2.1 (1 + 1)), .ref (E.2.1 (1 + 2)), .int (nI (tr T)), .ref (E.2.1 (1 + 3)), .ref (E.2.1 (1 + 4))]) := by rw [eC_12, va_up, if_neg (by omega)]; exact h_5
  have h_15 : C_11 (6) = .inr (1, [.ref (E.2.1 (7)), .int (nI (o)), .int (nI (hn))]) := by rw [eC_12, va_up, if_neg (by omega)]; exact h_6
  have h_16 : C_11 (38) = .inr (2, [.ref (E.2.1 (39)), .int (nI (ln)), .ref (E.2.1 (40)), .int cc, .int pl, .int nu]) := by rw [eC_12, va_up, if_neg (by omega)]; exact h_7
  have h_17 : C_11 (7) = .inl (E.2.2.1 3, 5, .inr (.inr (.inr (.inr sl)))) := by rw [eC_12, va_up, if_neg (by omega)]; exact h_8
  have h_18 : C_11 (39) = .inl (E.2.2.1 0, 80, .inl xt) := by rw [eC_12, va_up, if_neg (by omega)]; exact h_9
  have h_19 : C_11 (40) = .inl (E.2.2.1 2, 20, .inr (.inr (.inr (.inr cm)))) := by rw [eC_12, va_up, if_neg (by omega)]; exact h_10
  refine y_aload_n X dX4_keep_16 0 rfl ?_
  refine y_get X (0) 4 0 (Cn := RX4) (T := TX4) (N := 7) (index := 10) (v := .ref (E.2.1 (1))) dX4_keep_17 (by omega) h_13 rfl (by decide) inX4 (by decide +kernel : Cond.fieldLink RX4 10 "ColumnSeasons" "table" "LColumnSeasons$Table;" ∈ wsX4_keep) rfl rfl ?_
  refine y_getN X (1) 3 3 (Cn := RX3) (T := TX3) (N := 6) (index := 118) (v := .int (nI (tr T))) dX4_keep_20 (by omega) h_14 rfl (by decide) inX3 (by decide +kernel : Cond.fieldLinkNest RX4 118 "ColumnSeasons$Table" "rows" "I" "ColumnSeasons" ∈ xnest) rfl rfl ?_
  have gKR9 : RC E C_11 33 T := RC_same gKR (fun i q1 q2 => by rw [eC_12, va_up, if_neg (by omega)])
  exact y_iret X hr dX4_keep_23 rfl ⟨rfl, CX_mk h_13 h_15 h_17 h_16 h_18 h_19 go5 gSL gCM (RC_same gT (fun i9 g8 g9 => by rw [eC_12, va_up, if_neg (by omega)]; rw [gKF i9 (by omega)])) (RG_same gRG (by omega) (fun i9 _ _ => by rw [eC_12, va_up, if_neg (by omega)]; rw [gKF i9 (by omega)])) ⟨T, gKR9⟩ (fun S q1 => by cases q1; exact gKR9) gTX gCD (fun i9 _ _ => by rw [eC_12, va_up, if_neg (by omega)]; rw [gKF i9 (by omega)]), (fun i9 g9 => by rw [eC_12, va_up, if_neg (by omega)]; rw [gKF i9 (by omega)])⟩

set_option maxRecDepth 100000 in
set_option maxHeartbeats 4000000 in
theorem c_X4_restore {l : Launch} {E : xE} {C : xC} {T : Tb} {hh : Nat → Tb} {hn : Nat} {sn : Option Tb} {tx : Nat → Int32} {ln : Nat} {sp : Option (Nat × Int32)} (gC : CX E C T hh hn sn tx ln sp) (gW : WX T hh hn sn tx ln sp) : xM E l yX4_restore wsX4_restore 3 82 [.ref (E.2.1 (0))] C (fun v C1 => v = some (.int (rsV sn)) ∧ CX E C1 (rsT sn T) (rsH sn T hh hn) (rsN sn hn) (sn) (tx) (ln) (sp) ∧ (∀ i : Nat, 61 ≤ i → C1 i = C i)) := by
  obtain ⟨o, gO⟩ := id gC
  obtain ⟨sl, cm, xt, cc, pl, nu, h0, h6, h7, h38, h39, h40, go5, gSL, gCM, gT, gRG, gSN0, gSN, gTX, gCD⟩ := id gO
  obtain ⟨gv, gn4, gWH, gWS, gl80, gch, gsp⟩ := id gW
  have gw := gv.1
  obtain ⟨gw1, gw2, gw3, gw4⟩ := id gv.1
  obtain ⟨zK, zD, zS, zV, h1, -, -, -, -, -⟩ := id gT
  refine xM_ofY (cc := cX4_restore) (maxL := 1) (ret := (some .int)) (by decide) rfl (Nat.le_of_ble_eq_true rfl) ?_
  intro p e s m args below meth c X hr
  have inX3 : ∀ w ∈ wsX30, w ∈ wsX4_restore := by decide +kernel
  have inX4 : ∀ w ∈ wsX40, w ∈ wsX4_restore := by decide +kernel
  refine y_lv [(0, .ref (E.2.1 (0)))] rfl ?_
  refine y_aload_n X dX4_restore_0 0 rfl ?_
  refine y_get X (0) 4 3 (Cn := RX4) (T := TX4) (N := 7) (index := 26) (v := .int (flg sn)) dX4_restore_1 (by omega) h0 rfl (by decide) inX4 (by decide +kernel : Cond.fieldLink RX4 26 "ColumnSeasons" "hasSnapshot" "Z" ∈ wsX4_restore) rfl rfl ?_
  refine y_if_ne X 11 (¬ sn = none) dX4_restore_4 (by decide) (not_congr flg_0) (fun c_1 => ?_) (fun c_1 => ?_)
  ·
    obtain ⟨S, eS⟩ := Option.ne_none_iff_exists'.mp c_1
    have gSw := (gWS S eS).1
    have gS24 := gSw.2.2.1
    refine y_aload_n X dX4_restore_11 0 rfl ?_
    refine y_get X (0) 4 1 (Cn := RX4) (T := TX4) (N := 7) (index := 19) (v := .ref (E.2.1 (6))) dX4_restore_12 (by omega) h0 rfl (by decide) inX4 (by decide +kernel : Cond.fieldLink RX4 19 "ColumnSeasons" "history" "LColumnSeasons$History;" ∈ wsX4_restore) rfl rfl ?_
    refine y_aload_n X dX4_restore_15 0 rfl ?_
    refine y_get X (0) 4 0 (Cn := RX4) (T := TX4) (N := 7) (index := 10) (v := .ref (E.2.1 (1))) dX4_restore_16 (by omega) h0 rfl (by decide) inX4 (by decide +kernel : Cond.fieldLink RX4 10 "ColumnSeasons" "table" "LColumnSeasons$Table;" ∈ wsX4_restore) rfl rfl ?_
    refine y_callV X (6) 1 (av := [.ref (E.2.1 (1))]) [] 1 (c_X1_prepare (o := o) (hn := hn) (T := T) (hh := hh) go5 gn4 h6 h7 gSL gT gw gRG) (by omega) h6 rfl gX4_restore_X1_prepare rfl (by decide +kernel) rfl ⟨Nat.le_of_ble_eq_true rfl, Nat.le_of_ble_eq_true rfl⟩ ⟨Nat.zero_le _, Nat.zero_le _⟩ (Nat.le_of_ble_eq_true rfl) rfl dX4_restore_19 (fun v_2 C_3 hp_4 => ?_)
    obtain ⟨gv9, gP1, gPF⟩ := hp_4
    subst gv9
    have h_5 : C_3 (0) = .inr (4, [.ref (E.2.1 (1)), .ref (E.2.1 (6)), .ref (E.2.1 (33)), .int (flg sn), .ref (E.2.1 (38)), .int (scC sp), .int (seC sp)]) := (gPF _ (by omega)).trans h0
    have h_6 : C_3 (1) = .inr (3, [.int (nI (tn T)), .ref (E.2.1 (1 + 1)), .ref (E.2.1 (1 + 2)), .int (nI (tr T)), .ref (E.2.1 (1 + 3)), .ref (E.2.1 (1 + 4))]) := (gPF _ (by omega)).trans h1
    have h_7 : C_3 (6) = .inr (1, [.ref (E.2.1 (7)), .int (nI (o)), .int (nI (hn))]) := (gPF _ (by omega)).trans h6
    have h_8 : C_3 (38) = .inr (2, [.ref (E.2.1 (39)), .int (nI (ln)), .ref (E.2.1 (40)), .int cc, .int pl, .int nu]) := (gPF _ (by omega)).trans h38
    have h_9 : C_3 (7) = .inl (E.2.2.1 3, 5, .inr (.inr (.inr (.inr sl)))) := (gPF _ (by omega)).trans h7
    have h_10 : C_3 (39) = .inl (E.2.2.1 0, 80, .inl xt) := (gPF _ (by omega)).trans h39
    have h_11 : C_3 (40) = .inl (E.2.2.1 2, 20, .inr (.inr (.inr (.inr cm)))) := (gPF _ (by omega)).trans h40
    have gT1 : RC E C_3 1 T := RC_same gT (fun i q1 q2 => gPF i (by omega))
    refine y_aload_n X dX4_restore_22 0 rfl ?_
    refine y_get X (0) 4 0 (Cn := RX4) (T := TX4) (N := 7) (index := 10) (v := .ref (E.2.1 (1))) dX4_restore_23 (by omega) h_5 rfl (by decide) inX4 (by decide +kernel : Cond.fieldLink RX4 10 "ColumnSeasons" "table" "LColumnSeasons$Table;" ∈ wsX4_restore) rfl rfl ?_
    refine y_aload_n X dX4_restore_26 0 rfl ?_
    refine y_get X (0) 4 2 (Cn := RX4) (T := TX4) (N := 7) (index := 23) (v := .ref (E.2.1 (33))) dX4_restore_27 (by omega) h_5 rfl (by decide) inX4 (by decide +kernel : Cond.fieldLink RX4 23 "ColumnSeasons" "snapshot" "LColumnSeasons$Table;" ∈ wsX4_restore) rfl rfl ?_
    have gS9 : RC E C_3 33 S := RC_same (gSN S eS) (fun i q1 q2 => gPF i (by omega))
    refine y_callV X (1) 3 (av := [.ref (E.2.1 (33))]) [] 1 (c_X3_copyFrom (b := 1) (b2 := 33) (T0 := T) (T := S) (by omega) (by omega) (by omega) gT1 gS9 gSw) (by omega) h_6 rfl gX4_restore_X3_copyFrom rfl (by decide +kernel) rfl ⟨Nat.le_of_ble_eq_true rfl, Nat.le_of_ble_eq_true rfl⟩ ⟨Nat.zero_le _, Nat.zero_le _⟩ (Nat.le_of_ble_eq_true rfl) rfl dX4_restore_30 (fun v_12 C_13 hp_14 => ?_)
    obtain ⟨gv9, gKR, gKF⟩ := hp_14
    subst gv9
    have h_15 : C_13 (0) = .inr (4, [.ref (E.2.1 (1)), .ref (E.2.1 (6)), .ref (E.2.1 (33)), .int (flg sn), .ref (E.2.1 (38)), .int (scC sp), .int (seC sp)]) := (gKF _ (by omega)).trans h_5
    have h_16 : C_13 (6) = .inr (1, [.ref (E.2.1 (7)), .int (nI (o)), .int (nI (hn))]) := (gKF _ (by omega)).trans h_7
    have h_17 : C_13 (38) = .inr (2, [.ref (E.2.1 (39)), .int (nI (ln)), .ref (E.2.1 (40)), .int cc, .int pl, .int nu]) := (gKF _ (by omega)).trans h_8
    have h_18 : C_13 (7) = .inl (E.2.2.1 3, 5, .inr (.inr (.inr (.inr sl)))) := (gKF _ (by omega)).trans h_9
    have h_19 : C_13 (39) = .inl (E.2.2.1 0, 80, .inl xt) := (gKF _ (by omega)).trans h_10
    have h_20 : C_13 (40) = .inl (E.2.2.1 2, 20, .inr (.inr (.inr (.inr cm)))) := (gKF _ (by omega)).trans h_11
    refine y_aload_n X dX4_restore_33 0 rfl ?_
    refine y_get X (0) 4 1 (Cn := RX4) (T := TX4) (N := 7) (index := 19) (v := .ref (E.2.1 (6))) dX4_restore_34 (by omega) h_15 rfl (by decide) inX4 (by decide +kernel : Cond.fieldLink RX4 19 "ColumnSeasons" "history" "LColumnSeasons$History;" ∈ wsX4_restore) rfl rfl ?_
    refine y_callV X (6) 1 (av := []) [] 0 (c_X1_record (o := o) (hn := hn) go5 gn4 h_16) (by omega) h_16 rfl gX4_restore_X1_record rfl (by decide +kernel) rfl ⟨Nat.le_of_ble_eq_true rfl, Nat.le_of_ble_eq_true rfl⟩ ⟨Nat.zero_le _, Nat.zero_le _⟩ (Nat.le_of_ble_eq_true rfl) rfl dX4_restore_37 (fun v_21 C_22 hp_23 => ?_)
    obtain ⟨gv9, gD6, gDF⟩ := hp_23
    subst gv9
    have h_24 : C_22 (0) = .inr (4, [.ref (E.2.1 (1)), .ref (E.2.1 (6)), .ref (E.2.1 (33)), .int (flg sn), .ref (E.2.1 (38)), .int (scC sp), .int (seC sp)]) := (gDF _ (by omega)).trans h_15
    have h_25 : C_22 (38) = .inr (2, [.ref (E.2.1 (39)), .int (nI (ln)), .ref (E.2.1 (40)), .int cc, .int pl, .int nu]) := (gDF _ (by omega)).trans h_17
    have h_26 : C_22 (7) = .inl (E.2.2.1 3, 5, .inr (.inr (.inr (.inr sl)))) := (gDF _ (by omega)).trans h_18
    have h_27 : C_22 (39) = .inl (E.2.2.1 0, 80, .inl xt) := (gDF _ (by omega)).trans h_19
    have h_28 : C_22 (40) = .inl (E.2.2.1 2, 20, .inr (.inr (.inr (.inr cm)))) := (gDF _ (by omega)).trans h_20
    have gK9 : RC E C_22 1 S := RC_same gKR (fun i q1 q2 => gDF i (by omega))
    obtain ⟨-, -, -, -, i0, -, -, -, -, -⟩ := id gK9
    refine y_aload_n X dX4_restore_40 0 rfl ?_
    refine y_get X (0) 4 0 (Cn := RX4) (T := TX4) (N := 7) (index := 10) (v := .ref (E.2.1 (1))) dX4_restore_41 (by omega) h_24 rfl (by decide) inX4 (by decide +kernel : Cond.fieldLink RX4 10 "ColumnSeasons" "table" "LColumnSeasons$Table;" ∈ wsX4_restore) rfl rfl ?_
    refine y_getN X (1) 3 3 (Cn := RX3) (T := TX3) (N := 6) (index := 118) (v := .int (nI (tr S))) dX4_restore_44 (by omega) i0 rfl (by decide) inX3 (by decide +kernel : Cond.fieldLinkNest RX4 118 "ColumnSeasons$Table" "rows" "I" "ColumnSeasons" ∈ xnest) rfl rfl ?_
    exact y_iret X hr dX4_restore_47 rfl (by have gps : (-10001 : Int32) < nI (tr S) := act_pos (by omega); have ez := CX_act (r := (nI (tr S), S)) gO gn4 gP1 gPF gKR gKF (Or.inl ⟨gps, gD6, gDF⟩) (fun z => absurd gps z); simp only [acT, acH, acN, if_pos gps] at ez; subst eS; exact ⟨rfl, ez.1, ez.2⟩)
  ·
    have c_1 := Decidable.of_not_not c_1
    refine y_sipush X (v := (-10005)) dX4_restore_7 (by decide) ?_
    exact y_iret X hr dX4_restore_10 rfl (by subst c_1; exact ⟨rfl, gC, (fun _ _ => rfl)⟩)

set_option maxRecDepth 100000 in
set_option maxHeartbeats 4000000 in
theorem c_X2_append {l : Launch} {E : xE} {C : xC} {x : Int32} {ln : Nat} {xt : Nat → Int32} {cc pl nu : Int32} (gx : xin x 65536) (gl : ln ≤ 80) (h38 : C (38) = .inr (2, [.ref (E.2.1 (39)), .int (nI (ln)), .ref (E.2.1 (40)), .int cc, .int pl, .int nu])) (h39 : C (39) = .inl (E.2.2.1 0, 80, .inl xt)) : xM E l yX2_append wsX2_append 0 0 [.ref (E.2.1 (38)), .int x] C (fun v C1 => (ln = 80 ∧ v = some (.int (-10003)) ∧ C1 = C) ∨ (¬ ln = 80 ∧ v = some (.int (nI (ln + 1))) ∧ C1 (38) = .inr (2, [.ref (E.2.1 (39)), .int (nI (ln + 1)), .ref (E.2.1 (40)), .int cc, .int pl, .int nu]) ∧ C1 (39) = .inl (E.2.2.1 0, 80, .inl (upd xt ln x)) ∧ ∀ i : Nat, ¬ i = 38 → ¬ i = 39 → C1 i = C i)) := by
  refine xM_ofY (cc := cX2_append) (maxL := 2) (ret := (some .int)) (by decide) rfl (Nat.le_of_ble_eq_true rfl) ?_
  intro p e s m args below meth c X hr
  have inX2 : ∀ w ∈ wsX20, w ∈ wsX2_append := by decide +kernel
  refine y_lv [(0, .ref (E.2.1 (38))), (1, .int x)] rfl ?_
  refine y_aload_n X dX2_append_0 0 rfl ?_
  refine y_get X (38) 2 1 (Cn := RX2) (T := TX2) (N := 6) (index := 15) (v := .int (nI (ln))) dX2_append_1 (by omega) h38 rfl (by decide) inX2 (by decide +kernel : Cond.fieldLink RX2 15 "ColumnSeasons$Script" "length" "I" ∈ wsX2_append) rfl rfl ?_
  refine y_bipush X (v := (80)) dX2_append_4 (by decide) ?_
  refine y_icmp_lt X 13 ((ln) < (80)) dX2_append_6 (by decide) (nI_ltI (a := ln) (b := 80) (by omega) (by omega)) (fun c_1 => ?_) (fun c_1 => ?_)
  ·
    refine y_aload_n X dX2_append_13 0 rfl ?_
    refine y_get X (38) 2 0 (Cn := RX2) (T := TX2) (N := 6) (index := 9) (v := .ref (E.2.1 (39))) dX2_append_14 (by omega) h38 rfl (by decide) inX2 (by decide +kernel : Cond.fieldLink RX2 9 "ColumnSeasons$Script" "text" "[C" ∈ wsX2_append) rfl rfl ?_
    refine y_aload_n X dX2_append_17 0 rfl ?_
    refine y_get X (38) 2 1 (Cn := RX2) (T := TX2) (N := 6) (index := 15) (v := .int (nI (ln))) dX2_append_18 (by omega) h38 rfl (by decide) inX2 (by decide +kernel : Cond.fieldLink RX2 15 "ColumnSeasons$Script" "length" "I" ∈ wsX2_append) rfl rfl ?_
    refine y_iload_n X dX2_append_21 1 rfl ?_
    refine y_cast X (39) dX2_append_22 (by omega) h39 (j := ln) rfl (by omega) (by omega) ?_
    refine y_mem (va_up C (39) (.inl (E.2.2.1 0, 80, .inl (upd xt (ln) (vp_nar .char x))))) rfl (fun C_2 eC_3 => ?_)
    have h_4 : C_2 (38) = .inr (2, [.ref (E.2.1 (39)), .int (nI (ln)), .ref (E.2.1 (40)), .int cc, .int pl, .int nu]) := by rw [eC_3, va_up, if_neg (by omega)]; exact h38
    have h_5 : C_2 (39) = .inl (E.2.2.1 0, 80, .inl (upd xt (ln) (vp_nar .char x))) := by rw [eC_3, va_up, if_pos rfl]
    refine y_aload_n X dX2_append_23 0 rfl ?_
    refine y_dup X dX2_append_24 rfl ?_
    refine y_get X (38) 2 1 (Cn := RX2) (T := TX2) (N := 6) (index := 15) (v := .int (nI (ln))) dX2_append_25 (by omega) h_4 rfl (by decide) inX2 (by decide +kernel : Cond.fieldLink RX2 15 "ColumnSeasons$Script" "length" "I" ∈ wsX2_append) rfl rfl ?_
    refine y_iconst X (v := (1)) dX2_append_28 (by decide) ?_
    refine y_iadd X (z := (nI (ln + 1))) dX2_append_29 (nI_add (ln) (1)) ?_
    refine y_put X (38) 2 1 (Cn := RX2) (T := TX2) (N := 6) (index := 15) tyX2 (v := .int (nI (ln + 1))) dX2_append_30 (by omega) h_4 rfl (by decide) inX2 (by decide +kernel : Cond.fieldLink RX2 15 "ColumnSeasons$Script" "length" "I" ∈ wsX2_append) rfl tyX2_ok nmX2 rfl rfl rfl (Nat.le_of_ble_eq_true rfl) ?_
    refine y_mem (va_up C_2 (38) (.inr (2, [.ref (E.2.1 (39)), .int (nI (ln + 1)), .ref (E.2.1 (40)), .int cc, .int pl, .int nu]))) rfl (fun C_6 eC_7 => ?_)
    have h_8 : C_6 (38) = .inr (2, [.ref (E.2.1 (39)), .int (nI (ln + 1)), .ref (E.2.1 (40)), .int cc, .int pl, .int nu]) := by rw [eC_7, va_up, if_pos rfl]
    have h_9 : C_6 (39) = .inl (E.2.2.1 0, 80, .inl (upd xt (ln) (vp_nar .char x))) := by rw [eC_7, va_up, if_neg (by omega)]; exact h_5
    refine y_aload_n X dX2_append_33 0 rfl ?_
    refine y_get X (38) 2 1 (Cn := RX2) (T := TX2) (N := 6) (index := 15) (v := .int (nI (ln + 1))) dX2_append_34 (by omega) h_8 rfl (by decide) inX2 (by decide +kernel : Cond.fieldLink RX2 15 "ColumnSeasons$Script" "length" "I" ∈ wsX2_append) rfl rfl ?_
    exact y_iret X hr dX2_append_37 rfl (Or.inr ⟨by omega, rfl, h_8, (by rw [vp_char gx] at h_9; exact h_9), (fun i9 g9 g8 => by rw [eC_7, va_up, if_neg (by omega)]; rw [eC_3, va_up, if_neg (by omega)])⟩)
  ·
    refine y_sipush X (v := (-10003)) dX2_append_9 (by decide) ?_
    exact y_iret X hr dX2_append_12 rfl (Or.inl ⟨by omega, rfl, rfl⟩)

set_option maxRecDepth 100000 in
set_option maxHeartbeats 4000000 in
theorem c_X4_type {l : Launch} {E : xE} {C : xC} {T : Tb} {hh : Nat → Tb} {hn : Nat} {sn : Option Tb} {tx : Nat → Int32} {ln : Nat} {sp : Option (Nat × Int32)} (gC : CX E C T hh hn sn tx ln sp) (gW : WX T hh hn sn tx ln sp) {x : Int32} (gx : xin x 65536) : xM E l yX4_type wsX4_type 1 21 [.ref (E.2.1 (0)), .int x] C (fun v C1 => v = some (.int (if ln = 80 then -10003 else nI (ln + 1))) ∧ CX E C1 (T) (hh) (hn) (sn) (if ln = 80 then tx else upd tx ln x) (if ln = 80 then ln else ln + 1) (sp) ∧ (∀ i : Nat, 61 ≤ i → C1 i = C i)) := by
  obtain ⟨o, gO⟩ := id gC
  obtain ⟨sl, cm, xt, cc, pl, nu, h0, h6, h7, h38, h39, h40, go5, gSL, gCM, gT, gRG, gSN0, gSN, gTX, gCD⟩ := id gO
  obtain ⟨gv, gn4, gWH, gWS, gl80, gch, gsp⟩ := id gW
  have gw := gv.1
  obtain ⟨gw1, gw2, gw3, gw4⟩ := id gv.1
  obtain ⟨zK, zD, zS, zV, h1, -, -, -, -, -⟩ := id gT
  refine xM_ofY (cc := cX4_type) (maxL := 2) (ret := (some .int)) (by decide) rfl (Nat.le_of_ble_eq_true rfl) ?_
  intro p e s m args below meth c X hr
  have inX4 : ∀ w ∈ wsX40, w ∈ wsX4_type := by decide +kernel
  refine y_lv [(0, .ref (E.2.1 (0))), (1, .int x)] rfl ?_
  refine y_aload_n X dX4_type_0 0 rfl ?_
  refine y_get X (0) 4 4 (Cn := RX4) (T := TX4) (N := 7) (index := 33) (v := .ref (E.2.1 (38))) dX4_type_1 (by omega) h0 rfl (by decide) inX4 (by decide +kernel : Cond.fieldLink RX4 33 "ColumnSeasons" "script" "LColumnSeasons$Script;" ∈ wsX4_type) rfl rfl ?_
  refine y_iload_n X dX4_type_4 1 rfl ?_
  refine y_callV X (38) 2 (av := [.int x]) [] 1 (c_X2_append (x := x) gx gl80 h38 h39) (by omega) h38 rfl gX4_type_X2_append rfl (by decide +kernel) rfl ⟨Nat.le_of_ble_eq_true rfl, Nat.le_of_ble_eq_true rfl⟩ ⟨Nat.zero_le _, Nat.zero_le _⟩ (Nat.le_of_ble_eq_true rfl) rfl dX4_type_5 (fun v_1 C_2 hp_3 => ?_)
  rcases hp_3 with ⟨c9, gv9, gc9⟩ | ⟨c9, gv9, gA8, gA9, gAF⟩
  ·
    subst gv9
    subst gc9
    exact y_iret X hr dX4_type_8 rfl (by rw [if_pos c9, if_pos c9, if_pos c9]; exact ⟨rfl, gC, (fun _ _ => rfl)⟩)
  ·
    subst gv9
    have h_4 : C_2 (0) = .inr (4, [.ref (E.2.1 (1)), .ref (E.2.1 (6)), .ref (E.2.1 (33)), .int (flg sn), .ref (E.2.1 (38)), .int (scC sp), .int (seC sp)]) := (gAF _ (by omega) (by omega)).trans h0
    have h_5 : C_2 (1) = .inr (3, [.int (nI (tn T)), .ref (E.2.1 (1 + 1)), .ref (E.2.1 (1 + 2)), .int (nI (tr T)), .ref (E.2.1 (1 + 3)), .ref (E.2.1 (1 + 4))]) := (gAF _ (by omega) (by omega)).trans h1
    have h_6 : C_2 (6) = .inr (1, [.ref (E.2.1 (7)), .int (nI (o)), .int (nI (hn))]) := (gAF _ (by omega) (by omega)).trans h6
    have h_7 : C_2 (7) = .inl (E.2.2.1 3, 5, .inr (.inr (.inr (.inr sl)))) := (gAF _ (by omega) (by omega)).trans h7
    have h_8 : C_2 (40) = .inl (E.2.2.1 2, 20, .inr (.inr (.inr (.inr cm)))) := (gAF _ (by omega) (by omega)).trans h40
    exact y_iret X hr dX4_type_8 rfl (by rw [if_neg c9, if_neg c9, if_neg c9]; exact ⟨rfl, CX_mk h_4 h_6 h_7 gA8 gA9 h_8 go5 gSL gCM (RC_same gT (fun i9 g8 g9 => by rw [gAF i9 (by omega) (by omega)])) (RG_same gRG (by omega) (fun i9 _ _ => by rw [gAF i9 (by omega) (by omega)])) (by obtain ⟨S, hS⟩ := gSN0; exact ⟨S, (RC_same hS (fun i9 g8 g9 => by rw [gAF i9 (by omega) (by omega)]))⟩) (fun S hS => (RC_same (gSN S hS) (fun i9 g8 g9 => by rw [gAF i9 (by omega) (by omega)]))) (fun z q1 => by rcases Nat.lt_or_ge z ln with q3 | q3; rw [pk_un (by omega), pk_un (by omega)]; exact gTX z q3; rw [show z = ln by omega, pk_us, pk_us]) gCD (fun i9 _ _ => by rw [gAF i9 (by omega) (by omega)]), (fun i9 g9 => by rw [gAF i9 (by omega) (by omega)])⟩)

set_option maxRecDepth 100000 in
set_option maxHeartbeats 4000000 in
theorem c_X4_clearText {l : Launch} {E : xE} {C : xC} {T : Tb} {hh : Nat → Tb} {hn : Nat} {sn : Option Tb} {tx : Nat → Int32} {ln : Nat} {sp : Option (Nat × Int32)} (gC : CX E C T hh hn sn tx ln sp) (gW : WX T hh hn sn tx ln sp) : xM E l yX4_clearText wsX4_clearText 0 0 [.ref (E.2.1 (0))] C (fun v C1 => v = some (.int (nI ln)) ∧ CX E C1 (T) (hh) (hn) (sn) (tx) (0) (sp) ∧ (∀ i : Nat, 61 ≤ i → C1 i = C i)) := by
  obtain ⟨o, gO⟩ := id gC
  obtain ⟨sl, cm, xt, cc, pl, nu, h0, h6, h7, h38, h39, h40, go5, gSL, gCM, gT, gRG, gSN0, gSN, gTX, gCD⟩ := id gO
  obtain ⟨gv, gn4, gWH, gWS, gl80, gch, gsp⟩ := id gW
  have gw := gv.1
  obtain ⟨gw1, gw2, gw3, gw4⟩ := id gv.1
  obtain ⟨zK, zD, zS, zV, h1, -, -, -, -, -⟩ := id gT
  refine xM_ofY (cc := cX4_clearText) (maxL := 2) (ret := (some .int)) (by decide) rfl (Nat.le_of_ble_eq_true rfl) ?_
  intro p e s m args below meth c X hr
  have inX2 : ∀ w ∈ wsX20, w ∈ wsX4_clearText := by decide +kernel
  have inX4 : ∀ w ∈ wsX40, w ∈ wsX4_clearText := by decide +kernel
  refine y_lv [(0, .ref (E.2.1 (0)))] rfl ?_
  refine y_aload_n X dX4_clearText_0 0 rfl ?_
  refine y_get X (0) 4 4 (Cn := RX4) (T := TX4) (N := 7) (index := 33) (v := .ref (E.2.1 (38))) dX4_clearText_1 (by omega) h0 rfl (by decide) inX4 (by decide +kernel : Cond.fieldLink RX4 33 "ColumnSeasons" "script" "LColumnSeasons$Script;" ∈ wsX4_clearText) rfl rfl ?_
  refine y_getN X (38) 2 1 (Cn := RX2) (T := TX2) (N := 6) (index := 83) (v := .int (nI (ln))) dX4_clearText_4 (by omega) h38 rfl (by decide) inX2 (by decide +kernel : Cond.fieldLinkNest RX4 83 "ColumnSeasons$Script" "length" "I" "ColumnSeasons" ∈ xnest) rfl rfl ?_
  refine y_istore_n X [(1, .int (nI (ln))), (0, .ref (E.2.1 (0)))] dX4_clearText_7 rfl (by decide) rfl ?_
  refine y_aload_n X dX4_clearText_8 1 rfl ?_
  refine y_get X (0) 4 4 (Cn := RX4) (T := TX4) (N := 7) (index := 33) (v := .ref (E.2.1 (38))) dX4_clearText_9 (by omega) h0 rfl (by decide) inX4 (by decide +kernel : Cond.fieldLink RX4 33 "ColumnSeasons" "script" "LColumnSeasons$Script;" ∈ wsX4_clearText) rfl rfl ?_
  refine y_iconst X (v := (0)) dX4_clearText_12 (by decide) ?_
  refine y_putN X (38) 2 1 (Cn := RX2) (T := TX2) (N := 6) (index := 83) tyX2 (v := .int (0)) dX4_clearText_13 (by omega) h38 rfl (by decide) inX2 (by decide +kernel : Cond.fieldLinkNest RX4 83 "ColumnSeasons$Script" "length" "I" "ColumnSeasons" ∈ xnest) rfl tyX2_ok nmX2 rfl rfl rfl (Nat.le_of_ble_eq_true rfl) ?_
  refine y_mem (va_up C (38) (.inr (2, [.ref (E.2.1 (39)), .int (0), .ref (E.2.1 (40)), .int cc, .int pl, .int nu]))) rfl (fun C_1 eC_2 => ?_)
  have h_3 : C_1 (0) = .inr (4, [.ref (E.2.1 (1)), .ref (E.2.1 (6)), .ref (E.2.1 (33)), .int (flg sn), .ref (E.2.1 (38)), .int (scC sp), .int (seC sp)]) := by rw [eC_2, va_up, if_neg (by omega)]; exact h0
  have h_4 : C_1 (1) = .inr (3, [.int (nI (tn T)), .ref (E.2.1 (1 + 1)), .ref (E.2.1 (1 + 2)), .int (nI (tr T)), .ref (E.2.1 (1 + 3)), .ref (E.2.1 (1 + 4))]) := by rw [eC_2, va_up, if_neg (by omega)]; exact h1
  have h_5 : C_1 (6) = .inr (1, [.ref (E.2.1 (7)), .int (nI (o)), .int (nI (hn))]) := by rw [eC_2, va_up, if_neg (by omega)]; exact h6
  have h_6 : C_1 (38) = .inr (2, [.ref (E.2.1 (39)), .int (0), .ref (E.2.1 (40)), .int cc, .int pl, .int nu]) := by rw [eC_2, va_up, if_pos rfl]
  have h_7 : C_1 (7) = .inl (E.2.2.1 3, 5, .inr (.inr (.inr (.inr sl)))) := by rw [eC_2, va_up, if_neg (by omega)]; exact h7
  have h_8 : C_1 (39) = .inl (E.2.2.1 0, 80, .inl xt) := by rw [eC_2, va_up, if_neg (by omega)]; exact h39
  have h_9 : C_1 (40) = .inl (E.2.2.1 2, 20, .inr (.inr (.inr (.inr cm)))) := by rw [eC_2, va_up, if_neg (by omega)]; exact h40
  refine y_iload_n X dX4_clearText_16 0 rfl ?_
  exact y_iret X hr dX4_clearText_17 rfl ⟨rfl, CX_mk h_3 h_5 h_7 h_6 h_8 h_9 go5 gSL gCM (RC_same gT (fun i9 g8 g9 => by rw [eC_2, va_up, if_neg (by omega)])) (RG_same gRG (by omega) (fun i9 _ _ => by rw [eC_2, va_up, if_neg (by omega)])) (by obtain ⟨S, hS⟩ := gSN0; exact ⟨S, (RC_same hS (fun i9 g8 g9 => by rw [eC_2, va_up, if_neg (by omega)]))⟩) (fun S hS => (RC_same (gSN S hS) (fun i9 g8 g9 => by rw [eC_2, va_up, if_neg (by omega)]))) (fun z q1 => absurd q1 (Nat.not_lt_zero _)) gCD (fun i9 _ _ => by rw [eC_2, va_up, if_neg (by omega)]), (fun i9 g9 => by rw [eC_2, va_up, if_neg (by omega)])⟩
