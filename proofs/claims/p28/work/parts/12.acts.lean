set_option maxRecDepth 100000 in
set_option maxHeartbeats 4000000 in
theorem c_X3_beginSeasonWith {l : Launch} {E : xE} {C : xC} {b : Nat} {T : Tb} (gb : b + 4 < 61) (gT : RC E C b T) (gw : WB T) {j : Nat} {k0 d0 : Int32} (gj : j < 8) (gm : tn T < 30) : xM E l yX3_beginSeasonWith wsX3_beginSeasonWith 1 40 [.ref (E.2.1 (b)), .int (nI (j)), .int k0, .int d0] C (fun v C1 => v = some (.int (nI (tn T))) ∧ RC E C1 b (bgn T j k0 d0) ∧ (∀ i : Nat, (i < b ∨ b + 4 < i) → C1 i = C i)) := by
  obtain ⟨zK, zD, zS, zV, h0, h1, h2, h3, h4, gK, gD, gS, gV⟩ := id gT
  obtain ⟨gw1, gw2, gw3, gw4⟩ := id gw
  refine xM_ofY (cc := cX3_beginSeasonWith) (maxL := 6) (ret := (some .int)) (by decide) rfl (Nat.le_of_ble_eq_true rfl) ?_
  intro p e s m args below meth c X hr
  have inX3 : ∀ w ∈ wsX30, w ∈ wsX3_beginSeasonWith := by decide +kernel
  refine y_lv [(0, .ref (E.2.1 (b))), (1, .int (nI (j))), (2, .int k0), (3, .int d0)] rfl ?_
  refine y_aload_n X dX3_beginSeasonWith_0 0 rfl ?_
  refine y_callVr X (b) 3 (av := []) [] 0 (c_X3_now (b := b) (n := tn T) (by omega) (by omega) h0) (by omega) h0 rfl gX3_beginSeasonWith_X3_now rfl (by decide +kernel) rfl ⟨Nat.le_of_ble_eq_true rfl, Nat.le_of_ble_eq_true rfl⟩ ⟨Nat.zero_le _, Nat.zero_le _⟩ (Nat.le_of_ble_eq_true rfl) rfl dX3_beginSeasonWith_1 ?_
  refine y_bipush X (v := (8)) dX3_beginSeasonWith_4 (by decide) ?_
  refine y_imul X (z := (nI (((tn T) - 1) * (8)))) dX3_beginSeasonWith_6 (pk_mul ((tn T) - 1) (8)) ?_
  refine y_istore X [(4, .int (nI (((tn T) - 1) * (8)))), (0, .ref (E.2.1 (b))), (1, .int (nI (j))), (2, .int k0), (3, .int d0)] dX3_beginSeasonWith_7 (by decide) rfl ?_
  refine y_iload X dX3_beginSeasonWith_9 0 rfl ?_
  refine y_bipush X (v := (8)) dX3_beginSeasonWith_11 (by decide) ?_
  refine y_iadd X (z := (nI (((tn T) - 1) * (8) + 8))) dX3_beginSeasonWith_13 (nI_add (((tn T) - 1) * (8)) (8)) ?_
  refine y_istore X [(5, .int (nI (((tn T) - 1) * (8) + 8))), (4, .int (nI (((tn T) - 1) * (8)))), (0, .ref (E.2.1 (b))), (1, .int (nI (j))), (2, .int k0), (3, .int d0)] dX3_beginSeasonWith_14 (by decide) rfl ?_
  refine y_aload_n X dX3_beginSeasonWith_16 2 rfl ?_
  refine y_get X (b) 3 1 (Cn := RX3) (T := TX3) (N := 6) (index := 15) (v := .ref (E.2.1 (b + 1))) dX3_beginSeasonWith_17 (by omega) h0 rfl (by decide) inX3 (by decide +kernel : Cond.fieldLink RX3 15 "ColumnSeasons$Table" "kinds" "[I" ∈ wsX3_beginSeasonWith) rfl rfl ?_
  refine y_iload X dX3_beginSeasonWith_20 1 rfl ?_
  refine y_aload_n X dX3_beginSeasonWith_22 2 rfl ?_
  refine y_get X (b) 3 1 (Cn := RX3) (T := TX3) (N := 6) (index := 15) (v := .ref (E.2.1 (b + 1))) dX3_beginSeasonWith_23 (by omega) h0 rfl (by decide) inX3 (by decide +kernel : Cond.fieldLink RX3 15 "ColumnSeasons$Table" "kinds" "[I" ∈ wsX3_beginSeasonWith) rfl rfl ?_
  refine y_iload X dX3_beginSeasonWith_26 0 rfl ?_
  refine y_bipush X (v := (8)) dX3_beginSeasonWith_28 (by decide) ?_
  refine y_copyi X (b + 1) (b + 1) (sp := ((tn T) - 1) * (8)) (dp := ((tn T) - 1) * (8) + 8) (n := 8) dX3_beginSeasonWith_30 (by decide +kernel) (by decide +kernel) (by decide +kernel) (by decide +kernel) (by omega) (by omega) h1 h1 rfl rfl rfl (by omega) (by omega) (by omega) (by omega) (Nat.le_of_ble_eq_true rfl) (Nat.le_of_ble_eq_true rfl) ?_
  refine y_mem (va_up C (b + 1) (.inl (E.2.2.1 1, 240, .inl (va_cpy zK zK (((tn T) - 1) * (8)) (((tn T) - 1) * (8) + 8) (8))))) rfl (fun C_1 eC_2 => ?_)
  have h_3 : C_1 (b) = .inr (3, [.int (nI (tn T)), .ref (E.2.1 (b + 1)), .ref (E.2.1 (b + 2)), .int (nI (tr T)), .ref (E.2.1 (b + 3)), .ref (E.2.1 (b + 4))]) := by rw [eC_2, va_up, if_neg (by omega)]; exact h0
  have h_4 : C_1 (b + 1) = .inl (E.2.2.1 1, 240, .inl (va_cpy zK zK (((tn T) - 1) * (8)) (((tn T) - 1) * (8) + 8) (8))) := by rw [eC_2, va_up, if_pos rfl]
  have h_5 : C_1 (b + 2) = .inl (E.2.2.1 1, 240, .inl zD) := by rw [eC_2, va_up, if_neg (by omega)]; exact h2
  have h_6 : C_1 (b + 3) = .inl (E.2.2.1 1, 24, .inl zS) := by rw [eC_2, va_up, if_neg (by omega)]; exact h3
  have h_7 : C_1 (b + 4) = .inl (E.2.2.1 1, 192, .inl zV) := by rw [eC_2, va_up, if_neg (by omega)]; exact h4
  refine y_aload_n X dX3_beginSeasonWith_33 2 rfl ?_
  refine y_get X (b) 3 2 (Cn := RX3) (T := TX3) (N := 6) (index := 19) (v := .ref (E.2.1 (b + 2))) dX3_beginSeasonWith_34 (by omega) h_3 rfl (by decide) inX3 (by decide +kernel : Cond.fieldLink RX3 19 "ColumnSeasons$Table" "standards" "[I" ∈ wsX3_beginSeasonWith) rfl rfl ?_
  refine y_iload X dX3_beginSeasonWith_37 1 rfl ?_
  refine y_aload_n X dX3_beginSeasonWith_39 2 rfl ?_
  refine y_get X (b) 3 2 (Cn := RX3) (T := TX3) (N := 6) (index := 19) (v := .ref (E.2.1 (b + 2))) dX3_beginSeasonWith_40 (by omega) h_3 rfl (by decide) inX3 (by decide +kernel : Cond.fieldLink RX3 19 "ColumnSeasons$Table" "standards" "[I" ∈ wsX3_beginSeasonWith) rfl rfl ?_
  refine y_iload X dX3_beginSeasonWith_43 0 rfl ?_
  refine y_bipush X (v := (8)) dX3_beginSeasonWith_45 (by decide) ?_
  refine y_copyi X (b + 2) (b + 2) (sp := ((tn T) - 1) * (8)) (dp := ((tn T) - 1) * (8) + 8) (n := 8) dX3_beginSeasonWith_47 (by decide +kernel) (by decide +kernel) (by decide +kernel) (by decide +kernel) (by omega) (by omega) h_5 h_5 rfl rfl rfl (by omega) (by omega) (by omega) (by omega) (Nat.le_of_ble_eq_true rfl) (Nat.le_of_ble_eq_true rfl) ?_
  refine y_mem (va_up C_1 (b + 2) (.inl (E.2.2.1 1, 240, .inl (va_cpy zD zD (((tn T) - 1) * (8)) (((tn T) - 1) * (8) + 8) (8))))) rfl (fun C_8 eC_9 => ?_)
  have h_10 : C_8 (b) = .inr (3, [.int (nI (tn T)), .ref (E.2.1 (b + 1)), .ref (E.2.1 (b + 2)), .int (nI (tr T)), .ref (E.2.1 (b + 3)), .ref (E.2.1 (b + 4))]) := by rw [eC_9, va_up, if_neg (by omega)]; exact h_3
  have h_11 : C_8 (b + 1) = .inl (E.2.2.1 1, 240, .inl (va_cpy zK zK (((tn T) - 1) * (8)) (((tn T) - 1) * (8) + 8) (8))) := by rw [eC_9, va_up, if_neg (by omega)]; exact h_4
  have h_12 : C_8 (b + 2) = .inl (E.2.2.1 1, 240, .inl (va_cpy zD zD (((tn T) - 1) * (8)) (((tn T) - 1) * (8) + 8) (8))) := by rw [eC_9, va_up, if_pos rfl]
  have h_13 : C_8 (b + 3) = .inl (E.2.2.1 1, 24, .inl zS) := by rw [eC_9, va_up, if_neg (by omega)]; exact h_6
  have h_14 : C_8 (b + 4) = .inl (E.2.2.1 1, 192, .inl zV) := by rw [eC_9, va_up, if_neg (by omega)]; exact h_7
  refine y_aload_n X dX3_beginSeasonWith_50 2 rfl ?_
  refine y_get X (b) 3 1 (Cn := RX3) (T := TX3) (N := 6) (index := 15) (v := .ref (E.2.1 (b + 1))) dX3_beginSeasonWith_51 (by omega) h_10 rfl (by decide) inX3 (by decide +kernel : Cond.fieldLink RX3 15 "ColumnSeasons$Table" "kinds" "[I" ∈ wsX3_beginSeasonWith) rfl rfl ?_
  refine y_iload X dX3_beginSeasonWith_54 0 rfl ?_
  refine y_iload_n X dX3_beginSeasonWith_56 3 rfl ?_
  refine y_iadd X (z := (nI (((tn T) - 1) * (8) + 8 + j))) dX3_beginSeasonWith_57 (nI_add (((tn T) - 1) * (8) + 8) (j)) ?_
  refine y_iload_n X dX3_beginSeasonWith_58 4 rfl ?_
  refine y_iast X (b + 1) dX3_beginSeasonWith_59 (by omega) h_11 (j := ((tn T) - 1) * (8) + 8 + j) rfl (by omega) (by omega) ?_
  refine y_mem (va_up C_8 (b + 1) (.inl (E.2.2.1 1, 240, .inl (upd (va_cpy zK zK (((tn T) - 1) * (8)) (((tn T) - 1) * (8) + 8) (8)) (((tn T) - 1) * (8) + 8 + j) k0)))) rfl (fun C_15 eC_16 => ?_)
  have h_17 : C_15 (b) = .inr (3, [.int (nI (tn T)), .ref (E.2.1 (b + 1)), .ref (E.2.1 (b + 2)), .int (nI (tr T)), .ref (E.2.1 (b + 3)), .ref (E.2.1 (b + 4))]) := by rw [eC_16, va_up, if_neg (by omega)]; exact h_10
  have h_18 : C_15 (b + 1) = .inl (E.2.2.1 1, 240, .inl (upd (va_cpy zK zK (((tn T) - 1) * (8)) (((tn T) - 1) * (8) + 8) (8)) (((tn T) - 1) * (8) + 8 + j) k0)) := by rw [eC_16, va_up, if_pos rfl]
  have h_19 : C_15 (b + 2) = .inl (E.2.2.1 1, 240, .inl (va_cpy zD zD (((tn T) - 1) * (8)) (((tn T) - 1) * (8) + 8) (8))) := by rw [eC_16, va_up, if_neg (by omega)]; exact h_12
  have h_20 : C_15 (b + 3) = .inl (E.2.2.1 1, 24, .inl zS) := by rw [eC_16, va_up, if_neg (by omega)]; exact h_13
  have h_21 : C_15 (b + 4) = .inl (E.2.2.1 1, 192, .inl zV) := by rw [eC_16, va_up, if_neg (by omega)]; exact h_14
  refine y_aload_n X dX3_beginSeasonWith_60 2 rfl ?_
  refine y_get X (b) 3 2 (Cn := RX3) (T := TX3) (N := 6) (index := 19) (v := .ref (E.2.1 (b + 2))) dX3_beginSeasonWith_61 (by omega) h_17 rfl (by decide) inX3 (by decide +kernel : Cond.fieldLink RX3 19 "ColumnSeasons$Table" "standards" "[I" ∈ wsX3_beginSeasonWith) rfl rfl ?_
  refine y_iload X dX3_beginSeasonWith_64 0 rfl ?_
  refine y_iload_n X dX3_beginSeasonWith_66 3 rfl ?_
  refine y_iadd X (z := (nI (((tn T) - 1) * (8) + 8 + j))) dX3_beginSeasonWith_67 (nI_add (((tn T) - 1) * (8) + 8) (j)) ?_
  refine y_iload_n X dX3_beginSeasonWith_68 5 rfl ?_
  refine y_iast X (b + 2) dX3_beginSeasonWith_69 (by omega) h_19 (j := ((tn T) - 1) * (8) + 8 + j) rfl (by omega) (by omega) ?_
  refine y_mem (va_up C_15 (b + 2) (.inl (E.2.2.1 1, 240, .inl (upd (va_cpy zD zD (((tn T) - 1) * (8)) (((tn T) - 1) * (8) + 8) (8)) (((tn T) - 1) * (8) + 8 + j) d0)))) rfl (fun C_22 eC_23 => ?_)
  have h_24 : C_22 (b) = .inr (3, [.int (nI (tn T)), .ref (E.2.1 (b + 1)), .ref (E.2.1 (b + 2)), .int (nI (tr T)), .ref (E.2.1 (b + 3)), .ref (E.2.1 (b + 4))]) := by rw [eC_23, va_up, if_neg (by omega)]; exact h_17
  have h_25 : C_22 (b + 1) = .inl (E.2.2.1 1, 240, .inl (upd (va_cpy zK zK (((tn T) - 1) * (8)) (((tn T) - 1) * (8) + 8) (8)) (((tn T) - 1) * (8) + 8 + j) k0)) := by rw [eC_23, va_up, if_neg (by omega)]; exact h_18
  have h_26 : C_22 (b + 2) = .inl (E.2.2.1 1, 240, .inl (upd (va_cpy zD zD (((tn T) - 1) * (8)) (((tn T) - 1) * (8) + 8) (8)) (((tn T) - 1) * (8) + 8 + j) d0)) := by rw [eC_23, va_up, if_pos rfl]
  have h_27 : C_22 (b + 3) = .inl (E.2.2.1 1, 24, .inl zS) := by rw [eC_23, va_up, if_neg (by omega)]; exact h_20
  have h_28 : C_22 (b + 4) = .inl (E.2.2.1 1, 192, .inl zV) := by rw [eC_23, va_up, if_neg (by omega)]; exact h_21
  refine y_aload_n X dX3_beginSeasonWith_70 2 rfl ?_
  refine y_dup X dX3_beginSeasonWith_71 rfl ?_
  refine y_get X (b) 3 0 (Cn := RX3) (T := TX3) (N := 6) (index := 9) (v := .int (nI (tn T))) dX3_beginSeasonWith_72 (by omega) h_24 rfl (by decide) inX3 (by decide +kernel : Cond.fieldLink RX3 9 "ColumnSeasons$Table" "seasons" "I" ∈ wsX3_beginSeasonWith) rfl rfl ?_
  refine y_iconst X (v := (1)) dX3_beginSeasonWith_75 (by decide) ?_
  refine y_iadd X (z := (nI (tn T + 1))) dX3_beginSeasonWith_76 (nI_add (tn T) (1)) ?_
  refine y_put X (b) 3 0 (Cn := RX3) (T := TX3) (N := 6) (index := 9) tyX3 (v := .int (nI (tn T + 1))) dX3_beginSeasonWith_77 (by omega) h_24 rfl (by decide) inX3 (by decide +kernel : Cond.fieldLink RX3 9 "ColumnSeasons$Table" "seasons" "I" ∈ wsX3_beginSeasonWith) rfl tyX3_ok nmX3 rfl rfl rfl (Nat.le_of_ble_eq_true rfl) ?_
  refine y_mem (va_up C_22 (b) (.inr (3, [.int (nI (tn T + 1)), .ref (E.2.1 (b + 1)), .ref (E.2.1 (b + 2)), .int (nI (tr T)), .ref (E.2.1 (b + 3)), .ref (E.2.1 (b + 4))]))) rfl (fun C_29 eC_30 => ?_)
  have h_31 : C_29 (b) = .inr (3, [.int (nI (tn T + 1)), .ref (E.2.1 (b + 1)), .ref (E.2.1 (b + 2)), .int (nI (tr T)), .ref (E.2.1 (b + 3)), .ref (E.2.1 (b + 4))]) := by rw [eC_30, va_up, if_pos rfl]
  have h_32 : C_29 (b + 1) = .inl (E.2.2.1 1, 240, .inl (upd (va_cpy zK zK (((tn T) - 1) * (8)) (((tn T) - 1) * (8) + 8) (8)) (((tn T) - 1) * (8) + 8 + j) k0)) := by rw [eC_30, va_up, if_neg (by omega)]; exact h_25
  have h_33 : C_29 (b + 2) = .inl (E.2.2.1 1, 240, .inl (upd (va_cpy zD zD (((tn T) - 1) * (8)) (((tn T) - 1) * (8) + 8) (8)) (((tn T) - 1) * (8) + 8 + j) d0)) := by rw [eC_30, va_up, if_neg (by omega)]; exact h_26
  have h_34 : C_29 (b + 3) = .inl (E.2.2.1 1, 24, .inl zS) := by rw [eC_30, va_up, if_neg (by omega)]; exact h_27
  have h_35 : C_29 (b + 4) = .inl (E.2.2.1 1, 192, .inl zV) := by rw [eC_30, va_up, if_neg (by omega)]; exact h_28
  refine y_aload_n X dX3_beginSeasonWith_80 2 rfl ?_
  refine y_callVr X (b) 3 (av := []) [] 0 (c_X3_now (b := b) (n := tn T + 1) (by omega) (by omega) h_31) (by omega) h_31 rfl gX3_beginSeasonWith_X3_now rfl (by decide +kernel) rfl ⟨Nat.le_of_ble_eq_true rfl, Nat.le_of_ble_eq_true rfl⟩ ⟨Nat.zero_le _, Nat.zero_le _⟩ (Nat.le_of_ble_eq_true rfl) rfl dX3_beginSeasonWith_81 ?_
  exact y_iret X hr dX3_beginSeasonWith_84 rfl ⟨rfl, ⟨_, _, _, _, h_31, h_32, h_33, h_34, h_35, bgnR ⟨gK, gD, gS, gV⟩ gw gj⟩, (fun i9 g9 => by rw [eC_30, va_up, if_neg (by omega)]; rw [eC_23, va_up, if_neg (by omega)]; rw [eC_16, va_up, if_neg (by omega)]; rw [eC_9, va_up, if_neg (by omega)]; rw [eC_2, va_up, if_neg (by omega)])⟩

set_option maxRecDepth 100000 in
set_option maxHeartbeats 4000000 in
theorem c_X3_addColumn {l : Launch} {E : xE} {C : xC} {b : Nat} {T : Tb} (gb : b + 4 < 61) (gT : RC E C b T) (gw : WB T) {x k0 d0 : Int32} : xM E l yX3_addColumn wsX3_addColumn 2 65 [.ref (E.2.1 (b)), .int x, .int k0, .int d0] C (fun v C1 => v = some (.int (sAdd T x k0 d0).1) ∧ RC E C1 b (sAdd T x k0 d0).2 ∧ (∀ i : Nat, (i < b ∨ b + 4 < i) → C1 i = C i)) := by
  obtain ⟨zK, zD, zS, zV, h0, h1, h2, h3, h4, gK, gD, gS, gV⟩ := id gT
  obtain ⟨gw1, gw2, gw3, gw4⟩ := id gw
  refine xM_ofY (cc := cX3_addColumn) (maxL := 4) (ret := (some .int)) (by decide) rfl (Nat.le_of_ble_eq_true rfl) ?_
  intro p e s m args below meth c X hr
  have inX3 : ∀ w ∈ wsX30, w ∈ wsX3_addColumn := by decide +kernel
  refine y_lv [(0, .ref (E.2.1 (b))), (1, .int x), (2, .int k0), (3, .int d0)] rfl ?_
  refine y_iload_n X dX3_addColumn_0 1 rfl ?_
  refine y_callNr X (av := [.int x]) [] 1 (c_X4_isName (x := x)) gX3_addColumn_X4_isName_n43 (by decide +kernel) (by decide +kernel) (by decide +kernel) rfl (by decide +kernel) rfl ⟨Nat.le_of_ble_eq_true rfl, Nat.le_of_ble_eq_true rfl⟩ ⟨Nat.zero_le _, Nat.zero_le _⟩ (Nat.le_of_ble_eq_true rfl) rfl dX3_addColumn_1 ?_
  refine y_if_ne X 11 (xin x 8) dX3_addColumn_4 (by decide) bI_ne (fun c_1 => ?_) (fun c_1 => ?_)
  ·
    obtain ⟨j, gj, gej⟩ := xin_of c_1 (by decide)
    subst gej
    refine y_iload_n X dX3_addColumn_11 2 rfl ?_
    refine y_callNr X (av := [.int k0]) [] 1 (c_X4_isKind (x := k0)) gX3_addColumn_X4_isKind_n47 (by decide +kernel) (by decide +kernel) (by decide +kernel) rfl (by decide +kernel) rfl ⟨Nat.le_of_ble_eq_true rfl, Nat.le_of_ble_eq_true rfl⟩ ⟨Nat.zero_le _, Nat.zero_le _⟩ (Nat.le_of_ble_eq_true rfl) rfl dX3_addColumn_12 ?_
    refine y_if_eq X 26 (¬ (xin k0 3)) dX3_addColumn_15 (by decide) bI_eq (fun c_2 => ?_) (fun c_2 => ?_)
    ·
      refine y_sipush X (v := (-10002)) dX3_addColumn_26 (by decide) ?_
      exact y_iret X hr dX3_addColumn_29 rfl (by have ez : sAdd T (nI j) k0 d0 = ((-10002), T) := (by rw [sAdd, if_pos c_1, if_neg (fun z => c_2 z.1)]); rw [ez]; exact ⟨rfl, gT, fun _ _ => rfl⟩)
    ·
      have c_2 := Decidable.of_not_not c_2
      refine y_iload_n X dX3_addColumn_18 3 rfl ?_
      refine y_iload_n X dX3_addColumn_19 2 rfl ?_
      refine y_callNr X (av := [.int d0, .int k0]) [] 2 (c_X4_isOfKind (x := d0) (y := k0)) gX3_addColumn_X4_isOfKind_n50 (by decide +kernel) (by decide +kernel) (by decide +kernel) rfl (by decide +kernel) rfl ⟨Nat.le_of_ble_eq_true rfl, Nat.le_of_ble_eq_true rfl⟩ ⟨Nat.zero_le _, Nat.zero_le _⟩ (Nat.le_of_ble_eq_true rfl) rfl dX3_addColumn_20 ?_
      refine y_if_ne X 30 (okv d0 k0) dX3_addColumn_23 (by decide) bI_ne (fun c_3 => ?_) (fun c_3 => ?_)
      ·
        refine y_aload_n X dX3_addColumn_30 0 rfl ?_
        refine y_aload_n X dX3_addColumn_31 0 rfl ?_
        refine y_callVr X (b) 3 (av := []) [.ref (E.2.1 (b))] 0 (c_X3_now (b := b) (n := tn T) (by omega) (by omega) h0) (by omega) h0 rfl gX3_addColumn_X3_now rfl (by decide +kernel) rfl ⟨Nat.le_of_ble_eq_true rfl, Nat.le_of_ble_eq_true rfl⟩ ⟨Nat.zero_le _, Nat.zero_le _⟩ (Nat.le_of_ble_eq_true rfl) rfl dX3_addColumn_32 ?_
        refine y_iload_n X dX3_addColumn_35 1 rfl ?_
        refine y_callVr X (b) 3 (av := [.int (nI ((tn T) - 1)), .int (nI (j))]) [] 2 (c_X3_kindIn (b := b) (by omega) gT gw (q := (tn T) - 1) (j := j) (by omega) (by omega)) (by omega) h0 rfl gX3_addColumn_X3_kindIn rfl (by decide +kernel) rfl ⟨Nat.le_of_ble_eq_true rfl, Nat.le_of_ble_eq_true rfl⟩ ⟨Nat.zero_le _, Nat.zero_le _⟩ (Nat.le_of_ble_eq_true rfl) rfl dX3_addColumn_36 ?_
        refine y_iconst X (v := (-1)) dX3_addColumn_39 (by decide) ?_
        refine y_icmp_eq X 47 ((tk T ((tn T) - 1) (j)) = (-1)) dX3_addColumn_40 (by decide) Iff.rfl (fun c_4 => ?_) (fun c_4 => ?_)
        ·
          refine y_aload_n X dX3_addColumn_47 0 rfl ?_
          refine y_get X (b) 3 0 (Cn := RX3) (T := TX3) (N := 6) (index := 9) (v := .int (nI (tn T))) dX3_addColumn_48 (by omega) h0 rfl (by decide) inX3 (by decide +kernel : Cond.fieldLink RX3 9 "ColumnSeasons$Table" "seasons" "I" ∈ wsX3_addColumn) rfl rfl ?_
          refine y_bipush X (v := (30)) dX3_addColumn_51 (by decide) ?_
          refine y_icmp_lt X 60 ((tn T) < (30)) dX3_addColumn_53 (by decide) (nI_ltI (a := tn T) (b := 30) (by omega) (by omega)) (fun c_5 => ?_) (fun c_5 => ?_)
          ·
            refine y_aload_n X dX3_addColumn_60 0 rfl ?_
            refine y_iload_n X dX3_addColumn_61 1 rfl ?_
            refine y_iload_n X dX3_addColumn_62 2 rfl ?_
            refine y_iload_n X dX3_addColumn_63 3 rfl ?_
            refine y_callV X (b) 3 (av := [.int (nI (j)), .int k0, .int d0]) [] 3 (c_X3_beginSeasonWith (b := b) (T := T) (j := j) (k0 := k0) (d0 := d0) (by omega) gT gw (by omega) (by omega)) (by omega) h0 rfl gX3_addColumn_X3_beginSeasonWith rfl (by decide +kernel) rfl ⟨Nat.le_of_ble_eq_true rfl, Nat.le_of_ble_eq_true rfl⟩ ⟨Nat.zero_le _, Nat.zero_le _⟩ (Nat.le_of_ble_eq_true rfl) rfl dX3_addColumn_64 (fun v_6 C_7 hp_8 => ?_)
            obtain ⟨gv, gR, gF⟩ := hp_8
            subst gv
            exact y_iret X hr dX3_addColumn_67 rfl (by have ez : sAdd T (nI j) k0 d0 = ((nI (tn T)), bgn T j k0 d0) := (by rw [sAdd, if_pos c_1, if_pos ⟨c_2, c_3⟩, ix_nI (by omega), if_pos c_4, if_pos c_5]); rw [ez]; exact ⟨rfl, gR, (fun i9 g9 => by rw [gF i9 g9])⟩)
          ·
            refine y_sipush X (v := (-10003)) dX3_addColumn_56 (by decide) ?_
            exact y_iret X hr dX3_addColumn_59 rfl (by have ez : sAdd T (nI j) k0 d0 = ((-10003), T) := (by rw [sAdd, if_pos c_1, if_pos ⟨c_2, c_3⟩, ix_nI (by omega), if_pos c_4, if_neg c_5]); rw [ez]; exact ⟨rfl, gT, fun _ _ => rfl⟩)
        ·
          refine y_sipush X (v := (-10004)) dX3_addColumn_43 (by decide) ?_
          exact y_iret X hr dX3_addColumn_46 rfl (by have ez : sAdd T (nI j) k0 d0 = ((-10004), T) := (by rw [sAdd, if_pos c_1, if_pos ⟨c_2, c_3⟩, ix_nI (by omega), if_neg c_4]); rw [ez]; exact ⟨rfl, gT, fun _ _ => rfl⟩)
      ·
        refine y_sipush X (v := (-10002)) dX3_addColumn_26 (by decide) ?_
        exact y_iret X hr dX3_addColumn_29 rfl (by have ez : sAdd T (nI j) k0 d0 = ((-10002), T) := (by rw [sAdd, if_pos c_1, if_neg (fun z => c_3 z.2)]); rw [ez]; exact ⟨rfl, gT, fun _ _ => rfl⟩)
  ·
    refine y_sipush X (v := (-10001)) dX3_addColumn_7 (by decide) ?_
    exact y_iret X hr dX3_addColumn_10 rfl (by have ez : sAdd T x k0 d0 = ((-10001), T) := (by rw [sAdd, if_neg c_1]); rw [ez]; exact ⟨rfl, gT, fun _ _ => rfl⟩)

set_option maxRecDepth 100000 in
set_option maxHeartbeats 4000000 in
theorem c_X3_dropColumn {l : Launch} {E : xE} {C : xC} {b : Nat} {T : Tb} (gb : b + 4 < 61) (gT : RC E C b T) (gw : WB T) {x : Int32} : xM E l yX3_dropColumn wsX3_dropColumn 2 65 [.ref (E.2.1 (b)), .int x] C (fun v C1 => v = some (.int (sDrop T x).1) ∧ RC E C1 b (sDrop T x).2 ∧ (∀ i : Nat, (i < b ∨ b + 4 < i) → C1 i = C i)) := by
  obtain ⟨zK, zD, zS, zV, h0, h1, h2, h3, h4, gK, gD, gS, gV⟩ := id gT
  obtain ⟨gw1, gw2, gw3, gw4⟩ := id gw
  refine xM_ofY (cc := cX3_dropColumn) (maxL := 2) (ret := (some .int)) (by decide) rfl (Nat.le_of_ble_eq_true rfl) ?_
  intro p e s m args below meth c X hr
  have inX3 : ∀ w ∈ wsX30, w ∈ wsX3_dropColumn := by decide +kernel
  refine y_lv [(0, .ref (E.2.1 (b))), (1, .int x)] rfl ?_
  refine y_iload_n X dX3_dropColumn_0 1 rfl ?_
  refine y_callNr X (av := [.int x]) [] 1 (c_X4_isName (x := x)) gX3_dropColumn_X4_isName_n43 (by decide +kernel) (by decide +kernel) (by decide +kernel) rfl (by decide +kernel) rfl ⟨Nat.le_of_ble_eq_true rfl, Nat.le_of_ble_eq_true rfl⟩ ⟨Nat.zero_le _, Nat.zero_le _⟩ (Nat.le_of_ble_eq_true rfl) rfl dX3_dropColumn_1 ?_
  refine y_if_eq X 20 (¬ (xin x 8)) dX3_dropColumn_4 (by decide) bI_eq (fun c_1 => ?_) (fun c_1 => ?_)
  ·
    refine y_sipush X (v := (-10001)) dX3_dropColumn_20 (by decide) ?_
    exact y_iret X hr dX3_dropColumn_23 rfl (by have ez : sDrop T x = ((-10001), T) := (by rw [sDrop, if_neg (fun z => c_1 z.1)]); rw [ez]; exact ⟨rfl, gT, fun _ _ => rfl⟩)
  ·
    have c_1 := Decidable.of_not_not c_1
    obtain ⟨j, gj, gej⟩ := xin_of c_1 (by decide)
    subst gej
    refine y_aload_n X dX3_dropColumn_7 0 rfl ?_
    refine y_aload_n X dX3_dropColumn_8 0 rfl ?_
    refine y_callVr X (b) 3 (av := []) [.ref (E.2.1 (b))] 0 (c_X3_now (b := b) (n := tn T) (by omega) (by omega) h0) (by omega) h0 rfl gX3_dropColumn_X3_now rfl (by decide +kernel) rfl ⟨Nat.le_of_ble_eq_true rfl, Nat.le_of_ble_eq_true rfl⟩ ⟨Nat.zero_le _, Nat.zero_le _⟩ (Nat.le_of_ble_eq_true rfl) rfl dX3_dropColumn_9 ?_
    refine y_iload_n X dX3_dropColumn_12 1 rfl ?_
    refine y_callVr X (b) 3 (av := [.int (nI ((tn T) - 1)), .int (nI (j))]) [] 2 (c_X3_kindIn (b := b) (by omega) gT gw (q := (tn T) - 1) (j := j) (by omega) (by omega)) (by omega) h0 rfl gX3_dropColumn_X3_kindIn rfl (by decide +kernel) rfl ⟨Nat.le_of_ble_eq_true rfl, Nat.le_of_ble_eq_true rfl⟩ ⟨Nat.zero_le _, Nat.zero_le _⟩ (Nat.le_of_ble_eq_true rfl) rfl dX3_dropColumn_13 ?_
    refine y_iconst X (v := (-1)) dX3_dropColumn_16 (by decide) ?_
    refine y_icmp_ne X 24 (¬ ((tk T ((tn T) - 1) (j)) = (-1))) dX3_dropColumn_17 (by decide) Iff.rfl (fun c_2 => ?_) (fun c_2 => ?_)
    ·
      refine y_aload_n X dX3_dropColumn_24 0 rfl ?_
      refine y_get X (b) 3 0 (Cn := RX3) (T := TX3) (N := 6) (index := 9) (v := .int (nI (tn T))) dX3_dropColumn_25 (by omega) h0 rfl (by decide) inX3 (by decide +kernel : Cond.fieldLink RX3 9 "ColumnSeasons$Table" "seasons" "I" ∈ wsX3_dropColumn) rfl rfl ?_
      refine y_bipush X (v := (30)) dX3_dropColumn_28 (by decide) ?_
      refine y_icmp_lt X 37 ((tn T) < (30)) dX3_dropColumn_30 (by decide) (nI_ltI (a := tn T) (b := 30) (by omega) (by omega)) (fun c_3 => ?_) (fun c_3 => ?_)
      ·
        refine y_aload_n X dX3_dropColumn_37 0 rfl ?_
        refine y_iload_n X dX3_dropColumn_38 1 rfl ?_
        refine y_iconst X (v := (-1)) dX3_dropColumn_39 (by decide) ?_
        refine y_iconst X (v := (0)) dX3_dropColumn_40 (by decide) ?_
        refine y_callV X (b) 3 (av := [.int (nI (j)), .int (-1), .int (0)]) [] 3 (c_X3_beginSeasonWith (b := b) (T := T) (j := j) (k0 := (-1)) (d0 := (0)) (by omega) gT gw (by omega) (by omega)) (by omega) h0 rfl gX3_dropColumn_X3_beginSeasonWith rfl (by decide +kernel) rfl ⟨Nat.le_of_ble_eq_true rfl, Nat.le_of_ble_eq_true rfl⟩ ⟨Nat.zero_le _, Nat.zero_le _⟩ (Nat.le_of_ble_eq_true rfl) rfl dX3_dropColumn_41 (fun v_4 C_5 hp_6 => ?_)
        obtain ⟨gv, gR, gF⟩ := hp_6
        subst gv
        exact y_iret X hr dX3_dropColumn_44 rfl (by have ez : sDrop T (nI j) = ((nI (tn T)), bgn T j (-1) 0) := (by rw [sDrop, if_pos ⟨c_1, by rw [ix_nI (by omega)]; exact c_2⟩, if_pos c_3, ix_nI (by omega)]); rw [ez]; exact ⟨rfl, gR, (fun i9 g9 => by rw [gF i9 g9])⟩)
      ·
        refine y_sipush X (v := (-10003)) dX3_dropColumn_33 (by decide) ?_
        exact y_iret X hr dX3_dropColumn_36 rfl (by have ez : sDrop T (nI j) = ((-10003), T) := (by rw [sDrop, if_pos ⟨c_1, by rw [ix_nI (by omega)]; exact c_2⟩, if_neg c_3]); rw [ez]; exact ⟨rfl, gT, fun _ _ => rfl⟩)
    ·
      have c_2 := Decidable.of_not_not c_2
      refine y_sipush X (v := (-10001)) dX3_dropColumn_20 (by decide) ?_
      exact y_iret X hr dX3_dropColumn_23 rfl (by have ez : sDrop T (nI j) = ((-10001), T) := (by rw [sDrop, if_neg (fun z => z.2 (by rw [ix_nI (by omega)]; exact c_2))]); rw [ez]; exact ⟨rfl, gT, fun _ _ => rfl⟩)

set_option maxRecDepth 100000 in
set_option maxHeartbeats 4000000 in
theorem c_X3_changeKind {l : Launch} {E : xE} {C : xC} {b : Nat} {T : Tb} (gb : b + 4 < 61) (gT : RC E C b T) (gw : WB T) {x k0 : Int32} : xM E l yX3_changeKind wsX3_changeKind 2 65 [.ref (E.2.1 (b)), .int x, .int k0] C (fun v C1 => v = some (.int (sKind T x k0).1) ∧ RC E C1 b (sKind T x k0).2 ∧ (∀ i : Nat, (i < b ∨ b + 4 < i) → C1 i = C i)) := by
  obtain ⟨zK, zD, zS, zV, h0, h1, h2, h3, h4, gK, gD, gS, gV⟩ := id gT
  obtain ⟨gw1, gw2, gw3, gw4⟩ := id gw
  refine xM_ofY (cc := cX3_changeKind) (maxL := 3) (ret := (some .int)) (by decide) rfl (Nat.le_of_ble_eq_true rfl) ?_
  intro p e s m args below meth c X hr
  have inX3 : ∀ w ∈ wsX30, w ∈ wsX3_changeKind := by decide +kernel
  refine y_lv [(0, .ref (E.2.1 (b))), (1, .int x), (2, .int k0)] rfl ?_
  refine y_iload_n X dX3_changeKind_0 1 rfl ?_
  refine y_callNr X (av := [.int x]) [] 1 (c_X4_isName (x := x)) gX3_changeKind_X4_isName_n43 (by decide +kernel) (by decide +kernel) (by decide +kernel) rfl (by decide +kernel) rfl ⟨Nat.le_of_ble_eq_true rfl, Nat.le_of_ble_eq_true rfl⟩ ⟨Nat.zero_le _, Nat.zero_le _⟩ (Nat.le_of_ble_eq_true rfl) rfl dX3_changeKind_1 ?_
  refine y_if_eq X 20 (¬ (xin x 8)) dX3_changeKind_4 (by decide) bI_eq (fun c_1 => ?_) (fun c_1 => ?_)
  ·
    refine y_sipush X (v := (-10001)) dX3_changeKind_20 (by decide) ?_
    exact y_iret X hr dX3_changeKind_23 rfl (by have ez : sKind T x k0 = ((-10001), T) := (by rw [sKind, if_neg (fun z => c_1 z.1)]); rw [ez]; exact ⟨rfl, gT, fun _ _ => rfl⟩)
  ·
    have c_1 := Decidable.of_not_not c_1
    obtain ⟨j, gj, gej⟩ := xin_of c_1 (by decide)
    subst gej
    refine y_aload_n X dX3_changeKind_7 0 rfl ?_
    refine y_aload_n X dX3_changeKind_8 0 rfl ?_
    refine y_callVr X (b) 3 (av := []) [.ref (E.2.1 (b))] 0 (c_X3_now (b := b) (n := tn T) (by omega) (by omega) h0) (by omega) h0 rfl gX3_changeKind_X3_now rfl (by decide +kernel) rfl ⟨Nat.le_of_ble_eq_true rfl, Nat.le_of_ble_eq_true rfl⟩ ⟨Nat.zero_le _, Nat.zero_le _⟩ (Nat.le_of_ble_eq_true rfl) rfl dX3_changeKind_9 ?_
    refine y_iload_n X dX3_changeKind_12 1 rfl ?_
    refine y_callVr X (b) 3 (av := [.int (nI ((tn T) - 1)), .int (nI (j))]) [] 2 (c_X3_kindIn (b := b) (by omega) gT gw (q := (tn T) - 1) (j := j) (by omega) (by omega)) (by omega) h0 rfl gX3_changeKind_X3_kindIn rfl (by decide +kernel) rfl ⟨Nat.le_of_ble_eq_true rfl, Nat.le_of_ble_eq_true rfl⟩ ⟨Nat.zero_le _, Nat.zero_le _⟩ (Nat.le_of_ble_eq_true rfl) rfl dX3_changeKind_13 ?_
    refine y_iconst X (v := (-1)) dX3_changeKind_16 (by decide) ?_
    refine y_icmp_ne X 24 (¬ ((tk T ((tn T) - 1) (j)) = (-1))) dX3_changeKind_17 (by decide) Iff.rfl (fun c_2 => ?_) (fun c_2 => ?_)
    ·
      refine y_iload_n X dX3_changeKind_24 2 rfl ?_
      refine y_callNr X (av := [.int k0]) [] 1 (c_X4_isKind (x := k0)) gX3_changeKind_X4_isKind_n47 (by decide +kernel) (by decide +kernel) (by decide +kernel) rfl (by decide +kernel) rfl ⟨Nat.le_of_ble_eq_true rfl, Nat.le_of_ble_eq_true rfl⟩ ⟨Nat.zero_le _, Nat.zero_le _⟩ (Nat.le_of_ble_eq_true rfl) rfl dX3_changeKind_25 ?_
      refine y_if_ne X 35 (xin k0 3) dX3_changeKind_28 (by decide) bI_ne (fun c_3 => ?_) (fun c_3 => ?_)
      ·
        refine y_aload_n X dX3_changeKind_35 0 rfl ?_
        refine y_get X (b) 3 0 (Cn := RX3) (T := TX3) (N := 6) (index := 9) (v := .int (nI (tn T))) dX3_changeKind_36 (by omega) h0 rfl (by decide) inX3 (by decide +kernel : Cond.fieldLink RX3 9 "ColumnSeasons$Table" "seasons" "I" ∈ wsX3_changeKind) rfl rfl ?_
        refine y_bipush X (v := (30)) dX3_changeKind_39 (by decide) ?_
        refine y_icmp_lt X 48 ((tn T) < (30)) dX3_changeKind_41 (by decide) (nI_ltI (a := tn T) (b := 30) (by omega) (by omega)) (fun c_4 => ?_) (fun c_4 => ?_)
        ·
          refine y_aload_n X dX3_changeKind_48 0 rfl ?_
          refine y_aload_n X dX3_changeKind_49 0 rfl ?_
          refine y_callVr X (b) 3 (av := []) [.ref (E.2.1 (b))] 0 (c_X3_now (b := b) (n := tn T) (by omega) (by omega) h0) (by omega) h0 rfl gX3_changeKind_X3_now rfl (by decide +kernel) rfl ⟨Nat.le_of_ble_eq_true rfl, Nat.le_of_ble_eq_true rfl⟩ ⟨Nat.zero_le _, Nat.zero_le _⟩ (Nat.le_of_ble_eq_true rfl) rfl dX3_changeKind_50 ?_
          refine y_iload_n X dX3_changeKind_53 1 rfl ?_
          refine y_callVr X (b) 3 (av := [.int (nI ((tn T) - 1)), .int (nI (j))]) [] 2 (c_X3_kindIn (b := b) (by omega) gT gw (q := (tn T) - 1) (j := j) (by omega) (by omega)) (by omega) h0 rfl gX3_changeKind_X3_kindIn rfl (by decide +kernel) rfl ⟨Nat.le_of_ble_eq_true rfl, Nat.le_of_ble_eq_true rfl⟩ ⟨Nat.zero_le _, Nat.zero_le _⟩ (Nat.le_of_ble_eq_true rfl) rfl dX3_changeKind_54 ?_
          refine y_iload_n X dX3_changeKind_57 2 rfl ?_
          refine y_icmp_ne X 65 (¬ ((tk T ((tn T) - 1) (j)) = k0)) dX3_changeKind_58 (by decide) Iff.rfl (fun c_5 => ?_) (fun c_5 => ?_)
          ·
            refine y_aload_n X dX3_changeKind_65 0 rfl ?_
            refine y_iload_n X dX3_changeKind_66 1 rfl ?_
            refine y_iload_n X dX3_changeKind_67 2 rfl ?_
            refine y_iload_n X dX3_changeKind_68 2 rfl ?_
            refine y_aload_n X dX3_changeKind_69 0 rfl ?_
            refine y_aload_n X dX3_changeKind_70 0 rfl ?_
            refine y_callVr X (b) 3 (av := []) [.ref (E.2.1 (b)), .int k0, .int k0, .int (nI (j)), .ref (E.2.1 (b))] 0 (c_X3_now (b := b) (n := tn T) (by omega) (by omega) h0) (by omega) h0 rfl gX3_changeKind_X3_now rfl (by decide +kernel) rfl ⟨Nat.le_of_ble_eq_true rfl, Nat.le_of_ble_eq_true rfl⟩ ⟨Nat.zero_le _, Nat.zero_le _⟩ (Nat.le_of_ble_eq_true rfl) rfl dX3_changeKind_71 ?_
            refine y_iload_n X dX3_changeKind_74 1 rfl ?_
            refine y_callVr X (b) 3 (av := [.int (nI ((tn T) - 1)), .int (nI (j))]) [.int k0, .int k0, .int (nI (j)), .ref (E.2.1 (b))] 2 (c_X3_standardIn (b := b) (by omega) gT gw (q := (tn T) - 1) (j := j) (by omega) (by omega)) (by omega) h0 rfl gX3_changeKind_X3_standardIn rfl (by decide +kernel) rfl ⟨Nat.le_of_ble_eq_true rfl, Nat.le_of_ble_eq_true rfl⟩ ⟨Nat.zero_le _, Nat.zero_le _⟩ (Nat.le_of_ble_eq_true rfl) rfl dX3_changeKind_75 ?_
            refine y_callNr X (av := [.int k0, .int (td T ((tn T) - 1) (j))]) [.int k0, .int (nI (j)), .ref (E.2.1 (b))] 2 (c_X4_castTo (x := k0) (y := (td T ((tn T) - 1) (j)))) gX3_changeKind_X4_castTo_n69 (by decide +kernel) (by decide +kernel) (by decide +kernel) rfl (by decide +kernel) rfl ⟨Nat.le_of_ble_eq_true rfl, Nat.le_of_ble_eq_true rfl⟩ ⟨Nat.zero_le _, Nat.zero_le _⟩ (Nat.le_of_ble_eq_true rfl) rfl dX3_changeKind_78 ?_
            refine y_callV X (b) 3 (av := [.int (nI (j)), .int k0, .int (cstC k0 (td T ((tn T) - 1) (j)))]) [] 3 (c_X3_beginSeasonWith (b := b) (T := T) (j := j) (k0 := k0) (d0 := (cstC k0 (td T ((tn T) - 1) (j)))) (by omega) gT gw (by omega) (by omega)) (by omega) h0 rfl gX3_changeKind_X3_beginSeasonWith rfl (by decide +kernel) rfl ⟨Nat.le_of_ble_eq_true rfl, Nat.le_of_ble_eq_true rfl⟩ ⟨Nat.zero_le _, Nat.zero_le _⟩ (Nat.le_of_ble_eq_true rfl) rfl dX3_changeKind_81 (fun v_6 C_7 hp_8 => ?_)
            obtain ⟨gv, gR, gF⟩ := hp_8
            subst gv
            exact y_iret X hr dX3_changeKind_84 rfl (by have ez : sKind T (nI j) k0 = ((nI (tn T)), bgn T j k0 (cstC k0 (td T (tn T - 1) j))) := (by rw [sKind, if_pos ⟨c_1, by rw [ix_nI (by omega)]; exact c_2⟩, if_pos c_3, if_pos c_4, ix_nI (by omega), if_neg c_5]); rw [ez]; exact ⟨rfl, gR, (fun i9 g9 => by rw [gF i9 g9])⟩)
          ·
            have c_5 := Decidable.of_not_not c_5
            refine y_sipush X (v := (-10005)) dX3_changeKind_61 (by decide) ?_
            exact y_iret X hr dX3_changeKind_64 rfl (by have ez : sKind T (nI j) k0 = ((-10005), T) := (by rw [sKind, if_pos ⟨c_1, by rw [ix_nI (by omega)]; exact c_2⟩, if_pos c_3, if_pos c_4, ix_nI (by omega), if_pos c_5]); rw [ez]; exact ⟨rfl, gT, fun _ _ => rfl⟩)
        ·
          refine y_sipush X (v := (-10003)) dX3_changeKind_44 (by decide) ?_
          exact y_iret X hr dX3_changeKind_47 rfl (by have ez : sKind T (nI j) k0 = ((-10003), T) := (by rw [sKind, if_pos ⟨c_1, by rw [ix_nI (by omega)]; exact c_2⟩, if_pos c_3, if_neg c_4]); rw [ez]; exact ⟨rfl, gT, fun _ _ => rfl⟩)
      ·
        refine y_sipush X (v := (-10002)) dX3_changeKind_31 (by decide) ?_
        exact y_iret X hr dX3_changeKind_34 rfl (by have ez : sKind T (nI j) k0 = ((-10002), T) := (by rw [sKind, if_pos ⟨c_1, by rw [ix_nI (by omega)]; exact c_2⟩, if_neg c_3]); rw [ez]; exact ⟨rfl, gT, fun _ _ => rfl⟩)
    ·
      have c_2 := Decidable.of_not_not c_2
      refine y_sipush X (v := (-10001)) dX3_changeKind_20 (by decide) ?_
      exact y_iret X hr dX3_changeKind_23 rfl (by have ez : sKind T (nI j) k0 = ((-10001), T) := (by rw [sKind, if_neg (fun z => z.2 (by rw [ix_nI (by omega)]; exact c_2))]); rw [ez]; exact ⟨rfl, gT, fun _ _ => rfl⟩)

set_option maxRecDepth 100000 in
set_option maxHeartbeats 4000000 in
theorem c_X3_writeRow {l : Launch} {E : xE} {C : xC} {b : Nat} {T : Tb} (gb : b + 4 < 61) (gT : RC E C b T) (gw : WB T) : xM E l yX3_writeRow wsX3_writeRow 1 40 [.ref (E.2.1 (b))] C (fun v C1 => v = some (.int (sRow T).1) ∧ RC E C1 b (sRow T).2 ∧ (∀ i : Nat, (i < b ∨ b + 4 < i) → C1 i = C i)) := by
  obtain ⟨zK, zD, zS, zV, h0, h1, h2, h3, h4, gK, gD, gS, gV⟩ := id gT
  obtain ⟨gw1, gw2, gw3, gw4⟩ := id gw
  refine xM_ofY (cc := cX3_writeRow) (maxL := 1) (ret := (some .int)) (by decide) rfl (Nat.le_of_ble_eq_true rfl) ?_
  intro p e s m args below meth c X hr
  have inX3 : ∀ w ∈ wsX30, w ∈ wsX3_writeRow := by decide +kernel
  refine y_lv [(0, .ref (E.2.1 (b)))] rfl ?_
  refine y_aload_n X dX3_writeRow_0 0 rfl ?_
  refine y_get X (b) 3 3 (Cn := RX3) (T := TX3) (N := 6) (index := 22) (v := .int (nI (tr T))) dX3_writeRow_1 (by omega) h0 rfl (by decide) inX3 (by decide +kernel : Cond.fieldLink RX3 22 "ColumnSeasons$Table" "rows" "I" ∈ wsX3_writeRow) rfl rfl ?_
  refine y_bipush X (v := (24)) dX3_writeRow_4 (by decide) ?_
  refine y_icmp_lt X 13 ((tr T) < (24)) dX3_writeRow_6 (by decide) (nI_ltI (a := tr T) (b := 24) (by omega) (by omega)) (fun c_1 => ?_) (fun c_1 => ?_)
  ·
    refine y_aload_n X dX3_writeRow_13 0 rfl ?_
    refine y_get X (b) 3 2 (Cn := RX3) (T := TX3) (N := 6) (index := 19) (v := .ref (E.2.1 (b + 2))) dX3_writeRow_14 (by omega) h0 rfl (by decide) inX3 (by decide +kernel : Cond.fieldLink RX3 19 "ColumnSeasons$Table" "standards" "[I" ∈ wsX3_writeRow) rfl rfl ?_
    refine y_aload_n X dX3_writeRow_17 0 rfl ?_
    refine y_callVr X (b) 3 (av := []) [.ref (E.2.1 (b + 2))] 0 (c_X3_now (b := b) (n := tn T) (by omega) (by omega) h0) (by omega) h0 rfl gX3_writeRow_X3_now rfl (by decide +kernel) rfl ⟨Nat.le_of_ble_eq_true rfl, Nat.le_of_ble_eq_true rfl⟩ ⟨Nat.zero_le _, Nat.zero_le _⟩ (Nat.le_of_ble_eq_true rfl) rfl dX3_writeRow_18 ?_
    refine y_bipush X (v := (8)) dX3_writeRow_21 (by decide) ?_
    refine y_imul X (z := (nI (((tn T) - 1) * (8)))) dX3_writeRow_23 (pk_mul ((tn T) - 1) (8)) ?_
    refine y_aload_n X dX3_writeRow_24 0 rfl ?_
    refine y_get X (b) 3 5 (Cn := RX3) (T := TX3) (N := 6) (index := 28) (v := .ref (E.2.1 (b + 4))) dX3_writeRow_25 (by omega) h0 rfl (by decide) inX3 (by decide +kernel : Cond.fieldLink RX3 28 "ColumnSeasons$Table" "values" "[I" ∈ wsX3_writeRow) rfl rfl ?_
    refine y_aload_n X dX3_writeRow_28 0 rfl ?_
    refine y_get X (b) 3 3 (Cn := RX3) (T := TX3) (N := 6) (index := 22) (v := .int (nI (tr T))) dX3_writeRow_29 (by omega) h0 rfl (by decide) inX3 (by decide +kernel : Cond.fieldLink RX3 22 "ColumnSeasons$Table" "rows" "I" ∈ wsX3_writeRow) rfl rfl ?_
    refine y_bipush X (v := (8)) dX3_writeRow_32 (by decide) ?_
    refine y_imul X (z := (nI ((tr T) * (8)))) dX3_writeRow_34 (pk_mul (tr T) (8)) ?_
    refine y_bipush X (v := (8)) dX3_writeRow_35 (by decide) ?_
    refine y_copyi X (b + 2) (b + 4) (sp := ((tn T) - 1) * (8)) (dp := (tr T) * (8)) (n := 8) dX3_writeRow_37 (by decide +kernel) (by decide +kernel) (by decide +kernel) (by decide +kernel) (by omega) (by omega) h2 h4 rfl rfl rfl (by omega) (by omega) (by omega) (by omega) (Nat.le_of_ble_eq_true rfl) (Nat.le_of_ble_eq_true rfl) ?_
    refine y_mem (va_up C (b + 4) (.inl (E.2.2.1 1, 192, .inl (va_cpy zD zV (((tn T) - 1) * (8)) ((tr T) * (8)) (8))))) rfl (fun C_2 eC_3 => ?_)
    have h_4 : C_2 (b) = .inr (3, [.int (nI (tn T)), .ref (E.2.1 (b + 1)), .ref (E.2.1 (b + 2)), .int (nI (tr T)), .ref (E.2.1 (b + 3)), .ref (E.2.1 (b + 4))]) := by rw [eC_3, va_up, if_neg (by omega)]; exact h0
    have h_5 : C_2 (b + 1) = .inl (E.2.2.1 1, 240, .inl zK) := by rw [eC_3, va_up, if_neg (by omega)]; exact h1
    have h_6 : C_2 (b + 2) = .inl (E.2.2.1 1, 240, .inl zD) := by rw [eC_3, va_up, if_neg (by omega)]; exact h2
    have h_7 : C_2 (b + 3) = .inl (E.2.2.1 1, 24, .inl zS) := by rw [eC_3, va_up, if_neg (by omega)]; exact h3
    have h_8 : C_2 (b + 4) = .inl (E.2.2.1 1, 192, .inl (va_cpy zD zV (((tn T) - 1) * (8)) ((tr T) * (8)) (8))) := by rw [eC_3, va_up, if_pos rfl]
    refine y_aload_n X dX3_writeRow_40 0 rfl ?_
    refine y_get X (b) 3 4 (Cn := RX3) (T := TX3) (N := 6) (index := 25) (v := .ref (E.2.1 (b + 3))) dX3_writeRow_41 (by omega) h_4 rfl (by decide) inX3 (by decide +kernel : Cond.fieldLink RX3 25 "ColumnSeasons$Table" "rowSeasons" "[I" ∈ wsX3_writeRow) rfl rfl ?_
    refine y_aload_n X dX3_writeRow_44 0 rfl ?_
    refine y_get X (b) 3 3 (Cn := RX3) (T := TX3) (N := 6) (index := 22) (v := .int (nI (tr T))) dX3_writeRow_45 (by omega) h_4 rfl (by decide) inX3 (by decide +kernel : Cond.fieldLink RX3 22 "ColumnSeasons$Table" "rows" "I" ∈ wsX3_writeRow) rfl rfl ?_
    refine y_aload_n X dX3_writeRow_48 0 rfl ?_
    refine y_callVr X (b) 3 (av := []) [.int (nI (tr T)), .ref (E.2.1 (b + 3))] 0 (c_X3_now (b := b) (n := tn T) (by omega) (by omega) h_4) (by omega) h_4 rfl gX3_writeRow_X3_now rfl (by decide +kernel) rfl ⟨Nat.le_of_ble_eq_true rfl, Nat.le_of_ble_eq_true rfl⟩ ⟨Nat.zero_le _, Nat.zero_le _⟩ (Nat.le_of_ble_eq_true rfl) rfl dX3_writeRow_49 ?_
    refine y_iast X (b + 3) dX3_writeRow_52 (by omega) h_7 (j := tr T) rfl (by omega) (by omega) ?_
    refine y_mem (va_up C_2 (b + 3) (.inl (E.2.2.1 1, 24, .inl (upd zS (tr T) (nI ((tn T) - 1)))))) rfl (fun C_9 eC_10 => ?_)
    have h_11 : C_9 (b) = .inr (3, [.int (nI (tn T)), .ref (E.2.1 (b + 1)), .ref (E.2.1 (b + 2)), .int (nI (tr T)), .ref (E.2.1 (b + 3)), .ref (E.2.1 (b + 4))]) := by rw [eC_10, va_up, if_neg (by omega)]; exact h_4
    have h_12 : C_9 (b + 1) = .inl (E.2.2.1 1, 240, .inl zK) := by rw [eC_10, va_up, if_neg (by omega)]; exact h_5
    have h_13 : C_9 (b + 2) = .inl (E.2.2.1 1, 240, .inl zD) := by rw [eC_10, va_up, if_neg (by omega)]; exact h_6
    have h_14 : C_9 (b + 3) = .inl (E.2.2.1 1, 24, .inl (upd zS (tr T) (nI ((tn T) - 1)))) := by rw [eC_10, va_up, if_pos rfl]
    have h_15 : C_9 (b + 4) = .inl (E.2.2.1 1, 192, .inl (va_cpy zD zV (((tn T) - 1) * (8)) ((tr T) * (8)) (8))) := by rw [eC_10, va_up, if_neg (by omega)]; exact h_8
    refine y_aload_n X dX3_writeRow_53 0 rfl ?_
    refine y_dup X dX3_writeRow_54 rfl ?_
    refine y_get X (b) 3 3 (Cn := RX3) (T := TX3) (N := 6) (index := 22) (v := .int (nI (tr T))) dX3_writeRow_55 (by omega) h_11 rfl (by decide) inX3 (by decide +kernel : Cond.fieldLink RX3 22 "ColumnSeasons$Table" "rows" "I" ∈ wsX3_writeRow) rfl rfl ?_
    refine y_iconst X (v := (1)) dX3_writeRow_58 (by decide) ?_
    refine y_iadd X (z := (nI (tr T + 1))) dX3_writeRow_59 (nI_add (tr T) (1)) ?_
    refine y_put X (b) 3 3 (Cn := RX3) (T := TX3) (N := 6) (index := 22) tyX3 (v := .int (nI (tr T + 1))) dX3_writeRow_60 (by omega) h_11 rfl (by decide) inX3 (by decide +kernel : Cond.fieldLink RX3 22 "ColumnSeasons$Table" "rows" "I" ∈ wsX3_writeRow) rfl tyX3_ok nmX3 rfl rfl rfl (Nat.le_of_ble_eq_true rfl) ?_
    refine y_mem (va_up C_9 (b) (.inr (3, [.int (nI (tn T)), .ref (E.2.1 (b + 1)), .ref (E.2.1 (b + 2)), .int (nI (tr T + 1)), .ref (E.2.1 (b + 3)), .ref (E.2.1 (b + 4))]))) rfl (fun C_16 eC_17 => ?_)
    have h_18 : C_16 (b) = .inr (3, [.int (nI (tn T)), .ref (E.2.1 (b + 1)), .ref (E.2.1 (b + 2)), .int (nI (tr T + 1)), .ref (E.2.1 (b + 3)), .ref (E.2.1 (b + 4))]) := by rw [eC_17, va_up, if_pos rfl]
    have h_19 : C_16 (b + 1) = .inl (E.2.2.1 1, 240, .inl zK) := by rw [eC_17, va_up, if_neg (by omega)]; exact h_12
    have h_20 : C_16 (b + 2) = .inl (E.2.2.1 1, 240, .inl zD) := by rw [eC_17, va_up, if_neg (by omega)]; exact h_13
    have h_21 : C_16 (b + 3) = .inl (E.2.2.1 1, 24, .inl (upd zS (tr T) (nI ((tn T) - 1)))) := by rw [eC_17, va_up, if_neg (by omega)]; exact h_14
    have h_22 : C_16 (b + 4) = .inl (E.2.2.1 1, 192, .inl (va_cpy zD zV (((tn T) - 1) * (8)) ((tr T) * (8)) (8))) := by rw [eC_17, va_up, if_neg (by omega)]; exact h_15
    refine y_aload_n X dX3_writeRow_63 0 rfl ?_
    refine y_get X (b) 3 3 (Cn := RX3) (T := TX3) (N := 6) (index := 22) (v := .int (nI (tr T + 1))) dX3_writeRow_64 (by omega) h_18 rfl (by decide) inX3 (by decide +kernel : Cond.fieldLink RX3 22 "ColumnSeasons$Table" "rows" "I" ∈ wsX3_writeRow) rfl rfl ?_
    refine y_iconst X (v := (1)) dX3_writeRow_67 (by decide) ?_
    refine y_isub X (z := (nI ((tr T + 1) - (1)))) dX3_writeRow_68 (pk_sub (a := tr T + 1) (b := 1) (by omega)) ?_
    exact y_iret X hr dX3_writeRow_69 rfl (by have ez : sRow T = (nI (tr T), wrt T) := (by rw [sRow, if_pos c_1]); rw [ez]; exact ⟨rfl, ⟨_, _, _, _, h_18, h_19, h_20, h_21, h_22, wrtR ⟨gK, gD, gS, gV⟩ gw⟩, (fun i9 g9 => by rw [eC_17, va_up, if_neg (by omega)]; rw [eC_10, va_up, if_neg (by omega)]; rw [eC_3, va_up, if_neg (by omega)])⟩)
  ·
    refine y_sipush X (v := (-10003)) dX3_writeRow_9 (by decide) ?_
    exact y_iret X hr dX3_writeRow_12 rfl (by have ez : sRow T = ((-10003), T) := (by rw [sRow, if_neg c_1]); rw [ez]; exact ⟨rfl, gT, fun _ _ => rfl⟩)

set_option maxRecDepth 100000 in
set_option maxHeartbeats 4000000 in
theorem c_X3_changeValue {l : Launch} {E : xE} {C : xC} {b : Nat} {T : Tb} (gb : b + 4 < 61) (gT : RC E C b T) (gw : WB T) {x y v0 : Int32} : xM E l yX3_changeValue wsX3_changeValue 2 44 [.ref (E.2.1 (b)), .int x, .int y, .int v0] C (fun v C1 => v = some (.int (sSet T x y v0).1) ∧ RC E C1 b (sSet T x y v0).2 ∧ (∀ i : Nat, (i < b ∨ b + 4 < i) → C1 i = C i)) := by
  obtain ⟨zK, zD, zS, zV, h0, h1, h2, h3, h4, gK, gD, gS, gV⟩ := id gT
  obtain ⟨gw1, gw2, gw3, gw4⟩ := id gw
  refine xM_ofY (cc := cX3_changeValue) (maxL := 5) (ret := (some .int)) (by decide) rfl (Nat.le_of_ble_eq_true rfl) ?_
  intro p e s m args below meth c X hr
  have inX3 : ∀ w ∈ wsX30, w ∈ wsX3_changeValue := by decide +kernel
  refine y_lv [(0, .ref (E.2.1 (b))), (1, .int x), (2, .int y), (3, .int v0)] rfl ?_
  refine y_aload_n X dX3_changeValue_0 0 rfl ?_
  refine y_iload_n X dX3_changeValue_1 1 rfl ?_
  refine y_callVr X (b) 3 (av := [.int x]) [] 1 (c_X3_isRow (b := b) (by omega) gT gw (x := x)) (by omega) h0 rfl gX3_changeValue_X3_isRow rfl (by decide +kernel) rfl ⟨Nat.le_of_ble_eq_true rfl, Nat.le_of_ble_eq_true rfl⟩ ⟨Nat.zero_le _, Nat.zero_le _⟩ (Nat.le_of_ble_eq_true rfl) rfl dX3_changeValue_2 ?_
  refine y_if_eq X 25 (¬ (xin x (tr T))) dX3_changeValue_5 (by decide) bI_eq (fun c_1 => ?_) (fun c_1 => ?_)
  ·
    refine y_sipush X (v := (-10001)) dX3_changeValue_25 (by decide) ?_
    exact y_iret X hr dX3_changeValue_28 rfl (by have ez : sSet T x y v0 = ((-10001), T) := (by rw [sSet, if_neg (fun z => c_1 z.1.1)]); rw [ez]; exact ⟨rfl, gT, fun _ _ => rfl⟩)
  ·
    have c_1 := Decidable.of_not_not c_1
    obtain ⟨i, gi, gei⟩ := xin_of c_1 (by omega)
    subst gei
    refine y_iload_n X dX3_changeValue_8 2 rfl ?_
    refine y_callNr X (av := [.int y]) [] 1 (c_X4_isName (x := y)) gX3_changeValue_X4_isName_n43 (by decide +kernel) (by decide +kernel) (by decide +kernel) rfl (by decide +kernel) rfl ⟨Nat.le_of_ble_eq_true rfl, Nat.le_of_ble_eq_true rfl⟩ ⟨Nat.zero_le _, Nat.zero_le _⟩ (Nat.le_of_ble_eq_true rfl) rfl dX3_changeValue_9 ?_
    refine y_if_eq X 25 (¬ (xin y 8)) dX3_changeValue_12 (by decide) bI_eq (fun c_2 => ?_) (fun c_2 => ?_)
    ·
      refine y_sipush X (v := (-10001)) dX3_changeValue_25 (by decide) ?_
      exact y_iret X hr dX3_changeValue_28 rfl (by have ez : sSet T (nI i) y v0 = ((-10001), T) := (by rw [sSet, if_neg (fun z => c_2 z.1.2)]); rw [ez]; exact ⟨rfl, gT, fun _ _ => rfl⟩)
    ·
      have c_2 := Decidable.of_not_not c_2
      obtain ⟨j, gj, gej⟩ := xin_of c_2 (by decide)
      subst gej
      refine y_aload_n X dX3_changeValue_15 0 rfl ?_
      refine y_iload_n X dX3_changeValue_16 1 rfl ?_
      refine y_iload_n X dX3_changeValue_17 2 rfl ?_
      refine y_callVr X (b) 3 (av := [.int (nI (i)), .int (nI (j))]) [] 2 (c_X3_kindInRow (b := b) (by omega) gT gw (i := i) (j := j) (by omega) (by omega)) (by omega) h0 rfl gX3_changeValue_X3_kindInRow rfl (by decide +kernel) rfl ⟨Nat.le_of_ble_eq_true rfl, Nat.le_of_ble_eq_true rfl⟩ ⟨Nat.zero_le _, Nat.zero_le _⟩ (Nat.le_of_ble_eq_true rfl) rfl dX3_changeValue_18 ?_
      refine y_iconst X (v := (-1)) dX3_changeValue_21 (by decide) ?_
      refine y_icmp_ne X 29 (¬ ((tk T (ts T (i)) (j)) = (-1))) dX3_changeValue_22 (by decide) Iff.rfl (fun c_3 => ?_) (fun c_3 => ?_)
      ·
        refine y_iload_n X dX3_changeValue_29 3 rfl ?_
        refine y_aload_n X dX3_changeValue_30 0 rfl ?_
        refine y_iload_n X dX3_changeValue_31 1 rfl ?_
        refine y_iload_n X dX3_changeValue_32 2 rfl ?_
        refine y_callVr X (b) 3 (av := [.int (nI (i)), .int (nI (j))]) [.int v0] 2 (c_X3_kindInRow (b := b) (by omega) gT gw (i := i) (j := j) (by omega) (by omega)) (by omega) h0 rfl gX3_changeValue_X3_kindInRow rfl (by decide +kernel) rfl ⟨Nat.le_of_ble_eq_true rfl, Nat.le_of_ble_eq_true rfl⟩ ⟨Nat.zero_le _, Nat.zero_le _⟩ (Nat.le_of_ble_eq_true rfl) rfl dX3_changeValue_33 ?_
        refine y_callNr X (av := [.int v0, .int (tk T (ts T (i)) (j))]) [] 2 (c_X4_isOfKind (x := v0) (y := (tk T (ts T (i)) (j)))) gX3_changeValue_X4_isOfKind_n50 (by decide +kernel) (by decide +kernel) (by decide +kernel) rfl (by decide +kernel) rfl ⟨Nat.le_of_ble_eq_true rfl, Nat.le_of_ble_eq_true rfl⟩ ⟨Nat.zero_le _, Nat.zero_le _⟩ (Nat.le_of_ble_eq_true rfl) rfl dX3_changeValue_36 ?_
        refine y_if_ne X 46 (okv v0 (tk T (ts T (i)) (j))) dX3_changeValue_39 (by decide) bI_ne (fun c_4 => ?_) (fun c_4 => ?_)
        ·
          refine y_aload_n X dX3_changeValue_46 0 rfl ?_
          refine y_iload_n X dX3_changeValue_47 1 rfl ?_
          refine y_iload_n X dX3_changeValue_48 2 rfl ?_
          refine y_callVr X (b) 3 (av := [.int (nI (i)), .int (nI (j))]) [] 2 (c_X3_valueAt (b := b) (by omega) gT gw (i := i) (j := j) (by omega) (by omega) (by assumption)) (by omega) h0 rfl gX3_changeValue_X3_valueAt rfl (by decide +kernel) rfl ⟨Nat.le_of_ble_eq_true rfl, Nat.le_of_ble_eq_true rfl⟩ ⟨Nat.zero_le _, Nat.zero_le _⟩ (Nat.le_of_ble_eq_true rfl) rfl dX3_changeValue_49 ?_
          refine y_istore X [(4, .int (tv T (i) (j))), (0, .ref (E.2.1 (b))), (1, .int (nI (i))), (2, .int (nI (j))), (3, .int v0)] dX3_changeValue_52 (by decide) rfl ?_
          refine y_iload X dX3_changeValue_54 0 rfl ?_
          refine y_iload_n X dX3_changeValue_56 4 rfl ?_
          refine y_icmp_ne X 64 (¬ ((tv T (i) (j)) = v0)) dX3_changeValue_57 (by decide) Iff.rfl (fun c_5 => ?_) (fun c_5 => ?_)
          ·
            refine y_aload_n X dX3_changeValue_64 1 rfl ?_
            refine y_get X (b) 3 5 (Cn := RX3) (T := TX3) (N := 6) (index := 28) (v := .ref (E.2.1 (b + 4))) dX3_changeValue_65 (by omega) h0 rfl (by decide) inX3 (by decide +kernel : Cond.fieldLink RX3 28 "ColumnSeasons$Table" "values" "[I" ∈ wsX3_changeValue) rfl rfl ?_
            refine y_iload_n X dX3_changeValue_68 2 rfl ?_
            refine y_bipush X (v := (8)) dX3_changeValue_69 (by decide) ?_
            refine y_imul X (z := (nI ((i) * (8)))) dX3_changeValue_71 (pk_mul (i) (8)) ?_
            refine y_iload_n X dX3_changeValue_72 3 rfl ?_
            refine y_iadd X (z := (nI ((i) * (8) + j))) dX3_changeValue_73 (nI_add ((i) * (8)) (j)) ?_
            refine y_iload_n X dX3_changeValue_74 4 rfl ?_
            refine y_iast X (b + 4) dX3_changeValue_75 (by omega) h4 (j := (i) * (8) + j) rfl (by omega) (by omega) ?_
            refine y_mem (va_up C (b + 4) (.inl (E.2.2.1 1, 192, .inl (upd zV ((i) * (8) + j) v0)))) rfl (fun C_6 eC_7 => ?_)
            have h_8 : C_6 (b) = .inr (3, [.int (nI (tn T)), .ref (E.2.1 (b + 1)), .ref (E.2.1 (b + 2)), .int (nI (tr T)), .ref (E.2.1 (b + 3)), .ref (E.2.1 (b + 4))]) := by rw [eC_7, va_up, if_neg (by omega)]; exact h0
            have h_9 : C_6 (b + 1) = .inl (E.2.2.1 1, 240, .inl zK) := by rw [eC_7, va_up, if_neg (by omega)]; exact h1
            have h_10 : C_6 (b + 2) = .inl (E.2.2.1 1, 240, .inl zD) := by rw [eC_7, va_up, if_neg (by omega)]; exact h2
            have h_11 : C_6 (b + 3) = .inl (E.2.2.1 1, 24, .inl zS) := by rw [eC_7, va_up, if_neg (by omega)]; exact h3
            have h_12 : C_6 (b + 4) = .inl (E.2.2.1 1, 192, .inl (upd zV ((i) * (8) + j) v0)) := by rw [eC_7, va_up, if_pos rfl]
            refine y_iload X dX3_changeValue_76 0 rfl ?_
            exact y_iret X hr dX3_changeValue_78 rfl (by have ez : sSet T (nI i) (nI j) v0 = (tv T i j, setv T i j v0) := (by rw [sSet, if_pos ⟨⟨c_1, c_2⟩, by rw [ix_nI (by omega), ix_nI (by omega)]; exact c_3⟩, ix_nI (by omega), ix_nI (by omega), if_pos c_4, if_neg c_5]); rw [ez]; exact ⟨rfl, ⟨_, _, _, _, h_8, h_9, h_10, h_11, h_12, setR ⟨gK, gD, gS, gV⟩ (by omega)⟩, (fun i9 g9 => by rw [eC_7, va_up, if_neg (by omega)])⟩)
          ·
            have c_5 := Decidable.of_not_not c_5
            refine y_sipush X (v := (-10005)) dX3_changeValue_60 (by decide) ?_
            exact y_iret X hr dX3_changeValue_63 rfl (by have ez : sSet T (nI i) (nI j) v0 = ((-10005), T) := (by rw [sSet, if_pos ⟨⟨c_1, c_2⟩, by rw [ix_nI (by omega), ix_nI (by omega)]; exact c_3⟩, ix_nI (by omega), ix_nI (by omega), if_pos c_4, if_pos c_5]); rw [ez]; exact ⟨rfl, gT, fun _ _ => rfl⟩)
        ·
          refine y_sipush X (v := (-10002)) dX3_changeValue_42 (by decide) ?_
          exact y_iret X hr dX3_changeValue_45 rfl (by have ez : sSet T (nI i) (nI j) v0 = ((-10002), T) := (by rw [sSet, if_pos ⟨⟨c_1, c_2⟩, by rw [ix_nI (by omega), ix_nI (by omega)]; exact c_3⟩, ix_nI (by omega), ix_nI (by omega), if_neg c_4]); rw [ez]; exact ⟨rfl, gT, fun _ _ => rfl⟩)
      ·
        have c_3 := Decidable.of_not_not c_3
        refine y_sipush X (v := (-10001)) dX3_changeValue_25 (by decide) ?_
        exact y_iret X hr dX3_changeValue_28 rfl (by have ez : sSet T (nI i) (nI j) v0 = ((-10001), T) := (by rw [sSet, if_neg (fun z => z.2 (by rw [ix_nI (by omega), ix_nI (by omega)]; exact c_3))]); rw [ez]; exact ⟨rfl, gT, fun _ _ => rfl⟩)

set_option maxRecDepth 100000 in
set_option maxHeartbeats 4000000 in
theorem c_X3_removeRow {l : Launch} {E : xE} {C : xC} {b : Nat} {T : Tb} (gb : b + 4 < 61) (gT : RC E C b T) (gw : WB T) {x : Int32} : xM E l yX3_removeRow wsX3_removeRow 1 40 [.ref (E.2.1 (b)), .int x] C (fun v C1 => v = some (.int (sRem T x).1) ∧ RC E C1 b (sRem T x).2 ∧ (∀ i : Nat, (i < b ∨ b + 4 < i) → C1 i = C i)) := by
  obtain ⟨zK, zD, zS, zV, h0, h1, h2, h3, h4, gK, gD, gS, gV⟩ := id gT
  obtain ⟨gw1, gw2, gw3, gw4⟩ := id gw
  refine xM_ofY (cc := cX3_removeRow) (maxL := 3) (ret := (some .int)) (by decide) rfl (Nat.le_of_ble_eq_true rfl) ?_
  intro p e s m args below meth c X hr
  have inX3 : ∀ w ∈ wsX30, w ∈ wsX3_removeRow := by decide +kernel
  refine y_lv [(0, .ref (E.2.1 (b))), (1, .int x)] rfl ?_
  refine y_aload_n X dX3_removeRow_0 0 rfl ?_
  refine y_iload_n X dX3_removeRow_1 1 rfl ?_
  refine y_callVr X (b) 3 (av := [.int x]) [] 1 (c_X3_isRow (b := b) (by omega) gT gw (x := x)) (by omega) h0 rfl gX3_removeRow_X3_isRow rfl (by decide +kernel) rfl ⟨Nat.le_of_ble_eq_true rfl, Nat.le_of_ble_eq_true rfl⟩ ⟨Nat.zero_le _, Nat.zero_le _⟩ (Nat.le_of_ble_eq_true rfl) rfl dX3_removeRow_2 ?_
  refine y_if_ne X 12 (xin x (tr T)) dX3_removeRow_5 (by decide) bI_ne (fun c_1 => ?_) (fun c_1 => ?_)
  ·
    obtain ⟨i, gi, gei⟩ := xin_of c_1 (by omega)
    subst gei
    refine y_aload_n X dX3_removeRow_12 0 rfl ?_
    refine y_get X (b) 3 3 (Cn := RX3) (T := TX3) (N := 6) (index := 22) (v := .int (nI (tr T))) dX3_removeRow_13 (by omega) h0 rfl (by decide) inX3 (by decide +kernel : Cond.fieldLink RX3 22 "ColumnSeasons$Table" "rows" "I" ∈ wsX3_removeRow) rfl rfl ?_
    refine y_iload_n X dX3_removeRow_16 1 rfl ?_
    refine y_isub X (z := (nI ((tr T) - (i)))) dX3_removeRow_17 (pk_sub (a := tr T) (b := i) (by omega)) ?_
    refine y_iconst X (v := (1)) dX3_removeRow_18 (by decide) ?_
    refine y_isub X (z := (nI (((tr T) - (i)) - (1)))) dX3_removeRow_19 (pk_sub (a := (tr T) - (i)) (b := 1) (by omega)) ?_
    refine y_istore_n X [(2, .int (nI (((tr T) - (i)) - (1)))), (0, .ref (E.2.1 (b))), (1, .int (nI (i)))] dX3_removeRow_20 rfl (by decide) rfl ?_
    refine y_aload_n X dX3_removeRow_21 1 rfl ?_
    refine y_get X (b) 3 4 (Cn := RX3) (T := TX3) (N := 6) (index := 25) (v := .ref (E.2.1 (b + 3))) dX3_removeRow_22 (by omega) h0 rfl (by decide) inX3 (by decide +kernel : Cond.fieldLink RX3 25 "ColumnSeasons$Table" "rowSeasons" "[I" ∈ wsX3_removeRow) rfl rfl ?_
    refine y_iload_n X dX3_removeRow_25 2 rfl ?_
    refine y_iconst X (v := (1)) dX3_removeRow_26 (by decide) ?_
    refine y_iadd X (z := (nI (i + 1))) dX3_removeRow_27 (nI_add (i) (1)) ?_
    refine y_aload_n X dX3_removeRow_28 1 rfl ?_
    refine y_get X (b) 3 4 (Cn := RX3) (T := TX3) (N := 6) (index := 25) (v := .ref (E.2.1 (b + 3))) dX3_removeRow_29 (by omega) h0 rfl (by decide) inX3 (by decide +kernel : Cond.fieldLink RX3 25 "ColumnSeasons$Table" "rowSeasons" "[I" ∈ wsX3_removeRow) rfl rfl ?_
    refine y_iload_n X dX3_removeRow_32 2 rfl ?_
    refine y_iload_n X dX3_removeRow_33 0 rfl ?_
    refine y_copyi X (b + 3) (b + 3) (sp := i + 1) (dp := i) (n := ((tr T) - (i)) - (1)) dX3_removeRow_34 (by decide +kernel) (by decide +kernel) (by decide +kernel) (by decide +kernel) (by omega) (by omega) h3 h3 rfl rfl rfl (by omega) (by omega) (by omega) (by omega) (Nat.le_of_ble_eq_true rfl) (Nat.le_of_ble_eq_true rfl) ?_
    refine y_mem (va_up C (b + 3) (.inl (E.2.2.1 1, 24, .inl (va_cpy zS zS (i + 1) (i) (((tr T) - (i)) - (1)))))) rfl (fun C_2 eC_3 => ?_)
    have h_4 : C_2 (b) = .inr (3, [.int (nI (tn T)), .ref (E.2.1 (b + 1)), .ref (E.2.1 (b + 2)), .int (nI (tr T)), .ref (E.2.1 (b + 3)), .ref (E.2.1 (b + 4))]) := by rw [eC_3, va_up, if_neg (by omega)]; exact h0
    have h_5 : C_2 (b + 1) = .inl (E.2.2.1 1, 240, .inl zK) := by rw [eC_3, va_up, if_neg (by omega)]; exact h1
    have h_6 : C_2 (b + 2) = .inl (E.2.2.1 1, 240, .inl zD) := by rw [eC_3, va_up, if_neg (by omega)]; exact h2
    have h_7 : C_2 (b + 3) = .inl (E.2.2.1 1, 24, .inl (va_cpy zS zS (i + 1) (i) (((tr T) - (i)) - (1)))) := by rw [eC_3, va_up, if_pos rfl]
    have h_8 : C_2 (b + 4) = .inl (E.2.2.1 1, 192, .inl zV) := by rw [eC_3, va_up, if_neg (by omega)]; exact h4
    refine y_aload_n X dX3_removeRow_37 1 rfl ?_
    refine y_get X (b) 3 5 (Cn := RX3) (T := TX3) (N := 6) (index := 28) (v := .ref (E.2.1 (b + 4))) dX3_removeRow_38 (by omega) h_4 rfl (by decide) inX3 (by decide +kernel : Cond.fieldLink RX3 28 "ColumnSeasons$Table" "values" "[I" ∈ wsX3_removeRow) rfl rfl ?_
    refine y_iload_n X dX3_removeRow_41 2 rfl ?_
    refine y_iconst X (v := (1)) dX3_removeRow_42 (by decide) ?_
    refine y_iadd X (z := (nI (i + 1))) dX3_removeRow_43 (nI_add (i) (1)) ?_
    refine y_bipush X (v := (8)) dX3_removeRow_44 (by decide) ?_
    refine y_imul X (z := (nI ((i + 1) * (8)))) dX3_removeRow_46 (pk_mul (i + 1) (8)) ?_
    refine y_aload_n X dX3_removeRow_47 1 rfl ?_
    refine y_get X (b) 3 5 (Cn := RX3) (T := TX3) (N := 6) (index := 28) (v := .ref (E.2.1 (b + 4))) dX3_removeRow_48 (by omega) h_4 rfl (by decide) inX3 (by decide +kernel : Cond.fieldLink RX3 28 "ColumnSeasons$Table" "values" "[I" ∈ wsX3_removeRow) rfl rfl ?_
    refine y_iload_n X dX3_removeRow_51 2 rfl ?_
    refine y_bipush X (v := (8)) dX3_removeRow_52 (by decide) ?_
    refine y_imul X (z := (nI ((i) * (8)))) dX3_removeRow_54 (pk_mul (i) (8)) ?_
    refine y_iload_n X dX3_removeRow_55 0 rfl ?_
    refine y_bipush X (v := (8)) dX3_removeRow_56 (by decide) ?_
    refine y_imul X (z := (nI ((((tr T) - (i)) - (1)) * (8)))) dX3_removeRow_58 (pk_mul (((tr T) - (i)) - (1)) (8)) ?_
    refine y_copyi X (b + 4) (b + 4) (sp := (i + 1) * (8)) (dp := (i) * (8)) (n := (((tr T) - (i)) - (1)) * (8)) dX3_removeRow_59 (by decide +kernel) (by decide +kernel) (by decide +kernel) (by decide +kernel) (by omega) (by omega) h_8 h_8 rfl rfl rfl (by omega) (by omega) (by omega) (by omega) (Nat.le_of_ble_eq_true rfl) (Nat.le_of_ble_eq_true rfl) ?_
    refine y_mem (va_up C_2 (b + 4) (.inl (E.2.2.1 1, 192, .inl (va_cpy zV zV ((i + 1) * (8)) ((i) * (8)) ((((tr T) - (i)) - (1)) * (8)))))) rfl (fun C_9 eC_10 => ?_)
    have h_11 : C_9 (b) = .inr (3, [.int (nI (tn T)), .ref (E.2.1 (b + 1)), .ref (E.2.1 (b + 2)), .int (nI (tr T)), .ref (E.2.1 (b + 3)), .ref (E.2.1 (b + 4))]) := by rw [eC_10, va_up, if_neg (by omega)]; exact h_4
    have h_12 : C_9 (b + 1) = .inl (E.2.2.1 1, 240, .inl zK) := by rw [eC_10, va_up, if_neg (by omega)]; exact h_5
    have h_13 : C_9 (b + 2) = .inl (E.2.2.1 1, 240, .inl zD) := by rw [eC_10, va_up, if_neg (by omega)]; exact h_6
    have h_14 : C_9 (b + 3) = .inl (E.2.2.1 1, 24, .inl (va_cpy zS zS (i + 1) (i) (((tr T) - (i)) - (1)))) := by rw [eC_10, va_up, if_neg (by omega)]; exact h_7
    have h_15 : C_9 (b + 4) = .inl (E.2.2.1 1, 192, .inl (va_cpy zV zV ((i + 1) * (8)) ((i) * (8)) ((((tr T) - (i)) - (1)) * (8)))) := by rw [eC_10, va_up, if_pos rfl]
    refine y_aload_n X dX3_removeRow_62 1 rfl ?_
    refine y_dup X dX3_removeRow_63 rfl ?_
    refine y_get X (b) 3 3 (Cn := RX3) (T := TX3) (N := 6) (index := 22) (v := .int (nI (tr T))) dX3_removeRow_64 (by omega) h_11 rfl (by decide) inX3 (by decide +kernel : Cond.fieldLink RX3 22 "ColumnSeasons$Table" "rows" "I" ∈ wsX3_removeRow) rfl rfl ?_
    refine y_iconst X (v := (1)) dX3_removeRow_67 (by decide) ?_
    refine y_isub X (z := (nI ((tr T) - (1)))) dX3_removeRow_68 (pk_sub (a := tr T) (b := 1) (by omega)) ?_
    refine y_put X (b) 3 3 (Cn := RX3) (T := TX3) (N := 6) (index := 22) tyX3 (v := .int (nI ((tr T) - (1)))) dX3_removeRow_69 (by omega) h_11 rfl (by decide) inX3 (by decide +kernel : Cond.fieldLink RX3 22 "ColumnSeasons$Table" "rows" "I" ∈ wsX3_removeRow) rfl tyX3_ok nmX3 rfl rfl rfl (Nat.le_of_ble_eq_true rfl) ?_
    refine y_mem (va_up C_9 (b) (.inr (3, [.int (nI (tn T)), .ref (E.2.1 (b + 1)), .ref (E.2.1 (b + 2)), .int (nI ((tr T) - (1))), .ref (E.2.1 (b + 3)), .ref (E.2.1 (b + 4))]))) rfl (fun C_16 eC_17 => ?_)
    have h_18 : C_16 (b) = .inr (3, [.int (nI (tn T)), .ref (E.2.1 (b + 1)), .ref (E.2.1 (b + 2)), .int (nI ((tr T) - (1))), .ref (E.2.1 (b + 3)), .ref (E.2.1 (b + 4))]) := by rw [eC_17, va_up, if_pos rfl]
    have h_19 : C_16 (b + 1) = .inl (E.2.2.1 1, 240, .inl zK) := by rw [eC_17, va_up, if_neg (by omega)]; exact h_12
    have h_20 : C_16 (b + 2) = .inl (E.2.2.1 1, 240, .inl zD) := by rw [eC_17, va_up, if_neg (by omega)]; exact h_13
    have h_21 : C_16 (b + 3) = .inl (E.2.2.1 1, 24, .inl (va_cpy zS zS (i + 1) (i) (((tr T) - (i)) - (1)))) := by rw [eC_17, va_up, if_neg (by omega)]; exact h_14
    have h_22 : C_16 (b + 4) = .inl (E.2.2.1 1, 192, .inl (va_cpy zV zV ((i + 1) * (8)) ((i) * (8)) ((((tr T) - (i)) - (1)) * (8)))) := by rw [eC_17, va_up, if_neg (by omega)]; exact h_15
    refine y_aload_n X dX3_removeRow_72 1 rfl ?_
    refine y_get X (b) 3 3 (Cn := RX3) (T := TX3) (N := 6) (index := 22) (v := .int (nI ((tr T) - (1)))) dX3_removeRow_73 (by omega) h_18 rfl (by decide) inX3 (by decide +kernel : Cond.fieldLink RX3 22 "ColumnSeasons$Table" "rows" "I" ∈ wsX3_removeRow) rfl rfl ?_
    exact y_iret X hr dX3_removeRow_76 rfl (by have ez : sRem T (nI i) = ((nI ((tr T) - (1))), rmv T i) := (by rw [sRem, if_pos c_1, ix_nI (by omega)]); rw [ez]; exact ⟨rfl, ⟨_, _, _, _, h_18, h_19, h_20, h_21, h_22, rmvR ⟨gK, gD, gS, gV⟩ gi⟩, (fun i9 g9 => by rw [eC_17, va_up, if_neg (by omega)]; rw [eC_10, va_up, if_neg (by omega)]; rw [eC_3, va_up, if_neg (by omega)])⟩)
  ·
    refine y_sipush X (v := (-10001)) dX3_removeRow_8 (by decide) ?_
    exact y_iret X hr dX3_removeRow_11 rfl (by have ez : sRem T x = ((-10001), T) := (by rw [sRem, if_neg c_1]); rw [ez]; exact ⟨rfl, gT, fun _ _ => rfl⟩)

set_option maxRecDepth 100000 in
set_option maxHeartbeats 4000000 in
theorem c_X3_dressRowInNow {l : Launch} {E : xE} {C : xC} {b : Nat} {T : Tb} (gb : b + 4 < 61) (gT : RC E C b T) (gw : WB T) {i : Nat} (gi : i < tr T) : xM E l yX3_dressRowInNow wsX3_dressRowInNow 3 67 [.ref (E.2.1 (b)), .int (nI (i))] C (fun v C1 => v = none ∧ RC E C1 b (dre T i) ∧ (∀ i : Nat, (i < b ∨ b + 4 < i) → C1 i = C i)) := by
  obtain ⟨zK, zD, zS, zV, h0, h1, h2, h3, h4, gK, gD, gS, gV⟩ := id gT
  obtain ⟨gw1, gw2, gw3, gw4⟩ := id gw
  refine xM_ofY (cc := cX3_dressRowInNow) (maxL := 3) (ret := none) (by decide) rfl (Nat.le_of_ble_eq_true rfl) ?_
  intro p e s m args below meth c X hr
  have inX3 : ∀ w ∈ wsX30, w ∈ wsX3_dressRowInNow := by decide +kernel
  refine y_lv [(0, .ref (E.2.1 (b))), (1, .int (nI (i)))] rfl ?_
  refine y_iconst X (v := (0)) dX3_dressRowInNow_0 (by decide) ?_
  refine y_istore_n X [(2, .int (0)), (0, .ref (E.2.1 (b))), (1, .int (nI (i)))] dX3_dressRowInNow_1 rfl (by decide) rfl ?_
  have L_2 : ∀ (n : Nat) (C2 : xC) (zV2 : Nat → Int32) (j : Nat), 8 - j < n → (C2 (b) = .inr (3, [.int (nI (tn T)), .ref (E.2.1 (b + 1)), .ref (E.2.1 (b + 2)), .int (nI (tr T)), .ref (E.2.1 (b + 3)), .ref (E.2.1 (b + 4))])) → (C2 (b + 1) = .inl (E.2.2.1 1, 240, .inl zK)) → (C2 (b + 2) = .inl (E.2.2.1 1, 240, .inl zD)) → (C2 (b + 3) = .inl (E.2.2.1 1, 24, .inl zS)) → (C2 (b + 4) = .inl (E.2.2.1 1, 192, .inl zV2)) → ((∀ i9 : Nat, (i9 < b ∨ b + 4 < i9) → C2 i9 = C i9)) → (∀ z : Nat, z < i * 8 ∨ i * 8 + 8 ≤ z → zV2 z = zV z) → (∀ j2 : Nat, j2 < j → ¬ tk T (tn T - 1) j2 = -1 → zV2 (i * 8 + j2) = rdC T (tn T - 1) i j2) → (∀ j2 : Nat, j ≤ j2 → j2 < 8 → zV2 (i * 8 + j2) = zV (i * 8 + j2)) → (j ≤ 8) → xY p l e ({ frames := 3, cells := 0, slots := 0, locals := 67 } : Room) s m args below meth c E (xA E) 3 0 0 (MQ below (xQ E (fun v C1 => v = none ∧ RC E C1 b (dre T i) ∧ (∀ i : Nat, (i < b ∨ b + 4 < i) → C1 i = C i))) args s 0 0 (xA E)) C2 2 [(0, .ref (E.2.1 (b))), (1, .int (nI (i))), (2, .int (nI (j)))] [] := by
    intro n2
    induction n2 with
    | zero => intro _ _ _ hm2; exact absurd hm2 (Nat.not_lt_zero _)
    | succ n2 ih2 =>
      intro C2 zV2 j hm2 k0 k1 k2 k3 k4 gF2 gA gB gC gj
      refine y_iload_n X dX3_dressRowInNow_2 2 rfl ?_
      refine y_bipush X (v := (8)) dX3_dressRowInNow_3 (by decide) ?_
      refine y_icmp_ge X 48 ((8) ≤ (j)) dX3_dressRowInNow_5 (by decide) (nI_leI (a := 8) (b := j) (by omega) (by omega)) (fun c_1 => ?_) (fun c_1 => ?_)
      ·
        refine y_aload_n X dX3_dressRowInNow_48 0 rfl ?_
        refine y_get X (b) 3 4 (Cn := RX3) (T := TX3) (N := 6) (index := 25) (v := .ref (E.2.1 (b + 3))) dX3_dressRowInNow_49 (by omega) k0 rfl (by decide) inX3 (by decide +kernel : Cond.fieldLink RX3 25 "ColumnSeasons$Table" "rowSeasons" "[I" ∈ wsX3_dressRowInNow) rfl rfl ?_
        refine y_iload_n X dX3_dressRowInNow_52 1 rfl ?_
        refine y_aload_n X dX3_dressRowInNow_53 0 rfl ?_
        refine y_callVr X (b) 3 (av := []) [.int (nI (i)), .ref (E.2.1 (b + 3))] 0 (c_X3_now (b := b) (n := tn T) (by omega) (by omega) k0) (by omega) k0 rfl gX3_dressRowInNow_X3_now rfl (by decide +kernel) rfl ⟨Nat.le_of_ble_eq_true rfl, Nat.le_of_ble_eq_true rfl⟩ ⟨Nat.zero_le _, Nat.zero_le _⟩ (Nat.le_of_ble_eq_true rfl) rfl dX3_dressRowInNow_54 ?_
        refine y_iast X (b + 3) dX3_dressRowInNow_57 (by omega) k3 (j := i) rfl (by omega) (by omega) ?_
        refine y_mem (va_up C2 (b + 3) (.inl (E.2.2.1 1, 24, .inl (upd zS (i) (nI ((tn T) - 1)))))) rfl (fun C_2 eC_3 => ?_)
        have h_4 : C_2 (b) = .inr (3, [.int (nI (tn T)), .ref (E.2.1 (b + 1)), .ref (E.2.1 (b + 2)), .int (nI (tr T)), .ref (E.2.1 (b + 3)), .ref (E.2.1 (b + 4))]) := by rw [eC_3, va_up, if_neg (by omega)]; exact k0
        have h_5 : C_2 (b + 1) = .inl (E.2.2.1 1, 240, .inl zK) := by rw [eC_3, va_up, if_neg (by omega)]; exact k1
        have h_6 : C_2 (b + 2) = .inl (E.2.2.1 1, 240, .inl zD) := by rw [eC_3, va_up, if_neg (by omega)]; exact k2
        have h_7 : C_2 (b + 3) = .inl (E.2.2.1 1, 24, .inl (upd zS (i) (nI ((tn T) - 1)))) := by rw [eC_3, va_up, if_pos rfl]
        have h_8 : C_2 (b + 4) = .inl (E.2.2.1 1, 192, .inl zV2) := by rw [eC_3, va_up, if_neg (by omega)]; exact k4
        exact y_vret X hr dX3_dressRowInNow_58 rfl ⟨rfl, ⟨_, _, _, _, h_4, h_5, h_6, h_7, h_8, dreR ⟨gK, gD, gS, gV⟩ gA (fun j2 q1 q2 => gB j2 (by omega) q2)⟩, (fun i9 g9 => by rw [eC_3, va_up, if_neg (by omega)]; rw [gF2 i9 g9])⟩
      ·
        have gT2 : RC E C2 b (wvT T zV2) := ⟨zK, zD, zS, zV2, k0, k1, k2, k3, k4, gK, gD, gS, fun _ _ _ _ _ => rfl⟩
        have gW2 : WB (wvT T zV2) := gw
        refine y_aload_n X dX3_dressRowInNow_8 0 rfl ?_
        refine y_aload_n X dX3_dressRowInNow_9 0 rfl ?_
        refine y_callVr X (b) 3 (av := []) [.ref (E.2.1 (b))] 0 (c_X3_now (b := b) (n := tn T) (by omega) (by omega) k0) (by omega) k0 rfl gX3_dressRowInNow_X3_now rfl (by decide +kernel) rfl ⟨Nat.le_of_ble_eq_true rfl, Nat.le_of_ble_eq_true rfl⟩ ⟨Nat.zero_le _, Nat.zero_le _⟩ (Nat.le_of_ble_eq_true rfl) rfl dX3_dressRowInNow_10 ?_
        refine y_iload_n X dX3_dressRowInNow_13 2 rfl ?_
        refine y_callVr X (b) 3 (av := [.int (nI ((tn T) - 1)), .int (nI (j))]) [] 2 (c_X3_kindIn (b := b) (T := wvT T zV2) (by omega) gT2 gW2 (q := (tn T) - 1) (j := j) (by show _ < tn T; omega) (by omega)) (by omega) k0 rfl gX3_dressRowInNow_X3_kindIn rfl (by decide +kernel) rfl ⟨Nat.le_of_ble_eq_true rfl, Nat.le_of_ble_eq_true rfl⟩ ⟨Nat.zero_le _, Nat.zero_le _⟩ (Nat.le_of_ble_eq_true rfl) rfl dX3_dressRowInNow_14 ?_
        refine y_iconst X (v := (-1)) dX3_dressRowInNow_17 (by decide) ?_
        refine y_icmp_eq X 42 ((tk T ((tn T) - 1) (j)) = (-1)) dX3_dressRowInNow_18 (by decide) Iff.rfl (fun c_9 => ?_) (fun c_9 => ?_)
        ·
          refine y_iinc X [(2, .int (nI (j + 1))), (0, .ref (E.2.1 (b))), (1, .int (nI (i)))] dX3_dressRowInNow_42 2 rfl (nI_1 _) (by decide) rfl ?_
          refine y_goto X 2 dX3_dressRowInNow_45 (by decide) ?_
          refine y_pick [1, 2, 0] [(0, .ref (E.2.1 (b))), (1, .int (nI (i))), (2, .int (nI (j + 1)))] rfl ?_
          exact ih2 (C2) (zV2) (j + 1) (by omega) k0 k1 k2 k3 k4 gF2 gA (fun j2 q1 q2 => by rcases Nat.lt_or_ge j2 j with q3 | q3; exact gB j2 q3 q2; exact absurd (by rw [show j2 = j by omega]; exact c_9) q2) (fun j2 q1 q2 => gC j2 (by omega) q2) (by omega)
        ·
          refine y_aload_n X dX3_dressRowInNow_21 0 rfl ?_
          refine y_get X (b) 3 5 (Cn := RX3) (T := TX3) (N := 6) (index := 28) (v := .ref (E.2.1 (b + 4))) dX3_dressRowInNow_22 (by omega) k0 rfl (by decide) inX3 (by decide +kernel : Cond.fieldLink RX3 28 "ColumnSeasons$Table" "values" "[I" ∈ wsX3_dressRowInNow) rfl rfl ?_
          refine y_iload_n X dX3_dressRowInNow_25 1 rfl ?_
          refine y_bipush X (v := (8)) dX3_dressRowInNow_26 (by decide) ?_
          refine y_imul X (z := (nI ((i) * (8)))) dX3_dressRowInNow_28 (pk_mul (i) (8)) ?_
          refine y_iload_n X dX3_dressRowInNow_29 2 rfl ?_
          refine y_iadd X (z := (nI ((i) * (8) + j))) dX3_dressRowInNow_30 (nI_add ((i) * (8)) (j)) ?_
          refine y_aload_n X dX3_dressRowInNow_31 0 rfl ?_
          refine y_aload_n X dX3_dressRowInNow_32 0 rfl ?_
          refine y_callVr X (b) 3 (av := []) [.ref (E.2.1 (b)), .int (nI ((i) * (8) + j)), .ref (E.2.1 (b + 4))] 0 (c_X3_now (b := b) (n := tn T) (by omega) (by omega) k0) (by omega) k0 rfl gX3_dressRowInNow_X3_now rfl (by decide +kernel) rfl ⟨Nat.le_of_ble_eq_true rfl, Nat.le_of_ble_eq_true rfl⟩ ⟨Nat.zero_le _, Nat.zero_le _⟩ (Nat.le_of_ble_eq_true rfl) rfl dX3_dressRowInNow_33 ?_
          refine y_iload_n X dX3_dressRowInNow_36 1 rfl ?_
          refine y_iload_n X dX3_dressRowInNow_37 2 rfl ?_
          refine y_callVr X (b) 3 (av := [.int (nI ((tn T) - 1)), .int (nI (i)), .int (nI (j))]) [.int (nI ((i) * (8) + j)), .ref (E.2.1 (b + 4))] 3 (c_X3_readIn (b := b) (T := wvT T zV2) (by omega) gT2 gW2 (q := (tn T) - 1) (i := i) (j := j) (by show _ < tn T; omega) (by show _ < tr T; omega) (by omega)) (by omega) k0 rfl gX3_dressRowInNow_X3_readIn rfl (by decide +kernel) rfl ⟨Nat.le_of_ble_eq_true rfl, Nat.le_of_ble_eq_true rfl⟩ ⟨Nat.zero_le _, Nat.zero_le _⟩ (Nat.le_of_ble_eq_true rfl) rfl dX3_dressRowInNow_38 ?_
          refine y_iast X (b + 4) dX3_dressRowInNow_41 (by omega) k4 (j := (i) * (8) + j) rfl (by omega) (by omega) ?_
          refine y_mem (va_up C2 (b + 4) (.inl (E.2.2.1 1, 192, .inl (upd zV2 ((i) * (8) + j) (rdC (wvT T zV2) ((tn T) - 1) (i) (j)))))) rfl (fun C_10 eC_11 => ?_)
          have h_12 : C_10 (b) = .inr (3, [.int (nI (tn T)), .ref (E.2.1 (b + 1)), .ref (E.2.1 (b + 2)), .int (nI (tr T)), .ref (E.2.1 (b + 3)), .ref (E.2.1 (b + 4))]) := by rw [eC_11, va_up, if_neg (by omega)]; exact k0
          have h_13 : C_10 (b + 1) = .inl (E.2.2.1 1, 240, .inl zK) := by rw [eC_11, va_up, if_neg (by omega)]; exact k1
          have h_14 : C_10 (b + 2) = .inl (E.2.2.1 1, 240, .inl zD) := by rw [eC_11, va_up, if_neg (by omega)]; exact k2
          have h_15 : C_10 (b + 3) = .inl (E.2.2.1 1, 24, .inl zS) := by rw [eC_11, va_up, if_neg (by omega)]; exact k3
          have h_16 : C_10 (b + 4) = .inl (E.2.2.1 1, 192, .inl (upd zV2 ((i) * (8) + j) (rdC (wvT T zV2) ((tn T) - 1) (i) (j)))) := by rw [eC_11, va_up, if_pos rfl]
          refine y_iinc X [(2, .int (nI (j + 1))), (0, .ref (E.2.1 (b))), (1, .int (nI (i)))] dX3_dressRowInNow_42 2 rfl (nI_1 _) (by decide) rfl ?_
          refine y_goto X 2 dX3_dressRowInNow_45 (by decide) ?_
          refine y_pick [1, 2, 0] [(0, .ref (E.2.1 (b))), (1, .int (nI (i))), (2, .int (nI (j + 1)))] rfl ?_
          exact ih2 (C_10) ((upd zV2 ((i) * (8) + j) (rdC (wvT T zV2) ((tn T) - 1) (i) (j)))) (j + 1) (by omega) h_12 h_13 h_14 h_15 h_16 (fun i9 g9 => by rw [eC_11, va_up, if_neg (by omega)]; rw [gF2 i9 g9]) (fun z q1 => by rw [pk_un (by omega)]; exact gA z q1) (fun j2 q1 q2 => by rcases Nat.lt_or_ge j2 j with q3 | q3; rw [pk_un (by omega)]; exact gB j2 q3 q2; rw [show j2 = j by omega, pk_us]; exact rdC_wv (fun q4 => by rw [gC j (Nat.le_refl _) (by omega)]; exact gV i j gi (by omega) q4)) (fun j2 q1 q2 => by rw [pk_un (by omega)]; exact gC j2 (by omega) q2) (by omega)
  refine y_pick [1, 2, 0] [(0, .ref (E.2.1 (b))), (1, .int (nI (i))), (2, .int (0))] rfl ?_
  exact L_2 _ (C) (zV) (0) (Nat.lt_succ_self _) h0 h1 h2 h3 h4 (fun _ _ => rfl) (fun _ _ => rfl) (fun _ q1 _ => absurd q1 (Nat.not_lt_zero _)) (fun _ _ _ => rfl) (by omega)

set_option maxRecDepth 100000 in
set_option maxHeartbeats 4000000 in
theorem c_X3_makeRowsOver {l : Launch} {E : xE} {C : xC} {b : Nat} {T : Tb} (gb : b + 4 < 61) (gT : RC E C b T) (gw : WB T) {x y : Int32} : xM E l yX3_makeRowsOver wsX3_makeRowsOver 4 89 [.ref (E.2.1 (b)), .int x, .int y] C (fun v C1 => v = some (.int (sMk T x y).1) ∧ RC E C1 b (sMk T x y).2 ∧ (∀ i : Nat, (i < b ∨ b + 4 < i) → C1 i = C i)) := by
  obtain ⟨zK, zD, zS, zV, h0, h1, h2, h3, h4, gK, gD, gS, gV⟩ := id gT
  obtain ⟨gw1, gw2, gw3, gw4⟩ := id gw
  refine xM_ofY (cc := cX3_makeRowsOver) (maxL := 6) (ret := (some .int)) (by decide) rfl (Nat.le_of_ble_eq_true rfl) ?_
  intro p e s m args below meth c X hr
  have inX3 : ∀ w ∈ wsX30, w ∈ wsX3_makeRowsOver := by decide +kernel
  refine y_lv [(0, .ref (E.2.1 (b))), (1, .int x), (2, .int y)] rfl ?_
  refine y_aload_n X dX3_makeRowsOver_0 0 rfl ?_
  refine y_iload_n X dX3_makeRowsOver_1 1 rfl ?_
  refine y_callVr X (b) 3 (av := [.int x]) [] 1 (c_X3_isRow (b := b) (by omega) gT gw (x := x)) (by omega) h0 rfl gX3_makeRowsOver_X3_isRow rfl (by decide +kernel) rfl ⟨Nat.le_of_ble_eq_true rfl, Nat.le_of_ble_eq_true rfl⟩ ⟨Nat.zero_le _, Nat.zero_le _⟩ (Nat.le_of_ble_eq_true rfl) rfl dX3_makeRowsOver_2 ?_
  refine y_if_eq X 16 (¬ (xin x (tr T))) dX3_makeRowsOver_5 (by decide) bI_eq (fun c_1 => ?_) (fun c_1 => ?_)
  ·
    refine y_sipush X (v := (-10001)) dX3_makeRowsOver_16 (by decide) ?_
    exact y_iret X hr dX3_makeRowsOver_19 rfl (by have ez : sMk T x y = ((-10001), T) := (by rw [sMk, if_neg (fun z => c_1 z.1)]); rw [ez]; exact ⟨rfl, gT, fun _ _ => rfl⟩)
  ·
    have c_1 := Decidable.of_not_not c_1
    obtain ⟨a, ga, gea⟩ := xin_of c_1 (by omega)
    subst gea
    refine y_aload_n X dX3_makeRowsOver_8 0 rfl ?_
    refine y_iload_n X dX3_makeRowsOver_9 2 rfl ?_
    refine y_callVr X (b) 3 (av := [.int y]) [] 1 (c_X3_isRow (b := b) (by omega) gT gw (x := y)) (by omega) h0 rfl gX3_makeRowsOver_X3_isRow rfl (by decide +kernel) rfl ⟨Nat.le_of_ble_eq_true rfl, Nat.le_of_ble_eq_true rfl⟩ ⟨Nat.zero_le _, Nat.zero_le _⟩ (Nat.le_of_ble_eq_true rfl) rfl dX3_makeRowsOver_10 ?_
    refine y_if_ne X 20 (xin y (tr T)) dX3_makeRowsOver_13 (by decide) bI_ne (fun c_2 => ?_) (fun c_2 => ?_)
    ·
      obtain ⟨b0, gb0, geb0⟩ := xin_of c_2 (by omega)
      subst geb0
      refine y_iload_n X dX3_makeRowsOver_20 2 rfl ?_
      refine y_iload_n X dX3_makeRowsOver_21 1 rfl ?_
      refine y_icmp_ge X 29 ((a) ≤ (b0)) dX3_makeRowsOver_22 (by decide) (nI_leI (a := a) (b := b0) (by omega) (by omega)) (fun c_3 => ?_) (fun c_3 => ?_)
      ·
        refine y_iconst X (v := (0)) dX3_makeRowsOver_29 (by decide) ?_
        refine y_istore_n X [(3, .int (0)), (0, .ref (E.2.1 (b))), (1, .int (nI (a))), (2, .int (nI (b0)))] dX3_makeRowsOver_30 rfl (by decide) rfl ?_
        refine y_iconst X (v := (0)) dX3_makeRowsOver_31 (by decide) ?_
        refine y_istore X [(4, .int (0)), (3, .int (0)), (0, .ref (E.2.1 (b))), (1, .int (nI (a))), (2, .int (nI (b0)))] dX3_makeRowsOver_32 (by decide) rfl ?_
        refine y_iload_n X dX3_makeRowsOver_34 3 rfl ?_
        refine y_istore X [(5, .int (nI (a))), (4, .int (0)), (3, .int (0)), (0, .ref (E.2.1 (b))), (1, .int (nI (a))), (2, .int (nI (b0)))] dX3_makeRowsOver_35 (by decide) rfl ?_
        have L_37 : ∀ (n : Nat) (C2 : xC) (x3 : Int32) (x4 : Int32) (k : Nat), b0 + 1 - a - k < n → (RC E C2 b (mkP T a k)) → ((∀ i9 : Nat, (i9 < b ∨ b + 4 < i9) → C2 i9 = C i9)) → (x3 = bI (¬ mkN T a k)) → (x4 = mkL T a k) → (k ≤ b0 + 1 - a) → xY p l e ({ frames := 4, cells := 0, slots := 0, locals := 89 } : Room) s m args below meth c E (xA E) 6 0 0 (MQ below (xQ E (fun v C1 => v = some (.int (sMk T (nI a) (nI b0)).1) ∧ RC E C1 b (sMk T (nI a) (nI b0)).2 ∧ (∀ i : Nat, (i < b ∨ b + 4 < i) → C1 i = C i))) args s 0 0 (xA E)) C2 37 [(0, .ref (E.2.1 (b))), (1, .int (nI (a))), (2, .int (nI (b0))), (3, .int x3), (4, .int x4), (5, .int (nI (a + k)))] [] := by
          intro n37
          induction n37 with
          | zero => intro _ _ _ _ hm37; exact absurd hm37 (Nat.not_lt_zero _)
          | succ n37 ih37 =>
            intro C2 x3 x4 k hm37 gR2 gF2 gf gx gk
            refine y_iload X dX3_makeRowsOver_37 5 rfl ?_
            refine y_iload_n X dX3_makeRowsOver_39 2 rfl ?_
            refine y_icmp_gt X 86 ((b0) < (a + k)) dX3_makeRowsOver_40 (by decide) (nI_ltI (a := b0) (b := a + k) (by omega) (by omega)) (fun c_4 => ?_) (fun c_4 => ?_)
            ·
              have gk8 : k = b0 + 1 - a := by omega
              refine y_iload_n X dX3_makeRowsOver_86 3 rfl ?_
              refine y_if_eq X 95 (mkN T a (b0 + 1 - a)) dX3_makeRowsOver_87 (by decide) (by rw [gf, gk8]; exact bI_eq.trans Decidable.not_not) (fun c_5 => ?_) (fun c_5 => ?_)
              ·
                refine y_sipush X (v := (-10005)) dX3_makeRowsOver_95 (by decide) ?_
                exact y_iret X hr dX3_makeRowsOver_98 rfl (by have ez : sMk T (nI a) (nI b0) = (-10005, T) := (by rw [sMk, if_pos ⟨c_1, c_2⟩, ix_nI (by omega), ix_nI (by omega), if_neg (by omega), if_pos c_5]); rw [ez]; exact ⟨rfl, mkP_all gk8 c_5 gR2, gF2⟩)
              ·
                refine y_iload X dX3_makeRowsOver_90 4 rfl ?_
                refine y_goto X 98 dX3_makeRowsOver_92 (by decide) ?_
                exact y_iret X hr dX3_makeRowsOver_98 rfl (by have ez : sMk T (nI a) (nI b0) = (mkL T a (b0 + 1 - a), mkP T a (b0 + 1 - a)) := (by rw [sMk, if_pos ⟨c_1, c_2⟩, ix_nI (by omega), ix_nI (by omega), if_neg (by omega), if_neg c_5]); rw [ez]; exact ⟨by rw [gx, gk8], by rw [← gk8]; exact gR2, gF2⟩)
            ·
              obtain ⟨zK2, zD2, zS2, zV2, k0, k1, k2, k3, k4, gK2, gD2, gS2, gV2⟩ := id gR2
              obtain ⟨o1, o2, o3, o4, o5⟩ := mkP_out (T := T) (a := a) k
              have gW2 := mkP_WB (a := a) gw k
              rw [o1, o2] at k0
              refine y_aload_n X dX3_makeRowsOver_43 0 rfl ?_
              refine y_get X (b) 3 4 (Cn := RX3) (T := TX3) (N := 6) (index := 25) (v := .ref (E.2.1 (b + 3))) dX3_makeRowsOver_44 (by omega) k0 rfl (by decide) inX3 (by decide +kernel : Cond.fieldLink RX3 25 "ColumnSeasons$Table" "rowSeasons" "[I" ∈ wsX3_makeRowsOver) rfl rfl ?_
              refine y_iload X dX3_makeRowsOver_47 5 rfl ?_
              have gts := gw4 (a + k) (by omega)
              refine y_iald X (b + 3) dX3_makeRowsOver_49 (by omega) k3 (j := a + k) rfl (by omega) (by omega) (z := (nI (ts T (a + k)))) (by rw [gS2 _ (by omega), (o5 _ (by omega)).1]) ?_
              refine y_aload_n X dX3_makeRowsOver_50 0 rfl ?_
              refine y_callVr X (b) 3 (av := []) [.int (nI (ts T (a + k)))] 0 (c_X3_now (b := b) (n := tn T) (by omega) (by omega) k0) (by omega) k0 rfl gX3_makeRowsOver_X3_now rfl (by decide +kernel) rfl ⟨Nat.le_of_ble_eq_true rfl, Nat.le_of_ble_eq_true rfl⟩ ⟨Nat.zero_le _, Nat.zero_le _⟩ (Nat.le_of_ble_eq_true rfl) rfl dX3_makeRowsOver_51 ?_
              refine y_icmp_eq X 80 ((ts T (a + k)) = ((tn T) - 1)) dX3_makeRowsOver_54 (by decide) (nI_eq (a := ts T (a + k)) (b := (tn T) - 1) (by omega) (by omega)) (fun c_6 => ?_) (fun c_6 => ?_)
              ·
                refine y_iinc X [(5, .int (nI (a + k + 1))), (0, .ref (E.2.1 (b))), (1, .int (nI (a))), (2, .int (nI (b0))), (3, .int x3), (4, .int x4)] dX3_makeRowsOver_80 5 rfl (nI_1 _) (by decide) rfl ?_
                refine y_goto X 37 dX3_makeRowsOver_83 (by decide) ?_
                refine y_pick [1, 2, 3, 4, 5, 0] [(0, .ref (E.2.1 (b))), (1, .int (nI (a))), (2, .int (nI (b0))), (3, .int x3), (4, .int x4), (5, .int (nI (a + k + 1)))] rfl ?_
                exact ih37 (C2) (x3) (x4) (k + 1) (by omega) (by rw [mkP, if_pos c_6]; exact gR2) gF2 (by rw [gf]; exact bI_congr (not_congr ⟨fun z k9 q9 => by rcases Nat.lt_or_ge k9 k with q3 | q3; exact z k9 q3; rw [show k9 = k by omega]; exact c_6, fun z k9 q9 => z k9 (by omega)⟩)) (by rw [gx]; show _ = sm _ _ + (if _ then _ else _); rw [if_pos c_6, Int32.add_zero]; rfl) (by omega)
              ·
                refine y_iconst X (v := (1)) dX3_makeRowsOver_57 (by decide) ?_
                refine y_istore_n X [(3, .int (1)), (0, .ref (E.2.1 (b))), (1, .int (nI (a))), (2, .int (nI (b0))), (4, .int x4), (5, .int (nI (a + k)))] dX3_makeRowsOver_58 rfl (by decide) rfl ?_
                refine y_iload X dX3_makeRowsOver_59 4 rfl ?_
                refine y_aload_n X dX3_makeRowsOver_61 1 rfl ?_
                refine y_aload_n X dX3_makeRowsOver_62 1 rfl ?_
                refine y_callVr X (b) 3 (av := []) [.ref (E.2.1 (b)), .int x4] 0 (c_X3_now (b := b) (n := tn T) (by omega) (by omega) k0) (by omega) k0 rfl gX3_makeRowsOver_X3_now rfl (by decide +kernel) rfl ⟨Nat.le_of_ble_eq_true rfl, Nat.le_of_ble_eq_true rfl⟩ ⟨Nat.zero_le _, Nat.zero_le _⟩ (Nat.le_of_ble_eq_true rfl) rfl dX3_makeRowsOver_63 ?_
                refine y_iload X dX3_makeRowsOver_66 5 rfl ?_
                refine y_callVr X (b) 3 (av := [.int (nI ((tn T) - 1)), .int (nI (a + k))]) [.int x4] 2 (c_X3_lossesOfRowIn (b := b) (T := mkP T a k) (by omega) gR2 gW2 (q := (tn T) - 1) (i := a + k) (by omega) (by omega)) (by omega) k0 rfl gX3_makeRowsOver_X3_lossesOfRowIn rfl (by decide +kernel) rfl ⟨Nat.le_of_ble_eq_true rfl, Nat.le_of_ble_eq_true rfl⟩ ⟨Nat.zero_le _, Nat.zero_le _⟩ (Nat.le_of_ble_eq_true rfl) rfl dX3_makeRowsOver_68 ?_
                refine y_iadd X (z := (x4 + (lsR (mkP T a k) ((tn T) - 1) (a + k)))) dX3_makeRowsOver_71 rfl ?_
                refine y_istore X [(4, .int (x4 + (lsR (mkP T a k) ((tn T) - 1) (a + k)))), (3, .int (1)), (0, .ref (E.2.1 (b))), (1, .int (nI (a))), (2, .int (nI (b0))), (5, .int (nI (a + k)))] dX3_makeRowsOver_72 (by decide) rfl ?_
                refine y_aload_n X dX3_makeRowsOver_74 2 rfl ?_
                refine y_iload X dX3_makeRowsOver_75 5 rfl ?_
                refine y_callV X (b) 3 (av := [.int (nI (a + k))]) [] 1 (c_X3_dressRowInNow (b := b) (T := mkP T a k) (i := a + k) (by omega) gR2 gW2 (by omega)) (by omega) k0 rfl gX3_makeRowsOver_X3_dressRowInNow rfl (by decide +kernel) rfl ⟨Nat.le_of_ble_eq_true rfl, Nat.le_of_ble_eq_true rfl⟩ ⟨Nat.zero_le _, Nat.zero_le _⟩ (Nat.le_of_ble_eq_true rfl) rfl dX3_makeRowsOver_77 (fun v_7 C_8 hp_9 => ?_)
                obtain ⟨gv, gR3, gF3⟩ := hp_9
                subst gv
                refine y_iinc X [(5, .int (nI (a + k + 1))), (4, .int (x4 + (lsR (mkP T a k) ((tn T) - 1) (a + k)))), (3, .int (1)), (0, .ref (E.2.1 (b))), (1, .int (nI (a))), (2, .int (nI (b0)))] dX3_makeRowsOver_80 5 rfl (nI_1 _) (by decide) rfl ?_
                refine y_goto X 37 dX3_makeRowsOver_83 (by decide) ?_
                refine y_pick [3, 4, 5, 2, 1, 0] [(0, .ref (E.2.1 (b))), (1, .int (nI (a))), (2, .int (nI (b0))), (3, .int (1)), (4, .int (x4 + (lsR (mkP T a k) ((tn T) - 1) (a + k)))), (5, .int (nI (a + k + 1)))] rfl ?_
                exact ih37 (C_8) ((1)) ((x4 + (lsR (mkP T a k) ((tn T) - 1) (a + k)))) (k + 1) (by omega) (by rw [mkP, if_neg c_6]; exact gR3) (fun i9 g9 => by rw [gF3 i9 g9]; rw [gF2 i9 g9]) (bI_1 (P := ¬ mkN T a (k + 1)) (fun z => c_6 (z k (by omega)))).symm (by rw [gx, lsR_mkP]; show _ = sm _ _ + (if _ then _ else _); rw [if_neg c_6]; rfl) (by omega)
        refine y_pick [3, 4, 5, 2, 1, 0] [(0, .ref (E.2.1 (b))), (1, .int (nI (a))), (2, .int (nI (b0))), (3, .int (0)), (4, .int (0)), (5, .int (nI (a)))] rfl ?_
        exact L_37 _ (C) (0) (0) (0) (Nat.lt_succ_self _) gT (fun _ _ => rfl) (bI_0 (P := ¬ mkN T a 0) (fun z => z (fun _ q => absurd q (Nat.not_lt_zero _)))).symm rfl (by omega)
      ·
        refine y_sipush X (v := (-10002)) dX3_makeRowsOver_25 (by decide) ?_
        exact y_iret X hr dX3_makeRowsOver_28 rfl (by have ez : sMk T (nI a) (nI b0) = ((-10002), T) := (by rw [sMk, if_pos ⟨c_1, c_2⟩, ix_nI (by omega), ix_nI (by omega), if_pos (by omega)]); rw [ez]; exact ⟨rfl, gT, fun _ _ => rfl⟩)
    ·
      refine y_sipush X (v := (-10001)) dX3_makeRowsOver_16 (by decide) ?_
      exact y_iret X hr dX3_makeRowsOver_19 rfl (by have ez : sMk T (nI a) y = ((-10001), T) := (by rw [sMk, if_neg (fun z => c_2 z.2)]); rw [ez]; exact ⟨rfl, gT, fun _ _ => rfl⟩)

set_option maxRecDepth 100000 in
set_option maxHeartbeats 4000000 in
theorem c_X3_forgetSeasons {l : Launch} {E : xE} {C : xC} {b : Nat} {T : Tb} (gb : b + 4 < 61) (gT : RC E C b T) (gw : WB T) : xM E l yX3_forgetSeasons wsX3_forgetSeasons 1 40 [.ref (E.2.1 (b))] C (fun v C1 => v = some (.int (sFor T).1) ∧ RC E C1 b (sFor T).2 ∧ (∀ i : Nat, (i < b ∨ b + 4 < i) → C1 i = C i)) := by
  obtain ⟨zK, zD, zS, zV, h0, h1, h2, h3, h4, gK, gD, gS, gV⟩ := id gT
  obtain ⟨gw1, gw2, gw3, gw4⟩ := id gw
  refine xM_ofY (cc := cX3_forgetSeasons) (maxL := 3) (ret := (some .int)) (by decide) rfl (Nat.le_of_ble_eq_true rfl) ?_
  intro p e s m args below meth c X hr
  have inX3 : ∀ w ∈ wsX30, w ∈ wsX3_forgetSeasons := by decide +kernel
  refine y_lv [(0, .ref (E.2.1 (b)))] rfl ?_
  refine y_aload_n X dX3_forgetSeasons_0 0 rfl ?_
  refine y_callVr X (b) 3 (av := []) [] 0 (c_X3_now (b := b) (n := tn T) (by omega) (by omega) h0) (by omega) h0 rfl gX3_forgetSeasons_X3_now rfl (by decide +kernel) rfl ⟨Nat.le_of_ble_eq_true rfl, Nat.le_of_ble_eq_true rfl⟩ ⟨Nat.zero_le _, Nat.zero_le _⟩ (Nat.le_of_ble_eq_true rfl) rfl dX3_forgetSeasons_1 ?_
  refine y_istore_n X [(1, .int (nI ((tn T) - 1))), (0, .ref (E.2.1 (b)))] dX3_forgetSeasons_4 rfl (by decide) rfl ?_
  refine y_iconst X (v := (0)) dX3_forgetSeasons_5 (by decide) ?_
  refine y_istore_n X [(2, .int (0)), (1, .int (nI ((tn T) - 1))), (0, .ref (E.2.1 (b)))] dX3_forgetSeasons_6 rfl (by decide) rfl ?_
  have L_7 : ∀ (n : Nat) (y1 : Nat) (k : Nat), tr T - k < n → (y1 = fgF T k) → (k ≤ tr T) → xY p l e ({ frames := 1, cells := 0, slots := 0, locals := 40 } : Room) s m args below meth c E (xA E) 3 0 0 (MQ below (xQ E (fun v C1 => v = some (.int (sFor T).1) ∧ RC E C1 b (sFor T).2 ∧ (∀ i : Nat, (i < b ∨ b + 4 < i) → C1 i = C i))) args s 0 0 (xA E)) C 7 [(0, .ref (E.2.1 (b))), (1, .int (nI (y1))), (2, .int (nI (k)))] [] := by
    intro n7
    induction n7 with
    | zero => intro _ _ hm7; exact absurd hm7 (Nat.not_lt_zero _)
    | succ n7 ih7 =>
      intro y1 k hm7 gx gk
      refine y_iload_n X dX3_forgetSeasons_7 2 rfl ?_
      refine y_aload_n X dX3_forgetSeasons_8 0 rfl ?_
      refine y_get X (b) 3 3 (Cn := RX3) (T := TX3) (N := 6) (index := 22) (v := .int (nI (tr T))) dX3_forgetSeasons_9 (by omega) h0 rfl (by decide) inX3 (by decide +kernel : Cond.fieldLink RX3 22 "ColumnSeasons$Table" "rows" "I" ∈ wsX3_forgetSeasons) rfl rfl ?_
      refine y_icmp_ge X 32 ((tr T) ≤ (k)) dX3_forgetSeasons_12 (by decide) (nI_leI (a := tr T) (b := k) (by omega) (by omega)) (fun c_1 => ?_) (fun c_1 => ?_)
      ·
        have gk7 : k = tr T := by omega
        have gle := fgF_le (T := T) k
        rw [← gx] at gle
        refine y_iload_n X dX3_forgetSeasons_32 1 rfl ?_
        refine y_if_ne X 40 (¬ ((y1) = (0))) dX3_forgetSeasons_33 (by decide) (cNe (nI_eq (a := y1) (b := 0) (by omega) (by omega))) (fun c_2 => ?_) (fun c_2 => ?_)
        ·
          refine y_aload_n X dX3_forgetSeasons_40 0 rfl ?_
          refine y_dup X dX3_forgetSeasons_41 rfl ?_
          refine y_get X (b) 3 0 (Cn := RX3) (T := TX3) (N := 6) (index := 9) (v := .int (nI (tn T))) dX3_forgetSeasons_42 (by omega) h0 rfl (by decide) inX3 (by decide +kernel : Cond.fieldLink RX3 9 "ColumnSeasons$Table" "seasons" "I" ∈ wsX3_forgetSeasons) rfl rfl ?_
          refine y_iload_n X dX3_forgetSeasons_45 1 rfl ?_
          refine y_isub X (z := (nI ((tn T) - (y1)))) dX3_forgetSeasons_46 (pk_sub (a := tn T) (b := y1) (by omega)) ?_
          refine y_put X (b) 3 0 (Cn := RX3) (T := TX3) (N := 6) (index := 9) tyX3 (v := .int (nI ((tn T) - (y1)))) dX3_forgetSeasons_47 (by omega) h0 rfl (by decide) inX3 (by decide +kernel : Cond.fieldLink RX3 9 "ColumnSeasons$Table" "seasons" "I" ∈ wsX3_forgetSeasons) rfl tyX3_ok nmX3 rfl rfl rfl (Nat.le_of_ble_eq_true rfl) ?_
          refine y_mem (va_up C (b) (.inr (3, [.int (nI ((tn T) - (y1))), .ref (E.2.1 (b + 1)), .ref (E.2.1 (b + 2)), .int (nI (tr T)), .ref (E.2.1 (b + 3)), .ref (E.2.1 (b + 4))]))) rfl (fun C_3 eC_4 => ?_)
          have h_5 : C_3 (b) = .inr (3, [.int (nI ((tn T) - (y1))), .ref (E.2.1 (b + 1)), .ref (E.2.1 (b + 2)), .int (nI (tr T)), .ref (E.2.1 (b + 3)), .ref (E.2.1 (b + 4))]) := by rw [eC_4, va_up, if_pos rfl]
          have h_6 : C_3 (b + 1) = .inl (E.2.2.1 1, 240, .inl zK) := by rw [eC_4, va_up, if_neg (by omega)]; exact h1
          have h_7 : C_3 (b + 2) = .inl (E.2.2.1 1, 240, .inl zD) := by rw [eC_4, va_up, if_neg (by omega)]; exact h2
          have h_8 : C_3 (b + 3) = .inl (E.2.2.1 1, 24, .inl zS) := by rw [eC_4, va_up, if_neg (by omega)]; exact h3
          have h_9 : C_3 (b + 4) = .inl (E.2.2.1 1, 192, .inl zV) := by rw [eC_4, va_up, if_neg (by omega)]; exact h4
          refine y_aload_n X dX3_forgetSeasons_50 0 rfl ?_
          refine y_get X (b) 3 1 (Cn := RX3) (T := TX3) (N := 6) (index := 15) (v := .ref (E.2.1 (b + 1))) dX3_forgetSeasons_51 (by omega) h_5 rfl (by decide) inX3 (by decide +kernel : Cond.fieldLink RX3 15 "ColumnSeasons$Table" "kinds" "[I" ∈ wsX3_forgetSeasons) rfl rfl ?_
          refine y_iload_n X dX3_forgetSeasons_54 1 rfl ?_
          refine y_bipush X (v := (8)) dX3_forgetSeasons_55 (by decide) ?_
          refine y_imul X (z := (nI ((y1) * (8)))) dX3_forgetSeasons_57 (pk_mul (y1) (8)) ?_
          refine y_aload_n X dX3_forgetSeasons_58 0 rfl ?_
          refine y_get X (b) 3 1 (Cn := RX3) (T := TX3) (N := 6) (index := 15) (v := .ref (E.2.1 (b + 1))) dX3_forgetSeasons_59 (by omega) h_5 rfl (by decide) inX3 (by decide +kernel : Cond.fieldLink RX3 15 "ColumnSeasons$Table" "kinds" "[I" ∈ wsX3_forgetSeasons) rfl rfl ?_
          refine y_iconst X (v := (0)) dX3_forgetSeasons_62 (by decide) ?_
          refine y_aload_n X dX3_forgetSeasons_63 0 rfl ?_
          refine y_get X (b) 3 0 (Cn := RX3) (T := TX3) (N := 6) (index := 9) (v := .int (nI ((tn T) - (y1)))) dX3_forgetSeasons_64 (by omega) h_5 rfl (by decide) inX3 (by decide +kernel : Cond.fieldLink RX3 9 "ColumnSeasons$Table" "seasons" "I" ∈ wsX3_forgetSeasons) rfl rfl ?_
          refine y_bipush X (v := (8)) dX3_forgetSeasons_67 (by decide) ?_
          refine y_imul X (z := (nI (((tn T) - (y1)) * (8)))) dX3_forgetSeasons_69 (pk_mul ((tn T) - (y1)) (8)) ?_
          refine y_copyi X (b + 1) (b + 1) (sp := (y1) * (8)) (dp := 0) (n := ((tn T) - (y1)) * (8)) dX3_forgetSeasons_70 (by decide +kernel) (by decide +kernel) (by decide +kernel) (by decide +kernel) (by omega) (by omega) h_6 h_6 rfl rfl rfl (by omega) (by omega) (by omega) (by omega) (Nat.le_of_ble_eq_true rfl) (Nat.le_of_ble_eq_true rfl) ?_
          refine y_mem (va_up C_3 (b + 1) (.inl (E.2.2.1 1, 240, .inl (va_cpy zK zK ((y1) * (8)) (0) (((tn T) - (y1)) * (8)))))) rfl (fun C_10 eC_11 => ?_)
          have h_12 : C_10 (b) = .inr (3, [.int (nI ((tn T) - (y1))), .ref (E.2.1 (b + 1)), .ref (E.2.1 (b + 2)), .int (nI (tr T)), .ref (E.2.1 (b + 3)), .ref (E.2.1 (b + 4))]) := by rw [eC_11, va_up, if_neg (by omega)]; exact h_5
          have h_13 : C_10 (b + 1) = .inl (E.2.2.1 1, 240, .inl (va_cpy zK zK ((y1) * (8)) (0) (((tn T) - (y1)) * (8)))) := by rw [eC_11, va_up, if_pos rfl]
          have h_14 : C_10 (b + 2) = .inl (E.2.2.1 1, 240, .inl zD) := by rw [eC_11, va_up, if_neg (by omega)]; exact h_7
          have h_15 : C_10 (b + 3) = .inl (E.2.2.1 1, 24, .inl zS) := by rw [eC_11, va_up, if_neg (by omega)]; exact h_8
          have h_16 : C_10 (b + 4) = .inl (E.2.2.1 1, 192, .inl zV) := by rw [eC_11, va_up, if_neg (by omega)]; exact h_9
          refine y_aload_n X dX3_forgetSeasons_73 0 rfl ?_
          refine y_get X (b) 3 2 (Cn := RX3) (T := TX3) (N := 6) (index := 19) (v := .ref (E.2.1 (b + 2))) dX3_forgetSeasons_74 (by omega) h_12 rfl (by decide) inX3 (by decide +kernel : Cond.fieldLink RX3 19 "ColumnSeasons$Table" "standards" "[I" ∈ wsX3_forgetSeasons) rfl rfl ?_
          refine y_iload_n X dX3_forgetSeasons_77 1 rfl ?_
          refine y_bipush X (v := (8)) dX3_forgetSeasons_78 (by decide) ?_
          refine y_imul X (z := (nI ((y1) * (8)))) dX3_forgetSeasons_80 (pk_mul (y1) (8)) ?_
          refine y_aload_n X dX3_forgetSeasons_81 0 rfl ?_
          refine y_get X (b) 3 2 (Cn := RX3) (T := TX3) (N := 6) (index := 19) (v := .ref (E.2.1 (b + 2))) dX3_forgetSeasons_82 (by omega) h_12 rfl (by decide) inX3 (by decide +kernel : Cond.fieldLink RX3 19 "ColumnSeasons$Table" "standards" "[I" ∈ wsX3_forgetSeasons) rfl rfl ?_
          refine y_iconst X (v := (0)) dX3_forgetSeasons_85 (by decide) ?_
          refine y_aload_n X dX3_forgetSeasons_86 0 rfl ?_
          refine y_get X (b) 3 0 (Cn := RX3) (T := TX3) (N := 6) (index := 9) (v := .int (nI ((tn T) - (y1)))) dX3_forgetSeasons_87 (by omega) h_12 rfl (by decide) inX3 (by decide +kernel : Cond.fieldLink RX3 9 "ColumnSeasons$Table" "seasons" "I" ∈ wsX3_forgetSeasons) rfl rfl ?_
          refine y_bipush X (v := (8)) dX3_forgetSeasons_90 (by decide) ?_
          refine y_imul X (z := (nI (((tn T) - (y1)) * (8)))) dX3_forgetSeasons_92 (pk_mul ((tn T) - (y1)) (8)) ?_
          refine y_copyi X (b + 2) (b + 2) (sp := (y1) * (8)) (dp := 0) (n := ((tn T) - (y1)) * (8)) dX3_forgetSeasons_93 (by decide +kernel) (by decide +kernel) (by decide +kernel) (by decide +kernel) (by omega) (by omega) h_14 h_14 rfl rfl rfl (by omega) (by omega) (by omega) (by omega) (Nat.le_of_ble_eq_true rfl) (Nat.le_of_ble_eq_true rfl) ?_
          refine y_mem (va_up C_10 (b + 2) (.inl (E.2.2.1 1, 240, .inl (va_cpy zD zD ((y1) * (8)) (0) (((tn T) - (y1)) * (8)))))) rfl (fun C_17 eC_18 => ?_)
          have h_19 : C_17 (b) = .inr (3, [.int (nI ((tn T) - (y1))), .ref (E.2.1 (b + 1)), .ref (E.2.1 (b + 2)), .int (nI (tr T)), .ref (E.2.1 (b + 3)), .ref (E.2.1 (b + 4))]) := by rw [eC_18, va_up, if_neg (by omega)]; exact h_12
          have h_20 : C_17 (b + 1) = .inl (E.2.2.1 1, 240, .inl (va_cpy zK zK ((y1) * (8)) (0) (((tn T) - (y1)) * (8)))) := by rw [eC_18, va_up, if_neg (by omega)]; exact h_13
          have h_21 : C_17 (b + 2) = .inl (E.2.2.1 1, 240, .inl (va_cpy zD zD ((y1) * (8)) (0) (((tn T) - (y1)) * (8)))) := by rw [eC_18, va_up, if_pos rfl]
          have h_22 : C_17 (b + 3) = .inl (E.2.2.1 1, 24, .inl zS) := by rw [eC_18, va_up, if_neg (by omega)]; exact h_15
          have h_23 : C_17 (b + 4) = .inl (E.2.2.1 1, 192, .inl zV) := by rw [eC_18, va_up, if_neg (by omega)]; exact h_16
          refine y_iconst X (v := (0)) dX3_forgetSeasons_96 (by decide) ?_
          refine y_istore_n X [(2, .int (0)), (0, .ref (E.2.1 (b))), (1, .int (nI (y1)))] dX3_forgetSeasons_97 rfl (by decide) rfl ?_
          have L_98 : ∀ (n : Nat) (C2 : xC) (zK2 : Nat → Int32) (zD2 : Nat → Int32) (zS2 : Nat → Int32) (k : Nat), tr T - k < n → (C2 (b) = .inr (3, [.int (nI ((tn T) - (y1))), .ref (E.2.1 (b + 1)), .ref (E.2.1 (b + 2)), .int (nI (tr T)), .ref (E.2.1 (b + 3)), .ref (E.2.1 (b + 4))])) → (C2 (b + 1) = .inl (E.2.2.1 1, 240, .inl zK2)) → (C2 (b + 2) = .inl (E.2.2.1 1, 240, .inl zD2)) → (C2 (b + 3) = .inl (E.2.2.1 1, 24, .inl zS2)) → (C2 (b + 4) = .inl (E.2.2.1 1, 192, .inl zV)) → ((∀ i9 : Nat, (i9 < b ∨ b + 4 < i9) → C2 i9 = C i9)) → (zK2 = va_cpy zK zK (y1 * 8) 0 ((tn T - y1) * 8)) → (zD2 = va_cpy zD zD (y1 * 8) 0 ((tn T - y1) * 8)) → (∀ i : Nat, i < k → zS2 i = nI (ts T i - y1)) → (∀ i : Nat, k ≤ i → zS2 i = zS i) → (k ≤ tr T) → xY p l e ({ frames := 1, cells := 0, slots := 0, locals := 40 } : Room) s m args below meth c E (xA E) 3 0 0 (MQ below (xQ E (fun v C1 => v = some (.int (sFor T).1) ∧ RC E C1 b (sFor T).2 ∧ (∀ i : Nat, (i < b ∨ b + 4 < i) → C1 i = C i))) args s 0 0 (xA E)) C2 98 [(0, .ref (E.2.1 (b))), (1, .int (nI (y1))), (2, .int (nI (k)))] [] := by
            intro n98
            induction n98 with
            | zero => intro _ _ _ _ _ hm98; exact absurd hm98 (Nat.not_lt_zero _)
            | succ n98 ih98 =>
              intro C2 zK2 zD2 zS2 k hm98 k0 k1 k2 k3 k4 gF2 gk5 gk6 gA gC gk
              refine y_iload_n X dX3_forgetSeasons_98 2 rfl ?_
              refine y_aload_n X dX3_forgetSeasons_99 0 rfl ?_
              refine y_get X (b) 3 3 (Cn := RX3) (T := TX3) (N := 6) (index := 22) (v := .int (nI (tr T))) dX3_forgetSeasons_100 (by omega) k0 rfl (by decide) inX3 (by decide +kernel : Cond.fieldLink RX3 22 "ColumnSeasons$Table" "rows" "I" ∈ wsX3_forgetSeasons) rfl rfl ?_
              refine y_icmp_ge X 122 ((tr T) ≤ (k)) dX3_forgetSeasons_103 (by decide) (nI_leI (a := tr T) (b := k) (by omega) (by omega)) (fun c_24 => ?_) (fun c_24 => ?_)
              ·
                refine y_iload_n X dX3_forgetSeasons_122 1 rfl ?_
                exact y_iret X hr dX3_forgetSeasons_123 rfl (by have ez : sFor T = (nI y1, fgt T y1) := (by rw [sFor, if_neg (by rw [fgm, ← gk7, ← gx]; omega), fgm, ← gk7, ← gx]); rw [ez]; exact ⟨rfl, ⟨zK2, zD2, zS2, zV, k0, k1, k2, k3, k4, by rw [gk5, gk6]; exact fgtR ⟨gK, gD, gS, gV⟩ gw (by omega) (fun i q1 => gle.2 i (by omega)) (fun i q1 => gA i (by omega))⟩, gF2⟩)
              ·
                have gts := gle.2 k (by omega)
                have gts2 := gw4 k (by omega)
                refine y_aload_n X dX3_forgetSeasons_106 0 rfl ?_
                refine y_get X (b) 3 4 (Cn := RX3) (T := TX3) (N := 6) (index := 25) (v := .ref (E.2.1 (b + 3))) dX3_forgetSeasons_107 (by omega) k0 rfl (by decide) inX3 (by decide +kernel : Cond.fieldLink RX3 25 "ColumnSeasons$Table" "rowSeasons" "[I" ∈ wsX3_forgetSeasons) rfl rfl ?_
                refine y_iload_n X dX3_forgetSeasons_110 2 rfl ?_
                refine y_dup2 X dX3_forgetSeasons_111 rfl rfl ?_
                refine y_iald X (b + 3) dX3_forgetSeasons_112 (by omega) k3 (j := k) rfl (by omega) (by omega) (z := (nI (ts T k))) (by rw [gC k (Nat.le_refl _)]; exact gS k (by omega)) ?_
                refine y_iload_n X dX3_forgetSeasons_113 1 rfl ?_
                refine y_isub X (z := (nI ((ts T k) - (y1)))) dX3_forgetSeasons_114 (pk_sub (a := ts T k) (b := y1) (by omega)) ?_
                refine y_iast X (b + 3) dX3_forgetSeasons_115 (by omega) k3 (j := k) rfl (by omega) (by omega) ?_
                refine y_mem (va_up C2 (b + 3) (.inl (E.2.2.1 1, 24, .inl (upd zS2 (k) (nI ((ts T k) - (y1))))))) rfl (fun C_25 eC_26 => ?_)
                have h_27 : C_25 (b) = .inr (3, [.int (nI ((tn T) - (y1))), .ref (E.2.1 (b + 1)), .ref (E.2.1 (b + 2)), .int (nI (tr T)), .ref (E.2.1 (b + 3)), .ref (E.2.1 (b + 4))]) := by rw [eC_26, va_up, if_neg (by omega)]; exact k0
                have h_28 : C_25 (b + 1) = .inl (E.2.2.1 1, 240, .inl zK2) := by rw [eC_26, va_up, if_neg (by omega)]; exact k1
                have h_29 : C_25 (b + 2) = .inl (E.2.2.1 1, 240, .inl zD2) := by rw [eC_26, va_up, if_neg (by omega)]; exact k2
                have h_30 : C_25 (b + 3) = .inl (E.2.2.1 1, 24, .inl (upd zS2 (k) (nI ((ts T k) - (y1))))) := by rw [eC_26, va_up, if_pos rfl]
                have h_31 : C_25 (b + 4) = .inl (E.2.2.1 1, 192, .inl zV) := by rw [eC_26, va_up, if_neg (by omega)]; exact k4
                refine y_iinc X [(2, .int (nI (k + 1))), (0, .ref (E.2.1 (b))), (1, .int (nI (y1)))] dX3_forgetSeasons_116 2 rfl (nI_1 _) (by decide) rfl ?_
                refine y_goto X 98 dX3_forgetSeasons_119 (by decide) ?_
                refine y_pick [1, 2, 0] [(0, .ref (E.2.1 (b))), (1, .int (nI (y1))), (2, .int (nI (k + 1)))] rfl ?_
                exact ih98 (C_25) (zK2) (zD2) ((upd zS2 (k) (nI ((ts T k) - (y1))))) (k + 1) (by omega) h_27 h_28 h_29 h_30 h_31 (fun i9 g9 => by rw [eC_26, va_up, if_neg (by omega)]; rw [gF2 i9 g9]) gk5 gk6 (fun i q1 => by rcases Nat.lt_or_ge i k with q3 | q3; rw [pk_un (by omega)]; exact gA i q3; rw [show i = k by omega, pk_us]) (fun i q1 => by rw [pk_un (by omega)]; exact gC i (by omega)) (by omega)
          refine y_pick [1, 2, 0] [(0, .ref (E.2.1 (b))), (1, .int (nI (y1))), (2, .int (0))] rfl ?_
          exact L_98 _ (C_17) ((va_cpy zK zK ((y1) * (8)) (0) (((tn T) - (y1)) * (8)))) ((va_cpy zD zD ((y1) * (8)) (0) (((tn T) - (y1)) * (8)))) (zS) (0) (Nat.lt_succ_self _) h_19 h_20 h_21 h_22 h_23 (fun i9 g9 => by rw [eC_18, va_up, if_neg (by omega)]; rw [eC_11, va_up, if_neg (by omega)]; rw [eC_4, va_up, if_neg (by omega)]) rfl rfl (fun _ q1 => absurd q1 (Nat.not_lt_zero _)) (fun _ _ => rfl) (by omega)
        ·
          have c_2 := Decidable.of_not_not c_2
          refine y_sipush X (v := (-10005)) dX3_forgetSeasons_36 (by decide) ?_
          exact y_iret X hr dX3_forgetSeasons_39 rfl (by have ez : sFor T = (-10005, T) := (by rw [sFor, if_pos (by rw [fgm, ← gk7, ← gx]; omega)]); rw [ez]; exact ⟨rfl, gT, fun _ _ => rfl⟩)
      ·
        have gts := gw4 k (by omega)
        have gle := fgF_le (T := T) k
        refine y_iload_n X dX3_forgetSeasons_15 1 rfl ?_
        refine y_aload_n X dX3_forgetSeasons_16 0 rfl ?_
        refine y_get X (b) 3 4 (Cn := RX3) (T := TX3) (N := 6) (index := 25) (v := .ref (E.2.1 (b + 3))) dX3_forgetSeasons_17 (by omega) h0 rfl (by decide) inX3 (by decide +kernel : Cond.fieldLink RX3 25 "ColumnSeasons$Table" "rowSeasons" "[I" ∈ wsX3_forgetSeasons) rfl rfl ?_
        refine y_iload_n X dX3_forgetSeasons_20 2 rfl ?_
        refine y_iald X (b + 3) dX3_forgetSeasons_21 (by omega) h3 (j := k) rfl (by omega) (by omega) (z := (nI (ts T k))) (gS _ (by omega)) ?_
        refine y_min X (z := (nI ((if ts T k < y1 then ts T k else y1)))) dX3_forgetSeasons_22 (by decide +kernel) (by decide +kernel) (by decide +kernel) (by decide +kernel) (Nat.le_of_ble_eq_true rfl) (Nat.le_of_ble_eq_true rfl) ⟨Nat.zero_le _, Nat.zero_le _⟩ (nI_min (by omega) (by omega)) ?_
        refine y_istore_n X [(1, .int (nI ((if ts T k < y1 then ts T k else y1)))), (0, .ref (E.2.1 (b))), (2, .int (nI (k)))] dX3_forgetSeasons_25 rfl (by decide) rfl ?_
        refine y_iinc X [(2, .int (nI (k + 1))), (1, .int (nI ((if ts T k < y1 then ts T k else y1)))), (0, .ref (E.2.1 (b)))] dX3_forgetSeasons_26 2 rfl (nI_1 _) (by decide) rfl ?_
        refine y_goto X 7 dX3_forgetSeasons_29 (by decide) ?_
        refine y_pick [2, 1, 0] [(0, .ref (E.2.1 (b))), (1, .int (nI ((if ts T k < y1 then ts T k else y1)))), (2, .int (nI (k + 1)))] rfl ?_
        exact ih7 ((if ts T k < y1 then ts T k else y1)) (k + 1) (by omega) (by rw [fgF, ← gx]) (by omega)
  refine y_pick [2, 1, 0] [(0, .ref (E.2.1 (b))), (1, .int (nI ((tn T) - 1))), (2, .int (0))] rfl ?_
  exact L_7 _ (tn T - 1) (0) (Nat.lt_succ_self _) rfl (by omega)

set_option maxRecDepth 100000 in
set_option maxHeartbeats 4000000 in
theorem c_X3_copyFrom {l : Launch} {E : xE} {C : xC} {b b2 : Nat} {T0 T : Tb} (gb : b + 4 < 61) (gb2 : b2 + 4 < 61) (gd : b + 4 < b2 ∨ b2 + 4 < b) (gT0 : RC E C b T0) (gT : RC E C b2 T) (gw : WB T) : xM E l yX3_copyFrom wsX3_copyFrom 1 40 [.ref (E.2.1 (b)), .ref (E.2.1 (b2))] C (fun v C1 => v = none ∧ RC E C1 b T ∧ (∀ i : Nat, (i < b ∨ b + 4 < i) → C1 i = C i)) := by
  obtain ⟨zK0, zD0, zS0, zV0, h0, h1, h2, h3, h4, gK0, gD0, gS0, gV0⟩ := id gT0
  obtain ⟨zK, zD, zS, zV, m0, m1, m2, m3, m4, gK, gD, gS, gV⟩ := id gT
  obtain ⟨gw1, gw2, gw3, gw4⟩ := id gw
  refine xM_ofY (cc := cX3_copyFrom) (maxL := 2) (ret := none) (by decide) rfl (Nat.le_of_ble_eq_true rfl) ?_
  intro p e s m args below meth c X hr
  have inX3 : ∀ w ∈ wsX30, w ∈ wsX3_copyFrom := by decide +kernel
  refine y_lv [(0, .ref (E.2.1 (b))), (1, .ref (E.2.1 (b2)))] rfl ?_
  refine y_aload_n X dX3_copyFrom_0 0 rfl ?_
  refine y_aload_n X dX3_copyFrom_1 1 rfl ?_
  refine y_get X (b2) 3 0 (Cn := RX3) (T := TX3) (N := 6) (index := 9) (v := .int (nI (tn T))) dX3_copyFrom_2 (by omega) m0 rfl (by decide) inX3 (by decide +kernel : Cond.fieldLink RX3 9 "ColumnSeasons$Table" "seasons" "I" ∈ wsX3_copyFrom) rfl rfl ?_
  refine y_put X (b) 3 0 (Cn := RX3) (T := TX3) (N := 6) (index := 9) tyX3 (v := .int (nI (tn T))) dX3_copyFrom_5 (by omega) h0 rfl (by decide) inX3 (by decide +kernel : Cond.fieldLink RX3 9 "ColumnSeasons$Table" "seasons" "I" ∈ wsX3_copyFrom) rfl tyX3_ok nmX3 rfl rfl rfl (Nat.le_of_ble_eq_true rfl) ?_
  refine y_mem (va_up C (b) (.inr (3, [.int (nI (tn T)), .ref (E.2.1 (b + 1)), .ref (E.2.1 (b + 2)), .int (nI (tr T0)), .ref (E.2.1 (b + 3)), .ref (E.2.1 (b + 4))]))) rfl (fun C_1 eC_2 => ?_)
  have h_3 : C_1 (b) = .inr (3, [.int (nI (tn T)), .ref (E.2.1 (b + 1)), .ref (E.2.1 (b + 2)), .int (nI (tr T0)), .ref (E.2.1 (b + 3)), .ref (E.2.1 (b + 4))]) := by rw [eC_2, va_up, if_pos rfl]
  have h_4 : C_1 (b + 1) = .inl (E.2.2.1 1, 240, .inl zK0) := by rw [eC_2, va_up, if_neg (by omega)]; exact h1
  have h_5 : C_1 (b + 2) = .inl (E.2.2.1 1, 240, .inl zD0) := by rw [eC_2, va_up, if_neg (by omega)]; exact h2
  have h_6 : C_1 (b + 3) = .inl (E.2.2.1 1, 24, .inl zS0) := by rw [eC_2, va_up, if_neg (by omega)]; exact h3
  have h_7 : C_1 (b + 4) = .inl (E.2.2.1 1, 192, .inl zV0) := by rw [eC_2, va_up, if_neg (by omega)]; exact h4
  have h_8 : C_1 (b2) = .inr (3, [.int (nI (tn T)), .ref (E.2.1 (b2 + 1)), .ref (E.2.1 (b2 + 2)), .int (nI (tr T)), .ref (E.2.1 (b2 + 3)), .ref (E.2.1 (b2 + 4))]) := by rw [eC_2, va_up, if_neg (by omega)]; exact m0
  have h_9 : C_1 (b2 + 1) = .inl (E.2.2.1 1, 240, .inl zK) := by rw [eC_2, va_up, if_neg (by omega)]; exact m1
  have h_10 : C_1 (b2 + 2) = .inl (E.2.2.1 1, 240, .inl zD) := by rw [eC_2, va_up, if_neg (by omega)]; exact m2
  have h_11 : C_1 (b2 + 3) = .inl (E.2.2.1 1, 24, .inl zS) := by rw [eC_2, va_up, if_neg (by omega)]; exact m3
  have h_12 : C_1 (b2 + 4) = .inl (E.2.2.1 1, 192, .inl zV) := by rw [eC_2, va_up, if_neg (by omega)]; exact m4
  refine y_aload_n X dX3_copyFrom_8 1 rfl ?_
  refine y_get X (b2) 3 1 (Cn := RX3) (T := TX3) (N := 6) (index := 15) (v := .ref (E.2.1 (b2 + 1))) dX3_copyFrom_9 (by omega) h_8 rfl (by decide) inX3 (by decide +kernel : Cond.fieldLink RX3 15 "ColumnSeasons$Table" "kinds" "[I" ∈ wsX3_copyFrom) rfl rfl ?_
  refine y_iconst X (v := (0)) dX3_copyFrom_12 (by decide) ?_
  refine y_aload_n X dX3_copyFrom_13 0 rfl ?_
  refine y_get X (b) 3 1 (Cn := RX3) (T := TX3) (N := 6) (index := 15) (v := .ref (E.2.1 (b + 1))) dX3_copyFrom_14 (by omega) h_3 rfl (by decide) inX3 (by decide +kernel : Cond.fieldLink RX3 15 "ColumnSeasons$Table" "kinds" "[I" ∈ wsX3_copyFrom) rfl rfl ?_
  refine y_iconst X (v := (0)) dX3_copyFrom_17 (by decide) ?_
  refine y_aload_n X dX3_copyFrom_18 0 rfl ?_
  refine y_get X (b) 3 1 (Cn := RX3) (T := TX3) (N := 6) (index := 15) (v := .ref (E.2.1 (b + 1))) dX3_copyFrom_19 (by omega) h_3 rfl (by decide) inX3 (by decide +kernel : Cond.fieldLink RX3 15 "ColumnSeasons$Table" "kinds" "[I" ∈ wsX3_copyFrom) rfl rfl ?_
  refine y_alen X (b + 1) 1 dX3_copyFrom_22 (by omega) rfl h_4 rfl ?_
  refine y_copyi X (b2 + 1) (b + 1) (sp := 0) (dp := 0) (n := 240) dX3_copyFrom_23 (by decide +kernel) (by decide +kernel) (by decide +kernel) (by decide +kernel) (by omega) (by omega) h_9 h_4 rfl rfl rfl (by omega) (by omega) (by omega) (by omega) (Nat.le_of_ble_eq_true rfl) (Nat.le_of_ble_eq_true rfl) ?_
  refine y_mem (va_up C_1 (b + 1) (.inl (E.2.2.1 1, 240, .inl (va_cpy zK zK0 (0) (0) (240))))) rfl (fun C_13 eC_14 => ?_)
  have h_15 : C_13 (b) = .inr (3, [.int (nI (tn T)), .ref (E.2.1 (b + 1)), .ref (E.2.1 (b + 2)), .int (nI (tr T0)), .ref (E.2.1 (b + 3)), .ref (E.2.1 (b + 4))]) := by rw [eC_14, va_up, if_neg (by omega)]; exact h_3
  have h_16 : C_13 (b + 1) = .inl (E.2.2.1 1, 240, .inl (va_cpy zK zK0 (0) (0) (240))) := by rw [eC_14, va_up, if_pos rfl]
  have h_17 : C_13 (b + 2) = .inl (E.2.2.1 1, 240, .inl zD0) := by rw [eC_14, va_up, if_neg (by omega)]; exact h_5
  have h_18 : C_13 (b + 3) = .inl (E.2.2.1 1, 24, .inl zS0) := by rw [eC_14, va_up, if_neg (by omega)]; exact h_6
  have h_19 : C_13 (b + 4) = .inl (E.2.2.1 1, 192, .inl zV0) := by rw [eC_14, va_up, if_neg (by omega)]; exact h_7
  have h_20 : C_13 (b2) = .inr (3, [.int (nI (tn T)), .ref (E.2.1 (b2 + 1)), .ref (E.2.1 (b2 + 2)), .int (nI (tr T)), .ref (E.2.1 (b2 + 3)), .ref (E.2.1 (b2 + 4))]) := by rw [eC_14, va_up, if_neg (by omega)]; exact h_8
  have h_21 : C_13 (b2 + 1) = .inl (E.2.2.1 1, 240, .inl zK) := by rw [eC_14, va_up, if_neg (by omega)]; exact h_9
  have h_22 : C_13 (b2 + 2) = .inl (E.2.2.1 1, 240, .inl zD) := by rw [eC_14, va_up, if_neg (by omega)]; exact h_10
  have h_23 : C_13 (b2 + 3) = .inl (E.2.2.1 1, 24, .inl zS) := by rw [eC_14, va_up, if_neg (by omega)]; exact h_11
  have h_24 : C_13 (b2 + 4) = .inl (E.2.2.1 1, 192, .inl zV) := by rw [eC_14, va_up, if_neg (by omega)]; exact h_12
  refine y_aload_n X dX3_copyFrom_26 1 rfl ?_
  refine y_get X (b2) 3 2 (Cn := RX3) (T := TX3) (N := 6) (index := 19) (v := .ref (E.2.1 (b2 + 2))) dX3_copyFrom_27 (by omega) h_20 rfl (by decide) inX3 (by decide +kernel : Cond.fieldLink RX3 19 "ColumnSeasons$Table" "standards" "[I" ∈ wsX3_copyFrom) rfl rfl ?_
  refine y_iconst X (v := (0)) dX3_copyFrom_30 (by decide) ?_
  refine y_aload_n X dX3_copyFrom_31 0 rfl ?_
  refine y_get X (b) 3 2 (Cn := RX3) (T := TX3) (N := 6) (index := 19) (v := .ref (E.2.1 (b + 2))) dX3_copyFrom_32 (by omega) h_15 rfl (by decide) inX3 (by decide +kernel : Cond.fieldLink RX3 19 "ColumnSeasons$Table" "standards" "[I" ∈ wsX3_copyFrom) rfl rfl ?_
  refine y_iconst X (v := (0)) dX3_copyFrom_35 (by decide) ?_
  refine y_aload_n X dX3_copyFrom_36 0 rfl ?_
  refine y_get X (b) 3 2 (Cn := RX3) (T := TX3) (N := 6) (index := 19) (v := .ref (E.2.1 (b + 2))) dX3_copyFrom_37 (by omega) h_15 rfl (by decide) inX3 (by decide +kernel : Cond.fieldLink RX3 19 "ColumnSeasons$Table" "standards" "[I" ∈ wsX3_copyFrom) rfl rfl ?_
  refine y_alen X (b + 2) 1 dX3_copyFrom_40 (by omega) rfl h_17 rfl ?_
  refine y_copyi X (b2 + 2) (b + 2) (sp := 0) (dp := 0) (n := 240) dX3_copyFrom_41 (by decide +kernel) (by decide +kernel) (by decide +kernel) (by decide +kernel) (by omega) (by omega) h_22 h_17 rfl rfl rfl (by omega) (by omega) (by omega) (by omega) (Nat.le_of_ble_eq_true rfl) (Nat.le_of_ble_eq_true rfl) ?_
  refine y_mem (va_up C_13 (b + 2) (.inl (E.2.2.1 1, 240, .inl (va_cpy zD zD0 (0) (0) (240))))) rfl (fun C_25 eC_26 => ?_)
  have h_27 : C_25 (b) = .inr (3, [.int (nI (tn T)), .ref (E.2.1 (b + 1)), .ref (E.2.1 (b + 2)), .int (nI (tr T0)), .ref (E.2.1 (b + 3)), .ref (E.2.1 (b + 4))]) := by rw [eC_26, va_up, if_neg (by omega)]; exact h_15
  have h_28 : C_25 (b + 1) = .inl (E.2.2.1 1, 240, .inl (va_cpy zK zK0 (0) (0) (240))) := by rw [eC_26, va_up, if_neg (by omega)]; exact h_16
  have h_29 : C_25 (b + 2) = .inl (E.2.2.1 1, 240, .inl (va_cpy zD zD0 (0) (0) (240))) := by rw [eC_26, va_up, if_pos rfl]
  have h_30 : C_25 (b + 3) = .inl (E.2.2.1 1, 24, .inl zS0) := by rw [eC_26, va_up, if_neg (by omega)]; exact h_18
  have h_31 : C_25 (b + 4) = .inl (E.2.2.1 1, 192, .inl zV0) := by rw [eC_26, va_up, if_neg (by omega)]; exact h_19
  have h_32 : C_25 (b2) = .inr (3, [.int (nI (tn T)), .ref (E.2.1 (b2 + 1)), .ref (E.2.1 (b2 + 2)), .int (nI (tr T)), .ref (E.2.1 (b2 + 3)), .ref (E.2.1 (b2 + 4))]) := by rw [eC_26, va_up, if_neg (by omega)]; exact h_20
  have h_33 : C_25 (b2 + 1) = .inl (E.2.2.1 1, 240, .inl zK) := by rw [eC_26, va_up, if_neg (by omega)]; exact h_21
  have h_34 : C_25 (b2 + 2) = .inl (E.2.2.1 1, 240, .inl zD) := by rw [eC_26, va_up, if_neg (by omega)]; exact h_22
  have h_35 : C_25 (b2 + 3) = .inl (E.2.2.1 1, 24, .inl zS) := by rw [eC_26, va_up, if_neg (by omega)]; exact h_23
  have h_36 : C_25 (b2 + 4) = .inl (E.2.2.1 1, 192, .inl zV) := by rw [eC_26, va_up, if_neg (by omega)]; exact h_24
  refine y_aload_n X dX3_copyFrom_44 0 rfl ?_
  refine y_aload_n X dX3_copyFrom_45 1 rfl ?_
  refine y_get X (b2) 3 3 (Cn := RX3) (T := TX3) (N := 6) (index := 22) (v := .int (nI (tr T))) dX3_copyFrom_46 (by omega) h_32 rfl (by decide) inX3 (by decide +kernel : Cond.fieldLink RX3 22 "ColumnSeasons$Table" "rows" "I" ∈ wsX3_copyFrom) rfl rfl ?_
  refine y_put X (b) 3 3 (Cn := RX3) (T := TX3) (N := 6) (index := 22) tyX3 (v := .int (nI (tr T))) dX3_copyFrom_49 (by omega) h_27 rfl (by decide) inX3 (by decide +kernel : Cond.fieldLink RX3 22 "ColumnSeasons$Table" "rows" "I" ∈ wsX3_copyFrom) rfl tyX3_ok nmX3 rfl rfl rfl (Nat.le_of_ble_eq_true rfl) ?_
  refine y_mem (va_up C_25 (b) (.inr (3, [.int (nI (tn T)), .ref (E.2.1 (b + 1)), .ref (E.2.1 (b + 2)), .int (nI (tr T)), .ref (E.2.1 (b + 3)), .ref (E.2.1 (b + 4))]))) rfl (fun C_37 eC_38 => ?_)
  have h_39 : C_37 (b) = .inr (3, [.int (nI (tn T)), .ref (E.2.1 (b + 1)), .ref (E.2.1 (b + 2)), .int (nI (tr T)), .ref (E.2.1 (b + 3)), .ref (E.2.1 (b + 4))]) := by rw [eC_38, va_up, if_pos rfl]
  have h_40 : C_37 (b + 1) = .inl (E.2.2.1 1, 240, .inl (va_cpy zK zK0 (0) (0) (240))) := by rw [eC_38, va_up, if_neg (by omega)]; exact h_28
  have h_41 : C_37 (b + 2) = .inl (E.2.2.1 1, 240, .inl (va_cpy zD zD0 (0) (0) (240))) := by rw [eC_38, va_up, if_neg (by omega)]; exact h_29
  have h_42 : C_37 (b + 3) = .inl (E.2.2.1 1, 24, .inl zS0) := by rw [eC_38, va_up, if_neg (by omega)]; exact h_30
  have h_43 : C_37 (b + 4) = .inl (E.2.2.1 1, 192, .inl zV0) := by rw [eC_38, va_up, if_neg (by omega)]; exact h_31
  have h_44 : C_37 (b2) = .inr (3, [.int (nI (tn T)), .ref (E.2.1 (b2 + 1)), .ref (E.2.1 (b2 + 2)), .int (nI (tr T)), .ref (E.2.1 (b2 + 3)), .ref (E.2.1 (b2 + 4))]) := by rw [eC_38, va_up, if_neg (by omega)]; exact h_32
  have h_45 : C_37 (b2 + 1) = .inl (E.2.2.1 1, 240, .inl zK) := by rw [eC_38, va_up, if_neg (by omega)]; exact h_33
  have h_46 : C_37 (b2 + 2) = .inl (E.2.2.1 1, 240, .inl zD) := by rw [eC_38, va_up, if_neg (by omega)]; exact h_34
  have h_47 : C_37 (b2 + 3) = .inl (E.2.2.1 1, 24, .inl zS) := by rw [eC_38, va_up, if_neg (by omega)]; exact h_35
  have h_48 : C_37 (b2 + 4) = .inl (E.2.2.1 1, 192, .inl zV) := by rw [eC_38, va_up, if_neg (by omega)]; exact h_36
  refine y_aload_n X dX3_copyFrom_52 1 rfl ?_
  refine y_get X (b2) 3 4 (Cn := RX3) (T := TX3) (N := 6) (index := 25) (v := .ref (E.2.1 (b2 + 3))) dX3_copyFrom_53 (by omega) h_44 rfl (by decide) inX3 (by decide +kernel : Cond.fieldLink RX3 25 "ColumnSeasons$Table" "rowSeasons" "[I" ∈ wsX3_copyFrom) rfl rfl ?_
  refine y_iconst X (v := (0)) dX3_copyFrom_56 (by decide) ?_
  refine y_aload_n X dX3_copyFrom_57 0 rfl ?_
  refine y_get X (b) 3 4 (Cn := RX3) (T := TX3) (N := 6) (index := 25) (v := .ref (E.2.1 (b + 3))) dX3_copyFrom_58 (by omega) h_39 rfl (by decide) inX3 (by decide +kernel : Cond.fieldLink RX3 25 "ColumnSeasons$Table" "rowSeasons" "[I" ∈ wsX3_copyFrom) rfl rfl ?_
  refine y_iconst X (v := (0)) dX3_copyFrom_61 (by decide) ?_
  refine y_aload_n X dX3_copyFrom_62 0 rfl ?_
  refine y_get X (b) 3 4 (Cn := RX3) (T := TX3) (N := 6) (index := 25) (v := .ref (E.2.1 (b + 3))) dX3_copyFrom_63 (by omega) h_39 rfl (by decide) inX3 (by decide +kernel : Cond.fieldLink RX3 25 "ColumnSeasons$Table" "rowSeasons" "[I" ∈ wsX3_copyFrom) rfl rfl ?_
  refine y_alen X (b + 3) 1 dX3_copyFrom_66 (by omega) rfl h_42 rfl ?_
  refine y_copyi X (b2 + 3) (b + 3) (sp := 0) (dp := 0) (n := 24) dX3_copyFrom_67 (by decide +kernel) (by decide +kernel) (by decide +kernel) (by decide +kernel) (by omega) (by omega) h_47 h_42 rfl rfl rfl (by omega) (by omega) (by omega) (by omega) (Nat.le_of_ble_eq_true rfl) (Nat.le_of_ble_eq_true rfl) ?_
  refine y_mem (va_up C_37 (b + 3) (.inl (E.2.2.1 1, 24, .inl (va_cpy zS zS0 (0) (0) (24))))) rfl (fun C_49 eC_50 => ?_)
  have h_51 : C_49 (b) = .inr (3, [.int (nI (tn T)), .ref (E.2.1 (b + 1)), .ref (E.2.1 (b + 2)), .int (nI (tr T)), .ref (E.2.1 (b + 3)), .ref (E.2.1 (b + 4))]) := by rw [eC_50, va_up, if_neg (by omega)]; exact h_39
  have h_52 : C_49 (b + 1) = .inl (E.2.2.1 1, 240, .inl (va_cpy zK zK0 (0) (0) (240))) := by rw [eC_50, va_up, if_neg (by omega)]; exact h_40
  have h_53 : C_49 (b + 2) = .inl (E.2.2.1 1, 240, .inl (va_cpy zD zD0 (0) (0) (240))) := by rw [eC_50, va_up, if_neg (by omega)]; exact h_41
  have h_54 : C_49 (b + 3) = .inl (E.2.2.1 1, 24, .inl (va_cpy zS zS0 (0) (0) (24))) := by rw [eC_50, va_up, if_pos rfl]
  have h_55 : C_49 (b + 4) = .inl (E.2.2.1 1, 192, .inl zV0) := by rw [eC_50, va_up, if_neg (by omega)]; exact h_43
  have h_56 : C_49 (b2) = .inr (3, [.int (nI (tn T)), .ref (E.2.1 (b2 + 1)), .ref (E.2.1 (b2 + 2)), .int (nI (tr T)), .ref (E.2.1 (b2 + 3)), .ref (E.2.1 (b2 + 4))]) := by rw [eC_50, va_up, if_neg (by omega)]; exact h_44
  have h_57 : C_49 (b2 + 1) = .inl (E.2.2.1 1, 240, .inl zK) := by rw [eC_50, va_up, if_neg (by omega)]; exact h_45
  have h_58 : C_49 (b2 + 2) = .inl (E.2.2.1 1, 240, .inl zD) := by rw [eC_50, va_up, if_neg (by omega)]; exact h_46
  have h_59 : C_49 (b2 + 3) = .inl (E.2.2.1 1, 24, .inl zS) := by rw [eC_50, va_up, if_neg (by omega)]; exact h_47
  have h_60 : C_49 (b2 + 4) = .inl (E.2.2.1 1, 192, .inl zV) := by rw [eC_50, va_up, if_neg (by omega)]; exact h_48
  refine y_aload_n X dX3_copyFrom_70 1 rfl ?_
  refine y_get X (b2) 3 5 (Cn := RX3) (T := TX3) (N := 6) (index := 28) (v := .ref (E.2.1 (b2 + 4))) dX3_copyFrom_71 (by omega) h_56 rfl (by decide) inX3 (by decide +kernel : Cond.fieldLink RX3 28 "ColumnSeasons$Table" "values" "[I" ∈ wsX3_copyFrom) rfl rfl ?_
  refine y_iconst X (v := (0)) dX3_copyFrom_74 (by decide) ?_
  refine y_aload_n X dX3_copyFrom_75 0 rfl ?_
  refine y_get X (b) 3 5 (Cn := RX3) (T := TX3) (N := 6) (index := 28) (v := .ref (E.2.1 (b + 4))) dX3_copyFrom_76 (by omega) h_51 rfl (by decide) inX3 (by decide +kernel : Cond.fieldLink RX3 28 "ColumnSeasons$Table" "values" "[I" ∈ wsX3_copyFrom) rfl rfl ?_
  refine y_iconst X (v := (0)) dX3_copyFrom_79 (by decide) ?_
  refine y_aload_n X dX3_copyFrom_80 0 rfl ?_
  refine y_get X (b) 3 5 (Cn := RX3) (T := TX3) (N := 6) (index := 28) (v := .ref (E.2.1 (b + 4))) dX3_copyFrom_81 (by omega) h_51 rfl (by decide) inX3 (by decide +kernel : Cond.fieldLink RX3 28 "ColumnSeasons$Table" "values" "[I" ∈ wsX3_copyFrom) rfl rfl ?_
  refine y_alen X (b + 4) 1 dX3_copyFrom_84 (by omega) rfl h_55 rfl ?_
  refine y_copyi X (b2 + 4) (b + 4) (sp := 0) (dp := 0) (n := 192) dX3_copyFrom_85 (by decide +kernel) (by decide +kernel) (by decide +kernel) (by decide +kernel) (by omega) (by omega) h_60 h_55 rfl rfl rfl (by omega) (by omega) (by omega) (by omega) (Nat.le_of_ble_eq_true rfl) (Nat.le_of_ble_eq_true rfl) ?_
  refine y_mem (va_up C_49 (b + 4) (.inl (E.2.2.1 1, 192, .inl (va_cpy zV zV0 (0) (0) (192))))) rfl (fun C_61 eC_62 => ?_)
  have h_63 : C_61 (b) = .inr (3, [.int (nI (tn T)), .ref (E.2.1 (b + 1)), .ref (E.2.1 (b + 2)), .int (nI (tr T)), .ref (E.2.1 (b + 3)), .ref (E.2.1 (b + 4))]) := by rw [eC_62, va_up, if_neg (by omega)]; exact h_51
  have h_64 : C_61 (b + 1) = .inl (E.2.2.1 1, 240, .inl (va_cpy zK zK0 (0) (0) (240))) := by rw [eC_62, va_up, if_neg (by omega)]; exact h_52
  have h_65 : C_61 (b + 2) = .inl (E.2.2.1 1, 240, .inl (va_cpy zD zD0 (0) (0) (240))) := by rw [eC_62, va_up, if_neg (by omega)]; exact h_53
  have h_66 : C_61 (b + 3) = .inl (E.2.2.1 1, 24, .inl (va_cpy zS zS0 (0) (0) (24))) := by rw [eC_62, va_up, if_neg (by omega)]; exact h_54
  have h_67 : C_61 (b + 4) = .inl (E.2.2.1 1, 192, .inl (va_cpy zV zV0 (0) (0) (192))) := by rw [eC_62, va_up, if_pos rfl]
  have h_68 : C_61 (b2) = .inr (3, [.int (nI (tn T)), .ref (E.2.1 (b2 + 1)), .ref (E.2.1 (b2 + 2)), .int (nI (tr T)), .ref (E.2.1 (b2 + 3)), .ref (E.2.1 (b2 + 4))]) := by rw [eC_62, va_up, if_neg (by omega)]; exact h_56
  have h_69 : C_61 (b2 + 1) = .inl (E.2.2.1 1, 240, .inl zK) := by rw [eC_62, va_up, if_neg (by omega)]; exact h_57
  have h_70 : C_61 (b2 + 2) = .inl (E.2.2.1 1, 240, .inl zD) := by rw [eC_62, va_up, if_neg (by omega)]; exact h_58
  have h_71 : C_61 (b2 + 3) = .inl (E.2.2.1 1, 24, .inl zS) := by rw [eC_62, va_up, if_neg (by omega)]; exact h_59
  have h_72 : C_61 (b2 + 4) = .inl (E.2.2.1 1, 192, .inl zV) := by rw [eC_62, va_up, if_neg (by omega)]; exact h_60
  exact y_vret X hr dX3_copyFrom_88 rfl ⟨rfl, ⟨_, _, _, _, h_63, h_64, h_65, h_66, h_67, ⟨fun q j q1 q2 => by rw [cpyA (by omega)]; exact gK q j q1 q2, fun q j q1 q2 => by rw [cpyA (by omega)]; exact gD q j q1 q2, fun i q1 => by rw [cpyA (by omega)]; exact gS i q1, fun i j q1 q2 q3 => by rw [cpyA (by omega)]; exact gV i j q1 q2 q3⟩⟩, (fun i9 g9 => by rw [eC_62, va_up, if_neg (by omega)]; rw [eC_50, va_up, if_neg (by omega)]; rw [eC_38, va_up, if_neg (by omega)]; rw [eC_26, va_up, if_neg (by omega)]; rw [eC_14, va_up, if_neg (by omega)]; rw [eC_2, va_up, if_neg (by omega)])⟩
