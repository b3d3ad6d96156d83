set_option maxRecDepth 100000 in
set_option maxHeartbeats 4000000 in
theorem c_X3_valuesOfAllRows {l : Launch} {E : xE} {C : xC} {b : Nat} {T : Tb} (gb : b + 4 < 61) (gT : RC E C b T) (gw : WB T) : xR E l yX3_valuesOfAllRows wsX3_valuesOfAllRows 2 45 [.ref (E.2.1 (b))] C (allV T) := by
  obtain ⟨zK, zD, zS, zV, h0, h1, h2, h3, h4, gK, gD, gS, gV⟩ := id gT
  obtain ⟨gw1, gw2, gw3, gw4⟩ := id gw
  refine xM_ofY (cc := cX3_valuesOfAllRows) (maxL := 3) (ret := (some .int)) (by decide) rfl (Nat.le_of_ble_eq_true rfl) ?_
  intro p e s m args below meth c X hr
  have inX3 : ∀ w ∈ wsX30, w ∈ wsX3_valuesOfAllRows := by decide +kernel
  refine y_lv [(0, .ref (E.2.1 (b)))] rfl ?_
  refine y_iconst X (v := (0)) dX3_valuesOfAllRows_0 (by decide) ?_
  refine y_istore_n X [(1, .int (0)), (0, .ref (E.2.1 (b)))] dX3_valuesOfAllRows_1 rfl (by decide) rfl ?_
  refine y_iconst X (v := (0)) dX3_valuesOfAllRows_2 (by decide) ?_
  refine y_istore_n X [(2, .int (0)), (1, .int (0)), (0, .ref (E.2.1 (b)))] dX3_valuesOfAllRows_3 rfl (by decide) rfl ?_
  have L_4 : ∀ (n : Nat) (j : Nat) (x2 : Int32), tr T - j < n → (j ≤ tr T) → (x2 = sm (fun i => bcn (nmS T (ts T i))) j) → xY p l e ({ frames := 2, cells := 0, slots := 0, locals := 45 } : Room) s m args below meth c E (xA E) 3 0 0 (MQ below (xQ E (fun v C1 => v = some (.int (allV T)) ∧ C1 = C)) args s 0 0 (xA E)) C 4 [(0, .ref (E.2.1 (b))), (1, .int x2), (2, .int (nI (j)))] [] := by
    intro n4
    induction n4 with
    | zero => intro _ _ hm4; exact absurd hm4 (Nat.not_lt_zero _)
    | succ n4 ih4 =>
      intro j x2 hm4 gj gx
      refine y_iload_n X dX3_valuesOfAllRows_4 2 rfl ?_
      refine y_aload_n X dX3_valuesOfAllRows_5 0 rfl ?_
      refine y_get X (b) 3 3 (Cn := RX3) (T := TX3) (N := 6) (index := 22) (v := .int (nI (tr T))) dX3_valuesOfAllRows_6 (by omega) h0 rfl (by decide) inX3 (by decide +kernel : Cond.fieldLink RX3 22 "ColumnSeasons$Table" "rows" "I" ∈ wsX3_valuesOfAllRows) rfl rfl ?_
      refine y_icmp_ge X 34 ((tr T) ≤ (j)) dX3_valuesOfAllRows_9 (by decide) (nI_leI (a := tr T) (b := j) (by omega) (by omega)) (fun c_1 => ?_) (fun c_1 => ?_)
      ·
        refine y_iload_n X dX3_valuesOfAllRows_34 1 rfl ?_
        exact y_iret X hr dX3_valuesOfAllRows_35 rfl ⟨by rw [gx, show j = tr T by omega]; rfl, rfl⟩
      ·
        refine y_iload_n X dX3_valuesOfAllRows_12 1 rfl ?_
        refine y_aload_n X dX3_valuesOfAllRows_13 0 rfl ?_
        refine y_aload_n X dX3_valuesOfAllRows_14 0 rfl ?_
        refine y_get X (b) 3 4 (Cn := RX3) (T := TX3) (N := 6) (index := 25) (v := .ref (E.2.1 (b + 3))) dX3_valuesOfAllRows_15 (by omega) h0 rfl (by decide) inX3 (by decide +kernel : Cond.fieldLink RX3 25 "ColumnSeasons$Table" "rowSeasons" "[I" ∈ wsX3_valuesOfAllRows) rfl rfl ?_
        refine y_iload_n X dX3_valuesOfAllRows_18 2 rfl ?_
        have gts := gw4 j (by omega)
        refine y_iald X (b + 3) dX3_valuesOfAllRows_19 (by omega) h3 (j := j) rfl (by omega) (by omega) (z := (nI (ts T (j)))) (gS _ (by omega)) ?_
        refine y_callVr X (b) 3 (av := [.int (nI (ts T (j)))]) [.int x2] 1 (c_X3_namesIn (b := b) (by omega) gT gw (q := ts T (j)) (by omega)) (by omega) h0 rfl gX3_valuesOfAllRows_X3_namesIn rfl (by decide +kernel) rfl ⟨Nat.le_of_ble_eq_true rfl, Nat.le_of_ble_eq_true rfl⟩ ⟨Nat.zero_le _, Nat.zero_le _⟩ (Nat.le_of_ble_eq_true rfl) rfl dX3_valuesOfAllRows_20 ?_
        refine y_callJr X (av := [.int (nmS T (ts T (j)))]) [.int x2] 1 (c_J6_bitCount_0f7a4 (x := (nmS T (ts T (j))))) gX3_valuesOfAllRows_J6_bitCount_0f7a4 rfl (by decide +kernel) rfl ⟨Nat.le_of_ble_eq_true rfl, Nat.le_of_ble_eq_true rfl⟩ ⟨Nat.zero_le _, Nat.zero_le _⟩ (Nat.le_of_ble_eq_true rfl) rfl dX3_valuesOfAllRows_23 ?_
        refine y_iadd X (z := (x2 + (bcn (nmS T (ts T (j)))))) dX3_valuesOfAllRows_26 rfl ?_
        refine y_istore_n X [(1, .int (x2 + (bcn (nmS T (ts T (j)))))), (0, .ref (E.2.1 (b))), (2, .int (nI (j)))] dX3_valuesOfAllRows_27 rfl (by decide) rfl ?_
        refine y_iinc X [(2, .int (nI (j + 1))), (1, .int (x2 + (bcn (nmS T (ts T (j)))))), (0, .ref (E.2.1 (b)))] dX3_valuesOfAllRows_28 2 rfl (nI_1 _) (by decide) rfl ?_
        refine y_goto X 4 dX3_valuesOfAllRows_31 (by decide) ?_
        refine y_pick [2, 1, 0] [(0, .ref (E.2.1 (b))), (1, .int (x2 + (bcn (nmS T (ts T (j)))))), (2, .int (nI (j + 1)))] rfl ?_
        exact ih4 (j + 1) ((x2 + (bcn (nmS T (ts T (j)))))) (by omega) (by omega) (by rw [gx]; rfl)
  refine y_pick [2, 1, 0] [(0, .ref (E.2.1 (b))), (1, .int (0)), (2, .int (0))] rfl ?_
  exact L_4 _ (0) (0) (Nat.lt_succ_self _) (by omega) rfl

set_option maxRecDepth 100000 in
set_option maxHeartbeats 4000000 in
theorem c_X3_readIn {l : Launch} {E : xE} {C : xC} {b : Nat} {T : Tb} (gb : b + 4 < 61) (gT : RC E C b T) (gw : WB T) {q i j : Nat} (gq : q < tn T) (gi : i < tr T) (gj : j < 8) : xR E l yX3_readIn wsX3_readIn 2 44 [.ref (E.2.1 (b)), .int (nI (q)), .int (nI (i)), .int (nI (j))] C (rdC T q i j) := by
  obtain ⟨zK, zD, zS, zV, h0, h1, h2, h3, h4, gK, gD, gS, gV⟩ := id gT
  obtain ⟨gw1, gw2, gw3, gw4⟩ := id gw
  refine xM_ofY (cc := cX3_readIn) (maxL := 4) (ret := (some .int)) (by decide) rfl (Nat.le_of_ble_eq_true rfl) ?_
  intro p e s m args below meth c X hr
  refine y_lv [(0, .ref (E.2.1 (b))), (1, .int (nI (q))), (2, .int (nI (i))), (3, .int (nI (j)))] rfl ?_
  refine y_aload_n X dX3_readIn_0 0 rfl ?_
  refine y_iload_n X dX3_readIn_1 2 rfl ?_
  refine y_iload_n X dX3_readIn_2 3 rfl ?_
  refine y_callVr X (b) 3 (av := [.int (nI (i)), .int (nI (j))]) [] 2 (c_X3_kindInRow (b := b) (by omega) gT gw (i := i) (j := j) (by omega) (by omega)) (by omega) h0 rfl gX3_readIn_X3_kindInRow rfl (by decide +kernel) rfl ⟨Nat.le_of_ble_eq_true rfl, Nat.le_of_ble_eq_true rfl⟩ ⟨Nat.zero_le _, Nat.zero_le _⟩ (Nat.le_of_ble_eq_true rfl) rfl dX3_readIn_3 ?_
  refine y_iconst X (v := (-1)) dX3_readIn_6 (by decide) ?_
  refine y_icmp_ne X 17 (¬ ((tk T (ts T (i)) (j)) = (-1))) dX3_readIn_7 (by decide) Iff.rfl (fun c_1 => ?_) (fun c_1 => ?_)
  ·
    refine y_aload_n X dX3_readIn_17 0 rfl ?_
    refine y_iload_n X dX3_readIn_18 1 rfl ?_
    refine y_iload_n X dX3_readIn_19 3 rfl ?_
    refine y_callVr X (b) 3 (av := [.int (nI (q)), .int (nI (j))]) [] 2 (c_X3_kindIn (b := b) (by omega) gT gw (q := q) (j := j) (by omega) (by omega)) (by omega) h0 rfl gX3_readIn_X3_kindIn rfl (by decide +kernel) rfl ⟨Nat.le_of_ble_eq_true rfl, Nat.le_of_ble_eq_true rfl⟩ ⟨Nat.zero_le _, Nat.zero_le _⟩ (Nat.le_of_ble_eq_true rfl) rfl dX3_readIn_20 ?_
    refine y_aload_n X dX3_readIn_23 0 rfl ?_
    refine y_iload_n X dX3_readIn_24 2 rfl ?_
    refine y_iload_n X dX3_readIn_25 3 rfl ?_
    refine y_callVr X (b) 3 (av := [.int (nI (i)), .int (nI (j))]) [.int (tk T (q) (j))] 2 (c_X3_valueAt (b := b) (by omega) gT gw (i := i) (j := j) (by omega) (by omega) (by assumption)) (by omega) h0 rfl gX3_readIn_X3_valueAt rfl (by decide +kernel) rfl ⟨Nat.le_of_ble_eq_true rfl, Nat.le_of_ble_eq_true rfl⟩ ⟨Nat.zero_le _, Nat.zero_le _⟩ (Nat.le_of_ble_eq_true rfl) rfl dX3_readIn_26 ?_
    refine y_callNr X (av := [.int (tk T (q) (j)), .int (tv T (i) (j))]) [] 2 (c_X4_castTo (x := (tk T (q) (j))) (y := (tv T (i) (j)))) gX3_readIn_X4_castTo_n69 (by decide +kernel) (by decide +kernel) (by decide +kernel) rfl (by decide +kernel) rfl ⟨Nat.le_of_ble_eq_true rfl, Nat.le_of_ble_eq_true rfl⟩ ⟨Nat.zero_le _, Nat.zero_le _⟩ (Nat.le_of_ble_eq_true rfl) rfl dX3_readIn_29 ?_
    exact y_iret X hr dX3_readIn_32 rfl ⟨by simp [rdC, c_1], rfl⟩
  ·
    have c_1 := Decidable.of_not_not c_1
    refine y_aload_n X dX3_readIn_10 0 rfl ?_
    refine y_iload_n X dX3_readIn_11 1 rfl ?_
    refine y_iload_n X dX3_readIn_12 3 rfl ?_
    refine y_callVr X (b) 3 (av := [.int (nI (q)), .int (nI (j))]) [] 2 (c_X3_standardIn (b := b) (by omega) gT gw (q := q) (j := j) (by omega) (by omega)) (by omega) h0 rfl gX3_readIn_X3_standardIn rfl (by decide +kernel) rfl ⟨Nat.le_of_ble_eq_true rfl, Nat.le_of_ble_eq_true rfl⟩ ⟨Nat.zero_le _, Nat.zero_le _⟩ (Nat.le_of_ble_eq_true rfl) rfl dX3_readIn_13 ?_
    exact y_iret X hr dX3_readIn_16 rfl ⟨by simp [rdC, c_1], rfl⟩

set_option maxRecDepth 100000 in
set_option maxHeartbeats 4000000 in
theorem c_X3_howReadIn {l : Launch} {E : xE} {C : xC} {b : Nat} {T : Tb} (gb : b + 4 < 61) (gT : RC E C b T) (gw : WB T) {q i j : Nat} (gq : q < tn T) (gi : i < tr T) (gj : j < 8) : xR E l yX3_howReadIn wsX3_howReadIn 3 63 [.ref (E.2.1 (b)), .int (nI (q)), .int (nI (i)), .int (nI (j))] C (howC T q i j) := by
  obtain ⟨zK, zD, zS, zV, h0, h1, h2, h3, h4, gK, gD, gS, gV⟩ := id gT
  obtain ⟨gw1, gw2, gw3, gw4⟩ := id gw
  refine xM_ofY (cc := cX3_howReadIn) (maxL := 6) (ret := (some .int)) (by decide) rfl (Nat.le_of_ble_eq_true rfl) ?_
  intro p e s m args below meth c X hr
  refine y_lv [(0, .ref (E.2.1 (b))), (1, .int (nI (q))), (2, .int (nI (i))), (3, .int (nI (j)))] rfl ?_
  refine y_aload_n X dX3_howReadIn_0 0 rfl ?_
  refine y_iload_n X dX3_howReadIn_1 2 rfl ?_
  refine y_iload_n X dX3_howReadIn_2 3 rfl ?_
  refine y_callVr X (b) 3 (av := [.int (nI (i)), .int (nI (j))]) [] 2 (c_X3_kindInRow (b := b) (by omega) gT gw (i := i) (j := j) (by omega) (by omega)) (by omega) h0 rfl gX3_howReadIn_X3_kindInRow rfl (by decide +kernel) rfl ⟨Nat.le_of_ble_eq_true rfl, Nat.le_of_ble_eq_true rfl⟩ ⟨Nat.zero_le _, Nat.zero_le _⟩ (Nat.le_of_ble_eq_true rfl) rfl dX3_howReadIn_3 ?_
  refine y_istore X [(4, .int (tk T (ts T (i)) (j))), (0, .ref (E.2.1 (b))), (1, .int (nI (q))), (2, .int (nI (i))), (3, .int (nI (j)))] dX3_howReadIn_6 (by decide) rfl ?_
  refine y_aload_n X dX3_howReadIn_8 1 rfl ?_
  refine y_iload_n X dX3_howReadIn_9 2 rfl ?_
  refine y_iload_n X dX3_howReadIn_10 4 rfl ?_
  refine y_callVr X (b) 3 (av := [.int (nI (q)), .int (nI (j))]) [] 2 (c_X3_kindIn (b := b) (by omega) gT gw (q := q) (j := j) (by omega) (by omega)) (by omega) h0 rfl gX3_howReadIn_X3_kindIn rfl (by decide +kernel) rfl ⟨Nat.le_of_ble_eq_true rfl, Nat.le_of_ble_eq_true rfl⟩ ⟨Nat.zero_le _, Nat.zero_le _⟩ (Nat.le_of_ble_eq_true rfl) rfl dX3_howReadIn_11 ?_
  refine y_istore X [(5, .int (tk T (q) (j))), (4, .int (tk T (ts T (i)) (j))), (0, .ref (E.2.1 (b))), (1, .int (nI (q))), (2, .int (nI (i))), (3, .int (nI (j)))] dX3_howReadIn_14 (by decide) rfl ?_
  refine y_iload X dX3_howReadIn_16 1 rfl ?_
  refine y_iconst X (v := (-1)) dX3_howReadIn_18 (by decide) ?_
  refine y_icmp_ne X 24 (¬ ((tk T (ts T (i)) (j)) = (-1))) dX3_howReadIn_19 (by decide) Iff.rfl (fun c_1 => ?_) (fun c_1 => ?_)
  ·
    refine y_iload X dX3_howReadIn_24 1 rfl ?_
    refine y_iload X dX3_howReadIn_26 0 rfl ?_
    refine y_icmp_ne X 33 (¬ ((tk T (ts T (i)) (j)) = (tk T (q) (j)))) dX3_howReadIn_28 (by decide) Iff.rfl (fun c_2 => ?_) (fun c_2 => ?_)
    ·
      refine y_aload_n X dX3_howReadIn_33 2 rfl ?_
      refine y_iload_n X dX3_howReadIn_34 4 rfl ?_
      refine y_iload_n X dX3_howReadIn_35 5 rfl ?_
      refine y_callVr X (b) 3 (av := [.int (nI (i)), .int (nI (j))]) [] 2 (c_X3_valueAt (b := b) (by omega) gT gw (i := i) (j := j) (by omega) (by omega) (by assumption)) (by omega) h0 rfl gX3_howReadIn_X3_valueAt rfl (by decide +kernel) rfl ⟨Nat.le_of_ble_eq_true rfl, Nat.le_of_ble_eq_true rfl⟩ ⟨Nat.zero_le _, Nat.zero_le _⟩ (Nat.le_of_ble_eq_true rfl) rfl dX3_howReadIn_36 ?_
      refine y_iload X dX3_howReadIn_39 1 rfl ?_
      refine y_iload X dX3_howReadIn_41 0 rfl ?_
      refine y_callNr X (av := [.int (tv T (i) (j)), .int (tk T (ts T (i)) (j)), .int (tk T (q) (j))]) [] 3 (c_X4_castLoses (x := (tv T (i) (j))) (y := (tk T (ts T (i)) (j))) (z := (tk T (q) (j)))) gX3_howReadIn_X4_castLoses_n105 (by decide +kernel) (by decide +kernel) (by decide +kernel) rfl (by decide +kernel) rfl ⟨Nat.le_of_ble_eq_true rfl, Nat.le_of_ble_eq_true rfl⟩ ⟨Nat.zero_le _, Nat.zero_le _⟩ (Nat.le_of_ble_eq_true rfl) rfl dX3_howReadIn_43 ?_
      refine y_if_eq X 53 (¬ (¬ cstC (tk T (ts T (i)) (j)) (cstC (tk T (q) (j)) (tv T (i) (j))) = (tv T (i) (j)))) dX3_howReadIn_46 (by decide) bI_eq (fun c_3 => ?_) (fun c_3 => ?_)
      ·
        refine y_iconst X (v := (1)) dX3_howReadIn_53 (by decide) ?_
        exact y_iret X hr dX3_howReadIn_54 rfl ⟨by show _ = some (Value.int (howC T q i j)); rw [howC, if_neg c_1, if_neg c_2, if_neg c_3], rfl⟩
      ·
        have c_3 := Decidable.of_not_not c_3
        refine y_iconst X (v := (2)) dX3_howReadIn_49 (by decide) ?_
        refine y_goto X 54 dX3_howReadIn_50 (by decide) ?_
        exact y_iret X hr dX3_howReadIn_54 rfl ⟨by show _ = some (Value.int (howC T q i j)); rw [howC, if_neg c_1, if_neg c_2, if_pos c_3], rfl⟩
    ·
      have c_2 := Decidable.of_not_not c_2
      refine y_iconst X (v := (0)) dX3_howReadIn_31 (by decide) ?_
      exact y_iret X hr dX3_howReadIn_32 rfl ⟨by show _ = some (Value.int (howC T q i j)); rw [howC, if_neg c_1, if_pos c_2], rfl⟩
  ·
    have c_1 := Decidable.of_not_not c_1
    refine y_iconst X (v := (3)) dX3_howReadIn_22 (by decide) ?_
    exact y_iret X hr dX3_howReadIn_23 rfl ⟨by show _ = some (Value.int (howC T q i j)); rw [howC, if_pos c_1], rfl⟩

set_option maxRecDepth 100000 in
set_option maxHeartbeats 4000000 in
theorem c_X3_lossesOfRowIn {l : Launch} {E : xE} {C : xC} {b : Nat} {T : Tb} (gb : b + 4 < 61) (gT : RC E C b T) (gw : WB T) {q i : Nat} (gq : q < tn T) (gi : i < tr T) : xR E l yX3_lossesOfRowIn wsX3_lossesOfRowIn 3 63 [.ref (E.2.1 (b)), .int (nI (q)), .int (nI (i))] C (lsR T q i) := by
  obtain ⟨zK, zD, zS, zV, h0, h1, h2, h3, h4, gK, gD, gS, gV⟩ := id gT
  obtain ⟨gw1, gw2, gw3, gw4⟩ := id gw
  refine xM_ofY (cc := cX3_lossesOfRowIn) (maxL := 7) (ret := (some .int)) (by decide) rfl (Nat.le_of_ble_eq_true rfl) ?_
  intro p e s m args below meth c X hr
  refine y_lv [(0, .ref (E.2.1 (b))), (1, .int (nI (q))), (2, .int (nI (i)))] rfl ?_
  refine y_iconst X (v := (0)) dX3_lossesOfRowIn_0 (by decide) ?_
  refine y_istore_n X [(3, .int (0)), (0, .ref (E.2.1 (b))), (1, .int (nI (q))), (2, .int (nI (i)))] dX3_lossesOfRowIn_1 rfl (by decide) rfl ?_
  refine y_iconst X (v := (0)) dX3_lossesOfRowIn_2 (by decide) ?_
  refine y_istore X [(4, .int (0)), (3, .int (0)), (0, .ref (E.2.1 (b))), (1, .int (nI (q))), (2, .int (nI (i)))] dX3_lossesOfRowIn_3 (by decide) rfl ?_
  have L_5 : ∀ (n : Nat) (j : Nat) (x2 : Int32), 8 - j < n → (j ≤ 8) → (x2 = sm (fun j => if lostC T q i j then 1 else 0) j) → xY p l e ({ frames := 3, cells := 0, slots := 0, locals := 63 } : Room) s m args below meth c E (xA E) 7 0 0 (MQ below (xQ E (fun v C1 => v = some (.int (lsR T q i)) ∧ C1 = C)) args s 0 0 (xA E)) C 5 [(0, .ref (E.2.1 (b))), (1, .int (nI (q))), (2, .int (nI (i))), (3, .int x2), (4, .int (nI (j)))] [] := by
    intro n5
    induction n5 with
    | zero => intro _ _ hm5; exact absurd hm5 (Nat.not_lt_zero _)
    | succ n5 ih5 =>
      intro j x2 hm5 gj gx
      refine y_iload X dX3_lossesOfRowIn_5 4 rfl ?_
      refine y_bipush X (v := (8)) dX3_lossesOfRowIn_7 (by decide) ?_
      refine y_icmp_ge X 68 ((8) ≤ (j)) dX3_lossesOfRowIn_9 (by decide) (nI_leI (a := 8) (b := j) (by omega) (by omega)) (fun c_1 => ?_) (fun c_1 => ?_)
      ·
        refine y_iload_n X dX3_lossesOfRowIn_68 3 rfl ?_
        exact y_iret X hr dX3_lossesOfRowIn_69 rfl ⟨by rw [gx, show j = 8 by omega]; rfl, rfl⟩
      ·
        refine y_aload_n X dX3_lossesOfRowIn_12 0 rfl ?_
        refine y_iload_n X dX3_lossesOfRowIn_13 2 rfl ?_
        refine y_iload X dX3_lossesOfRowIn_14 4 rfl ?_
        refine y_callVr X (b) 3 (av := [.int (nI (i)), .int (nI (j))]) [] 2 (c_X3_kindInRow (b := b) (by omega) gT gw (i := i) (j := j) (by omega) (by omega)) (by omega) h0 rfl gX3_lossesOfRowIn_X3_kindInRow rfl (by decide +kernel) rfl ⟨Nat.le_of_ble_eq_true rfl, Nat.le_of_ble_eq_true rfl⟩ ⟨Nat.zero_le _, Nat.zero_le _⟩ (Nat.le_of_ble_eq_true rfl) rfl dX3_lossesOfRowIn_16 ?_
        refine y_istore X [(5, .int (tk T (ts T (i)) (j))), (0, .ref (E.2.1 (b))), (1, .int (nI (q))), (2, .int (nI (i))), (3, .int x2), (4, .int (nI (j)))] dX3_lossesOfRowIn_19 (by decide) rfl ?_
        refine y_aload_n X dX3_lossesOfRowIn_21 1 rfl ?_
        refine y_iload_n X dX3_lossesOfRowIn_22 2 rfl ?_
        refine y_iload X dX3_lossesOfRowIn_23 5 rfl ?_
        refine y_callVr X (b) 3 (av := [.int (nI (q)), .int (nI (j))]) [] 2 (c_X3_kindIn (b := b) (by omega) gT gw (q := q) (j := j) (by omega) (by omega)) (by omega) h0 rfl gX3_lossesOfRowIn_X3_kindIn rfl (by decide +kernel) rfl ⟨Nat.le_of_ble_eq_true rfl, Nat.le_of_ble_eq_true rfl⟩ ⟨Nat.zero_le _, Nat.zero_le _⟩ (Nat.le_of_ble_eq_true rfl) rfl dX3_lossesOfRowIn_25 ?_
        refine y_istore X [(6, .int (tk T (q) (j))), (5, .int (tk T (ts T (i)) (j))), (0, .ref (E.2.1 (b))), (1, .int (nI (q))), (2, .int (nI (i))), (3, .int x2), (4, .int (nI (j)))] dX3_lossesOfRowIn_28 (by decide) rfl ?_
        refine y_iload X dX3_lossesOfRowIn_30 1 rfl ?_
        refine y_iconst X (v := (-1)) dX3_lossesOfRowIn_32 (by decide) ?_
        refine y_icmp_eq X 62 ((tk T (ts T (i)) (j)) = (-1)) dX3_lossesOfRowIn_33 (by decide) Iff.rfl (fun c_2 => ?_) (fun c_2 => ?_)
        ·
          refine y_iinc X [(4, .int (nI (j + 1))), (6, .int (tk T (q) (j))), (5, .int (tk T (ts T (i)) (j))), (0, .ref (E.2.1 (b))), (1, .int (nI (q))), (2, .int (nI (i))), (3, .int x2)] dX3_lossesOfRowIn_62 6 rfl (nI_1 _) (by decide) rfl ?_
          refine y_goto X 5 dX3_lossesOfRowIn_65 (by decide) ?_
          refine y_pick [3, 4, 5, 6, 0] [(0, .ref (E.2.1 (b))), (1, .int (nI (q))), (2, .int (nI (i))), (3, .int x2), (4, .int (nI (j + 1)))] rfl ?_
          exact ih5 (j + 1) (x2) (by omega) (by omega) (by rw [gx]; show _ = sm _ _ + (if _ then _ else _); rw [if_neg (fun z => z.1 c_2), Int32.add_zero])
        ·
          refine y_iload X dX3_lossesOfRowIn_36 0 rfl ?_
          refine y_iconst X (v := (-1)) dX3_lossesOfRowIn_38 (by decide) ?_
          refine y_icmp_eq X 59 ((tk T (q) (j)) = (-1)) dX3_lossesOfRowIn_39 (by decide) Iff.rfl (fun c_3 => ?_) (fun c_3 => ?_)
          ·
            refine y_iinc X [(3, .int (x2 + 1)), (6, .int (tk T (q) (j))), (5, .int (tk T (ts T (i)) (j))), (0, .ref (E.2.1 (b))), (1, .int (nI (q))), (2, .int (nI (i))), (4, .int (nI (j)))] dX3_lossesOfRowIn_59 5 rfl rfl (by decide) rfl ?_
            refine y_iinc X [(4, .int (nI (j + 1))), (3, .int (x2 + 1)), (6, .int (tk T (q) (j))), (5, .int (tk T (ts T (i)) (j))), (0, .ref (E.2.1 (b))), (1, .int (nI (q))), (2, .int (nI (i)))] dX3_lossesOfRowIn_62 6 rfl (nI_1 _) (by decide) rfl ?_
            refine y_goto X 5 dX3_lossesOfRowIn_65 (by decide) ?_
            refine y_pick [4, 5, 6, 1, 0] [(0, .ref (E.2.1 (b))), (1, .int (nI (q))), (2, .int (nI (i))), (3, .int (x2 + 1)), (4, .int (nI (j + 1)))] rfl ?_
            exact ih5 (j + 1) ((x2 + 1)) (by omega) (by omega) (by rw [gx]; show _ = sm _ _ + (if _ then _ else _); rw [if_pos ⟨c_2, Or.inl c_3⟩])
          ·
            refine y_aload_n X dX3_lossesOfRowIn_42 2 rfl ?_
            refine y_iload_n X dX3_lossesOfRowIn_43 4 rfl ?_
            refine y_iload X dX3_lossesOfRowIn_44 6 rfl ?_
            refine y_callVr X (b) 3 (av := [.int (nI (i)), .int (nI (j))]) [] 2 (c_X3_valueAt (b := b) (by omega) gT gw (i := i) (j := j) (by omega) (by omega) (by assumption)) (by omega) h0 rfl gX3_lossesOfRowIn_X3_valueAt rfl (by decide +kernel) rfl ⟨Nat.le_of_ble_eq_true rfl, Nat.le_of_ble_eq_true rfl⟩ ⟨Nat.zero_le _, Nat.zero_le _⟩ (Nat.le_of_ble_eq_true rfl) rfl dX3_lossesOfRowIn_46 ?_
            refine y_iload X dX3_lossesOfRowIn_49 1 rfl ?_
            refine y_iload X dX3_lossesOfRowIn_51 0 rfl ?_
            refine y_callNr X (av := [.int (tv T (i) (j)), .int (tk T (ts T (i)) (j)), .int (tk T (q) (j))]) [] 3 (c_X4_castLoses (x := (tv T (i) (j))) (y := (tk T (ts T (i)) (j))) (z := (tk T (q) (j)))) gX3_lossesOfRowIn_X4_castLoses_n105 (by decide +kernel) (by decide +kernel) (by decide +kernel) rfl (by decide +kernel) rfl ⟨Nat.le_of_ble_eq_true rfl, Nat.le_of_ble_eq_true rfl⟩ ⟨Nat.zero_le _, Nat.zero_le _⟩ (Nat.le_of_ble_eq_true rfl) rfl dX3_lossesOfRowIn_53 ?_
            refine y_if_eq X 62 (¬ (¬ cstC (tk T (ts T (i)) (j)) (cstC (tk T (q) (j)) (tv T (i) (j))) = (tv T (i) (j)))) dX3_lossesOfRowIn_56 (by decide) bI_eq (fun c_4 => ?_) (fun c_4 => ?_)
            ·
              refine y_iinc X [(4, .int (nI (j + 1))), (6, .int (tk T (q) (j))), (5, .int (tk T (ts T (i)) (j))), (0, .ref (E.2.1 (b))), (1, .int (nI (q))), (2, .int (nI (i))), (3, .int x2)] dX3_lossesOfRowIn_62 6 rfl (nI_1 _) (by decide) rfl ?_
              refine y_goto X 5 dX3_lossesOfRowIn_65 (by decide) ?_
              refine y_pick [3, 4, 5, 6, 0] [(0, .ref (E.2.1 (b))), (1, .int (nI (q))), (2, .int (nI (i))), (3, .int x2), (4, .int (nI (j + 1)))] rfl ?_
              exact ih5 (j + 1) (x2) (by omega) (by omega) (by rw [gx]; show _ = sm _ _ + (if _ then _ else _); rw [if_neg (fun z => z.2.elim c_3 c_4), Int32.add_zero])
            ·
              have c_4 := Decidable.of_not_not c_4
              refine y_iinc X [(3, .int (x2 + 1)), (6, .int (tk T (q) (j))), (5, .int (tk T (ts T (i)) (j))), (0, .ref (E.2.1 (b))), (1, .int (nI (q))), (2, .int (nI (i))), (4, .int (nI (j)))] dX3_lossesOfRowIn_59 5 rfl rfl (by decide) rfl ?_
              refine y_iinc X [(4, .int (nI (j + 1))), (3, .int (x2 + 1)), (6, .int (tk T (q) (j))), (5, .int (tk T (ts T (i)) (j))), (0, .ref (E.2.1 (b))), (1, .int (nI (q))), (2, .int (nI (i)))] dX3_lossesOfRowIn_62 6 rfl (nI_1 _) (by decide) rfl ?_
              refine y_goto X 5 dX3_lossesOfRowIn_65 (by decide) ?_
              refine y_pick [4, 5, 6, 1, 0] [(0, .ref (E.2.1 (b))), (1, .int (nI (q))), (2, .int (nI (i))), (3, .int (x2 + 1)), (4, .int (nI (j + 1)))] rfl ?_
              exact ih5 (j + 1) ((x2 + 1)) (by omega) (by omega) (by rw [gx]; show _ = sm _ _ + (if _ then _ else _); rw [if_pos ⟨c_2, Or.inr c_4⟩])
  refine y_pick [2, 3, 4, 1, 0] [(0, .ref (E.2.1 (b))), (1, .int (nI (q))), (2, .int (nI (i))), (3, .int (0)), (4, .int (0))] rfl ?_
  exact L_5 _ (0) (0) (Nat.lt_succ_self _) (by omega) rfl

set_option maxRecDepth 100000 in
set_option maxHeartbeats 4000000 in
theorem c_X3_lossesIn {l : Launch} {E : xE} {C : xC} {b : Nat} {T : Tb} (gb : b + 4 < 61) (gT : RC E C b T) (gw : WB T) {q : Nat} (gq : q < tn T) : xR E l yX3_lossesIn wsX3_lossesIn 4 89 [.ref (E.2.1 (b)), .int (nI (q))] C (lsA T q) := by
  obtain ⟨zK, zD, zS, zV, h0, h1, h2, h3, h4, gK, gD, gS, gV⟩ := id gT
  obtain ⟨gw1, gw2, gw3, gw4⟩ := id gw
  refine xM_ofY (cc := cX3_lossesIn) (maxL := 4) (ret := (some .int)) (by decide) rfl (Nat.le_of_ble_eq_true rfl) ?_
  intro p e s m args below meth c X hr
  have inX3 : ∀ w ∈ wsX30, w ∈ wsX3_lossesIn := by decide +kernel
  refine y_lv [(0, .ref (E.2.1 (b))), (1, .int (nI (q)))] rfl ?_
  refine y_iconst X (v := (0)) dX3_lossesIn_0 (by decide) ?_
  refine y_istore_n X [(2, .int (0)), (0, .ref (E.2.1 (b))), (1, .int (nI (q)))] dX3_lossesIn_1 rfl (by decide) rfl ?_
  refine y_iconst X (v := (0)) dX3_lossesIn_2 (by decide) ?_
  refine y_istore_n X [(3, .int (0)), (2, .int (0)), (0, .ref (E.2.1 (b))), (1, .int (nI (q)))] dX3_lossesIn_3 rfl (by decide) rfl ?_
  have L_4 : ∀ (n : Nat) (j : Nat) (x2 : Int32), tr T - j < n → (j ≤ tr T) → (x2 = sm (fun i => lsR T q i) j) → xY p l e ({ frames := 4, cells := 0, slots := 0, locals := 89 } : Room) s m args below meth c E (xA E) 4 0 0 (MQ below (xQ E (fun v C1 => v = some (.int (lsA T q)) ∧ C1 = C)) args s 0 0 (xA E)) C 4 [(0, .ref (E.2.1 (b))), (1, .int (nI (q))), (2, .int x2), (3, .int (nI (j)))] [] := by
    intro n4
    induction n4 with
    | zero => intro _ _ hm4; exact absurd hm4 (Nat.not_lt_zero _)
    | succ n4 ih4 =>
      intro j x2 hm4 gj gx
      refine y_iload_n X dX3_lossesIn_4 3 rfl ?_
      refine y_aload_n X dX3_lossesIn_5 0 rfl ?_
      refine y_get X (b) 3 3 (Cn := RX3) (T := TX3) (N := 6) (index := 22) (v := .int (nI (tr T))) dX3_lossesIn_6 (by omega) h0 rfl (by decide) inX3 (by decide +kernel : Cond.fieldLink RX3 22 "ColumnSeasons$Table" "rows" "I" ∈ wsX3_lossesIn) rfl rfl ?_
      refine y_icmp_ge X 27 ((tr T) ≤ (j)) dX3_lossesIn_9 (by decide) (nI_leI (a := tr T) (b := j) (by omega) (by omega)) (fun c_1 => ?_) (fun c_1 => ?_)
      ·
        refine y_iload_n X dX3_lossesIn_27 2 rfl ?_
        exact y_iret X hr dX3_lossesIn_28 rfl ⟨by rw [gx, show j = tr T by omega]; rfl, rfl⟩
      ·
        refine y_iload_n X dX3_lossesIn_12 2 rfl ?_
        refine y_aload_n X dX3_lossesIn_13 0 rfl ?_
        refine y_iload_n X dX3_lossesIn_14 1 rfl ?_
        refine y_iload_n X dX3_lossesIn_15 3 rfl ?_
        refine y_callVr X (b) 3 (av := [.int (nI (q)), .int (nI (j))]) [.int x2] 2 (c_X3_lossesOfRowIn (b := b) (by omega) gT gw (q := q) (i := j) (by omega) (by omega)) (by omega) h0 rfl gX3_lossesIn_X3_lossesOfRowIn rfl (by decide +kernel) rfl ⟨Nat.le_of_ble_eq_true rfl, Nat.le_of_ble_eq_true rfl⟩ ⟨Nat.zero_le _, Nat.zero_le _⟩ (Nat.le_of_ble_eq_true rfl) rfl dX3_lossesIn_16 ?_
        refine y_iadd X (z := (x2 + (lsR T (q) (j)))) dX3_lossesIn_19 rfl ?_
        refine y_istore_n X [(2, .int (x2 + (lsR T (q) (j)))), (0, .ref (E.2.1 (b))), (1, .int (nI (q))), (3, .int (nI (j)))] dX3_lossesIn_20 rfl (by decide) rfl ?_
        refine y_iinc X [(3, .int (nI (j + 1))), (2, .int (x2 + (lsR T (q) (j)))), (0, .ref (E.2.1 (b))), (1, .int (nI (q)))] dX3_lossesIn_21 3 rfl (nI_1 _) (by decide) rfl ?_
        refine y_goto X 4 dX3_lossesIn_24 (by decide) ?_
        refine y_pick [2, 3, 1, 0] [(0, .ref (E.2.1 (b))), (1, .int (nI (q))), (2, .int (x2 + (lsR T (q) (j)))), (3, .int (nI (j + 1)))] rfl ?_
        exact ih4 (j + 1) ((x2 + (lsR T (q) (j)))) (by omega) (by omega) (by rw [gx]; rfl)
  refine y_pick [2, 3, 1, 0] [(0, .ref (E.2.1 (b))), (1, .int (nI (q))), (2, .int (0)), (3, .int (0))] rfl ?_
  exact L_4 _ (0) (0) (Nat.lt_succ_self _) (by omega) rfl

set_option maxRecDepth 100000 in
set_option maxHeartbeats 4000000 in
theorem c_X3_seasonOfFewestLosses {l : Launch} {E : xE} {C : xC} {b : Nat} {T : Tb} (gb : b + 4 < 61) (gT : RC E C b T) (gw : WB T) : xR E l yX3_seasonOfFewestLosses wsX3_seasonOfFewestLosses 5 112 [.ref (E.2.1 (b))] C (nI (bsC T)) := by
  obtain ⟨zK, zD, zS, zV, h0, h1, h2, h3, h4, gK, gD, gS, gV⟩ := id gT
  obtain ⟨gw1, gw2, gw3, gw4⟩ := id gw
  refine xM_ofY (cc := cX3_seasonOfFewestLosses) (maxL := 5) (ret := (some .int)) (by decide) rfl (Nat.le_of_ble_eq_true rfl) ?_
  intro p e s m args below meth c X hr
  refine y_lv [(0, .ref (E.2.1 (b)))] rfl ?_
  refine y_aload_n X dX3_seasonOfFewestLosses_0 0 rfl ?_
  refine y_callVr X (b) 3 (av := []) [] 0 (c_X3_now (b := b) (n := tn T) (by omega) (by omega) h0) (by omega) h0 rfl gX3_seasonOfFewestLosses_X3_now rfl (by decide +kernel) rfl ⟨Nat.le_of_ble_eq_true rfl, Nat.le_of_ble_eq_true rfl⟩ ⟨Nat.zero_le _, Nat.zero_le _⟩ (Nat.le_of_ble_eq_true rfl) rfl dX3_seasonOfFewestLosses_1 ?_
  refine y_istore_n X [(1, .int (nI ((tn T) - 1))), (0, .ref (E.2.1 (b)))] dX3_seasonOfFewestLosses_4 rfl (by decide) rfl ?_
  refine y_aload_n X dX3_seasonOfFewestLosses_5 1 rfl ?_
  refine y_iload_n X dX3_seasonOfFewestLosses_6 0 rfl ?_
  refine y_callVr X (b) 3 (av := [.int (nI ((tn T) - 1))]) [] 1 (c_X3_lossesIn (b := b) (by omega) gT gw (q := (tn T) - 1) (by omega)) (by omega) h0 rfl gX3_seasonOfFewestLosses_X3_lossesIn rfl (by decide +kernel) rfl ⟨Nat.le_of_ble_eq_true rfl, Nat.le_of_ble_eq_true rfl⟩ ⟨Nat.zero_le _, Nat.zero_le _⟩ (Nat.le_of_ble_eq_true rfl) rfl dX3_seasonOfFewestLosses_7 ?_
  refine y_istore_n X [(2, .int (lsA T ((tn T) - 1))), (1, .int (nI ((tn T) - 1))), (0, .ref (E.2.1 (b)))] dX3_seasonOfFewestLosses_10 rfl (by decide) rfl ?_
  refine y_iload_n X dX3_seasonOfFewestLosses_11 1 rfl ?_
  refine y_iconst X (v := (1)) dX3_seasonOfFewestLosses_12 (by decide) ?_
  refine y_isub X (z := (nI (tn T - 1) - 1)) dX3_seasonOfFewestLosses_13 rfl ?_
  refine y_istore_n X [(3, .int (nI (tn T - 1) - 1)), (2, .int (lsA T ((tn T) - 1))), (1, .int (nI ((tn T) - 1))), (0, .ref (E.2.1 (b)))] dX3_seasonOfFewestLosses_14 rfl (by decide) rfl ?_
  have L_15 : ∀ (n : Nat) (r : Nat) (y1 : Nat) (x2 : Int32), r < n → (r ≤ tn T - 1) → ((y1, x2) = bsd T (tn T - 1 - r)) → xY p l e ({ frames := 5, cells := 0, slots := 0, locals := 112 } : Room) s m args below meth c E (xA E) 5 0 0 (MQ below (xQ E (fun v C1 => v = some (.int (nI (bsC T))) ∧ C1 = C)) args s 0 0 (xA E)) C 15 [(0, .ref (E.2.1 (b))), (1, .int (nI (y1))), (2, .int x2), (3, .int (nI r - 1))] [] := by
    intro n15
    induction n15 with
    | zero => intro _ _ _ hm15; exact absurd hm15 (Nat.not_lt_zero _)
    | succ n15 ih15 =>
      intro r y1 x2 hm15 gr gx
      refine y_iload_n X dX3_seasonOfFewestLosses_15 3 rfl ?_
      refine y_if_lt X 43 (r = 0) dX3_seasonOfFewestLosses_16 (by decide) (dn_lt (by omega)) (fun c_1 => ?_) (fun c_1 => ?_)
      ·
        refine y_iload_n X dX3_seasonOfFewestLosses_43 1 rfl ?_
        exact y_iret X hr dX3_seasonOfFewestLosses_44 rfl ⟨by rw [bsC, show tn T - 1 = tn T - 1 - r by omega, ← gx], rfl⟩
      ·
        rw [dn_eq (show 1 ≤ r by omega)]
        refine y_aload_n X dX3_seasonOfFewestLosses_19 0 rfl ?_
        refine y_iload_n X dX3_seasonOfFewestLosses_20 3 rfl ?_
        refine y_callVr X (b) 3 (av := [.int (nI (r - 1))]) [] 1 (c_X3_lossesIn (b := b) (by omega) gT gw (q := r - 1) (by omega)) (by omega) h0 rfl gX3_seasonOfFewestLosses_X3_lossesIn rfl (by decide +kernel) rfl ⟨Nat.le_of_ble_eq_true rfl, Nat.le_of_ble_eq_true rfl⟩ ⟨Nat.zero_le _, Nat.zero_le _⟩ (Nat.le_of_ble_eq_true rfl) rfl dX3_seasonOfFewestLosses_21 ?_
        refine y_istore X [(4, .int (lsA T (r - 1))), (0, .ref (E.2.1 (b))), (1, .int (nI (y1))), (2, .int x2), (3, .int (nI (r - 1)))] dX3_seasonOfFewestLosses_24 (by decide) rfl ?_
        refine y_iload X dX3_seasonOfFewestLosses_26 0 rfl ?_
        refine y_iload_n X dX3_seasonOfFewestLosses_28 3 rfl ?_
        refine y_icmp_ge X 37 (x2 ≤ (lsA T (r - 1))) dX3_seasonOfFewestLosses_29 (by decide) Iff.rfl (fun c_2 => ?_) (fun c_2 => ?_)
        ·
          refine y_iinc X [(3, .int (nI (r - 1) - 1)), (4, .int (lsA T (r - 1))), (0, .ref (E.2.1 (b))), (1, .int (nI (y1))), (2, .int x2)] dX3_seasonOfFewestLosses_37 4 rfl (dn_inc _) (by decide) rfl ?_
          refine y_goto X 15 dX3_seasonOfFewestLosses_40 (by decide) ?_
          refine y_pick [2, 3, 4, 0] [(0, .ref (E.2.1 (b))), (1, .int (nI (y1))), (2, .int x2), (3, .int (nI (r - 1) - 1))] rfl ?_
          exact ih15 (r - 1) (y1) (x2) (by omega) (by omega) (by have ez : tn T - 1 - (r - 1) = (tn T - 1 - r) + 1 := (by omega); have ey : tn T - 1 - (tn T - 1 - r + 1) = r - 1 := (by omega); rw [ez]; show _ = if _ < _ then _ else _; rw [ey, ← gx]; rw [if_neg (Int32.not_lt.mpr c_2)])
        ·
          refine y_iload_n X dX3_seasonOfFewestLosses_32 4 rfl ?_
          refine y_istore_n X [(1, .int (nI (r - 1))), (4, .int (lsA T (r - 1))), (0, .ref (E.2.1 (b))), (2, .int x2), (3, .int (nI (r - 1)))] dX3_seasonOfFewestLosses_33 rfl (by decide) rfl ?_
          refine y_iload X dX3_seasonOfFewestLosses_34 1 rfl ?_
          refine y_istore_n X [(2, .int (lsA T (r - 1))), (1, .int (nI (r - 1))), (4, .int (lsA T (r - 1))), (0, .ref (E.2.1 (b))), (3, .int (nI (r - 1)))] dX3_seasonOfFewestLosses_36 rfl (by decide) rfl ?_
          refine y_iinc X [(3, .int (nI (r - 1) - 1)), (2, .int (lsA T (r - 1))), (1, .int (nI (r - 1))), (4, .int (lsA T (r - 1))), (0, .ref (E.2.1 (b)))] dX3_seasonOfFewestLosses_37 4 rfl (dn_inc _) (by decide) rfl ?_
          refine y_goto X 15 dX3_seasonOfFewestLosses_40 (by decide) ?_
          refine y_pick [4, 2, 1, 0] [(0, .ref (E.2.1 (b))), (1, .int (nI (r - 1))), (2, .int (lsA T (r - 1))), (3, .int (nI (r - 1) - 1))] rfl ?_
          exact ih15 (r - 1) (r - 1) ((lsA T (r - 1))) (by omega) (by omega) (by have ez : tn T - 1 - (r - 1) = (tn T - 1 - r) + 1 := (by omega); have ey : tn T - 1 - (tn T - 1 - r + 1) = r - 1 := (by omega); rw [ez]; show _ = if _ < _ then _ else _; rw [ey, ← gx]; rw [if_pos (Int32.not_le.mp c_2)])
  refine y_pick [3, 2, 1, 0] [(0, .ref (E.2.1 (b))), (1, .int (nI ((tn T) - 1))), (2, .int (lsA T ((tn T) - 1))), (3, .int (nI (tn T - 1) - 1))] rfl ?_
  exact L_15 _ (tn T - 1) (tn T - 1) ((lsA T (tn T - 1))) (Nat.lt_succ_self _) (by omega) (by rw [Nat.sub_self]; rfl)

set_option maxRecDepth 100000 in
set_option maxHeartbeats 4000000 in
theorem c_X3_sharedNames {l : Launch} {E : xE} {C : xC} {b : Nat} {T : Tb} (gb : b + 4 < 61) (gT : RC E C b T) (gw : WB T) {a b0 : Nat} (ga : a < tr T) (gz : b0 < tr T) : xR E l yX3_sharedNames wsX3_sharedNames 2 45 [.ref (E.2.1 (b)), .int (nI (a)), .int (nI (b0))] C (shN T a b0) := by
  obtain ⟨zK, zD, zS, zV, h0, h1, h2, h3, h4, gK, gD, gS, gV⟩ := id gT
  obtain ⟨gw1, gw2, gw3, gw4⟩ := id gw
  refine xM_ofY (cc := cX3_sharedNames) (maxL := 5) (ret := (some .int)) (by decide) rfl (Nat.le_of_ble_eq_true rfl) ?_
  intro p e s m args below meth c X hr
  have inX3 : ∀ w ∈ wsX30, w ∈ wsX3_sharedNames := by decide +kernel
  refine y_lv [(0, .ref (E.2.1 (b))), (1, .int (nI (a))), (2, .int (nI (b0)))] rfl ?_
  refine y_iload_n X dX3_sharedNames_0 2 rfl ?_
  refine y_iload_n X dX3_sharedNames_1 1 rfl ?_
  refine y_icmp_ge X 7 ((a) ≤ (b0)) dX3_sharedNames_2 (by decide) (nI_leI (a := a) (b := b0) (by omega) (by omega)) (fun c_1 => ?_) (fun c_1 => ?_)
  ·
    refine y_aload_n X dX3_sharedNames_7 0 rfl ?_
    refine y_aload_n X dX3_sharedNames_8 0 rfl ?_
    refine y_get X (b) 3 4 (Cn := RX3) (T := TX3) (N := 6) (index := 25) (v := .ref (E.2.1 (b + 3))) dX3_sharedNames_9 (by omega) h0 rfl (by decide) inX3 (by decide +kernel : Cond.fieldLink RX3 25 "ColumnSeasons$Table" "rowSeasons" "[I" ∈ wsX3_sharedNames) rfl rfl ?_
    refine y_iload_n X dX3_sharedNames_12 1 rfl ?_
    have gts13 := gw4 (a) (by omega)
    refine y_iald X (b + 3) dX3_sharedNames_13 (by omega) h3 (j := a) rfl (by omega) (by omega) (z := (nI (ts T (a)))) (gS _ (by omega)) ?_
    refine y_callVr X (b) 3 (av := [.int (nI (ts T (a)))]) [] 1 (c_X3_namesIn (b := b) (by omega) gT gw (q := ts T (a)) (by omega)) (by omega) h0 rfl gX3_sharedNames_X3_namesIn rfl (by decide +kernel) rfl ⟨Nat.le_of_ble_eq_true rfl, Nat.le_of_ble_eq_true rfl⟩ ⟨Nat.zero_le _, Nat.zero_le _⟩ (Nat.le_of_ble_eq_true rfl) rfl dX3_sharedNames_14 ?_
    refine y_istore_n X [(3, .int (nmS T (ts T (a)))), (0, .ref (E.2.1 (b))), (1, .int (nI (a))), (2, .int (nI (b0)))] dX3_sharedNames_17 rfl (by decide) rfl ?_
    refine y_iload_n X dX3_sharedNames_18 2 rfl ?_
    refine y_iconst X (v := (1)) dX3_sharedNames_19 (by decide) ?_
    refine y_iadd X (z := (nI (a + 1))) dX3_sharedNames_20 (nI_add (a) (1)) ?_
    refine y_istore X [(4, .int (nI (a + 1))), (3, .int (nmS T (ts T (a)))), (0, .ref (E.2.1 (b))), (1, .int (nI (a))), (2, .int (nI (b0)))] dX3_sharedNames_21 (by decide) rfl ?_
    have L_23 : ∀ (n : Nat) (k : Nat) (x3 : Int32), b0 - (a + k) < n → (a + k ≤ b0) → (x3 = shr T a k) → xY p l e ({ frames := 2, cells := 0, slots := 0, locals := 45 } : Room) s m args below meth c E (xA E) 5 0 0 (MQ below (xQ E (fun v C1 => v = some (.int (shN T a b0)) ∧ C1 = C)) args s 0 0 (xA E)) C 23 [(0, .ref (E.2.1 (b))), (1, .int (nI (a))), (2, .int (nI (b0))), (3, .int x3), (4, .int (nI (a + (k + 1))))] [] := by
      intro n23
      induction n23 with
      | zero => intro _ _ hm23; exact absurd hm23 (Nat.not_lt_zero _)
      | succ n23 ih23 =>
        intro k x3 hm23 gk gx
        refine y_iload X dX3_sharedNames_23 4 rfl ?_
        refine y_iload_n X dX3_sharedNames_25 2 rfl ?_
        refine y_icmp_gt X 49 ((b0) < (a + (k + 1))) dX3_sharedNames_26 (by decide) (nI_ltI (a := b0) (b := a + (k + 1)) (by omega) (by omega)) (fun c_2 => ?_) (fun c_2 => ?_)
        ·
          refine y_iload_n X dX3_sharedNames_49 3 rfl ?_
          exact y_iret X hr dX3_sharedNames_50 rfl ⟨by rw [gx]; show _ = some (Value.int (shN T a b0)); rw [shN, if_neg (by omega), show b0 - a = k by omega], rfl⟩
        ·
          refine y_iload_n X dX3_sharedNames_29 3 rfl ?_
          refine y_aload_n X dX3_sharedNames_30 0 rfl ?_
          refine y_aload_n X dX3_sharedNames_31 0 rfl ?_
          refine y_get X (b) 3 4 (Cn := RX3) (T := TX3) (N := 6) (index := 25) (v := .ref (E.2.1 (b + 3))) dX3_sharedNames_32 (by omega) h0 rfl (by decide) inX3 (by decide +kernel : Cond.fieldLink RX3 25 "ColumnSeasons$Table" "rowSeasons" "[I" ∈ wsX3_sharedNames) rfl rfl ?_
          refine y_iload X dX3_sharedNames_35 4 rfl ?_
          have gts37 := gw4 (a + (k + 1)) (by omega)
          refine y_iald X (b + 3) dX3_sharedNames_37 (by omega) h3 (j := a + (k + 1)) rfl (by omega) (by omega) (z := (nI (ts T (a + (k + 1))))) (gS _ (by omega)) ?_
          refine y_callVr X (b) 3 (av := [.int (nI (ts T (a + (k + 1))))]) [.int x3] 1 (c_X3_namesIn (b := b) (by omega) gT gw (q := ts T (a + (k + 1))) (by omega)) (by omega) h0 rfl gX3_sharedNames_X3_namesIn rfl (by decide +kernel) rfl ⟨Nat.le_of_ble_eq_true rfl, Nat.le_of_ble_eq_true rfl⟩ ⟨Nat.zero_le _, Nat.zero_le _⟩ (Nat.le_of_ble_eq_true rfl) rfl dX3_sharedNames_38 ?_
          refine y_iand X (z := (x3 &&& (nmS T (ts T (a + (k + 1)))))) dX3_sharedNames_41 rfl ?_
          refine y_istore_n X [(3, .int (x3 &&& (nmS T (ts T (a + (k + 1)))))), (0, .ref (E.2.1 (b))), (1, .int (nI (a))), (2, .int (nI (b0))), (4, .int (nI (a + (k + 1))))] dX3_sharedNames_42 rfl (by decide) rfl ?_
          refine y_iinc X [(4, .int (nI (a + (k + 1) + 1))), (3, .int (x3 &&& (nmS T (ts T (a + (k + 1)))))), (0, .ref (E.2.1 (b))), (1, .int (nI (a))), (2, .int (nI (b0)))] dX3_sharedNames_43 4 rfl (nI_1 _) (by decide) rfl ?_
          refine y_goto X 23 dX3_sharedNames_46 (by decide) ?_
          refine y_pick [2, 3, 4, 1, 0] [(0, .ref (E.2.1 (b))), (1, .int (nI (a))), (2, .int (nI (b0))), (3, .int (x3 &&& (nmS T (ts T (a + (k + 1)))))), (4, .int (nI (a + (k + 1) + 1)))] rfl ?_
          exact ih23 (k + 1) ((x3 &&& (nmS T (ts T (a + (k + 1)))))) (by omega) (by omega) (by rw [gx]; rfl)
    refine y_pick [2, 3, 4, 1, 0] [(0, .ref (E.2.1 (b))), (1, .int (nI (a))), (2, .int (nI (b0))), (3, .int (nmS T (ts T (a)))), (4, .int (nI (a + 1)))] rfl ?_
    exact L_23 _ (0) ((nmS T (ts T (a)))) (Nat.lt_succ_self _) (by omega) rfl
  ·
    refine y_iconst X (v := (0)) dX3_sharedNames_5 (by decide) ?_
    exact y_iret X hr dX3_sharedNames_6 rfl ⟨by show _ = some (Value.int (shN T a b0)); rw [shN, if_pos (by omega)], rfl⟩

set_option maxRecDepth 100000 in
set_option maxHeartbeats 4000000 in
theorem c_X3_defaultsInView {l : Launch} {E : xE} {C : xC} {b : Nat} {T : Tb} (gb : b + 4 < 61) (gT : RC E C b T) (gw : WB T) {a b0 : Nat} (ga : a < tr T) (gz : b0 < tr T) : xR E l yX3_defaultsInView wsX3_defaultsInView 3 69 [.ref (E.2.1 (b)), .int (nI (a)), .int (nI (b0))] C (dfV T a b0) := by
  obtain ⟨zK, zD, zS, zV, h0, h1, h2, h3, h4, gK, gD, gS, gV⟩ := id gT
  obtain ⟨gw1, gw2, gw3, gw4⟩ := id gw
  refine xM_ofY (cc := cX3_defaultsInView) (maxL := 7) (ret := (some .int)) (by decide) rfl (Nat.le_of_ble_eq_true rfl) ?_
  intro p e s m args below meth c X hr
  refine y_lv [(0, .ref (E.2.1 (b))), (1, .int (nI (a))), (2, .int (nI (b0)))] rfl ?_
  refine y_aload_n X dX3_defaultsInView_0 0 rfl ?_
  refine y_iload_n X dX3_defaultsInView_1 1 rfl ?_
  refine y_iload_n X dX3_defaultsInView_2 2 rfl ?_
  refine y_callVr X (b) 3 (av := [.int (nI (a)), .int (nI (b0))]) [] 2 (c_X3_sharedNames (b := b) (by omega) gT gw (a := a) (b0 := b0) (by omega) (by omega)) (by omega) h0 rfl gX3_defaultsInView_X3_sharedNames rfl (by decide +kernel) rfl ⟨Nat.le_of_ble_eq_true rfl, Nat.le_of_ble_eq_true rfl⟩ ⟨Nat.zero_le _, Nat.zero_le _⟩ (Nat.le_of_ble_eq_true rfl) rfl dX3_defaultsInView_3 ?_
  refine y_aload_n X dX3_defaultsInView_6 0 rfl ?_
  refine y_aload_n X dX3_defaultsInView_7 0 rfl ?_
  refine y_callVr X (b) 3 (av := []) [.ref (E.2.1 (b)), .int (shN T (a) (b0))] 0 (c_X3_now (b := b) (n := tn T) (by omega) (by omega) h0) (by omega) h0 rfl gX3_defaultsInView_X3_now rfl (by decide +kernel) rfl ⟨Nat.le_of_ble_eq_true rfl, Nat.le_of_ble_eq_true rfl⟩ ⟨Nat.zero_le _, Nat.zero_le _⟩ (Nat.le_of_ble_eq_true rfl) rfl dX3_defaultsInView_8 ?_
  refine y_callVr X (b) 3 (av := [.int (nI ((tn T) - 1))]) [.int (shN T (a) (b0))] 1 (c_X3_namesIn (b := b) (by omega) gT gw (q := (tn T) - 1) (by omega)) (by omega) h0 rfl gX3_defaultsInView_X3_namesIn rfl (by decide +kernel) rfl ⟨Nat.le_of_ble_eq_true rfl, Nat.le_of_ble_eq_true rfl⟩ ⟨Nat.zero_le _, Nat.zero_le _⟩ (Nat.le_of_ble_eq_true rfl) rfl dX3_defaultsInView_11 ?_
  refine y_iand X (z := ((shN T (a) (b0)) &&& (nmS T ((tn T) - 1)))) dX3_defaultsInView_14 rfl ?_
  refine y_topi (fun g eg => ?_)
  refine y_istore_n X [(3, .int g), (0, .ref (E.2.1 (b))), (1, .int (nI (a))), (2, .int (nI (b0)))] dX3_defaultsInView_15 rfl (by decide) rfl ?_
  refine y_iconst X (v := (0)) dX3_defaultsInView_16 (by decide) ?_
  refine y_istore X [(4, .int (0)), (3, .int g), (0, .ref (E.2.1 (b))), (1, .int (nI (a))), (2, .int (nI (b0)))] dX3_defaultsInView_17 (by decide) rfl ?_
  refine y_iload_n X dX3_defaultsInView_19 3 rfl ?_
  refine y_istore X [(5, .int (nI (a))), (4, .int (0)), (3, .int g), (0, .ref (E.2.1 (b))), (1, .int (nI (a))), (2, .int (nI (b0)))] dX3_defaultsInView_20 (by decide) rfl ?_
  have L_22 : ∀ (n : Nat) (k : Nat) (x4 : Int32), b0 + 1 - a - k < n → (k ≤ b0 + 1 - a) → (x4 = sm (fun k => dfR T g (a + k)) k) → xY p l e ({ frames := 3, cells := 0, slots := 0, locals := 69 } : Room) s m args below meth c E (xA E) 7 0 0 (MQ below (xQ E (fun v C1 => v = some (.int (dfV T a b0)) ∧ C1 = C)) args s 0 0 (xA E)) C 22 [(0, .ref (E.2.1 (b))), (1, .int (nI (a))), (2, .int (nI (b0))), (3, .int g), (4, .int x4), (5, .int (nI (a + k)))] [] := by
    intro n22
    induction n22 with
    | zero => intro _ _ hm22; exact absurd hm22 (Nat.not_lt_zero _)
    | succ n22 ih22 =>
      intro k x4 hm22 gk gx
      refine y_iload X dX3_defaultsInView_22 5 rfl ?_
      refine y_iload_n X dX3_defaultsInView_24 2 rfl ?_
      refine y_icmp_gt X 83 ((b0) < (a + k)) dX3_defaultsInView_25 (by decide) (nI_ltI (a := b0) (b := a + k) (by omega) (by omega)) (fun c_1 => ?_) (fun c_1 => ?_)
      ·
        refine y_iload X dX3_defaultsInView_83 4 rfl ?_
        exact y_iret X hr dX3_defaultsInView_85 rfl ⟨by rw [gx, eg, show k = b0 + 1 - a by omega]; rfl, rfl⟩
      ·
        refine y_iconst X (v := (0)) dX3_defaultsInView_28 (by decide) ?_
        refine y_istore X [(6, .int (0)), (0, .ref (E.2.1 (b))), (1, .int (nI (a))), (2, .int (nI (b0))), (3, .int g), (4, .int x4), (5, .int (nI (a + k)))] dX3_defaultsInView_29 (by decide) rfl ?_
        have L_31 : ∀ (n : Nat) (j : Nat) (y4 : Int32), 8 - j < n → (j ≤ 8) → (y4 = x4 + sm (fun j => if ¬ (g &&& bitN j) = 0 ∧ tv T (a + k) j = td T (tn T - 1) j then 1 else 0) j) → xY p l e ({ frames := 3, cells := 0, slots := 0, locals := 69 } : Room) s m args below meth c E (xA E) 7 0 0 (MQ below (xQ E (fun v C1 => v = some (.int (dfV T a b0)) ∧ C1 = C)) args s 0 0 (xA E)) C 31 [(0, .ref (E.2.1 (b))), (1, .int (nI (a))), (2, .int (nI (b0))), (3, .int g), (4, .int y4), (5, .int (nI (a + k))), (6, .int (nI (j)))] [] := by
          intro n31
          induction n31 with
          | zero => intro _ _ hm31; exact absurd hm31 (Nat.not_lt_zero _)
          | succ n31 ih31 =>
            intro j y4 hm31 gj gy
            refine y_iload X dX3_defaultsInView_31 6 rfl ?_
            refine y_bipush X (v := (8)) dX3_defaultsInView_33 (by decide) ?_
            refine y_icmp_ge X 77 ((8) ≤ (j)) dX3_defaultsInView_35 (by decide) (nI_leI (a := 8) (b := j) (by omega) (by omega)) (fun c_2 => ?_) (fun c_2 => ?_)
            ·
              refine y_iinc X [(5, .int (nI (a + k + 1))), (0, .ref (E.2.1 (b))), (1, .int (nI (a))), (2, .int (nI (b0))), (3, .int g), (4, .int y4), (6, .int (nI (j)))] dX3_defaultsInView_77 5 rfl (nI_1 _) (by decide) rfl ?_
              refine y_goto X 22 dX3_defaultsInView_80 (by decide) ?_
              refine y_pick [1, 2, 3, 4, 5, 0] [(0, .ref (E.2.1 (b))), (1, .int (nI (a))), (2, .int (nI (b0))), (3, .int g), (4, .int y4), (5, .int (nI (a + k + 1)))] rfl ?_
              exact ih22 (k + 1) (y4) (by omega) (by omega) (by rw [gy, gx, show j = 8 by omega]; rfl)
            ·
              refine y_iload_n X dX3_defaultsInView_38 3 rfl ?_
              refine y_iload X dX3_defaultsInView_39 6 rfl ?_
              refine y_callNr X (av := [.int g, .int (nI (j))]) [] 2 (c_X4_hasName (x := g) (j := j)) gX3_defaultsInView_X4_hasName_n115 (by decide +kernel) (by decide +kernel) (by decide +kernel) rfl (by decide +kernel) rfl ⟨Nat.le_of_ble_eq_true rfl, Nat.le_of_ble_eq_true rfl⟩ ⟨Nat.zero_le _, Nat.zero_le _⟩ (Nat.le_of_ble_eq_true rfl) rfl dX3_defaultsInView_41 ?_
              refine y_if_eq X 71 (¬ (¬ (g &&& bitN (j)) = 0)) dX3_defaultsInView_44 (by decide) bI_eq (fun c_3 => ?_) (fun c_3 => ?_)
              ·
                refine y_iinc X [(6, .int (nI (j + 1))), (0, .ref (E.2.1 (b))), (1, .int (nI (a))), (2, .int (nI (b0))), (3, .int g), (4, .int y4), (5, .int (nI (a + k)))] dX3_defaultsInView_71 6 rfl (nI_1 _) (by decide) rfl ?_
                refine y_goto X 31 dX3_defaultsInView_74 (by decide) ?_
                refine y_pick [1, 2, 3, 4, 5, 6, 0] [(0, .ref (E.2.1 (b))), (1, .int (nI (a))), (2, .int (nI (b0))), (3, .int g), (4, .int y4), (5, .int (nI (a + k))), (6, .int (nI (j + 1)))] rfl ?_
                exact ih31 (j + 1) (y4) (by omega) (by omega) (by rw [gy]; exact smx_zero (if_neg (fun z => c_3 z.1)))
              ·
                have c_3 := Decidable.of_not_not c_3
                have gpr : ¬ tk T (ts T (a + k)) j = -1 := shN_has (T := T) (a := a) (b := b0) (i := a + k) (by omega) (by omega) (by omega) (and_has_l (by omega) (by rw [← eg]; exact c_3))
                refine y_aload_n X dX3_defaultsInView_47 0 rfl ?_
                refine y_iload X dX3_defaultsInView_48 5 rfl ?_
                refine y_iload X dX3_defaultsInView_50 6 rfl ?_
                refine y_callVr X (b) 3 (av := [.int (nI (a + k)), .int (nI (j))]) [] 2 (c_X3_valueAt (b := b) (by omega) gT gw (i := a + k) (j := j) (by omega) (by omega) (by assumption)) (by omega) h0 rfl gX3_defaultsInView_X3_valueAt rfl (by decide +kernel) rfl ⟨Nat.le_of_ble_eq_true rfl, Nat.le_of_ble_eq_true rfl⟩ ⟨Nat.zero_le _, Nat.zero_le _⟩ (Nat.le_of_ble_eq_true rfl) rfl dX3_defaultsInView_52 ?_
                refine y_aload_n X dX3_defaultsInView_55 0 rfl ?_
                refine y_aload_n X dX3_defaultsInView_56 0 rfl ?_
                refine y_callVr X (b) 3 (av := []) [.ref (E.2.1 (b)), .int (tv T (a + k) (j))] 0 (c_X3_now (b := b) (n := tn T) (by omega) (by omega) h0) (by omega) h0 rfl gX3_defaultsInView_X3_now rfl (by decide +kernel) rfl ⟨Nat.le_of_ble_eq_true rfl, Nat.le_of_ble_eq_true rfl⟩ ⟨Nat.zero_le _, Nat.zero_le _⟩ (Nat.le_of_ble_eq_true rfl) rfl dX3_defaultsInView_57 ?_
                refine y_iload X dX3_defaultsInView_60 6 rfl ?_
                refine y_callVr X (b) 3 (av := [.int (nI ((tn T) - 1)), .int (nI (j))]) [.int (tv T (a + k) (j))] 2 (c_X3_standardIn (b := b) (by omega) gT gw (q := (tn T) - 1) (j := j) (by omega) (by omega)) (by omega) h0 rfl gX3_defaultsInView_X3_standardIn rfl (by decide +kernel) rfl ⟨Nat.le_of_ble_eq_true rfl, Nat.le_of_ble_eq_true rfl⟩ ⟨Nat.zero_le _, Nat.zero_le _⟩ (Nat.le_of_ble_eq_true rfl) rfl dX3_defaultsInView_62 ?_
                refine y_icmp_ne X 71 (¬ ((tv T (a + k) (j)) = (td T ((tn T) - 1) (j)))) dX3_defaultsInView_65 (by decide) Iff.rfl (fun c_4 => ?_) (fun c_4 => ?_)
                ·
                  refine y_iinc X [(6, .int (nI (j + 1))), (0, .ref (E.2.1 (b))), (1, .int (nI (a))), (2, .int (nI (b0))), (3, .int g), (4, .int y4), (5, .int (nI (a + k)))] dX3_defaultsInView_71 6 rfl (nI_1 _) (by decide) rfl ?_
                  refine y_goto X 31 dX3_defaultsInView_74 (by decide) ?_
                  refine y_pick [1, 2, 3, 4, 5, 6, 0] [(0, .ref (E.2.1 (b))), (1, .int (nI (a))), (2, .int (nI (b0))), (3, .int g), (4, .int y4), (5, .int (nI (a + k))), (6, .int (nI (j + 1)))] rfl ?_
                  exact ih31 (j + 1) (y4) (by omega) (by omega) (by rw [gy]; exact smx_zero (if_neg (fun z => c_4 z.2)))
                ·
                  have c_4 := Decidable.of_not_not c_4
                  refine y_iinc X [(4, .int (y4 + 1)), (0, .ref (E.2.1 (b))), (1, .int (nI (a))), (2, .int (nI (b0))), (3, .int g), (5, .int (nI (a + k))), (6, .int (nI (j)))] dX3_defaultsInView_68 4 rfl rfl (by decide) rfl ?_
                  refine y_iinc X [(6, .int (nI (j + 1))), (4, .int (y4 + 1)), (0, .ref (E.2.1 (b))), (1, .int (nI (a))), (2, .int (nI (b0))), (3, .int g), (5, .int (nI (a + k)))] dX3_defaultsInView_71 6 rfl (nI_1 _) (by decide) rfl ?_
                  refine y_goto X 31 dX3_defaultsInView_74 (by decide) ?_
                  refine y_pick [2, 3, 4, 5, 1, 6, 0] [(0, .ref (E.2.1 (b))), (1, .int (nI (a))), (2, .int (nI (b0))), (3, .int g), (4, .int (y4 + 1)), (5, .int (nI (a + k))), (6, .int (nI (j + 1)))] rfl ?_
                  exact ih31 (j + 1) ((y4 + 1)) (by omega) (by omega) (by rw [gy]; exact smx_pos (if_pos ⟨c_3, c_4⟩))
        refine y_pick [1, 2, 3, 4, 5, 6, 0] [(0, .ref (E.2.1 (b))), (1, .int (nI (a))), (2, .int (nI (b0))), (3, .int g), (4, .int x4), (5, .int (nI (a + k))), (6, .int (0))] rfl ?_
        exact L_31 _ (0) (x4) (Nat.lt_succ_self _) (by omega) (by show x4 = x4 + 0; rw [Int32.add_zero])
  refine y_pick [3, 4, 5, 2, 1, 0] [(0, .ref (E.2.1 (b))), (1, .int (nI (a))), (2, .int (nI (b0))), (3, .int g), (4, .int (0)), (5, .int (nI (a)))] rfl ?_
  exact L_22 _ (0) (0) (Nat.lt_succ_self _) (by omega) rfl

set_option maxRecDepth 100000 in
set_option maxHeartbeats 4000000 in
theorem c_X3_widestKind {l : Launch} {E : xE} {C : xC} {b : Nat} {T : Tb} (gb : b + 4 < 61) (gT : RC E C b T) (gw : WB T) {a b0 j : Nat} (ga : a < tr T) (gz : b0 < tr T) (gj : j < 8) (gh : ∀ i : Nat, a ≤ i → i ≤ b0 → ¬ tk T (ts T i) j = -1) : xR E l yX3_widestKind wsX3_widestKind 2 44 [.ref (E.2.1 (b)), .int (nI (a)), .int (nI (b0)), .int (nI (j))] C (wdt T a j (b0 + 1 - a)) := by
  obtain ⟨zK, zD, zS, zV, h0, h1, h2, h3, h4, gK, gD, gS, gV⟩ := id gT
  obtain ⟨gw1, gw2, gw3, gw4⟩ := id gw
  refine xM_ofY (cc := cX3_widestKind) (maxL := 6) (ret := (some .int)) (by decide) rfl (Nat.le_of_ble_eq_true rfl) ?_
  intro p e s m args below meth c X hr
  refine y_lv [(0, .ref (E.2.1 (b))), (1, .int (nI (a))), (2, .int (nI (b0))), (3, .int (nI (j)))] rfl ?_
  refine y_iconst X (v := (0)) dX3_widestKind_0 (by decide) ?_
  refine y_istore X [(4, .int (0)), (0, .ref (E.2.1 (b))), (1, .int (nI (a))), (2, .int (nI (b0))), (3, .int (nI (j)))] dX3_widestKind_1 (by decide) rfl ?_
  refine y_iload_n X dX3_widestKind_3 2 rfl ?_
  refine y_istore X [(5, .int (nI (a))), (4, .int (0)), (0, .ref (E.2.1 (b))), (1, .int (nI (a))), (2, .int (nI (b0))), (3, .int (nI (j)))] dX3_widestKind_4 (by decide) rfl ?_
  have L_6 : ∀ (n : Nat) (k : Nat) (x4 : Int32), b0 + 1 - a - k < n → (k ≤ b0 + 1 - a) → (x4 = wdt T a j k) → xY p l e ({ frames := 2, cells := 0, slots := 0, locals := 44 } : Room) s m args below meth c E (xA E) 6 0 0 (MQ below (xQ E (fun v C1 => v = some (.int (wdt T a j (b0 + 1 - a))) ∧ C1 = C)) args s 0 0 (xA E)) C 6 [(0, .ref (E.2.1 (b))), (1, .int (nI (a))), (2, .int (nI (b0))), (3, .int (nI (j))), (4, .int x4), (5, .int (nI (a + k)))] [] := by
    intro n6
    induction n6 with
    | zero => intro _ _ hm6; exact absurd hm6 (Nat.not_lt_zero _)
    | succ n6 ih6 =>
      intro k x4 hm6 gk gx
      refine y_iload X dX3_widestKind_6 5 rfl ?_
      refine y_iload_n X dX3_widestKind_8 2 rfl ?_
      refine y_icmp_gt X 32 ((b0) < (a + k)) dX3_widestKind_9 (by decide) (nI_ltI (a := b0) (b := a + k) (by omega) (by omega)) (fun c_1 => ?_) (fun c_1 => ?_)
      ·
        refine y_iload X dX3_widestKind_32 4 rfl ?_
        exact y_iret X hr dX3_widestKind_34 rfl ⟨by rw [gx, show k = b0 + 1 - a by omega], rfl⟩
      ·
        refine y_iload X dX3_widestKind_12 4 rfl ?_
        refine y_aload_n X dX3_widestKind_14 0 rfl ?_
        refine y_iload X dX3_widestKind_15 5 rfl ?_
        refine y_iload_n X dX3_widestKind_17 3 rfl ?_
        have gpr := gh (a + k) (by omega) (by omega)
        refine y_callVr X (b) 3 (av := [.int (nI (a + k)), .int (nI (j))]) [.int x4] 2 (c_X3_kindInRow (b := b) (by omega) gT gw (i := a + k) (j := j) (by omega) (by omega)) (by omega) h0 rfl gX3_widestKind_X3_kindInRow rfl (by decide +kernel) rfl ⟨Nat.le_of_ble_eq_true rfl, Nat.le_of_ble_eq_true rfl⟩ ⟨Nat.zero_le _, Nat.zero_le _⟩ (Nat.le_of_ble_eq_true rfl) rfl dX3_widestKind_18 ?_
        refine y_max X (z := (if x4 < (tk T (ts T (a + k)) (j)) then (tk T (ts T (a + k)) (j)) else x4)) dX3_widestKind_21 (by decide +kernel) (by decide +kernel) (by decide +kernel) (by decide +kernel) (Nat.le_of_ble_eq_true rfl) (Nat.le_of_ble_eq_true rfl) ⟨Nat.zero_le _, Nat.zero_le _⟩ rfl ?_
        refine y_istore X [(4, .int (if x4 < (tk T (ts T (a + k)) (j)) then (tk T (ts T (a + k)) (j)) else x4)), (0, .ref (E.2.1 (b))), (1, .int (nI (a))), (2, .int (nI (b0))), (3, .int (nI (j))), (5, .int (nI (a + k)))] dX3_widestKind_24 (by decide) rfl ?_
        refine y_iinc X [(5, .int (nI (a + k + 1))), (4, .int (if x4 < (tk T (ts T (a + k)) (j)) then (tk T (ts T (a + k)) (j)) else x4)), (0, .ref (E.2.1 (b))), (1, .int (nI (a))), (2, .int (nI (b0))), (3, .int (nI (j)))] dX3_widestKind_26 5 rfl (nI_1 _) (by decide) rfl ?_
        refine y_goto X 6 dX3_widestKind_29 (by decide) ?_
        refine y_pick [2, 3, 4, 5, 1, 0] [(0, .ref (E.2.1 (b))), (1, .int (nI (a))), (2, .int (nI (b0))), (3, .int (nI (j))), (4, .int (if x4 < (tk T (ts T (a + k)) (j)) then (tk T (ts T (a + k)) (j)) else x4)), (5, .int (nI (a + k + 1)))] rfl ?_
        exact ih6 (k + 1) ((if x4 < (tk T (ts T (a + k)) (j)) then (tk T (ts T (a + k)) (j)) else x4)) (by omega) (by omega) (by rw [gx]; rfl)
  refine y_pick [2, 3, 4, 5, 1, 0] [(0, .ref (E.2.1 (b))), (1, .int (nI (a))), (2, .int (nI (b0))), (3, .int (nI (j))), (4, .int (0)), (5, .int (nI (a)))] rfl ?_
  exact L_6 _ (0) ((0)) (Nat.lt_succ_self _) (by omega) rfl

set_option maxRecDepth 100000 in
set_option maxHeartbeats 4000000 in
theorem c_X3_sumOfValues {l : Launch} {E : xE} {C : xC} {b : Nat} {T : Tb} (gb : b + 4 < 61) (gT : RC E C b T) (gw : WB T) {a b0 j : Nat} (ga : a < tr T) (gz : b0 < tr T) (gj : j < 8) (gh : ∀ i : Nat, a ≤ i → i ≤ b0 → ¬ tk T (ts T i) j = -1) : xR E l yX3_sumOfValues wsX3_sumOfValues 1 22 [.ref (E.2.1 (b)), .int (nI (a)), .int (nI (b0)), .int (nI (j))] C (svs T a j (b0 + 1 - a)) := by
  obtain ⟨zK, zD, zS, zV, h0, h1, h2, h3, h4, gK, gD, gS, gV⟩ := id gT
  obtain ⟨gw1, gw2, gw3, gw4⟩ := id gw
  refine xM_ofY (cc := cX3_sumOfValues) (maxL := 6) (ret := (some .int)) (by decide) rfl (Nat.le_of_ble_eq_true rfl) ?_
  intro p e s m args below meth c X hr
  refine y_lv [(0, .ref (E.2.1 (b))), (1, .int (nI (a))), (2, .int (nI (b0))), (3, .int (nI (j)))] rfl ?_
  refine y_iconst X (v := (0)) dX3_sumOfValues_0 (by decide) ?_
  refine y_istore X [(4, .int (0)), (0, .ref (E.2.1 (b))), (1, .int (nI (a))), (2, .int (nI (b0))), (3, .int (nI (j)))] dX3_sumOfValues_1 (by decide) rfl ?_
  refine y_iload_n X dX3_sumOfValues_3 2 rfl ?_
  refine y_istore X [(5, .int (nI (a))), (4, .int (0)), (0, .ref (E.2.1 (b))), (1, .int (nI (a))), (2, .int (nI (b0))), (3, .int (nI (j)))] dX3_sumOfValues_4 (by decide) rfl ?_
  have L_6 : ∀ (n : Nat) (k : Nat) (x4 : Int32), b0 + 1 - a - k < n → (k ≤ b0 + 1 - a) → (x4 = svs T a j k) → xY p l e ({ frames := 1, cells := 0, slots := 0, locals := 22 } : Room) s m args below meth c E (xA E) 6 0 0 (MQ below (xQ E (fun v C1 => v = some (.int (svs T a j (b0 + 1 - a))) ∧ C1 = C)) args s 0 0 (xA E)) C 6 [(0, .ref (E.2.1 (b))), (1, .int (nI (a))), (2, .int (nI (b0))), (3, .int (nI (j))), (4, .int x4), (5, .int (nI (a + k)))] [] := by
    intro n6
    induction n6 with
    | zero => intro _ _ hm6; exact absurd hm6 (Nat.not_lt_zero _)
    | succ n6 ih6 =>
      intro k x4 hm6 gk gx
      refine y_iload X dX3_sumOfValues_6 5 rfl ?_
      refine y_iload_n X dX3_sumOfValues_8 2 rfl ?_
      refine y_icmp_gt X 30 ((b0) < (a + k)) dX3_sumOfValues_9 (by decide) (nI_ltI (a := b0) (b := a + k) (by omega) (by omega)) (fun c_1 => ?_) (fun c_1 => ?_)
      ·
        refine y_iload X dX3_sumOfValues_30 4 rfl ?_
        exact y_iret X hr dX3_sumOfValues_32 rfl ⟨by rw [gx, show k = b0 + 1 - a by omega], rfl⟩
      ·
        refine y_iload X dX3_sumOfValues_12 4 rfl ?_
        refine y_aload_n X dX3_sumOfValues_14 0 rfl ?_
        refine y_iload X dX3_sumOfValues_15 5 rfl ?_
        refine y_iload_n X dX3_sumOfValues_17 3 rfl ?_
        have gpr := gh (a + k) (by omega) (by omega)
        refine y_callVr X (b) 3 (av := [.int (nI (a + k)), .int (nI (j))]) [.int x4] 2 (c_X3_valueAt (b := b) (by omega) gT gw (i := a + k) (j := j) (by omega) (by omega) (by assumption)) (by omega) h0 rfl gX3_sumOfValues_X3_valueAt rfl (by decide +kernel) rfl ⟨Nat.le_of_ble_eq_true rfl, Nat.le_of_ble_eq_true rfl⟩ ⟨Nat.zero_le _, Nat.zero_le _⟩ (Nat.le_of_ble_eq_true rfl) rfl dX3_sumOfValues_18 ?_
        refine y_iadd X (z := (x4 + (tv T (a + k) (j)))) dX3_sumOfValues_21 rfl ?_
        refine y_istore X [(4, .int (x4 + (tv T (a + k) (j)))), (0, .ref (E.2.1 (b))), (1, .int (nI (a))), (2, .int (nI (b0))), (3, .int (nI (j))), (5, .int (nI (a + k)))] dX3_sumOfValues_22 (by decide) rfl ?_
        refine y_iinc X [(5, .int (nI (a + k + 1))), (4, .int (x4 + (tv T (a + k) (j)))), (0, .ref (E.2.1 (b))), (1, .int (nI (a))), (2, .int (nI (b0))), (3, .int (nI (j)))] dX3_sumOfValues_24 5 rfl (nI_1 _) (by decide) rfl ?_
        refine y_goto X 6 dX3_sumOfValues_27 (by decide) ?_
        refine y_pick [2, 3, 4, 5, 1, 0] [(0, .ref (E.2.1 (b))), (1, .int (nI (a))), (2, .int (nI (b0))), (3, .int (nI (j))), (4, .int (x4 + (tv T (a + k) (j)))), (5, .int (nI (a + k + 1)))] rfl ?_
        exact ih6 (k + 1) ((x4 + (tv T (a + k) (j)))) (by omega) (by omega) (by rw [gx]; rfl)
  refine y_pick [2, 3, 4, 5, 1, 0] [(0, .ref (E.2.1 (b))), (1, .int (nI (a))), (2, .int (nI (b0))), (3, .int (nI (j))), (4, .int (0)), (5, .int (nI (a)))] rfl ?_
  exact L_6 _ (0) ((0)) (Nat.lt_succ_self _) (by omega) rfl

set_option maxRecDepth 100000 in
set_option maxHeartbeats 4000000 in
theorem c_X3_leastValue {l : Launch} {E : xE} {C : xC} {b : Nat} {T : Tb} (gb : b + 4 < 61) (gT : RC E C b T) (gw : WB T) {a b0 j : Nat} (ga : a < tr T) (gz : b0 < tr T) (gj : j < 8) (gh : ∀ i : Nat, a ≤ i → i ≤ b0 → ¬ tk T (ts T i) j = -1) : xR E l yX3_leastValue wsX3_leastValue 1 22 [.ref (E.2.1 (b)), .int (nI (a)), .int (nI (b0)), .int (nI (j))] C (lea T a j (b0 + 1 - a)) := by
  obtain ⟨zK, zD, zS, zV, h0, h1, h2, h3, h4, gK, gD, gS, gV⟩ := id gT
  obtain ⟨gw1, gw2, gw3, gw4⟩ := id gw
  refine xM_ofY (cc := cX3_leastValue) (maxL := 6) (ret := (some .int)) (by decide) rfl (Nat.le_of_ble_eq_true rfl) ?_
  intro p e s m args below meth c X hr
  refine y_lv [(0, .ref (E.2.1 (b))), (1, .int (nI (a))), (2, .int (nI (b0))), (3, .int (nI (j)))] rfl ?_
  refine y_sipush X (v := (9999)) dX3_leastValue_0 (by decide) ?_
  refine y_istore X [(4, .int (9999)), (0, .ref (E.2.1 (b))), (1, .int (nI (a))), (2, .int (nI (b0))), (3, .int (nI (j)))] dX3_leastValue_3 (by decide) rfl ?_
  refine y_iload_n X dX3_leastValue_5 2 rfl ?_
  refine y_istore X [(5, .int (nI (a))), (4, .int (9999)), (0, .ref (E.2.1 (b))), (1, .int (nI (a))), (2, .int (nI (b0))), (3, .int (nI (j)))] dX3_leastValue_6 (by decide) rfl ?_
  have L_8 : ∀ (n : Nat) (k : Nat) (x4 : Int32), b0 + 1 - a - k < n → (k ≤ b0 + 1 - a) → (x4 = lea T a j k) → xY p l e ({ frames := 1, cells := 0, slots := 0, locals := 22 } : Room) s m args below meth c E (xA E) 6 0 0 (MQ below (xQ E (fun v C1 => v = some (.int (lea T a j (b0 + 1 - a))) ∧ C1 = C)) args s 0 0 (xA E)) C 8 [(0, .ref (E.2.1 (b))), (1, .int (nI (a))), (2, .int (nI (b0))), (3, .int (nI (j))), (4, .int x4), (5, .int (nI (a + k)))] [] := by
    intro n8
    induction n8 with
    | zero => intro _ _ hm8; exact absurd hm8 (Nat.not_lt_zero _)
    | succ n8 ih8 =>
      intro k x4 hm8 gk gx
      refine y_iload X dX3_leastValue_8 5 rfl ?_
      refine y_iload_n X dX3_leastValue_10 2 rfl ?_
      refine y_icmp_gt X 34 ((b0) < (a + k)) dX3_leastValue_11 (by decide) (nI_ltI (a := b0) (b := a + k) (by omega) (by omega)) (fun c_1 => ?_) (fun c_1 => ?_)
      ·
        refine y_iload X dX3_leastValue_34 4 rfl ?_
        exact y_iret X hr dX3_leastValue_36 rfl ⟨by rw [gx, show k = b0 + 1 - a by omega], rfl⟩
      ·
        refine y_iload X dX3_leastValue_14 4 rfl ?_
        refine y_aload_n X dX3_leastValue_16 0 rfl ?_
        refine y_iload X dX3_leastValue_17 5 rfl ?_
        refine y_iload_n X dX3_leastValue_19 3 rfl ?_
        have gpr := gh (a + k) (by omega) (by omega)
        refine y_callVr X (b) 3 (av := [.int (nI (a + k)), .int (nI (j))]) [.int x4] 2 (c_X3_valueAt (b := b) (by omega) gT gw (i := a + k) (j := j) (by omega) (by omega) (by assumption)) (by omega) h0 rfl gX3_leastValue_X3_valueAt rfl (by decide +kernel) rfl ⟨Nat.le_of_ble_eq_true rfl, Nat.le_of_ble_eq_true rfl⟩ ⟨Nat.zero_le _, Nat.zero_le _⟩ (Nat.le_of_ble_eq_true rfl) rfl dX3_leastValue_20 ?_
        refine y_min X (z := (if (tv T (a + k) (j)) < x4 then (tv T (a + k) (j)) else x4)) dX3_leastValue_23 (by decide +kernel) (by decide +kernel) (by decide +kernel) (by decide +kernel) (Nat.le_of_ble_eq_true rfl) (Nat.le_of_ble_eq_true rfl) ⟨Nat.zero_le _, Nat.zero_le _⟩ rfl ?_
        refine y_istore X [(4, .int (if (tv T (a + k) (j)) < x4 then (tv T (a + k) (j)) else x4)), (0, .ref (E.2.1 (b))), (1, .int (nI (a))), (2, .int (nI (b0))), (3, .int (nI (j))), (5, .int (nI (a + k)))] dX3_leastValue_26 (by decide) rfl ?_
        refine y_iinc X [(5, .int (nI (a + k + 1))), (4, .int (if (tv T (a + k) (j)) < x4 then (tv T (a + k) (j)) else x4)), (0, .ref (E.2.1 (b))), (1, .int (nI (a))), (2, .int (nI (b0))), (3, .int (nI (j)))] dX3_leastValue_28 5 rfl (nI_1 _) (by decide) rfl ?_
        refine y_goto X 8 dX3_leastValue_31 (by decide) ?_
        refine y_pick [2, 3, 4, 5, 1, 0] [(0, .ref (E.2.1 (b))), (1, .int (nI (a))), (2, .int (nI (b0))), (3, .int (nI (j))), (4, .int (if (tv T (a + k) (j)) < x4 then (tv T (a + k) (j)) else x4)), (5, .int (nI (a + k + 1)))] rfl ?_
        exact ih8 (k + 1) ((if (tv T (a + k) (j)) < x4 then (tv T (a + k) (j)) else x4)) (by omega) (by omega) (by rw [gx]; rfl)
  refine y_pick [2, 3, 4, 5, 1, 0] [(0, .ref (E.2.1 (b))), (1, .int (nI (a))), (2, .int (nI (b0))), (3, .int (nI (j))), (4, .int (9999)), (5, .int (nI (a)))] rfl ?_
  exact L_8 _ (0) ((9999)) (Nat.lt_succ_self _) (by omega) rfl

set_option maxRecDepth 100000 in
set_option maxHeartbeats 4000000 in
theorem c_X3_greatestValue {l : Launch} {E : xE} {C : xC} {b : Nat} {T : Tb} (gb : b + 4 < 61) (gT : RC E C b T) (gw : WB T) {a b0 j : Nat} (ga : a < tr T) (gz : b0 < tr T) (gj : j < 8) (gh : ∀ i : Nat, a ≤ i → i ≤ b0 → ¬ tk T (ts T i) j = -1) : xR E l yX3_greatestValue wsX3_greatestValue 1 22 [.ref (E.2.1 (b)), .int (nI (a)), .int (nI (b0)), .int (nI (j))] C (gre T a j (b0 + 1 - a)) := by
  obtain ⟨zK, zD, zS, zV, h0, h1, h2, h3, h4, gK, gD, gS, gV⟩ := id gT
  obtain ⟨gw1, gw2, gw3, gw4⟩ := id gw
  refine xM_ofY (cc := cX3_greatestValue) (maxL := 6) (ret := (some .int)) (by decide) rfl (Nat.le_of_ble_eq_true rfl) ?_
  intro p e s m args below meth c X hr
  refine y_lv [(0, .ref (E.2.1 (b))), (1, .int (nI (a))), (2, .int (nI (b0))), (3, .int (nI (j)))] rfl ?_
  refine y_sipush X (v := (-9999)) dX3_greatestValue_0 (by decide) ?_
  refine y_istore X [(4, .int (-9999)), (0, .ref (E.2.1 (b))), (1, .int (nI (a))), (2, .int (nI (b0))), (3, .int (nI (j)))] dX3_greatestValue_3 (by decide) rfl ?_
  refine y_iload_n X dX3_greatestValue_5 2 rfl ?_
  refine y_istore X [(5, .int (nI (a))), (4, .int (-9999)), (0, .ref (E.2.1 (b))), (1, .int (nI (a))), (2, .int (nI (b0))), (3, .int (nI (j)))] dX3_greatestValue_6 (by decide) rfl ?_
  have L_8 : ∀ (n : Nat) (k : Nat) (x4 : Int32), b0 + 1 - a - k < n → (k ≤ b0 + 1 - a) → (x4 = gre T a j k) → xY p l e ({ frames := 1, cells := 0, slots := 0, locals := 22 } : Room) s m args below meth c E (xA E) 6 0 0 (MQ below (xQ E (fun v C1 => v = some (.int (gre T a j (b0 + 1 - a))) ∧ C1 = C)) args s 0 0 (xA E)) C 8 [(0, .ref (E.2.1 (b))), (1, .int (nI (a))), (2, .int (nI (b0))), (3, .int (nI (j))), (4, .int x4), (5, .int (nI (a + k)))] [] := by
    intro n8
    induction n8 with
    | zero => intro _ _ hm8; exact absurd hm8 (Nat.not_lt_zero _)
    | succ n8 ih8 =>
      intro k x4 hm8 gk gx
      refine y_iload X dX3_greatestValue_8 5 rfl ?_
      refine y_iload_n X dX3_greatestValue_10 2 rfl ?_
      refine y_icmp_gt X 34 ((b0) < (a + k)) dX3_greatestValue_11 (by decide) (nI_ltI (a := b0) (b := a + k) (by omega) (by omega)) (fun c_1 => ?_) (fun c_1 => ?_)
      ·
        refine y_iload X dX3_greatestValue_34 4 rfl ?_
        exact y_iret X hr dX3_greatestValue_36 rfl ⟨by rw [gx, show k = b0 + 1 - a by omega], rfl⟩
      ·
        refine y_iload X dX3_greatestValue_14 4 rfl ?_
        refine y_aload_n X dX3_greatestValue_16 0 rfl ?_
        refine y_iload X dX3_greatestValue_17 5 rfl ?_
        refine y_iload_n X dX3_greatestValue_19 3 rfl ?_
        have gpr := gh (a + k) (by omega) (by omega)
        refine y_callVr X (b) 3 (av := [.int (nI (a + k)), .int (nI (j))]) [.int x4] 2 (c_X3_valueAt (b := b) (by omega) gT gw (i := a + k) (j := j) (by omega) (by omega) (by assumption)) (by omega) h0 rfl gX3_greatestValue_X3_valueAt rfl (by decide +kernel) rfl ⟨Nat.le_of_ble_eq_true rfl, Nat.le_of_ble_eq_true rfl⟩ ⟨Nat.zero_le _, Nat.zero_le _⟩ (Nat.le_of_ble_eq_true rfl) rfl dX3_greatestValue_20 ?_
        refine y_max X (z := (if x4 < (tv T (a + k) (j)) then (tv T (a + k) (j)) else x4)) dX3_greatestValue_23 (by decide +kernel) (by decide +kernel) (by decide +kernel) (by decide +kernel) (Nat.le_of_ble_eq_true rfl) (Nat.le_of_ble_eq_true rfl) ⟨Nat.zero_le _, Nat.zero_le _⟩ rfl ?_
        refine y_istore X [(4, .int (if x4 < (tv T (a + k) (j)) then (tv T (a + k) (j)) else x4)), (0, .ref (E.2.1 (b))), (1, .int (nI (a))), (2, .int (nI (b0))), (3, .int (nI (j))), (5, .int (nI (a + k)))] dX3_greatestValue_26 (by decide) rfl ?_
        refine y_iinc X [(5, .int (nI (a + k + 1))), (4, .int (if x4 < (tv T (a + k) (j)) then (tv T (a + k) (j)) else x4)), (0, .ref (E.2.1 (b))), (1, .int (nI (a))), (2, .int (nI (b0))), (3, .int (nI (j)))] dX3_greatestValue_28 5 rfl (nI_1 _) (by decide) rfl ?_
        refine y_goto X 8 dX3_greatestValue_31 (by decide) ?_
        refine y_pick [2, 3, 4, 5, 1, 0] [(0, .ref (E.2.1 (b))), (1, .int (nI (a))), (2, .int (nI (b0))), (3, .int (nI (j))), (4, .int (if x4 < (tv T (a + k) (j)) then (tv T (a + k) (j)) else x4)), (5, .int (nI (a + k + 1)))] rfl ?_
        exact ih8 (k + 1) ((if x4 < (tv T (a + k) (j)) then (tv T (a + k) (j)) else x4)) (by omega) (by omega) (by rw [gx]; rfl)
  refine y_pick [2, 3, 4, 5, 1, 0] [(0, .ref (E.2.1 (b))), (1, .int (nI (a))), (2, .int (nI (b0))), (3, .int (nI (j))), (4, .int (-9999)), (5, .int (nI (a)))] rfl ?_
  exact L_8 _ (0) ((-9999)) (Nat.lt_succ_self _) (by omega) rfl

set_option maxRecDepth 100000 in
set_option maxHeartbeats 4000000 in
theorem c_X3_isFirstOfItsValue {l : Launch} {E : xE} {C : xC} {b : Nat} {T : Tb} (gb : b + 4 < 61) (gT : RC E C b T) (gw : WB T) {a i j : Nat} (ga : a ≤ i) (gz : i < tr T) (gj : j < 8) (gh : ∀ r : Nat, a ≤ r → r ≤ i → ¬ tk T (ts T r) j = -1) : xR E l yX3_isFirstOfItsValue wsX3_isFirstOfItsValue 1 22 [.ref (E.2.1 (b)), .int (nI (a)), .int (nI (i)), .int (nI (j))] C (bI (fstV T a j i)) := by
  obtain ⟨zK, zD, zS, zV, h0, h1, h2, h3, h4, gK, gD, gS, gV⟩ := id gT
  obtain ⟨gw1, gw2, gw3, gw4⟩ := id gw
  refine xM_ofY (cc := cX3_isFirstOfItsValue) (maxL := 5) (ret := (some .boolean)) (by decide) rfl (Nat.le_of_ble_eq_true rfl) ?_
  intro p e s m args below meth c X hr
  refine y_lv [(0, .ref (E.2.1 (b))), (1, .int (nI (a))), (2, .int (nI (i))), (3, .int (nI (j)))] rfl ?_
  refine y_iload_n X dX3_isFirstOfItsValue_0 1 rfl ?_
  refine y_istore X [(4, .int (nI (a))), (0, .ref (E.2.1 (b))), (1, .int (nI (a))), (2, .int (nI (i))), (3, .int (nI (j)))] dX3_isFirstOfItsValue_1 (by decide) rfl ?_
  have L_3 : ∀ (n : Nat) (k : Nat), i - (a + k) < n → (a + k ≤ i) → (∀ z : Nat, z < k → ¬ tv T (a + z) j = tv T i j) → xY p l e ({ frames := 1, cells := 0, slots := 0, locals := 22 } : Room) s m args below meth c E (xA E) 5 0 0 (MQ below (xQ E (fun v C1 => v = some (.int (bI (fstV T a j i))) ∧ C1 = C)) args s 0 0 (xA E)) C 3 [(0, .ref (E.2.1 (b))), (1, .int (nI (a))), (2, .int (nI (i))), (3, .int (nI (j))), (4, .int (nI (a + k)))] [] := by
    intro n3
    induction n3 with
    | zero => intro _ hm3; exact absurd hm3 (Nat.not_lt_zero _)
    | succ n3 ih3 =>
      intro k hm3 gk gx
      refine y_iload X dX3_isFirstOfItsValue_3 4 rfl ?_
      refine y_iload_n X dX3_isFirstOfItsValue_5 2 rfl ?_
      refine y_icmp_ge X 33 ((i) ≤ (a + k)) dX3_isFirstOfItsValue_6 (by decide) (nI_leI (a := i) (b := a + k) (by omega) (by omega)) (fun c_1 => ?_) (fun c_1 => ?_)
      ·
        refine y_iconst X (v := (1)) dX3_isFirstOfItsValue_33 (by decide) ?_
        exact y_zret X hr (by rfl) dX3_isFirstOfItsValue_34 rfl ⟨by rw [bI_1 (P := fstV T a j i) (fun z hz => gx z (by omega))], rfl⟩
      ·
        refine y_aload_n X dX3_isFirstOfItsValue_9 0 rfl ?_
        refine y_iload X dX3_isFirstOfItsValue_10 4 rfl ?_
        refine y_iload_n X dX3_isFirstOfItsValue_12 3 rfl ?_
        have gpr := gh (a + k) (by omega) (by omega)
        refine y_callVr X (b) 3 (av := [.int (nI (a + k)), .int (nI (j))]) [] 2 (c_X3_valueAt (b := b) (by omega) gT gw (i := a + k) (j := j) (by omega) (by omega) (by assumption)) (by omega) h0 rfl gX3_isFirstOfItsValue_X3_valueAt rfl (by decide +kernel) rfl ⟨Nat.le_of_ble_eq_true rfl, Nat.le_of_ble_eq_true rfl⟩ ⟨Nat.zero_le _, Nat.zero_le _⟩ (Nat.le_of_ble_eq_true rfl) rfl dX3_isFirstOfItsValue_13 ?_
        refine y_aload_n X dX3_isFirstOfItsValue_16 0 rfl ?_
        refine y_iload_n X dX3_isFirstOfItsValue_17 2 rfl ?_
        refine y_iload_n X dX3_isFirstOfItsValue_18 3 rfl ?_
        have gpr2 := gh i (by omega) (by omega)
        refine y_callVr X (b) 3 (av := [.int (nI (i)), .int (nI (j))]) [.int (tv T (a + k) (j))] 2 (c_X3_valueAt (b := b) (by omega) gT gw (i := i) (j := j) (by omega) (by omega) (by assumption)) (by omega) h0 rfl gX3_isFirstOfItsValue_X3_valueAt rfl (by decide +kernel) rfl ⟨Nat.le_of_ble_eq_true rfl, Nat.le_of_ble_eq_true rfl⟩ ⟨Nat.zero_le _, Nat.zero_le _⟩ (Nat.le_of_ble_eq_true rfl) rfl dX3_isFirstOfItsValue_19 ?_
        refine y_icmp_ne X 27 (¬ ((tv T (a + k) (j)) = (tv T (i) (j)))) dX3_isFirstOfItsValue_22 (by decide) Iff.rfl (fun c_2 => ?_) (fun c_2 => ?_)
        ·
          refine y_iinc X [(4, .int (nI (a + k + 1))), (0, .ref (E.2.1 (b))), (1, .int (nI (a))), (2, .int (nI (i))), (3, .int (nI (j)))] dX3_isFirstOfItsValue_27 4 rfl (nI_1 _) (by decide) rfl ?_
          refine y_goto X 3 dX3_isFirstOfItsValue_30 (by decide) ?_
          refine y_pick [1, 2, 3, 4, 0] [(0, .ref (E.2.1 (b))), (1, .int (nI (a))), (2, .int (nI (i))), (3, .int (nI (j))), (4, .int (nI (a + k + 1)))] rfl ?_
          exact ih3 (k + 1) (by omega) (by omega) (fun z hz => by rcases Nat.lt_or_ge z k with q1 | q1; exact gx z q1; rw [show z = k by omega]; exact c_2)
        ·
          have c_2 := Decidable.of_not_not c_2
          refine y_iconst X (v := (0)) dX3_isFirstOfItsValue_25 (by decide) ?_
          exact y_zret X hr (by rfl) dX3_isFirstOfItsValue_26 rfl ⟨by rw [bI_0 (P := fstV T a j i) (fun z => z k (by omega) (by first | exact c_2 | exact Decidable.of_not_not c_2))], rfl⟩
  refine y_pick [1, 2, 3, 4, 0] [(0, .ref (E.2.1 (b))), (1, .int (nI (a))), (2, .int (nI (i))), (3, .int (nI (j))), (4, .int (nI (a)))] rfl ?_
  exact L_3 _ (0) (Nat.lt_succ_self _) (by omega) (fun z hz => absurd hz (Nat.not_lt_zero _))

set_option maxRecDepth 100000 in
set_option maxHeartbeats 4000000 in
theorem c_X3_unlikeValues {l : Launch} {E : xE} {C : xC} {b : Nat} {T : Tb} (gb : b + 4 < 61) (gT : RC E C b T) (gw : WB T) {a b0 j : Nat} (ga : a < tr T) (gz : b0 < tr T) (gj : j < 8) (gh : ∀ i : Nat, a ≤ i → i ≤ b0 → ¬ tk T (ts T i) j = -1) : xR E l yX3_unlikeValues wsX3_unlikeValues 2 46 [.ref (E.2.1 (b)), .int (nI (a)), .int (nI (b0)), .int (nI (j))] C (unl T a j (b0 + 1 - a)) := by
  obtain ⟨zK, zD, zS, zV, h0, h1, h2, h3, h4, gK, gD, gS, gV⟩ := id gT
  obtain ⟨gw1, gw2, gw3, gw4⟩ := id gw
  refine xM_ofY (cc := cX3_unlikeValues) (maxL := 6) (ret := (some .int)) (by decide) rfl (Nat.le_of_ble_eq_true rfl) ?_
  intro p e s m args below meth c X hr
  refine y_lv [(0, .ref (E.2.1 (b))), (1, .int (nI (a))), (2, .int (nI (b0))), (3, .int (nI (j)))] rfl ?_
  refine y_iconst X (v := (0)) dX3_unlikeValues_0 (by decide) ?_
  refine y_istore X [(4, .int (0)), (0, .ref (E.2.1 (b))), (1, .int (nI (a))), (2, .int (nI (b0))), (3, .int (nI (j)))] dX3_unlikeValues_1 (by decide) rfl ?_
  refine y_iload_n X dX3_unlikeValues_3 2 rfl ?_
  refine y_istore X [(5, .int (nI (a))), (4, .int (0)), (0, .ref (E.2.1 (b))), (1, .int (nI (a))), (2, .int (nI (b0))), (3, .int (nI (j)))] dX3_unlikeValues_4 (by decide) rfl ?_
  have L_6 : ∀ (n : Nat) (k : Nat) (x4 : Int32), b0 + 1 - a - k < n → (k ≤ b0 + 1 - a) → (x4 = unl T a j k) → xY p l e ({ frames := 2, cells := 0, slots := 0, locals := 46 } : Room) s m args below meth c E (xA E) 6 0 0 (MQ below (xQ E (fun v C1 => v = some (.int (unl T a j (b0 + 1 - a))) ∧ C1 = C)) args s 0 0 (xA E)) C 6 [(0, .ref (E.2.1 (b))), (1, .int (nI (a))), (2, .int (nI (b0))), (3, .int (nI (j))), (4, .int x4), (5, .int (nI (a + k)))] [] := by
    intro n6
    induction n6 with
    | zero => intro _ _ hm6; exact absurd hm6 (Nat.not_lt_zero _)
    | succ n6 ih6 =>
      intro k x4 hm6 gk gx
      refine y_iload X dX3_unlikeValues_6 5 rfl ?_
      refine y_iload_n X dX3_unlikeValues_8 2 rfl ?_
      refine y_icmp_gt X 32 ((b0) < (a + k)) dX3_unlikeValues_9 (by decide) (nI_ltI (a := b0) (b := a + k) (by omega) (by omega)) (fun c_1 => ?_) (fun c_1 => ?_)
      ·
        refine y_iload X dX3_unlikeValues_32 4 rfl ?_
        exact y_iret X hr dX3_unlikeValues_34 rfl ⟨by rw [gx, show k = b0 + 1 - a by omega], rfl⟩
      ·
        refine y_aload_n X dX3_unlikeValues_12 0 rfl ?_
        refine y_iload_n X dX3_unlikeValues_13 1 rfl ?_
        refine y_iload X dX3_unlikeValues_14 5 rfl ?_
        refine y_iload_n X dX3_unlikeValues_16 3 rfl ?_
        refine y_callVr X (b) 3 (av := [.int (nI (a)), .int (nI (a + k)), .int (nI (j))]) [] 3 (c_X3_isFirstOfItsValue (b := b) (by omega) gT gw (a := a) (i := a + k) (j := j) (by omega) (by omega) (by omega) (fun r q1 q2 => gh r (by omega) (by omega))) (by omega) h0 rfl gX3_unlikeValues_X3_isFirstOfItsValue rfl (by decide +kernel) rfl ⟨Nat.le_of_ble_eq_true rfl, Nat.le_of_ble_eq_true rfl⟩ ⟨Nat.zero_le _, Nat.zero_le _⟩ (Nat.le_of_ble_eq_true rfl) rfl dX3_unlikeValues_17 ?_
        refine y_if_eq X 26 (¬ (fstV T (a) (j) (a + k))) dX3_unlikeValues_20 (by decide) bI_eq (fun c_2 => ?_) (fun c_2 => ?_)
        ·
          refine y_iinc X [(5, .int (nI (a + k + 1))), (0, .ref (E.2.1 (b))), (1, .int (nI (a))), (2, .int (nI (b0))), (3, .int (nI (j))), (4, .int x4)] dX3_unlikeValues_26 5 rfl (nI_1 _) (by decide) rfl ?_
          refine y_goto X 6 dX3_unlikeValues_29 (by decide) ?_
          refine y_pick [1, 2, 3, 4, 5, 0] [(0, .ref (E.2.1 (b))), (1, .int (nI (a))), (2, .int (nI (b0))), (3, .int (nI (j))), (4, .int x4), (5, .int (nI (a + k + 1)))] rfl ?_
          exact ih6 (k + 1) (x4) (by omega) (by omega) (by rw [gx]; show _ = sm _ _ + (if _ then _ else _); rw [if_neg c_2, Int32.add_zero]; rfl)
        ·
          have c_2 := Decidable.of_not_not c_2
          refine y_iinc X [(4, .int (x4 + 1)), (0, .ref (E.2.1 (b))), (1, .int (nI (a))), (2, .int (nI (b0))), (3, .int (nI (j))), (5, .int (nI (a + k)))] dX3_unlikeValues_23 4 rfl rfl (by decide) rfl ?_
          refine y_iinc X [(5, .int (nI (a + k + 1))), (4, .int (x4 + 1)), (0, .ref (E.2.1 (b))), (1, .int (nI (a))), (2, .int (nI (b0))), (3, .int (nI (j)))] dX3_unlikeValues_26 5 rfl (nI_1 _) (by decide) rfl ?_
          refine y_goto X 6 dX3_unlikeValues_29 (by decide) ?_
          refine y_pick [2, 3, 4, 5, 1, 0] [(0, .ref (E.2.1 (b))), (1, .int (nI (a))), (2, .int (nI (b0))), (3, .int (nI (j))), (4, .int (x4 + 1)), (5, .int (nI (a + k + 1)))] rfl ?_
          exact ih6 (k + 1) ((x4 + 1)) (by omega) (by omega) (by rw [gx]; show _ = sm _ _ + (if _ then _ else _); rw [if_pos c_2]; rfl)
  refine y_pick [2, 3, 4, 5, 1, 0] [(0, .ref (E.2.1 (b))), (1, .int (nI (a))), (2, .int (nI (b0))), (3, .int (nI (j))), (4, .int (0)), (5, .int (nI (a)))] rfl ?_
  exact L_6 _ (0) (0) (Nat.lt_succ_self _) (by omega) rfl
