set_option maxRecDepth 100000 in
set_option maxHeartbeats 4000000 in
theorem c_X5_column {l : Launch} {E : xE} {C : xC} {T : Tb} {hh : Nat → Tb} {hn : Nat} {sn : Option Tb} {tx : Nat → Int32} {ln : Nat} {sp : Option (Nat × Int32)} (gM : MX E C T hh hn sn tx ln sp) (gW : WX T hh hn sn tx ln sp) {x y w : Int32} : xR E l yX5_column wsX5_column 2 43 [.ref (E.2.1 (61)), .int x, .int y, .int w] C (rCol T x y w) := by
  obtain ⟨zf, zt, zp, zs, zx, zl, pa, va, tl, m0, h2, h3, h4, h5, h6, h7, gRT, gPH, gSN, gTX⟩ := id gM
  obtain ⟨gv, gn4, gWH, gWS, gl80, gch, gsp⟩ := id gW
  have gT : RM E C 62 T := ⟨zf, h2, gRT⟩
  obtain ⟨gw1, gw2, gw3, gw4⟩ := id gv.1
  refine xM_ofY (cc := cX5_column) (maxL := 5) (ret := (some .int)) (by decide) rfl (Nat.le_of_ble_eq_true rfl) ?_
  intro p e s m args below meth c X hr
  have inX5 : ∀ w ∈ wsX50, w ∈ wsX5_column := by decide +kernel
  refine y_lv [(0, .ref (E.2.1 (61))), (1, .int x), (2, .int y), (3, .int w)] rfl ?_
  refine y_aload_n X dX5_column_0 0 rfl ?_
  refine y_iload_n X dX5_column_1 1 rfl ?_
  refine y_callVr X (61) 5 (av := [.int x]) [] 1 (c_X5_isSeason m0 gT gv (x := x)) (by omega) m0 rfl gX5_column_X5_isSeason rfl (by decide +kernel) rfl ⟨Nat.le_of_ble_eq_true rfl, Nat.le_of_ble_eq_true rfl⟩ ⟨Nat.zero_le _, Nat.zero_le _⟩ (Nat.le_of_ble_eq_true rfl) rfl dX5_column_2 ?_
  refine y_if_eq X 15 (¬ (xin x (tn T))) dX5_column_5 (by decide) bI_eq (fun c_1 => ?_) (fun c_1 => ?_)
  ·
    refine y_sipush X (v := (-10001)) dX5_column_15 (by decide) ?_
    exact y_iret X hr dX5_column_18 rfl ⟨congrArg (fun z => some (Value.int z)) (show (-10001) = rCol T x y w by rw [rCol, if_neg (fun z => c_1 z.1)]), rfl⟩
  ·
    have c_1 := Decidable.of_not_not c_1
    obtain ⟨q, gq, geq⟩ := xin_of c_1 (by omega)
    subst geq
    refine y_iload_n X dX5_column_8 2 rfl ?_
    refine y_callJr X (av := [.int y]) [] 1 (c_X5_isName (x := y)) gX5_column_X5_isName rfl (by decide +kernel) rfl ⟨Nat.le_of_ble_eq_true rfl, Nat.le_of_ble_eq_true rfl⟩ ⟨Nat.zero_le _, Nat.zero_le _⟩ (Nat.le_of_ble_eq_true rfl) rfl dX5_column_9 ?_
    refine y_if_ne X 19 (xin y 8) dX5_column_12 (by decide) bI_ne (fun c_2 => ?_) (fun c_2 => ?_)
    ·
      obtain ⟨j, gj, gej⟩ := xin_of c_2 (by decide)
      subst gej
      refine y_iload_n X dX5_column_19 3 rfl ?_
      refine y_iconst X (v := (0)) dX5_column_20 (by decide) ?_
      refine y_iconst X (v := (1)) dX5_column_21 (by decide) ?_
      refine y_callJr X (av := [.int w, .int (0), .int (1)]) [] 3 (c_X5_inN (x := w) (z := (1)) (n := 2) (by decide)) gX5_column_X5_in rfl (by decide +kernel) rfl ⟨Nat.le_of_ble_eq_true rfl, Nat.le_of_ble_eq_true rfl⟩ ⟨Nat.zero_le _, Nat.zero_le _⟩ (Nat.le_of_ble_eq_true rfl) rfl dX5_column_22 ?_
      refine y_if_ne X 32 (xin w 2) dX5_column_25 (by decide) bI_ne (fun c_3 => ?_) (fun c_3 => ?_)
      ·
        have gk2 := WF_k gv gq gj
        refine y_aload_n X dX5_column_32 0 rfl ?_
        refine y_get X (61) 5 0 (Cn := RX5) (T := TX5) (N := 14) (index := 7) (v := .ref (E.2.1 (62))) dX5_column_33 (by omega) m0 rfl (by decide) inX5 (by decide +kernel : Cond.fieldLink RX5 7 "ColumnSeasonsModel" "now" "[I" ∈ wsX5_column) rfl rfl ?_
        refine y_iload_n X dX5_column_36 1 rfl ?_
        refine y_iload_n X dX5_column_37 2 rfl ?_
        refine y_callJr X (av := [.ref (E.2.1 (62)), .int (nI (q)), .int (nI (j))]) [] 3 (c_X5_kindOf (a := 62) (by omega) gT gv (q := q) (j := j) (by omega) (by omega)) gX5_column_X5_kindOf rfl (by decide +kernel) rfl ⟨Nat.le_of_ble_eq_true rfl, Nat.le_of_ble_eq_true rfl⟩ ⟨Nat.zero_le _, Nat.zero_le _⟩ (Nat.le_of_ble_eq_true rfl) rfl dX5_column_38 ?_
        refine y_istore X [(4, .int (tk T (q) (j))), (0, .ref (E.2.1 (61))), (1, .int (nI (q))), (2, .int (nI (j))), (3, .int w)] dX5_column_41 (by decide) rfl ?_
        refine y_iload X dX5_column_43 0 rfl ?_
        refine y_if_ge X 54 (¬ (tk T (q) (j)) = -1) dX5_column_45 (by decide) (kgeI (by first | exact gk1 | exact gk2)) (fun c_4 => ?_) (fun c_4 => ?_)
        ·
          refine y_iload_n X dX5_column_54 4 rfl ?_
          refine y_if_ne X 63 (¬ (w = (0))) dX5_column_55 (by decide) Iff.rfl (fun c_5 => ?_) (fun c_5 => ?_)
          ·
            refine y_aload_n X dX5_column_63 1 rfl ?_
            refine y_get X (61) 5 0 (Cn := RX5) (T := TX5) (N := 14) (index := 7) (v := .ref (E.2.1 (62))) dX5_column_64 (by omega) m0 rfl (by decide) inX5 (by decide +kernel : Cond.fieldLink RX5 7 "ColumnSeasonsModel" "now" "[I" ∈ wsX5_column) rfl rfl ?_
            refine y_iload_n X dX5_column_67 2 rfl ?_
            refine y_iload_n X dX5_column_68 3 rfl ?_
            refine y_callJr X (av := [.ref (E.2.1 (62)), .int (nI (q)), .int (nI (j))]) [] 3 (c_X5_standard (a := 62) (by omega) gT gv (q := q) (j := j) (by omega) (by omega)) gX5_column_X5_standard rfl (by decide +kernel) rfl ⟨Nat.le_of_ble_eq_true rfl, Nat.le_of_ble_eq_true rfl⟩ ⟨Nat.zero_le _, Nat.zero_le _⟩ (Nat.le_of_ble_eq_true rfl) rfl dX5_column_69 ?_
            exact y_iret X hr dX5_column_72 rfl ⟨congrArg (fun z => some (Value.int z)) (show (td T (q) (j)) = rCol T (nI q) (nI j) w by rw [rCol, if_pos ⟨c_1, c_2⟩, if_pos c_3, ix_nI (by omega), ix_nI (by omega), if_neg c_4, if_neg c_5]), rfl⟩
          ·
            have c_5 := Decidable.of_not_not c_5
            refine y_iload X dX5_column_58 0 rfl ?_
            refine y_goto X 72 dX5_column_60 (by decide) ?_
            exact y_iret X hr dX5_column_72 rfl ⟨congrArg (fun z => some (Value.int z)) (show (tk T (q) (j)) = rCol T (nI q) (nI j) w by rw [rCol, if_pos ⟨c_1, c_2⟩, if_pos c_3, ix_nI (by omega), ix_nI (by omega), if_neg c_4, if_pos c_5]), rfl⟩
        ·
          have c_4 := Decidable.of_not_not c_4
          refine y_sipush X (v := (-10005)) dX5_column_48 (by decide) ?_
          refine y_goto X 72 dX5_column_51 (by decide) ?_
          exact y_iret X hr dX5_column_72 rfl ⟨congrArg (fun z => some (Value.int z)) (show (-10005) = rCol T (nI q) (nI j) w by rw [rCol, if_pos ⟨c_1, c_2⟩, if_pos c_3, ix_nI (by omega), ix_nI (by omega), if_pos (by first | exact c_4 | exact Decidable.of_not_not c_4)]), rfl⟩
      ·
        refine y_sipush X (v := (-10002)) dX5_column_28 (by decide) ?_
        exact y_iret X hr dX5_column_31 rfl ⟨congrArg (fun z => some (Value.int z)) (show (-10002) = rCol T (nI q) (nI j) w by rw [rCol, if_pos ⟨c_1, c_2⟩, if_neg c_3]), rfl⟩
    ·
      refine y_sipush X (v := (-10001)) dX5_column_15 (by decide) ?_
      exact y_iret X hr dX5_column_18 rfl ⟨congrArg (fun z => some (Value.int z)) (show (-10001) = rCol T (nI q) y w by rw [rCol, if_neg (fun z => c_2 z.2)]), rfl⟩

set_option maxRecDepth 100000 in
set_option maxHeartbeats 4000000 in
theorem c_X5_season {l : Launch} {E : xE} {C : xC} {T : Tb} {hh : Nat → Tb} {hn : Nat} {sn : Option Tb} {tx : Nat → Int32} {ln : Nat} {sp : Option (Nat × Int32)} (gM : MX E C T hh hn sn tx ln sp) (gW : WX T hh hn sn tx ln sp) {x w : Int32} : xR E l yX5_season wsX5_season 2 46 [.ref (E.2.1 (61)), .int x, .int w] C (rSea T x w) := by
  obtain ⟨zf, zt, zp, zs, zx, zl, pa, va, tl, m0, h2, h3, h4, h5, h6, h7, gRT, gPH, gSN, gTX⟩ := id gM
  obtain ⟨gv, gn4, gWH, gWS, gl80, gch, gsp⟩ := id gW
  have gT : RM E C 62 T := ⟨zf, h2, gRT⟩
  obtain ⟨gw1, gw2, gw3, gw4⟩ := id gv.1
  refine xM_ofY (cc := cX5_season) (maxL := 3) (ret := (some .int)) (by decide) rfl (Nat.le_of_ble_eq_true rfl) ?_
  intro p e s m args below meth c X hr
  have inX5 : ∀ w ∈ wsX50, w ∈ wsX5_season := by decide +kernel
  refine y_lv [(0, .ref (E.2.1 (61))), (1, .int x), (2, .int w)] rfl ?_
  refine y_aload_n X dX5_season_0 0 rfl ?_
  refine y_iload_n X dX5_season_1 1 rfl ?_
  refine y_callVr X (61) 5 (av := [.int x]) [] 1 (c_X5_isSeason m0 gT gv (x := x)) (by omega) m0 rfl gX5_season_X5_isSeason rfl (by decide +kernel) rfl ⟨Nat.le_of_ble_eq_true rfl, Nat.le_of_ble_eq_true rfl⟩ ⟨Nat.zero_le _, Nat.zero_le _⟩ (Nat.le_of_ble_eq_true rfl) rfl dX5_season_2 ?_
  refine y_if_ne X 12 (xin x (tn T)) dX5_season_5 (by decide) bI_ne (fun c_1 => ?_) (fun c_1 => ?_)
  ·
    obtain ⟨q, gq, geq⟩ := xin_of c_1 (by omega)
    subst geq
    refine y_iload_n X dX5_season_12 2 rfl ?_
    by_cases e13_0 : w = 0
    ·
      subst e13_0
      refine y_tableIn X 44 (off := 31) dX5_season_13 (by decide) (by decide) (by decide) (by decide) ?_
      refine y_aload_n X dX5_season_44 0 rfl ?_
      refine y_get X (61) 5 0 (Cn := RX5) (T := TX5) (N := 14) (index := 7) (v := .ref (E.2.1 (62))) dX5_season_45 (by omega) m0 rfl (by decide) inX5 (by decide +kernel : Cond.fieldLink RX5 7 "ColumnSeasonsModel" "now" "[I" ∈ wsX5_season) rfl rfl ?_
      refine y_iload_n X dX5_season_48 1 rfl ?_
      refine y_callJr X (av := [.ref (E.2.1 (62)), .int (nI (q))]) [] 2 (c_X5_names (a := 62) (by omega) gT gv (q := q) (by omega)) gX5_season_X5_names rfl (by decide +kernel) rfl ⟨Nat.le_of_ble_eq_true rfl, Nat.le_of_ble_eq_true rfl⟩ ⟨Nat.zero_le _, Nat.zero_le _⟩ (Nat.le_of_ble_eq_true rfl) rfl dX5_season_49 ?_
      refine y_callJr X (av := [.int (nmS T (q))]) [] 1 (c_X5_ones (x := (nmS T (q))) (by first | exact m8_nmS | exact m8_shN)) gX5_season_X5_ones rfl (by decide +kernel) rfl ⟨Nat.le_of_ble_eq_true rfl, Nat.le_of_ble_eq_true rfl⟩ ⟨Nat.zero_le _, Nat.zero_le _⟩ (Nat.le_of_ble_eq_true rfl) rfl dX5_season_52 ?_
      exact y_iret X hr dX5_season_55 rfl ⟨congrArg (fun z => some (Value.int z)) (show (bcn (nmS T (q))) = rSea T (nI q) (0) by rw [rSea, if_pos c_1, if_pos rfl, ix_nI (by omega)]), rfl⟩
    by_cases e13_1 : w = 1
    ·
      subst e13_1
      refine y_tableIn X 56 (off := 43) dX5_season_13 (by decide) (by decide) (by decide) (by decide) ?_
      refine y_aload_n X dX5_season_56 0 rfl ?_
      refine y_get X (61) 5 0 (Cn := RX5) (T := TX5) (N := 14) (index := 7) (v := .ref (E.2.1 (62))) dX5_season_57 (by omega) m0 rfl (by decide) inX5 (by decide +kernel : Cond.fieldLink RX5 7 "ColumnSeasonsModel" "now" "[I" ∈ wsX5_season) rfl rfl ?_
      refine y_iload_n X dX5_season_60 1 rfl ?_
      refine y_callJr X (av := [.ref (E.2.1 (62)), .int (nI (q))]) [] 2 (c_X5_names (a := 62) (by omega) gT gv (q := q) (by omega)) gX5_season_X5_names rfl (by decide +kernel) rfl ⟨Nat.le_of_ble_eq_true rfl, Nat.le_of_ble_eq_true rfl⟩ ⟨Nat.zero_le _, Nat.zero_le _⟩ (Nat.le_of_ble_eq_true rfl) rfl dX5_season_61 ?_
      exact y_iret X hr dX5_season_64 rfl ⟨congrArg (fun z => some (Value.int z)) (show (nmS T (q)) = rSea T (nI q) (1) by rw [rSea, if_pos c_1, if_neg (by decide), if_pos rfl, ix_nI (by omega)]), rfl⟩
    by_cases e13_2 : w = 2
    ·
      subst e13_2
      refine y_tableIn X 65 (off := 52) dX5_season_13 (by decide) (by decide) (by decide) (by decide) ?_
      refine y_aload_n X dX5_season_65 0 rfl ?_
      refine y_iload_n X dX5_season_66 1 rfl ?_
      refine y_callVr X (61) 5 (av := [.int (nI (q))]) [] 1 (c_X5_wearers m0 gT gv (q := q)) (by omega) m0 rfl gX5_season_X5_wearers rfl (by decide +kernel) rfl ⟨Nat.le_of_ble_eq_true rfl, Nat.le_of_ble_eq_true rfl⟩ ⟨Nat.zero_le _, Nat.zero_le _⟩ (Nat.le_of_ble_eq_true rfl) rfl dX5_season_67 ?_
      exact y_iret X hr dX5_season_70 rfl ⟨congrArg (fun z => some (Value.int z)) (show (wear T (q)) = rSea T (nI q) (2) by rw [rSea, if_pos c_1, if_neg (by decide), if_neg (by decide), if_pos rfl, ix_nI (by omega)]), rfl⟩
    by_cases e13_3 : w = 3
    ·
      subst e13_3
      refine y_tableIn X 71 (off := 58) dX5_season_13 (by decide) (by decide) (by decide) (by decide) ?_
      refine y_aload_n X dX5_season_71 0 rfl ?_
      refine y_iload_n X dX5_season_72 1 rfl ?_
      refine y_callVr X (61) 5 (av := [.int (nI (q))]) [] 1 (c_X5_news m0 gT gv (q := q) (by omega)) (by omega) m0 rfl gX5_season_X5_news rfl (by decide +kernel) rfl ⟨Nat.le_of_ble_eq_true rfl, Nat.le_of_ble_eq_true rfl⟩ ⟨Nat.zero_le _, Nat.zero_le _⟩ (Nat.le_of_ble_eq_true rfl) rfl dX5_season_73 ?_
      exact y_iret X hr dX5_season_76 rfl ⟨congrArg (fun z => some (Value.int z)) (show (newC T (q)) = rSea T (nI q) (3) by rw [rSea, if_pos c_1, if_neg (by decide), if_neg (by decide), if_neg (by decide), if_pos rfl, ix_nI (by omega)]), rfl⟩
    ·
      have t13_0 : ¬ (w).toInt = 0 := fun z => e13_0 (Int32.toInt_inj.mp (z.trans (by decide)))
      have t13_1 : ¬ (w).toInt = 1 := fun z => e13_1 (Int32.toInt_inj.mp (z.trans (by decide)))
      have t13_2 : ¬ (w).toInt = 2 := fun z => e13_2 (Int32.toInt_inj.mp (z.trans (by decide)))
      have t13_3 : ¬ (w).toInt = 3 := fun z => e13_3 (Int32.toInt_inj.mp (z.trans (by decide)))
      refine y_tableOut X 77 dX5_season_13 (by omega) (by decide) ?_
      refine y_sipush X (v := (-10002)) dX5_season_77 (by decide) ?_
      exact y_iret X hr dX5_season_80 rfl ⟨congrArg (fun z => some (Value.int z)) (show (-10002) = rSea T (nI q) w by rw [rSea, if_pos c_1, if_neg e13_0, if_neg e13_1, if_neg e13_2, if_neg e13_3]), rfl⟩
  ·
    refine y_sipush X (v := (-10001)) dX5_season_8 (by decide) ?_
    exact y_iret X hr dX5_season_11 rfl ⟨congrArg (fun z => some (Value.int z)) (show (-10001) = rSea T x w by rw [rSea, if_neg c_1]), rfl⟩

set_option maxRecDepth 100000 in
set_option maxHeartbeats 4000000 in
theorem c_X5_value {l : Launch} {E : xE} {C : xC} {T : Tb} {hh : Nat → Tb} {hn : Nat} {sn : Option Tb} {tx : Nat → Int32} {ln : Nat} {sp : Option (Nat × Int32)} (gM : MX E C T hh hn sn tx ln sp) (gW : WX T hh hn sn tx ln sp) {x y : Int32} : xR E l yX5_value wsX5_value 2 44 [.ref (E.2.1 (61)), .int x, .int y] C (rVal T x y) := by
  obtain ⟨zf, zt, zp, zs, zx, zl, pa, va, tl, m0, h2, h3, h4, h5, h6, h7, gRT, gPH, gSN, gTX⟩ := id gM
  obtain ⟨gv, gn4, gWH, gWS, gl80, gch, gsp⟩ := id gW
  have gT : RM E C 62 T := ⟨zf, h2, gRT⟩
  obtain ⟨gw1, gw2, gw3, gw4⟩ := id gv.1
  refine xM_ofY (cc := cX5_value) (maxL := 3) (ret := (some .int)) (by decide) rfl (Nat.le_of_ble_eq_true rfl) ?_
  intro p e s m args below meth c X hr
  have inX5 : ∀ w ∈ wsX50, w ∈ wsX5_value := by decide +kernel
  refine y_lv [(0, .ref (E.2.1 (61))), (1, .int x), (2, .int y)] rfl ?_
  refine y_aload_n X dX5_value_0 0 rfl ?_
  refine y_get X (61) 5 0 (Cn := RX5) (T := TX5) (N := 14) (index := 7) (v := .ref (E.2.1 (62))) dX5_value_1 (by omega) m0 rfl (by decide) inX5 (by decide +kernel : Cond.fieldLink RX5 7 "ColumnSeasonsModel" "now" "[I" ∈ wsX5_value) rfl rfl ?_
  refine y_iload_n X dX5_value_4 1 rfl ?_
  refine y_callJr X (av := [.ref (E.2.1 (62)), .int x]) [] 2 (c_X5_isRow (a := 62) (by omega) gT gv (x := x)) gX5_value_X5_isRow rfl (by decide +kernel) rfl ⟨Nat.le_of_ble_eq_true rfl, Nat.le_of_ble_eq_true rfl⟩ ⟨Nat.zero_le _, Nat.zero_le _⟩ (Nat.le_of_ble_eq_true rfl) rfl dX5_value_5 ?_
  refine y_if_eq X 18 (¬ (xin x (tr T))) dX5_value_8 (by decide) bI_eq (fun c_1 => ?_) (fun c_1 => ?_)
  ·
    refine y_sipush X (v := (-10001)) dX5_value_18 (by decide) ?_
    exact y_iret X hr dX5_value_21 rfl ⟨congrArg (fun z => some (Value.int z)) (show (-10001) = rVal T x y by rw [rVal, if_neg (fun z => c_1 z.1)]), rfl⟩
  ·
    have c_1 := Decidable.of_not_not c_1
    obtain ⟨i, gi, gei⟩ := xin_of c_1 (by omega)
    subst gei
    refine y_iload_n X dX5_value_11 2 rfl ?_
    refine y_callJr X (av := [.int y]) [] 1 (c_X5_isName (x := y)) gX5_value_X5_isName rfl (by decide +kernel) rfl ⟨Nat.le_of_ble_eq_true rfl, Nat.le_of_ble_eq_true rfl⟩ ⟨Nat.zero_le _, Nat.zero_le _⟩ (Nat.le_of_ble_eq_true rfl) rfl dX5_value_12 ?_
    refine y_if_ne X 22 (xin y 8) dX5_value_15 (by decide) bI_ne (fun c_2 => ?_) (fun c_2 => ?_)
    ·
      obtain ⟨j, gj, gej⟩ := xin_of c_2 (by decide)
      subst gej
      have gk1 := WF_k gv (gw4 i gi) gj
      refine y_aload_n X dX5_value_22 0 rfl ?_
      refine y_get X (61) 5 0 (Cn := RX5) (T := TX5) (N := 14) (index := 7) (v := .ref (E.2.1 (62))) dX5_value_23 (by omega) m0 rfl (by decide) inX5 (by decide +kernel : Cond.fieldLink RX5 7 "ColumnSeasonsModel" "now" "[I" ∈ wsX5_value) rfl rfl ?_
      refine y_iload_n X dX5_value_26 1 rfl ?_
      refine y_iload_n X dX5_value_27 2 rfl ?_
      refine y_callJr X (av := [.ref (E.2.1 (62)), .int (nI (i)), .int (nI (j))]) [] 3 (c_X5_kindIn (a := 62) (by omega) gT gv (i := i) (j := j) (by omega) (by omega)) gX5_value_X5_kindIn rfl (by decide +kernel) rfl ⟨Nat.le_of_ble_eq_true rfl, Nat.le_of_ble_eq_true rfl⟩ ⟨Nat.zero_le _, Nat.zero_le _⟩ (Nat.le_of_ble_eq_true rfl) rfl dX5_value_28 ?_
      refine y_if_ge X 40 (¬ (tk T (ts T (i)) (j)) = -1) dX5_value_31 (by decide) (kgeI (by first | exact gk1 | exact gk2)) (fun c_3 => ?_) (fun c_3 => ?_)
      ·
        refine y_aload_n X dX5_value_40 0 rfl ?_
        refine y_get X (61) 5 0 (Cn := RX5) (T := TX5) (N := 14) (index := 7) (v := .ref (E.2.1 (62))) dX5_value_41 (by omega) m0 rfl (by decide) inX5 (by decide +kernel : Cond.fieldLink RX5 7 "ColumnSeasonsModel" "now" "[I" ∈ wsX5_value) rfl rfl ?_
        refine y_iload_n X dX5_value_44 1 rfl ?_
        refine y_iload_n X dX5_value_45 2 rfl ?_
        refine y_callJr X (av := [.ref (E.2.1 (62)), .int (nI (i)), .int (nI (j))]) [] 3 (c_X5_valueOf (a := 62) (by omega) gT gv (i := i) (j := j) (by omega) (by omega) (by assumption)) gX5_value_X5_valueOf rfl (by decide +kernel) rfl ⟨Nat.le_of_ble_eq_true rfl, Nat.le_of_ble_eq_true rfl⟩ ⟨Nat.zero_le _, Nat.zero_le _⟩ (Nat.le_of_ble_eq_true rfl) rfl dX5_value_46 ?_
        exact y_iret X hr dX5_value_49 rfl ⟨congrArg (fun z => some (Value.int z)) (show (tv T (i) (j)) = rVal T (nI i) (nI j) by rw [rVal, if_pos ⟨c_1, c_2⟩, ix_nI (by omega), ix_nI (by omega), if_neg c_3]), rfl⟩
      ·
        have c_3 := Decidable.of_not_not c_3
        refine y_sipush X (v := (-10005)) dX5_value_34 (by decide) ?_
        refine y_goto X 49 dX5_value_37 (by decide) ?_
        exact y_iret X hr dX5_value_49 rfl ⟨congrArg (fun z => some (Value.int z)) (show (-10005) = rVal T (nI i) (nI j) by rw [rVal, if_pos ⟨c_1, c_2⟩, ix_nI (by omega), ix_nI (by omega), if_pos (by first | exact c_3 | exact Decidable.of_not_not c_3)]), rfl⟩
    ·
      refine y_sipush X (v := (-10001)) dX5_value_18 (by decide) ?_
      exact y_iret X hr dX5_value_21 rfl ⟨congrArg (fun z => some (Value.int z)) (show (-10001) = rVal T (nI i) y by rw [rVal, if_neg (fun z => c_2 z.2)]), rfl⟩

set_option maxRecDepth 100000 in
set_option maxHeartbeats 4000000 in
theorem c_X5_read {l : Launch} {E : xE} {C : xC} {T : Tb} {hh : Nat → Tb} {hn : Nat} {sn : Option Tb} {tx : Nat → Int32} {ln : Nat} {sp : Option (Nat × Int32)} (gM : MX E C T hh hn sn tx ln sp) (gW : WX T hh hn sn tx ln sp) {x y u1 w : Int32} : xR E l yX5_read wsX5_read 4 93 [.ref (E.2.1 (61)), .int x, .int y, .int u1, .int w] C (rRead T x y u1 w) := by
  obtain ⟨zf, zt, zp, zs, zx, zl, pa, va, tl, m0, h2, h3, h4, h5, h6, h7, gRT, gPH, gSN, gTX⟩ := id gM
  obtain ⟨gv, gn4, gWH, gWS, gl80, gch, gsp⟩ := id gW
  have gT : RM E C 62 T := ⟨zf, h2, gRT⟩
  obtain ⟨gw1, gw2, gw3, gw4⟩ := id gv.1
  refine xM_ofY (cc := cX5_read) (maxL := 5) (ret := (some .int)) (by decide) rfl (Nat.le_of_ble_eq_true rfl) ?_
  intro p e s m args below meth c X hr
  have inX5 : ∀ w ∈ wsX50, w ∈ wsX5_read := by decide +kernel
  refine y_lv [(0, .ref (E.2.1 (61))), (1, .int x), (2, .int y), (3, .int u1), (4, .int w)] rfl ?_
  refine y_aload_n X dX5_read_0 0 rfl ?_
  refine y_get X (61) 5 0 (Cn := RX5) (T := TX5) (N := 14) (index := 7) (v := .ref (E.2.1 (62))) dX5_read_1 (by omega) m0 rfl (by decide) inX5 (by decide +kernel : Cond.fieldLink RX5 7 "ColumnSeasonsModel" "now" "[I" ∈ wsX5_read) rfl rfl ?_
  refine y_iload_n X dX5_read_4 1 rfl ?_
  refine y_callJr X (av := [.ref (E.2.1 (62)), .int x]) [] 2 (c_X5_isRow (a := 62) (by omega) gT gv (x := x)) gX5_read_X5_isRow rfl (by decide +kernel) rfl ⟨Nat.le_of_ble_eq_true rfl, Nat.le_of_ble_eq_true rfl⟩ ⟨Nat.zero_le _, Nat.zero_le _⟩ (Nat.le_of_ble_eq_true rfl) rfl dX5_read_5 ?_
  refine y_if_eq X 26 (¬ (xin x (tr T))) dX5_read_8 (by decide) bI_eq (fun c_1 => ?_) (fun c_1 => ?_)
  ·
    refine y_sipush X (v := (-10001)) dX5_read_26 (by decide) ?_
    exact y_iret X hr dX5_read_29 rfl ⟨congrArg (fun z => some (Value.int z)) (show (-10001) = rRead T x y u1 w by rw [rRead, if_neg (fun z => c_1 z.1.1)]), rfl⟩
  ·
    have c_1 := Decidable.of_not_not c_1
    obtain ⟨i, gi, gei⟩ := xin_of c_1 (by omega)
    subst gei
    refine y_aload_n X dX5_read_11 0 rfl ?_
    refine y_iload_n X dX5_read_12 2 rfl ?_
    refine y_callVr X (61) 5 (av := [.int y]) [] 1 (c_X5_isSeason m0 gT gv (x := y)) (by omega) m0 rfl gX5_read_X5_isSeason rfl (by decide +kernel) rfl ⟨Nat.le_of_ble_eq_true rfl, Nat.le_of_ble_eq_true rfl⟩ ⟨Nat.zero_le _, Nat.zero_le _⟩ (Nat.le_of_ble_eq_true rfl) rfl dX5_read_13 ?_
    refine y_if_eq X 26 (¬ (xin y (tn T))) dX5_read_16 (by decide) bI_eq (fun c_2 => ?_) (fun c_2 => ?_)
    ·
      refine y_sipush X (v := (-10001)) dX5_read_26 (by decide) ?_
      exact y_iret X hr dX5_read_29 rfl ⟨congrArg (fun z => some (Value.int z)) (show (-10001) = rRead T (nI i) y u1 w by rw [rRead, if_neg (fun z => c_2 z.1.2)]), rfl⟩
    ·
      have c_2 := Decidable.of_not_not c_2
      obtain ⟨q, gq, geq⟩ := xin_of c_2 (by omega)
      subst geq
      refine y_iload_n X dX5_read_19 3 rfl ?_
      refine y_callJr X (av := [.int u1]) [] 1 (c_X5_isName (x := u1)) gX5_read_X5_isName rfl (by decide +kernel) rfl ⟨Nat.le_of_ble_eq_true rfl, Nat.le_of_ble_eq_true rfl⟩ ⟨Nat.zero_le _, Nat.zero_le _⟩ (Nat.le_of_ble_eq_true rfl) rfl dX5_read_20 ?_
      refine y_if_ne X 30 (xin u1 8) dX5_read_23 (by decide) bI_ne (fun c_3 => ?_) (fun c_3 => ?_)
      ·
        obtain ⟨j, gj, gej⟩ := xin_of c_3 (by decide)
        subst gej
        refine y_iload X dX5_read_30 4 rfl ?_
        refine y_iconst X (v := (0)) dX5_read_32 (by decide) ?_
        refine y_iconst X (v := (1)) dX5_read_33 (by decide) ?_
        refine y_callJr X (av := [.int w, .int (0), .int (1)]) [] 3 (c_X5_inN (x := w) (z := (1)) (n := 2) (by decide)) gX5_read_X5_in rfl (by decide +kernel) rfl ⟨Nat.le_of_ble_eq_true rfl, Nat.le_of_ble_eq_true rfl⟩ ⟨Nat.zero_le _, Nat.zero_le _⟩ (Nat.le_of_ble_eq_true rfl) rfl dX5_read_34 ?_
        refine y_if_ne X 44 (xin w 2) dX5_read_37 (by decide) bI_ne (fun c_4 => ?_) (fun c_4 => ?_)
        ·
          have gk2 := WF_k gv gq gj
          refine y_aload_n X dX5_read_44 0 rfl ?_
          refine y_get X (61) 5 0 (Cn := RX5) (T := TX5) (N := 14) (index := 7) (v := .ref (E.2.1 (62))) dX5_read_45 (by omega) m0 rfl (by decide) inX5 (by decide +kernel : Cond.fieldLink RX5 7 "ColumnSeasonsModel" "now" "[I" ∈ wsX5_read) rfl rfl ?_
          refine y_iload_n X dX5_read_48 2 rfl ?_
          refine y_iload_n X dX5_read_49 3 rfl ?_
          refine y_callJr X (av := [.ref (E.2.1 (62)), .int (nI (q)), .int (nI (j))]) [] 3 (c_X5_kindOf (a := 62) (by omega) gT gv (q := q) (j := j) (by omega) (by omega)) gX5_read_X5_kindOf rfl (by decide +kernel) rfl ⟨Nat.le_of_ble_eq_true rfl, Nat.le_of_ble_eq_true rfl⟩ ⟨Nat.zero_le _, Nat.zero_le _⟩ (Nat.le_of_ble_eq_true rfl) rfl dX5_read_50 ?_
          refine y_if_ge X 60 (¬ (tk T (q) (j)) = -1) dX5_read_53 (by decide) (kgeI (by first | exact gk1 | exact gk2)) (fun c_5 => ?_) (fun c_5 => ?_)
          ·
            refine y_iload X dX5_read_60 4 rfl ?_
            refine y_if_ne X 78 (¬ (w = (0))) dX5_read_62 (by decide) Iff.rfl (fun c_6 => ?_) (fun c_6 => ?_)
            ·
              refine y_aload_n X dX5_read_78 0 rfl ?_
              refine y_iload_n X dX5_read_79 1 rfl ?_
              refine y_iload_n X dX5_read_80 2 rfl ?_
              refine y_iload_n X dX5_read_81 3 rfl ?_
              refine y_callVr X (61) 5 (av := [.int (nI (i)), .int (nI (q)), .int (nI (j))]) [] 3 (c_X5_how m0 gT gv (i := i) (q := q) (j := j) (by omega) (by omega) (by omega) (by assumption)) (by omega) m0 rfl gX5_read_X5_how rfl (by decide +kernel) rfl ⟨Nat.le_of_ble_eq_true rfl, Nat.le_of_ble_eq_true rfl⟩ ⟨Nat.zero_le _, Nat.zero_le _⟩ (Nat.le_of_ble_eq_true rfl) rfl dX5_read_82 ?_
              exact y_iret X hr dX5_read_85 rfl ⟨congrArg (fun z => some (Value.int z)) (show (howC T (q) (i) (j)) = rRead T (nI i) (nI q) (nI j) w by rw [rRead, if_pos ⟨⟨c_1, c_2⟩, c_3⟩, if_pos c_4, ix_nI (by omega), ix_nI (by omega), if_neg c_5, if_neg c_6, ix_nI (by omega)]), rfl⟩
            ·
              have c_6 := Decidable.of_not_not c_6
              refine y_aload_n X dX5_read_65 0 rfl ?_
              refine y_get X (61) 5 0 (Cn := RX5) (T := TX5) (N := 14) (index := 7) (v := .ref (E.2.1 (62))) dX5_read_66 (by omega) m0 rfl (by decide) inX5 (by decide +kernel : Cond.fieldLink RX5 7 "ColumnSeasonsModel" "now" "[I" ∈ wsX5_read) rfl rfl ?_
              refine y_iload_n X dX5_read_69 1 rfl ?_
              refine y_iload_n X dX5_read_70 2 rfl ?_
              refine y_iload_n X dX5_read_71 3 rfl ?_
              refine y_callJr X (av := [.ref (E.2.1 (62)), .int (nI (i)), .int (nI (q)), .int (nI (j))]) [] 4 (c_X5_reads (a := 62) (by omega) gT gv (i := i) (q := q) (j := j) (by omega) (by omega) (by omega) (by assumption)) gX5_read_X5_reads rfl (by decide +kernel) rfl ⟨Nat.le_of_ble_eq_true rfl, Nat.le_of_ble_eq_true rfl⟩ ⟨Nat.zero_le _, Nat.zero_le _⟩ (Nat.le_of_ble_eq_true rfl) rfl dX5_read_72 ?_
              refine y_goto X 85 dX5_read_75 (by decide) ?_
              exact y_iret X hr dX5_read_85 rfl ⟨congrArg (fun z => some (Value.int z)) (show (rdC T (q) (i) (j)) = rRead T (nI i) (nI q) (nI j) w by rw [rRead, if_pos ⟨⟨c_1, c_2⟩, c_3⟩, if_pos c_4, ix_nI (by omega), ix_nI (by omega), if_neg c_5, if_pos c_6, ix_nI (by omega)]), rfl⟩
          ·
            have c_5 := Decidable.of_not_not c_5
            refine y_sipush X (v := (-10005)) dX5_read_56 (by decide) ?_
            exact y_iret X hr dX5_read_59 rfl ⟨congrArg (fun z => some (Value.int z)) (show (-10005) = rRead T (nI i) (nI q) (nI j) w by rw [rRead, if_pos ⟨⟨c_1, c_2⟩, c_3⟩, if_pos c_4, ix_nI (by omega), ix_nI (by omega), if_pos (by first | exact c_5 | exact Decidable.of_not_not c_5)]), rfl⟩
        ·
          refine y_sipush X (v := (-10002)) dX5_read_40 (by decide) ?_
          exact y_iret X hr dX5_read_43 rfl ⟨congrArg (fun z => some (Value.int z)) (show (-10002) = rRead T (nI i) (nI q) (nI j) w by rw [rRead, if_pos ⟨⟨c_1, c_2⟩, c_3⟩, if_neg c_4]), rfl⟩
      ·
        refine y_sipush X (v := (-10001)) dX5_read_26 (by decide) ?_
        exact y_iret X hr dX5_read_29 rfl ⟨congrArg (fun z => some (Value.int z)) (show (-10001) = rRead T (nI i) (nI q) u1 w by rw [rRead, if_neg (fun z => c_3 z.2)]), rfl⟩

set_option maxRecDepth 100000 in
set_option maxHeartbeats 4000000 in
theorem c_X5_seasonOf {l : Launch} {E : xE} {C : xC} {T : Tb} {hh : Nat → Tb} {hn : Nat} {sn : Option Tb} {tx : Nat → Int32} {ln : Nat} {sp : Option (Nat × Int32)} (gM : MX E C T hh hn sn tx ln sp) (gW : WX T hh hn sn tx ln sp) {x : Int32} : xR E l yX5_seasonOf wsX5_seasonOf 2 43 [.ref (E.2.1 (61)), .int x] C (rSof T x) := by
  obtain ⟨zf, zt, zp, zs, zx, zl, pa, va, tl, m0, h2, h3, h4, h5, h6, h7, gRT, gPH, gSN, gTX⟩ := id gM
  obtain ⟨gv, gn4, gWH, gWS, gl80, gch, gsp⟩ := id gW
  have gT : RM E C 62 T := ⟨zf, h2, gRT⟩
  obtain ⟨gw1, gw2, gw3, gw4⟩ := id gv.1
  refine xM_ofY (cc := cX5_seasonOf) (maxL := 2) (ret := (some .int)) (by decide) rfl (Nat.le_of_ble_eq_true rfl) ?_
  intro p e s m args below meth c X hr
  have inX5 : ∀ w ∈ wsX50, w ∈ wsX5_seasonOf := by decide +kernel
  refine y_lv [(0, .ref (E.2.1 (61))), (1, .int x)] rfl ?_
  refine y_aload_n X dX5_seasonOf_0 0 rfl ?_
  refine y_get X (61) 5 0 (Cn := RX5) (T := TX5) (N := 14) (index := 7) (v := .ref (E.2.1 (62))) dX5_seasonOf_1 (by omega) m0 rfl (by decide) inX5 (by decide +kernel : Cond.fieldLink RX5 7 "ColumnSeasonsModel" "now" "[I" ∈ wsX5_seasonOf) rfl rfl ?_
  refine y_iload_n X dX5_seasonOf_4 1 rfl ?_
  refine y_callJr X (av := [.ref (E.2.1 (62)), .int x]) [] 2 (c_X5_isRow (a := 62) (by omega) gT gv (x := x)) gX5_seasonOf_X5_isRow rfl (by decide +kernel) rfl ⟨Nat.le_of_ble_eq_true rfl, Nat.le_of_ble_eq_true rfl⟩ ⟨Nat.zero_le _, Nat.zero_le _⟩ (Nat.le_of_ble_eq_true rfl) rfl dX5_seasonOf_5 ?_
  refine y_if_eq X 22 (¬ (xin x (tr T))) dX5_seasonOf_8 (by decide) bI_eq (fun c_1 => ?_) (fun c_1 => ?_)
  ·
    refine y_sipush X (v := (-10001)) dX5_seasonOf_22 (by decide) ?_
    exact y_iret X hr dX5_seasonOf_25 rfl ⟨congrArg (fun z => some (Value.int z)) (show (-10001) = rSof T x by rw [rSof, if_neg c_1]), rfl⟩
  ·
    have c_1 := Decidable.of_not_not c_1
    obtain ⟨i, gi, gei⟩ := xin_of c_1 (by omega)
    subst gei
    refine y_aload_n X dX5_seasonOf_11 0 rfl ?_
    refine y_get X (61) 5 0 (Cn := RX5) (T := TX5) (N := 14) (index := 7) (v := .ref (E.2.1 (62))) dX5_seasonOf_12 (by omega) m0 rfl (by decide) inX5 (by decide +kernel : Cond.fieldLink RX5 7 "ColumnSeasonsModel" "now" "[I" ∈ wsX5_seasonOf) rfl rfl ?_
    refine y_iload_n X dX5_seasonOf_15 1 rfl ?_
    refine y_callJr X (av := [.ref (E.2.1 (62)), .int (nI (i))]) [] 2 (c_X5_seasonOfRow (a := 62) (by omega) gT gv (i := i) (by omega)) gX5_seasonOf_X5_seasonOfRow rfl (by decide +kernel) rfl ⟨Nat.le_of_ble_eq_true rfl, Nat.le_of_ble_eq_true rfl⟩ ⟨Nat.zero_le _, Nat.zero_le _⟩ (Nat.le_of_ble_eq_true rfl) rfl dX5_seasonOf_16 ?_
    refine y_goto X 25 dX5_seasonOf_19 (by decide) ?_
    exact y_iret X hr dX5_seasonOf_25 rfl ⟨congrArg (fun z => some (Value.int z)) (show (nI (ts T (i))) = rSof T (nI i) by rw [rSof, if_pos c_1, ix_nI (by omega)]), rfl⟩

set_option maxRecDepth 100000 in
set_option maxHeartbeats 4000000 in
theorem c_X5_view {l : Launch} {E : xE} {C : xC} {T : Tb} {hh : Nat → Tb} {hn : Nat} {sn : Option Tb} {tx : Nat → Int32} {ln : Nat} {sp : Option (Nat × Int32)} (gM : MX E C T hh hn sn tx ln sp) (gW : WX T hh hn sn tx ln sp) {x y w : Int32} : xR E l yX5_view wsX5_view 4 96 [.ref (E.2.1 (61)), .int x, .int y, .int w] C (rView T x y w) := by
  obtain ⟨zf, zt, zp, zs, zx, zl, pa, va, tl, m0, h2, h3, h4, h5, h6, h7, gRT, gPH, gSN, gTX⟩ := id gM
  obtain ⟨gv, gn4, gWH, gWS, gl80, gch, gsp⟩ := id gW
  have gT : RM E C 62 T := ⟨zf, h2, gRT⟩
  obtain ⟨gw1, gw2, gw3, gw4⟩ := id gv.1
  refine xM_ofY (cc := cX5_view) (maxL := 4) (ret := (some .int)) (by decide) rfl (Nat.le_of_ble_eq_true rfl) ?_
  intro p e s m args below meth c X hr
  have inX5 : ∀ w ∈ wsX50, w ∈ wsX5_view := by decide +kernel
  refine y_lv [(0, .ref (E.2.1 (61))), (1, .int x), (2, .int y), (3, .int w)] rfl ?_
  refine y_aload_n X dX5_view_0 0 rfl ?_
  refine y_get X (61) 5 0 (Cn := RX5) (T := TX5) (N := 14) (index := 7) (v := .ref (E.2.1 (62))) dX5_view_1 (by omega) m0 rfl (by decide) inX5 (by decide +kernel : Cond.fieldLink RX5 7 "ColumnSeasonsModel" "now" "[I" ∈ wsX5_view) rfl rfl ?_
  refine y_iload_n X dX5_view_4 1 rfl ?_
  refine y_callJr X (av := [.ref (E.2.1 (62)), .int x]) [] 2 (c_X5_isRow (a := 62) (by omega) gT gv (x := x)) gX5_view_X5_isRow rfl (by decide +kernel) rfl ⟨Nat.le_of_ble_eq_true rfl, Nat.le_of_ble_eq_true rfl⟩ ⟨Nat.zero_le _, Nat.zero_le _⟩ (Nat.le_of_ble_eq_true rfl) rfl dX5_view_5 ?_
  refine y_if_eq X 22 (¬ (xin x (tr T))) dX5_view_8 (by decide) bI_eq (fun c_1 => ?_) (fun c_1 => ?_)
  ·
    refine y_sipush X (v := (-10001)) dX5_view_22 (by decide) ?_
    exact y_iret X hr dX5_view_25 rfl ⟨congrArg (fun z => some (Value.int z)) (show (-10001) = rView T x y w by rw [rView, if_neg (fun z => c_1 z.1)]), rfl⟩
  ·
    have c_1 := Decidable.of_not_not c_1
    obtain ⟨a, ga, gea⟩ := xin_of c_1 (by omega)
    subst gea
    refine y_aload_n X dX5_view_11 0 rfl ?_
    refine y_get X (61) 5 0 (Cn := RX5) (T := TX5) (N := 14) (index := 7) (v := .ref (E.2.1 (62))) dX5_view_12 (by omega) m0 rfl (by decide) inX5 (by decide +kernel : Cond.fieldLink RX5 7 "ColumnSeasonsModel" "now" "[I" ∈ wsX5_view) rfl rfl ?_
    refine y_iload_n X dX5_view_15 2 rfl ?_
    refine y_callJr X (av := [.ref (E.2.1 (62)), .int y]) [] 2 (c_X5_isRow (a := 62) (by omega) gT gv (x := y)) gX5_view_X5_isRow rfl (by decide +kernel) rfl ⟨Nat.le_of_ble_eq_true rfl, Nat.le_of_ble_eq_true rfl⟩ ⟨Nat.zero_le _, Nat.zero_le _⟩ (Nat.le_of_ble_eq_true rfl) rfl dX5_view_16 ?_
    refine y_if_ne X 26 (xin y (tr T)) dX5_view_19 (by decide) bI_ne (fun c_2 => ?_) (fun c_2 => ?_)
    ·
      obtain ⟨b0, gb0, geb0⟩ := xin_of c_2 (by omega)
      subst geb0
      refine y_iload_n X dX5_view_26 3 rfl ?_
      by_cases e27_0 : w = 0
      ·
        subst e27_0
        refine y_tableIn X 52 (off := 25) dX5_view_27 (by decide) (by decide) (by decide) (by decide) ?_
        refine y_aload_n X dX5_view_52 0 rfl ?_
        refine y_iload_n X dX5_view_53 1 rfl ?_
        refine y_iload_n X dX5_view_54 2 rfl ?_
        refine y_callVr X (61) 5 (av := [.int (nI (a)), .int (nI (b0))]) [] 2 (c_X5_common m0 gT gv (a := a) (b0 := b0) (by omega) (by omega)) (by omega) m0 rfl gX5_view_X5_common rfl (by decide +kernel) rfl ⟨Nat.le_of_ble_eq_true rfl, Nat.le_of_ble_eq_true rfl⟩ ⟨Nat.zero_le _, Nat.zero_le _⟩ (Nat.le_of_ble_eq_true rfl) rfl dX5_view_55 ?_
        exact y_iret X hr dX5_view_58 rfl ⟨congrArg (fun z => some (Value.int z)) (show (shN T (a) (b0)) = rView T (nI a) (nI b0) (0) by rw [rView, if_pos ⟨c_1, c_2⟩, if_pos rfl, ix_nI (by omega), ix_nI (by omega)]), rfl⟩
      by_cases e27_1 : w = 1
      ·
        subst e27_1
        refine y_tableIn X 59 (off := 32) dX5_view_27 (by decide) (by decide) (by decide) (by decide) ?_
        refine y_iload_n X dX5_view_59 2 rfl ?_
        refine y_iload_n X dX5_view_60 1 rfl ?_
        refine y_icmp_ge X 68 ((a) ≤ (b0)) dX5_view_61 (by decide) (nI_leI (a := a) (b := b0) (by omega) (by omega)) (fun c_3 => ?_) (fun c_3 => ?_)
        ·
          refine y_iload_n X dX5_view_68 2 rfl ?_
          refine y_iload_n X dX5_view_69 1 rfl ?_
          refine y_isub X (z := (nI ((b0) - (a)))) dX5_view_70 (pk_sub (a := b0) (b := a) (by omega)) ?_
          refine y_iconst X (v := (1)) dX5_view_71 (by decide) ?_
          refine y_iadd X (z := (nI ((b0) - (a) + 1))) dX5_view_72 (nI_add ((b0) - (a)) (1)) ?_
          exact y_iret X hr dX5_view_73 rfl ⟨congrArg (fun z => some (Value.int z)) (show (nI ((b0) - (a) + 1)) = rView T (nI a) (nI b0) (1) by rw [rView, if_pos ⟨c_1, c_2⟩, if_neg (by decide), if_pos rfl, ix_nI (by omega), ix_nI (by omega), show b0 + 1 - a = b0 - a + 1 by omega]), rfl⟩
        ·
          refine y_iconst X (v := (0)) dX5_view_64 (by decide) ?_
          refine y_goto X 73 dX5_view_65 (by decide) ?_
          exact y_iret X hr dX5_view_73 rfl ⟨congrArg (fun z => some (Value.int z)) (show nI 0 = rView T (nI a) (nI b0) (1) by rw [rView, if_pos ⟨c_1, c_2⟩, if_neg (by decide), if_pos rfl, ix_nI (by omega), ix_nI (by omega), show b0 + 1 - a = 0 by omega]), rfl⟩
      by_cases e27_2 : w = 2
      ·
        subst e27_2
        refine y_tableIn X 74 (off := 47) dX5_view_27 (by decide) (by decide) (by decide) (by decide) ?_
        refine y_aload_n X dX5_view_74 0 rfl ?_
        refine y_iload_n X dX5_view_75 1 rfl ?_
        refine y_iload_n X dX5_view_76 2 rfl ?_
        refine y_callVr X (61) 5 (av := [.int (nI (a)), .int (nI (b0))]) [] 2 (c_X5_standards m0 gT gv (a := a) (b0 := b0) (by omega) (by omega)) (by omega) m0 rfl gX5_view_X5_standards rfl (by decide +kernel) rfl ⟨Nat.le_of_ble_eq_true rfl, Nat.le_of_ble_eq_true rfl⟩ ⟨Nat.zero_le _, Nat.zero_le _⟩ (Nat.le_of_ble_eq_true rfl) rfl dX5_view_77 ?_
        exact y_iret X hr dX5_view_80 rfl ⟨congrArg (fun z => some (Value.int z)) (show (dfV T (a) (b0)) = rView T (nI a) (nI b0) (2) by rw [rView, if_pos ⟨c_1, c_2⟩, if_neg (by decide), if_neg (by decide), if_pos rfl, ix_nI (by omega), ix_nI (by omega)]), rfl⟩
      ·
        have t27_0 : ¬ (w).toInt = 0 := fun z => e27_0 (Int32.toInt_inj.mp (z.trans (by decide)))
        have t27_1 : ¬ (w).toInt = 1 := fun z => e27_1 (Int32.toInt_inj.mp (z.trans (by decide)))
        have t27_2 : ¬ (w).toInt = 2 := fun z => e27_2 (Int32.toInt_inj.mp (z.trans (by decide)))
        refine y_tableOut X 81 dX5_view_27 (by omega) (by decide) ?_
        refine y_sipush X (v := (-10002)) dX5_view_81 (by decide) ?_
        exact y_iret X hr dX5_view_84 rfl ⟨congrArg (fun z => some (Value.int z)) (show (-10002) = rView T (nI a) (nI b0) w by rw [rView, if_pos ⟨c_1, c_2⟩, if_neg e27_0, if_neg e27_1, if_neg e27_2]), rfl⟩
    ·
      refine y_sipush X (v := (-10001)) dX5_view_22 (by decide) ?_
      exact y_iret X hr dX5_view_25 rfl ⟨congrArg (fun z => some (Value.int z)) (show (-10001) = rView T (nI a) y w by rw [rView, if_neg (fun z => c_2 z.2)]), rfl⟩

set_option maxRecDepth 100000 in
set_option maxHeartbeats 4000000 in
theorem c_X5_viewColumn {l : Launch} {E : xE} {C : xC} {T : Tb} {hh : Nat → Tb} {hn : Nat} {sn : Option Tb} {tx : Nat → Int32} {ln : Nat} {sp : Option (Nat × Int32)} (gM : MX E C T hh hn sn tx ln sp) (gW : WX T hh hn sn tx ln sp) {x y u1 w : Int32} : xR E l yX5_viewColumn wsX5_viewColumn 3 69 [.ref (E.2.1 (61)), .int x, .int y, .int u1, .int w] C (rVC T x y u1 w) := by
  obtain ⟨zf, zt, zp, zs, zx, zl, pa, va, tl, m0, h2, h3, h4, h5, h6, h7, gRT, gPH, gSN, gTX⟩ := id gM
  obtain ⟨gv, gn4, gWH, gWS, gl80, gch, gsp⟩ := id gW
  have gT : RM E C 62 T := ⟨zf, h2, gRT⟩
  obtain ⟨gw1, gw2, gw3, gw4⟩ := id gv.1
  refine xM_ofY (cc := cX5_viewColumn) (maxL := 11) (ret := (some .int)) (by decide) rfl (Nat.le_of_ble_eq_true rfl) ?_
  intro p e s m args below meth c X hr
  have inX5 : ∀ w ∈ wsX50, w ∈ wsX5_viewColumn := by decide +kernel
  refine y_lv [(0, .ref (E.2.1 (61))), (1, .int x), (2, .int y), (3, .int u1), (4, .int w)] rfl ?_
  refine y_aload_n X dX5_viewColumn_0 0 rfl ?_
  refine y_get X (61) 5 0 (Cn := RX5) (T := TX5) (N := 14) (index := 7) (v := .ref (E.2.1 (62))) dX5_viewColumn_1 (by omega) m0 rfl (by decide) inX5 (by decide +kernel : Cond.fieldLink RX5 7 "ColumnSeasonsModel" "now" "[I" ∈ wsX5_viewColumn) rfl rfl ?_
  refine y_iload_n X dX5_viewColumn_4 1 rfl ?_
  refine y_callJr X (av := [.ref (E.2.1 (62)), .int x]) [] 2 (c_X5_isRow (a := 62) (by omega) gT gv (x := x)) gX5_viewColumn_X5_isRow rfl (by decide +kernel) rfl ⟨Nat.le_of_ble_eq_true rfl, Nat.le_of_ble_eq_true rfl⟩ ⟨Nat.zero_le _, Nat.zero_le _⟩ (Nat.le_of_ble_eq_true rfl) rfl dX5_viewColumn_5 ?_
  refine y_if_eq X 29 (¬ (xin x (tr T))) dX5_viewColumn_8 (by decide) bI_eq (fun c_1 => ?_) (fun c_1 => ?_)
  ·
    refine y_sipush X (v := (-10001)) dX5_viewColumn_29 (by decide) ?_
    exact y_iret X hr dX5_viewColumn_32 rfl ⟨congrArg (fun z => some (Value.int z)) (show (-10001) = rVC T x y u1 w by rw [rVC, if_neg (fun z => c_1 z.1.1)]), rfl⟩
  ·
    have c_1 := Decidable.of_not_not c_1
    obtain ⟨a, ga, gea⟩ := xin_of c_1 (by omega)
    subst gea
    refine y_aload_n X dX5_viewColumn_11 0 rfl ?_
    refine y_get X (61) 5 0 (Cn := RX5) (T := TX5) (N := 14) (index := 7) (v := .ref (E.2.1 (62))) dX5_viewColumn_12 (by omega) m0 rfl (by decide) inX5 (by decide +kernel : Cond.fieldLink RX5 7 "ColumnSeasonsModel" "now" "[I" ∈ wsX5_viewColumn) rfl rfl ?_
    refine y_iload_n X dX5_viewColumn_15 2 rfl ?_
    refine y_callJr X (av := [.ref (E.2.1 (62)), .int y]) [] 2 (c_X5_isRow (a := 62) (by omega) gT gv (x := y)) gX5_viewColumn_X5_isRow rfl (by decide +kernel) rfl ⟨Nat.le_of_ble_eq_true rfl, Nat.le_of_ble_eq_true rfl⟩ ⟨Nat.zero_le _, Nat.zero_le _⟩ (Nat.le_of_ble_eq_true rfl) rfl dX5_viewColumn_16 ?_
    refine y_if_eq X 29 (¬ (xin y (tr T))) dX5_viewColumn_19 (by decide) bI_eq (fun c_2 => ?_) (fun c_2 => ?_)
    ·
      refine y_sipush X (v := (-10001)) dX5_viewColumn_29 (by decide) ?_
      exact y_iret X hr dX5_viewColumn_32 rfl ⟨congrArg (fun z => some (Value.int z)) (show (-10001) = rVC T (nI a) y u1 w by rw [rVC, if_neg (fun z => c_2 z.1.2)]), rfl⟩
    ·
      have c_2 := Decidable.of_not_not c_2
      obtain ⟨b0, gb0, geb0⟩ := xin_of c_2 (by omega)
      subst geb0
      refine y_iload_n X dX5_viewColumn_22 3 rfl ?_
      refine y_callJr X (av := [.int u1]) [] 1 (c_X5_isName (x := u1)) gX5_viewColumn_X5_isName rfl (by decide +kernel) rfl ⟨Nat.le_of_ble_eq_true rfl, Nat.le_of_ble_eq_true rfl⟩ ⟨Nat.zero_le _, Nat.zero_le _⟩ (Nat.le_of_ble_eq_true rfl) rfl dX5_viewColumn_23 ?_
      refine y_if_ne X 33 (xin u1 8) dX5_viewColumn_26 (by decide) bI_ne (fun c_3 => ?_) (fun c_3 => ?_)
      ·
        obtain ⟨j, gj, gej⟩ := xin_of c_3 (by decide)
        subst gej
        refine y_iload X dX5_viewColumn_33 4 rfl ?_
        refine y_iconst X (v := (0)) dX5_viewColumn_35 (by decide) ?_
        refine y_iconst X (v := (4)) dX5_viewColumn_36 (by decide) ?_
        refine y_callJr X (av := [.int w, .int (0), .int (4)]) [] 3 (c_X5_inN (x := w) (z := (4)) (n := 5) (by decide)) gX5_viewColumn_X5_in rfl (by decide +kernel) rfl ⟨Nat.le_of_ble_eq_true rfl, Nat.le_of_ble_eq_true rfl⟩ ⟨Nat.zero_le _, Nat.zero_le _⟩ (Nat.le_of_ble_eq_true rfl) rfl dX5_viewColumn_37 ?_
        refine y_if_ne X 47 (xin w 5) dX5_viewColumn_40 (by decide) bI_ne (fun c_4 => ?_) (fun c_4 => ?_)
        ·
          refine y_aload_n X dX5_viewColumn_47 0 rfl ?_
          refine y_iload_n X dX5_viewColumn_48 1 rfl ?_
          refine y_iload_n X dX5_viewColumn_49 2 rfl ?_
          refine y_callVr X (61) 5 (av := [.int (nI (a)), .int (nI (b0))]) [] 2 (c_X5_common m0 gT gv (a := a) (b0 := b0) (by omega) (by omega)) (by omega) m0 rfl gX5_viewColumn_X5_common rfl (by decide +kernel) rfl ⟨Nat.le_of_ble_eq_true rfl, Nat.le_of_ble_eq_true rfl⟩ ⟨Nat.zero_le _, Nat.zero_le _⟩ (Nat.le_of_ble_eq_true rfl) rfl dX5_viewColumn_50 ?_
          refine y_iload_n X dX5_viewColumn_53 3 rfl ?_
          refine y_ishr X (z := ((shN T (a) (b0)) >>> ((nI (j)) &&& 31))) dX5_viewColumn_54 rfl ?_
          refine y_iconst X (v := (1)) dX5_viewColumn_55 (by decide) ?_
          refine y_iand X (z := (((shN T (a) (b0)) >>> ((nI (j)) &&& 31)) &&& (1))) dX5_viewColumn_56 rfl ?_
          refine y_if_ne X 64 (¬ (shN T a b0 &&& bitN j) = 0) dX5_viewColumn_57 (by decide) (not_congr (bitZero m8_shN (by omega))) (fun c_5 => ?_) (fun c_5 => ?_)
          ·
            have gab : a ≤ b0 := shN_le c_5
            have gh : ∀ i : Nat, a ≤ i → i ≤ b0 → ¬ tk T (ts T i) j = -1 := fun i q1 q2 => shN_has (T := T) (by omega) q1 q2 c_5
            have gpr := gh a (by omega) (by omega)
            have grg : rng (tv T a j) := okv_rng ((WF_k gv (gw4 a (by omega)) gj).resolve_left gpr) ((gv.2.2 a j (by omega) gj).resolve_left gpr)
            refine y_iconst X (v := (0)) dX5_viewColumn_64 (by decide) ?_
            refine y_istore X [(5, .int (0)), (0, .ref (E.2.1 (61))), (1, .int (nI (a))), (2, .int (nI (b0))), (3, .int (nI (j))), (4, .int w)] dX5_viewColumn_65 (by decide) rfl ?_
            refine y_aload_n X dX5_viewColumn_67 1 rfl ?_
            refine y_get X (61) 5 0 (Cn := RX5) (T := TX5) (N := 14) (index := 7) (v := .ref (E.2.1 (62))) dX5_viewColumn_68 (by omega) m0 rfl (by decide) inX5 (by decide +kernel : Cond.fieldLink RX5 7 "ColumnSeasonsModel" "now" "[I" ∈ wsX5_viewColumn) rfl rfl ?_
            refine y_iload_n X dX5_viewColumn_71 2 rfl ?_
            refine y_iload_n X dX5_viewColumn_72 4 rfl ?_
            refine y_callJr X (av := [.ref (E.2.1 (62)), .int (nI (a)), .int (nI (j))]) [] 3 (c_X5_valueOf (a := 62) (by omega) gT gv (i := a) (j := j) (by omega) (by omega) (by assumption)) gX5_viewColumn_X5_valueOf rfl (by decide +kernel) rfl ⟨Nat.le_of_ble_eq_true rfl, Nat.le_of_ble_eq_true rfl⟩ ⟨Nat.zero_le _, Nat.zero_le _⟩ (Nat.le_of_ble_eq_true rfl) rfl dX5_viewColumn_73 ?_
            refine y_istore X [(6, .int (tv T (a) (j))), (5, .int (0)), (0, .ref (E.2.1 (61))), (1, .int (nI (a))), (2, .int (nI (b0))), (3, .int (nI (j))), (4, .int w)] dX5_viewColumn_76 (by decide) rfl ?_
            refine y_iload X dX5_viewColumn_78 0 rfl ?_
            refine y_istore X [(7, .int (tv T (a) (j))), (6, .int (tv T (a) (j))), (5, .int (0)), (0, .ref (E.2.1 (61))), (1, .int (nI (a))), (2, .int (nI (b0))), (3, .int (nI (j))), (4, .int w)] dX5_viewColumn_80 (by decide) rfl ?_
            refine y_iconst X (v := (0)) dX5_viewColumn_82 (by decide) ?_
            refine y_istore X [(8, .int (0)), (7, .int (tv T (a) (j))), (6, .int (tv T (a) (j))), (5, .int (0)), (0, .ref (E.2.1 (61))), (1, .int (nI (a))), (2, .int (nI (b0))), (3, .int (nI (j))), (4, .int w)] dX5_viewColumn_83 (by decide) rfl ?_
            refine y_iload_n X dX5_viewColumn_85 5 rfl ?_
            refine y_istore X [(9, .int (nI (a))), (8, .int (0)), (7, .int (tv T (a) (j))), (6, .int (tv T (a) (j))), (5, .int (0)), (0, .ref (E.2.1 (61))), (1, .int (nI (a))), (2, .int (nI (b0))), (3, .int (nI (j))), (4, .int w)] dX5_viewColumn_86 (by decide) rfl ?_
            have L_88 : ∀ (n : Nat) (k : Nat) (x5 : Int32) (x6 : Int32) (x7 : Int32) (x8 : Int32), b0 + 1 - a - k < n → (k ≤ b0 + 1 - a) → (x5 = svs T a j k) → (x6 = leM T a j k) → (x7 = grM T a j k) → (x8 = unl T a j k) → xY p l e ({ frames := 3, cells := 0, slots := 0, locals := 69 } : Room) s m args below meth c E (xA E) 11 0 0 (MQ below (xQ E (fun v C1 => v = some (.int (rVC T (nI a) (nI b0) (nI j) w)) ∧ C1 = C)) args s 0 0 (xA E)) C 88 [(0, .ref (E.2.1 (61))), (1, .int (nI (a))), (2, .int (nI (b0))), (3, .int (nI (j))), (4, .int w), (5, .int x5), (6, .int x6), (7, .int x7), (8, .int x8), (9, .int (nI (a + k)))] [] := by
              intro n88
              induction n88 with
              | zero => intro _ _ _ _ _ hm88; exact absurd hm88 (Nat.not_lt_zero _)
              | succ n88 ih88 =>
                intro k x5 x6 x7 x8 hm88 gk gx5 gx6 gx7 gx8
                refine y_iload X dX5_viewColumn_88 9 rfl ?_
                refine y_iload_n X dX5_viewColumn_90 2 rfl ?_
                refine y_icmp_gt X 172 ((b0) < (a + k)) dX5_viewColumn_91 (by decide) (nI_ltI (a := b0) (b := a + k) (by omega) (by omega)) (fun c_6 => ?_) (fun c_6 => ?_)
                ·
                  have gk7 : k = b0 + 1 - a := by omega
                  refine y_iload X dX5_viewColumn_172 4 rfl ?_
                  refine y_if_ne X 187 (¬ (w = (0))) dX5_viewColumn_174 (by decide) Iff.rfl (fun c_7 => ?_) (fun c_7 => ?_)
                  ·
                    refine y_iload X dX5_viewColumn_187 4 rfl ?_
                    refine y_iconst X (v := (1)) dX5_viewColumn_189 (by decide) ?_
                    refine y_icmp_ne X 198 (¬ (w = (1))) dX5_viewColumn_190 (by decide) Iff.rfl (fun c_8 => ?_) (fun c_8 => ?_)
                    ·
                      refine y_iload X dX5_viewColumn_198 4 rfl ?_
                      refine y_iconst X (v := (2)) dX5_viewColumn_200 (by decide) ?_
                      refine y_icmp_ne X 209 (¬ (w = (2))) dX5_viewColumn_201 (by decide) Iff.rfl (fun c_9 => ?_) (fun c_9 => ?_)
                      ·
                        refine y_iload X dX5_viewColumn_209 4 rfl ?_
                        refine y_iconst X (v := (3)) dX5_viewColumn_211 (by decide) ?_
                        refine y_icmp_ne X 220 (¬ (w = (3))) dX5_viewColumn_212 (by decide) Iff.rfl (fun c_10 => ?_) (fun c_10 => ?_)
                        ·
                          refine y_iload X dX5_viewColumn_220 8 rfl ?_
                          exact y_iret X hr dX5_viewColumn_222 rfl ⟨congrArg (fun z => some (Value.int z)) (show x8 = rVC T (nI a) (nI b0) (nI j) w by rw [rVC, if_pos ⟨⟨c_1, c_2⟩, c_3⟩, if_pos c_4, ix_nI (by omega), ix_nI (by omega), ix_nI (by omega), if_neg c_5, vcV, if_neg c_7, if_neg c_8, if_neg c_9, if_neg c_10, gx8, gk7]), rfl⟩
                        ·
                          have c_10 := Decidable.of_not_not c_10
                          refine y_iload X dX5_viewColumn_215 7 rfl ?_
                          refine y_goto X 222 dX5_viewColumn_217 (by decide) ?_
                          exact y_iret X hr dX5_viewColumn_222 rfl ⟨congrArg (fun z => some (Value.int z)) (show x7 = rVC T (nI a) (nI b0) (nI j) w by rw [rVC, if_pos ⟨⟨c_1, c_2⟩, c_3⟩, if_pos c_4, ix_nI (by omega), ix_nI (by omega), ix_nI (by omega), if_neg c_5, vcV, if_neg c_7, if_neg c_8, if_neg c_9, if_pos c_10, gx7, gk7, show b0 + 1 - a = b0 - a + 1 by omega]; exact grM_eq grg _), rfl⟩
                      ·
                        have c_9 := Decidable.of_not_not c_9
                        refine y_iload X dX5_viewColumn_204 6 rfl ?_
                        refine y_goto X 222 dX5_viewColumn_206 (by decide) ?_
                        exact y_iret X hr dX5_viewColumn_222 rfl ⟨congrArg (fun z => some (Value.int z)) (show x6 = rVC T (nI a) (nI b0) (nI j) w by rw [rVC, if_pos ⟨⟨c_1, c_2⟩, c_3⟩, if_pos c_4, ix_nI (by omega), ix_nI (by omega), ix_nI (by omega), if_neg c_5, vcV, if_neg c_7, if_neg c_8, if_pos c_9, gx6, gk7, show b0 + 1 - a = b0 - a + 1 by omega]; exact leM_eq (fun _ => Or.inr trivial) grg _), rfl⟩
                    ·
                      have c_8 := Decidable.of_not_not c_8
                      refine y_iload X dX5_viewColumn_193 5 rfl ?_
                      refine y_goto X 222 dX5_viewColumn_195 (by decide) ?_
                      exact y_iret X hr dX5_viewColumn_222 rfl ⟨congrArg (fun z => some (Value.int z)) (show x5 = rVC T (nI a) (nI b0) (nI j) w by rw [rVC, if_pos ⟨⟨c_1, c_2⟩, c_3⟩, if_pos c_4, ix_nI (by omega), ix_nI (by omega), ix_nI (by omega), if_neg c_5, vcV, if_neg c_7, if_pos c_8, gx5, gk7]), rfl⟩
                  ·
                    have c_7 := Decidable.of_not_not c_7
                    refine y_aload_n X dX5_viewColumn_177 0 rfl ?_
                    refine y_iload_n X dX5_viewColumn_178 1 rfl ?_
                    refine y_iload_n X dX5_viewColumn_179 2 rfl ?_
                    refine y_iload_n X dX5_viewColumn_180 3 rfl ?_
                    refine y_callVr X (61) 5 (av := [.int (nI (a)), .int (nI (b0)), .int (nI (j))]) [] 3 (c_X5_widest m0 gT gv (a := a) (b0 := b0) (j := j) (by omega) (by omega) (by omega)) (by omega) m0 rfl gX5_viewColumn_X5_widest rfl (by decide +kernel) rfl ⟨Nat.le_of_ble_eq_true rfl, Nat.le_of_ble_eq_true rfl⟩ ⟨Nat.zero_le _, Nat.zero_le _⟩ (Nat.le_of_ble_eq_true rfl) rfl dX5_viewColumn_181 ?_
                    refine y_goto X 222 dX5_viewColumn_184 (by decide) ?_
                    exact y_iret X hr dX5_viewColumn_222 rfl ⟨congrArg (fun z => some (Value.int z)) (show (wdt T (a) (j) (b0 + 1 - a)) = rVC T (nI a) (nI b0) (nI j) w by rw [rVC, if_pos ⟨⟨c_1, c_2⟩, c_3⟩, if_pos c_4, ix_nI (by omega), ix_nI (by omega), ix_nI (by omega), if_neg c_5, vcV, if_pos c_7]), rfl⟩
                ·
                  have gpr2 := gh (a + k) (by omega) (by omega)
                  refine y_aload_n X dX5_viewColumn_94 0 rfl ?_
                  refine y_get X (61) 5 0 (Cn := RX5) (T := TX5) (N := 14) (index := 7) (v := .ref (E.2.1 (62))) dX5_viewColumn_95 (by omega) m0 rfl (by decide) inX5 (by decide +kernel : Cond.fieldLink RX5 7 "ColumnSeasonsModel" "now" "[I" ∈ wsX5_viewColumn) rfl rfl ?_
                  refine y_iload X dX5_viewColumn_98 9 rfl ?_
                  refine y_iload_n X dX5_viewColumn_100 3 rfl ?_
                  refine y_callJr X (av := [.ref (E.2.1 (62)), .int (nI (a + k)), .int (nI (j))]) [] 3 (c_X5_valueOf (a := 62) (by omega) gT gv (i := a + k) (j := j) (by omega) (by omega) (by assumption)) gX5_viewColumn_X5_valueOf rfl (by decide +kernel) rfl ⟨Nat.le_of_ble_eq_true rfl, Nat.le_of_ble_eq_true rfl⟩ ⟨Nat.zero_le _, Nat.zero_le _⟩ (Nat.le_of_ble_eq_true rfl) rfl dX5_viewColumn_101 ?_
                  refine y_istore X [(10, .int (tv T (a + k) (j))), (0, .ref (E.2.1 (61))), (1, .int (nI (a))), (2, .int (nI (b0))), (3, .int (nI (j))), (4, .int w), (5, .int x5), (6, .int x6), (7, .int x7), (8, .int x8), (9, .int (nI (a + k)))] dX5_viewColumn_104 (by decide) rfl ?_
                  refine y_iload X dX5_viewColumn_106 6 rfl ?_
                  refine y_iload X dX5_viewColumn_108 0 rfl ?_
                  refine y_iadd X (z := (x5 + (tv T (a + k) (j)))) dX5_viewColumn_110 rfl ?_
                  refine y_istore X [(5, .int (x5 + (tv T (a + k) (j)))), (10, .int (tv T (a + k) (j))), (0, .ref (E.2.1 (61))), (1, .int (nI (a))), (2, .int (nI (b0))), (3, .int (nI (j))), (4, .int w), (6, .int x6), (7, .int x7), (8, .int x8), (9, .int (nI (a + k)))] dX5_viewColumn_111 (by decide) rfl ?_
                  refine y_iload X dX5_viewColumn_113 1 rfl ?_
                  refine y_iload X dX5_viewColumn_115 7 rfl ?_
                  refine y_icmp_ge X 125 (x6 ≤ (tv T (a + k) (j))) dX5_viewColumn_117 (by decide) Iff.rfl (fun c_11 => ?_) (fun c_11 => ?_)
                  ·
                    refine y_iload X dX5_viewColumn_125 7 rfl ?_
                    refine y_istore X [(6, .int x6), (5, .int (x5 + (tv T (a + k) (j)))), (10, .int (tv T (a + k) (j))), (0, .ref (E.2.1 (61))), (1, .int (nI (a))), (2, .int (nI (b0))), (3, .int (nI (j))), (4, .int w), (7, .int x7), (8, .int x8), (9, .int (nI (a + k)))] dX5_viewColumn_127 (by decide) rfl ?_
                    refine y_iload X dX5_viewColumn_129 2 rfl ?_
                    refine y_iload X dX5_viewColumn_131 8 rfl ?_
                    refine y_icmp_le X 141 ((tv T (a + k) (j)) ≤ x7) dX5_viewColumn_133 (by decide) Iff.rfl (fun c_12 => ?_) (fun c_12 => ?_)
                    ·
                      refine y_iload X dX5_viewColumn_141 8 rfl ?_
                      refine y_istore X [(7, .int x7), (6, .int x6), (5, .int (x5 + (tv T (a + k) (j)))), (10, .int (tv T (a + k) (j))), (0, .ref (E.2.1 (61))), (1, .int (nI (a))), (2, .int (nI (b0))), (3, .int (nI (j))), (4, .int w), (8, .int x8), (9, .int (nI (a + k)))] dX5_viewColumn_143 (by decide) rfl ?_
                      refine y_iload X dX5_viewColumn_145 9 rfl ?_
                      refine y_aload_n X dX5_viewColumn_147 4 rfl ?_
                      refine y_iload_n X dX5_viewColumn_148 5 rfl ?_
                      refine y_iload X dX5_viewColumn_149 10 rfl ?_
                      refine y_iload_n X dX5_viewColumn_151 7 rfl ?_
                      refine y_callVr X (61) 5 (av := [.int (nI (a)), .int (nI (a + k)), .int (nI (j))]) [.int x8] 3 (c_X5_isOld m0 gT gv (a := a) (i := a + k) (j := j) (by omega) (by omega) (by omega) (fun r q1 q2 => gh r (by omega) (by omega))) (by omega) m0 rfl gX5_viewColumn_X5_isOld rfl (by decide +kernel) rfl ⟨Nat.le_of_ble_eq_true rfl, Nat.le_of_ble_eq_true rfl⟩ ⟨Nat.zero_le _, Nat.zero_le _⟩ (Nat.le_of_ble_eq_true rfl) rfl dX5_viewColumn_152 ?_
                      refine y_if_eq X 162 (¬ (¬ fstV T (a) (j) (a + k))) dX5_viewColumn_155 (by decide) bI_eq (fun c_13 => ?_) (fun c_13 => ?_)
                      ·
                        refine y_iconst X (v := (1)) dX5_viewColumn_162 (by decide) ?_
                        refine y_iadd X (z := (x8 + (1))) dX5_viewColumn_163 rfl ?_
                        refine y_istore X [(8, .int (x8 + (1))), (7, .int x7), (6, .int x6), (5, .int (x5 + (tv T (a + k) (j)))), (10, .int (tv T (a + k) (j))), (0, .ref (E.2.1 (61))), (1, .int (nI (a))), (2, .int (nI (b0))), (3, .int (nI (j))), (4, .int w), (9, .int (nI (a + k)))] dX5_viewColumn_164 (by decide) rfl ?_
                        refine y_iinc X [(9, .int (nI (a + k + 1))), (8, .int (x8 + (1))), (7, .int x7), (6, .int x6), (5, .int (x5 + (tv T (a + k) (j)))), (10, .int (tv T (a + k) (j))), (0, .ref (E.2.1 (61))), (1, .int (nI (a))), (2, .int (nI (b0))), (3, .int (nI (j))), (4, .int w)] dX5_viewColumn_166 10 rfl (nI_1 _) (by decide) rfl ?_
                        refine y_goto X 88 dX5_viewColumn_169 (by decide) ?_
                        refine y_pick [6, 7, 8, 9, 10, 4, 3, 2, 1, 0] [(0, .ref (E.2.1 (61))), (1, .int (nI (a))), (2, .int (nI (b0))), (3, .int (nI (j))), (4, .int w), (5, .int (x5 + (tv T (a + k) (j)))), (6, .int x6), (7, .int x7), (8, .int (x8 + (1))), (9, .int (nI (a + k + 1)))] rfl ?_
                        exact ih88 (k + 1) ((x5 + (tv T (a + k) (j)))) (x6) (x7) ((x8 + (1))) (by omega) (by omega) (by rw [gx5]; rfl) (by rw [leM, ← gx6, if_neg (Int32.not_lt.mpr c_11)]) (by rw [grM, ← gx7, if_neg (Int32.not_lt.mpr c_12)]) (by rw [gx8]; exact sm_pos (if_pos (by first | exact c_13 | exact Decidable.of_not_not c_13)))
                      ·
                        have c_13 := Decidable.of_not_not c_13
                        refine y_iconst X (v := (0)) dX5_viewColumn_158 (by decide) ?_
                        refine y_goto X 163 dX5_viewColumn_159 (by decide) ?_
                        refine y_iadd X (z := (x8 + (0))) dX5_viewColumn_163 rfl ?_
                        refine y_istore X [(8, .int (x8 + (0))), (7, .int x7), (6, .int x6), (5, .int (x5 + (tv T (a + k) (j)))), (10, .int (tv T (a + k) (j))), (0, .ref (E.2.1 (61))), (1, .int (nI (a))), (2, .int (nI (b0))), (3, .int (nI (j))), (4, .int w), (9, .int (nI (a + k)))] dX5_viewColumn_164 (by decide) rfl ?_
                        refine y_iinc X [(9, .int (nI (a + k + 1))), (8, .int (x8 + (0))), (7, .int x7), (6, .int x6), (5, .int (x5 + (tv T (a + k) (j)))), (10, .int (tv T (a + k) (j))), (0, .ref (E.2.1 (61))), (1, .int (nI (a))), (2, .int (nI (b0))), (3, .int (nI (j))), (4, .int w)] dX5_viewColumn_166 10 rfl (nI_1 _) (by decide) rfl ?_
                        refine y_goto X 88 dX5_viewColumn_169 (by decide) ?_
                        refine y_pick [6, 7, 8, 9, 10, 4, 3, 2, 1, 0] [(0, .ref (E.2.1 (61))), (1, .int (nI (a))), (2, .int (nI (b0))), (3, .int (nI (j))), (4, .int w), (5, .int (x5 + (tv T (a + k) (j)))), (6, .int x6), (7, .int x7), (8, .int (x8 + (0))), (9, .int (nI (a + k + 1)))] rfl ?_
                        exact ih88 (k + 1) ((x5 + (tv T (a + k) (j)))) (x6) (x7) ((x8 + (0))) (by omega) (by omega) (by rw [gx5]; rfl) (by rw [leM, ← gx6, if_neg (Int32.not_lt.mpr c_11)]) (by rw [grM, ← gx7, if_neg (Int32.not_lt.mpr c_12)]) (by rw [gx8, Int32.add_zero]; exact sm_zero (if_neg (fun z9 => c_13 z9)))
                    ·
                      refine y_iload X dX5_viewColumn_136 2 rfl ?_
                      refine y_goto X 143 dX5_viewColumn_138 (by decide) ?_
                      refine y_istore X [(7, .int (tv T (a + k) (j))), (6, .int x6), (5, .int (x5 + (tv T (a + k) (j)))), (10, .int (tv T (a + k) (j))), (0, .ref (E.2.1 (61))), (1, .int (nI (a))), (2, .int (nI (b0))), (3, .int (nI (j))), (4, .int w), (8, .int x8), (9, .int (nI (a + k)))] dX5_viewColumn_143 (by decide) rfl ?_
                      refine y_iload X dX5_viewColumn_145 9 rfl ?_
                      refine y_aload_n X dX5_viewColumn_147 4 rfl ?_
                      refine y_iload_n X dX5_viewColumn_148 5 rfl ?_
                      refine y_iload X dX5_viewColumn_149 10 rfl ?_
                      refine y_iload_n X dX5_viewColumn_151 7 rfl ?_
                      refine y_callVr X (61) 5 (av := [.int (nI (a)), .int (nI (a + k)), .int (nI (j))]) [.int x8] 3 (c_X5_isOld m0 gT gv (a := a) (i := a + k) (j := j) (by omega) (by omega) (by omega) (fun r q1 q2 => gh r (by omega) (by omega))) (by omega) m0 rfl gX5_viewColumn_X5_isOld rfl (by decide +kernel) rfl ⟨Nat.le_of_ble_eq_true rfl, Nat.le_of_ble_eq_true rfl⟩ ⟨Nat.zero_le _, Nat.zero_le _⟩ (Nat.le_of_ble_eq_true rfl) rfl dX5_viewColumn_152 ?_
                      refine y_if_eq X 162 (¬ (¬ fstV T (a) (j) (a + k))) dX5_viewColumn_155 (by decide) bI_eq (fun c_14 => ?_) (fun c_14 => ?_)
                      ·
                        refine y_iconst X (v := (1)) dX5_viewColumn_162 (by decide) ?_
                        refine y_iadd X (z := (x8 + (1))) dX5_viewColumn_163 rfl ?_
                        refine y_istore X [(8, .int (x8 + (1))), (7, .int (tv T (a + k) (j))), (6, .int x6), (5, .int (x5 + (tv T (a + k) (j)))), (10, .int (tv T (a + k) (j))), (0, .ref (E.2.1 (61))), (1, .int (nI (a))), (2, .int (nI (b0))), (3, .int (nI (j))), (4, .int w), (9, .int (nI (a + k)))] dX5_viewColumn_164 (by decide) rfl ?_
                        refine y_iinc X [(9, .int (nI (a + k + 1))), (8, .int (x8 + (1))), (7, .int (tv T (a + k) (j))), (6, .int x6), (5, .int (x5 + (tv T (a + k) (j)))), (10, .int (tv T (a + k) (j))), (0, .ref (E.2.1 (61))), (1, .int (nI (a))), (2, .int (nI (b0))), (3, .int (nI (j))), (4, .int w)] dX5_viewColumn_166 10 rfl (nI_1 _) (by decide) rfl ?_
                        refine y_goto X 88 dX5_viewColumn_169 (by decide) ?_
                        refine y_pick [6, 7, 8, 9, 10, 4, 3, 2, 1, 0] [(0, .ref (E.2.1 (61))), (1, .int (nI (a))), (2, .int (nI (b0))), (3, .int (nI (j))), (4, .int w), (5, .int (x5 + (tv T (a + k) (j)))), (6, .int x6), (7, .int (tv T (a + k) (j))), (8, .int (x8 + (1))), (9, .int (nI (a + k + 1)))] rfl ?_
                        exact ih88 (k + 1) ((x5 + (tv T (a + k) (j)))) (x6) ((tv T (a + k) (j))) ((x8 + (1))) (by omega) (by omega) (by rw [gx5]; rfl) (by rw [leM, ← gx6, if_neg (Int32.not_lt.mpr c_11)]) (by rw [grM, ← gx7, if_pos (Int32.not_le.mp c_12)]) (by rw [gx8]; exact sm_pos (if_pos (by first | exact c_14 | exact Decidable.of_not_not c_14)))
                      ·
                        have c_14 := Decidable.of_not_not c_14
                        refine y_iconst X (v := (0)) dX5_viewColumn_158 (by decide) ?_
                        refine y_goto X 163 dX5_viewColumn_159 (by decide) ?_
                        refine y_iadd X (z := (x8 + (0))) dX5_viewColumn_163 rfl ?_
                        refine y_istore X [(8, .int (x8 + (0))), (7, .int (tv T (a + k) (j))), (6, .int x6), (5, .int (x5 + (tv T (a + k) (j)))), (10, .int (tv T (a + k) (j))), (0, .ref (E.2.1 (61))), (1, .int (nI (a))), (2, .int (nI (b0))), (3, .int (nI (j))), (4, .int w), (9, .int (nI (a + k)))] dX5_viewColumn_164 (by decide) rfl ?_
                        refine y_iinc X [(9, .int (nI (a + k + 1))), (8, .int (x8 + (0))), (7, .int (tv T (a + k) (j))), (6, .int x6), (5, .int (x5 + (tv T (a + k) (j)))), (10, .int (tv T (a + k) (j))), (0, .ref (E.2.1 (61))), (1, .int (nI (a))), (2, .int (nI (b0))), (3, .int (nI (j))), (4, .int w)] dX5_viewColumn_166 10 rfl (nI_1 _) (by decide) rfl ?_
                        refine y_goto X 88 dX5_viewColumn_169 (by decide) ?_
                        refine y_pick [6, 7, 8, 9, 10, 4, 3, 2, 1, 0] [(0, .ref (E.2.1 (61))), (1, .int (nI (a))), (2, .int (nI (b0))), (3, .int (nI (j))), (4, .int w), (5, .int (x5 + (tv T (a + k) (j)))), (6, .int x6), (7, .int (tv T (a + k) (j))), (8, .int (x8 + (0))), (9, .int (nI (a + k + 1)))] rfl ?_
                        exact ih88 (k + 1) ((x5 + (tv T (a + k) (j)))) (x6) ((tv T (a + k) (j))) ((x8 + (0))) (by omega) (by omega) (by rw [gx5]; rfl) (by rw [leM, ← gx6, if_neg (Int32.not_lt.mpr c_11)]) (by rw [grM, ← gx7, if_pos (Int32.not_le.mp c_12)]) (by rw [gx8, Int32.add_zero]; exact sm_zero (if_neg (fun z9 => c_14 z9)))
                  ·
                    refine y_iload X dX5_viewColumn_120 1 rfl ?_
                    refine y_goto X 127 dX5_viewColumn_122 (by decide) ?_
                    refine y_istore X [(6, .int (tv T (a + k) (j))), (5, .int (x5 + (tv T (a + k) (j)))), (10, .int (tv T (a + k) (j))), (0, .ref (E.2.1 (61))), (1, .int (nI (a))), (2, .int (nI (b0))), (3, .int (nI (j))), (4, .int w), (7, .int x7), (8, .int x8), (9, .int (nI (a + k)))] dX5_viewColumn_127 (by decide) rfl ?_
                    refine y_iload X dX5_viewColumn_129 2 rfl ?_
                    refine y_iload X dX5_viewColumn_131 8 rfl ?_
                    refine y_icmp_le X 141 ((tv T (a + k) (j)) ≤ x7) dX5_viewColumn_133 (by decide) Iff.rfl (fun c_15 => ?_) (fun c_15 => ?_)
                    ·
                      refine y_iload X dX5_viewColumn_141 8 rfl ?_
                      refine y_istore X [(7, .int x7), (6, .int (tv T (a + k) (j))), (5, .int (x5 + (tv T (a + k) (j)))), (10, .int (tv T (a + k) (j))), (0, .ref (E.2.1 (61))), (1, .int (nI (a))), (2, .int (nI (b0))), (3, .int (nI (j))), (4, .int w), (8, .int x8), (9, .int (nI (a + k)))] dX5_viewColumn_143 (by decide) rfl ?_
                      refine y_iload X dX5_viewColumn_145 9 rfl ?_
                      refine y_aload_n X dX5_viewColumn_147 4 rfl ?_
                      refine y_iload_n X dX5_viewColumn_148 5 rfl ?_
                      refine y_iload X dX5_viewColumn_149 10 rfl ?_
                      refine y_iload_n X dX5_viewColumn_151 7 rfl ?_
                      refine y_callVr X (61) 5 (av := [.int (nI (a)), .int (nI (a + k)), .int (nI (j))]) [.int x8] 3 (c_X5_isOld m0 gT gv (a := a) (i := a + k) (j := j) (by omega) (by omega) (by omega) (fun r q1 q2 => gh r (by omega) (by omega))) (by omega) m0 rfl gX5_viewColumn_X5_isOld rfl (by decide +kernel) rfl ⟨Nat.le_of_ble_eq_true rfl, Nat.le_of_ble_eq_true rfl⟩ ⟨Nat.zero_le _, Nat.zero_le _⟩ (Nat.le_of_ble_eq_true rfl) rfl dX5_viewColumn_152 ?_
                      refine y_if_eq X 162 (¬ (¬ fstV T (a) (j) (a + k))) dX5_viewColumn_155 (by decide) bI_eq (fun c_16 => ?_) (fun c_16 => ?_)
                      ·
                        refine y_iconst X (v := (1)) dX5_viewColumn_162 (by decide) ?_
                        refine y_iadd X (z := (x8 + (1))) dX5_viewColumn_163 rfl ?_
                        refine y_istore X [(8, .int (x8 + (1))), (7, .int x7), (6, .int (tv T (a + k) (j))), (5, .int (x5 + (tv T (a + k) (j)))), (10, .int (tv T (a + k) (j))), (0, .ref (E.2.1 (61))), (1, .int (nI (a))), (2, .int (nI (b0))), (3, .int (nI (j))), (4, .int w), (9, .int (nI (a + k)))] dX5_viewColumn_164 (by decide) rfl ?_
                        refine y_iinc X [(9, .int (nI (a + k + 1))), (8, .int (x8 + (1))), (7, .int x7), (6, .int (tv T (a + k) (j))), (5, .int (x5 + (tv T (a + k) (j)))), (10, .int (tv T (a + k) (j))), (0, .ref (E.2.1 (61))), (1, .int (nI (a))), (2, .int (nI (b0))), (3, .int (nI (j))), (4, .int w)] dX5_viewColumn_166 10 rfl (nI_1 _) (by decide) rfl ?_
                        refine y_goto X 88 dX5_viewColumn_169 (by decide) ?_
                        refine y_pick [6, 7, 8, 9, 10, 4, 3, 2, 1, 0] [(0, .ref (E.2.1 (61))), (1, .int (nI (a))), (2, .int (nI (b0))), (3, .int (nI (j))), (4, .int w), (5, .int (x5 + (tv T (a + k) (j)))), (6, .int (tv T (a + k) (j))), (7, .int x7), (8, .int (x8 + (1))), (9, .int (nI (a + k + 1)))] rfl ?_
                        exact ih88 (k + 1) ((x5 + (tv T (a + k) (j)))) ((tv T (a + k) (j))) (x7) ((x8 + (1))) (by omega) (by omega) (by rw [gx5]; rfl) (by rw [leM, ← gx6, if_pos (Int32.not_le.mp c_11)]) (by rw [grM, ← gx7, if_neg (Int32.not_lt.mpr c_15)]) (by rw [gx8]; exact sm_pos (if_pos (by first | exact c_16 | exact Decidable.of_not_not c_16)))
                      ·
                        have c_16 := Decidable.of_not_not c_16
                        refine y_iconst X (v := (0)) dX5_viewColumn_158 (by decide) ?_
                        refine y_goto X 163 dX5_viewColumn_159 (by decide) ?_
                        refine y_iadd X (z := (x8 + (0))) dX5_viewColumn_163 rfl ?_
                        refine y_istore X [(8, .int (x8 + (0))), (7, .int x7), (6, .int (tv T (a + k) (j))), (5, .int (x5 + (tv T (a + k) (j)))), (10, .int (tv T (a + k) (j))), (0, .ref (E.2.1 (61))), (1, .int (nI (a))), (2, .int (nI (b0))), (3, .int (nI (j))), (4, .int w), (9, .int (nI (a + k)))] dX5_viewColumn_164 (by decide) rfl ?_
                        refine y_iinc X [(9, .int (nI (a + k + 1))), (8, .int (x8 + (0))), (7, .int x7), (6, .int (tv T (a + k) (j))), (5, .int (x5 + (tv T (a + k) (j)))), (10, .int (tv T (a + k) (j))), (0, .ref (E.2.1 (61))), (1, .int (nI (a))), (2, .int (nI (b0))), (3, .int (nI (j))), (4, .int w)] dX5_viewColumn_166 10 rfl (nI_1 _) (by decide) rfl ?_
                        refine y_goto X 88 dX5_viewColumn_169 (by decide) ?_
                        refine y_pick [6, 7, 8, 9, 10, 4, 3, 2, 1, 0] [(0, .ref (E.2.1 (61))), (1, .int (nI (a))), (2, .int (nI (b0))), (3, .int (nI (j))), (4, .int w), (5, .int (x5 + (tv T (a + k) (j)))), (6, .int (tv T (a + k) (j))), (7, .int x7), (8, .int (x8 + (0))), (9, .int (nI (a + k + 1)))] rfl ?_
                        exact ih88 (k + 1) ((x5 + (tv T (a + k) (j)))) ((tv T (a + k) (j))) (x7) ((x8 + (0))) (by omega) (by omega) (by rw [gx5]; rfl) (by rw [leM, ← gx6, if_pos (Int32.not_le.mp c_11)]) (by rw [grM, ← gx7, if_neg (Int32.not_lt.mpr c_15)]) (by rw [gx8, Int32.add_zero]; exact sm_zero (if_neg (fun z9 => c_16 z9)))
                    ·
                      refine y_iload X dX5_viewColumn_136 2 rfl ?_
                      refine y_goto X 143 dX5_viewColumn_138 (by decide) ?_
                      refine y_istore X [(7, .int (tv T (a + k) (j))), (6, .int (tv T (a + k) (j))), (5, .int (x5 + (tv T (a + k) (j)))), (10, .int (tv T (a + k) (j))), (0, .ref (E.2.1 (61))), (1, .int (nI (a))), (2, .int (nI (b0))), (3, .int (nI (j))), (4, .int w), (8, .int x8), (9, .int (nI (a + k)))] dX5_viewColumn_143 (by decide) rfl ?_
                      refine y_iload X dX5_viewColumn_145 9 rfl ?_
                      refine y_aload_n X dX5_viewColumn_147 4 rfl ?_
                      refine y_iload_n X dX5_viewColumn_148 5 rfl ?_
                      refine y_iload X dX5_viewColumn_149 10 rfl ?_
                      refine y_iload_n X dX5_viewColumn_151 7 rfl ?_
                      refine y_callVr X (61) 5 (av := [.int (nI (a)), .int (nI (a + k)), .int (nI (j))]) [.int x8] 3 (c_X5_isOld m0 gT gv (a := a) (i := a + k) (j := j) (by omega) (by omega) (by omega) (fun r q1 q2 => gh r (by omega) (by omega))) (by omega) m0 rfl gX5_viewColumn_X5_isOld rfl (by decide +kernel) rfl ⟨Nat.le_of_ble_eq_true rfl, Nat.le_of_ble_eq_true rfl⟩ ⟨Nat.zero_le _, Nat.zero_le _⟩ (Nat.le_of_ble_eq_true rfl) rfl dX5_viewColumn_152 ?_
                      refine y_if_eq X 162 (¬ (¬ fstV T (a) (j) (a + k))) dX5_viewColumn_155 (by decide) bI_eq (fun c_17 => ?_) (fun c_17 => ?_)
                      ·
                        refine y_iconst X (v := (1)) dX5_viewColumn_162 (by decide) ?_
                        refine y_iadd X (z := (x8 + (1))) dX5_viewColumn_163 rfl ?_
                        refine y_istore X [(8, .int (x8 + (1))), (7, .int (tv T (a + k) (j))), (6, .int (tv T (a + k) (j))), (5, .int (x5 + (tv T (a + k) (j)))), (10, .int (tv T (a + k) (j))), (0, .ref (E.2.1 (61))), (1, .int (nI (a))), (2, .int (nI (b0))), (3, .int (nI (j))), (4, .int w), (9, .int (nI (a + k)))] dX5_viewColumn_164 (by decide) rfl ?_
                        refine y_iinc X [(9, .int (nI (a + k + 1))), (8, .int (x8 + (1))), (7, .int (tv T (a + k) (j))), (6, .int (tv T (a + k) (j))), (5, .int (x5 + (tv T (a + k) (j)))), (10, .int (tv T (a + k) (j))), (0, .ref (E.2.1 (61))), (1, .int (nI (a))), (2, .int (nI (b0))), (3, .int (nI (j))), (4, .int w)] dX5_viewColumn_166 10 rfl (nI_1 _) (by decide) rfl ?_
                        refine y_goto X 88 dX5_viewColumn_169 (by decide) ?_
                        refine y_pick [6, 7, 8, 9, 10, 4, 3, 2, 1, 0] [(0, .ref (E.2.1 (61))), (1, .int (nI (a))), (2, .int (nI (b0))), (3, .int (nI (j))), (4, .int w), (5, .int (x5 + (tv T (a + k) (j)))), (6, .int (tv T (a + k) (j))), (7, .int (tv T (a + k) (j))), (8, .int (x8 + (1))), (9, .int (nI (a + k + 1)))] rfl ?_
                        exact ih88 (k + 1) ((x5 + (tv T (a + k) (j)))) ((tv T (a + k) (j))) ((tv T (a + k) (j))) ((x8 + (1))) (by omega) (by omega) (by rw [gx5]; rfl) (by rw [leM, ← gx6, if_pos (Int32.not_le.mp c_11)]) (by rw [grM, ← gx7, if_pos (Int32.not_le.mp c_15)]) (by rw [gx8]; exact sm_pos (if_pos (by first | exact c_17 | exact Decidable.of_not_not c_17)))
                      ·
                        have c_17 := Decidable.of_not_not c_17
                        refine y_iconst X (v := (0)) dX5_viewColumn_158 (by decide) ?_
                        refine y_goto X 163 dX5_viewColumn_159 (by decide) ?_
                        refine y_iadd X (z := (x8 + (0))) dX5_viewColumn_163 rfl ?_
                        refine y_istore X [(8, .int (x8 + (0))), (7, .int (tv T (a + k) (j))), (6, .int (tv T (a + k) (j))), (5, .int (x5 + (tv T (a + k) (j)))), (10, .int (tv T (a + k) (j))), (0, .ref (E.2.1 (61))), (1, .int (nI (a))), (2, .int (nI (b0))), (3, .int (nI (j))), (4, .int w), (9, .int (nI (a + k)))] dX5_viewColumn_164 (by decide) rfl ?_
                        refine y_iinc X [(9, .int (nI (a + k + 1))), (8, .int (x8 + (0))), (7, .int (tv T (a + k) (j))), (6, .int (tv T (a + k) (j))), (5, .int (x5 + (tv T (a + k) (j)))), (10, .int (tv T (a + k) (j))), (0, .ref (E.2.1 (61))), (1, .int (nI (a))), (2, .int (nI (b0))), (3, .int (nI (j))), (4, .int w)] dX5_viewColumn_166 10 rfl (nI_1 _) (by decide) rfl ?_
                        refine y_goto X 88 dX5_viewColumn_169 (by decide) ?_
                        refine y_pick [6, 7, 8, 9, 10, 4, 3, 2, 1, 0] [(0, .ref (E.2.1 (61))), (1, .int (nI (a))), (2, .int (nI (b0))), (3, .int (nI (j))), (4, .int w), (5, .int (x5 + (tv T (a + k) (j)))), (6, .int (tv T (a + k) (j))), (7, .int (tv T (a + k) (j))), (8, .int (x8 + (0))), (9, .int (nI (a + k + 1)))] rfl ?_
                        exact ih88 (k + 1) ((x5 + (tv T (a + k) (j)))) ((tv T (a + k) (j))) ((tv T (a + k) (j))) ((x8 + (0))) (by omega) (by omega) (by rw [gx5]; rfl) (by rw [leM, ← gx6, if_pos (Int32.not_le.mp c_11)]) (by rw [grM, ← gx7, if_pos (Int32.not_le.mp c_15)]) (by rw [gx8, Int32.add_zero]; exact sm_zero (if_neg (fun z9 => c_17 z9)))
            refine y_pick [5, 6, 7, 8, 9, 4, 3, 2, 1, 0] [(0, .ref (E.2.1 (61))), (1, .int (nI (a))), (2, .int (nI (b0))), (3, .int (nI (j))), (4, .int w), (5, .int (0)), (6, .int (tv T (a) (j))), (7, .int (tv T (a) (j))), (8, .int (0)), (9, .int (nI (a)))] rfl ?_
            exact L_88 _ (0) (0) ((tv T a j)) ((tv T a j)) (0) (Nat.lt_succ_self _) (by omega) rfl rfl rfl rfl
          ·
            have c_5 := Decidable.of_not_not c_5
            refine y_sipush X (v := (-10005)) dX5_viewColumn_60 (by decide) ?_
            exact y_iret X hr dX5_viewColumn_63 rfl ⟨congrArg (fun z => some (Value.int z)) (show (-10005) = rVC T (nI a) (nI b0) (nI j) w by rw [rVC, if_pos ⟨⟨c_1, c_2⟩, c_3⟩, if_pos c_4, ix_nI (by omega), ix_nI (by omega), ix_nI (by omega), if_pos (by first | exact c_5 | exact Decidable.of_not_not c_5)]), rfl⟩
        ·
          refine y_sipush X (v := (-10002)) dX5_viewColumn_43 (by decide) ?_
          exact y_iret X hr dX5_viewColumn_46 rfl ⟨congrArg (fun z => some (Value.int z)) (show (-10002) = rVC T (nI a) (nI b0) (nI j) w by rw [rVC, if_pos ⟨⟨c_1, c_2⟩, c_3⟩, if_neg c_4]), rfl⟩
      ·
        refine y_sipush X (v := (-10001)) dX5_viewColumn_29 (by decide) ?_
        exact y_iret X hr dX5_viewColumn_32 rfl ⟨congrArg (fun z => some (Value.int z)) (show (-10001) = rVC T (nI a) (nI b0) u1 w by rw [rVC, if_neg (fun z => c_3 z.2)]), rfl⟩

set_option maxRecDepth 100000 in
set_option maxHeartbeats 4000000 in
theorem c_X5_bestFrom {l : Launch} {E : xE} {C : xC} {T : Tb} {hh : Nat → Tb} {hn : Nat} {sn : Option Tb} {tx : Nat → Int32} {ln : Nat} {sp : Option (Nat × Int32)} (gM : MX E C T hh hn sn tx ln sp) (gW : WX T hh hn sn tx ln sp) : xR E l yX5_bestFrom wsX5_bestFrom 3 69 [.ref (E.2.1 (61))] C (rBf T) := by
  obtain ⟨zf, zt, zp, zs, zx, zl, pa, va, tl, m0, h2, h3, h4, h5, h6, h7, gRT, gPH, gSN, gTX⟩ := id gM
  obtain ⟨gv, gn4, gWH, gWS, gl80, gch, gsp⟩ := id gW
  have gT : RM E C 62 T := ⟨zf, h2, gRT⟩
  obtain ⟨gw1, gw2, gw3, gw4⟩ := id gv.1
  refine xM_ofY (cc := cX5_bestFrom) (maxL := 5) (ret := (some .int)) (by decide) rfl (Nat.le_of_ble_eq_true rfl) ?_
  intro p e s m args below meth c X hr
  have inX5 : ∀ w ∈ wsX50, w ∈ wsX5_bestFrom := by decide +kernel
  refine y_lv [(0, .ref (E.2.1 (61)))] rfl ?_
  refine y_sipush X (v := (-10005)) dX5_bestFrom_0 (by decide) ?_
  refine y_istore_n X [(1, .int (-10005)), (0, .ref (E.2.1 (61)))] dX5_bestFrom_3 rfl (by decide) rfl ?_
  refine y_iconst X (v := (-1)) dX5_bestFrom_4 (by decide) ?_
  refine y_istore_n X [(2, .int (-1)), (1, .int (-10005)), (0, .ref (E.2.1 (61)))] dX5_bestFrom_5 rfl (by decide) rfl ?_
  refine y_iconst X (v := (0)) dX5_bestFrom_6 (by decide) ?_
  refine y_istore_n X [(3, .int (0)), (2, .int (-1)), (1, .int (-10005)), (0, .ref (E.2.1 (61)))] dX5_bestFrom_7 rfl (by decide) rfl ?_
  have L_8 : ∀ (n : Nat) (k : Nat) (x1 : Int32) (x2 : Int32), tr T - k < n → (k ≤ tr T) → ((x1, x2) = bfM T k) → xY p l e ({ frames := 3, cells := 0, slots := 0, locals := 69 } : Room) s m args below meth c E (xA E) 5 0 0 (MQ below (xQ E (fun v C1 => v = some (.int (rBf T)) ∧ C1 = C)) args s 0 0 (xA E)) C 8 [(0, .ref (E.2.1 (61))), (1, .int x1), (2, .int x2), (3, .int (nI (k)))] [] := by
    intro n8
    induction n8 with
    | zero => intro _ _ _ hm8; exact absurd hm8 (Nat.not_lt_zero _)
    | succ n8 ih8 =>
      intro k x1 x2 hm8 gk gx
      refine y_iload_n X dX5_bestFrom_8 3 rfl ?_
      refine y_aload_n X dX5_bestFrom_9 0 rfl ?_
      refine y_get X (61) 5 0 (Cn := RX5) (T := TX5) (N := 14) (index := 7) (v := .ref (E.2.1 (62))) dX5_bestFrom_10 (by omega) m0 rfl (by decide) inX5 (by decide +kernel : Cond.fieldLink RX5 7 "ColumnSeasonsModel" "now" "[I" ∈ wsX5_bestFrom) rfl rfl ?_
      refine y_iconst X (v := (1)) dX5_bestFrom_13 (by decide) ?_
      refine y_iald X (62) dX5_bestFrom_14 (by omega) h2 (j := 1) rfl (by omega) (by omega) (z := (nI (tr T))) gRT.2.1 ?_
      refine y_icmp_ge X 67 ((tr T) ≤ (k)) dX5_bestFrom_15 (by decide) (nI_leI (a := tr T) (b := k) (by omega) (by omega)) (fun c_1 => ?_) (fun c_1 => ?_)
      ·
        refine y_iload_n X dX5_bestFrom_67 1 rfl ?_
        exact y_iret X hr dX5_bestFrom_68 rfl ⟨by show _ = some (Value.int (rBf T)); rw [rBf]; rcases Nat.eq_zero_or_pos (tr T) with z9 | z9; rw [if_pos z9]; have gk7 : k = 0 := (by omega); subst gk7; cases gx; rfl; rw [if_neg (by omega), ← bf_eq z9, show tr T = k by omega, ← gx], rfl⟩
      ·
        refine y_aload_n X dX5_bestFrom_18 0 rfl ?_
        refine y_iload_n X dX5_bestFrom_19 3 rfl ?_
        refine y_aload_n X dX5_bestFrom_20 0 rfl ?_
        refine y_get X (61) 5 0 (Cn := RX5) (T := TX5) (N := 14) (index := 7) (v := .ref (E.2.1 (62))) dX5_bestFrom_21 (by omega) m0 rfl (by decide) inX5 (by decide +kernel : Cond.fieldLink RX5 7 "ColumnSeasonsModel" "now" "[I" ∈ wsX5_bestFrom) rfl rfl ?_
        refine y_iconst X (v := (1)) dX5_bestFrom_24 (by decide) ?_
        refine y_iald X (62) dX5_bestFrom_25 (by omega) h2 (j := 1) rfl (by omega) (by omega) (z := (nI (tr T))) gRT.2.1 ?_
        refine y_iconst X (v := (1)) dX5_bestFrom_26 (by decide) ?_
        refine y_isub X (z := (nI (tr T - 1))) dX5_bestFrom_27 (pk_sub (a := tr T) (b := 1) (by omega)) ?_
        refine y_callVr X (61) 5 (av := [.int (nI (k)), .int (nI (tr T - 1))]) [] 2 (c_X5_common m0 gT gv (a := k) (b0 := tr T - 1) (by omega) (by omega)) (by omega) m0 rfl gX5_bestFrom_X5_common rfl (by decide +kernel) rfl ⟨Nat.le_of_ble_eq_true rfl, Nat.le_of_ble_eq_true rfl⟩ ⟨Nat.zero_le _, Nat.zero_le _⟩ (Nat.le_of_ble_eq_true rfl) rfl dX5_bestFrom_28 ?_
        refine y_callJr X (av := [.int (shN T (k) (tr T - 1))]) [] 1 (c_X5_ones (x := (shN T (k) (tr T - 1))) (by first | exact m8_nmS | exact m8_shN)) gX5_bestFrom_X5_ones rfl (by decide +kernel) rfl ⟨Nat.le_of_ble_eq_true rfl, Nat.le_of_ble_eq_true rfl⟩ ⟨Nat.zero_le _, Nat.zero_le _⟩ (Nat.le_of_ble_eq_true rfl) rfl dX5_bestFrom_31 ?_
        refine y_istore X [(4, .int (bcn (shN T (k) (tr T - 1)))), (0, .ref (E.2.1 (61))), (1, .int x1), (2, .int x2), (3, .int (nI (k)))] dX5_bestFrom_34 (by decide) rfl ?_
        refine y_iload X dX5_bestFrom_36 0 rfl ?_
        refine y_iload_n X dX5_bestFrom_38 3 rfl ?_
        refine y_icmp_le X 46 ((bcn (shN T (k) (tr T - 1))) ≤ x2) dX5_bestFrom_39 (by decide) Iff.rfl (fun c_2 => ?_) (fun c_2 => ?_)
        ·
          refine y_iload_n X dX5_bestFrom_46 2 rfl ?_
          refine y_istore_n X [(1, .int x1), (4, .int (bcn (shN T (k) (tr T - 1)))), (0, .ref (E.2.1 (61))), (2, .int x2), (3, .int (nI (k)))] dX5_bestFrom_47 rfl (by decide) rfl ?_
          refine y_iload X dX5_bestFrom_48 1 rfl ?_
          refine y_iload_n X dX5_bestFrom_50 3 rfl ?_
          refine y_icmp_le X 59 ((bcn (shN T (k) (tr T - 1))) ≤ x2) dX5_bestFrom_51 (by decide) Iff.rfl (fun c_3 => ?_) (fun c_3 => ?_)
          ·
            refine y_iload_n X dX5_bestFrom_59 3 rfl ?_
            refine y_istore_n X [(2, .int x2), (1, .int x1), (4, .int (bcn (shN T (k) (tr T - 1)))), (0, .ref (E.2.1 (61))), (3, .int (nI (k)))] dX5_bestFrom_60 rfl (by decide) rfl ?_
            refine y_iinc X [(3, .int (nI (k + 1))), (2, .int x2), (1, .int x1), (4, .int (bcn (shN T (k) (tr T - 1)))), (0, .ref (E.2.1 (61)))] dX5_bestFrom_61 4 rfl (nI_1 _) (by decide) rfl ?_
            refine y_goto X 8 dX5_bestFrom_64 (by decide) ?_
            refine y_pick [4, 2, 1, 0] [(0, .ref (E.2.1 (61))), (1, .int x1), (2, .int x2), (3, .int (nI (k + 1)))] rfl ?_
            exact ih8 (k + 1) (x1) (x2) (by omega) (by omega) (by rw [bfM, ← gx]; simp only [if_neg (Int32.not_lt.mpr c_3)])
          ·
            exact absurd c_2 c_3
        ·
          refine y_iload_n X dX5_bestFrom_42 4 rfl ?_
          refine y_goto X 47 dX5_bestFrom_43 (by decide) ?_
          refine y_istore_n X [(1, .int (nI (k))), (4, .int (bcn (shN T (k) (tr T - 1)))), (0, .ref (E.2.1 (61))), (2, .int x2), (3, .int (nI (k)))] dX5_bestFrom_47 rfl (by decide) rfl ?_
          refine y_iload X dX5_bestFrom_48 1 rfl ?_
          refine y_iload_n X dX5_bestFrom_50 3 rfl ?_
          refine y_icmp_le X 59 ((bcn (shN T (k) (tr T - 1))) ≤ x2) dX5_bestFrom_51 (by decide) Iff.rfl (fun c_4 => ?_) (fun c_4 => ?_)
          ·
            exact absurd c_4 c_2
          ·
            refine y_iload X dX5_bestFrom_54 1 rfl ?_
            refine y_goto X 60 dX5_bestFrom_56 (by decide) ?_
            refine y_istore_n X [(2, .int (bcn (shN T (k) (tr T - 1)))), (1, .int (nI (k))), (4, .int (bcn (shN T (k) (tr T - 1)))), (0, .ref (E.2.1 (61))), (3, .int (nI (k)))] dX5_bestFrom_60 rfl (by decide) rfl ?_
            refine y_iinc X [(3, .int (nI (k + 1))), (2, .int (bcn (shN T (k) (tr T - 1)))), (1, .int (nI (k))), (4, .int (bcn (shN T (k) (tr T - 1)))), (0, .ref (E.2.1 (61)))] dX5_bestFrom_61 4 rfl (nI_1 _) (by decide) rfl ?_
            refine y_goto X 8 dX5_bestFrom_64 (by decide) ?_
            refine y_pick [4, 2, 1, 0] [(0, .ref (E.2.1 (61))), (1, .int (nI (k))), (2, .int (bcn (shN T (k) (tr T - 1)))), (3, .int (nI (k + 1)))] rfl ?_
            exact ih8 (k + 1) ((nI (k))) ((bcn (shN T (k) (tr T - 1)))) (by omega) (by omega) (by rw [bfM, ← gx]; simp only [if_pos (Int32.not_le.mp c_4)])
  refine y_pick [3, 2, 1, 0] [(0, .ref (E.2.1 (61))), (1, .int (-10005)), (2, .int (-1)), (3, .int (0))] rfl ?_
  exact L_8 _ (0) ((-10005)) ((-1)) (Nat.lt_succ_self _) (by omega) rfl

set_option maxRecDepth 100000 in
set_option maxHeartbeats 4000000 in
theorem c_X5_bestSeason {l : Launch} {E : xE} {C : xC} {T : Tb} {hh : Nat → Tb} {hn : Nat} {sn : Option Tb} {tx : Nat → Int32} {ln : Nat} {sp : Option (Nat × Int32)} (gM : MX E C T hh hn sn tx ln sp) (gW : WX T hh hn sn tx ln sp) {w : Int32} : xR E l yX5_bestSeason wsX5_bestSeason 5 116 [.ref (E.2.1 (61)), .int w] C (rBs T w) := by
  obtain ⟨zf, zt, zp, zs, zx, zl, pa, va, tl, m0, h2, h3, h4, h5, h6, h7, gRT, gPH, gSN, gTX⟩ := id gM
  obtain ⟨gv, gn4, gWH, gWS, gl80, gch, gsp⟩ := id gW
  have gT : RM E C 62 T := ⟨zf, h2, gRT⟩
  obtain ⟨gw1, gw2, gw3, gw4⟩ := id gv.1
  refine xM_ofY (cc := cX5_bestSeason) (maxL := 6) (ret := (some .int)) (by decide) rfl (Nat.le_of_ble_eq_true rfl) ?_
  intro p e s m args below meth c X hr
  have inX5 : ∀ w ∈ wsX50, w ∈ wsX5_bestSeason := by decide +kernel
  refine y_lv [(0, .ref (E.2.1 (61))), (1, .int w)] rfl ?_
  refine y_iload_n X dX5_bestSeason_0 1 rfl ?_
  refine y_iconst X (v := (0)) dX5_bestSeason_1 (by decide) ?_
  refine y_iconst X (v := (1)) dX5_bestSeason_2 (by decide) ?_
  refine y_callJr X (av := [.int w, .int (0), .int (1)]) [] 3 (c_X5_inN (x := w) (z := (1)) (n := 2) (by decide)) gX5_bestSeason_X5_in rfl (by decide +kernel) rfl ⟨Nat.le_of_ble_eq_true rfl, Nat.le_of_ble_eq_true rfl⟩ ⟨Nat.zero_le _, Nat.zero_le _⟩ (Nat.le_of_ble_eq_true rfl) rfl dX5_bestSeason_3 ?_
  refine y_if_ne X 13 (xin w 2) dX5_bestSeason_6 (by decide) bI_ne (fun c_1 => ?_) (fun c_1 => ?_)
  ·
    refine y_iconst X (v := (0)) dX5_bestSeason_13 (by decide) ?_
    refine y_istore_n X [(2, .int (0)), (0, .ref (E.2.1 (61))), (1, .int w)] dX5_bestSeason_14 rfl (by decide) rfl ?_
    refine y_aload_n X dX5_bestSeason_15 1 rfl ?_
    refine y_iconst X (v := (0)) dX5_bestSeason_16 (by decide) ?_
    refine y_callVr X (61) 5 (av := [.int (0)]) [] 1 (c_X5_allLosses m0 gT gv (q := 0) (by omega)) (by omega) m0 rfl gX5_bestSeason_X5_allLosses rfl (by decide +kernel) rfl ⟨Nat.le_of_ble_eq_true rfl, Nat.le_of_ble_eq_true rfl⟩ ⟨Nat.zero_le _, Nat.zero_le _⟩ (Nat.le_of_ble_eq_true rfl) rfl dX5_bestSeason_17 ?_
    refine y_istore_n X [(3, .int (lsA T (0))), (2, .int (0)), (0, .ref (E.2.1 (61))), (1, .int w)] dX5_bestSeason_20 rfl (by decide) rfl ?_
    refine y_iconst X (v := (1)) dX5_bestSeason_21 (by decide) ?_
    refine y_istore X [(4, .int (1)), (3, .int (lsA T (0))), (2, .int (0)), (0, .ref (E.2.1 (61))), (1, .int w)] dX5_bestSeason_22 (by decide) rfl ?_
    have L_24 : ∀ (n : Nat) (k : Nat) (y2 : Nat) (x3 : Int32), tn T - k < n → (k + 1 ≤ tn T) → ((y2, x3) = bsM T k) → xY p l e ({ frames := 5, cells := 0, slots := 0, locals := 116 } : Room) s m args below meth c E (xA E) 6 0 0 (MQ below (xQ E (fun v C1 => v = some (.int (rBs T w)) ∧ C1 = C)) args s 0 0 (xA E)) C 24 [(0, .ref (E.2.1 (61))), (1, .int w), (2, .int (nI (y2))), (3, .int x3), (4, .int (nI (k + 1)))] [] := by
      intro n24
      induction n24 with
      | zero => intro _ _ _ hm24; exact absurd hm24 (Nat.not_lt_zero _)
      | succ n24 ih24 =>
        intro k y2 x3 hm24 gk gx
        refine y_iload X dX5_bestSeason_24 4 rfl ?_
        refine y_aload_n X dX5_bestSeason_26 0 rfl ?_
        refine y_get X (61) 5 0 (Cn := RX5) (T := TX5) (N := 14) (index := 7) (v := .ref (E.2.1 (62))) dX5_bestSeason_27 (by omega) m0 rfl (by decide) inX5 (by decide +kernel : Cond.fieldLink RX5 7 "ColumnSeasonsModel" "now" "[I" ∈ wsX5_bestSeason) rfl rfl ?_
        refine y_iconst X (v := (0)) dX5_bestSeason_30 (by decide) ?_
        refine y_iald X (62) dX5_bestSeason_31 (by omega) h2 (j := 0) rfl (by omega) (by omega) (z := (nI (tn T))) gRT.1 ?_
        refine y_icmp_ge X 75 ((tn T) ≤ (k + 1)) dX5_bestSeason_32 (by decide) (nI_leI (a := tn T) (b := k + 1) (by omega) (by omega)) (fun c_2 => ?_) (fun c_2 => ?_)
        ·
          refine y_iload_n X dX5_bestSeason_75 1 rfl ?_
          refine y_if_ne X 83 (¬ (w = (0))) dX5_bestSeason_76 (by decide) Iff.rfl (fun c_3 => ?_) (fun c_3 => ?_)
          ·
            refine y_iload_n X dX5_bestSeason_83 3 rfl ?_
            exact y_iret X hr dX5_bestSeason_84 rfl ⟨congrArg (fun z => some (Value.int z)) (show x3 = rBs T w by rw [rBs, if_pos c_1, if_neg c_3]; have gz := gx; rw [show k = tn T - 1 by omega, bs_eq gw1] at gz; cases gz; rfl), rfl⟩
          ·
            have c_3 := Decidable.of_not_not c_3
            refine y_iload_n X dX5_bestSeason_79 2 rfl ?_
            refine y_goto X 84 dX5_bestSeason_80 (by decide) ?_
            exact y_iret X hr dX5_bestSeason_84 rfl ⟨congrArg (fun z => some (Value.int z)) (show (nI (y2)) = rBs T w by rw [rBs, if_pos c_1, if_pos c_3]; have gz := gx; rw [show k = tn T - 1 by omega, bs_eq gw1] at gz; cases gz; rfl), rfl⟩
        ·
          refine y_aload_n X dX5_bestSeason_35 0 rfl ?_
          refine y_iload X dX5_bestSeason_36 4 rfl ?_
          refine y_callVr X (61) 5 (av := [.int (nI (k + 1))]) [] 1 (c_X5_allLosses m0 gT gv (q := k + 1) (by omega)) (by omega) m0 rfl gX5_bestSeason_X5_allLosses rfl (by decide +kernel) rfl ⟨Nat.le_of_ble_eq_true rfl, Nat.le_of_ble_eq_true rfl⟩ ⟨Nat.zero_le _, Nat.zero_le _⟩ (Nat.le_of_ble_eq_true rfl) rfl dX5_bestSeason_38 ?_
          refine y_istore X [(5, .int (lsA T (k + 1))), (0, .ref (E.2.1 (61))), (1, .int w), (2, .int (nI (y2))), (3, .int x3), (4, .int (nI (k + 1)))] dX5_bestSeason_41 (by decide) rfl ?_
          refine y_iload X dX5_bestSeason_43 0 rfl ?_
          refine y_iload_n X dX5_bestSeason_45 4 rfl ?_
          refine y_icmp_gt X 54 (¬ (lsA T (k + 1)) ≤ x3) dX5_bestSeason_46 (by decide) Int32.not_le.symm (fun c_4 => ?_) (fun c_4 => ?_)
          ·
            refine y_iload_n X dX5_bestSeason_54 3 rfl ?_
            refine y_istore_n X [(2, .int (nI (y2))), (5, .int (lsA T (k + 1))), (0, .ref (E.2.1 (61))), (1, .int w), (3, .int x3), (4, .int (nI (k + 1)))] dX5_bestSeason_55 rfl (by decide) rfl ?_
            refine y_iload X dX5_bestSeason_56 1 rfl ?_
            refine y_iload_n X dX5_bestSeason_58 4 rfl ?_
            refine y_icmp_gt X 67 (¬ (lsA T (k + 1)) ≤ x3) dX5_bestSeason_59 (by decide) Int32.not_le.symm (fun c_5 => ?_) (fun c_5 => ?_)
            ·
              refine y_iload_n X dX5_bestSeason_67 4 rfl ?_
              refine y_istore_n X [(3, .int x3), (2, .int (nI (y2))), (5, .int (lsA T (k + 1))), (0, .ref (E.2.1 (61))), (1, .int w), (4, .int (nI (k + 1)))] dX5_bestSeason_68 rfl (by decide) rfl ?_
              refine y_iinc X [(4, .int (nI (k + 1 + 1))), (3, .int x3), (2, .int (nI (y2))), (5, .int (lsA T (k + 1))), (0, .ref (E.2.1 (61))), (1, .int w)] dX5_bestSeason_69 5 rfl (nI_1 _) (by decide) rfl ?_
              refine y_goto X 24 dX5_bestSeason_72 (by decide) ?_
              refine y_pick [4, 5, 2, 1, 0] [(0, .ref (E.2.1 (61))), (1, .int w), (2, .int (nI (y2))), (3, .int x3), (4, .int (nI (k + 1 + 1)))] rfl ?_
              exact ih24 (k + 1) (y2) (x3) (by omega) (by omega) (by rw [bsM, ← gx]; simp only [if_neg c_5])
            ·
              have c_5 := Decidable.of_not_not c_5
              exact absurd c_5 c_4
          ·
            have c_4 := Decidable.of_not_not c_4
            refine y_iload X dX5_bestSeason_49 5 rfl ?_
            refine y_goto X 55 dX5_bestSeason_51 (by decide) ?_
            refine y_istore_n X [(2, .int (nI (k + 1))), (5, .int (lsA T (k + 1))), (0, .ref (E.2.1 (61))), (1, .int w), (3, .int x3), (4, .int (nI (k + 1)))] dX5_bestSeason_55 rfl (by decide) rfl ?_
            refine y_iload X dX5_bestSeason_56 1 rfl ?_
            refine y_iload_n X dX5_bestSeason_58 4 rfl ?_
            refine y_icmp_gt X 67 (¬ (lsA T (k + 1)) ≤ x3) dX5_bestSeason_59 (by decide) Int32.not_le.symm (fun c_6 => ?_) (fun c_6 => ?_)
            ·
              exact absurd c_4 c_6
            ·
              have c_6 := Decidable.of_not_not c_6
              refine y_iload X dX5_bestSeason_62 1 rfl ?_
              refine y_goto X 68 dX5_bestSeason_64 (by decide) ?_
              refine y_istore_n X [(3, .int (lsA T (k + 1))), (2, .int (nI (k + 1))), (5, .int (lsA T (k + 1))), (0, .ref (E.2.1 (61))), (1, .int w), (4, .int (nI (k + 1)))] dX5_bestSeason_68 rfl (by decide) rfl ?_
              refine y_iinc X [(4, .int (nI (k + 1 + 1))), (3, .int (lsA T (k + 1))), (2, .int (nI (k + 1))), (5, .int (lsA T (k + 1))), (0, .ref (E.2.1 (61))), (1, .int w)] dX5_bestSeason_69 5 rfl (nI_1 _) (by decide) rfl ?_
              refine y_goto X 24 dX5_bestSeason_72 (by decide) ?_
              refine y_pick [4, 5, 2, 1, 0] [(0, .ref (E.2.1 (61))), (1, .int w), (2, .int (nI (k + 1))), (3, .int (lsA T (k + 1))), (4, .int (nI (k + 1 + 1)))] rfl ?_
              exact ih24 (k + 1) (k + 1) ((lsA T (k + 1))) (by omega) (by omega) (by rw [bsM, ← gx]; simp only [if_pos c_6])
    refine y_pick [3, 4, 2, 1, 0] [(0, .ref (E.2.1 (61))), (1, .int w), (2, .int (0)), (3, .int (lsA T (0))), (4, .int (1))] rfl ?_
    exact L_24 _ (0) (0) ((lsA T 0)) (Nat.lt_succ_self _) (by omega) rfl
  ·
    refine y_sipush X (v := (-10002)) dX5_bestSeason_9 (by decide) ?_
    exact y_iret X hr dX5_bestSeason_12 rfl ⟨congrArg (fun z => some (Value.int z)) (show (-10002) = rBs T w by rw [rBs, if_neg c_1]), rfl⟩

set_option maxRecDepth 100000 in
set_option maxHeartbeats 4000000 in
theorem c_X5_count {l : Launch} {E : xE} {C : xC} {T : Tb} {hh : Nat → Tb} {hn : Nat} {sn : Option Tb} {tx : Nat → Int32} {ln : Nat} {sp : Option (Nat × Int32)} (gM : MX E C T hh hn sn tx ln sp) (gW : WX T hh hn sn tx ln sp) {w : Int32} : xR E l yX5_count wsX5_count 5 116 [.ref (E.2.1 (61)), .int w] C (rCt T hn ln w) := by
  obtain ⟨zf, zt, zp, zs, zx, zl, pa, va, tl, m0, h2, h3, h4, h5, h6, h7, gRT, gPH, gSN, gTX⟩ := id gM
  obtain ⟨gv, gn4, gWH, gWS, gl80, gch, gsp⟩ := id gW
  have gT : RM E C 62 T := ⟨zf, h2, gRT⟩
  obtain ⟨gw1, gw2, gw3, gw4⟩ := id gv.1
  refine xM_ofY (cc := cX5_count) (maxL := 2) (ret := (some .int)) (by decide) rfl (Nat.le_of_ble_eq_true rfl) ?_
  intro p e s m args below meth c X hr
  have inX5 : ∀ w ∈ wsX50, w ∈ wsX5_count := by decide +kernel
  refine y_lv [(0, .ref (E.2.1 (61))), (1, .int w)] rfl ?_
  refine y_iload_n X dX5_count_0 1 rfl ?_
  by_cases e1_0 : w = 0
  ·
    subst e1_0
    refine y_tableIn X 52 (off := 51) dX5_count_1 (by decide) (by decide) (by decide) (by decide) ?_
    refine y_aload_n X dX5_count_52 0 rfl ?_
    refine y_get X (61) 5 0 (Cn := RX5) (T := TX5) (N := 14) (index := 7) (v := .ref (E.2.1 (62))) dX5_count_53 (by omega) m0 rfl (by decide) inX5 (by decide +kernel : Cond.fieldLink RX5 7 "ColumnSeasonsModel" "now" "[I" ∈ wsX5_count) rfl rfl ?_
    refine y_iconst X (v := (0)) dX5_count_56 (by decide) ?_
    refine y_iald X (62) dX5_count_57 (by omega) h2 (j := 0) rfl (by omega) (by omega) (z := (nI (tn T))) gRT.1 ?_
    refine y_iconst X (v := (1)) dX5_count_58 (by decide) ?_
    refine y_isub X (z := (nI ((tn T) - (1)))) dX5_count_59 (pk_sub (a := tn T) (b := 1) (by omega)) ?_
    exact y_iret X hr dX5_count_60 rfl ⟨congrArg (fun z => some (Value.int z)) (show (nI ((tn T) - (1))) = rCt T hn ln (0) by rw [rCt, if_pos rfl]), rfl⟩
  by_cases e1_1 : w = 1
  ·
    subst e1_1
    refine y_tableIn X 61 (off := 60) dX5_count_1 (by decide) (by decide) (by decide) (by decide) ?_
    refine y_aload_n X dX5_count_61 0 rfl ?_
    refine y_get X (61) 5 0 (Cn := RX5) (T := TX5) (N := 14) (index := 7) (v := .ref (E.2.1 (62))) dX5_count_62 (by omega) m0 rfl (by decide) inX5 (by decide +kernel : Cond.fieldLink RX5 7 "ColumnSeasonsModel" "now" "[I" ∈ wsX5_count) rfl rfl ?_
    refine y_aload_n X dX5_count_65 0 rfl ?_
    refine y_get X (61) 5 0 (Cn := RX5) (T := TX5) (N := 14) (index := 7) (v := .ref (E.2.1 (62))) dX5_count_66 (by omega) m0 rfl (by decide) inX5 (by decide +kernel : Cond.fieldLink RX5 7 "ColumnSeasonsModel" "now" "[I" ∈ wsX5_count) rfl rfl ?_
    refine y_iconst X (v := (0)) dX5_count_69 (by decide) ?_
    refine y_iald X (62) dX5_count_70 (by omega) h2 (j := 0) rfl (by omega) (by omega) (z := (nI (tn T))) gRT.1 ?_
    refine y_iconst X (v := (1)) dX5_count_71 (by decide) ?_
    refine y_isub X (z := (nI ((tn T) - (1)))) dX5_count_72 (pk_sub (a := tn T) (b := 1) (by omega)) ?_
    refine y_callJr X (av := [.ref (E.2.1 (62)), .int (nI ((tn T) - (1)))]) [] 2 (c_X5_names (a := 62) (by omega) gT gv (q := (tn T) - (1)) (by omega)) gX5_count_X5_names rfl (by decide +kernel) rfl ⟨Nat.le_of_ble_eq_true rfl, Nat.le_of_ble_eq_true rfl⟩ ⟨Nat.zero_le _, Nat.zero_le _⟩ (Nat.le_of_ble_eq_true rfl) rfl dX5_count_73 ?_
    refine y_callJr X (av := [.int (nmS T ((tn T) - (1)))]) [] 1 (c_X5_ones (x := (nmS T ((tn T) - (1)))) (by first | exact m8_nmS | exact m8_shN)) gX5_count_X5_ones rfl (by decide +kernel) rfl ⟨Nat.le_of_ble_eq_true rfl, Nat.le_of_ble_eq_true rfl⟩ ⟨Nat.zero_le _, Nat.zero_le _⟩ (Nat.le_of_ble_eq_true rfl) rfl dX5_count_76 ?_
    exact y_iret X hr dX5_count_79 rfl ⟨congrArg (fun z => some (Value.int z)) (show (bcn (nmS T ((tn T) - (1)))) = rCt T hn ln (1) by rw [rCt, if_neg (by decide), if_pos rfl]), rfl⟩
  by_cases e1_2 : w = 2
  ·
    subst e1_2
    refine y_tableIn X 80 (off := 79) dX5_count_1 (by decide) (by decide) (by decide) (by decide) ?_
    refine y_aload_n X dX5_count_80 0 rfl ?_
    refine y_get X (61) 5 0 (Cn := RX5) (T := TX5) (N := 14) (index := 7) (v := .ref (E.2.1 (62))) dX5_count_81 (by omega) m0 rfl (by decide) inX5 (by decide +kernel : Cond.fieldLink RX5 7 "ColumnSeasonsModel" "now" "[I" ∈ wsX5_count) rfl rfl ?_
    refine y_iconst X (v := (1)) dX5_count_84 (by decide) ?_
    refine y_iald X (62) dX5_count_85 (by omega) h2 (j := 1) rfl (by omega) (by omega) (z := (nI (tr T))) gRT.2.1 ?_
    exact y_iret X hr dX5_count_86 rfl ⟨congrArg (fun z => some (Value.int z)) (show (nI (tr T)) = rCt T hn ln (2) by rw [rCt, if_neg (by decide), if_neg (by decide), if_pos rfl]), rfl⟩
  by_cases e1_3 : w = 3
  ·
    subst e1_3
    refine y_tableIn X 87 (off := 86) dX5_count_1 (by decide) (by decide) (by decide) (by decide) ?_
    refine y_aload_n X dX5_count_87 0 rfl ?_
    refine y_aload_n X dX5_count_88 0 rfl ?_
    refine y_get X (61) 5 0 (Cn := RX5) (T := TX5) (N := 14) (index := 7) (v := .ref (E.2.1 (62))) dX5_count_89 (by omega) m0 rfl (by decide) inX5 (by decide +kernel : Cond.fieldLink RX5 7 "ColumnSeasonsModel" "now" "[I" ∈ wsX5_count) rfl rfl ?_
    refine y_iconst X (v := (0)) dX5_count_92 (by decide) ?_
    refine y_iald X (62) dX5_count_93 (by omega) h2 (j := 0) rfl (by omega) (by omega) (z := (nI (tn T))) gRT.1 ?_
    refine y_iconst X (v := (1)) dX5_count_94 (by decide) ?_
    refine y_isub X (z := (nI ((tn T) - (1)))) dX5_count_95 (pk_sub (a := tn T) (b := 1) (by omega)) ?_
    refine y_callVr X (61) 5 (av := [.int (nI ((tn T) - (1)))]) [] 1 (c_X5_wearers m0 gT gv (q := (tn T) - (1))) (by omega) m0 rfl gX5_count_X5_wearers rfl (by decide +kernel) rfl ⟨Nat.le_of_ble_eq_true rfl, Nat.le_of_ble_eq_true rfl⟩ ⟨Nat.zero_le _, Nat.zero_le _⟩ (Nat.le_of_ble_eq_true rfl) rfl dX5_count_96 ?_
    exact y_iret X hr dX5_count_99 rfl ⟨congrArg (fun z => some (Value.int z)) (show (wear T ((tn T) - (1))) = rCt T hn ln (3) by rw [rCt, if_neg (by decide), if_neg (by decide), if_neg (by decide), if_pos rfl]), rfl⟩
  by_cases e1_4 : w = 4
  ·
    subst e1_4
    refine y_tableIn X 100 (off := 99) dX5_count_1 (by decide) (by decide) (by decide) (by decide) ?_
    refine y_aload_n X dX5_count_100 0 rfl ?_
    refine y_callVr X (61) 5 (av := []) [] 0 (c_X5_allValues m0 gT gv ) (by omega) m0 rfl gX5_count_X5_allValues rfl (by decide +kernel) rfl ⟨Nat.le_of_ble_eq_true rfl, Nat.le_of_ble_eq_true rfl⟩ ⟨Nat.zero_le _, Nat.zero_le _⟩ (Nat.le_of_ble_eq_true rfl) rfl dX5_count_101 ?_
    exact y_iret X hr dX5_count_104 rfl ⟨congrArg (fun z => some (Value.int z)) (show (allV T) = rCt T hn ln (4) by rw [rCt, if_neg (by decide), if_neg (by decide), if_neg (by decide), if_neg (by decide), if_pos rfl]), rfl⟩
  by_cases e1_5 : w = 5
  ·
    subst e1_5
    refine y_tableIn X 105 (off := 104) dX5_count_1 (by decide) (by decide) (by decide) (by decide) ?_
    refine y_aload_n X dX5_count_105 0 rfl ?_
    refine y_aload_n X dX5_count_106 0 rfl ?_
    refine y_get X (61) 5 0 (Cn := RX5) (T := TX5) (N := 14) (index := 7) (v := .ref (E.2.1 (62))) dX5_count_107 (by omega) m0 rfl (by decide) inX5 (by decide +kernel : Cond.fieldLink RX5 7 "ColumnSeasonsModel" "now" "[I" ∈ wsX5_count) rfl rfl ?_
    refine y_iconst X (v := (0)) dX5_count_110 (by decide) ?_
    refine y_iald X (62) dX5_count_111 (by omega) h2 (j := 0) rfl (by omega) (by omega) (z := (nI (tn T))) gRT.1 ?_
    refine y_iconst X (v := (1)) dX5_count_112 (by decide) ?_
    refine y_isub X (z := (nI ((tn T) - (1)))) dX5_count_113 (pk_sub (a := tn T) (b := 1) (by omega)) ?_
    refine y_callVr X (61) 5 (av := [.int (nI ((tn T) - (1)))]) [] 1 (c_X5_allLosses m0 gT gv (q := (tn T) - (1)) (by omega)) (by omega) m0 rfl gX5_count_X5_allLosses rfl (by decide +kernel) rfl ⟨Nat.le_of_ble_eq_true rfl, Nat.le_of_ble_eq_true rfl⟩ ⟨Nat.zero_le _, Nat.zero_le _⟩ (Nat.le_of_ble_eq_true rfl) rfl dX5_count_114 ?_
    exact y_iret X hr dX5_count_117 rfl ⟨congrArg (fun z => some (Value.int z)) (show (lsA T ((tn T) - (1))) = rCt T hn ln (5) by rw [rCt, if_neg (by decide), if_neg (by decide), if_neg (by decide), if_neg (by decide), if_neg (by decide), if_pos rfl]), rfl⟩
  by_cases e1_6 : w = 6
  ·
    subst e1_6
    refine y_tableIn X 118 (off := 117) dX5_count_1 (by decide) (by decide) (by decide) (by decide) ?_
    refine y_aload_n X dX5_count_118 0 rfl ?_
    refine y_callVr X (61) 5 (av := []) [] 0 (c_X5_everNames m0 gT gv ) (by omega) m0 rfl gX5_count_X5_everNames rfl (by decide +kernel) rfl ⟨Nat.le_of_ble_eq_true rfl, Nat.le_of_ble_eq_true rfl⟩ ⟨Nat.zero_le _, Nat.zero_le _⟩ (Nat.le_of_ble_eq_true rfl) rfl dX5_count_119 ?_
    exact y_iret X hr dX5_count_122 rfl ⟨congrArg (fun z => some (Value.int z)) (show (evN T) = rCt T hn ln (6) by rw [rCt, if_neg (by decide), if_neg (by decide), if_neg (by decide), if_neg (by decide), if_neg (by decide), if_neg (by decide), if_pos rfl]), rfl⟩
  by_cases e1_7 : w = 7
  ·
    subst e1_7
    refine y_tableIn X 123 (off := 122) dX5_count_1 (by decide) (by decide) (by decide) (by decide) ?_
    refine y_aload_n X dX5_count_123 0 rfl ?_
    refine y_get X (61) 5 3 (Cn := RX5) (T := TX5) (N := 14) (index := 39) (v := .int (nI (hn))) dX5_count_124 (by omega) m0 rfl (by decide) inX5 (by decide +kernel : Cond.fieldLink RX5 39 "ColumnSeasonsModel" "kept" "I" ∈ wsX5_count) rfl rfl ?_
    exact y_iret X hr dX5_count_127 rfl ⟨congrArg (fun z => some (Value.int z)) (show (nI (hn)) = rCt T hn ln (7) by rw [rCt, if_neg (by decide), if_neg (by decide), if_neg (by decide), if_neg (by decide), if_neg (by decide), if_neg (by decide), if_neg (by decide), if_pos rfl]), rfl⟩
  by_cases e1_8 : w = 8
  ·
    subst e1_8
    refine y_tableIn X 128 (off := 127) dX5_count_1 (by decide) (by decide) (by decide) (by decide) ?_
    refine y_aload_n X dX5_count_128 0 rfl ?_
    refine y_get X (61) 5 7 (Cn := RX5) (T := TX5) (N := 14) (index := 128) (v := .int (nI (ln))) dX5_count_129 (by omega) m0 rfl (by decide) inX5 (by decide +kernel : Cond.fieldLink RX5 128 "ColumnSeasonsModel" "typed" "I" ∈ wsX5_count) rfl rfl ?_
    exact y_iret X hr dX5_count_132 rfl ⟨congrArg (fun z => some (Value.int z)) (show (nI (ln)) = rCt T hn ln (8) by rw [rCt, if_neg (by decide), if_neg (by decide), if_neg (by decide), if_neg (by decide), if_neg (by decide), if_neg (by decide), if_neg (by decide), if_neg (by decide), if_pos rfl]), rfl⟩
  ·
    have t1_0 : ¬ (w).toInt = 0 := fun z => e1_0 (Int32.toInt_inj.mp (z.trans (by decide)))
    have t1_1 : ¬ (w).toInt = 1 := fun z => e1_1 (Int32.toInt_inj.mp (z.trans (by decide)))
    have t1_2 : ¬ (w).toInt = 2 := fun z => e1_2 (Int32.toInt_inj.mp (z.trans (by decide)))
    have t1_3 : ¬ (w).toInt = 3 := fun z => e1_3 (Int32.toInt_inj.mp (z.trans (by decide)))
    have t1_4 : ¬ (w).toInt = 4 := fun z => e1_4 (Int32.toInt_inj.mp (z.trans (by decide)))
    have t1_5 : ¬ (w).toInt = 5 := fun z => e1_5 (Int32.toInt_inj.mp (z.trans (by decide)))
    have t1_6 : ¬ (w).toInt = 6 := fun z => e1_6 (Int32.toInt_inj.mp (z.trans (by decide)))
    have t1_7 : ¬ (w).toInt = 7 := fun z => e1_7 (Int32.toInt_inj.mp (z.trans (by decide)))
    have t1_8 : ¬ (w).toInt = 8 := fun z => e1_8 (Int32.toInt_inj.mp (z.trans (by decide)))
    refine y_tableOut X 133 dX5_count_1 (by omega) (by decide) ?_
    refine y_sipush X (v := (-10002)) dX5_count_133 (by decide) ?_
    exact y_iret X hr dX5_count_136 rfl ⟨congrArg (fun z => some (Value.int z)) (show (-10002) = rCt T hn ln w by rw [rCt, if_neg e1_0, if_neg e1_1, if_neg e1_2, if_neg e1_3, if_neg e1_4, if_neg e1_5, if_neg e1_6, if_neg e1_7, if_neg e1_8]), rfl⟩
