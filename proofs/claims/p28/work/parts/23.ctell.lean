set_option maxRecDepth 100000 in
set_option maxHeartbeats 4000000 in
theorem c_X4_column {l : Launch} {E : xE} {C : xC} {T : Tb} {hh : Nat → Tb} {hn : Nat} {sn : Option Tb} {tx : Nat → Int32} {ln : Nat} {sp : Option (Nat × Int32)} (gC : CX E C T hh hn sn tx ln sp) (gW : WX T hh hn sn tx ln sp) {x y w : Int32} : xR E l yX4_column wsX4_column 1 22 [.ref (E.2.1 (0)), .int x, .int y, .int w] C (rCol T x y w) := by
  obtain ⟨o, sl, cm, xt, cc, pl, nu, h0, h6, h7, h38, h39, h40, go5, gSL, gCM, gT, gRG, gSN0, gSN, gTX, gCD⟩ := id gC
  obtain ⟨gv, gn4, gWH, gWS, gl80, gch, gsp⟩ := id gW
  have gw := gv.1
  obtain ⟨gw1, gw2, gw3, gw4⟩ := id gv.1
  obtain ⟨zK, zD, zS, zV, h1, -, -, -, -, -⟩ := id gT
  refine xM_ofY (cc := cX4_column) (maxL := 5) (ret := (some .int)) (by decide) rfl (Nat.le_of_ble_eq_true rfl) ?_
  intro p e s m args below meth c X hr
  have inX4 : ∀ w ∈ wsX40, w ∈ wsX4_column := by decide +kernel
  refine y_lv [(0, .ref (E.2.1 (0))), (1, .int x), (2, .int y), (3, .int w)] rfl ?_
  refine y_aload_n X dX4_column_0 0 rfl ?_
  refine y_get X (0) 4 0 (Cn := RX4) (T := TX4) (N := 7) (index := 10) (v := .ref (E.2.1 (1))) dX4_column_1 (by omega) h0 rfl (by decide) inX4 (by decide +kernel : Cond.fieldLink RX4 10 "ColumnSeasons" "table" "LColumnSeasons$Table;" ∈ wsX4_column) rfl rfl ?_
  refine y_iload_n X dX4_column_4 1 rfl ?_
  refine y_callVr X (1) 3 (av := [.int x]) [] 1 (c_X3_isSeason (b := 1) (by omega) gT gw (x := x)) (by omega) h1 rfl gX4_column_X3_isSeason rfl (by decide +kernel) rfl ⟨Nat.le_of_ble_eq_true rfl, Nat.le_of_ble_eq_true rfl⟩ ⟨Nat.zero_le _, Nat.zero_le _⟩ (Nat.le_of_ble_eq_true rfl) rfl dX4_column_5 ?_
  refine y_if_eq X 18 (¬ (xin x (tn T))) dX4_column_8 (by decide) bI_eq (fun c_1 => ?_) (fun c_1 => ?_)
  ·
    refine y_sipush X (v := (-10001)) dX4_column_18 (by decide) ?_
    exact y_iret X hr dX4_column_21 rfl ⟨congrArg (fun z => some (Value.int z)) (show (-10001) = rCol T x y w by rw [rCol, if_neg (fun z => c_1 z.1)]), rfl⟩
  ·
    have c_1 := Decidable.of_not_not c_1
    obtain ⟨q, gq, geq⟩ := xin_of c_1 (by omega)
    subst geq
    refine y_iload_n X dX4_column_11 2 rfl ?_
    refine y_callJr X (av := [.int y]) [] 1 (c_X4_isName (x := y)) gX4_column_X4_isName rfl (by decide +kernel) rfl ⟨Nat.le_of_ble_eq_true rfl, Nat.le_of_ble_eq_true rfl⟩ ⟨Nat.zero_le _, Nat.zero_le _⟩ (Nat.le_of_ble_eq_true rfl) rfl dX4_column_12 ?_
    refine y_if_ne X 22 (xin y 8) dX4_column_15 (by decide) bI_ne (fun c_2 => ?_) (fun c_2 => ?_)
    ·
      obtain ⟨j, gj, gej⟩ := xin_of c_2 (by decide)
      subst gej
      refine y_iload_n X dX4_column_22 3 rfl ?_
      refine y_if_lt X 31 ((w).toInt < (0 : Int)) dX4_column_23 (by decide) (cLt rfl (by decide)) (fun c_3 => ?_) (fun c_3 => ?_)
      ·
        have gwn : ¬ xin w 2 := fun z9 => by have z8 := z9.1; have z7 := z9.2; omega
        refine y_sipush X (v := (-10002)) dX4_column_31 (by decide) ?_
        exact y_iret X hr dX4_column_34 rfl ⟨congrArg (fun z => some (Value.int z)) (show (-10002) = rCol T (nI q) (nI j) w by rw [rCol, if_pos ⟨c_1, c_2⟩, if_neg gwn]), rfl⟩
      ·
        refine y_iload_n X dX4_column_26 3 rfl ?_
        refine y_iconst X (v := (1)) dX4_column_27 (by decide) ?_
        refine y_icmp_le X 35 ((w).toInt ≤ (1 : Int)) dX4_column_28 (by decide) (cLe rfl (by decide)) (fun c_4 => ?_) (fun c_4 => ?_)
        ·
          have gwx : xin w 2 := ⟨by omega, by omega⟩
          refine y_aload_n X dX4_column_35 0 rfl ?_
          refine y_get X (0) 4 0 (Cn := RX4) (T := TX4) (N := 7) (index := 10) (v := .ref (E.2.1 (1))) dX4_column_36 (by omega) h0 rfl (by decide) inX4 (by decide +kernel : Cond.fieldLink RX4 10 "ColumnSeasons" "table" "LColumnSeasons$Table;" ∈ wsX4_column) rfl rfl ?_
          refine y_iload_n X dX4_column_39 1 rfl ?_
          refine y_iload_n X dX4_column_40 2 rfl ?_
          refine y_callVr X (1) 3 (av := [.int (nI (q)), .int (nI (j))]) [] 2 (c_X3_kindIn (b := 1) (by omega) gT gw (q := q) (j := j) (by omega) (by omega)) (by omega) h1 rfl gX4_column_X3_kindIn rfl (by decide +kernel) rfl ⟨Nat.le_of_ble_eq_true rfl, Nat.le_of_ble_eq_true rfl⟩ ⟨Nat.zero_le _, Nat.zero_le _⟩ (Nat.le_of_ble_eq_true rfl) rfl dX4_column_41 ?_
          refine y_istore X [(4, .int (tk T (q) (j))), (0, .ref (E.2.1 (0))), (1, .int (nI (q))), (2, .int (nI (j))), (3, .int w)] dX4_column_44 (by decide) rfl ?_
          refine y_iload X dX4_column_46 0 rfl ?_
          refine y_iconst X (v := (-1)) dX4_column_48 (by decide) ?_
          refine y_icmp_ne X 56 (¬ ((tk T (q) (j)) = (-1))) dX4_column_49 (by decide) Iff.rfl (fun c_5 => ?_) (fun c_5 => ?_)
          ·
            refine y_iload_n X dX4_column_56 4 rfl ?_
            refine y_if_ne X 65 (¬ (w = (0))) dX4_column_57 (by decide) Iff.rfl (fun c_6 => ?_) (fun c_6 => ?_)
            ·
              refine y_aload_n X dX4_column_65 1 rfl ?_
              refine y_get X (0) 4 0 (Cn := RX4) (T := TX4) (N := 7) (index := 10) (v := .ref (E.2.1 (1))) dX4_column_66 (by omega) h0 rfl (by decide) inX4 (by decide +kernel : Cond.fieldLink RX4 10 "ColumnSeasons" "table" "LColumnSeasons$Table;" ∈ wsX4_column) rfl rfl ?_
              refine y_iload_n X dX4_column_69 2 rfl ?_
              refine y_iload_n X dX4_column_70 3 rfl ?_
              refine y_callVr X (1) 3 (av := [.int (nI (q)), .int (nI (j))]) [] 2 (c_X3_standardIn (b := 1) (by omega) gT gw (q := q) (j := j) (by omega) (by omega)) (by omega) h1 rfl gX4_column_X3_standardIn rfl (by decide +kernel) rfl ⟨Nat.le_of_ble_eq_true rfl, Nat.le_of_ble_eq_true rfl⟩ ⟨Nat.zero_le _, Nat.zero_le _⟩ (Nat.le_of_ble_eq_true rfl) rfl dX4_column_71 ?_
              exact y_iret X hr dX4_column_74 rfl ⟨congrArg (fun z => some (Value.int z)) (show (td T (q) (j)) = rCol T (nI q) (nI j) w by rw [rCol, if_pos ⟨c_1, c_2⟩, if_pos gwx, ix_nI (by omega), ix_nI (by omega), if_neg c_5, if_neg c_6]), rfl⟩
            ·
              have c_6 := Decidable.of_not_not c_6
              refine y_iload X dX4_column_60 0 rfl ?_
              refine y_goto X 74 dX4_column_62 (by decide) ?_
              exact y_iret X hr dX4_column_74 rfl ⟨congrArg (fun z => some (Value.int z)) (show (tk T (q) (j)) = rCol T (nI q) (nI j) w by rw [rCol, if_pos ⟨c_1, c_2⟩, if_pos gwx, ix_nI (by omega), ix_nI (by omega), if_neg c_5, if_pos c_6]), rfl⟩
          ·
            have c_5 := Decidable.of_not_not c_5
            refine y_sipush X (v := (-10005)) dX4_column_52 (by decide) ?_
            exact y_iret X hr dX4_column_55 rfl ⟨congrArg (fun z => some (Value.int z)) (show (-10005) = rCol T (nI q) (nI j) w by rw [rCol, if_pos ⟨c_1, c_2⟩, if_pos gwx, ix_nI (by omega), ix_nI (by omega), if_pos c_5]), rfl⟩
        ·
          have gwn : ¬ xin w 2 := fun z9 => by have z8 := z9.1; have z7 := z9.2; omega
          refine y_sipush X (v := (-10002)) dX4_column_31 (by decide) ?_
          exact y_iret X hr dX4_column_34 rfl ⟨congrArg (fun z => some (Value.int z)) (show (-10002) = rCol T (nI q) (nI j) w by rw [rCol, if_pos ⟨c_1, c_2⟩, if_neg gwn]), rfl⟩
    ·
      refine y_sipush X (v := (-10001)) dX4_column_18 (by decide) ?_
      exact y_iret X hr dX4_column_21 rfl ⟨congrArg (fun z => some (Value.int z)) (show (-10001) = rCol T (nI q) y w by rw [rCol, if_neg (fun z => c_2 z.2)]), rfl⟩

set_option maxRecDepth 100000 in
set_option maxHeartbeats 4000000 in
theorem c_X4_season {l : Launch} {E : xE} {C : xC} {T : Tb} {hh : Nat → Tb} {hn : Nat} {sn : Option Tb} {tx : Nat → Int32} {ln : Nat} {sp : Option (Nat × Int32)} (gC : CX E C T hh hn sn tx ln sp) (gW : WX T hh hn sn tx ln sp) {x w : Int32} : xR E l yX4_season wsX4_season 2 46 [.ref (E.2.1 (0)), .int x, .int w] C (rSea T x w) := by
  obtain ⟨o, sl, cm, xt, cc, pl, nu, h0, h6, h7, h38, h39, h40, go5, gSL, gCM, gT, gRG, gSN0, gSN, gTX, gCD⟩ := id gC
  obtain ⟨gv, gn4, gWH, gWS, gl80, gch, gsp⟩ := id gW
  have gw := gv.1
  obtain ⟨gw1, gw2, gw3, gw4⟩ := id gv.1
  obtain ⟨zK, zD, zS, zV, h1, -, -, -, -, -⟩ := id gT
  refine xM_ofY (cc := cX4_season) (maxL := 3) (ret := (some .int)) (by decide) rfl (Nat.le_of_ble_eq_true rfl) ?_
  intro p e s m args below meth c X hr
  have inX4 : ∀ w ∈ wsX40, w ∈ wsX4_season := by decide +kernel
  refine y_lv [(0, .ref (E.2.1 (0))), (1, .int x), (2, .int w)] rfl ?_
  refine y_aload_n X dX4_season_0 0 rfl ?_
  refine y_get X (0) 4 0 (Cn := RX4) (T := TX4) (N := 7) (index := 10) (v := .ref (E.2.1 (1))) dX4_season_1 (by omega) h0 rfl (by decide) inX4 (by decide +kernel : Cond.fieldLink RX4 10 "ColumnSeasons" "table" "LColumnSeasons$Table;" ∈ wsX4_season) rfl rfl ?_
  refine y_iload_n X dX4_season_4 1 rfl ?_
  refine y_callVr X (1) 3 (av := [.int x]) [] 1 (c_X3_isSeason (b := 1) (by omega) gT gw (x := x)) (by omega) h1 rfl gX4_season_X3_isSeason rfl (by decide +kernel) rfl ⟨Nat.le_of_ble_eq_true rfl, Nat.le_of_ble_eq_true rfl⟩ ⟨Nat.zero_le _, Nat.zero_le _⟩ (Nat.le_of_ble_eq_true rfl) rfl dX4_season_5 ?_
  refine y_if_ne X 15 (xin x (tn T)) dX4_season_8 (by decide) bI_ne (fun c_1 => ?_) (fun c_1 => ?_)
  ·
    obtain ⟨q, gq, geq⟩ := xin_of c_1 (by omega)
    subst geq
    refine y_iload_n X dX4_season_15 2 rfl ?_
    by_cases e16_0 : w = 0
    ·
      subst e16_0
      refine y_tableIn X 48 (off := 32) dX4_season_16 (by decide) (by decide) (by decide) (by decide) ?_
      refine y_aload_n X dX4_season_48 0 rfl ?_
      refine y_get X (0) 4 0 (Cn := RX4) (T := TX4) (N := 7) (index := 10) (v := .ref (E.2.1 (1))) dX4_season_49 (by omega) h0 rfl (by decide) inX4 (by decide +kernel : Cond.fieldLink RX4 10 "ColumnSeasons" "table" "LColumnSeasons$Table;" ∈ wsX4_season) rfl rfl ?_
      refine y_iload_n X dX4_season_52 1 rfl ?_
      refine y_callVr X (1) 3 (av := [.int (nI (q))]) [] 1 (c_X3_namesIn (b := 1) (by omega) gT gw (q := q) (by omega)) (by omega) h1 rfl gX4_season_X3_namesIn rfl (by decide +kernel) rfl ⟨Nat.le_of_ble_eq_true rfl, Nat.le_of_ble_eq_true rfl⟩ ⟨Nat.zero_le _, Nat.zero_le _⟩ (Nat.le_of_ble_eq_true rfl) rfl dX4_season_53 ?_
      refine y_callJr X (av := [.int (nmS T (q))]) [] 1 (c_J6_bitCount_0f7a4 (x := (nmS T (q)))) gX4_season_J6_bitCount_0f7a4 rfl (by decide +kernel) rfl ⟨Nat.le_of_ble_eq_true rfl, Nat.le_of_ble_eq_true rfl⟩ ⟨Nat.zero_le _, Nat.zero_le _⟩ (Nat.le_of_ble_eq_true rfl) rfl dX4_season_56 ?_
      exact y_iret X hr dX4_season_59 rfl ⟨congrArg (fun z => some (Value.int z)) (show (bcn (nmS T (q))) = rSea T (nI q) (0) by rw [rSea, if_pos c_1, if_pos rfl, ix_nI (by omega)]), rfl⟩
    by_cases e16_1 : w = 1
    ·
      subst e16_1
      refine y_tableIn X 60 (off := 44) dX4_season_16 (by decide) (by decide) (by decide) (by decide) ?_
      refine y_aload_n X dX4_season_60 0 rfl ?_
      refine y_get X (0) 4 0 (Cn := RX4) (T := TX4) (N := 7) (index := 10) (v := .ref (E.2.1 (1))) dX4_season_61 (by omega) h0 rfl (by decide) inX4 (by decide +kernel : Cond.fieldLink RX4 10 "ColumnSeasons" "table" "LColumnSeasons$Table;" ∈ wsX4_season) rfl rfl ?_
      refine y_iload_n X dX4_season_64 1 rfl ?_
      refine y_callVr X (1) 3 (av := [.int (nI (q))]) [] 1 (c_X3_namesIn (b := 1) (by omega) gT gw (q := q) (by omega)) (by omega) h1 rfl gX4_season_X3_namesIn rfl (by decide +kernel) rfl ⟨Nat.le_of_ble_eq_true rfl, Nat.le_of_ble_eq_true rfl⟩ ⟨Nat.zero_le _, Nat.zero_le _⟩ (Nat.le_of_ble_eq_true rfl) rfl dX4_season_65 ?_
      exact y_iret X hr dX4_season_68 rfl ⟨congrArg (fun z => some (Value.int z)) (show (nmS T (q)) = rSea T (nI q) (1) by rw [rSea, if_pos c_1, if_neg (by decide), if_pos rfl, ix_nI (by omega)]), rfl⟩
    by_cases e16_2 : w = 2
    ·
      subst e16_2
      refine y_tableIn X 69 (off := 53) dX4_season_16 (by decide) (by decide) (by decide) (by decide) ?_
      refine y_aload_n X dX4_season_69 0 rfl ?_
      refine y_get X (0) 4 0 (Cn := RX4) (T := TX4) (N := 7) (index := 10) (v := .ref (E.2.1 (1))) dX4_season_70 (by omega) h0 rfl (by decide) inX4 (by decide +kernel : Cond.fieldLink RX4 10 "ColumnSeasons" "table" "LColumnSeasons$Table;" ∈ wsX4_season) rfl rfl ?_
      refine y_iload_n X dX4_season_73 1 rfl ?_
      refine y_callVr X (1) 3 (av := [.int (nI (q))]) [] 1 (c_X3_rowsOfSeason (b := 1) (by omega) gT gw (q := q) (by omega)) (by omega) h1 rfl gX4_season_X3_rowsOfSeason rfl (by decide +kernel) rfl ⟨Nat.le_of_ble_eq_true rfl, Nat.le_of_ble_eq_true rfl⟩ ⟨Nat.zero_le _, Nat.zero_le _⟩ (Nat.le_of_ble_eq_true rfl) rfl dX4_season_74 ?_
      exact y_iret X hr dX4_season_77 rfl ⟨congrArg (fun z => some (Value.int z)) (show (wear T (q)) = rSea T (nI q) (2) by rw [rSea, if_pos c_1, if_neg (by decide), if_neg (by decide), if_pos rfl, ix_nI (by omega)]), rfl⟩
    by_cases e16_3 : w = 3
    ·
      subst e16_3
      refine y_tableIn X 78 (off := 62) dX4_season_16 (by decide) (by decide) (by decide) (by decide) ?_
      refine y_aload_n X dX4_season_78 0 rfl ?_
      refine y_get X (0) 4 0 (Cn := RX4) (T := TX4) (N := 7) (index := 10) (v := .ref (E.2.1 (1))) dX4_season_79 (by omega) h0 rfl (by decide) inX4 (by decide +kernel : Cond.fieldLink RX4 10 "ColumnSeasons" "table" "LColumnSeasons$Table;" ∈ wsX4_season) rfl rfl ?_
      refine y_iload_n X dX4_season_82 1 rfl ?_
      refine y_callVr X (1) 3 (av := [.int (nI (q))]) [] 1 (c_X3_newColumnsIn (b := 1) (by omega) gT gw (q := q) (by omega)) (by omega) h1 rfl gX4_season_X3_newColumnsIn rfl (by decide +kernel) rfl ⟨Nat.le_of_ble_eq_true rfl, Nat.le_of_ble_eq_true rfl⟩ ⟨Nat.zero_le _, Nat.zero_le _⟩ (Nat.le_of_ble_eq_true rfl) rfl dX4_season_83 ?_
      exact y_iret X hr dX4_season_86 rfl ⟨congrArg (fun z => some (Value.int z)) (show (newC T (q)) = rSea T (nI q) (3) by rw [rSea, if_pos c_1, if_neg (by decide), if_neg (by decide), if_neg (by decide), if_pos rfl, ix_nI (by omega)]), rfl⟩
    ·
      have t16_0 : ¬ (w).toInt = 0 := fun z => e16_0 (Int32.toInt_inj.mp (z.trans (by decide)))
      have t16_1 : ¬ (w).toInt = 1 := fun z => e16_1 (Int32.toInt_inj.mp (z.trans (by decide)))
      have t16_2 : ¬ (w).toInt = 2 := fun z => e16_2 (Int32.toInt_inj.mp (z.trans (by decide)))
      have t16_3 : ¬ (w).toInt = 3 := fun z => e16_3 (Int32.toInt_inj.mp (z.trans (by decide)))
      refine y_tableOut X 87 dX4_season_16 (by omega) (by decide) ?_
      refine y_sipush X (v := (-10002)) dX4_season_87 (by decide) ?_
      exact y_iret X hr dX4_season_90 rfl ⟨congrArg (fun z => some (Value.int z)) (show (-10002) = rSea T (nI q) w by rw [rSea, if_pos c_1, if_neg e16_0, if_neg e16_1, if_neg e16_2, if_neg e16_3]), rfl⟩
  ·
    refine y_sipush X (v := (-10001)) dX4_season_11 (by decide) ?_
    exact y_iret X hr dX4_season_14 rfl ⟨congrArg (fun z => some (Value.int z)) (show (-10001) = rSea T x w by rw [rSea, if_neg c_1]), rfl⟩

set_option maxRecDepth 100000 in
set_option maxHeartbeats 4000000 in
theorem c_X4_value {l : Launch} {E : xE} {C : xC} {T : Tb} {hh : Nat → Tb} {hn : Nat} {sn : Option Tb} {tx : Nat → Int32} {ln : Nat} {sp : Option (Nat × Int32)} (gC : CX E C T hh hn sn tx ln sp) (gW : WX T hh hn sn tx ln sp) {x y : Int32} : xR E l yX4_value wsX4_value 2 44 [.ref (E.2.1 (0)), .int x, .int y] C (rVal T x y) := by
  obtain ⟨o, sl, cm, xt, cc, pl, nu, h0, h6, h7, h38, h39, h40, go5, gSL, gCM, gT, gRG, gSN0, gSN, gTX, gCD⟩ := id gC
  obtain ⟨gv, gn4, gWH, gWS, gl80, gch, gsp⟩ := id gW
  have gw := gv.1
  obtain ⟨gw1, gw2, gw3, gw4⟩ := id gv.1
  obtain ⟨zK, zD, zS, zV, h1, -, -, -, -, -⟩ := id gT
  refine xM_ofY (cc := cX4_value) (maxL := 3) (ret := (some .int)) (by decide) rfl (Nat.le_of_ble_eq_true rfl) ?_
  intro p e s m args below meth c X hr
  have inX4 : ∀ w ∈ wsX40, w ∈ wsX4_value := by decide +kernel
  refine y_lv [(0, .ref (E.2.1 (0))), (1, .int x), (2, .int y)] rfl ?_
  refine y_aload_n X dX4_value_0 0 rfl ?_
  refine y_get X (0) 4 0 (Cn := RX4) (T := TX4) (N := 7) (index := 10) (v := .ref (E.2.1 (1))) dX4_value_1 (by omega) h0 rfl (by decide) inX4 (by decide +kernel : Cond.fieldLink RX4 10 "ColumnSeasons" "table" "LColumnSeasons$Table;" ∈ wsX4_value) rfl rfl ?_
  refine y_iload_n X dX4_value_4 1 rfl ?_
  refine y_callVr X (1) 3 (av := [.int x]) [] 1 (c_X3_isRow (b := 1) (by omega) gT gw (x := x)) (by omega) h1 rfl gX4_value_X3_isRow rfl (by decide +kernel) rfl ⟨Nat.le_of_ble_eq_true rfl, Nat.le_of_ble_eq_true rfl⟩ ⟨Nat.zero_le _, Nat.zero_le _⟩ (Nat.le_of_ble_eq_true rfl) rfl dX4_value_5 ?_
  refine y_if_eq X 18 (¬ (xin x (tr T))) dX4_value_8 (by decide) bI_eq (fun c_1 => ?_) (fun c_1 => ?_)
  ·
    refine y_sipush X (v := (-10001)) dX4_value_18 (by decide) ?_
    exact y_iret X hr dX4_value_21 rfl ⟨congrArg (fun z => some (Value.int z)) (show (-10001) = rVal T x y by rw [rVal, if_neg (fun z => c_1 z.1)]), rfl⟩
  ·
    have c_1 := Decidable.of_not_not c_1
    obtain ⟨i, gi, gei⟩ := xin_of c_1 (by omega)
    subst gei
    refine y_iload_n X dX4_value_11 2 rfl ?_
    refine y_callJr X (av := [.int y]) [] 1 (c_X4_isName (x := y)) gX4_value_X4_isName rfl (by decide +kernel) rfl ⟨Nat.le_of_ble_eq_true rfl, Nat.le_of_ble_eq_true rfl⟩ ⟨Nat.zero_le _, Nat.zero_le _⟩ (Nat.le_of_ble_eq_true rfl) rfl dX4_value_12 ?_
    refine y_if_ne X 22 (xin y 8) dX4_value_15 (by decide) bI_ne (fun c_2 => ?_) (fun c_2 => ?_)
    ·
      obtain ⟨j, gj, gej⟩ := xin_of c_2 (by decide)
      subst gej
      refine y_aload_n X dX4_value_22 0 rfl ?_
      refine y_get X (0) 4 0 (Cn := RX4) (T := TX4) (N := 7) (index := 10) (v := .ref (E.2.1 (1))) dX4_value_23 (by omega) h0 rfl (by decide) inX4 (by decide +kernel : Cond.fieldLink RX4 10 "ColumnSeasons" "table" "LColumnSeasons$Table;" ∈ wsX4_value) rfl rfl ?_
      refine y_iload_n X dX4_value_26 1 rfl ?_
      refine y_iload_n X dX4_value_27 2 rfl ?_
      refine y_callVr X (1) 3 (av := [.int (nI (i)), .int (nI (j))]) [] 2 (c_X3_kindInRow (b := 1) (by omega) gT gw (i := i) (j := j) (by omega) (by omega)) (by omega) h1 rfl gX4_value_X3_kindInRow rfl (by decide +kernel) rfl ⟨Nat.le_of_ble_eq_true rfl, Nat.le_of_ble_eq_true rfl⟩ ⟨Nat.zero_le _, Nat.zero_le _⟩ (Nat.le_of_ble_eq_true rfl) rfl dX4_value_28 ?_
      refine y_iconst X (v := (-1)) dX4_value_31 (by decide) ?_
      refine y_icmp_ne X 41 (¬ ((tk T (ts T (i)) (j)) = (-1))) dX4_value_32 (by decide) Iff.rfl (fun c_3 => ?_) (fun c_3 => ?_)
      ·
        refine y_aload_n X dX4_value_41 0 rfl ?_
        refine y_get X (0) 4 0 (Cn := RX4) (T := TX4) (N := 7) (index := 10) (v := .ref (E.2.1 (1))) dX4_value_42 (by omega) h0 rfl (by decide) inX4 (by decide +kernel : Cond.fieldLink RX4 10 "ColumnSeasons" "table" "LColumnSeasons$Table;" ∈ wsX4_value) rfl rfl ?_
        refine y_iload_n X dX4_value_45 1 rfl ?_
        refine y_iload_n X dX4_value_46 2 rfl ?_
        refine y_callVr X (1) 3 (av := [.int (nI (i)), .int (nI (j))]) [] 2 (c_X3_valueAt (b := 1) (by omega) gT gw (i := i) (j := j) (by omega) (by omega) (by assumption)) (by omega) h1 rfl gX4_value_X3_valueAt rfl (by decide +kernel) rfl ⟨Nat.le_of_ble_eq_true rfl, Nat.le_of_ble_eq_true rfl⟩ ⟨Nat.zero_le _, Nat.zero_le _⟩ (Nat.le_of_ble_eq_true rfl) rfl dX4_value_47 ?_
        exact y_iret X hr dX4_value_50 rfl ⟨congrArg (fun z => some (Value.int z)) (show (tv T (i) (j)) = rVal T (nI i) (nI j) by rw [rVal, if_pos ⟨c_1, c_2⟩, ix_nI (by omega), ix_nI (by omega), if_neg c_3]), rfl⟩
      ·
        have c_3 := Decidable.of_not_not c_3
        refine y_sipush X (v := (-10005)) dX4_value_35 (by decide) ?_
        refine y_goto X 50 dX4_value_38 (by decide) ?_
        exact y_iret X hr dX4_value_50 rfl ⟨congrArg (fun z => some (Value.int z)) (show (-10005) = rVal T (nI i) (nI j) by rw [rVal, if_pos ⟨c_1, c_2⟩, ix_nI (by omega), ix_nI (by omega), if_pos (by first | exact c_3 | exact Decidable.of_not_not c_3)]), rfl⟩
    ·
      refine y_sipush X (v := (-10001)) dX4_value_18 (by decide) ?_
      exact y_iret X hr dX4_value_21 rfl ⟨congrArg (fun z => some (Value.int z)) (show (-10001) = rVal T (nI i) y by rw [rVal, if_neg (fun z => c_2 z.2)]), rfl⟩

set_option maxRecDepth 100000 in
set_option maxHeartbeats 4000000 in
theorem c_X4_read {l : Launch} {E : xE} {C : xC} {T : Tb} {hh : Nat → Tb} {hn : Nat} {sn : Option Tb} {tx : Nat → Int32} {ln : Nat} {sp : Option (Nat × Int32)} (gC : CX E C T hh hn sn tx ln sp) (gW : WX T hh hn sn tx ln sp) {x y u1 w : Int32} : xR E l yX4_read wsX4_read 4 88 [.ref (E.2.1 (0)), .int x, .int y, .int u1, .int w] C (rRead T x y u1 w) := by
  obtain ⟨o, sl, cm, xt, cc, pl, nu, h0, h6, h7, h38, h39, h40, go5, gSL, gCM, gT, gRG, gSN0, gSN, gTX, gCD⟩ := id gC
  obtain ⟨gv, gn4, gWH, gWS, gl80, gch, gsp⟩ := id gW
  have gw := gv.1
  obtain ⟨gw1, gw2, gw3, gw4⟩ := id gv.1
  obtain ⟨zK, zD, zS, zV, h1, -, -, -, -, -⟩ := id gT
  refine xM_ofY (cc := cX4_read) (maxL := 5) (ret := (some .int)) (by decide) rfl (Nat.le_of_ble_eq_true rfl) ?_
  intro p e s m args below meth c X hr
  have inX4 : ∀ w ∈ wsX40, w ∈ wsX4_read := by decide +kernel
  refine y_lv [(0, .ref (E.2.1 (0))), (1, .int x), (2, .int y), (3, .int u1), (4, .int w)] rfl ?_
  refine y_aload_n X dX4_read_0 0 rfl ?_
  refine y_get X (0) 4 0 (Cn := RX4) (T := TX4) (N := 7) (index := 10) (v := .ref (E.2.1 (1))) dX4_read_1 (by omega) h0 rfl (by decide) inX4 (by decide +kernel : Cond.fieldLink RX4 10 "ColumnSeasons" "table" "LColumnSeasons$Table;" ∈ wsX4_read) rfl rfl ?_
  refine y_iload_n X dX4_read_4 1 rfl ?_
  refine y_callVr X (1) 3 (av := [.int x]) [] 1 (c_X3_isRow (b := 1) (by omega) gT gw (x := x)) (by omega) h1 rfl gX4_read_X3_isRow rfl (by decide +kernel) rfl ⟨Nat.le_of_ble_eq_true rfl, Nat.le_of_ble_eq_true rfl⟩ ⟨Nat.zero_le _, Nat.zero_le _⟩ (Nat.le_of_ble_eq_true rfl) rfl dX4_read_5 ?_
  refine y_if_eq X 29 (¬ (xin x (tr T))) dX4_read_8 (by decide) bI_eq (fun c_1 => ?_) (fun c_1 => ?_)
  ·
    refine y_sipush X (v := (-10001)) dX4_read_29 (by decide) ?_
    exact y_iret X hr dX4_read_32 rfl ⟨congrArg (fun z => some (Value.int z)) (show (-10001) = rRead T x y u1 w by rw [rRead, if_neg (fun z => c_1 z.1.1)]), rfl⟩
  ·
    have c_1 := Decidable.of_not_not c_1
    obtain ⟨i, gi, gei⟩ := xin_of c_1 (by omega)
    subst gei
    refine y_aload_n X dX4_read_11 0 rfl ?_
    refine y_get X (0) 4 0 (Cn := RX4) (T := TX4) (N := 7) (index := 10) (v := .ref (E.2.1 (1))) dX4_read_12 (by omega) h0 rfl (by decide) inX4 (by decide +kernel : Cond.fieldLink RX4 10 "ColumnSeasons" "table" "LColumnSeasons$Table;" ∈ wsX4_read) rfl rfl ?_
    refine y_iload_n X dX4_read_15 2 rfl ?_
    refine y_callVr X (1) 3 (av := [.int y]) [] 1 (c_X3_isSeason (b := 1) (by omega) gT gw (x := y)) (by omega) h1 rfl gX4_read_X3_isSeason rfl (by decide +kernel) rfl ⟨Nat.le_of_ble_eq_true rfl, Nat.le_of_ble_eq_true rfl⟩ ⟨Nat.zero_le _, Nat.zero_le _⟩ (Nat.le_of_ble_eq_true rfl) rfl dX4_read_16 ?_
    refine y_if_eq X 29 (¬ (xin y (tn T))) dX4_read_19 (by decide) bI_eq (fun c_2 => ?_) (fun c_2 => ?_)
    ·
      refine y_sipush X (v := (-10001)) dX4_read_29 (by decide) ?_
      exact y_iret X hr dX4_read_32 rfl ⟨congrArg (fun z => some (Value.int z)) (show (-10001) = rRead T (nI i) y u1 w by rw [rRead, if_neg (fun z => c_2 z.1.2)]), rfl⟩
    ·
      have c_2 := Decidable.of_not_not c_2
      obtain ⟨q, gq, geq⟩ := xin_of c_2 (by omega)
      subst geq
      refine y_iload_n X dX4_read_22 3 rfl ?_
      refine y_callJr X (av := [.int u1]) [] 1 (c_X4_isName (x := u1)) gX4_read_X4_isName rfl (by decide +kernel) rfl ⟨Nat.le_of_ble_eq_true rfl, Nat.le_of_ble_eq_true rfl⟩ ⟨Nat.zero_le _, Nat.zero_le _⟩ (Nat.le_of_ble_eq_true rfl) rfl dX4_read_23 ?_
      refine y_if_ne X 33 (xin u1 8) dX4_read_26 (by decide) bI_ne (fun c_3 => ?_) (fun c_3 => ?_)
      ·
        obtain ⟨j, gj, gej⟩ := xin_of c_3 (by decide)
        subst gej
        refine y_iload X dX4_read_33 4 rfl ?_
        refine y_if_lt X 44 ((w).toInt < (0 : Int)) dX4_read_35 (by decide) (cLt rfl (by decide)) (fun c_4 => ?_) (fun c_4 => ?_)
        ·
          have gwn : ¬ xin w 2 := fun z9 => by have z8 := z9.1; have z7 := z9.2; omega
          refine y_sipush X (v := (-10002)) dX4_read_44 (by decide) ?_
          exact y_iret X hr dX4_read_47 rfl ⟨congrArg (fun z => some (Value.int z)) (show (-10002) = rRead T (nI i) (nI q) (nI j) w by rw [rRead, if_pos ⟨⟨c_1, c_2⟩, c_3⟩, if_neg gwn]), rfl⟩
        ·
          refine y_iload X dX4_read_38 4 rfl ?_
          refine y_iconst X (v := (1)) dX4_read_40 (by decide) ?_
          refine y_icmp_le X 48 ((w).toInt ≤ (1 : Int)) dX4_read_41 (by decide) (cLe rfl (by decide)) (fun c_5 => ?_) (fun c_5 => ?_)
          ·
            have gwx : xin w 2 := ⟨by omega, by omega⟩
            refine y_aload_n X dX4_read_48 0 rfl ?_
            refine y_get X (0) 4 0 (Cn := RX4) (T := TX4) (N := 7) (index := 10) (v := .ref (E.2.1 (1))) dX4_read_49 (by omega) h0 rfl (by decide) inX4 (by decide +kernel : Cond.fieldLink RX4 10 "ColumnSeasons" "table" "LColumnSeasons$Table;" ∈ wsX4_read) rfl rfl ?_
            refine y_iload_n X dX4_read_52 2 rfl ?_
            refine y_iload_n X dX4_read_53 3 rfl ?_
            refine y_callVr X (1) 3 (av := [.int (nI (q)), .int (nI (j))]) [] 2 (c_X3_kindIn (b := 1) (by omega) gT gw (q := q) (j := j) (by omega) (by omega)) (by omega) h1 rfl gX4_read_X3_kindIn rfl (by decide +kernel) rfl ⟨Nat.le_of_ble_eq_true rfl, Nat.le_of_ble_eq_true rfl⟩ ⟨Nat.zero_le _, Nat.zero_le _⟩ (Nat.le_of_ble_eq_true rfl) rfl dX4_read_54 ?_
            refine y_iconst X (v := (-1)) dX4_read_57 (by decide) ?_
            refine y_icmp_ne X 65 (¬ ((tk T (q) (j)) = (-1))) dX4_read_58 (by decide) Iff.rfl (fun c_6 => ?_) (fun c_6 => ?_)
            ·
              refine y_iload X dX4_read_65 4 rfl ?_
              refine y_if_ne X 83 (¬ (w = (0))) dX4_read_67 (by decide) Iff.rfl (fun c_7 => ?_) (fun c_7 => ?_)
              ·
                refine y_aload_n X dX4_read_83 0 rfl ?_
                refine y_get X (0) 4 0 (Cn := RX4) (T := TX4) (N := 7) (index := 10) (v := .ref (E.2.1 (1))) dX4_read_84 (by omega) h0 rfl (by decide) inX4 (by decide +kernel : Cond.fieldLink RX4 10 "ColumnSeasons" "table" "LColumnSeasons$Table;" ∈ wsX4_read) rfl rfl ?_
                refine y_iload_n X dX4_read_87 2 rfl ?_
                refine y_iload_n X dX4_read_88 1 rfl ?_
                refine y_iload_n X dX4_read_89 3 rfl ?_
                refine y_callVr X (1) 3 (av := [.int (nI (q)), .int (nI (i)), .int (nI (j))]) [] 3 (c_X3_howReadIn (b := 1) (by omega) gT gw (q := q) (i := i) (j := j) (by omega) (by omega) (by omega)) (by omega) h1 rfl gX4_read_X3_howReadIn rfl (by decide +kernel) rfl ⟨Nat.le_of_ble_eq_true rfl, Nat.le_of_ble_eq_true rfl⟩ ⟨Nat.zero_le _, Nat.zero_le _⟩ (Nat.le_of_ble_eq_true rfl) rfl dX4_read_90 ?_
                exact y_iret X hr dX4_read_93 rfl ⟨congrArg (fun z => some (Value.int z)) (show (howC T (q) (i) (j)) = rRead T (nI i) (nI q) (nI j) w by rw [rRead, if_pos ⟨⟨c_1, c_2⟩, c_3⟩, if_pos gwx, ix_nI (by omega), ix_nI (by omega), if_neg c_6, if_neg c_7, ix_nI (by omega)]), rfl⟩
              ·
                have c_7 := Decidable.of_not_not c_7
                refine y_aload_n X dX4_read_70 0 rfl ?_
                refine y_get X (0) 4 0 (Cn := RX4) (T := TX4) (N := 7) (index := 10) (v := .ref (E.2.1 (1))) dX4_read_71 (by omega) h0 rfl (by decide) inX4 (by decide +kernel : Cond.fieldLink RX4 10 "ColumnSeasons" "table" "LColumnSeasons$Table;" ∈ wsX4_read) rfl rfl ?_
                refine y_iload_n X dX4_read_74 2 rfl ?_
                refine y_iload_n X dX4_read_75 1 rfl ?_
                refine y_iload_n X dX4_read_76 3 rfl ?_
                refine y_callVr X (1) 3 (av := [.int (nI (q)), .int (nI (i)), .int (nI (j))]) [] 3 (c_X3_readIn (b := 1) (by omega) gT gw (q := q) (i := i) (j := j) (by omega) (by omega) (by omega)) (by omega) h1 rfl gX4_read_X3_readIn rfl (by decide +kernel) rfl ⟨Nat.le_of_ble_eq_true rfl, Nat.le_of_ble_eq_true rfl⟩ ⟨Nat.zero_le _, Nat.zero_le _⟩ (Nat.le_of_ble_eq_true rfl) rfl dX4_read_77 ?_
                refine y_goto X 93 dX4_read_80 (by decide) ?_
                exact y_iret X hr dX4_read_93 rfl ⟨congrArg (fun z => some (Value.int z)) (show (rdC T (q) (i) (j)) = rRead T (nI i) (nI q) (nI j) w by rw [rRead, if_pos ⟨⟨c_1, c_2⟩, c_3⟩, if_pos gwx, ix_nI (by omega), ix_nI (by omega), if_neg c_6, if_pos c_7, ix_nI (by omega)]), rfl⟩
            ·
              have c_6 := Decidable.of_not_not c_6
              refine y_sipush X (v := (-10005)) dX4_read_61 (by decide) ?_
              exact y_iret X hr dX4_read_64 rfl ⟨congrArg (fun z => some (Value.int z)) (show (-10005) = rRead T (nI i) (nI q) (nI j) w by rw [rRead, if_pos ⟨⟨c_1, c_2⟩, c_3⟩, if_pos gwx, ix_nI (by omega), ix_nI (by omega), if_pos c_6]), rfl⟩
          ·
            have gwn : ¬ xin w 2 := fun z9 => by have z8 := z9.1; have z7 := z9.2; omega
            refine y_sipush X (v := (-10002)) dX4_read_44 (by decide) ?_
            exact y_iret X hr dX4_read_47 rfl ⟨congrArg (fun z => some (Value.int z)) (show (-10002) = rRead T (nI i) (nI q) (nI j) w by rw [rRead, if_pos ⟨⟨c_1, c_2⟩, c_3⟩, if_neg gwn]), rfl⟩
      ·
        refine y_sipush X (v := (-10001)) dX4_read_29 (by decide) ?_
        exact y_iret X hr dX4_read_32 rfl ⟨congrArg (fun z => some (Value.int z)) (show (-10001) = rRead T (nI i) (nI q) u1 w by rw [rRead, if_neg (fun z => c_3 z.2)]), rfl⟩

set_option maxRecDepth 100000 in
set_option maxHeartbeats 4000000 in
theorem c_X4_seasonOf {l : Launch} {E : xE} {C : xC} {T : Tb} {hh : Nat → Tb} {hn : Nat} {sn : Option Tb} {tx : Nat → Int32} {ln : Nat} {sp : Option (Nat × Int32)} (gC : CX E C T hh hn sn tx ln sp) (gW : WX T hh hn sn tx ln sp) {x : Int32} : xR E l yX4_seasonOf wsX4_seasonOf 1 21 [.ref (E.2.1 (0)), .int x] C (rSof T x) := by
  obtain ⟨o, sl, cm, xt, cc, pl, nu, h0, h6, h7, h38, h39, h40, go5, gSL, gCM, gT, gRG, gSN0, gSN, gTX, gCD⟩ := id gC
  obtain ⟨gv, gn4, gWH, gWS, gl80, gch, gsp⟩ := id gW
  have gw := gv.1
  obtain ⟨gw1, gw2, gw3, gw4⟩ := id gv.1
  obtain ⟨zK, zD, zS, zV, h1, -, -, -, -, -⟩ := id gT
  refine xM_ofY (cc := cX4_seasonOf) (maxL := 2) (ret := (some .int)) (by decide) rfl (Nat.le_of_ble_eq_true rfl) ?_
  intro p e s m args below meth c X hr
  have inX4 : ∀ w ∈ wsX40, w ∈ wsX4_seasonOf := by decide +kernel
  refine y_lv [(0, .ref (E.2.1 (0))), (1, .int x)] rfl ?_
  refine y_aload_n X dX4_seasonOf_0 0 rfl ?_
  refine y_get X (0) 4 0 (Cn := RX4) (T := TX4) (N := 7) (index := 10) (v := .ref (E.2.1 (1))) dX4_seasonOf_1 (by omega) h0 rfl (by decide) inX4 (by decide +kernel : Cond.fieldLink RX4 10 "ColumnSeasons" "table" "LColumnSeasons$Table;" ∈ wsX4_seasonOf) rfl rfl ?_
  refine y_iload_n X dX4_seasonOf_4 1 rfl ?_
  refine y_callVr X (1) 3 (av := [.int x]) [] 1 (c_X3_isRow (b := 1) (by omega) gT gw (x := x)) (by omega) h1 rfl gX4_seasonOf_X3_isRow rfl (by decide +kernel) rfl ⟨Nat.le_of_ble_eq_true rfl, Nat.le_of_ble_eq_true rfl⟩ ⟨Nat.zero_le _, Nat.zero_le _⟩ (Nat.le_of_ble_eq_true rfl) rfl dX4_seasonOf_5 ?_
  refine y_if_eq X 22 (¬ (xin x (tr T))) dX4_seasonOf_8 (by decide) bI_eq (fun c_1 => ?_) (fun c_1 => ?_)
  ·
    refine y_sipush X (v := (-10001)) dX4_seasonOf_22 (by decide) ?_
    exact y_iret X hr dX4_seasonOf_25 rfl ⟨congrArg (fun z => some (Value.int z)) (show (-10001) = rSof T x by rw [rSof, if_neg c_1]), rfl⟩
  ·
    have c_1 := Decidable.of_not_not c_1
    obtain ⟨i, gi, gei⟩ := xin_of c_1 (by omega)
    subst gei
    refine y_aload_n X dX4_seasonOf_11 0 rfl ?_
    refine y_get X (0) 4 0 (Cn := RX4) (T := TX4) (N := 7) (index := 10) (v := .ref (E.2.1 (1))) dX4_seasonOf_12 (by omega) h0 rfl (by decide) inX4 (by decide +kernel : Cond.fieldLink RX4 10 "ColumnSeasons" "table" "LColumnSeasons$Table;" ∈ wsX4_seasonOf) rfl rfl ?_
    refine y_iload_n X dX4_seasonOf_15 1 rfl ?_
    refine y_callVr X (1) 3 (av := [.int (nI (i))]) [] 1 (c_X3_seasonOfRow (b := 1) (by omega) gT gw (i := i) (by omega)) (by omega) h1 rfl gX4_seasonOf_X3_seasonOfRow rfl (by decide +kernel) rfl ⟨Nat.le_of_ble_eq_true rfl, Nat.le_of_ble_eq_true rfl⟩ ⟨Nat.zero_le _, Nat.zero_le _⟩ (Nat.le_of_ble_eq_true rfl) rfl dX4_seasonOf_16 ?_
    refine y_goto X 25 dX4_seasonOf_19 (by decide) ?_
    exact y_iret X hr dX4_seasonOf_25 rfl ⟨congrArg (fun z => some (Value.int z)) (show (nI (ts T (i))) = rSof T (nI i) by rw [rSof, if_pos c_1, ix_nI (by omega)]), rfl⟩

set_option maxRecDepth 100000 in
set_option maxHeartbeats 4000000 in
theorem c_X4_view {l : Launch} {E : xE} {C : xC} {T : Tb} {hh : Nat → Tb} {hn : Nat} {sn : Option Tb} {tx : Nat → Int32} {ln : Nat} {sp : Option (Nat × Int32)} (gC : CX E C T hh hn sn tx ln sp) (gW : WX T hh hn sn tx ln sp) {x y w : Int32} : xR E l yX4_view wsX4_view 4 95 [.ref (E.2.1 (0)), .int x, .int y, .int w] C (rView T x y w) := by
  obtain ⟨o, sl, cm, xt, cc, pl, nu, h0, h6, h7, h38, h39, h40, go5, gSL, gCM, gT, gRG, gSN0, gSN, gTX, gCD⟩ := id gC
  obtain ⟨gv, gn4, gWH, gWS, gl80, gch, gsp⟩ := id gW
  have gw := gv.1
  obtain ⟨gw1, gw2, gw3, gw4⟩ := id gv.1
  obtain ⟨zK, zD, zS, zV, h1, -, -, -, -, -⟩ := id gT
  refine xM_ofY (cc := cX4_view) (maxL := 4) (ret := (some .int)) (by decide) rfl (Nat.le_of_ble_eq_true rfl) ?_
  intro p e s m args below meth c X hr
  have inX4 : ∀ w ∈ wsX40, w ∈ wsX4_view := by decide +kernel
  refine y_lv [(0, .ref (E.2.1 (0))), (1, .int x), (2, .int y), (3, .int w)] rfl ?_
  refine y_aload_n X dX4_view_0 0 rfl ?_
  refine y_get X (0) 4 0 (Cn := RX4) (T := TX4) (N := 7) (index := 10) (v := .ref (E.2.1 (1))) dX4_view_1 (by omega) h0 rfl (by decide) inX4 (by decide +kernel : Cond.fieldLink RX4 10 "ColumnSeasons" "table" "LColumnSeasons$Table;" ∈ wsX4_view) rfl rfl ?_
  refine y_iload_n X dX4_view_4 1 rfl ?_
  refine y_callVr X (1) 3 (av := [.int x]) [] 1 (c_X3_isRow (b := 1) (by omega) gT gw (x := x)) (by omega) h1 rfl gX4_view_X3_isRow rfl (by decide +kernel) rfl ⟨Nat.le_of_ble_eq_true rfl, Nat.le_of_ble_eq_true rfl⟩ ⟨Nat.zero_le _, Nat.zero_le _⟩ (Nat.le_of_ble_eq_true rfl) rfl dX4_view_5 ?_
  refine y_if_eq X 22 (¬ (xin x (tr T))) dX4_view_8 (by decide) bI_eq (fun c_1 => ?_) (fun c_1 => ?_)
  ·
    refine y_sipush X (v := (-10001)) dX4_view_22 (by decide) ?_
    exact y_iret X hr dX4_view_25 rfl ⟨congrArg (fun z => some (Value.int z)) (show (-10001) = rView T x y w by rw [rView, if_neg (fun z => c_1 z.1)]), rfl⟩
  ·
    have c_1 := Decidable.of_not_not c_1
    obtain ⟨a, ga, gea⟩ := xin_of c_1 (by omega)
    subst gea
    refine y_aload_n X dX4_view_11 0 rfl ?_
    refine y_get X (0) 4 0 (Cn := RX4) (T := TX4) (N := 7) (index := 10) (v := .ref (E.2.1 (1))) dX4_view_12 (by omega) h0 rfl (by decide) inX4 (by decide +kernel : Cond.fieldLink RX4 10 "ColumnSeasons" "table" "LColumnSeasons$Table;" ∈ wsX4_view) rfl rfl ?_
    refine y_iload_n X dX4_view_15 2 rfl ?_
    refine y_callVr X (1) 3 (av := [.int y]) [] 1 (c_X3_isRow (b := 1) (by omega) gT gw (x := y)) (by omega) h1 rfl gX4_view_X3_isRow rfl (by decide +kernel) rfl ⟨Nat.le_of_ble_eq_true rfl, Nat.le_of_ble_eq_true rfl⟩ ⟨Nat.zero_le _, Nat.zero_le _⟩ (Nat.le_of_ble_eq_true rfl) rfl dX4_view_16 ?_
    refine y_if_ne X 26 (xin y (tr T)) dX4_view_19 (by decide) bI_ne (fun c_2 => ?_) (fun c_2 => ?_)
    ·
      obtain ⟨b0, gb0, geb0⟩ := xin_of c_2 (by omega)
      subst geb0
      refine y_iload_n X dX4_view_26 3 rfl ?_
      by_cases e27_0 : w = 0
      ·
        subst e27_0
        refine y_tableIn X 52 (off := 25) dX4_view_27 (by decide) (by decide) (by decide) (by decide) ?_
        refine y_aload_n X dX4_view_52 0 rfl ?_
        refine y_get X (0) 4 0 (Cn := RX4) (T := TX4) (N := 7) (index := 10) (v := .ref (E.2.1 (1))) dX4_view_53 (by omega) h0 rfl (by decide) inX4 (by decide +kernel : Cond.fieldLink RX4 10 "ColumnSeasons" "table" "LColumnSeasons$Table;" ∈ wsX4_view) rfl rfl ?_
        refine y_iload_n X dX4_view_56 1 rfl ?_
        refine y_iload_n X dX4_view_57 2 rfl ?_
        refine y_callVr X (1) 3 (av := [.int (nI (a)), .int (nI (b0))]) [] 2 (c_X3_sharedNames (b := 1) (by omega) gT gw (a := a) (b0 := b0) (by omega) (by omega)) (by omega) h1 rfl gX4_view_X3_sharedNames rfl (by decide +kernel) rfl ⟨Nat.le_of_ble_eq_true rfl, Nat.le_of_ble_eq_true rfl⟩ ⟨Nat.zero_le _, Nat.zero_le _⟩ (Nat.le_of_ble_eq_true rfl) rfl dX4_view_58 ?_
        exact y_iret X hr dX4_view_61 rfl ⟨congrArg (fun z => some (Value.int z)) (show (shN T (a) (b0)) = rView T (nI a) (nI b0) (0) by rw [rView, if_pos ⟨c_1, c_2⟩, if_pos rfl, ix_nI (by omega), ix_nI (by omega)]), rfl⟩
      by_cases e27_1 : w = 1
      ·
        subst e27_1
        refine y_tableIn X 62 (off := 35) dX4_view_27 (by decide) (by decide) (by decide) (by decide) ?_
        refine y_iconst X (v := (0)) dX4_view_62 (by decide) ?_
        refine y_iload_n X dX4_view_63 2 rfl ?_
        refine y_iload_n X dX4_view_64 1 rfl ?_
        refine y_isub X (z := (nI b0 - nI a)) dX4_view_65 rfl ?_
        refine y_iconst X (v := (1)) dX4_view_66 (by decide) ?_
        refine y_iadd X (z := ((nI b0 - nI a) + (1))) dX4_view_67 rfl ?_
        refine y_max X (z := (nI (b0 + 1 - a))) dX4_view_68 (by decide +kernel) (by decide +kernel) (by decide +kernel) (by decide +kernel) (Nat.le_of_ble_eq_true rfl) (Nat.le_of_ble_eq_true rfl) ⟨Nat.zero_le _, Nat.zero_le _⟩ (nI_max0 (by omega) (by omega)) ?_
        exact y_iret X hr dX4_view_71 rfl ⟨congrArg (fun z => some (Value.int z)) (show (nI (b0 + 1 - a)) = rView T (nI a) (nI b0) (1) by rw [rView, if_pos ⟨c_1, c_2⟩, if_neg (by decide), if_pos rfl, ix_nI (by omega), ix_nI (by omega)]), rfl⟩
      by_cases e27_2 : w = 2
      ·
        subst e27_2
        refine y_tableIn X 72 (off := 45) dX4_view_27 (by decide) (by decide) (by decide) (by decide) ?_
        refine y_aload_n X dX4_view_72 0 rfl ?_
        refine y_get X (0) 4 0 (Cn := RX4) (T := TX4) (N := 7) (index := 10) (v := .ref (E.2.1 (1))) dX4_view_73 (by omega) h0 rfl (by decide) inX4 (by decide +kernel : Cond.fieldLink RX4 10 "ColumnSeasons" "table" "LColumnSeasons$Table;" ∈ wsX4_view) rfl rfl ?_
        refine y_iload_n X dX4_view_76 1 rfl ?_
        refine y_iload_n X dX4_view_77 2 rfl ?_
        refine y_callVr X (1) 3 (av := [.int (nI (a)), .int (nI (b0))]) [] 2 (c_X3_defaultsInView (b := 1) (by omega) gT gw (a := a) (b0 := b0) (by omega) (by omega)) (by omega) h1 rfl gX4_view_X3_defaultsInView rfl (by decide +kernel) rfl ⟨Nat.le_of_ble_eq_true rfl, Nat.le_of_ble_eq_true rfl⟩ ⟨Nat.zero_le _, Nat.zero_le _⟩ (Nat.le_of_ble_eq_true rfl) rfl dX4_view_78 ?_
        exact y_iret X hr dX4_view_81 rfl ⟨congrArg (fun z => some (Value.int z)) (show (dfV T (a) (b0)) = rView T (nI a) (nI b0) (2) by rw [rView, if_pos ⟨c_1, c_2⟩, if_neg (by decide), if_neg (by decide), if_pos rfl, ix_nI (by omega), ix_nI (by omega)]), rfl⟩
      ·
        have t27_0 : ¬ (w).toInt = 0 := fun z => e27_0 (Int32.toInt_inj.mp (z.trans (by decide)))
        have t27_1 : ¬ (w).toInt = 1 := fun z => e27_1 (Int32.toInt_inj.mp (z.trans (by decide)))
        have t27_2 : ¬ (w).toInt = 2 := fun z => e27_2 (Int32.toInt_inj.mp (z.trans (by decide)))
        refine y_tableOut X 82 dX4_view_27 (by omega) (by decide) ?_
        refine y_sipush X (v := (-10002)) dX4_view_82 (by decide) ?_
        exact y_iret X hr dX4_view_85 rfl ⟨congrArg (fun z => some (Value.int z)) (show (-10002) = rView T (nI a) (nI b0) w by rw [rView, if_pos ⟨c_1, c_2⟩, if_neg e27_0, if_neg e27_1, if_neg e27_2]), rfl⟩
    ·
      refine y_sipush X (v := (-10001)) dX4_view_22 (by decide) ?_
      exact y_iret X hr dX4_view_25 rfl ⟨congrArg (fun z => some (Value.int z)) (show (-10001) = rView T (nI a) y w by rw [rView, if_neg (fun z => c_2 z.2)]), rfl⟩

set_option maxRecDepth 100000 in
set_option maxHeartbeats 4000000 in
theorem c_X4_viewColumn {l : Launch} {E : xE} {C : xC} {T : Tb} {hh : Nat → Tb} {hn : Nat} {sn : Option Tb} {tx : Nat → Int32} {ln : Nat} {sp : Option (Nat × Int32)} (gC : CX E C T hh hn sn tx ln sp) (gW : WX T hh hn sn tx ln sp) {x y u1 w : Int32} : xR E l yX4_viewColumn wsX4_viewColumn 3 71 [.ref (E.2.1 (0)), .int x, .int y, .int u1, .int w] C (rVC T x y u1 w) := by
  obtain ⟨o, sl, cm, xt, cc, pl, nu, h0, h6, h7, h38, h39, h40, go5, gSL, gCM, gT, gRG, gSN0, gSN, gTX, gCD⟩ := id gC
  obtain ⟨gv, gn4, gWH, gWS, gl80, gch, gsp⟩ := id gW
  have gw := gv.1
  obtain ⟨gw1, gw2, gw3, gw4⟩ := id gv.1
  obtain ⟨zK, zD, zS, zV, h1, -, -, -, -, -⟩ := id gT
  refine xM_ofY (cc := cX4_viewColumn) (maxL := 5) (ret := (some .int)) (by decide) rfl (Nat.le_of_ble_eq_true rfl) ?_
  intro p e s m args below meth c X hr
  have inX4 : ∀ w ∈ wsX40, w ∈ wsX4_viewColumn := by decide +kernel
  refine y_lv [(0, .ref (E.2.1 (0))), (1, .int x), (2, .int y), (3, .int u1), (4, .int w)] rfl ?_
  refine y_aload_n X dX4_viewColumn_0 0 rfl ?_
  refine y_get X (0) 4 0 (Cn := RX4) (T := TX4) (N := 7) (index := 10) (v := .ref (E.2.1 (1))) dX4_viewColumn_1 (by omega) h0 rfl (by decide) inX4 (by decide +kernel : Cond.fieldLink RX4 10 "ColumnSeasons" "table" "LColumnSeasons$Table;" ∈ wsX4_viewColumn) rfl rfl ?_
  refine y_iload_n X dX4_viewColumn_4 1 rfl ?_
  refine y_callVr X (1) 3 (av := [.int x]) [] 1 (c_X3_isRow (b := 1) (by omega) gT gw (x := x)) (by omega) h1 rfl gX4_viewColumn_X3_isRow rfl (by decide +kernel) rfl ⟨Nat.le_of_ble_eq_true rfl, Nat.le_of_ble_eq_true rfl⟩ ⟨Nat.zero_le _, Nat.zero_le _⟩ (Nat.le_of_ble_eq_true rfl) rfl dX4_viewColumn_5 ?_
  refine y_if_eq X 29 (¬ (xin x (tr T))) dX4_viewColumn_8 (by decide) bI_eq (fun c_1 => ?_) (fun c_1 => ?_)
  ·
    refine y_sipush X (v := (-10001)) dX4_viewColumn_29 (by decide) ?_
    exact y_iret X hr dX4_viewColumn_32 rfl ⟨congrArg (fun z => some (Value.int z)) (show (-10001) = rVC T x y u1 w by rw [rVC, if_neg (fun z => c_1 z.1.1)]), rfl⟩
  ·
    have c_1 := Decidable.of_not_not c_1
    obtain ⟨a, ga, gea⟩ := xin_of c_1 (by omega)
    subst gea
    refine y_aload_n X dX4_viewColumn_11 0 rfl ?_
    refine y_get X (0) 4 0 (Cn := RX4) (T := TX4) (N := 7) (index := 10) (v := .ref (E.2.1 (1))) dX4_viewColumn_12 (by omega) h0 rfl (by decide) inX4 (by decide +kernel : Cond.fieldLink RX4 10 "ColumnSeasons" "table" "LColumnSeasons$Table;" ∈ wsX4_viewColumn) rfl rfl ?_
    refine y_iload_n X dX4_viewColumn_15 2 rfl ?_
    refine y_callVr X (1) 3 (av := [.int y]) [] 1 (c_X3_isRow (b := 1) (by omega) gT gw (x := y)) (by omega) h1 rfl gX4_viewColumn_X3_isRow rfl (by decide +kernel) rfl ⟨Nat.le_of_ble_eq_true rfl, Nat.le_of_ble_eq_true rfl⟩ ⟨Nat.zero_le _, Nat.zero_le _⟩ (Nat.le_of_ble_eq_true rfl) rfl dX4_viewColumn_16 ?_
    refine y_if_eq X 29 (¬ (xin y (tr T))) dX4_viewColumn_19 (by decide) bI_eq (fun c_2 => ?_) (fun c_2 => ?_)
    ·
      refine y_sipush X (v := (-10001)) dX4_viewColumn_29 (by decide) ?_
      exact y_iret X hr dX4_viewColumn_32 rfl ⟨congrArg (fun z => some (Value.int z)) (show (-10001) = rVC T (nI a) y u1 w by rw [rVC, if_neg (fun z => c_2 z.1.2)]), rfl⟩
    ·
      have c_2 := Decidable.of_not_not c_2
      obtain ⟨b0, gb0, geb0⟩ := xin_of c_2 (by omega)
      subst geb0
      refine y_iload_n X dX4_viewColumn_22 3 rfl ?_
      refine y_callJr X (av := [.int u1]) [] 1 (c_X4_isName (x := u1)) gX4_viewColumn_X4_isName rfl (by decide +kernel) rfl ⟨Nat.le_of_ble_eq_true rfl, Nat.le_of_ble_eq_true rfl⟩ ⟨Nat.zero_le _, Nat.zero_le _⟩ (Nat.le_of_ble_eq_true rfl) rfl dX4_viewColumn_23 ?_
      refine y_if_ne X 33 (xin u1 8) dX4_viewColumn_26 (by decide) bI_ne (fun c_3 => ?_) (fun c_3 => ?_)
      ·
        obtain ⟨j, gj, gej⟩ := xin_of c_3 (by decide)
        subst gej
        refine y_iload X dX4_viewColumn_33 4 rfl ?_
        refine y_if_lt X 44 ((w).toInt < (0 : Int)) dX4_viewColumn_35 (by decide) (cLt rfl (by decide)) (fun c_4 => ?_) (fun c_4 => ?_)
        ·
          have gwn : ¬ xin w 5 := fun z9 => by have z8 := z9.1; have z7 := z9.2; omega
          refine y_sipush X (v := (-10002)) dX4_viewColumn_44 (by decide) ?_
          exact y_iret X hr dX4_viewColumn_47 rfl ⟨congrArg (fun z => some (Value.int z)) (show (-10002) = rVC T (nI a) (nI b0) (nI j) w by rw [rVC, if_pos ⟨⟨c_1, c_2⟩, c_3⟩, if_neg gwn]), rfl⟩
        ·
          refine y_iload X dX4_viewColumn_38 4 rfl ?_
          refine y_iconst X (v := (4)) dX4_viewColumn_40 (by decide) ?_
          refine y_icmp_le X 48 ((w).toInt ≤ (4 : Int)) dX4_viewColumn_41 (by decide) (cLe rfl (by decide)) (fun c_5 => ?_) (fun c_5 => ?_)
          ·
            have gwx : xin w 5 := ⟨by omega, by omega⟩
            refine y_aload_n X dX4_viewColumn_48 0 rfl ?_
            refine y_get X (0) 4 0 (Cn := RX4) (T := TX4) (N := 7) (index := 10) (v := .ref (E.2.1 (1))) dX4_viewColumn_49 (by omega) h0 rfl (by decide) inX4 (by decide +kernel : Cond.fieldLink RX4 10 "ColumnSeasons" "table" "LColumnSeasons$Table;" ∈ wsX4_viewColumn) rfl rfl ?_
            refine y_iload_n X dX4_viewColumn_52 1 rfl ?_
            refine y_iload_n X dX4_viewColumn_53 2 rfl ?_
            refine y_callVr X (1) 3 (av := [.int (nI (a)), .int (nI (b0))]) [] 2 (c_X3_sharedNames (b := 1) (by omega) gT gw (a := a) (b0 := b0) (by omega) (by omega)) (by omega) h1 rfl gX4_viewColumn_X3_sharedNames rfl (by decide +kernel) rfl ⟨Nat.le_of_ble_eq_true rfl, Nat.le_of_ble_eq_true rfl⟩ ⟨Nat.zero_le _, Nat.zero_le _⟩ (Nat.le_of_ble_eq_true rfl) rfl dX4_viewColumn_54 ?_
            refine y_iload_n X dX4_viewColumn_57 3 rfl ?_
            refine y_callJr X (av := [.int (shN T (a) (b0)), .int (nI (j))]) [] 2 (c_X4_hasName (x := (shN T (a) (b0))) (j := j)) gX4_viewColumn_X4_hasName rfl (by decide +kernel) rfl ⟨Nat.le_of_ble_eq_true rfl, Nat.le_of_ble_eq_true rfl⟩ ⟨Nat.zero_le _, Nat.zero_le _⟩ (Nat.le_of_ble_eq_true rfl) rfl dX4_viewColumn_58 ?_
            refine y_if_ne X 68 (¬ ((shN T (a) (b0)) &&& bitN (j)) = 0) dX4_viewColumn_61 (by decide) bI_ne (fun c_6 => ?_) (fun c_6 => ?_)
            ·
              have gh : ∀ i : Nat, a ≤ i → i ≤ b0 → ¬ tk T (ts T i) j = -1 := fun i q1 q2 => shN_has (T := T) (by omega) q1 q2 c_6
              refine y_iload X dX4_viewColumn_68 4 rfl ?_
              by_cases e70_0 : w = 0
              ·
                subst e70_0
                refine y_tableIn X 100 (off := 30) dX4_viewColumn_70 (by decide) (by decide) (by decide) (by decide) ?_
                refine y_aload_n X dX4_viewColumn_100 0 rfl ?_
                refine y_get X (0) 4 0 (Cn := RX4) (T := TX4) (N := 7) (index := 10) (v := .ref (E.2.1 (1))) dX4_viewColumn_101 (by omega) h0 rfl (by decide) inX4 (by decide +kernel : Cond.fieldLink RX4 10 "ColumnSeasons" "table" "LColumnSeasons$Table;" ∈ wsX4_viewColumn) rfl rfl ?_
                refine y_iload_n X dX4_viewColumn_104 1 rfl ?_
                refine y_iload_n X dX4_viewColumn_105 2 rfl ?_
                refine y_iload_n X dX4_viewColumn_106 3 rfl ?_
                refine y_callVr X (1) 3 (av := [.int (nI (a)), .int (nI (b0)), .int (nI (j))]) [] 3 (c_X3_widestKind (b := 1) (by omega) gT gw (a := a) (b0 := b0) (j := j) (by omega) (by omega) (by omega) gh) (by omega) h1 rfl gX4_viewColumn_X3_widestKind rfl (by decide +kernel) rfl ⟨Nat.le_of_ble_eq_true rfl, Nat.le_of_ble_eq_true rfl⟩ ⟨Nat.zero_le _, Nat.zero_le _⟩ (Nat.le_of_ble_eq_true rfl) rfl dX4_viewColumn_107 ?_
                exact y_iret X hr dX4_viewColumn_110 rfl ⟨congrArg (fun z => some (Value.int z)) (show (wdt T (a) (j) (b0 + 1 - a)) = rVC T (nI a) (nI b0) (nI j) (0) by rw [rVC, if_pos ⟨⟨c_1, c_2⟩, c_3⟩, if_pos gwx, ix_nI (by omega), ix_nI (by omega), ix_nI (by omega), if_neg c_6, vcV, if_pos rfl]), rfl⟩
              by_cases e70_1 : w = 1
              ·
                subst e70_1
                refine y_tableIn X 111 (off := 41) dX4_viewColumn_70 (by decide) (by decide) (by decide) (by decide) ?_
                refine y_aload_n X dX4_viewColumn_111 0 rfl ?_
                refine y_get X (0) 4 0 (Cn := RX4) (T := TX4) (N := 7) (index := 10) (v := .ref (E.2.1 (1))) dX4_viewColumn_112 (by omega) h0 rfl (by decide) inX4 (by decide +kernel : Cond.fieldLink RX4 10 "ColumnSeasons" "table" "LColumnSeasons$Table;" ∈ wsX4_viewColumn) rfl rfl ?_
                refine y_iload_n X dX4_viewColumn_115 1 rfl ?_
                refine y_iload_n X dX4_viewColumn_116 2 rfl ?_
                refine y_iload_n X dX4_viewColumn_117 3 rfl ?_
                refine y_callVr X (1) 3 (av := [.int (nI (a)), .int (nI (b0)), .int (nI (j))]) [] 3 (c_X3_sumOfValues (b := 1) (by omega) gT gw (a := a) (b0 := b0) (j := j) (by omega) (by omega) (by omega) gh) (by omega) h1 rfl gX4_viewColumn_X3_sumOfValues rfl (by decide +kernel) rfl ⟨Nat.le_of_ble_eq_true rfl, Nat.le_of_ble_eq_true rfl⟩ ⟨Nat.zero_le _, Nat.zero_le _⟩ (Nat.le_of_ble_eq_true rfl) rfl dX4_viewColumn_118 ?_
                exact y_iret X hr dX4_viewColumn_121 rfl ⟨congrArg (fun z => some (Value.int z)) (show (svs T (a) (j) (b0 + 1 - a)) = rVC T (nI a) (nI b0) (nI j) (1) by rw [rVC, if_pos ⟨⟨c_1, c_2⟩, c_3⟩, if_pos gwx, ix_nI (by omega), ix_nI (by omega), ix_nI (by omega), if_neg c_6, vcV, if_neg (by decide), if_pos rfl]), rfl⟩
              by_cases e70_2 : w = 2
              ·
                subst e70_2
                refine y_tableIn X 122 (off := 52) dX4_viewColumn_70 (by decide) (by decide) (by decide) (by decide) ?_
                refine y_aload_n X dX4_viewColumn_122 0 rfl ?_
                refine y_get X (0) 4 0 (Cn := RX4) (T := TX4) (N := 7) (index := 10) (v := .ref (E.2.1 (1))) dX4_viewColumn_123 (by omega) h0 rfl (by decide) inX4 (by decide +kernel : Cond.fieldLink RX4 10 "ColumnSeasons" "table" "LColumnSeasons$Table;" ∈ wsX4_viewColumn) rfl rfl ?_
                refine y_iload_n X dX4_viewColumn_126 1 rfl ?_
                refine y_iload_n X dX4_viewColumn_127 2 rfl ?_
                refine y_iload_n X dX4_viewColumn_128 3 rfl ?_
                refine y_callVr X (1) 3 (av := [.int (nI (a)), .int (nI (b0)), .int (nI (j))]) [] 3 (c_X3_leastValue (b := 1) (by omega) gT gw (a := a) (b0 := b0) (j := j) (by omega) (by omega) (by omega) gh) (by omega) h1 rfl gX4_viewColumn_X3_leastValue rfl (by decide +kernel) rfl ⟨Nat.le_of_ble_eq_true rfl, Nat.le_of_ble_eq_true rfl⟩ ⟨Nat.zero_le _, Nat.zero_le _⟩ (Nat.le_of_ble_eq_true rfl) rfl dX4_viewColumn_129 ?_
                exact y_iret X hr dX4_viewColumn_132 rfl ⟨congrArg (fun z => some (Value.int z)) (show (lea T (a) (j) (b0 + 1 - a)) = rVC T (nI a) (nI b0) (nI j) (2) by rw [rVC, if_pos ⟨⟨c_1, c_2⟩, c_3⟩, if_pos gwx, ix_nI (by omega), ix_nI (by omega), ix_nI (by omega), if_neg c_6, vcV, if_neg (by decide), if_neg (by decide), if_pos rfl]), rfl⟩
              by_cases e70_3 : w = 3
              ·
                subst e70_3
                refine y_tableIn X 133 (off := 63) dX4_viewColumn_70 (by decide) (by decide) (by decide) (by decide) ?_
                refine y_aload_n X dX4_viewColumn_133 0 rfl ?_
                refine y_get X (0) 4 0 (Cn := RX4) (T := TX4) (N := 7) (index := 10) (v := .ref (E.2.1 (1))) dX4_viewColumn_134 (by omega) h0 rfl (by decide) inX4 (by decide +kernel : Cond.fieldLink RX4 10 "ColumnSeasons" "table" "LColumnSeasons$Table;" ∈ wsX4_viewColumn) rfl rfl ?_
                refine y_iload_n X dX4_viewColumn_137 1 rfl ?_
                refine y_iload_n X dX4_viewColumn_138 2 rfl ?_
                refine y_iload_n X dX4_viewColumn_139 3 rfl ?_
                refine y_callVr X (1) 3 (av := [.int (nI (a)), .int (nI (b0)), .int (nI (j))]) [] 3 (c_X3_greatestValue (b := 1) (by omega) gT gw (a := a) (b0 := b0) (j := j) (by omega) (by omega) (by omega) gh) (by omega) h1 rfl gX4_viewColumn_X3_greatestValue rfl (by decide +kernel) rfl ⟨Nat.le_of_ble_eq_true rfl, Nat.le_of_ble_eq_true rfl⟩ ⟨Nat.zero_le _, Nat.zero_le _⟩ (Nat.le_of_ble_eq_true rfl) rfl dX4_viewColumn_140 ?_
                exact y_iret X hr dX4_viewColumn_143 rfl ⟨congrArg (fun z => some (Value.int z)) (show (gre T (a) (j) (b0 + 1 - a)) = rVC T (nI a) (nI b0) (nI j) (3) by rw [rVC, if_pos ⟨⟨c_1, c_2⟩, c_3⟩, if_pos gwx, ix_nI (by omega), ix_nI (by omega), ix_nI (by omega), if_neg c_6, vcV, if_neg (by decide), if_neg (by decide), if_neg (by decide), if_pos rfl]), rfl⟩
              ·
                have t70_0 : ¬ (w).toInt = 0 := fun z => e70_0 (Int32.toInt_inj.mp (z.trans (by decide)))
                have t70_1 : ¬ (w).toInt = 1 := fun z => e70_1 (Int32.toInt_inj.mp (z.trans (by decide)))
                have t70_2 : ¬ (w).toInt = 2 := fun z => e70_2 (Int32.toInt_inj.mp (z.trans (by decide)))
                have t70_3 : ¬ (w).toInt = 3 := fun z => e70_3 (Int32.toInt_inj.mp (z.trans (by decide)))
                refine y_tableOut X 144 dX4_viewColumn_70 (by omega) (by decide) ?_
                refine y_aload_n X dX4_viewColumn_144 0 rfl ?_
                refine y_get X (0) 4 0 (Cn := RX4) (T := TX4) (N := 7) (index := 10) (v := .ref (E.2.1 (1))) dX4_viewColumn_145 (by omega) h0 rfl (by decide) inX4 (by decide +kernel : Cond.fieldLink RX4 10 "ColumnSeasons" "table" "LColumnSeasons$Table;" ∈ wsX4_viewColumn) rfl rfl ?_
                refine y_iload_n X dX4_viewColumn_148 1 rfl ?_
                refine y_iload_n X dX4_viewColumn_149 2 rfl ?_
                refine y_iload_n X dX4_viewColumn_150 3 rfl ?_
                refine y_callVr X (1) 3 (av := [.int (nI (a)), .int (nI (b0)), .int (nI (j))]) [] 3 (c_X3_unlikeValues (b := 1) (by omega) gT gw (a := a) (b0 := b0) (j := j) (by omega) (by omega) (by omega) gh) (by omega) h1 rfl gX4_viewColumn_X3_unlikeValues rfl (by decide +kernel) rfl ⟨Nat.le_of_ble_eq_true rfl, Nat.le_of_ble_eq_true rfl⟩ ⟨Nat.zero_le _, Nat.zero_le _⟩ (Nat.le_of_ble_eq_true rfl) rfl dX4_viewColumn_151 ?_
                exact y_iret X hr dX4_viewColumn_154 rfl ⟨congrArg (fun z => some (Value.int z)) (show (unl T (a) (j) (b0 + 1 - a)) = rVC T (nI a) (nI b0) (nI j) w by rw [rVC, if_pos ⟨⟨c_1, c_2⟩, c_3⟩, if_pos gwx, ix_nI (by omega), ix_nI (by omega), ix_nI (by omega), if_neg c_6, vcV, if_neg e70_0, if_neg e70_1, if_neg e70_2, if_neg e70_3]), rfl⟩
            ·
              have c_6 := Decidable.of_not_not c_6
              refine y_sipush X (v := (-10005)) dX4_viewColumn_64 (by decide) ?_
              exact y_iret X hr dX4_viewColumn_67 rfl ⟨congrArg (fun z => some (Value.int z)) (show (-10005) = rVC T (nI a) (nI b0) (nI j) w by rw [rVC, if_pos ⟨⟨c_1, c_2⟩, c_3⟩, if_pos gwx, ix_nI (by omega), ix_nI (by omega), ix_nI (by omega), if_pos (by first | exact c_6 | exact Decidable.of_not_not c_6)]), rfl⟩
          ·
            have gwn : ¬ xin w 5 := fun z9 => by have z8 := z9.1; have z7 := z9.2; omega
            refine y_sipush X (v := (-10002)) dX4_viewColumn_44 (by decide) ?_
            exact y_iret X hr dX4_viewColumn_47 rfl ⟨congrArg (fun z => some (Value.int z)) (show (-10002) = rVC T (nI a) (nI b0) (nI j) w by rw [rVC, if_pos ⟨⟨c_1, c_2⟩, c_3⟩, if_neg gwn]), rfl⟩
      ·
        refine y_sipush X (v := (-10001)) dX4_viewColumn_29 (by decide) ?_
        exact y_iret X hr dX4_viewColumn_32 rfl ⟨congrArg (fun z => some (Value.int z)) (show (-10001) = rVC T (nI a) (nI b0) u1 w by rw [rVC, if_neg (fun z => c_3 z.2)]), rfl⟩

set_option maxRecDepth 100000 in
set_option maxHeartbeats 4000000 in
theorem c_X4_bestSeason {l : Launch} {E : xE} {C : xC} {T : Tb} {hh : Nat → Tb} {hn : Nat} {sn : Option Tb} {tx : Nat → Int32} {ln : Nat} {sp : Option (Nat × Int32)} (gC : CX E C T hh hn sn tx ln sp) (gW : WX T hh hn sn tx ln sp) {w : Int32} : xR E l yX4_bestSeason wsX4_bestSeason 6 136 [.ref (E.2.1 (0)), .int w] C (rBs T w) := by
  obtain ⟨o, sl, cm, xt, cc, pl, nu, h0, h6, h7, h38, h39, h40, go5, gSL, gCM, gT, gRG, gSN0, gSN, gTX, gCD⟩ := id gC
  obtain ⟨gv, gn4, gWH, gWS, gl80, gch, gsp⟩ := id gW
  have gw := gv.1
  obtain ⟨gw1, gw2, gw3, gw4⟩ := id gv.1
  obtain ⟨zK, zD, zS, zV, h1, -, -, -, -, -⟩ := id gT
  refine xM_ofY (cc := cX4_bestSeason) (maxL := 3) (ret := (some .int)) (by decide) rfl (Nat.le_of_ble_eq_true rfl) ?_
  intro p e s m args below meth c X hr
  have inX4 : ∀ w ∈ wsX40, w ∈ wsX4_bestSeason := by decide +kernel
  refine y_lv [(0, .ref (E.2.1 (0))), (1, .int w)] rfl ?_
  refine y_iload_n X dX4_bestSeason_0 1 rfl ?_
  refine y_if_lt X 9 ((w).toInt < (0 : Int)) dX4_bestSeason_1 (by decide) (cLt rfl (by decide)) (fun c_1 => ?_) (fun c_1 => ?_)
  ·
    have gwn : ¬ xin w 2 := fun z9 => by have z8 := z9.1; have z7 := z9.2; omega
    refine y_sipush X (v := (-10002)) dX4_bestSeason_9 (by decide) ?_
    exact y_iret X hr dX4_bestSeason_12 rfl ⟨congrArg (fun z => some (Value.int z)) (show (-10002) = rBs T w by rw [rBs, if_neg gwn]), rfl⟩
  ·
    refine y_iload_n X dX4_bestSeason_4 1 rfl ?_
    refine y_iconst X (v := (1)) dX4_bestSeason_5 (by decide) ?_
    refine y_icmp_le X 13 ((w).toInt ≤ (1 : Int)) dX4_bestSeason_6 (by decide) (cLe rfl (by decide)) (fun c_2 => ?_) (fun c_2 => ?_)
    ·
      have gwx : xin w 2 := ⟨by omega, by omega⟩
      refine y_aload_n X dX4_bestSeason_13 0 rfl ?_
      refine y_get X (0) 4 0 (Cn := RX4) (T := TX4) (N := 7) (index := 10) (v := .ref (E.2.1 (1))) dX4_bestSeason_14 (by omega) h0 rfl (by decide) inX4 (by decide +kernel : Cond.fieldLink RX4 10 "ColumnSeasons" "table" "LColumnSeasons$Table;" ∈ wsX4_bestSeason) rfl rfl ?_
      refine y_callVr X (1) 3 (av := []) [] 0 (c_X3_seasonOfFewestLosses (b := 1) (by omega) gT gw ) (by omega) h1 rfl gX4_bestSeason_X3_seasonOfFewestLosses rfl (by decide +kernel) rfl ⟨Nat.le_of_ble_eq_true rfl, Nat.le_of_ble_eq_true rfl⟩ ⟨Nat.zero_le _, Nat.zero_le _⟩ (Nat.le_of_ble_eq_true rfl) rfl dX4_bestSeason_17 ?_
      refine y_istore_n X [(2, .int (nI (bsC T))), (0, .ref (E.2.1 (0))), (1, .int w)] dX4_bestSeason_20 rfl (by decide) rfl ?_
      refine y_iload_n X dX4_bestSeason_21 2 rfl ?_
      refine y_if_ne X 29 (¬ (w = (0))) dX4_bestSeason_22 (by decide) Iff.rfl (fun c_3 => ?_) (fun c_3 => ?_)
      ·
        have gbs := bsC_lt gw1
        refine y_aload_n X dX4_bestSeason_29 1 rfl ?_
        refine y_get X (0) 4 0 (Cn := RX4) (T := TX4) (N := 7) (index := 10) (v := .ref (E.2.1 (1))) dX4_bestSeason_30 (by omega) h0 rfl (by decide) inX4 (by decide +kernel : Cond.fieldLink RX4 10 "ColumnSeasons" "table" "LColumnSeasons$Table;" ∈ wsX4_bestSeason) rfl rfl ?_
        refine y_iload_n X dX4_bestSeason_33 0 rfl ?_
        refine y_callVr X (1) 3 (av := [.int (nI (bsC T))]) [] 1 (c_X3_lossesIn (b := 1) (by omega) gT gw (q := bsC T) (by omega)) (by omega) h1 rfl gX4_bestSeason_X3_lossesIn rfl (by decide +kernel) rfl ⟨Nat.le_of_ble_eq_true rfl, Nat.le_of_ble_eq_true rfl⟩ ⟨Nat.zero_le _, Nat.zero_le _⟩ (Nat.le_of_ble_eq_true rfl) rfl dX4_bestSeason_34 ?_
        exact y_iret X hr dX4_bestSeason_37 rfl ⟨congrArg (fun z => some (Value.int z)) (show (lsA T (bsC T)) = rBs T w by rw [rBs, if_pos gwx, if_neg c_3]), rfl⟩
      ·
        have c_3 := Decidable.of_not_not c_3
        refine y_iload_n X dX4_bestSeason_25 0 rfl ?_
        refine y_goto X 37 dX4_bestSeason_26 (by decide) ?_
        exact y_iret X hr dX4_bestSeason_37 rfl ⟨congrArg (fun z => some (Value.int z)) (show (nI (bsC T)) = rBs T w by rw [rBs, if_pos gwx, if_pos c_3]), rfl⟩
    ·
      have gwn : ¬ xin w 2 := fun z9 => by have z8 := z9.1; have z7 := z9.2; omega
      refine y_sipush X (v := (-10002)) dX4_bestSeason_9 (by decide) ?_
      exact y_iret X hr dX4_bestSeason_12 rfl ⟨congrArg (fun z => some (Value.int z)) (show (-10002) = rBs T w by rw [rBs, if_neg gwn]), rfl⟩

set_option maxRecDepth 100000 in
set_option maxHeartbeats 4000000 in
theorem c_X4_count {l : Launch} {E : xE} {C : xC} {T : Tb} {hh : Nat → Tb} {hn : Nat} {sn : Option Tb} {tx : Nat → Int32} {ln : Nat} {sp : Option (Nat × Int32)} (gC : CX E C T hh hn sn tx ln sp) (gW : WX T hh hn sn tx ln sp) {w : Int32} : xR E l yX4_count wsX4_count 5 112 [.ref (E.2.1 (0)), .int w] C (rCt T hn ln w) := by
  obtain ⟨o, sl, cm, xt, cc, pl, nu, h0, h6, h7, h38, h39, h40, go5, gSL, gCM, gT, gRG, gSN0, gSN, gTX, gCD⟩ := id gC
  obtain ⟨gv, gn4, gWH, gWS, gl80, gch, gsp⟩ := id gW
  have gw := gv.1
  obtain ⟨gw1, gw2, gw3, gw4⟩ := id gv.1
  obtain ⟨zK, zD, zS, zV, h1, -, -, -, -, -⟩ := id gT
  refine xM_ofY (cc := cX4_count) (maxL := 2) (ret := (some .int)) (by decide) rfl (Nat.le_of_ble_eq_true rfl) ?_
  intro p e s m args below meth c X hr
  have inX1 : ∀ w ∈ wsX10, w ∈ wsX4_count := by decide +kernel
  have inX2 : ∀ w ∈ wsX20, w ∈ wsX4_count := by decide +kernel
  have inX3 : ∀ w ∈ wsX30, w ∈ wsX4_count := by decide +kernel
  have inX4 : ∀ w ∈ wsX40, w ∈ wsX4_count := by decide +kernel
  refine y_lv [(0, .ref (E.2.1 (0))), (1, .int w)] rfl ?_
  refine y_iload_n X dX4_count_0 1 rfl ?_
  by_cases e1_0 : w = 0
  ·
    subst e1_0
    refine y_tableIn X 52 (off := 51) dX4_count_1 (by decide) (by decide) (by decide) (by decide) ?_
    refine y_aload_n X dX4_count_52 0 rfl ?_
    refine y_get X (0) 4 0 (Cn := RX4) (T := TX4) (N := 7) (index := 10) (v := .ref (E.2.1 (1))) dX4_count_53 (by omega) h0 rfl (by decide) inX4 (by decide +kernel : Cond.fieldLink RX4 10 "ColumnSeasons" "table" "LColumnSeasons$Table;" ∈ wsX4_count) rfl rfl ?_
    refine y_callVr X (1) 3 (av := []) [] 0 (c_X3_now (b := 1) (n := tn T) (by omega) (by omega) h1) (by omega) h1 rfl gX4_count_X3_now rfl (by decide +kernel) rfl ⟨Nat.le_of_ble_eq_true rfl, Nat.le_of_ble_eq_true rfl⟩ ⟨Nat.zero_le _, Nat.zero_le _⟩ (Nat.le_of_ble_eq_true rfl) rfl dX4_count_56 ?_
    exact y_iret X hr dX4_count_59 rfl ⟨congrArg (fun z => some (Value.int z)) (show (nI ((tn T) - 1)) = rCt T hn ln (0) by rw [rCt, if_pos rfl]), rfl⟩
  by_cases e1_1 : w = 1
  ·
    subst e1_1
    refine y_tableIn X 60 (off := 59) dX4_count_1 (by decide) (by decide) (by decide) (by decide) ?_
    refine y_aload_n X dX4_count_60 0 rfl ?_
    refine y_get X (0) 4 0 (Cn := RX4) (T := TX4) (N := 7) (index := 10) (v := .ref (E.2.1 (1))) dX4_count_61 (by omega) h0 rfl (by decide) inX4 (by decide +kernel : Cond.fieldLink RX4 10 "ColumnSeasons" "table" "LColumnSeasons$Table;" ∈ wsX4_count) rfl rfl ?_
    refine y_aload_n X dX4_count_64 0 rfl ?_
    refine y_get X (0) 4 0 (Cn := RX4) (T := TX4) (N := 7) (index := 10) (v := .ref (E.2.1 (1))) dX4_count_65 (by omega) h0 rfl (by decide) inX4 (by decide +kernel : Cond.fieldLink RX4 10 "ColumnSeasons" "table" "LColumnSeasons$Table;" ∈ wsX4_count) rfl rfl ?_
    refine y_callVr X (1) 3 (av := []) [.ref (E.2.1 (1))] 0 (c_X3_now (b := 1) (n := tn T) (by omega) (by omega) h1) (by omega) h1 rfl gX4_count_X3_now rfl (by decide +kernel) rfl ⟨Nat.le_of_ble_eq_true rfl, Nat.le_of_ble_eq_true rfl⟩ ⟨Nat.zero_le _, Nat.zero_le _⟩ (Nat.le_of_ble_eq_true rfl) rfl dX4_count_68 ?_
    refine y_callVr X (1) 3 (av := [.int (nI ((tn T) - 1))]) [] 1 (c_X3_namesIn (b := 1) (by omega) gT gw (q := (tn T) - 1) (by omega)) (by omega) h1 rfl gX4_count_X3_namesIn rfl (by decide +kernel) rfl ⟨Nat.le_of_ble_eq_true rfl, Nat.le_of_ble_eq_true rfl⟩ ⟨Nat.zero_le _, Nat.zero_le _⟩ (Nat.le_of_ble_eq_true rfl) rfl dX4_count_71 ?_
    refine y_callJr X (av := [.int (nmS T ((tn T) - 1))]) [] 1 (c_J6_bitCount_0f7a4 (x := (nmS T ((tn T) - 1)))) gX4_count_J6_bitCount_0f7a4 rfl (by decide +kernel) rfl ⟨Nat.le_of_ble_eq_true rfl, Nat.le_of_ble_eq_true rfl⟩ ⟨Nat.zero_le _, Nat.zero_le _⟩ (Nat.le_of_ble_eq_true rfl) rfl dX4_count_74 ?_
    exact y_iret X hr dX4_count_77 rfl ⟨congrArg (fun z => some (Value.int z)) (show (bcn (nmS T ((tn T) - 1))) = rCt T hn ln (1) by rw [rCt, if_neg (by decide), if_pos rfl]), rfl⟩
  by_cases e1_2 : w = 2
  ·
    subst e1_2
    refine y_tableIn X 78 (off := 77) dX4_count_1 (by decide) (by decide) (by decide) (by decide) ?_
    refine y_aload_n X dX4_count_78 0 rfl ?_
    refine y_get X (0) 4 0 (Cn := RX4) (T := TX4) (N := 7) (index := 10) (v := .ref (E.2.1 (1))) dX4_count_79 (by omega) h0 rfl (by decide) inX4 (by decide +kernel : Cond.fieldLink RX4 10 "ColumnSeasons" "table" "LColumnSeasons$Table;" ∈ wsX4_count) rfl rfl ?_
    refine y_getN X (1) 3 3 (Cn := RX3) (T := TX3) (N := 6) (index := 118) (v := .int (nI (tr T))) dX4_count_82 (by omega) h1 rfl (by decide) inX3 (by decide +kernel : Cond.fieldLinkNest RX4 118 "ColumnSeasons$Table" "rows" "I" "ColumnSeasons" ∈ xnest) rfl rfl ?_
    exact y_iret X hr dX4_count_85 rfl ⟨congrArg (fun z => some (Value.int z)) (show (nI (tr T)) = rCt T hn ln (2) by rw [rCt, if_neg (by decide), if_neg (by decide), if_pos rfl]), rfl⟩
  by_cases e1_3 : w = 3
  ·
    subst e1_3
    refine y_tableIn X 86 (off := 85) dX4_count_1 (by decide) (by decide) (by decide) (by decide) ?_
    refine y_aload_n X dX4_count_86 0 rfl ?_
    refine y_get X (0) 4 0 (Cn := RX4) (T := TX4) (N := 7) (index := 10) (v := .ref (E.2.1 (1))) dX4_count_87 (by omega) h0 rfl (by decide) inX4 (by decide +kernel : Cond.fieldLink RX4 10 "ColumnSeasons" "table" "LColumnSeasons$Table;" ∈ wsX4_count) rfl rfl ?_
    refine y_aload_n X dX4_count_90 0 rfl ?_
    refine y_get X (0) 4 0 (Cn := RX4) (T := TX4) (N := 7) (index := 10) (v := .ref (E.2.1 (1))) dX4_count_91 (by omega) h0 rfl (by decide) inX4 (by decide +kernel : Cond.fieldLink RX4 10 "ColumnSeasons" "table" "LColumnSeasons$Table;" ∈ wsX4_count) rfl rfl ?_
    refine y_callVr X (1) 3 (av := []) [.ref (E.2.1 (1))] 0 (c_X3_now (b := 1) (n := tn T) (by omega) (by omega) h1) (by omega) h1 rfl gX4_count_X3_now rfl (by decide +kernel) rfl ⟨Nat.le_of_ble_eq_true rfl, Nat.le_of_ble_eq_true rfl⟩ ⟨Nat.zero_le _, Nat.zero_le _⟩ (Nat.le_of_ble_eq_true rfl) rfl dX4_count_94 ?_
    refine y_callVr X (1) 3 (av := [.int (nI ((tn T) - 1))]) [] 1 (c_X3_rowsOfSeason (b := 1) (by omega) gT gw (q := (tn T) - 1) (by omega)) (by omega) h1 rfl gX4_count_X3_rowsOfSeason rfl (by decide +kernel) rfl ⟨Nat.le_of_ble_eq_true rfl, Nat.le_of_ble_eq_true rfl⟩ ⟨Nat.zero_le _, Nat.zero_le _⟩ (Nat.le_of_ble_eq_true rfl) rfl dX4_count_97 ?_
    exact y_iret X hr dX4_count_100 rfl ⟨congrArg (fun z => some (Value.int z)) (show (wear T ((tn T) - 1)) = rCt T hn ln (3) by rw [rCt, if_neg (by decide), if_neg (by decide), if_neg (by decide), if_pos rfl]), rfl⟩
  by_cases e1_4 : w = 4
  ·
    subst e1_4
    refine y_tableIn X 101 (off := 100) dX4_count_1 (by decide) (by decide) (by decide) (by decide) ?_
    refine y_aload_n X dX4_count_101 0 rfl ?_
    refine y_get X (0) 4 0 (Cn := RX4) (T := TX4) (N := 7) (index := 10) (v := .ref (E.2.1 (1))) dX4_count_102 (by omega) h0 rfl (by decide) inX4 (by decide +kernel : Cond.fieldLink RX4 10 "ColumnSeasons" "table" "LColumnSeasons$Table;" ∈ wsX4_count) rfl rfl ?_
    refine y_callVr X (1) 3 (av := []) [] 0 (c_X3_valuesOfAllRows (b := 1) (by omega) gT gw ) (by omega) h1 rfl gX4_count_X3_valuesOfAllRows rfl (by decide +kernel) rfl ⟨Nat.le_of_ble_eq_true rfl, Nat.le_of_ble_eq_true rfl⟩ ⟨Nat.zero_le _, Nat.zero_le _⟩ (Nat.le_of_ble_eq_true rfl) rfl dX4_count_105 ?_
    exact y_iret X hr dX4_count_108 rfl ⟨congrArg (fun z => some (Value.int z)) (show (allV T) = rCt T hn ln (4) by rw [rCt, if_neg (by decide), if_neg (by decide), if_neg (by decide), if_neg (by decide), if_pos rfl]), rfl⟩
  by_cases e1_5 : w = 5
  ·
    subst e1_5
    refine y_tableIn X 109 (off := 108) dX4_count_1 (by decide) (by decide) (by decide) (by decide) ?_
    refine y_aload_n X dX4_count_109 0 rfl ?_
    refine y_get X (0) 4 0 (Cn := RX4) (T := TX4) (N := 7) (index := 10) (v := .ref (E.2.1 (1))) dX4_count_110 (by omega) h0 rfl (by decide) inX4 (by decide +kernel : Cond.fieldLink RX4 10 "ColumnSeasons" "table" "LColumnSeasons$Table;" ∈ wsX4_count) rfl rfl ?_
    refine y_aload_n X dX4_count_113 0 rfl ?_
    refine y_get X (0) 4 0 (Cn := RX4) (T := TX4) (N := 7) (index := 10) (v := .ref (E.2.1 (1))) dX4_count_114 (by omega) h0 rfl (by decide) inX4 (by decide +kernel : Cond.fieldLink RX4 10 "ColumnSeasons" "table" "LColumnSeasons$Table;" ∈ wsX4_count) rfl rfl ?_
    refine y_callVr X (1) 3 (av := []) [.ref (E.2.1 (1))] 0 (c_X3_now (b := 1) (n := tn T) (by omega) (by omega) h1) (by omega) h1 rfl gX4_count_X3_now rfl (by decide +kernel) rfl ⟨Nat.le_of_ble_eq_true rfl, Nat.le_of_ble_eq_true rfl⟩ ⟨Nat.zero_le _, Nat.zero_le _⟩ (Nat.le_of_ble_eq_true rfl) rfl dX4_count_117 ?_
    refine y_callVr X (1) 3 (av := [.int (nI ((tn T) - 1))]) [] 1 (c_X3_lossesIn (b := 1) (by omega) gT gw (q := (tn T) - 1) (by omega)) (by omega) h1 rfl gX4_count_X3_lossesIn rfl (by decide +kernel) rfl ⟨Nat.le_of_ble_eq_true rfl, Nat.le_of_ble_eq_true rfl⟩ ⟨Nat.zero_le _, Nat.zero_le _⟩ (Nat.le_of_ble_eq_true rfl) rfl dX4_count_120 ?_
    exact y_iret X hr dX4_count_123 rfl ⟨congrArg (fun z => some (Value.int z)) (show (lsA T ((tn T) - 1)) = rCt T hn ln (5) by rw [rCt, if_neg (by decide), if_neg (by decide), if_neg (by decide), if_neg (by decide), if_neg (by decide), if_pos rfl]), rfl⟩
  by_cases e1_6 : w = 6
  ·
    subst e1_6
    refine y_tableIn X 124 (off := 123) dX4_count_1 (by decide) (by decide) (by decide) (by decide) ?_
    refine y_aload_n X dX4_count_124 0 rfl ?_
    refine y_get X (0) 4 0 (Cn := RX4) (T := TX4) (N := 7) (index := 10) (v := .ref (E.2.1 (1))) dX4_count_125 (by omega) h0 rfl (by decide) inX4 (by decide +kernel : Cond.fieldLink RX4 10 "ColumnSeasons" "table" "LColumnSeasons$Table;" ∈ wsX4_count) rfl rfl ?_
    refine y_callVr X (1) 3 (av := []) [] 0 (c_X3_namesOfAllSeasons (b := 1) (by omega) gT gw ) (by omega) h1 rfl gX4_count_X3_namesOfAllSeasons rfl (by decide +kernel) rfl ⟨Nat.le_of_ble_eq_true rfl, Nat.le_of_ble_eq_true rfl⟩ ⟨Nat.zero_le _, Nat.zero_le _⟩ (Nat.le_of_ble_eq_true rfl) rfl dX4_count_128 ?_
    exact y_iret X hr dX4_count_131 rfl ⟨congrArg (fun z => some (Value.int z)) (show (evN T) = rCt T hn ln (6) by rw [rCt, if_neg (by decide), if_neg (by decide), if_neg (by decide), if_neg (by decide), if_neg (by decide), if_neg (by decide), if_pos rfl]), rfl⟩
  by_cases e1_7 : w = 7
  ·
    subst e1_7
    refine y_tableIn X 132 (off := 131) dX4_count_1 (by decide) (by decide) (by decide) (by decide) ?_
    refine y_aload_n X dX4_count_132 0 rfl ?_
    refine y_get X (0) 4 1 (Cn := RX4) (T := TX4) (N := 7) (index := 19) (v := .ref (E.2.1 (6))) dX4_count_133 (by omega) h0 rfl (by decide) inX4 (by decide +kernel : Cond.fieldLink RX4 19 "ColumnSeasons" "history" "LColumnSeasons$History;" ∈ wsX4_count) rfl rfl ?_
    refine y_getN X (6) 1 2 (Cn := RX1) (T := TX1) (N := 3) (index := 114) (v := .int (nI (hn))) dX4_count_136 (by omega) h6 rfl (by decide) inX1 (by decide +kernel : Cond.fieldLinkNest RX4 114 "ColumnSeasons$History" "length" "I" "ColumnSeasons" ∈ xnest) rfl rfl ?_
    exact y_iret X hr dX4_count_139 rfl ⟨congrArg (fun z => some (Value.int z)) (show (nI (hn)) = rCt T hn ln (7) by rw [rCt, if_neg (by decide), if_neg (by decide), if_neg (by decide), if_neg (by decide), if_neg (by decide), if_neg (by decide), if_neg (by decide), if_pos rfl]), rfl⟩
  by_cases e1_8 : w = 8
  ·
    subst e1_8
    refine y_tableIn X 140 (off := 139) dX4_count_1 (by decide) (by decide) (by decide) (by decide) ?_
    refine y_aload_n X dX4_count_140 0 rfl ?_
    refine y_get X (0) 4 4 (Cn := RX4) (T := TX4) (N := 7) (index := 33) (v := .ref (E.2.1 (38))) dX4_count_141 (by omega) h0 rfl (by decide) inX4 (by decide +kernel : Cond.fieldLink RX4 33 "ColumnSeasons" "script" "LColumnSeasons$Script;" ∈ wsX4_count) rfl rfl ?_
    refine y_getN X (38) 2 1 (Cn := RX2) (T := TX2) (N := 6) (index := 83) (v := .int (nI (ln))) dX4_count_144 (by omega) h38 rfl (by decide) inX2 (by decide +kernel : Cond.fieldLinkNest RX4 83 "ColumnSeasons$Script" "length" "I" "ColumnSeasons" ∈ xnest) rfl rfl ?_
    exact y_iret X hr dX4_count_147 rfl ⟨congrArg (fun z => some (Value.int z)) (show (nI (ln)) = rCt T hn ln (8) by rw [rCt, if_neg (by decide), if_neg (by decide), if_neg (by decide), if_neg (by decide), if_neg (by decide), if_neg (by decide), if_neg (by decide), if_neg (by decide), if_pos rfl]), rfl⟩
  ·
    have t1_0 : ¬ (w).toInt = 0 := fun z => e1_0 (Int32.toInt_inj.mp (z.trans (by decide)))
    have t1_1 : ¬ (w).toInt = 1 := fun z => e1_1 (Int32.toInt_inj.mp (z.trans (by decide)))
    have t1_2 : ¬ (w).toInt = 2 := fun z => e1_2 (Int32.toInt_inj.mp (z.trans (by decide)))
    have t1_3 : ¬ (w).toInt = 3 := fun z => e1_3 (Int32.toInt_inj.mp (z.trans (by decide)))
    have t1_4 : ¬ (w).toInt = 4 := fun z => e1_4 (Int32.toInt_inj.mp (z.trans (by decide)))
    have t1_5 : ¬ (w).toInt = 5 := fun z => e1_5 (Int32.toInt_inj.mp (z.trans (by decide)))
    have t1_6 : ¬ (w).toInt = 6 := fun z => e1_6 (Int32.toInt_inj.mp (z.trans (by decide)))
    have t1_7 : ¬ (w).toInt = 7 := fun z => e1_7 (Int32.toInt_inj.mp (z.trans (by decide)))
    have t1_8 : ¬ (w).toInt = 8 := fun z => e1_8 (Int32.toInt_inj.mp (z.trans (by decide)))
    refine y_tableOut X 148 dX4_count_1 (by omega) (by decide) ?_
    refine y_sipush X (v := (-10002)) dX4_count_148 (by decide) ?_
    exact y_iret X hr dX4_count_151 rfl ⟨congrArg (fun z => some (Value.int z)) (show (-10002) = rCt T hn ln w by rw [rCt, if_neg e1_0, if_neg e1_1, if_neg e1_2, if_neg e1_3, if_neg e1_4, if_neg e1_5, if_neg e1_6, if_neg e1_7, if_neg e1_8]), rfl⟩
