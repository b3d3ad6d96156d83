set_option maxRecDepth 100000 in
set_option maxHeartbeats 4000000 in
theorem c_L_low {l : Launch} {E : xE} {C : xC} {x : Int32} {n : Nat} (gn : 0 < n) (gn2 : n < 2 ^ 31) : xR E l yL_low wsL_low 0 0 [.int x, .int (nI (n))] C (nI (lowN x n)) := by
  refine xM_ofY (cc := cL_low) (maxL := 2) (ret := (some .int)) (by decide) rfl (Nat.le_of_ble_eq_true rfl) ?_
  intro p e s m args below meth c X hr
  refine y_lv [(0, .int x), (1, .int (nI (n)))] rfl ?_
  have glw := lowW_lt x
  refine y_iload_n X dL_low_0 0 rfl ?_
  refine y_ldc X (v := 2147483647) dL_low_1 (by decide +kernel) ?_
  refine y_iand X (z := (nI (lowW x))) dL_low_3 (lowW_and x) ?_
  refine y_iload_n X dL_low_4 1 rfl ?_
  refine y_irem X (z := (nI (lowN x n))) dL_low_5 (nI_ne0 gn gn2) (pk_rem (a := lowW x) (d := n) glw gn gn2) ?_
  exact y_iret X hr dL_low_6 rfl (by first | exact ⟨rfl, rfl⟩ | exact ⟨congrArg (fun z => some (Value.int z)) (bI_1 (by omega)).symm, rfl⟩ | exact ⟨congrArg (fun z => some (Value.int z)) (bI_0 (by omega)).symm, rfl⟩)

set_option maxRecDepth 100000 in
set_option maxHeartbeats 4000000 in
theorem c_L_cell {l : Launch} {E : xE} {C : xC} {k : Nat} (gk : k < 2 ^ 20) (gl : xsl E < 2 ^ 20) : xR E l yL_cell wsL_cell 0 0 [.ref (xsb E), .int (nI (k))] C (cel E k) := by
  refine xM_ofY (cc := cL_cell) (maxL := 2) (ret := (some .int)) (by decide) rfl (Nat.le_of_ble_eq_true rfl) ?_
  intro p e s m args below meth c X hr
  refine y_lv [(0, .ref (xsb E)), (1, .int (nI (k)))] rfl ?_
  refine y_iload_n X dL_cell_0 1 rfl ?_
  refine y_aload_n X dL_cell_1 0 rfl ?_
  refine y_slen X dL_cell_2 ?_
  refine y_icmp_ge X 12 ((xsl E) ≤ (k)) dL_cell_3 (by decide) (nI_leI (a := xsl E) (b := k) (by omega) (by omega)) (fun c_1 => ?_) (fun c_1 => ?_)
  ·
    refine y_ldc X (v := 40503) dL_cell_12 (by decide +kernel) ?_
    refine y_iload_n X dL_cell_14 1 rfl ?_
    refine y_imul X (z := (nI ((40503) * (k)))) dL_cell_15 (pk_mul (40503) (k)) ?_
    refine y_sipush X (v := (977)) dL_cell_16 (by decide) ?_
    refine y_iadd X (z := (nI ((40503) * (k) + 977))) dL_cell_19 (nI_add ((40503) * (k)) (977)) ?_
    exact y_iret X hr dL_cell_20 rfl ⟨congrArg (fun z => some (Value.int z)) (show (nI ((40503) * (k) + 977)) = cel E k by rw [cel, if_neg (by omega)]), rfl⟩
  ·
    refine y_aload_n X dL_cell_6 0 rfl ?_
    refine y_iload_n X dL_cell_7 1 rfl ?_
    refine y_sld X (j := k) dL_cell_8 rfl (by omega) (by omega) rfl ?_
    refine y_goto X 20 dL_cell_9 (by decide) ?_
    exact y_iret X hr dL_cell_20 rfl ⟨congrArg (fun z => some (Value.int z)) (show (xsx E (k)) = cel E k by rw [cel, if_pos (by omega)]), rfl⟩

set_option maxRecDepth 100000 in
set_option maxHeartbeats 4000000 in
theorem c_L_least {l : Launch} {E : xE} {C : xC} {x : Int32} : xR E l yL_least wsL_least 0 0 [.int x] C (loK x) := by
  refine xM_ofY (cc := cL_least) (maxL := 1) (ret := (some .int)) (by decide) rfl (Nat.le_of_ble_eq_true rfl) ?_
  intro p e s m args below meth c X hr
  refine y_lv [(0, .int x)] rfl ?_
  refine y_iload_n X dL_least_0 0 rfl ?_
  refine y_iconst X (v := (2)) dL_least_1 (by decide) ?_
  refine y_icmp_ne X 11 (¬ (x = (2))) dL_least_2 (by decide) Iff.rfl (fun c_1 => ?_) (fun c_1 => ?_)
  ·
    refine y_iconst X (v := (0)) dL_least_11 (by decide) ?_
    exact y_iret X hr dL_least_12 rfl ⟨by simp [loK, c_1], rfl⟩
  ·
    have c_1 := Decidable.of_not_not c_1
    refine y_sipush X (v := (-9999)) dL_least_5 (by decide) ?_
    refine y_goto X 12 dL_least_8 (by decide) ?_
    exact y_iret X hr dL_least_12 rfl ⟨by simp [loK, c_1], rfl⟩

set_option maxRecDepth 100000 in
set_option maxHeartbeats 4000000 in
theorem c_L_most {l : Launch} {E : xE} {C : xC} {x : Int32} : xR E l yL_most wsL_most 0 0 [.int x] C (hiK x) := by
  refine xM_ofY (cc := cL_most) (maxL := 1) (ret := (some .int)) (by decide) rfl (Nat.le_of_ble_eq_true rfl) ?_
  intro p e s m args below meth c X hr
  refine y_lv [(0, .int x)] rfl ?_
  refine y_iload_n X dL_most_0 0 rfl ?_
  refine y_if_ne X 8 (¬ (x = (0))) dL_most_1 (by decide) Iff.rfl (fun c_1 => ?_) (fun c_1 => ?_)
  ·
    refine y_iload_n X dL_most_8 0 rfl ?_
    refine y_iconst X (v := (1)) dL_most_9 (by decide) ?_
    refine y_icmp_ne X 18 (¬ (x = (1))) dL_most_10 (by decide) Iff.rfl (fun c_2 => ?_) (fun c_2 => ?_)
    ·
      refine y_sipush X (v := (9999)) dL_most_18 (by decide) ?_
      exact y_iret X hr dL_most_21 rfl ⟨by simp [hiK, c_1, c_2], rfl⟩
    ·
      have c_2 := Decidable.of_not_not c_2
      refine y_bipush X (v := (9)) dL_most_13 (by decide) ?_
      refine y_goto X 21 dL_most_15 (by decide) ?_
      exact y_iret X hr dL_most_21 rfl ⟨by simp [hiK, c_1, c_2], rfl⟩
  ·
    have c_1 := Decidable.of_not_not c_1
    refine y_iconst X (v := (1)) dL_most_4 (by decide) ?_
    refine y_goto X 21 dL_most_5 (by decide) ?_
    exact y_iret X hr dL_most_21 rfl ⟨by simp [hiK, c_1], rfl⟩

set_option maxRecDepth 100000 in
set_option maxHeartbeats 4000000 in
theorem c_L_cast {l : Launch} {E : xE} {C : xC} {x y : Int32} : xR E l yL_cast wsL_cast 0 0 [.int x, .int y] C (lcs x y) := by
  refine xM_ofY (cc := cL_cast) (maxL := 2) (ret := (some .int)) (by decide) rfl (Nat.le_of_ble_eq_true rfl) ?_
  intro p e s m args below meth c X hr
  refine y_lv [(0, .int x), (1, .int y)] rfl ?_
  refine y_iload_n X dL_cast_0 1 rfl ?_
  refine y_iconst X (v := (2)) dL_cast_1 (by decide) ?_
  refine y_icmp_ne X 9 (¬ (y = (2))) dL_cast_2 (by decide) Iff.rfl (fun c_1 => ?_) (fun c_1 => ?_)
  ·
    refine y_iload_n X dL_cast_9 1 rfl ?_
    refine y_if_ne X 25 (¬ (y = (0))) dL_cast_10 (by decide) Iff.rfl (fun c_2 => ?_) (fun c_2 => ?_)
    ·
      refine y_iload_n X dL_cast_25 0 rfl ?_
      refine y_if_ge X 33 ((0) ≤ x) dL_cast_26 (by decide) Iff.rfl (fun c_3 => ?_) (fun c_3 => ?_)
      ·
        refine y_iload_n X dL_cast_33 0 rfl ?_
        refine y_bipush X (v := (9)) dL_cast_34 (by decide) ?_
        refine y_icmp_le X 44 (x ≤ (9)) dL_cast_36 (by decide) Iff.rfl (fun c_4 => ?_) (fun c_4 => ?_)
        ·
          refine y_iload_n X dL_cast_44 0 rfl ?_
          exact y_iret X hr dL_cast_45 rfl ⟨congrArg (fun z => some (Value.int z)) (show x = lcs x y by rw [lcs, if_neg c_1, if_neg c_2, if_neg (Int32.not_lt.mpr c_3), if_neg (Int32.not_lt.mpr c_4)]), rfl⟩
        ·
          refine y_bipush X (v := (9)) dL_cast_39 (by decide) ?_
          refine y_goto X 45 dL_cast_41 (by decide) ?_
          exact y_iret X hr dL_cast_45 rfl ⟨congrArg (fun z => some (Value.int z)) (show (9) = lcs x y by rw [lcs, if_neg c_1, if_neg c_2, if_neg (Int32.not_lt.mpr c_3), if_pos (Int32.not_le.mp c_4)]), rfl⟩
      ·
        refine y_iconst X (v := (0)) dL_cast_29 (by decide) ?_
        refine y_goto X 45 dL_cast_30 (by decide) ?_
        exact y_iret X hr dL_cast_45 rfl ⟨congrArg (fun z => some (Value.int z)) (show (0) = lcs x y by rw [lcs, if_neg c_1, if_neg c_2, if_pos (Int32.not_le.mp c_3)]), rfl⟩
    ·
      have c_2 := Decidable.of_not_not c_2
      refine y_iload_n X dL_cast_13 0 rfl ?_
      refine y_if_ne X 21 (¬ (x = (0))) dL_cast_14 (by decide) Iff.rfl (fun c_5 => ?_) (fun c_5 => ?_)
      ·
        refine y_iconst X (v := (1)) dL_cast_21 (by decide) ?_
        refine y_goto X 45 dL_cast_22 (by decide) ?_
        exact y_iret X hr dL_cast_45 rfl ⟨congrArg (fun z => some (Value.int z)) (show (1) = lcs x y by rw [lcs, if_neg c_1, if_pos c_2, if_neg c_5]), rfl⟩
      ·
        have c_5 := Decidable.of_not_not c_5
        refine y_iconst X (v := (0)) dL_cast_17 (by decide) ?_
        refine y_goto X 45 dL_cast_18 (by decide) ?_
        exact y_iret X hr dL_cast_45 rfl ⟨congrArg (fun z => some (Value.int z)) (show (0) = lcs x y by rw [lcs, if_neg c_1, if_pos c_2, if_pos c_5]), rfl⟩
  ·
    have c_1 := Decidable.of_not_not c_1
    refine y_iload_n X dL_cast_5 0 rfl ?_
    refine y_goto X 45 dL_cast_6 (by decide) ?_
    exact y_iret X hr dL_cast_45 rfl ⟨congrArg (fun z => some (Value.int z)) (show x = lcs x y by rw [lcs, if_pos c_1]), rfl⟩

set_option maxRecDepth 100000 in
set_option maxHeartbeats 4000000 in
theorem c_L_valued {l : Launch} {E : xE} {C : xC} {x y : Int32} : xM E l yL_valued wsL_valued 1 21 [.int x, .int y] C (fun v C1 => (∃ r9 : Int32, v = some (.int r9)) ∧ C1 = C) := by
  refine xM_ofY (cc := cL_valued) (maxL := 4) (ret := (some .int)) (by decide) rfl (Nat.le_of_ble_eq_true rfl) ?_
  intro p e s m args below meth c X hr
  refine y_lv [(0, .int x), (1, .int y)] rfl ?_
  refine y_iload_n X dL_valued_0 0 rfl ?_
  refine y_bipush X (v := (13)) dL_valued_1 (by decide) ?_
  have glo_1 : lowN x (13) < 13 := lowN_lt (by omega)
  refine y_callJr X (av := [.int x, .int (13)]) [] 2 (c_L_low (x := x) (n := 13) (by omega) (by omega)) gL_valued_L_low rfl (by decide +kernel) rfl ⟨Nat.le_of_ble_eq_true rfl, Nat.le_of_ble_eq_true rfl⟩ ⟨Nat.zero_le _, Nat.zero_le _⟩ (Nat.le_of_ble_eq_true rfl) rfl dL_valued_3 ?_
  refine y_iconst X (v := (1)) dL_valued_6 (by decide) ?_
  refine y_isub X (z := ((nI (lowN x (13))) - (1))) dL_valued_7 rfl ?_
  refine y_istore_n X [(2, .int ((nI (lowN x (13))) - (1))), (0, .int x), (1, .int y)] dL_valued_8 rfl (by decide) rfl ?_
  refine y_iload_n X dL_valued_9 1 rfl ?_
  refine y_iconst X (v := (4)) dL_valued_10 (by decide) ?_
  refine y_ishr X (z := (x >>> ((4) &&& 31))) dL_valued_11 rfl ?_
  refine y_iconst X (v := (3)) dL_valued_12 (by decide) ?_
  have glo_2 : lowN (x >>> ((4) &&& 31)) (3) < 3 := lowN_lt (by omega)
  refine y_callJr X (av := [.int (x >>> ((4) &&& 31)), .int (3)]) [] 2 (c_L_low (x := (x >>> ((4) &&& 31))) (n := 3) (by omega) (by omega)) gL_valued_L_low rfl (by decide +kernel) rfl ⟨Nat.le_of_ble_eq_true rfl, Nat.le_of_ble_eq_true rfl⟩ ⟨Nat.zero_le _, Nat.zero_le _⟩ (Nat.le_of_ble_eq_true rfl) rfl dL_valued_13 ?_
  refine y_if_le X 23 ((lowN (x >>> ((4) &&& 31)) (3)) ≤ (0)) dL_valued_16 (by decide) (nI_leI (a := lowN (x >>> ((4) &&& 31)) (3)) (b := 0) (by omega) (by omega)) (fun c_3 => ?_) (fun c_3 => ?_)
  ·
    refine y_iload_n X dL_valued_23 1 rfl ?_
    refine y_bipush X (v := (6)) dL_valued_24 (by decide) ?_
    refine y_ishr X (z := (x >>> ((6) &&& 31))) dL_valued_26 rfl ?_
    refine y_sipush X (v := (19999)) dL_valued_27 (by decide) ?_
    have glo_4 : lowN (x >>> ((6) &&& 31)) (19999) < 19999 := lowN_lt (by omega)
    refine y_callJr X (av := [.int (x >>> ((6) &&& 31)), .int (19999)]) [] 2 (c_L_low (x := (x >>> ((6) &&& 31))) (n := 19999) (by omega) (by omega)) gL_valued_L_low rfl (by decide +kernel) rfl ⟨Nat.le_of_ble_eq_true rfl, Nat.le_of_ble_eq_true rfl⟩ ⟨Nat.zero_le _, Nat.zero_le _⟩ (Nat.le_of_ble_eq_true rfl) rfl dL_valued_30 ?_
    refine y_sipush X (v := (9999)) dL_valued_33 (by decide) ?_
    refine y_isub X (z := ((nI (lowN (x >>> ((6) &&& 31)) (19999))) - (9999))) dL_valued_36 rfl ?_
    refine y_istore_n X [(3, .int ((nI (lowN (x >>> ((6) &&& 31)) (19999))) - (9999))), (2, .int ((nI (lowN x (13))) - (1))), (0, .int x), (1, .int y)] dL_valued_37 rfl (by decide) rfl ?_
    refine y_iload_n X dL_valued_38 0 rfl ?_
    refine y_iload_n X dL_valued_39 3 rfl ?_
    refine y_callJr X (av := [.int y]) [.int ((nI (lowN (x >>> ((6) &&& 31)) (19999))) - (9999))] 1 (c_L_least (x := y)) gL_valued_L_least rfl (by decide +kernel) rfl ⟨Nat.le_of_ble_eq_true rfl, Nat.le_of_ble_eq_true rfl⟩ ⟨Nat.zero_le _, Nat.zero_le _⟩ (Nat.le_of_ble_eq_true rfl) rfl dL_valued_40 ?_
    refine y_icmp_ge X 53 (((loK y)).toInt ≤ (((nI (lowN (x >>> ((6) &&& 31)) (19999))) - (9999))).toInt) dL_valued_43 (by decide) (cLe rfl rfl) (fun c_5 => ?_) (fun c_5 => ?_)
    ·
      refine y_iload_n X dL_valued_53 0 rfl ?_
      refine y_iload_n X dL_valued_54 3 rfl ?_
      refine y_callJr X (av := [.int y]) [.int ((nI (lowN (x >>> ((6) &&& 31)) (19999))) - (9999))] 1 (c_L_most (x := y)) gL_valued_L_most rfl (by decide +kernel) rfl ⟨Nat.le_of_ble_eq_true rfl, Nat.le_of_ble_eq_true rfl⟩ ⟨Nat.zero_le _, Nat.zero_le _⟩ (Nat.le_of_ble_eq_true rfl) rfl dL_valued_55 ?_
      refine y_icmp_le X 68 ((((nI (lowN (x >>> ((6) &&& 31)) (19999))) - (9999))).toInt ≤ ((hiK y)).toInt) dL_valued_58 (by decide) (cLe rfl rfl) (fun c_6 => ?_) (fun c_6 => ?_)
      ·
        refine y_iload_n X dL_valued_68 0 rfl ?_
        exact y_iret X hr dL_valued_69 rfl ⟨⟨_, rfl⟩, rfl⟩
      ·
        refine y_iload_n X dL_valued_61 3 rfl ?_
        refine y_callJr X (av := [.int y]) [] 1 (c_L_most (x := y)) gL_valued_L_most rfl (by decide +kernel) rfl ⟨Nat.le_of_ble_eq_true rfl, Nat.le_of_ble_eq_true rfl⟩ ⟨Nat.zero_le _, Nat.zero_le _⟩ (Nat.le_of_ble_eq_true rfl) rfl dL_valued_62 ?_
        refine y_goto X 69 dL_valued_65 (by decide) ?_
        exact y_iret X hr dL_valued_69 rfl ⟨⟨_, rfl⟩, rfl⟩
    ·
      refine y_iload_n X dL_valued_46 3 rfl ?_
      refine y_callJr X (av := [.int y]) [] 1 (c_L_least (x := y)) gL_valued_L_least rfl (by decide +kernel) rfl ⟨Nat.le_of_ble_eq_true rfl, Nat.le_of_ble_eq_true rfl⟩ ⟨Nat.zero_le _, Nat.zero_le _⟩ (Nat.le_of_ble_eq_true rfl) rfl dL_valued_47 ?_
      refine y_goto X 69 dL_valued_50 (by decide) ?_
      exact y_iret X hr dL_valued_69 rfl ⟨⟨_, rfl⟩, rfl⟩
  ·
    refine y_iload_n X dL_valued_19 0 rfl ?_
    refine y_goto X 37 dL_valued_20 (by decide) ?_
    refine y_istore_n X [(3, .int ((nI (lowN x (13))) - (1))), (2, .int ((nI (lowN x (13))) - (1))), (0, .int x), (1, .int y)] dL_valued_37 rfl (by decide) rfl ?_
    refine y_iload_n X dL_valued_38 0 rfl ?_
    refine y_iload_n X dL_valued_39 3 rfl ?_
    refine y_callJr X (av := [.int y]) [.int ((nI (lowN x (13))) - (1))] 1 (c_L_least (x := y)) gL_valued_L_least rfl (by decide +kernel) rfl ⟨Nat.le_of_ble_eq_true rfl, Nat.le_of_ble_eq_true rfl⟩ ⟨Nat.zero_le _, Nat.zero_le _⟩ (Nat.le_of_ble_eq_true rfl) rfl dL_valued_40 ?_
    refine y_icmp_ge X 53 (((loK y)).toInt ≤ (((nI (lowN x (13))) - (1))).toInt) dL_valued_43 (by decide) (cLe rfl rfl) (fun c_7 => ?_) (fun c_7 => ?_)
    ·
      refine y_iload_n X dL_valued_53 0 rfl ?_
      refine y_iload_n X dL_valued_54 3 rfl ?_
      refine y_callJr X (av := [.int y]) [.int ((nI (lowN x (13))) - (1))] 1 (c_L_most (x := y)) gL_valued_L_most rfl (by decide +kernel) rfl ⟨Nat.le_of_ble_eq_true rfl, Nat.le_of_ble_eq_true rfl⟩ ⟨Nat.zero_le _, Nat.zero_le _⟩ (Nat.le_of_ble_eq_true rfl) rfl dL_valued_55 ?_
      refine y_icmp_le X 68 ((((nI (lowN x (13))) - (1))).toInt ≤ ((hiK y)).toInt) dL_valued_58 (by decide) (cLe rfl rfl) (fun c_8 => ?_) (fun c_8 => ?_)
      ·
        refine y_iload_n X dL_valued_68 0 rfl ?_
        exact y_iret X hr dL_valued_69 rfl ⟨⟨_, rfl⟩, rfl⟩
      ·
        refine y_iload_n X dL_valued_61 3 rfl ?_
        refine y_callJr X (av := [.int y]) [] 1 (c_L_most (x := y)) gL_valued_L_most rfl (by decide +kernel) rfl ⟨Nat.le_of_ble_eq_true rfl, Nat.le_of_ble_eq_true rfl⟩ ⟨Nat.zero_le _, Nat.zero_le _⟩ (Nat.le_of_ble_eq_true rfl) rfl dL_valued_62 ?_
        refine y_goto X 69 dL_valued_65 (by decide) ?_
        exact y_iret X hr dL_valued_69 rfl ⟨⟨_, rfl⟩, rfl⟩
    ·
      refine y_iload_n X dL_valued_46 3 rfl ?_
      refine y_callJr X (av := [.int y]) [] 1 (c_L_least (x := y)) gL_valued_L_least rfl (by decide +kernel) rfl ⟨Nat.le_of_ble_eq_true rfl, Nat.le_of_ble_eq_true rfl⟩ ⟨Nat.zero_le _, Nat.zero_le _⟩ (Nat.le_of_ble_eq_true rfl) rfl dL_valued_47 ?_
      refine y_goto X 69 dL_valued_50 (by decide) ?_
      exact y_iret X hr dL_valued_69 rfl ⟨⟨_, rfl⟩, rfl⟩

set_option maxRecDepth 100000 in
set_option maxHeartbeats 4000000 in
theorem c_L_table {l : Launch} {E : xE} {C : xC} {T : Tb} {hh : Nat → Tb} {hn : Nat} {sn : Option Tb} {tx : Nat → Int32} {ln : Nat} {sp : Option (Nat × Int32)} (gC : CX E C T hh hn sn tx ln sp) (gW : WX T hh hn sn tx ln sp) (gd : DIF T) {a b0 : Nat} (ga : a < tr T) (gz : b0 < tr T) : xR E l yL_table wsL_table 7 158 [.ref (E.2.1 (0)), .int (nI (a)), .int (nI (b0))] C (1) := by
  obtain ⟨f0, e0⟩ := CX_0 gC
  obtain ⟨gv, gn4, -, -, -, -, -⟩ := id gW
  obtain ⟨gw1, gw2, gw3, gw4⟩ := id gv.1
  have gna := nal_le gv.1
  have gla := nla_le (T := T) (q := tn T - 1)
  have gbl := bsC_lt gw1
  have gbs := bs_least gv.1
  refine xM_ofY (cc := cL_table) (maxL := 14) (ret := (some .boolean)) (by decide) rfl (Nat.le_of_ble_eq_true rfl) ?_
  intro p e s m args below meth c X hr
  refine y_lv [(0, .ref (E.2.1 (0))), (1, .int (nI (a))), (2, .int (nI (b0)))] rfl ?_
  refine y_aload_n X dL_table_0 0 rfl ?_
  refine y_iconst X (v := (0)) dL_table_1 (by decide) ?_
  refine y_callVr X (0) 4 (av := [.int (0)]) [] 1 ((xR_eq rCt_0 (c_X4_count (w := 0) gC gW))) (by omega) e0 rfl gL_table_X4_count rfl (by decide +kernel) rfl ⟨Nat.le_of_ble_eq_true rfl, Nat.le_of_ble_eq_true rfl⟩ ⟨Nat.zero_le _, Nat.zero_le _⟩ (Nat.le_of_ble_eq_true rfl) rfl dL_table_2 ?_
  refine y_istore_n X [(3, .int (nI (tn T - 1))), (0, .ref (E.2.1 (0))), (1, .int (nI (a))), (2, .int (nI (b0)))] dL_table_5 rfl (by decide) rfl ?_
  refine y_aload_n X dL_table_6 1 rfl ?_
  refine y_iconst X (v := (2)) dL_table_7 (by decide) ?_
  refine y_callVr X (0) 4 (av := [.int (2)]) [] 1 ((xR_eq rCt_2 (c_X4_count (w := 2) gC gW))) (by omega) e0 rfl gL_table_X4_count rfl (by decide +kernel) rfl ⟨Nat.le_of_ble_eq_true rfl, Nat.le_of_ble_eq_true rfl⟩ ⟨Nat.zero_le _, Nat.zero_le _⟩ (Nat.le_of_ble_eq_true rfl) rfl dL_table_8 ?_
  refine y_istore X [(4, .int (nI (tr T))), (3, .int (nI (tn T - 1))), (0, .ref (E.2.1 (0))), (1, .int (nI (a))), (2, .int (nI (b0)))] dL_table_11 (by decide) rfl ?_
  refine y_iload_n X dL_table_13 1 rfl ?_
  refine y_if_lt X 69 ((tn T - 1) < (0)) dL_table_14 (by decide) (nI_ltI (a := tn T - 1) (b := 0) (by omega) (by omega)) (fun c_1 => ?_) (fun c_1 => ?_)
  ·
    exact absurd c_1 (by omega)
  ·
    refine y_iload_n X dL_table_17 1 rfl ?_
    refine y_bipush X (v := (30)) dL_table_18 (by decide) ?_
    refine y_icmp_ge X 69 ((30) ≤ (tn T - 1)) dL_table_20 (by decide) (nI_leI (a := 30) (b := tn T - 1) (by omega) (by omega)) (fun c_2 => ?_) (fun c_2 => ?_)
    ·
      exact absurd c_2 (by omega)
    ·
      refine y_iload X dL_table_23 0 rfl ?_
      refine y_bipush X (v := (24)) dL_table_25 (by decide) ?_
      refine y_icmp_gt X 69 ((24) < (tr T)) dL_table_27 (by decide) (nI_ltI (a := 24) (b := tr T) (by omega) (by omega)) (fun c_3 => ?_) (fun c_3 => ?_)
      ·
        exact absurd c_3 (by omega)
      ·
        refine y_aload_n X dL_table_30 2 rfl ?_
        refine y_iconst X (v := (5)) dL_table_31 (by decide) ?_
        refine y_callVr X (0) 4 (av := [.int (5)]) [] 1 ((xR_eq rCt_5 (c_X4_count (w := 5) gC gW))) (by omega) e0 rfl gL_table_X4_count rfl (by decide +kernel) rfl ⟨Nat.le_of_ble_eq_true rfl, Nat.le_of_ble_eq_true rfl⟩ ⟨Nat.zero_le _, Nat.zero_le _⟩ (Nat.le_of_ble_eq_true rfl) rfl dL_table_32 ?_
        refine y_aload_n X dL_table_35 2 rfl ?_
        refine y_iconst X (v := (4)) dL_table_36 (by decide) ?_
        refine y_callVr X (0) 4 (av := [.int (4)]) [.int (nI (nla T (tn T - 1)))] 1 ((xR_eq rCt_4 (c_X4_count (w := 4) gC gW))) (by omega) e0 rfl gL_table_X4_count rfl (by decide +kernel) rfl ⟨Nat.le_of_ble_eq_true rfl, Nat.le_of_ble_eq_true rfl⟩ ⟨Nat.zero_le _, Nat.zero_le _⟩ (Nat.le_of_ble_eq_true rfl) rfl dL_table_37 ?_
        refine y_icmp_gt X 69 ((nal T) < (nla T (tn T - 1))) dL_table_40 (by decide) (nI_ltI (a := nal T) (b := nla T (tn T - 1)) (by omega) (by omega)) (fun c_4 => ?_) (fun c_4 => ?_)
        ·
          exact absurd c_4 (by omega)
        ·
          refine y_aload_n X dL_table_43 2 rfl ?_
          refine y_iconst X (v := (1)) dL_table_44 (by decide) ?_
          refine y_callVr X (0) 4 (av := [.int (1)]) [] 1 ((xR_eq rBs_1 (c_X4_bestSeason (w := 1) gC gW))) (by omega) e0 rfl gL_table_X4_bestSeason rfl (by decide +kernel) rfl ⟨Nat.le_of_ble_eq_true rfl, Nat.le_of_ble_eq_true rfl⟩ ⟨Nat.zero_le _, Nat.zero_le _⟩ (Nat.le_of_ble_eq_true rfl) rfl dL_table_45 ?_
          refine y_aload_n X dL_table_48 2 rfl ?_
          refine y_iconst X (v := (5)) dL_table_49 (by decide) ?_
          refine y_callVr X (0) 4 (av := [.int (5)]) [.int (nI (nla T (bsC T)))] 1 ((xR_eq rCt_5 (c_X4_count (w := 5) gC gW))) (by omega) e0 rfl gL_table_X4_count rfl (by decide +kernel) rfl ⟨Nat.le_of_ble_eq_true rfl, Nat.le_of_ble_eq_true rfl⟩ ⟨Nat.zero_le _, Nat.zero_le _⟩ (Nat.le_of_ble_eq_true rfl) rfl dL_table_50 ?_
          refine y_icmp_gt X 69 ((nla T (tn T - 1)) < (nla T (bsC T))) dL_table_53 (by decide) (nI_ltI (a := nla T (tn T - 1)) (b := nla T (bsC T)) (by omega) (by omega)) (fun c_5 => ?_) (fun c_5 => ?_)
          ·
            exact absurd c_5 (by omega)
          ·
            refine y_aload_n X dL_table_56 2 rfl ?_
            refine y_iconst X (v := (0)) dL_table_57 (by decide) ?_
            refine y_callVr X (0) 4 (av := [.int (0)]) [] 1 ((xR_eq rBs_0 (c_X4_bestSeason (w := 0) gC gW))) (by omega) e0 rfl gL_table_X4_bestSeason rfl (by decide +kernel) rfl ⟨Nat.le_of_ble_eq_true rfl, Nat.le_of_ble_eq_true rfl⟩ ⟨Nat.zero_le _, Nat.zero_le _⟩ (Nat.le_of_ble_eq_true rfl) rfl dL_table_58 ?_
            refine y_iload_n X dL_table_61 1 rfl ?_
            refine y_icmp_gt X 69 ((tn T - 1) < (bsC T)) dL_table_62 (by decide) (nI_ltI (a := tn T - 1) (b := bsC T) (by omega) (by omega)) (fun c_6 => ?_) (fun c_6 => ?_)
            ·
              exact absurd c_6 (by omega)
            ·
              refine y_iconst X (v := (1)) dL_table_65 (by decide) ?_
              refine y_goto X 70 dL_table_66 (by decide) ?_
              refine y_istore X [(5, .int (1)), (4, .int (nI (tr T))), (3, .int (nI (tn T - 1))), (0, .ref (E.2.1 (0))), (1, .int (nI (a))), (2, .int (nI (b0)))] dL_table_70 (by decide) rfl ?_
              refine y_iconst X (v := (1)) dL_table_72 (by decide) ?_
              refine y_istore X [(6, .int (1)), (5, .int (1)), (4, .int (nI (tr T))), (3, .int (nI (tn T - 1))), (0, .ref (E.2.1 (0))), (1, .int (nI (a))), (2, .int (nI (b0)))] dL_table_73 (by decide) rfl ?_
              have L_75 : ∀ (n : Nat) (q : Nat), tn T - q < n → (1 ≤ q) → (q ≤ tn T) → xY p l e ({ frames := 7, cells := 0, slots := 0, locals := 158 } : Room) s m args below meth c E (xA E) 14 0 0 (MQ below (xQ E (fun v C1 => v = some (.int (1)) ∧ C1 = C)) args s 0 0 (xA E)) C 75 [(0, .ref (E.2.1 (0))), (1, .int (nI (a))), (2, .int (nI (b0))), (3, .int (nI (tn T - 1))), (4, .int (nI (tr T))), (5, .int (1)), (6, .int (nI (q)))] [] := by
                intro n75
                induction n75 with
                | zero => intro _ hm75; exact absurd hm75 (Nat.not_lt_zero _)
                | succ n75 ih75 =>
                  intro q hm75 gq1 gq2
                  refine y_iload X dL_table_75 6 rfl ?_
                  refine y_iload_n X dL_table_77 3 rfl ?_
                  refine y_icmp_gt X 168 ((tn T - 1) < (q)) dL_table_78 (by decide) (nI_ltI (a := tn T - 1) (b := q) (by omega) (by omega)) (fun c_7 => ?_) (fun c_7 => ?_)
                  ·
                    refine y_aload_n X dL_table_168 0 rfl ?_
                    refine y_iload_n X dL_table_169 1 rfl ?_
                    refine y_iload_n X dL_table_170 2 rfl ?_
                    refine y_iconst X (v := (0)) dL_table_171 (by decide) ?_
                    refine y_callVr X (0) 4 (av := [.int (nI (a)), .int (nI (b0)), .int (0)]) [] 3 ((xR_eq (rView_0 gv.1 (by omega) (by omega)) (c_X4_view (x := nI (a)) (y := nI (b0)) (w := 0) gC gW))) (by omega) e0 rfl gL_table_X4_view rfl (by decide +kernel) rfl ⟨Nat.le_of_ble_eq_true rfl, Nat.le_of_ble_eq_true rfl⟩ ⟨Nat.zero_le _, Nat.zero_le _⟩ (Nat.le_of_ble_eq_true rfl) rfl dL_table_172 ?_
                    refine y_istore X [(6, .int (shN T a b0)), (0, .ref (E.2.1 (0))), (1, .int (nI (a))), (2, .int (nI (b0))), (3, .int (nI (tn T - 1))), (4, .int (nI (tr T))), (5, .int (1))] dL_table_175 (by decide) rfl ?_
                    refine y_iconst X (v := (0)) dL_table_177 (by decide) ?_
                    refine y_istore X [(7, .int (0)), (6, .int (shN T a b0)), (0, .ref (E.2.1 (0))), (1, .int (nI (a))), (2, .int (nI (b0))), (3, .int (nI (tn T - 1))), (4, .int (nI (tr T))), (5, .int (1))] dL_table_178 (by decide) rfl ?_
                    have L_180 : ∀ (n : Nat) (j : Nat), 8 - j < n → (j ≤ 8) → xY p l e ({ frames := 7, cells := 0, slots := 0, locals := 158 } : Room) s m args below meth c E (xA E) 14 0 0 (MQ below (xQ E (fun v C1 => v = some (.int (1)) ∧ C1 = C)) args s 0 0 (xA E)) C 180 [(0, .ref (E.2.1 (0))), (1, .int (nI (a))), (2, .int (nI (b0))), (3, .int (nI (tn T - 1))), (4, .int (nI (tr T))), (5, .int (1)), (6, .int (shN T a b0)), (7, .int (nI (j)))] [] := by
                      intro n180
                      induction n180 with
                      | zero => intro _ hm180; exact absurd hm180 (Nat.not_lt_zero _)
                      | succ n180 ih180 =>
                        intro j hm180 gj
                        refine y_iload X dL_table_180 7 rfl ?_
                        refine y_bipush X (v := (8)) dL_table_182 (by decide) ?_
                        refine y_icmp_ge X 597 ((8) ≤ (j)) dL_table_184 (by decide) (nI_leI (a := 8) (b := j) (by omega) (by omega)) (fun c_8 => ?_) (fun c_8 => ?_)
                        ·
                          refine y_iload X dL_table_597 5 rfl ?_
                          exact y_zret X hr (by rfl) dL_table_599 rfl ⟨rfl, rfl⟩
                        ·
                          refine y_iload X dL_table_187 5 rfl ?_
                          refine y_if_eq X 597 ((1) = (0)) dL_table_189 (by decide) (nI_eq (a := 1) (b := 0) (by omega) (by omega)) (fun c_9 => ?_) (fun c_9 => ?_)
                          ·
                            exact absurd c_9 (by decide)
                          ·
                            refine y_iload X dL_table_192 4 rfl ?_
                            refine y_if_le X 597 ((tr T) ≤ (0)) dL_table_194 (by decide) (nI_leI (a := tr T) (b := 0) (by omega) (by omega)) (fun c_10 => ?_) (fun c_10 => ?_)
                            ·
                              exact absurd c_10 (by omega)
                            ·
                              have J_207 : xY p l e ({ frames := 7, cells := 0, slots := 0, locals := 158 } : Room) s m args below meth c E (xA E) 14 0 0 (MQ below (xQ E (fun v C1 => v = some (.int (1)) ∧ C1 = C)) args s 0 0 (xA E)) C 207 [(0, .ref (E.2.1 (0))), (1, .int (nI (a))), (2, .int (nI (b0))), (3, .int (nI (tn T - 1))), (4, .int (nI (tr T))), (5, .int (1)), (6, .int (shN T a b0)), (7, .int (nI (j)))] [.int (bI (ALk T a b0 j 0))] := by
                                refine y_istore X [(8, .int (bI (ALk T a b0 j 0))), (0, .ref (E.2.1 (0))), (1, .int (nI (a))), (2, .int (nI (b0))), (3, .int (nI (tn T - 1))), (4, .int (nI (tr T))), (5, .int (1)), (6, .int (shN T a b0)), (7, .int (nI (j)))] dL_table_207 (by decide) rfl ?_
                                refine y_iconst X (v := (0)) dL_table_209 (by decide) ?_
                                refine y_istore X [(9, .int (0)), (8, .int (bI (ALk T a b0 j 0))), (0, .ref (E.2.1 (0))), (1, .int (nI (a))), (2, .int (nI (b0))), (3, .int (nI (tn T - 1))), (4, .int (nI (tr T))), (5, .int (1)), (6, .int (shN T a b0)), (7, .int (nI (j)))] dL_table_210 (by decide) rfl ?_
                                refine y_iload_n X dL_table_212 3 rfl ?_
                                refine y_istore X [(10, .int (nI (a))), (9, .int (0)), (8, .int (bI (ALk T a b0 j 0))), (0, .ref (E.2.1 (0))), (1, .int (nI (a))), (2, .int (nI (b0))), (3, .int (nI (tn T - 1))), (4, .int (nI (tr T))), (5, .int (1)), (6, .int (shN T a b0)), (7, .int (nI (j)))] dL_table_213 (by decide) rfl ?_
                                have L_215 : ∀ (n : Nat) (k : Nat) (x9 : Int32), b0 + 1 - a - k < n → (k ≤ b0 + 1 - a) → (ALk T a b0 j k → x9 = svs T a j k) → xY p l e ({ frames := 7, cells := 0, slots := 0, locals := 158 } : Room) s m args below meth c E (xA E) 14 0 0 (MQ below (xQ E (fun v C1 => v = some (.int (1)) ∧ C1 = C)) args s 0 0 (xA E)) C 215 [(0, .ref (E.2.1 (0))), (1, .int (nI (a))), (2, .int (nI (b0))), (3, .int (nI (tn T - 1))), (4, .int (nI (tr T))), (5, .int (1)), (6, .int (shN T a b0)), (7, .int (nI (j))), (8, .int (bI (ALk T a b0 j k))), (9, .int x9), (10, .int (nI (a + k)))] [] := by
                                  intro n215
                                  induction n215 with
                                  | zero => intro _ _ hm215; exact absurd hm215 (Nat.not_lt_zero _)
                                  | succ n215 ih215 =>
                                    intro k x9 hm215 gk gx9
                                    refine y_iload X dL_table_215 10 rfl ?_
                                    refine y_iload_n X dL_table_217 2 rfl ?_
                                    refine y_icmp_gt X 470 ((b0) < (a + k)) dL_table_218 (by decide) (nI_ltI (a := b0) (b := a + k) (by omega) (by omega)) (fun c_11 => ?_) (fun c_11 => ?_)
                                    ·
                                      have gk8 : k = b0 + 1 - a := by omega
                                      have gAL : ALk T a b0 j k ↔ ¬ (shN T a b0 &&& bitN j) = 0 := by rw [gk8]; exact AL_sh (by omega)
                                      have gON : ((shN T a b0 >>> (nI j &&& 31)) &&& 1) = 1 ↔ ALk T a b0 j k := by rw [gk8]; exact AL_one (by omega)
                                      refine y_iload X dL_table_470 5 rfl ?_
                                      refine y_if_eq X 588 ((1) = (0)) dL_table_472 (by decide) (nI_eq (a := 1) (b := 0) (by omega) (by omega)) (fun c_12 => ?_) (fun c_12 => ?_)
                                      ·
                                        exact absurd c_12 (by decide)
                                      ·
                                        have J_493 : xY p l e ({ frames := 7, cells := 0, slots := 0, locals := 158 } : Room) s m args below meth c E (xA E) 14 0 0 (MQ below (xQ E (fun v C1 => v = some (.int (1)) ∧ C1 = C)) args s 0 0 (xA E)) C 493 [(0, .ref (E.2.1 (0))), (1, .int (nI (a))), (2, .int (nI (b0))), (3, .int (nI (tn T - 1))), (4, .int (nI (tr T))), (5, .int (1)), (6, .int (shN T a b0)), (7, .int (nI (j))), (8, .int (bI (ALk T a b0 j k))), (9, .int x9), (10, .int (nI (a + k)))] [.int (bI (ALk T a b0 j k)), .int (bI (ALk T a b0 j k))] := by
                                          refine y_icmp_ne X 588 (False) dL_table_493 (by decide) (iff_of_false (fun z => z rfl) id) (fun c_13 => ?_) (fun c_13 => ?_)
                                          ·
                                            exact c_13.elim
                                          ·
                                            refine y_iload X dL_table_496 8 rfl ?_
                                            refine y_if_eq X 569 (¬ (ALk T a b0 j k)) dL_table_498 (by decide) bI_eq (fun c_14 => ?_) (fun c_14 => ?_)
                                            ·
                                              have gsz : (shN T a b0 &&& bitN j) = 0 := Decidable.of_not_not (fun z => c_14 (gAL.mpr z))
                                              refine y_aload_n X dL_table_569 0 rfl ?_
                                              refine y_iload_n X dL_table_570 1 rfl ?_
                                              refine y_iload_n X dL_table_571 2 rfl ?_
                                              refine y_iload X dL_table_572 7 rfl ?_
                                              refine y_iconst X (v := (0)) dL_table_574 (by decide) ?_
                                              refine y_callVr X (0) 4 (av := [.int (nI (a)), .int (nI (b0)), .int (nI (j)), .int (0)]) [] 4 ((xR_eq (rVC_no gv.1 (by omega) (by omega) (by omega) gsz) (c_X4_viewColumn (x := nI (a)) (y := nI (b0)) (u1 := nI (j)) (w := 0) gC gW))) (by omega) e0 rfl gL_table_X4_viewColumn rfl (by decide +kernel) rfl ⟨Nat.le_of_ble_eq_true rfl, Nat.le_of_ble_eq_true rfl⟩ ⟨Nat.zero_le _, Nat.zero_le _⟩ (Nat.le_of_ble_eq_true rfl) rfl dL_table_575 ?_
                                              refine y_sipush X (v := (-10005)) dL_table_578 (by decide) ?_
                                              refine y_icmp_ne X 588 (¬ ((-10005) = (-10005))) dL_table_581 (by decide) Iff.rfl (fun c_15 => ?_) (fun c_15 => ?_)
                                              ·
                                                exact absurd c_15 (by decide)
                                              ·
                                                have c_15 := Decidable.of_not_not c_15
                                                refine y_iconst X (v := (1)) dL_table_584 (by decide) ?_
                                                refine y_goto X 589 dL_table_585 (by decide) ?_
                                                refine y_istore X [(5, .int (1)), (0, .ref (E.2.1 (0))), (1, .int (nI (a))), (2, .int (nI (b0))), (3, .int (nI (tn T - 1))), (4, .int (nI (tr T))), (6, .int (shN T a b0)), (7, .int (nI (j))), (8, .int (bI (ALk T a b0 j k))), (9, .int x9), (10, .int (nI (a + k)))] dL_table_589 (by decide) rfl ?_
                                                refine y_iinc X [(7, .int (nI (j + 1))), (5, .int (1)), (0, .ref (E.2.1 (0))), (1, .int (nI (a))), (2, .int (nI (b0))), (3, .int (nI (tn T - 1))), (4, .int (nI (tr T))), (6, .int (shN T a b0)), (8, .int (bI (ALk T a b0 j k))), (9, .int x9), (10, .int (nI (a + k)))] dL_table_591 7 rfl (nI_1 _) (by decide) rfl ?_
                                                refine y_goto X 180 dL_table_594 (by decide) ?_
                                                refine y_pick [2, 3, 4, 5, 6, 1, 7, 0] [(0, .ref (E.2.1 (0))), (1, .int (nI (a))), (2, .int (nI (b0))), (3, .int (nI (tn T - 1))), (4, .int (nI (tr T))), (5, .int (1)), (6, .int (shN T a b0)), (7, .int (nI (j + 1)))] rfl ?_
                                                exact ih180 (j + 1) (by omega) (by omega)
                                            ·
                                              have c_14 := Decidable.of_not_not c_14
                                              have gsn : ¬ (shN T a b0 &&& bitN j) = 0 := gAL.mp c_14
                                              have gab : a ≤ b0 := c_14.1
                                              refine y_aload_n X dL_table_501 0 rfl ?_
                                              refine y_iload_n X dL_table_502 1 rfl ?_
                                              refine y_iload_n X dL_table_503 2 rfl ?_
                                              refine y_iload X dL_table_504 7 rfl ?_
                                              refine y_iconst X (v := (1)) dL_table_506 (by decide) ?_
                                              refine y_callVr X (0) 4 (av := [.int (nI (a)), .int (nI (b0)), .int (nI (j)), .int (1)]) [] 4 ((xR_eq (rVC_1 gv.1 (by omega) (by omega) (by omega) gsn) (c_X4_viewColumn (x := nI (a)) (y := nI (b0)) (u1 := nI (j)) (w := 1) gC gW))) (by omega) e0 rfl gL_table_X4_viewColumn rfl (by decide +kernel) rfl ⟨Nat.le_of_ble_eq_true rfl, Nat.le_of_ble_eq_true rfl⟩ ⟨Nat.zero_le _, Nat.zero_le _⟩ (Nat.le_of_ble_eq_true rfl) rfl dL_table_507 ?_
                                              refine y_iload X dL_table_510 9 rfl ?_
                                              refine y_icmp_ne X 588 (False) dL_table_512 (by decide) (iff_of_false (fun z => z (by rw [gx9 c_14, gk8])) id) (fun c_16 => ?_) (fun c_16 => ?_)
                                              ·
                                                exact c_16.elim
                                              ·
                                                refine y_aload_n X dL_table_515 0 rfl ?_
                                                refine y_iload_n X dL_table_516 1 rfl ?_
                                                refine y_iload_n X dL_table_517 2 rfl ?_
                                                refine y_iload X dL_table_518 7 rfl ?_
                                                refine y_iconst X (v := (2)) dL_table_520 (by decide) ?_
                                                refine y_callVr X (0) 4 (av := [.int (nI (a)), .int (nI (b0)), .int (nI (j)), .int (2)]) [] 4 ((xR_eq (rVC_2 gv.1 (by omega) (by omega) (by omega) gsn) (c_X4_viewColumn (x := nI (a)) (y := nI (b0)) (u1 := nI (j)) (w := 2) gC gW))) (by omega) e0 rfl gL_table_X4_viewColumn rfl (by decide +kernel) rfl ⟨Nat.le_of_ble_eq_true rfl, Nat.le_of_ble_eq_true rfl⟩ ⟨Nat.zero_le _, Nat.zero_le _⟩ (Nat.le_of_ble_eq_true rfl) rfl dL_table_521 ?_
                                                refine y_aload_n X dL_table_524 0 rfl ?_
                                                refine y_iload_n X dL_table_525 1 rfl ?_
                                                refine y_iload_n X dL_table_526 2 rfl ?_
                                                refine y_iload X dL_table_527 7 rfl ?_
                                                refine y_iconst X (v := (3)) dL_table_529 (by decide) ?_
                                                refine y_callVr X (0) 4 (av := [.int (nI (a)), .int (nI (b0)), .int (nI (j)), .int (3)]) [.int (lea T a j (b0 + 1 - a))] 4 ((xR_eq (rVC_3 gv.1 (by omega) (by omega) (by omega) gsn) (c_X4_viewColumn (x := nI (a)) (y := nI (b0)) (u1 := nI (j)) (w := 3) gC gW))) (by omega) e0 rfl gL_table_X4_viewColumn rfl (by decide +kernel) rfl ⟨Nat.le_of_ble_eq_true rfl, Nat.le_of_ble_eq_true rfl⟩ ⟨Nat.zero_le _, Nat.zero_le _⟩ (Nat.le_of_ble_eq_true rfl) rfl dL_table_530 ?_
                                                refine y_icmp_gt X 588 (False) dL_table_533 (by decide) (iff_of_false (min_max (by omega)) id) (fun c_17 => ?_) (fun c_17 => ?_)
                                                ·
                                                  exact c_17.elim
                                                ·
                                                  refine y_aload_n X dL_table_536 0 rfl ?_
                                                  refine y_iload_n X dL_table_537 1 rfl ?_
                                                  refine y_iload_n X dL_table_538 2 rfl ?_
                                                  refine y_iload X dL_table_539 7 rfl ?_
                                                  refine y_iconst X (v := (4)) dL_table_541 (by decide) ?_
                                                  refine y_callVr X (0) 4 (av := [.int (nI (a)), .int (nI (b0)), .int (nI (j)), .int (4)]) [] 4 ((xR_eq (rVC_4 gv.1 (by omega) (by omega) (by omega) gsn) (c_X4_viewColumn (x := nI (a)) (y := nI (b0)) (u1 := nI (j)) (w := 4) gC gW))) (by omega) e0 rfl gL_table_X4_viewColumn rfl (by decide +kernel) rfl ⟨Nat.le_of_ble_eq_true rfl, Nat.le_of_ble_eq_true rfl⟩ ⟨Nat.zero_le _, Nat.zero_le _⟩ (Nat.le_of_ble_eq_true rfl) rfl dL_table_542 ?_
                                                  refine y_iconst X (v := (1)) dL_table_545 (by decide) ?_
                                                  refine y_icmp_lt X 588 (False) dL_table_546 (by decide) (iff_of_false (unl_1 (by omega) (by omega)) id) (fun c_18 => ?_) (fun c_18 => ?_)
                                                  ·
                                                    exact c_18.elim
                                                  ·
                                                    refine y_aload_n X dL_table_549 0 rfl ?_
                                                    refine y_iload_n X dL_table_550 1 rfl ?_
                                                    refine y_iload_n X dL_table_551 2 rfl ?_
                                                    refine y_iload X dL_table_552 7 rfl ?_
                                                    refine y_iconst X (v := (4)) dL_table_554 (by decide) ?_
                                                    refine y_callVr X (0) 4 (av := [.int (nI (a)), .int (nI (b0)), .int (nI (j)), .int (4)]) [] 4 ((xR_eq (rVC_4 gv.1 (by omega) (by omega) (by omega) gsn) (c_X4_viewColumn (x := nI (a)) (y := nI (b0)) (u1 := nI (j)) (w := 4) gC gW))) (by omega) e0 rfl gL_table_X4_viewColumn rfl (by decide +kernel) rfl ⟨Nat.le_of_ble_eq_true rfl, Nat.le_of_ble_eq_true rfl⟩ ⟨Nat.zero_le _, Nat.zero_le _⟩ (Nat.le_of_ble_eq_true rfl) rfl dL_table_555 ?_
                                                    refine y_iload_n X dL_table_558 2 rfl ?_
                                                    refine y_iload_n X dL_table_559 1 rfl ?_
                                                    refine y_isub X (z := (nI ((b0) - (a)))) dL_table_560 (pk_sub (a := b0) (b := a) (by omega)) ?_
                                                    refine y_iconst X (v := (1)) dL_table_561 (by decide) ?_
                                                    refine y_iadd X (z := (nI ((b0) - (a) + 1))) dL_table_562 (nI_add ((b0) - (a)) (1)) ?_
                                                    refine y_icmp_gt X 588 (False) dL_table_563 (by decide) (iff_of_false (by rw [show (b0) - (a) + 1 = b0 + 1 - a by omega]; exact unl_n (by omega) (by omega)) id) (fun c_19 => ?_) (fun c_19 => ?_)
                                                    ·
                                                      exact c_19.elim
                                                    ·
                                                      refine y_goto X 584 dL_table_566 (by decide) ?_
                                                      refine y_iconst X (v := (1)) dL_table_584 (by decide) ?_
                                                      refine y_goto X 589 dL_table_585 (by decide) ?_
                                                      refine y_istore X [(5, .int (1)), (0, .ref (E.2.1 (0))), (1, .int (nI (a))), (2, .int (nI (b0))), (3, .int (nI (tn T - 1))), (4, .int (nI (tr T))), (6, .int (shN T a b0)), (7, .int (nI (j))), (8, .int (bI (ALk T a b0 j k))), (9, .int x9), (10, .int (nI (a + k)))] dL_table_589 (by decide) rfl ?_
                                                      refine y_iinc X [(7, .int (nI (j + 1))), (5, .int (1)), (0, .ref (E.2.1 (0))), (1, .int (nI (a))), (2, .int (nI (b0))), (3, .int (nI (tn T - 1))), (4, .int (nI (tr T))), (6, .int (shN T a b0)), (8, .int (bI (ALk T a b0 j k))), (9, .int x9), (10, .int (nI (a + k)))] dL_table_591 7 rfl (nI_1 _) (by decide) rfl ?_
                                                      refine y_goto X 180 dL_table_594 (by decide) ?_
                                                      refine y_pick [2, 3, 4, 5, 6, 1, 7, 0] [(0, .ref (E.2.1 (0))), (1, .int (nI (a))), (2, .int (nI (b0))), (3, .int (nI (tn T - 1))), (4, .int (nI (tr T))), (5, .int (1)), (6, .int (shN T a b0)), (7, .int (nI (j + 1)))] rfl ?_
                                                      exact ih180 (j + 1) (by omega) (by omega)
                                        refine y_iload X dL_table_475 8 rfl ?_
                                        refine y_iload X dL_table_477 6 rfl ?_
                                        refine y_iload X dL_table_479 7 rfl ?_
                                        refine y_ishr X (z := ((shN T a b0) >>> ((nI (j)) &&& 31))) dL_table_481 rfl ?_
                                        refine y_iconst X (v := (1)) dL_table_482 (by decide) ?_
                                        refine y_iand X (z := (((shN T a b0) >>> ((nI (j)) &&& 31)) &&& (1))) dL_table_483 rfl ?_
                                        refine y_iconst X (v := (1)) dL_table_484 (by decide) ?_
                                        refine y_icmp_ne X 492 (¬ ALk T a b0 j k) dL_table_485 (by decide) (not_congr gON) (fun c_20 => ?_) (fun c_20 => ?_)
                                        ·
                                          refine y_iconst X (v := (0)) dL_table_492 (by decide) ?_
                                          refine y_st X [.int (bI (ALk T a b0 j k)), .int (bI (ALk T a b0 j k))] (by rw [bI_0 (P := ALk T a b0 j k) c_20]) ?_
                                          exact J_493
                                        ·
                                          have c_20 := Decidable.of_not_not c_20
                                          refine y_iconst X (v := (1)) dL_table_488 (by decide) ?_
                                          refine y_goto X 493 dL_table_489 (by decide) ?_
                                          refine y_st X [.int (bI (ALk T a b0 j k)), .int (bI (ALk T a b0 j k))] (by rw [bI_1 (P := ALk T a b0 j k) c_20]) ?_
                                          exact J_493
                                    ·
                                      refine y_iload X dL_table_221 5 rfl ?_
                                      refine y_if_eq X 470 ((1) = (0)) dL_table_223 (by decide) (nI_eq (a := 1) (b := 0) (by omega) (by omega)) (fun c_21 => ?_) (fun c_21 => ?_)
                                      ·
                                        exact absurd c_21 (by decide)
                                      ·
                                        have gts := gw4 (a + k) (by omega)
                                        refine y_aload_n X dL_table_226 0 rfl ?_
                                        refine y_iload X dL_table_227 10 rfl ?_
                                        refine y_iload X dL_table_229 7 rfl ?_
                                        refine y_callVr X (0) 4 (av := [.int (nI (a + k)), .int (nI (j))]) [] 2 ((xR_eq (rVal_v gv.1 (by omega) (by omega)) (c_X4_value (x := nI (a + k)) (y := nI (j)) gC gW))) (by omega) e0 rfl gL_table_X4_value rfl (by decide +kernel) rfl ⟨Nat.le_of_ble_eq_true rfl, Nat.le_of_ble_eq_true rfl⟩ ⟨Nat.zero_le _, Nat.zero_le _⟩ (Nat.le_of_ble_eq_true rfl) rfl dL_table_231 ?_
                                        refine y_istore X [(11, .int (vV T (a + k) (j))), (0, .ref (E.2.1 (0))), (1, .int (nI (a))), (2, .int (nI (b0))), (3, .int (nI (tn T - 1))), (4, .int (nI (tr T))), (5, .int (1)), (6, .int (shN T a b0)), (7, .int (nI (j))), (8, .int (bI (ALk T a b0 j k))), (9, .int x9), (10, .int (nI (a + k)))] dL_table_234 (by decide) rfl ?_
                                        refine y_aload_n X dL_table_236 1 rfl ?_
                                        refine y_aload_n X dL_table_237 1 rfl ?_
                                        refine y_iload X dL_table_238 11 rfl ?_
                                        refine y_callVr X (0) 4 (av := [.int (nI (a + k))]) [.ref (E.2.1 (0))] 1 ((xR_eq (rSof_s gv.1 (by omega)) (c_X4_seasonOf (x := nI (a + k)) gC gW))) (by omega) e0 rfl gL_table_X4_seasonOf rfl (by decide +kernel) rfl ⟨Nat.le_of_ble_eq_true rfl, Nat.le_of_ble_eq_true rfl⟩ ⟨Nat.zero_le _, Nat.zero_le _⟩ (Nat.le_of_ble_eq_true rfl) rfl dL_table_240 ?_
                                        refine y_iload X dL_table_243 8 rfl ?_
                                        refine y_iconst X (v := (0)) dL_table_245 (by decide) ?_
                                        refine y_callVr X (0) 4 (av := [.int (nI (ts T (a + k))), .int (nI (j)), .int (0)]) [] 3 ((xR_eq (rCol_0 gv.1 (by omega) (by omega)) (c_X4_column (x := nI (ts T (a + k))) (y := nI (j)) (w := (0)) gC gW))) (by omega) e0 rfl gL_table_X4_column rfl (by decide +kernel) rfl ⟨Nat.le_of_ble_eq_true rfl, Nat.le_of_ble_eq_true rfl⟩ ⟨Nat.zero_le _, Nat.zero_le _⟩ (Nat.le_of_ble_eq_true rfl) rfl dL_table_246 ?_
                                        refine y_istore X [(12, .int (kK T (ts T (a + k)) (j))), (11, .int (vV T (a + k) (j))), (0, .ref (E.2.1 (0))), (1, .int (nI (a))), (2, .int (nI (b0))), (3, .int (nI (tn T - 1))), (4, .int (nI (tr T))), (5, .int (1)), (6, .int (shN T a b0)), (7, .int (nI (j))), (8, .int (bI (ALk T a b0 j k))), (9, .int x9), (10, .int (nI (a + k)))] dL_table_249 (by decide) rfl ?_
                                        have J_266 : xY p l e ({ frames := 7, cells := 0, slots := 0, locals := 158 } : Room) s m args below meth c E (xA E) 14 0 0 (MQ below (xQ E (fun v C1 => v = some (.int (1)) ∧ C1 = C)) args s 0 0 (xA E)) C 266 [(12, .int (kK T (ts T (a + k)) (j))), (11, .int (vV T (a + k) (j))), (0, .ref (E.2.1 (0))), (1, .int (nI (a))), (2, .int (nI (b0))), (3, .int (nI (tn T - 1))), (4, .int (nI (tr T))), (5, .int (1)), (6, .int (shN T a b0)), (7, .int (nI (j))), (8, .int (bI (ALk T a b0 j k))), (9, .int x9), (10, .int (nI (a + k)))] [.int (bI (ALk T a b0 j (k + 1)))] := by
                                          refine y_istore X [(8, .int (bI (ALk T a b0 j (k + 1)))), (12, .int (kK T (ts T (a + k)) (j))), (11, .int (vV T (a + k) (j))), (0, .ref (E.2.1 (0))), (1, .int (nI (a))), (2, .int (nI (b0))), (3, .int (nI (tn T - 1))), (4, .int (nI (tr T))), (5, .int (1)), (6, .int (shN T a b0)), (7, .int (nI (j))), (9, .int x9), (10, .int (nI (a + k)))] dL_table_266 (by decide) rfl ?_
                                          refine y_iload X dL_table_268 11 rfl ?_
                                          refine y_iload X dL_table_270 2 rfl ?_
                                          refine y_iadd X (z := (x9 + (vV T (a + k) (j)))) dL_table_272 rfl ?_
                                          refine y_istore X [(9, .int (x9 + (vV T (a + k) (j)))), (8, .int (bI (ALk T a b0 j (k + 1)))), (12, .int (kK T (ts T (a + k)) (j))), (11, .int (vV T (a + k) (j))), (0, .ref (E.2.1 (0))), (1, .int (nI (a))), (2, .int (nI (b0))), (3, .int (nI (tn T - 1))), (4, .int (nI (tr T))), (5, .int (1)), (6, .int (shN T a b0)), (7, .int (nI (j))), (10, .int (nI (a + k)))] dL_table_273 (by decide) rfl ?_
                                          have J_359 : xY p l e ({ frames := 7, cells := 0, slots := 0, locals := 158 } : Room) s m args below meth c E (xA E) 14 0 0 (MQ below (xQ E (fun v C1 => v = some (.int (1)) ∧ C1 = C)) args s 0 0 (xA E)) C 359 [(9, .int (x9 + (vV T (a + k) (j)))), (8, .int (bI (ALk T a b0 j (k + 1)))), (12, .int (kK T (ts T (a + k)) (j))), (11, .int (vV T (a + k) (j))), (0, .ref (E.2.1 (0))), (1, .int (nI (a))), (2, .int (nI (b0))), (3, .int (nI (tn T - 1))), (4, .int (nI (tr T))), (5, .int (1)), (6, .int (shN T a b0)), (7, .int (nI (j))), (10, .int (nI (a + k)))] [.int (1)] := by
                                            refine y_istore X [(5, .int (1)), (9, .int (x9 + (vV T (a + k) (j)))), (8, .int (bI (ALk T a b0 j (k + 1)))), (12, .int (kK T (ts T (a + k)) (j))), (11, .int (vV T (a + k) (j))), (0, .ref (E.2.1 (0))), (1, .int (nI (a))), (2, .int (nI (b0))), (3, .int (nI (tn T - 1))), (4, .int (nI (tr T))), (6, .int (shN T a b0)), (7, .int (nI (j))), (10, .int (nI (a + k)))] dL_table_359 (by decide) rfl ?_
                                            refine y_aload_n X dL_table_361 5 rfl ?_
                                            refine y_iload X dL_table_362 12 rfl ?_
                                            refine y_iload_n X dL_table_364 8 rfl ?_
                                            refine y_iload X dL_table_365 11 rfl ?_
                                            refine y_iconst X (v := (1)) dL_table_367 (by decide) ?_
                                            refine y_callVr X (0) 4 (av := [.int (nI (a + k)), .int (nI (tn T - 1)), .int (nI (j)), .int (1)]) [] 4 ((xR_eq (rRead_1 gv.1 (by omega) (by omega) (by omega)) (c_X4_read (x := nI (a + k)) (y := nI (tn T - 1)) (u1 := nI (j)) (w := (1)) gC gW))) (by omega) e0 rfl gL_table_X4_read rfl (by decide +kernel) rfl ⟨Nat.le_of_ble_eq_true rfl, Nat.le_of_ble_eq_true rfl⟩ ⟨Nat.zero_le _, Nat.zero_le _⟩ (Nat.le_of_ble_eq_true rfl) rfl dL_table_368 ?_
                                            refine y_istore X [(13, .int (hR T (tn T - 1) (a + k) (j))), (5, .int (1)), (9, .int (x9 + (vV T (a + k) (j)))), (8, .int (bI (ALk T a b0 j (k + 1)))), (12, .int (kK T (ts T (a + k)) (j))), (11, .int (vV T (a + k) (j))), (0, .ref (E.2.1 (0))), (1, .int (nI (a))), (2, .int (nI (b0))), (3, .int (nI (tn T - 1))), (4, .int (nI (tr T))), (6, .int (shN T a b0)), (7, .int (nI (j))), (10, .int (nI (a + k)))] dL_table_371 (by decide) rfl ?_
                                            refine y_iload X dL_table_373 1 rfl ?_
                                            refine y_if_eq X 461 ((1) = (0)) dL_table_375 (by decide) (nI_eq (a := 1) (b := 0) (by omega) (by omega)) (fun c_22 => ?_) (fun c_22 => ?_)
                                            ·
                                              exact absurd c_22 (by decide)
                                            ·
                                              have J_404 : xY p l e ({ frames := 7, cells := 0, slots := 0, locals := 158 } : Room) s m args below meth c E (xA E) 14 0 0 (MQ below (xQ E (fun v C1 => v = some (.int (1)) ∧ C1 = C)) args s 0 0 (xA E)) C 404 [(13, .int (hR T (tn T - 1) (a + k) (j))), (5, .int (1)), (9, .int (x9 + (vV T (a + k) (j)))), (8, .int (bI (ALk T a b0 j (k + 1)))), (12, .int (kK T (ts T (a + k)) (j))), (11, .int (vV T (a + k) (j))), (0, .ref (E.2.1 (0))), (1, .int (nI (a))), (2, .int (nI (b0))), (3, .int (nI (tn T - 1))), (4, .int (nI (tr T))), (6, .int (shN T a b0)), (7, .int (nI (j))), (10, .int (nI (a + k)))] [] := by
                                                have J_430 : xY p l e ({ frames := 7, cells := 0, slots := 0, locals := 158 } : Room) s m args below meth c E (xA E) 14 0 0 (MQ below (xQ E (fun v C1 => v = some (.int (1)) ∧ C1 = C)) args s 0 0 (xA E)) C 430 [(13, .int (hR T (tn T - 1) (a + k) (j))), (5, .int (1)), (9, .int (x9 + (vV T (a + k) (j)))), (8, .int (bI (ALk T a b0 j (k + 1)))), (12, .int (kK T (ts T (a + k)) (j))), (11, .int (vV T (a + k) (j))), (0, .ref (E.2.1 (0))), (1, .int (nI (a))), (2, .int (nI (b0))), (3, .int (nI (tn T - 1))), (4, .int (nI (tr T))), (6, .int (shN T a b0)), (7, .int (nI (j))), (10, .int (nI (a + k)))] [] := by
                                                  refine y_iload X dL_table_430 0 rfl ?_
                                                  refine y_iconst X (v := (3)) dL_table_432 (by decide) ?_
                                                  refine y_icmp_ne X 457 (¬ ((hR T (tn T - 1) (a + k) (j)) = (3))) dL_table_433 (by decide) Iff.rfl (fun c_23 => ?_) (fun c_23 => ?_)
                                                  ·
                                                    refine y_iconst X (v := (1)) dL_table_457 (by decide) ?_
                                                    refine y_goto X 462 dL_table_458 (by decide) ?_
                                                    refine y_istore X [(5, .int (1)), (13, .int (hR T (tn T - 1) (a + k) (j))), (9, .int (x9 + (vV T (a + k) (j)))), (8, .int (bI (ALk T a b0 j (k + 1)))), (12, .int (kK T (ts T (a + k)) (j))), (11, .int (vV T (a + k) (j))), (0, .ref (E.2.1 (0))), (1, .int (nI (a))), (2, .int (nI (b0))), (3, .int (nI (tn T - 1))), (4, .int (nI (tr T))), (6, .int (shN T a b0)), (7, .int (nI (j))), (10, .int (nI (a + k)))] dL_table_462 (by decide) rfl ?_
                                                    refine y_iinc X [(10, .int (nI (a + k + 1))), (5, .int (1)), (13, .int (hR T (tn T - 1) (a + k) (j))), (9, .int (x9 + (vV T (a + k) (j)))), (8, .int (bI (ALk T a b0 j (k + 1)))), (12, .int (kK T (ts T (a + k)) (j))), (11, .int (vV T (a + k) (j))), (0, .ref (E.2.1 (0))), (1, .int (nI (a))), (2, .int (nI (b0))), (3, .int (nI (tn T - 1))), (4, .int (nI (tr T))), (6, .int (shN T a b0)), (7, .int (nI (j)))] dL_table_464 13 rfl (nI_1 _) (by decide) rfl ?_
                                                    refine y_goto X 215 dL_table_467 (by decide) ?_
                                                    refine y_pick [7, 8, 9, 10, 11, 1, 12, 13, 4, 3, 0] [(0, .ref (E.2.1 (0))), (1, .int (nI (a))), (2, .int (nI (b0))), (3, .int (nI (tn T - 1))), (4, .int (nI (tr T))), (5, .int (1)), (6, .int (shN T a b0)), (7, .int (nI (j))), (8, .int (bI (ALk T a b0 j (k + 1)))), (9, .int (x9 + (vV T (a + k) (j)))), (10, .int (nI (a + k + 1)))] rfl ?_
                                                    exact ih215 (k + 1) ((x9 + (vV T (a + k) (j)))) (by omega) (by omega) (fun z => svs_s gx9 z)
                                                  ·
                                                    have c_23 := Decidable.of_not_not c_23
                                                    refine y_aload_n X dL_table_436 6 rfl ?_
                                                    refine y_iload X dL_table_437 13 rfl ?_
                                                    refine y_iload_n X dL_table_439 9 rfl ?_
                                                    refine y_iload X dL_table_440 12 rfl ?_
                                                    refine y_iconst X (v := (0)) dL_table_442 (by decide) ?_
                                                    refine y_callVr X (0) 4 (av := [.int (nI (a + k)), .int (nI (tn T - 1)), .int (nI (j)), .int (0)]) [] 4 ((xR_eq (rRead_0 gv.1 (by omega) (by omega) (by omega)) (c_X4_read (x := nI (a + k)) (y := nI (tn T - 1)) (u1 := nI (j)) (w := (0)) gC gW))) (by omega) e0 rfl gL_table_X4_read rfl (by decide +kernel) rfl ⟨Nat.le_of_ble_eq_true rfl, Nat.le_of_ble_eq_true rfl⟩ ⟨Nat.zero_le _, Nat.zero_le _⟩ (Nat.le_of_ble_eq_true rfl) rfl dL_table_443 ?_
                                                    refine y_aload_n X dL_table_446 6 rfl ?_
                                                    refine y_iload_n X dL_table_447 9 rfl ?_
                                                    refine y_iload X dL_table_448 12 rfl ?_
                                                    refine y_iconst X (v := (1)) dL_table_450 (by decide) ?_
                                                    refine y_callVr X (0) 4 (av := [.int (nI (tn T - 1)), .int (nI (j)), .int (1)]) [.int (rR T (tn T - 1) (a + k) (j))] 3 ((xR_eq (rCol_1 gv.1 (by omega) (by omega)) (c_X4_column (x := nI (tn T - 1)) (y := nI (j)) (w := (1)) gC gW))) (by omega) e0 rfl gL_table_X4_column rfl (by decide +kernel) rfl ⟨Nat.le_of_ble_eq_true rfl, Nat.le_of_ble_eq_true rfl⟩ ⟨Nat.zero_le _, Nat.zero_le _⟩ (Nat.le_of_ble_eq_true rfl) rfl dL_table_451 ?_
                                                    refine y_icmp_ne X 461 (False) dL_table_454 (by decide) (iff_of_false (fun z => z (how_3 c_23)) id) (fun c_24 => ?_) (fun c_24 => ?_)
                                                    ·
                                                      exact c_24.elim
                                                    ·
                                                      refine y_iconst X (v := (1)) dL_table_457 (by decide) ?_
                                                      refine y_goto X 462 dL_table_458 (by decide) ?_
                                                      refine y_istore X [(5, .int (1)), (13, .int (hR T (tn T - 1) (a + k) (j))), (9, .int (x9 + (vV T (a + k) (j)))), (8, .int (bI (ALk T a b0 j (k + 1)))), (12, .int (kK T (ts T (a + k)) (j))), (11, .int (vV T (a + k) (j))), (0, .ref (E.2.1 (0))), (1, .int (nI (a))), (2, .int (nI (b0))), (3, .int (nI (tn T - 1))), (4, .int (nI (tr T))), (6, .int (shN T a b0)), (7, .int (nI (j))), (10, .int (nI (a + k)))] dL_table_462 (by decide) rfl ?_
                                                      refine y_iinc X [(10, .int (nI (a + k + 1))), (5, .int (1)), (13, .int (hR T (tn T - 1) (a + k) (j))), (9, .int (x9 + (vV T (a + k) (j)))), (8, .int (bI (ALk T a b0 j (k + 1)))), (12, .int (kK T (ts T (a + k)) (j))), (11, .int (vV T (a + k) (j))), (0, .ref (E.2.1 (0))), (1, .int (nI (a))), (2, .int (nI (b0))), (3, .int (nI (tn T - 1))), (4, .int (nI (tr T))), (6, .int (shN T a b0)), (7, .int (nI (j)))] dL_table_464 13 rfl (nI_1 _) (by decide) rfl ?_
                                                      refine y_goto X 215 dL_table_467 (by decide) ?_
                                                      refine y_pick [7, 8, 9, 10, 11, 1, 12, 13, 4, 3, 0] [(0, .ref (E.2.1 (0))), (1, .int (nI (a))), (2, .int (nI (b0))), (3, .int (nI (tn T - 1))), (4, .int (nI (tr T))), (5, .int (1)), (6, .int (shN T a b0)), (7, .int (nI (j))), (8, .int (bI (ALk T a b0 j (k + 1)))), (9, .int (x9 + (vV T (a + k) (j)))), (10, .int (nI (a + k + 1)))] rfl ?_
                                                      exact ih215 (k + 1) ((x9 + (vV T (a + k) (j)))) (by omega) (by omega) (fun z => svs_s gx9 z)
                                                refine y_iload X dL_table_404 0 rfl ?_
                                                refine y_iconst X (v := (2)) dL_table_406 (by decide) ?_
                                                refine y_icmp_ne X 430 (¬ ((hR T (tn T - 1) (a + k) (j)) = (2))) dL_table_407 (by decide) Iff.rfl (fun c_25 => ?_) (fun c_25 => ?_)
                                                ·
                                                  exact J_430
                                                ·
                                                  have c_25 := Decidable.of_not_not c_25
                                                  refine y_aload_n X dL_table_410 6 rfl ?_
                                                  refine y_iload X dL_table_411 13 rfl ?_
                                                  refine y_iload_n X dL_table_413 9 rfl ?_
                                                  refine y_iload X dL_table_414 12 rfl ?_
                                                  refine y_iconst X (v := (0)) dL_table_416 (by decide) ?_
                                                  refine y_callVr X (0) 4 (av := [.int (nI (a + k)), .int (nI (tn T - 1)), .int (nI (j)), .int (0)]) [] 4 ((xR_eq (rRead_0 gv.1 (by omega) (by omega) (by omega)) (c_X4_read (x := nI (a + k)) (y := nI (tn T - 1)) (u1 := nI (j)) (w := (0)) gC gW))) (by omega) e0 rfl gL_table_X4_read rfl (by decide +kernel) rfl ⟨Nat.le_of_ble_eq_true rfl, Nat.le_of_ble_eq_true rfl⟩ ⟨Nat.zero_le _, Nat.zero_le _⟩ (Nat.le_of_ble_eq_true rfl) rfl dL_table_417 ?_
                                                  refine y_iload X dL_table_420 4 rfl ?_
                                                  refine y_callJr X (av := [.int (rR T (tn T - 1) (a + k) (j)), .int (kK T (ts T (a + k)) (j))]) [] 2 (c_L_cast (x := (rR T (tn T - 1) (a + k) (j))) (y := (kK T (ts T (a + k)) (j)))) gL_table_L_cast rfl (by decide +kernel) rfl ⟨Nat.le_of_ble_eq_true rfl, Nat.le_of_ble_eq_true rfl⟩ ⟨Nat.zero_le _, Nat.zero_le _⟩ (Nat.le_of_ble_eq_true rfl) rfl dL_table_422 ?_
                                                  refine y_iload X dL_table_425 5 rfl ?_
                                                  refine y_icmp_eq X 461 (False) dL_table_427 (by decide) (iff_of_false (how_2 gv (by omega) (by omega) (by omega) c_25) id) (fun c_26 => ?_) (fun c_26 => ?_)
                                                  ·
                                                    exact c_26.elim
                                                  ·
                                                    exact J_430
                                              refine y_iload X dL_table_378 0 rfl ?_
                                              refine y_iconst X (v := (1)) dL_table_380 (by decide) ?_
                                              refine y_icmp_ne X 404 (¬ ((hR T (tn T - 1) (a + k) (j)) = (1))) dL_table_381 (by decide) Iff.rfl (fun c_27 => ?_) (fun c_27 => ?_)
                                              ·
                                                exact J_404
                                              ·
                                                have c_27 := Decidable.of_not_not c_27
                                                refine y_aload_n X dL_table_384 6 rfl ?_
                                                refine y_iload X dL_table_385 13 rfl ?_
                                                refine y_iload_n X dL_table_387 9 rfl ?_
                                                refine y_iload X dL_table_388 12 rfl ?_
                                                refine y_iconst X (v := (0)) dL_table_390 (by decide) ?_
                                                refine y_callVr X (0) 4 (av := [.int (nI (a + k)), .int (nI (tn T - 1)), .int (nI (j)), .int (0)]) [] 4 ((xR_eq (rRead_0 gv.1 (by omega) (by omega) (by omega)) (c_X4_read (x := nI (a + k)) (y := nI (tn T - 1)) (u1 := nI (j)) (w := (0)) gC gW))) (by omega) e0 rfl gL_table_X4_read rfl (by decide +kernel) rfl ⟨Nat.le_of_ble_eq_true rfl, Nat.le_of_ble_eq_true rfl⟩ ⟨Nat.zero_le _, Nat.zero_le _⟩ (Nat.le_of_ble_eq_true rfl) rfl dL_table_391 ?_
                                                refine y_iload X dL_table_394 4 rfl ?_
                                                refine y_callJr X (av := [.int (rR T (tn T - 1) (a + k) (j)), .int (kK T (ts T (a + k)) (j))]) [] 2 (c_L_cast (x := (rR T (tn T - 1) (a + k) (j))) (y := (kK T (ts T (a + k)) (j)))) gL_table_L_cast rfl (by decide +kernel) rfl ⟨Nat.le_of_ble_eq_true rfl, Nat.le_of_ble_eq_true rfl⟩ ⟨Nat.zero_le _, Nat.zero_le _⟩ (Nat.le_of_ble_eq_true rfl) rfl dL_table_396 ?_
                                                refine y_iload X dL_table_399 5 rfl ?_
                                                refine y_icmp_ne X 461 (False) dL_table_401 (by decide) (iff_of_false (fun z => z (how_1 gv (by omega) (by omega) (by omega) c_27)) id) (fun c_28 => ?_) (fun c_28 => ?_)
                                                ·
                                                  exact c_28.elim
                                                ·
                                                  exact J_404
                                          refine y_iload X dL_table_275 2 rfl ?_
                                          refine y_if_ge X 296 (¬ tk T (ts T (a + k)) j = -1) dL_table_277 (by decide) (kK_ge gv (by omega) (by omega)) (fun c_29 => ?_) (fun c_29 => ?_)
                                          ·
                                            refine y_iload X dL_table_296 3 rfl ?_
                                            refine y_iload X dL_table_298 2 rfl ?_
                                            refine y_callJr X (av := [.int (kK T (ts T (a + k)) (j))]) [.int (vV T (a + k) (j))] 1 (c_L_least (x := (kK T (ts T (a + k)) (j)))) gL_table_L_least rfl (by decide +kernel) rfl ⟨Nat.le_of_ble_eq_true rfl, Nat.le_of_ble_eq_true rfl⟩ ⟨Nat.zero_le _, Nat.zero_le _⟩ (Nat.le_of_ble_eq_true rfl) rfl dL_table_300 ?_
                                            refine y_icmp_lt X 358 (False) dL_table_303 (by decide) (iff_of_false (v_lo gv (by omega) (by omega) c_29) id) (fun c_30 => ?_) (fun c_30 => ?_)
                                            ·
                                              exact c_30.elim
                                            ·
                                              refine y_iload X dL_table_306 3 rfl ?_
                                              refine y_iload X dL_table_308 2 rfl ?_
                                              refine y_callJr X (av := [.int (kK T (ts T (a + k)) (j))]) [.int (vV T (a + k) (j))] 1 (c_L_most (x := (kK T (ts T (a + k)) (j)))) gL_table_L_most rfl (by decide +kernel) rfl ⟨Nat.le_of_ble_eq_true rfl, Nat.le_of_ble_eq_true rfl⟩ ⟨Nat.zero_le _, Nat.zero_le _⟩ (Nat.le_of_ble_eq_true rfl) rfl dL_table_310 ?_
                                              refine y_icmp_gt X 358 (False) dL_table_313 (by decide) (iff_of_false (v_hi gv (by omega) (by omega) c_29) id) (fun c_31 => ?_) (fun c_31 => ?_)
                                              ·
                                                exact c_31.elim
                                              ·
                                                refine y_aload_n X dL_table_316 4 rfl ?_
                                                refine y_iload X dL_table_317 12 rfl ?_
                                                refine y_aload_n X dL_table_319 4 rfl ?_
                                                refine y_iload X dL_table_320 12 rfl ?_
                                                refine y_callVr X (0) 4 (av := [.int (nI (a + k))]) [.int (nI (a + k)), .ref (E.2.1 (0))] 1 ((xR_eq (rSof_s gv.1 (by omega)) (c_X4_seasonOf (x := nI (a + k)) gC gW))) (by omega) e0 rfl gL_table_X4_seasonOf rfl (by decide +kernel) rfl ⟨Nat.le_of_ble_eq_true rfl, Nat.le_of_ble_eq_true rfl⟩ ⟨Nat.zero_le _, Nat.zero_le _⟩ (Nat.le_of_ble_eq_true rfl) rfl dL_table_322 ?_
                                                refine y_iload X dL_table_325 11 rfl ?_
                                                refine y_iconst X (v := (0)) dL_table_327 (by decide) ?_
                                                refine y_callVr X (0) 4 (av := [.int (nI (a + k)), .int (nI (ts T (a + k))), .int (nI (j)), .int (0)]) [] 4 ((xR_eq (rRead_0 gv.1 (by omega) (by omega) (by omega)) (c_X4_read (x := nI (a + k)) (y := nI (ts T (a + k))) (u1 := nI (j)) (w := (0)) gC gW))) (by omega) e0 rfl gL_table_X4_read rfl (by decide +kernel) rfl ⟨Nat.le_of_ble_eq_true rfl, Nat.le_of_ble_eq_true rfl⟩ ⟨Nat.zero_le _, Nat.zero_le _⟩ (Nat.le_of_ble_eq_true rfl) rfl dL_table_328 ?_
                                                refine y_iload X dL_table_331 3 rfl ?_
                                                refine y_icmp_ne X 358 (False) dL_table_333 (by decide) (iff_of_false (fun z => z (v_rd gv (by omega) (by omega) c_29)) id) (fun c_32 => ?_) (fun c_32 => ?_)
                                                ·
                                                  exact c_32.elim
                                                ·
                                                  refine y_aload_n X dL_table_336 4 rfl ?_
                                                  refine y_iload X dL_table_337 12 rfl ?_
                                                  refine y_aload_n X dL_table_339 4 rfl ?_
                                                  refine y_iload X dL_table_340 12 rfl ?_
                                                  refine y_callVr X (0) 4 (av := [.int (nI (a + k))]) [.int (nI (a + k)), .ref (E.2.1 (0))] 1 ((xR_eq (rSof_s gv.1 (by omega)) (c_X4_seasonOf (x := nI (a + k)) gC gW))) (by omega) e0 rfl gL_table_X4_seasonOf rfl (by decide +kernel) rfl ⟨Nat.le_of_ble_eq_true rfl, Nat.le_of_ble_eq_true rfl⟩ ⟨Nat.zero_le _, Nat.zero_le _⟩ (Nat.le_of_ble_eq_true rfl) rfl dL_table_342 ?_
                                                  refine y_iload X dL_table_345 11 rfl ?_
                                                  refine y_iconst X (v := (1)) dL_table_347 (by decide) ?_
                                                  refine y_callVr X (0) 4 (av := [.int (nI (a + k)), .int (nI (ts T (a + k))), .int (nI (j)), .int (1)]) [] 4 ((xR_eq (rRead_1 gv.1 (by omega) (by omega) (by omega)) (c_X4_read (x := nI (a + k)) (y := nI (ts T (a + k))) (u1 := nI (j)) (w := (1)) gC gW))) (by omega) e0 rfl gL_table_X4_read rfl (by decide +kernel) rfl ⟨Nat.le_of_ble_eq_true rfl, Nat.le_of_ble_eq_true rfl⟩ ⟨Nat.zero_le _, Nat.zero_le _⟩ (Nat.le_of_ble_eq_true rfl) rfl dL_table_348 ?_
                                                  refine y_if_ne X 358 (False) dL_table_351 (by decide) (iff_of_false (fun z => z (v_hw c_29)) id) (fun c_33 => ?_) (fun c_33 => ?_)
                                                  ·
                                                    exact c_33.elim
                                                  ·
                                                    refine y_iconst X (v := (1)) dL_table_354 (by decide) ?_
                                                    refine y_goto X 359 dL_table_355 (by decide) ?_
                                                    exact J_359
                                          ·
                                            have c_29 := Decidable.of_not_not c_29
                                            refine y_iload X dL_table_280 3 rfl ?_
                                            refine y_sipush X (v := (-10005)) dL_table_282 (by decide) ?_
                                            refine y_icmp_ne X 292 (False) dL_table_285 (by decide) (iff_of_false (fun z => z (v_no c_29)) id) (fun c_34 => ?_) (fun c_34 => ?_)
                                            ·
                                              exact c_34.elim
                                            ·
                                              refine y_iconst X (v := (1)) dL_table_288 (by decide) ?_
                                              refine y_goto X 359 dL_table_289 (by decide) ?_
                                              exact J_359
                                        refine y_iload X dL_table_251 10 rfl ?_
                                        refine y_if_eq X 265 (¬ (ALk T a b0 j k)) dL_table_253 (by decide) bI_eq (fun c_35 => ?_) (fun c_35 => ?_)
                                        ·
                                          refine y_iconst X (v := (0)) dL_table_265 (by decide) ?_
                                          refine y_st X [.int (bI (ALk T a b0 j (k + 1)))] (by rw [bI_0 (P := ALk T a b0 j (k + 1)) (fun z => c_35 (AL_s.mp z).1)]) ?_
                                          exact J_266
                                        ·
                                          have c_35 := Decidable.of_not_not c_35
                                          refine y_iload X dL_table_256 0 rfl ?_
                                          refine y_if_lt X 265 (tk T (ts T (a + k)) j = -1) dL_table_258 (by decide) (kK_lt gv (by omega) (by omega)) (fun c_36 => ?_) (fun c_36 => ?_)
                                          ·
                                            refine y_iconst X (v := (0)) dL_table_265 (by decide) ?_
                                            refine y_st X [.int (bI (ALk T a b0 j (k + 1)))] (by rw [bI_0 (P := ALk T a b0 j (k + 1)) (fun z => (AL_s.mp z).2 c_36)]) ?_
                                            exact J_266
                                          ·
                                            refine y_iconst X (v := (1)) dL_table_261 (by decide) ?_
                                            refine y_goto X 266 dL_table_262 (by decide) ?_
                                            refine y_st X [.int (bI (ALk T a b0 j (k + 1)))] (by rw [bI_1 (P := ALk T a b0 j (k + 1)) (AL_s.mpr ⟨c_35, c_36⟩)]) ?_
                                            exact J_266
                                refine y_pick [3, 4, 5, 6, 7, 8, 9, 10, 2, 1, 0] [(0, .ref (E.2.1 (0))), (1, .int (nI (a))), (2, .int (nI (b0))), (3, .int (nI (tn T - 1))), (4, .int (nI (tr T))), (5, .int (1)), (6, .int (shN T a b0)), (7, .int (nI (j))), (8, .int (bI (ALk T a b0 j 0))), (9, .int (0)), (10, .int (nI (a)))] rfl ?_
                                exact L_215 _ (0) (0) (Nat.lt_succ_self _) (by omega) (fun _ => rfl)
                              refine y_iload_n X dL_table_197 2 rfl ?_
                              refine y_iload_n X dL_table_198 1 rfl ?_
                              refine y_icmp_lt X 206 ((b0) < (a)) dL_table_199 (by decide) (nI_ltI (a := b0) (b := a) (by omega) (by omega)) (fun c_37 => ?_) (fun c_37 => ?_)
                              ·
                                refine y_iconst X (v := (0)) dL_table_206 (by decide) ?_
                                refine y_st X [.int (bI (ALk T a b0 j 0))] (by rw [bI_0 (P := ALk T a b0 j 0) (fun z => absurd (AL_0.mp z) (by omega))]) ?_
                                exact J_207
                              ·
                                refine y_iconst X (v := (1)) dL_table_202 (by decide) ?_
                                refine y_goto X 207 dL_table_203 (by decide) ?_
                                refine y_st X [.int (bI (ALk T a b0 j 0))] (by rw [bI_1 (P := ALk T a b0 j 0) (AL_0.mpr (by omega))]) ?_
                                exact J_207
                    refine y_pick [2, 3, 4, 5, 6, 7, 1, 0] [(0, .ref (E.2.1 (0))), (1, .int (nI (a))), (2, .int (nI (b0))), (3, .int (nI (tn T - 1))), (4, .int (nI (tr T))), (5, .int (1)), (6, .int (shN T a b0)), (7, .int (0))] rfl ?_
                    exact L_180 _ (0) (Nat.lt_succ_self _) (by omega)
                  ·
                    refine y_iload X dL_table_81 5 rfl ?_
                    refine y_if_eq X 168 ((1) = (0)) dL_table_83 (by decide) (nI_eq (a := 1) (b := 0) (by omega) (by omega)) (fun c_38 => ?_) (fun c_38 => ?_)
                    ·
                      exact absurd c_38 (by decide)
                    ·
                      refine y_iconst X (v := (0)) dL_table_86 (by decide) ?_
                      refine y_istore X [(7, .int (0)), (0, .ref (E.2.1 (0))), (1, .int (nI (a))), (2, .int (nI (b0))), (3, .int (nI (tn T - 1))), (4, .int (nI (tr T))), (5, .int (1)), (6, .int (nI (q)))] dL_table_87 (by decide) rfl ?_
                      refine y_iconst X (v := (0)) dL_table_89 (by decide) ?_
                      refine y_istore X [(8, .int (0)), (7, .int (0)), (0, .ref (E.2.1 (0))), (1, .int (nI (a))), (2, .int (nI (b0))), (3, .int (nI (tn T - 1))), (4, .int (nI (tr T))), (5, .int (1)), (6, .int (nI (q)))] dL_table_90 (by decide) rfl ?_
                      have L_92 : ∀ (n : Nat) (j : Nat) (x7 : Int32), 8 - j < n → (j ≤ 8) → (x7 = chg T q j) → xY p l e ({ frames := 7, cells := 0, slots := 0, locals := 158 } : Room) s m args below meth c E (xA E) 14 0 0 (MQ below (xQ E (fun v C1 => v = some (.int (1)) ∧ C1 = C)) args s 0 0 (xA E)) C 92 [(0, .ref (E.2.1 (0))), (1, .int (nI (a))), (2, .int (nI (b0))), (3, .int (nI (tn T - 1))), (4, .int (nI (tr T))), (5, .int (1)), (6, .int (nI (q))), (7, .int x7), (8, .int (nI (j)))] [] := by
                        intro n92
                        induction n92 with
                        | zero => intro _ _ hm92; exact absurd hm92 (Nat.not_lt_zero _)
                        | succ n92 ih92 =>
                          intro j x7 hm92 gj gx
                          refine y_iload X dL_table_92 8 rfl ?_
                          refine y_bipush X (v := (8)) dL_table_94 (by decide) ?_
                          refine y_icmp_ge X 138 ((8) ≤ (j)) dL_table_96 (by decide) (nI_leI (a := 8) (b := j) (by omega) (by omega)) (fun c_39 => ?_) (fun c_39 => ?_)
                          ·
                            have gj8 : j = 8 := by omega
                            refine y_iload X dL_table_138 7 rfl ?_
                            refine y_iconst X (v := (1)) dL_table_140 (by decide) ?_
                            refine y_icmp_ne X 159 (False) dL_table_141 (by decide) (iff_of_false (fun z => z (by rw [gx, gj8]; exact chg_1 gd gq1 (by omega))) id) (fun c_40 => ?_) (fun c_40 => ?_)
                            ·
                              exact c_40.elim
                            ·
                              refine y_aload_n X dL_table_144 0 rfl ?_
                              refine y_iload X dL_table_145 6 rfl ?_
                              refine y_iconst X (v := (3)) dL_table_147 (by decide) ?_
                              refine y_callVr X (0) 4 (av := [.int (nI (q)), .int (3)]) [] 2 ((xR_eq (rSea_3 gv.1 (by omega)) (c_X4_season (x := nI (q)) (w := 3) gC gW))) (by omega) e0 rfl gL_table_X4_season rfl (by decide +kernel) rfl ⟨Nat.le_of_ble_eq_true rfl, Nat.le_of_ble_eq_true rfl⟩ ⟨Nat.zero_le _, Nat.zero_le _⟩ (Nat.le_of_ble_eq_true rfl) rfl dL_table_148 ?_
                              refine y_iconst X (v := (1)) dL_table_151 (by decide) ?_
                              refine y_icmp_gt X 159 (False) dL_table_152 (by decide) (iff_of_false (fun z => by have gnc := newC_1 gd gq1 (show q < tn T by omega); rw [i32lt, show (1 : Int32).toInt = 1 by decide] at z; omega) id) (fun c_41 => ?_) (fun c_41 => ?_)
                              ·
                                exact c_41.elim
                              ·
                                refine y_iconst X (v := (1)) dL_table_155 (by decide) ?_
                                refine y_goto X 160 dL_table_156 (by decide) ?_
                                refine y_istore X [(5, .int (1)), (0, .ref (E.2.1 (0))), (1, .int (nI (a))), (2, .int (nI (b0))), (3, .int (nI (tn T - 1))), (4, .int (nI (tr T))), (6, .int (nI (q))), (7, .int x7), (8, .int (nI (j)))] dL_table_160 (by decide) rfl ?_
                                refine y_iinc X [(6, .int (nI (q + 1))), (5, .int (1)), (0, .ref (E.2.1 (0))), (1, .int (nI (a))), (2, .int (nI (b0))), (3, .int (nI (tn T - 1))), (4, .int (nI (tr T))), (7, .int x7), (8, .int (nI (j)))] dL_table_162 6 rfl (nI_1 _) (by decide) rfl ?_
                                refine y_goto X 75 dL_table_165 (by decide) ?_
                                refine y_pick [2, 3, 4, 5, 6, 1, 0] [(0, .ref (E.2.1 (0))), (1, .int (nI (a))), (2, .int (nI (b0))), (3, .int (nI (tn T - 1))), (4, .int (nI (tr T))), (5, .int (1)), (6, .int (nI (q + 1)))] rfl ?_
                                exact ih75 (q + 1) (by omega) (by omega) (by omega)
                          ·
                            refine y_iload X dL_table_99 7 rfl ?_
                            refine y_aload_n X dL_table_101 0 rfl ?_
                            refine y_iload X dL_table_102 6 rfl ?_
                            refine y_iload X dL_table_104 8 rfl ?_
                            refine y_iconst X (v := (0)) dL_table_106 (by decide) ?_
                            refine y_callVr X (0) 4 (av := [.int (nI (q)), .int (nI (j)), .int (0)]) [.int x7] 3 ((xR_eq (rCol_0 gv.1 (by omega) (by omega)) (c_X4_column (x := nI (q)) (y := nI (j)) (w := (0)) gC gW))) (by omega) e0 rfl gL_table_X4_column rfl (by decide +kernel) rfl ⟨Nat.le_of_ble_eq_true rfl, Nat.le_of_ble_eq_true rfl⟩ ⟨Nat.zero_le _, Nat.zero_le _⟩ (Nat.le_of_ble_eq_true rfl) rfl dL_table_107 ?_
                            refine y_aload_n X dL_table_110 0 rfl ?_
                            refine y_iload X dL_table_111 6 rfl ?_
                            refine y_iconst X (v := (1)) dL_table_113 (by decide) ?_
                            refine y_isub X (z := (nI ((q) - (1)))) dL_table_114 (pk_sub (a := q) (b := 1) (by omega)) ?_
                            refine y_iload X dL_table_115 8 rfl ?_
                            refine y_iconst X (v := (0)) dL_table_117 (by decide) ?_
                            refine y_callVr X (0) 4 (av := [.int (nI ((q) - (1))), .int (nI (j)), .int (0)]) [.int (kK T (q) (j)), .int x7] 3 ((xR_eq (rCol_0 gv.1 (by omega) (by omega)) (c_X4_column (x := nI ((q) - (1))) (y := nI (j)) (w := (0)) gC gW))) (by omega) e0 rfl gL_table_X4_column rfl (by decide +kernel) rfl ⟨Nat.le_of_ble_eq_true rfl, Nat.le_of_ble_eq_true rfl⟩ ⟨Nat.zero_le _, Nat.zero_le _⟩ (Nat.le_of_ble_eq_true rfl) rfl dL_table_118 ?_
                            refine y_icmp_ne X 128 (¬ tk T q j = tk T (q - 1) j) dL_table_121 (by decide) (not_congr (kK_inj gv (by omega) (by omega) (by omega))) (fun c_42 => ?_) (fun c_42 => ?_)
                            ·
                              refine y_iconst X (v := (1)) dL_table_128 (by decide) ?_
                              refine y_iadd X (z := (x7 + (1))) dL_table_129 rfl ?_
                              refine y_istore X [(7, .int (x7 + (1))), (0, .ref (E.2.1 (0))), (1, .int (nI (a))), (2, .int (nI (b0))), (3, .int (nI (tn T - 1))), (4, .int (nI (tr T))), (5, .int (1)), (6, .int (nI (q))), (8, .int (nI (j)))] dL_table_130 (by decide) rfl ?_
                              refine y_iinc X [(8, .int (nI (j + 1))), (7, .int (x7 + (1))), (0, .ref (E.2.1 (0))), (1, .int (nI (a))), (2, .int (nI (b0))), (3, .int (nI (tn T - 1))), (4, .int (nI (tr T))), (5, .int (1)), (6, .int (nI (q)))] dL_table_132 8 rfl (nI_1 _) (by decide) rfl ?_
                              refine y_goto X 92 dL_table_135 (by decide) ?_
                              refine y_pick [2, 3, 4, 5, 6, 7, 8, 1, 0] [(0, .ref (E.2.1 (0))), (1, .int (nI (a))), (2, .int (nI (b0))), (3, .int (nI (tn T - 1))), (4, .int (nI (tr T))), (5, .int (1)), (6, .int (nI (q))), (7, .int (x7 + (1))), (8, .int (nI (j + 1)))] rfl ?_
                              exact ih92 (j + 1) ((x7 + (1))) (by omega) (by omega) (by rw [gx]; exact sm_add (if_neg c_42))
                            ·
                              have c_42 := Decidable.of_not_not c_42
                              refine y_iconst X (v := (0)) dL_table_124 (by decide) ?_
                              refine y_goto X 129 dL_table_125 (by decide) ?_
                              refine y_iadd X (z := (x7 + (0))) dL_table_129 rfl ?_
                              refine y_istore X [(7, .int (x7 + (0))), (0, .ref (E.2.1 (0))), (1, .int (nI (a))), (2, .int (nI (b0))), (3, .int (nI (tn T - 1))), (4, .int (nI (tr T))), (5, .int (1)), (6, .int (nI (q))), (8, .int (nI (j)))] dL_table_130 (by decide) rfl ?_
                              refine y_iinc X [(8, .int (nI (j + 1))), (7, .int (x7 + (0))), (0, .ref (E.2.1 (0))), (1, .int (nI (a))), (2, .int (nI (b0))), (3, .int (nI (tn T - 1))), (4, .int (nI (tr T))), (5, .int (1)), (6, .int (nI (q)))] dL_table_132 8 rfl (nI_1 _) (by decide) rfl ?_
                              refine y_goto X 92 dL_table_135 (by decide) ?_
                              refine y_pick [2, 3, 4, 5, 6, 7, 8, 1, 0] [(0, .ref (E.2.1 (0))), (1, .int (nI (a))), (2, .int (nI (b0))), (3, .int (nI (tn T - 1))), (4, .int (nI (tr T))), (5, .int (1)), (6, .int (nI (q))), (7, .int (x7 + (0))), (8, .int (nI (j + 1)))] rfl ?_
                              exact ih92 (j + 1) ((x7 + (0))) (by omega) (by omega) (by rw [gx]; exact sm_add (if_pos c_42))
                      refine y_pick [2, 3, 4, 5, 6, 7, 8, 1, 0] [(0, .ref (E.2.1 (0))), (1, .int (nI (a))), (2, .int (nI (b0))), (3, .int (nI (tn T - 1))), (4, .int (nI (tr T))), (5, .int (1)), (6, .int (nI (q))), (7, .int (0)), (8, .int (0))] rfl ?_
                      exact L_92 _ (0) (0) (Nat.lt_succ_self _) (by omega) rfl
              refine y_pick [4, 5, 6, 3, 2, 1, 0] [(0, .ref (E.2.1 (0))), (1, .int (nI (a))), (2, .int (nI (b0))), (3, .int (nI (tn T - 1))), (4, .int (nI (tr T))), (5, .int (1)), (6, .int (1))] rfl ?_
              exact L_75 _ (1) (Nat.lt_succ_self _) (by omega) (by omega)

set_option maxRecDepth 100000 in
set_option maxHeartbeats 4000000 in
theorem c_L_table0 {l : Launch} {E : xE} {C : xC} {T : Tb} {hh : Nat → Tb} {hn : Nat} {sn : Option Tb} {tx : Nat → Int32} {ln : Nat} {sp : Option (Nat × Int32)} (gC : CX E C T hh hn sn tx ln sp) (gW : WX T hh hn sn tx ln sp) (gd : DIF T) (g0 : tr T = 0) : xR E l yL_table wsL_table 7 158 [.ref (E.2.1 (0)), .int (0), .int (-1)] C (1) := by
  obtain ⟨f0, e0⟩ := CX_0 gC
  obtain ⟨gv, gn4, -, -, -, -, -⟩ := id gW
  obtain ⟨gw1, gw2, gw3, gw4⟩ := id gv.1
  have gna := nal_le gv.1
  have gla := nla_le (T := T) (q := tn T - 1)
  have gbl := bsC_lt gw1
  have gbs := bs_least gv.1
  refine xM_ofY (cc := cL_table) (maxL := 14) (ret := (some .boolean)) (by decide) rfl (Nat.le_of_ble_eq_true rfl) ?_
  intro p e s m args below meth c X hr
  refine y_lv [(0, .ref (E.2.1 (0))), (1, .int (0)), (2, .int (-1))] rfl ?_
  refine y_aload_n X dL_table_0 0 rfl ?_
  refine y_iconst X (v := (0)) dL_table_1 (by decide) ?_
  refine y_callVr X (0) 4 (av := [.int (0)]) [] 1 ((xR_eq rCt_0 (c_X4_count (w := 0) gC gW))) (by omega) e0 rfl gL_table_X4_count rfl (by decide +kernel) rfl ⟨Nat.le_of_ble_eq_true rfl, Nat.le_of_ble_eq_true rfl⟩ ⟨Nat.zero_le _, Nat.zero_le _⟩ (Nat.le_of_ble_eq_true rfl) rfl dL_table_2 ?_
  refine y_istore_n X [(3, .int (nI (tn T - 1))), (0, .ref (E.2.1 (0))), (1, .int (0)), (2, .int (-1))] dL_table_5 rfl (by decide) rfl ?_
  refine y_aload_n X dL_table_6 1 rfl ?_
  refine y_iconst X (v := (2)) dL_table_7 (by decide) ?_
  refine y_callVr X (0) 4 (av := [.int (2)]) [] 1 ((xR_eq rCt_2 (c_X4_count (w := 2) gC gW))) (by omega) e0 rfl gL_table_X4_count rfl (by decide +kernel) rfl ⟨Nat.le_of_ble_eq_true rfl, Nat.le_of_ble_eq_true rfl⟩ ⟨Nat.zero_le _, Nat.zero_le _⟩ (Nat.le_of_ble_eq_true rfl) rfl dL_table_8 ?_
  refine y_istore X [(4, .int (nI (tr T))), (3, .int (nI (tn T - 1))), (0, .ref (E.2.1 (0))), (1, .int (0)), (2, .int (-1))] dL_table_11 (by decide) rfl ?_
  refine y_iload_n X dL_table_13 1 rfl ?_
  refine y_if_lt X 69 ((tn T - 1) < (0)) dL_table_14 (by decide) (nI_ltI (a := tn T - 1) (b := 0) (by omega) (by omega)) (fun c_1 => ?_) (fun c_1 => ?_)
  ·
    exact absurd c_1 (by omega)
  ·
    refine y_iload_n X dL_table_17 1 rfl ?_
    refine y_bipush X (v := (30)) dL_table_18 (by decide) ?_
    refine y_icmp_ge X 69 ((30) ≤ (tn T - 1)) dL_table_20 (by decide) (nI_leI (a := 30) (b := tn T - 1) (by omega) (by omega)) (fun c_2 => ?_) (fun c_2 => ?_)
    ·
      exact absurd c_2 (by omega)
    ·
      refine y_iload X dL_table_23 0 rfl ?_
      refine y_bipush X (v := (24)) dL_table_25 (by decide) ?_
      refine y_icmp_gt X 69 ((24) < (tr T)) dL_table_27 (by decide) (nI_ltI (a := 24) (b := tr T) (by omega) (by omega)) (fun c_3 => ?_) (fun c_3 => ?_)
      ·
        exact absurd c_3 (by omega)
      ·
        refine y_aload_n X dL_table_30 2 rfl ?_
        refine y_iconst X (v := (5)) dL_table_31 (by decide) ?_
        refine y_callVr X (0) 4 (av := [.int (5)]) [] 1 ((xR_eq rCt_5 (c_X4_count (w := 5) gC gW))) (by omega) e0 rfl gL_table_X4_count rfl (by decide +kernel) rfl ⟨Nat.le_of_ble_eq_true rfl, Nat.le_of_ble_eq_true rfl⟩ ⟨Nat.zero_le _, Nat.zero_le _⟩ (Nat.le_of_ble_eq_true rfl) rfl dL_table_32 ?_
        refine y_aload_n X dL_table_35 2 rfl ?_
        refine y_iconst X (v := (4)) dL_table_36 (by decide) ?_
        refine y_callVr X (0) 4 (av := [.int (4)]) [.int (nI (nla T (tn T - 1)))] 1 ((xR_eq rCt_4 (c_X4_count (w := 4) gC gW))) (by omega) e0 rfl gL_table_X4_count rfl (by decide +kernel) rfl ⟨Nat.le_of_ble_eq_true rfl, Nat.le_of_ble_eq_true rfl⟩ ⟨Nat.zero_le _, Nat.zero_le _⟩ (Nat.le_of_ble_eq_true rfl) rfl dL_table_37 ?_
        refine y_icmp_gt X 69 ((nal T) < (nla T (tn T - 1))) dL_table_40 (by decide) (nI_ltI (a := nal T) (b := nla T (tn T - 1)) (by omega) (by omega)) (fun c_4 => ?_) (fun c_4 => ?_)
        ·
          exact absurd c_4 (by omega)
        ·
          refine y_aload_n X dL_table_43 2 rfl ?_
          refine y_iconst X (v := (1)) dL_table_44 (by decide) ?_
          refine y_callVr X (0) 4 (av := [.int (1)]) [] 1 ((xR_eq rBs_1 (c_X4_bestSeason (w := 1) gC gW))) (by omega) e0 rfl gL_table_X4_bestSeason rfl (by decide +kernel) rfl ⟨Nat.le_of_ble_eq_true rfl, Nat.le_of_ble_eq_true rfl⟩ ⟨Nat.zero_le _, Nat.zero_le _⟩ (Nat.le_of_ble_eq_true rfl) rfl dL_table_45 ?_
          refine y_aload_n X dL_table_48 2 rfl ?_
          refine y_iconst X (v := (5)) dL_table_49 (by decide) ?_
          refine y_callVr X (0) 4 (av := [.int (5)]) [.int (nI (nla T (bsC T)))] 1 ((xR_eq rCt_5 (c_X4_count (w := 5) gC gW))) (by omega) e0 rfl gL_table_X4_count rfl (by decide +kernel) rfl ⟨Nat.le_of_ble_eq_true rfl, Nat.le_of_ble_eq_true rfl⟩ ⟨Nat.zero_le _, Nat.zero_le _⟩ (Nat.le_of_ble_eq_true rfl) rfl dL_table_50 ?_
          refine y_icmp_gt X 69 ((nla T (tn T - 1)) < (nla T (bsC T))) dL_table_53 (by decide) (nI_ltI (a := nla T (tn T - 1)) (b := nla T (bsC T)) (by omega) (by omega)) (fun c_5 => ?_) (fun c_5 => ?_)
          ·
            exact absurd c_5 (by omega)
          ·
            refine y_aload_n X dL_table_56 2 rfl ?_
            refine y_iconst X (v := (0)) dL_table_57 (by decide) ?_
            refine y_callVr X (0) 4 (av := [.int (0)]) [] 1 ((xR_eq rBs_0 (c_X4_bestSeason (w := 0) gC gW))) (by omega) e0 rfl gL_table_X4_bestSeason rfl (by decide +kernel) rfl ⟨Nat.le_of_ble_eq_true rfl, Nat.le_of_ble_eq_true rfl⟩ ⟨Nat.zero_le _, Nat.zero_le _⟩ (Nat.le_of_ble_eq_true rfl) rfl dL_table_58 ?_
            refine y_iload_n X dL_table_61 1 rfl ?_
            refine y_icmp_gt X 69 ((tn T - 1) < (bsC T)) dL_table_62 (by decide) (nI_ltI (a := tn T - 1) (b := bsC T) (by omega) (by omega)) (fun c_6 => ?_) (fun c_6 => ?_)
            ·
              exact absurd c_6 (by omega)
            ·
              refine y_iconst X (v := (1)) dL_table_65 (by decide) ?_
              refine y_goto X 70 dL_table_66 (by decide) ?_
              refine y_istore X [(5, .int (1)), (4, .int (nI (tr T))), (3, .int (nI (tn T - 1))), (0, .ref (E.2.1 (0))), (1, .int (0)), (2, .int (-1))] dL_table_70 (by decide) rfl ?_
              refine y_iconst X (v := (1)) dL_table_72 (by decide) ?_
              refine y_istore X [(6, .int (1)), (5, .int (1)), (4, .int (nI (tr T))), (3, .int (nI (tn T - 1))), (0, .ref (E.2.1 (0))), (1, .int (0)), (2, .int (-1))] dL_table_73 (by decide) rfl ?_
              have L_75 : ∀ (n : Nat) (q : Nat), tn T - q < n → (1 ≤ q) → (q ≤ tn T) → xY p l e ({ frames := 7, cells := 0, slots := 0, locals := 158 } : Room) s m args below meth c E (xA E) 14 0 0 (MQ below (xQ E (fun v C1 => v = some (.int (1)) ∧ C1 = C)) args s 0 0 (xA E)) C 75 [(0, .ref (E.2.1 (0))), (1, .int (0)), (2, .int (-1)), (3, .int (nI (tn T - 1))), (4, .int (nI (tr T))), (5, .int (1)), (6, .int (nI (q)))] [] := by
                intro n75
                induction n75 with
                | zero => intro _ hm75; exact absurd hm75 (Nat.not_lt_zero _)
                | succ n75 ih75 =>
                  intro q hm75 gq1 gq2
                  refine y_iload X dL_table_75 6 rfl ?_
                  refine y_iload_n X dL_table_77 3 rfl ?_
                  refine y_icmp_gt X 168 ((tn T - 1) < (q)) dL_table_78 (by decide) (nI_ltI (a := tn T - 1) (b := q) (by omega) (by omega)) (fun c_7 => ?_) (fun c_7 => ?_)
                  ·
                    refine y_aload_n X dL_table_168 0 rfl ?_
                    refine y_iload_n X dL_table_169 1 rfl ?_
                    refine y_iload_n X dL_table_170 2 rfl ?_
                    refine y_iconst X (v := (0)) dL_table_171 (by decide) ?_
                    refine y_callVr X (0) 4 (av := [.int (0), .int (-1), .int (0)]) [] 3 ((xR_eq (rView_no g0) (c_X4_view (x := 0) (y := -1) (w := 0) gC gW))) (by omega) e0 rfl gL_table_X4_view rfl (by decide +kernel) rfl ⟨Nat.le_of_ble_eq_true rfl, Nat.le_of_ble_eq_true rfl⟩ ⟨Nat.zero_le _, Nat.zero_le _⟩ (Nat.le_of_ble_eq_true rfl) rfl dL_table_172 ?_
                    refine y_istore X [(6, .int (-10001)), (0, .ref (E.2.1 (0))), (1, .int (0)), (2, .int (-1)), (3, .int (nI (tn T - 1))), (4, .int (nI (tr T))), (5, .int (1))] dL_table_175 (by decide) rfl ?_
                    refine y_iconst X (v := (0)) dL_table_177 (by decide) ?_
                    refine y_istore X [(7, .int (0)), (6, .int (-10001)), (0, .ref (E.2.1 (0))), (1, .int (0)), (2, .int (-1)), (3, .int (nI (tn T - 1))), (4, .int (nI (tr T))), (5, .int (1))] dL_table_178 (by decide) rfl ?_
                    refine y_iload X dL_table_180 0 rfl ?_
                    refine y_bipush X (v := (8)) dL_table_182 (by decide) ?_
                    refine y_icmp_ge X 597 ((8) ≤ (0)) dL_table_184 (by decide) (nI_leI (a := 8) (b := 0) (by omega) (by omega)) (fun c_8 => ?_) (fun c_8 => ?_)
                    ·
                      exact absurd c_8 (by decide)
                    ·
                      refine y_iload X dL_table_187 7 rfl ?_
                      refine y_if_eq X 597 ((1) = (0)) dL_table_189 (by decide) (nI_eq (a := 1) (b := 0) (by omega) (by omega)) (fun c_9 => ?_) (fun c_9 => ?_)
                      ·
                        exact absurd c_9 (by decide)
                      ·
                        refine y_iload X dL_table_192 6 rfl ?_
                        refine y_if_le X 597 ((tr T) ≤ (0)) dL_table_194 (by decide) (nI_leI (a := tr T) (b := 0) (by omega) (by omega)) (fun c_10 => ?_) (fun c_10 => ?_)
                        ·
                          refine y_iload X dL_table_597 7 rfl ?_
                          exact y_zret X hr (by rfl) dL_table_599 rfl ⟨rfl, rfl⟩
                        ·
                          exact absurd (by omega) c_10
                  ·
                    refine y_iload X dL_table_81 5 rfl ?_
                    refine y_if_eq X 168 ((1) = (0)) dL_table_83 (by decide) (nI_eq (a := 1) (b := 0) (by omega) (by omega)) (fun c_11 => ?_) (fun c_11 => ?_)
                    ·
                      exact absurd c_11 (by decide)
                    ·
                      refine y_iconst X (v := (0)) dL_table_86 (by decide) ?_
                      refine y_istore X [(7, .int (0)), (0, .ref (E.2.1 (0))), (1, .int (0)), (2, .int (-1)), (3, .int (nI (tn T - 1))), (4, .int (nI (tr T))), (5, .int (1)), (6, .int (nI (q)))] dL_table_87 (by decide) rfl ?_
                      refine y_iconst X (v := (0)) dL_table_89 (by decide) ?_
                      refine y_istore X [(8, .int (0)), (7, .int (0)), (0, .ref (E.2.1 (0))), (1, .int (0)), (2, .int (-1)), (3, .int (nI (tn T - 1))), (4, .int (nI (tr T))), (5, .int (1)), (6, .int (nI (q)))] dL_table_90 (by decide) rfl ?_
                      have L_92 : ∀ (n : Nat) (j : Nat) (x7 : Int32), 8 - j < n → (j ≤ 8) → (x7 = chg T q j) → xY p l e ({ frames := 7, cells := 0, slots := 0, locals := 158 } : Room) s m args below meth c E (xA E) 14 0 0 (MQ below (xQ E (fun v C1 => v = some (.int (1)) ∧ C1 = C)) args s 0 0 (xA E)) C 92 [(0, .ref (E.2.1 (0))), (1, .int (0)), (2, .int (-1)), (3, .int (nI (tn T - 1))), (4, .int (nI (tr T))), (5, .int (1)), (6, .int (nI (q))), (7, .int x7), (8, .int (nI (j)))] [] := by
                        intro n92
                        induction n92 with
                        | zero => intro _ _ hm92; exact absurd hm92 (Nat.not_lt_zero _)
                        | succ n92 ih92 =>
                          intro j x7 hm92 gj gx
                          refine y_iload X dL_table_92 8 rfl ?_
                          refine y_bipush X (v := (8)) dL_table_94 (by decide) ?_
                          refine y_icmp_ge X 138 ((8) ≤ (j)) dL_table_96 (by decide) (nI_leI (a := 8) (b := j) (by omega) (by omega)) (fun c_12 => ?_) (fun c_12 => ?_)
                          ·
                            have gj8 : j = 8 := by omega
                            refine y_iload X dL_table_138 7 rfl ?_
                            refine y_iconst X (v := (1)) dL_table_140 (by decide) ?_
                            refine y_icmp_ne X 159 (False) dL_table_141 (by decide) (iff_of_false (fun z => z (by rw [gx, gj8]; exact chg_1 gd gq1 (by omega))) id) (fun c_13 => ?_) (fun c_13 => ?_)
                            ·
                              exact c_13.elim
                            ·
                              refine y_aload_n X dL_table_144 0 rfl ?_
                              refine y_iload X dL_table_145 6 rfl ?_
                              refine y_iconst X (v := (3)) dL_table_147 (by decide) ?_
                              refine y_callVr X (0) 4 (av := [.int (nI (q)), .int (3)]) [] 2 ((xR_eq (rSea_3 gv.1 (by omega)) (c_X4_season (x := nI (q)) (w := 3) gC gW))) (by omega) e0 rfl gL_table_X4_season rfl (by decide +kernel) rfl ⟨Nat.le_of_ble_eq_true rfl, Nat.le_of_ble_eq_true rfl⟩ ⟨Nat.zero_le _, Nat.zero_le _⟩ (Nat.le_of_ble_eq_true rfl) rfl dL_table_148 ?_
                              refine y_iconst X (v := (1)) dL_table_151 (by decide) ?_
                              refine y_icmp_gt X 159 (False) dL_table_152 (by decide) (iff_of_false (fun z => by have gnc := newC_1 gd gq1 (show q < tn T by omega); rw [i32lt, show (1 : Int32).toInt = 1 by decide] at z; omega) id) (fun c_14 => ?_) (fun c_14 => ?_)
                              ·
                                exact c_14.elim
                              ·
                                refine y_iconst X (v := (1)) dL_table_155 (by decide) ?_
                                refine y_goto X 160 dL_table_156 (by decide) ?_
                                refine y_istore X [(5, .int (1)), (0, .ref (E.2.1 (0))), (1, .int (0)), (2, .int (-1)), (3, .int (nI (tn T - 1))), (4, .int (nI (tr T))), (6, .int (nI (q))), (7, .int x7), (8, .int (nI (j)))] dL_table_160 (by decide) rfl ?_
                                refine y_iinc X [(6, .int (nI (q + 1))), (5, .int (1)), (0, .ref (E.2.1 (0))), (1, .int (0)), (2, .int (-1)), (3, .int (nI (tn T - 1))), (4, .int (nI (tr T))), (7, .int x7), (8, .int (nI (j)))] dL_table_162 6 rfl (nI_1 _) (by decide) rfl ?_
                                refine y_goto X 75 dL_table_165 (by decide) ?_
                                refine y_pick [2, 3, 4, 5, 6, 1, 0] [(0, .ref (E.2.1 (0))), (1, .int (0)), (2, .int (-1)), (3, .int (nI (tn T - 1))), (4, .int (nI (tr T))), (5, .int (1)), (6, .int (nI (q + 1)))] rfl ?_
                                exact ih75 (q + 1) (by omega) (by omega) (by omega)
                          ·
                            refine y_iload X dL_table_99 7 rfl ?_
                            refine y_aload_n X dL_table_101 0 rfl ?_
                            refine y_iload X dL_table_102 6 rfl ?_
                            refine y_iload X dL_table_104 8 rfl ?_
                            refine y_iconst X (v := (0)) dL_table_106 (by decide) ?_
                            refine y_callVr X (0) 4 (av := [.int (nI (q)), .int (nI (j)), .int (0)]) [.int x7] 3 ((xR_eq (rCol_0 gv.1 (by omega) (by omega)) (c_X4_column (x := nI (q)) (y := nI (j)) (w := (0)) gC gW))) (by omega) e0 rfl gL_table_X4_column rfl (by decide +kernel) rfl ⟨Nat.le_of_ble_eq_true rfl, Nat.le_of_ble_eq_true rfl⟩ ⟨Nat.zero_le _, Nat.zero_le _⟩ (Nat.le_of_ble_eq_true rfl) rfl dL_table_107 ?_
                            refine y_aload_n X dL_table_110 0 rfl ?_
                            refine y_iload X dL_table_111 6 rfl ?_
                            refine y_iconst X (v := (1)) dL_table_113 (by decide) ?_
                            refine y_isub X (z := (nI ((q) - (1)))) dL_table_114 (pk_sub (a := q) (b := 1) (by omega)) ?_
                            refine y_iload X dL_table_115 8 rfl ?_
                            refine y_iconst X (v := (0)) dL_table_117 (by decide) ?_
                            refine y_callVr X (0) 4 (av := [.int (nI ((q) - (1))), .int (nI (j)), .int (0)]) [.int (kK T (q) (j)), .int x7] 3 ((xR_eq (rCol_0 gv.1 (by omega) (by omega)) (c_X4_column (x := nI ((q) - (1))) (y := nI (j)) (w := (0)) gC gW))) (by omega) e0 rfl gL_table_X4_column rfl (by decide +kernel) rfl ⟨Nat.le_of_ble_eq_true rfl, Nat.le_of_ble_eq_true rfl⟩ ⟨Nat.zero_le _, Nat.zero_le _⟩ (Nat.le_of_ble_eq_true rfl) rfl dL_table_118 ?_
                            refine y_icmp_ne X 128 (¬ tk T q j = tk T (q - 1) j) dL_table_121 (by decide) (not_congr (kK_inj gv (by omega) (by omega) (by omega))) (fun c_15 => ?_) (fun c_15 => ?_)
                            ·
                              refine y_iconst X (v := (1)) dL_table_128 (by decide) ?_
                              refine y_iadd X (z := (x7 + (1))) dL_table_129 rfl ?_
                              refine y_istore X [(7, .int (x7 + (1))), (0, .ref (E.2.1 (0))), (1, .int (0)), (2, .int (-1)), (3, .int (nI (tn T - 1))), (4, .int (nI (tr T))), (5, .int (1)), (6, .int (nI (q))), (8, .int (nI (j)))] dL_table_130 (by decide) rfl ?_
                              refine y_iinc X [(8, .int (nI (j + 1))), (7, .int (x7 + (1))), (0, .ref (E.2.1 (0))), (1, .int (0)), (2, .int (-1)), (3, .int (nI (tn T - 1))), (4, .int (nI (tr T))), (5, .int (1)), (6, .int (nI (q)))] dL_table_132 8 rfl (nI_1 _) (by decide) rfl ?_
                              refine y_goto X 92 dL_table_135 (by decide) ?_
                              refine y_pick [2, 3, 4, 5, 6, 7, 8, 1, 0] [(0, .ref (E.2.1 (0))), (1, .int (0)), (2, .int (-1)), (3, .int (nI (tn T - 1))), (4, .int (nI (tr T))), (5, .int (1)), (6, .int (nI (q))), (7, .int (x7 + (1))), (8, .int (nI (j + 1)))] rfl ?_
                              exact ih92 (j + 1) ((x7 + (1))) (by omega) (by omega) (by rw [gx]; exact sm_add (if_neg c_15))
                            ·
                              have c_15 := Decidable.of_not_not c_15
                              refine y_iconst X (v := (0)) dL_table_124 (by decide) ?_
                              refine y_goto X 129 dL_table_125 (by decide) ?_
                              refine y_iadd X (z := (x7 + (0))) dL_table_129 rfl ?_
                              refine y_istore X [(7, .int (x7 + (0))), (0, .ref (E.2.1 (0))), (1, .int (0)), (2, .int (-1)), (3, .int (nI (tn T - 1))), (4, .int (nI (tr T))), (5, .int (1)), (6, .int (nI (q))), (8, .int (nI (j)))] dL_table_130 (by decide) rfl ?_
                              refine y_iinc X [(8, .int (nI (j + 1))), (7, .int (x7 + (0))), (0, .ref (E.2.1 (0))), (1, .int (0)), (2, .int (-1)), (3, .int (nI (tn T - 1))), (4, .int (nI (tr T))), (5, .int (1)), (6, .int (nI (q)))] dL_table_132 8 rfl (nI_1 _) (by decide) rfl ?_
                              refine y_goto X 92 dL_table_135 (by decide) ?_
                              refine y_pick [2, 3, 4, 5, 6, 7, 8, 1, 0] [(0, .ref (E.2.1 (0))), (1, .int (0)), (2, .int (-1)), (3, .int (nI (tn T - 1))), (4, .int (nI (tr T))), (5, .int (1)), (6, .int (nI (q))), (7, .int (x7 + (0))), (8, .int (nI (j + 1)))] rfl ?_
                              exact ih92 (j + 1) ((x7 + (0))) (by omega) (by omega) (by rw [gx]; exact sm_add (if_pos c_15))
                      refine y_pick [2, 3, 4, 5, 6, 7, 8, 1, 0] [(0, .ref (E.2.1 (0))), (1, .int (0)), (2, .int (-1)), (3, .int (nI (tn T - 1))), (4, .int (nI (tr T))), (5, .int (1)), (6, .int (nI (q))), (7, .int (0)), (8, .int (0))] rfl ?_
                      exact L_92 _ (0) (0) (Nat.lt_succ_self _) (by omega) rfl
              refine y_pick [4, 5, 6, 3, 2, 1, 0] [(0, .ref (E.2.1 (0))), (1, .int (0)), (2, .int (-1)), (3, .int (nI (tn T - 1))), (4, .int (nI (tr T))), (5, .int (1)), (6, .int (1))] rfl ?_
              exact L_75 _ (1) (Nat.lt_succ_self _) (by omega) (by omega)
