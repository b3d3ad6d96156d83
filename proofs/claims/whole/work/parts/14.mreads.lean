set_option maxRecDepth 100000 in
set_option maxHeartbeats 4000000 in
theorem c_X5_in {l : Launch} {E : xE} {C : xC} {x y z : Int32} {ax lo hi : Int} (gx : x.toInt = ax) (gy : y.toInt = lo) (gz : z.toInt = hi) : xR E l yX5_in wsX5_in 0 0 [.int x, .int y, .int z] C (bI (lo ≤ ax ∧ ax ≤ hi)) := by
  refine xM_ofY (cc := cX5_in) (maxL := 3) (ret := (some .boolean)) (by decide) rfl (Nat.le_of_ble_eq_true rfl) ?_
  intro p e s m args below meth c X hr
  refine y_lv [(0, .int x), (1, .int y), (2, .int z)] rfl ?_
  refine y_iload_n X dX5_in_0 0 rfl ?_
  refine y_iload_n X dX5_in_1 1 rfl ?_
  refine y_icmp_lt X 14 ((x).toInt < (y).toInt) dX5_in_2 (by decide) (cLt rfl rfl) (fun c_1 => ?_) (fun c_1 => ?_)
  ·
    refine y_iconst X (v := (0)) dX5_in_14 (by decide) ?_
    exact y_zret X hr (by rfl) dX5_in_15 rfl (by first | exact ⟨rfl, rfl⟩ | exact ⟨congrArg (fun z => some (Value.int z)) (bI_1 (by omega)).symm, rfl⟩ | exact ⟨congrArg (fun z => some (Value.int z)) (bI_0 (by omega)).symm, rfl⟩)
  ·
    refine y_iload_n X dX5_in_5 0 rfl ?_
    refine y_iload_n X dX5_in_6 2 rfl ?_
    refine y_icmp_gt X 14 ((z).toInt < (x).toInt) dX5_in_7 (by decide) (cLt rfl rfl) (fun c_2 => ?_) (fun c_2 => ?_)
    ·
      refine y_iconst X (v := (0)) dX5_in_14 (by decide) ?_
      exact y_zret X hr (by rfl) dX5_in_15 rfl (by first | exact ⟨rfl, rfl⟩ | exact ⟨congrArg (fun z => some (Value.int z)) (bI_1 (by omega)).symm, rfl⟩ | exact ⟨congrArg (fun z => some (Value.int z)) (bI_0 (by omega)).symm, rfl⟩)
    ·
      refine y_iconst X (v := (1)) dX5_in_10 (by decide) ?_
      refine y_goto X 15 dX5_in_11 (by decide) ?_
      exact y_zret X hr (by rfl) dX5_in_15 rfl (by first | exact ⟨rfl, rfl⟩ | exact ⟨congrArg (fun z => some (Value.int z)) (bI_1 (by omega)).symm, rfl⟩ | exact ⟨congrArg (fun z => some (Value.int z)) (bI_0 (by omega)).symm, rfl⟩)

set_option maxRecDepth 100000 in
set_option maxHeartbeats 4000000 in
theorem c_X5_isName {l : Launch} {E : xE} {C : xC} {x : Int32} : xR E l yX5_isName wsX5_isName 1 22 [.int x] C (bI (xin x 8)) := by
  refine xM_ofY (cc := cX5_isName) (maxL := 1) (ret := (some .boolean)) (by decide) rfl (Nat.le_of_ble_eq_true rfl) ?_
  intro p e s m args below meth c X hr
  refine y_lv [(0, .int x)] rfl ?_
  refine y_iload_n X dX5_isName_0 0 rfl ?_
  refine y_iconst X (v := (0)) dX5_isName_1 (by decide) ?_
  refine y_bipush X (v := (7)) dX5_isName_2 (by decide) ?_
  refine y_callJr X (av := [.int x, .int (0), .int (7)]) [] 3 (c_X5_in (x := x) (y := (0)) (z := (7)) (ax := (x).toInt) (lo := (0 : Int)) (hi := (7 : Int)) rfl (by decide) (by decide)) gX5_isName_X5_in rfl (by decide +kernel) rfl ⟨Nat.le_of_ble_eq_true rfl, Nat.le_of_ble_eq_true rfl⟩ ⟨Nat.zero_le _, Nat.zero_le _⟩ (Nat.le_of_ble_eq_true rfl) rfl dX5_isName_4 ?_
  exact y_zret X hr bI_nar dX5_isName_7 rfl ⟨congrArg (fun z => some (Value.int z)) (bI_congr ⟨fun z => ⟨by omega, by omega⟩, fun z => ⟨by omega, by omega⟩⟩), rfl⟩

set_option maxRecDepth 100000 in
set_option maxHeartbeats 4000000 in
theorem c_X5_isRow {l : Launch} {E : xE} {C : xC} {a : Nat} {T : Tb} (ga : a < 68) (gT : RM E C a T) (gv : WF T) {x : Int32} : xR E l yX5_isRow wsX5_isRow 1 22 [.ref (E.2.1 (a)), .int x] C (bI (xin x (tr T))) := by
  obtain ⟨zf, h0, g0, g1, gK, gD, gS, gV⟩ := id gT
  obtain ⟨gw1, gw2, gw3, gw4⟩ := id gv.1
  refine xM_ofY (cc := cX5_isRow) (maxL := 2) (ret := (some .boolean)) (by decide) rfl (Nat.le_of_ble_eq_true rfl) ?_
  intro p e s m args below meth c X hr
  refine y_lv [(0, .ref (E.2.1 (a))), (1, .int x)] rfl ?_
  refine y_iload_n X dX5_isRow_0 1 rfl ?_
  refine y_iconst X (v := (0)) dX5_isRow_1 (by decide) ?_
  refine y_aload_n X dX5_isRow_2 0 rfl ?_
  refine y_iconst X (v := (1)) dX5_isRow_3 (by decide) ?_
  refine y_iald X (a) dX5_isRow_4 (by omega) h0 (j := 1) rfl (by omega) (by omega) (z := (nI (tr T))) g1 ?_
  refine y_iconst X (v := (1)) dX5_isRow_5 (by decide) ?_
  refine y_isub X (z := (nI (tr T) - 1)) dX5_isRow_6 rfl ?_
  refine y_callJr X (av := [.int x, .int (0), .int (nI (tr T) - 1)]) [] 3 (c_X5_in (x := x) (y := (0)) (z := (nI (tr T) - 1)) (ax := (x).toInt) (lo := 0) (hi := ((tr T : Nat) : Int) - 1) rfl (by decide) (dn_toInt (by omega))) gX5_isRow_X5_in rfl (by decide +kernel) rfl ⟨Nat.le_of_ble_eq_true rfl, Nat.le_of_ble_eq_true rfl⟩ ⟨Nat.zero_le _, Nat.zero_le _⟩ (Nat.le_of_ble_eq_true rfl) rfl dX5_isRow_7 ?_
  exact y_zret X hr bI_nar dX5_isRow_10 rfl ⟨congrArg (fun z => some (Value.int z)) (bI_congr ⟨fun z => ⟨by omega, by omega⟩, fun z => ⟨by omega, by omega⟩⟩), rfl⟩

set_option maxRecDepth 100000 in
set_option maxHeartbeats 4000000 in
theorem c_X5_isSeason {l : Launch} {E : xE} {C : xC} {kp fl ty pa va so se tl : Int32} (m0 : C (61) = .inr (5, [.ref (E.2.1 (62)), .ref (E.2.1 (63)), .ref (E.2.1 (64)), .int kp, .ref (E.2.1 (65)), .int fl, .ref (E.2.1 (66)), .int ty, .int pa, .int va, .int so, .int se, .ref (E.2.1 (67)), .int tl])) {T : Tb} (gT : RM E C 62 T) (gv : WF T) {x : Int32} : xR E l yX5_isSeason wsX5_isSeason 1 22 [.ref (E.2.1 (61)), .int x] C (bI (xin x (tn T))) := by
  obtain ⟨zf, h0, g0, g1, gK, gD, gS, gV⟩ := id gT
  obtain ⟨gw1, gw2, gw3, gw4⟩ := id gv.1
  refine xM_ofY (cc := cX5_isSeason) (maxL := 2) (ret := (some .boolean)) (by decide) rfl (Nat.le_of_ble_eq_true rfl) ?_
  intro p e s m args below meth c X hr
  have inX5 : ∀ w ∈ wsX50, w ∈ wsX5_isSeason := by decide +kernel
  refine y_lv [(0, .ref (E.2.1 (61))), (1, .int x)] rfl ?_
  refine y_iload_n X dX5_isSeason_0 1 rfl ?_
  refine y_iconst X (v := (0)) dX5_isSeason_1 (by decide) ?_
  refine y_aload_n X dX5_isSeason_2 0 rfl ?_
  refine y_get X (61) 5 0 (Cn := RX5) (T := TX5) (N := 14) (index := 7) (v := .ref (E.2.1 (62))) dX5_isSeason_3 (by omega) m0 rfl (by decide) inX5 (by decide +kernel : Cond.fieldLink RX5 7 "ColumnSeasonsModel" "now" "[I" ∈ wsX5_isSeason) rfl rfl ?_
  refine y_iconst X (v := (0)) dX5_isSeason_6 (by decide) ?_
  refine y_iald X (62) dX5_isSeason_7 (by omega) h0 (j := 0) rfl (by omega) (by omega) (z := (nI (tn T))) g0 ?_
  refine y_iconst X (v := (1)) dX5_isSeason_8 (by decide) ?_
  refine y_isub X (z := (nI (tn T) - 1)) dX5_isSeason_9 rfl ?_
  refine y_callJr X (av := [.int x, .int (0), .int (nI (tn T) - 1)]) [] 3 (c_X5_in (x := x) (y := (0)) (z := (nI (tn T) - 1)) (ax := (x).toInt) (lo := 0) (hi := ((tn T : Nat) : Int) - 1) rfl (by decide) (dn_toInt (by omega))) gX5_isSeason_X5_in rfl (by decide +kernel) rfl ⟨Nat.le_of_ble_eq_true rfl, Nat.le_of_ble_eq_true rfl⟩ ⟨Nat.zero_le _, Nat.zero_le _⟩ (Nat.le_of_ble_eq_true rfl) rfl dX5_isSeason_10 ?_
  exact y_zret X hr bI_nar dX5_isSeason_13 rfl ⟨congrArg (fun z => some (Value.int z)) (bI_congr ⟨fun z => ⟨by omega, by omega⟩, fun z => ⟨by omega, by omega⟩⟩), rfl⟩

set_option maxRecDepth 100000 in
set_option maxHeartbeats 4000000 in
theorem c_X5_least {l : Launch} {E : xE} {C : xC} {x : Int32} : xR E l yX5_least wsX5_least 0 0 [.int x] C (loK x) := by
  refine xM_ofY (cc := cX5_least) (maxL := 1) (ret := (some .int)) (by decide) rfl (Nat.le_of_ble_eq_true rfl) ?_
  intro p e s m args below meth c X hr
  refine y_lv [(0, .int x)] rfl ?_
  refine y_iload_n X dX5_least_0 0 rfl ?_
  refine y_iconst X (v := (2)) dX5_least_1 (by decide) ?_
  refine y_icmp_ne X 11 (¬ (x = (2))) dX5_least_2 (by decide) Iff.rfl (fun c_1 => ?_) (fun c_1 => ?_)
  ·
    refine y_iconst X (v := (0)) dX5_least_11 (by decide) ?_
    exact y_iret X hr dX5_least_12 rfl ⟨by simp [loK, c_1], rfl⟩
  ·
    have c_1 := Decidable.of_not_not c_1
    refine y_sipush X (v := (-9999)) dX5_least_5 (by decide) ?_
    refine y_goto X 12 dX5_least_8 (by decide) ?_
    exact y_iret X hr dX5_least_12 rfl ⟨by simp [loK, c_1], rfl⟩

set_option maxRecDepth 100000 in
set_option maxHeartbeats 4000000 in
theorem c_X5_most {l : Launch} {E : xE} {C : xC} {x : Int32} : xR E l yX5_most wsX5_most 0 0 [.int x] C (hiK x) := by
  refine xM_ofY (cc := cX5_most) (maxL := 1) (ret := (some .int)) (by decide) rfl (Nat.le_of_ble_eq_true rfl) ?_
  intro p e s m args below meth c X hr
  refine y_lv [(0, .int x)] rfl ?_
  refine y_iload_n X dX5_most_0 0 rfl ?_
  refine y_if_ne X 8 (¬ (x = (0))) dX5_most_1 (by decide) Iff.rfl (fun c_1 => ?_) (fun c_1 => ?_)
  ·
    refine y_iload_n X dX5_most_8 0 rfl ?_
    refine y_iconst X (v := (1)) dX5_most_9 (by decide) ?_
    refine y_icmp_ne X 18 (¬ (x = (1))) dX5_most_10 (by decide) Iff.rfl (fun c_2 => ?_) (fun c_2 => ?_)
    ·
      refine y_sipush X (v := (9999)) dX5_most_18 (by decide) ?_
      exact y_iret X hr dX5_most_21 rfl ⟨by simp [hiK, c_1, c_2], rfl⟩
    ·
      have c_2 := Decidable.of_not_not c_2
      refine y_bipush X (v := (9)) dX5_most_13 (by decide) ?_
      refine y_goto X 21 dX5_most_15 (by decide) ?_
      exact y_iret X hr dX5_most_21 rfl ⟨by simp [hiK, c_1, c_2], rfl⟩
  ·
    have c_1 := Decidable.of_not_not c_1
    refine y_iconst X (v := (1)) dX5_most_4 (by decide) ?_
    refine y_goto X 21 dX5_most_5 (by decide) ?_
    exact y_iret X hr dX5_most_21 rfl ⟨by simp [hiK, c_1], rfl⟩

set_option maxRecDepth 100000 in
set_option maxHeartbeats 4000000 in
theorem c_X5_cast {l : Launch} {E : xE} {C : xC} {x y : Int32} : xR E l yX5_cast wsX5_cast 0 0 [.int x, .int y] C (cst x y) := by
  refine xM_ofY (cc := cX5_cast) (maxL := 2) (ret := (some .int)) (by decide) rfl (Nat.le_of_ble_eq_true rfl) ?_
  intro p e s m args below meth c X hr
  refine y_lv [(0, .int x), (1, .int y)] rfl ?_
  refine y_iload_n X dX5_cast_0 1 rfl ?_
  refine y_iconst X (v := (2)) dX5_cast_1 (by decide) ?_
  refine y_icmp_ne X 9 (¬ (y = (2))) dX5_cast_2 (by decide) Iff.rfl (fun c_1 => ?_) (fun c_1 => ?_)
  ·
    refine y_iload_n X dX5_cast_9 1 rfl ?_
    refine y_iconst X (v := (1)) dX5_cast_10 (by decide) ?_
    refine y_icmp_ne X 37 (¬ (y = (1))) dX5_cast_11 (by decide) Iff.rfl (fun c_2 => ?_) (fun c_2 => ?_)
    ·
      refine y_iload_n X dX5_cast_37 0 rfl ?_
      refine y_if_ne X 45 (¬ (x = (0))) dX5_cast_38 (by decide) Iff.rfl (fun c_3 => ?_) (fun c_3 => ?_)
      ·
        refine y_iconst X (v := (1)) dX5_cast_45 (by decide) ?_
        exact y_iret X hr dX5_cast_46 rfl ⟨by show _ = some (Value.int (cst x y)); rw [cst, if_neg c_1, if_neg c_2, if_neg c_3], rfl⟩
      ·
        have c_3 := Decidable.of_not_not c_3
        refine y_iconst X (v := (0)) dX5_cast_41 (by decide) ?_
        refine y_goto X 46 dX5_cast_42 (by decide) ?_
        exact y_iret X hr dX5_cast_46 rfl ⟨by show _ = some (Value.int (cst x y)); rw [cst, if_neg c_1, if_neg c_2, if_pos c_3], rfl⟩
    ·
      have c_2 := Decidable.of_not_not c_2
      refine y_iload_n X dX5_cast_14 0 rfl ?_
      refine y_if_ge X 22 ((0) ≤ x) dX5_cast_15 (by decide) Iff.rfl (fun c_4 => ?_) (fun c_4 => ?_)
      ·
        refine y_iload_n X dX5_cast_22 0 rfl ?_
        refine y_bipush X (v := (9)) dX5_cast_23 (by decide) ?_
        refine y_icmp_le X 33 (x ≤ (9)) dX5_cast_25 (by decide) Iff.rfl (fun c_5 => ?_) (fun c_5 => ?_)
        ·
          refine y_iload_n X dX5_cast_33 0 rfl ?_
          refine y_goto X 46 dX5_cast_34 (by decide) ?_
          exact y_iret X hr dX5_cast_46 rfl ⟨by show _ = some (Value.int (cst x y)); rw [cst, if_neg c_1, if_pos c_2, if_neg (Int32.not_lt.mpr c_4), if_neg (Int32.not_lt.mpr c_5)], rfl⟩
        ·
          refine y_bipush X (v := (9)) dX5_cast_28 (by decide) ?_
          refine y_goto X 46 dX5_cast_30 (by decide) ?_
          exact y_iret X hr dX5_cast_46 rfl ⟨by show _ = some (Value.int (cst x y)); rw [cst, if_neg c_1, if_pos c_2, if_neg (Int32.not_lt.mpr c_4), if_pos (Int32.not_le.mp c_5)], rfl⟩
      ·
        refine y_iconst X (v := (0)) dX5_cast_18 (by decide) ?_
        refine y_goto X 46 dX5_cast_19 (by decide) ?_
        exact y_iret X hr dX5_cast_46 rfl ⟨by show _ = some (Value.int (cst x y)); rw [cst, if_neg c_1, if_pos c_2, if_pos (Int32.not_le.mp c_4)], rfl⟩
  ·
    have c_1 := Decidable.of_not_not c_1
    refine y_iload_n X dX5_cast_5 0 rfl ?_
    refine y_goto X 46 dX5_cast_6 (by decide) ?_
    exact y_iret X hr dX5_cast_46 rfl ⟨by show _ = some (Value.int (cst x y)); rw [cst, if_pos c_1], rfl⟩

set_option maxRecDepth 100000 in
set_option maxHeartbeats 4000000 in
theorem c_X5_loses {l : Launch} {E : xE} {C : xC} {x y z : Int32} : xR E l yX5_loses wsX5_loses 1 21 [.int x, .int y, .int z] C (bI (¬ cst (cst x z) y = x)) := by
  refine xM_ofY (cc := cX5_loses) (maxL := 3) (ret := (some .boolean)) (by decide) rfl (Nat.le_of_ble_eq_true rfl) ?_
  intro p e s m args below meth c X hr
  refine y_lv [(0, .int x), (1, .int y), (2, .int z)] rfl ?_
  refine y_iload_n X dX5_loses_0 0 rfl ?_
  refine y_iload_n X dX5_loses_1 2 rfl ?_
  refine y_callJr X (av := [.int x, .int z]) [] 2 (c_X5_cast (x := x) (y := z)) gX5_loses_X5_cast rfl (by decide +kernel) rfl ⟨Nat.le_of_ble_eq_true rfl, Nat.le_of_ble_eq_true rfl⟩ ⟨Nat.zero_le _, Nat.zero_le _⟩ (Nat.le_of_ble_eq_true rfl) rfl dX5_loses_2 ?_
  refine y_iload_n X dX5_loses_5 1 rfl ?_
  refine y_callJr X (av := [.int (cst x z), .int y]) [] 2 (c_X5_cast (x := (cst x z)) (y := y)) gX5_loses_X5_cast rfl (by decide +kernel) rfl ⟨Nat.le_of_ble_eq_true rfl, Nat.le_of_ble_eq_true rfl⟩ ⟨Nat.zero_le _, Nat.zero_le _⟩ (Nat.le_of_ble_eq_true rfl) rfl dX5_loses_6 ?_
  refine y_iload_n X dX5_loses_9 0 rfl ?_
  refine y_icmp_eq X 17 ((cst (cst x z) y) = x) dX5_loses_10 (by decide) Iff.rfl (fun c_1 => ?_) (fun c_1 => ?_)
  ·
    refine y_iconst X (v := (0)) dX5_loses_17 (by decide) ?_
    exact y_zret X hr (by rfl) dX5_loses_18 rfl ⟨by first | rw [bI_1 (P := ¬ cst (cst x z) y = x) (by assumption)] | rw [bI_0 (P := ¬ cst (cst x z) y = x) (fun w => w (by assumption))], rfl⟩
  ·
    refine y_iconst X (v := (1)) dX5_loses_13 (by decide) ?_
    refine y_goto X 18 dX5_loses_14 (by decide) ?_
    exact y_zret X hr (by rfl) dX5_loses_18 rfl ⟨by first | rw [bI_1 (P := ¬ cst (cst x z) y = x) (by assumption)] | rw [bI_0 (P := ¬ cst (cst x z) y = x) (fun w => w (by assumption))], rfl⟩

set_option maxRecDepth 100000 in
set_option maxHeartbeats 4000000 in
theorem c_X5_kindOf {l : Launch} {E : xE} {C : xC} {a : Nat} {T : Tb} (ga : a < 68) (gT : RM E C a T) (gv : WF T) {q j : Nat} (gq : q < tn T) (gj : j < 8) : xR E l yX5_kindOf wsX5_kindOf 0 0 [.ref (E.2.1 (a)), .int (nI (q)), .int (nI (j))] C (tk T q j) := by
  obtain ⟨zf, h0, g0, g1, gK, gD, gS, gV⟩ := id gT
  obtain ⟨gw1, gw2, gw3, gw4⟩ := id gv.1
  refine xM_ofY (cc := cX5_kindOf) (maxL := 3) (ret := (some .int)) (by decide) rfl (Nat.le_of_ble_eq_true rfl) ?_
  intro p e s m args below meth c X hr
  refine y_lv [(0, .ref (E.2.1 (a))), (1, .int (nI (q))), (2, .int (nI (j)))] rfl ?_
  refine y_aload_n X dX5_kindOf_0 0 rfl ?_
  refine y_iconst X (v := (2)) dX5_kindOf_1 (by decide) ?_
  refine y_bipush X (v := (16)) dX5_kindOf_2 (by decide) ?_
  refine y_iload_n X dX5_kindOf_4 1 rfl ?_
  refine y_imul X (z := (nI ((16) * (q)))) dX5_kindOf_5 (pk_mul (16) (q)) ?_
  refine y_iadd X (z := (nI (2 + (16) * (q)))) dX5_kindOf_6 (nI_add (2) ((16) * (q))) ?_
  refine y_iload_n X dX5_kindOf_7 2 rfl ?_
  refine y_iadd X (z := (nI (2 + (16) * (q) + j))) dX5_kindOf_8 (nI_add (2 + (16) * (q)) (j)) ?_
  refine y_iald X (a) dX5_kindOf_9 (by omega) h0 (j := 2 + (16) * (q) + j) rfl (by omega) (by omega) (z := (tk T q j + 1)) (gK q j gq gj) ?_
  refine y_iconst X (v := (1)) dX5_kindOf_10 (by decide) ?_
  refine y_isub X (z := (tk T q j)) dX5_kindOf_11 (i1s _) ?_
  exact y_iret X hr dX5_kindOf_12 rfl (by first | exact ⟨rfl, rfl⟩ | exact ⟨congrArg (fun z => some (Value.int z)) (bI_1 (by omega)).symm, rfl⟩ | exact ⟨congrArg (fun z => some (Value.int z)) (bI_0 (by omega)).symm, rfl⟩)

set_option maxRecDepth 100000 in
set_option maxHeartbeats 4000000 in
theorem c_X5_standard {l : Launch} {E : xE} {C : xC} {a : Nat} {T : Tb} (ga : a < 68) (gT : RM E C a T) (gv : WF T) {q j : Nat} (gq : q < tn T) (gj : j < 8) : xR E l yX5_standard wsX5_standard 0 0 [.ref (E.2.1 (a)), .int (nI (q)), .int (nI (j))] C (td T q j) := by
  obtain ⟨zf, h0, g0, g1, gK, gD, gS, gV⟩ := id gT
  obtain ⟨gw1, gw2, gw3, gw4⟩ := id gv.1
  refine xM_ofY (cc := cX5_standard) (maxL := 3) (ret := (some .int)) (by decide) rfl (Nat.le_of_ble_eq_true rfl) ?_
  intro p e s m args below meth c X hr
  refine y_lv [(0, .ref (E.2.1 (a))), (1, .int (nI (q))), (2, .int (nI (j)))] rfl ?_
  refine y_aload_n X dX5_standard_0 0 rfl ?_
  refine y_iconst X (v := (2)) dX5_standard_1 (by decide) ?_
  refine y_bipush X (v := (16)) dX5_standard_2 (by decide) ?_
  refine y_iload_n X dX5_standard_4 1 rfl ?_
  refine y_imul X (z := (nI ((16) * (q)))) dX5_standard_5 (pk_mul (16) (q)) ?_
  refine y_iadd X (z := (nI (2 + (16) * (q)))) dX5_standard_6 (nI_add (2) ((16) * (q))) ?_
  refine y_bipush X (v := (8)) dX5_standard_7 (by decide) ?_
  refine y_iadd X (z := (nI (2 + (16) * (q) + 8))) dX5_standard_9 (nI_add (2 + (16) * (q)) (8)) ?_
  refine y_iload_n X dX5_standard_10 2 rfl ?_
  refine y_iadd X (z := (nI (2 + (16) * (q) + 8 + j))) dX5_standard_11 (nI_add (2 + (16) * (q) + 8) (j)) ?_
  refine y_iald X (a) dX5_standard_12 (by omega) h0 (j := 2 + (16) * (q) + 8 + j) rfl (by omega) (by omega) (z := (td T q j)) (gD q j gq gj) ?_
  exact y_iret X hr dX5_standard_13 rfl (by first | exact ⟨rfl, rfl⟩ | exact ⟨congrArg (fun z => some (Value.int z)) (bI_1 (by omega)).symm, rfl⟩ | exact ⟨congrArg (fun z => some (Value.int z)) (bI_0 (by omega)).symm, rfl⟩)

set_option maxRecDepth 100000 in
set_option maxHeartbeats 4000000 in
theorem c_X5_seasonOfRow {l : Launch} {E : xE} {C : xC} {a : Nat} {T : Tb} (ga : a < 68) (gT : RM E C a T) (gv : WF T) {i : Nat} (gi : i < tr T) : xR E l yX5_seasonOfRow wsX5_seasonOfRow 0 0 [.ref (E.2.1 (a)), .int (nI (i))] C (nI (ts T i)) := by
  obtain ⟨zf, h0, g0, g1, gK, gD, gS, gV⟩ := id gT
  obtain ⟨gw1, gw2, gw3, gw4⟩ := id gv.1
  refine xM_ofY (cc := cX5_seasonOfRow) (maxL := 2) (ret := (some .int)) (by decide) rfl (Nat.le_of_ble_eq_true rfl) ?_
  intro p e s m args below meth c X hr
  refine y_lv [(0, .ref (E.2.1 (a))), (1, .int (nI (i)))] rfl ?_
  refine y_aload_n X dX5_seasonOfRow_0 0 rfl ?_
  refine y_sipush X (v := (482)) dX5_seasonOfRow_1 (by decide) ?_
  refine y_bipush X (v := (9)) dX5_seasonOfRow_4 (by decide) ?_
  refine y_iload_n X dX5_seasonOfRow_6 1 rfl ?_
  refine y_imul X (z := (nI ((9) * (i)))) dX5_seasonOfRow_7 (pk_mul (9) (i)) ?_
  refine y_iadd X (z := (nI (482 + (9) * (i)))) dX5_seasonOfRow_8 (nI_add (482) ((9) * (i))) ?_
  refine y_iald X (a) dX5_seasonOfRow_9 (by omega) h0 (j := 482 + (9) * (i)) rfl (by omega) (by omega) (z := (nI (ts T i))) (gS i gi) ?_
  exact y_iret X hr dX5_seasonOfRow_10 rfl (by first | exact ⟨rfl, rfl⟩ | exact ⟨congrArg (fun z => some (Value.int z)) (bI_1 (by omega)).symm, rfl⟩ | exact ⟨congrArg (fun z => some (Value.int z)) (bI_0 (by omega)).symm, rfl⟩)

set_option maxRecDepth 100000 in
set_option maxHeartbeats 4000000 in
theorem c_X5_valueOf {l : Launch} {E : xE} {C : xC} {a : Nat} {T : Tb} (ga : a < 68) (gT : RM E C a T) (gv : WF T) {i j : Nat} (gi : i < tr T) (gj : j < 8) (gc : ¬ tk T (ts T i) j = -1) : xR E l yX5_valueOf wsX5_valueOf 0 0 [.ref (E.2.1 (a)), .int (nI (i)), .int (nI (j))] C (tv T i j) := by
  obtain ⟨zf, h0, g0, g1, gK, gD, gS, gV⟩ := id gT
  obtain ⟨gw1, gw2, gw3, gw4⟩ := id gv.1
  refine xM_ofY (cc := cX5_valueOf) (maxL := 3) (ret := (some .int)) (by decide) rfl (Nat.le_of_ble_eq_true rfl) ?_
  intro p e s m args below meth c X hr
  refine y_lv [(0, .ref (E.2.1 (a))), (1, .int (nI (i))), (2, .int (nI (j)))] rfl ?_
  refine y_aload_n X dX5_valueOf_0 0 rfl ?_
  refine y_sipush X (v := (482)) dX5_valueOf_1 (by decide) ?_
  refine y_bipush X (v := (9)) dX5_valueOf_4 (by decide) ?_
  refine y_iload_n X dX5_valueOf_6 1 rfl ?_
  refine y_imul X (z := (nI ((9) * (i)))) dX5_valueOf_7 (pk_mul (9) (i)) ?_
  refine y_iadd X (z := (nI (482 + (9) * (i)))) dX5_valueOf_8 (nI_add (482) ((9) * (i))) ?_
  refine y_iconst X (v := (1)) dX5_valueOf_9 (by decide) ?_
  refine y_iadd X (z := (nI (482 + (9) * (i) + 1))) dX5_valueOf_10 (nI_add (482 + (9) * (i)) (1)) ?_
  refine y_iload_n X dX5_valueOf_11 2 rfl ?_
  refine y_iadd X (z := (nI (482 + (9) * (i) + 1 + j))) dX5_valueOf_12 (nI_add (482 + (9) * (i) + 1) (j)) ?_
  refine y_iald X (a) dX5_valueOf_13 (by omega) h0 (j := 482 + (9) * (i) + 1 + j) rfl (by omega) (by omega) (z := (tv T i j)) (gV i j gi gj gc) ?_
  exact y_iret X hr dX5_valueOf_14 rfl (by first | exact ⟨rfl, rfl⟩ | exact ⟨congrArg (fun z => some (Value.int z)) (bI_1 (by omega)).symm, rfl⟩ | exact ⟨congrArg (fun z => some (Value.int z)) (bI_0 (by omega)).symm, rfl⟩)

set_option maxRecDepth 100000 in
set_option maxHeartbeats 4000000 in
theorem c_X5_kindIn {l : Launch} {E : xE} {C : xC} {a : Nat} {T : Tb} (ga : a < 68) (gT : RM E C a T) (gv : WF T) {i j : Nat} (gi : i < tr T) (gj : j < 8) : xR E l yX5_kindIn wsX5_kindIn 1 22 [.ref (E.2.1 (a)), .int (nI (i)), .int (nI (j))] C (tk T (ts T i) j) := by
  obtain ⟨zf, h0, g0, g1, gK, gD, gS, gV⟩ := id gT
  obtain ⟨gw1, gw2, gw3, gw4⟩ := id gv.1
  refine xM_ofY (cc := cX5_kindIn) (maxL := 3) (ret := (some .int)) (by decide) rfl (Nat.le_of_ble_eq_true rfl) ?_
  intro p e s m args below meth c X hr
  refine y_lv [(0, .ref (E.2.1 (a))), (1, .int (nI (i))), (2, .int (nI (j)))] rfl ?_
  have gts := gw4 i gi
  refine y_aload_n X dX5_kindIn_0 0 rfl ?_
  refine y_aload_n X dX5_kindIn_1 0 rfl ?_
  refine y_iload_n X dX5_kindIn_2 1 rfl ?_
  refine y_callJr X (av := [.ref (E.2.1 (a)), .int (nI (i))]) [.ref (E.2.1 (a))] 2 (c_X5_seasonOfRow (a := a) (by omega) gT gv (i := i) (by omega)) gX5_kindIn_X5_seasonOfRow rfl (by decide +kernel) rfl ⟨Nat.le_of_ble_eq_true rfl, Nat.le_of_ble_eq_true rfl⟩ ⟨Nat.zero_le _, Nat.zero_le _⟩ (Nat.le_of_ble_eq_true rfl) rfl dX5_kindIn_3 ?_
  refine y_iload_n X dX5_kindIn_6 2 rfl ?_
  refine y_callJr X (av := [.ref (E.2.1 (a)), .int (nI (ts T (i))), .int (nI (j))]) [] 3 (c_X5_kindOf (a := a) (by omega) gT gv (q := ts T (i)) (j := j) (by omega) (by omega)) gX5_kindIn_X5_kindOf rfl (by decide +kernel) rfl ⟨Nat.le_of_ble_eq_true rfl, Nat.le_of_ble_eq_true rfl⟩ ⟨Nat.zero_le _, Nat.zero_le _⟩ (Nat.le_of_ble_eq_true rfl) rfl dX5_kindIn_7 ?_
  exact y_iret X hr dX5_kindIn_10 rfl (by first | exact ⟨rfl, rfl⟩ | exact ⟨congrArg (fun z => some (Value.int z)) (bI_1 (by omega)).symm, rfl⟩ | exact ⟨congrArg (fun z => some (Value.int z)) (bI_0 (by omega)).symm, rfl⟩)

set_option maxRecDepth 100000 in
set_option maxHeartbeats 4000000 in
theorem c_X5_isLost {l : Launch} {E : xE} {C : xC} {a : Nat} {T : Tb} (ga : a < 68) (gT : RM E C a T) (gv : WF T) {i q j : Nat} (gi : i < tr T) (gq : q < tn T) (gj : j < 8) : xR E l yX5_isLost wsX5_isLost 2 44 [.ref (E.2.1 (a)), .int (nI (i)), .int (nI (q)), .int (nI (j))] C (bI (lostC T q i j)) := by
  obtain ⟨zf, h0, g0, g1, gK, gD, gS, gV⟩ := id gT
  obtain ⟨gw1, gw2, gw3, gw4⟩ := id gv.1
  refine xM_ofY (cc := cX5_isLost) (maxL := 6) (ret := (some .boolean)) (by decide) rfl (Nat.le_of_ble_eq_true rfl) ?_
  intro p e s m args below meth c X hr
  refine y_lv [(0, .ref (E.2.1 (a))), (1, .int (nI (i))), (2, .int (nI (q))), (3, .int (nI (j)))] rfl ?_
  have gk1 := WF_k gv (gw4 i gi) gj
  have gk2 := WF_k gv gq gj
  refine y_aload_n X dX5_isLost_0 0 rfl ?_
  refine y_iload_n X dX5_isLost_1 1 rfl ?_
  refine y_iload_n X dX5_isLost_2 3 rfl ?_
  refine y_callJr X (av := [.ref (E.2.1 (a)), .int (nI (i)), .int (nI (j))]) [] 3 (c_X5_kindIn (a := a) (by omega) gT gv (i := i) (j := j) (by omega) (by omega)) gX5_isLost_X5_kindIn rfl (by decide +kernel) rfl ⟨Nat.le_of_ble_eq_true rfl, Nat.le_of_ble_eq_true rfl⟩ ⟨Nat.zero_le _, Nat.zero_le _⟩ (Nat.le_of_ble_eq_true rfl) rfl dX5_isLost_3 ?_
  refine y_istore X [(4, .int (tk T (ts T (i)) (j))), (0, .ref (E.2.1 (a))), (1, .int (nI (i))), (2, .int (nI (q))), (3, .int (nI (j)))] dX5_isLost_6 (by decide) rfl ?_
  refine y_aload_n X dX5_isLost_8 1 rfl ?_
  refine y_iload_n X dX5_isLost_9 3 rfl ?_
  refine y_iload_n X dX5_isLost_10 4 rfl ?_
  refine y_callJr X (av := [.ref (E.2.1 (a)), .int (nI (q)), .int (nI (j))]) [] 3 (c_X5_kindOf (a := a) (by omega) gT gv (q := q) (j := j) (by omega) (by omega)) gX5_isLost_X5_kindOf rfl (by decide +kernel) rfl ⟨Nat.le_of_ble_eq_true rfl, Nat.le_of_ble_eq_true rfl⟩ ⟨Nat.zero_le _, Nat.zero_le _⟩ (Nat.le_of_ble_eq_true rfl) rfl dX5_isLost_11 ?_
  refine y_istore X [(5, .int (tk T (q) (j))), (4, .int (tk T (ts T (i)) (j))), (0, .ref (E.2.1 (a))), (1, .int (nI (i))), (2, .int (nI (q))), (3, .int (nI (j)))] dX5_isLost_14 (by decide) rfl ?_
  refine y_iload X dX5_isLost_16 1 rfl ?_
  refine y_if_lt X 46 ((tk T (ts T (i)) (j)) = -1) dX5_isLost_18 (by decide) (kltI (by first | exact gk1 | exact gk2)) (fun c_1 => ?_) (fun c_1 => ?_)
  ·
    refine y_iconst X (v := (0)) dX5_isLost_46 (by decide) ?_
    exact y_zret X hr (by rfl) dX5_isLost_47 rfl ⟨by rw [bI_0 (P := lostC T q i j) (fun z => z.1 c_1)], rfl⟩
  ·
    refine y_iload X dX5_isLost_21 0 rfl ?_
    refine y_if_lt X 42 ((tk T (q) (j)) = -1) dX5_isLost_23 (by decide) (kltI (by first | exact gk1 | exact gk2)) (fun c_2 => ?_) (fun c_2 => ?_)
    ·
      refine y_iconst X (v := (1)) dX5_isLost_42 (by decide) ?_
      refine y_goto X 47 dX5_isLost_43 (by decide) ?_
      exact y_zret X hr (by rfl) dX5_isLost_47 rfl ⟨by rw [bI_1 (P := lostC T q i j) ⟨c_1, Or.inl c_2⟩], rfl⟩
    ·
      refine y_aload_n X dX5_isLost_26 2 rfl ?_
      refine y_iload_n X dX5_isLost_27 3 rfl ?_
      refine y_iload_n X dX5_isLost_28 5 rfl ?_
      refine y_callJr X (av := [.ref (E.2.1 (a)), .int (nI (i)), .int (nI (j))]) [] 3 (c_X5_valueOf (a := a) (by omega) gT gv (i := i) (j := j) (by omega) (by omega) (by assumption)) gX5_isLost_X5_valueOf rfl (by decide +kernel) rfl ⟨Nat.le_of_ble_eq_true rfl, Nat.le_of_ble_eq_true rfl⟩ ⟨Nat.zero_le _, Nat.zero_le _⟩ (Nat.le_of_ble_eq_true rfl) rfl dX5_isLost_29 ?_
      refine y_iload X dX5_isLost_32 1 rfl ?_
      refine y_iload X dX5_isLost_34 0 rfl ?_
      refine y_callJr X (av := [.int (tv T (i) (j)), .int (tk T (ts T (i)) (j)), .int (tk T (q) (j))]) [] 3 (c_X5_loses (x := (tv T (i) (j))) (y := (tk T (ts T (i)) (j))) (z := (tk T (q) (j)))) gX5_isLost_X5_loses rfl (by decide +kernel) rfl ⟨Nat.le_of_ble_eq_true rfl, Nat.le_of_ble_eq_true rfl⟩ ⟨Nat.zero_le _, Nat.zero_le _⟩ (Nat.le_of_ble_eq_true rfl) rfl dX5_isLost_36 ?_
      refine y_if_eq X 46 (¬ (¬ cst (cst (tv T (i) (j)) (tk T (q) (j))) (tk T (ts T (i)) (j)) = (tv T (i) (j)))) dX5_isLost_39 (by decide) bI_eq (fun c_3 => ?_) (fun c_3 => ?_)
      ·
        refine y_iconst X (v := (0)) dX5_isLost_46 (by decide) ?_
        exact y_zret X hr (by rfl) dX5_isLost_47 rfl ⟨by rw [bI_0 (P := lostC T q i j) (fun z => z.2.elim c_2 (fun z9 => c_3 ((clos_iff gv gq gi gj c_1 c_2).mpr z9)))], rfl⟩
      ·
        have c_3 := Decidable.of_not_not c_3
        refine y_iconst X (v := (1)) dX5_isLost_42 (by decide) ?_
        refine y_goto X 47 dX5_isLost_43 (by decide) ?_
        exact y_zret X hr (by rfl) dX5_isLost_47 rfl ⟨by rw [bI_1 (P := lostC T q i j) ⟨c_1, Or.inr ((clos_iff gv gq gi gj c_1 c_2).mp c_3)⟩], rfl⟩

set_option maxRecDepth 100000 in
set_option maxHeartbeats 4000000 in
theorem c_X5_losses {l : Launch} {E : xE} {C : xC} {a : Nat} {T : Tb} (ga : a < 68) (gT : RM E C a T) (gv : WF T) {i q : Nat} (gi : i < tr T) (gq : q < tn T) : xR E l yX5_losses wsX5_losses 3 69 [.ref (E.2.1 (a)), .int (nI (i)), .int (nI (q))] C (lsR T q i) := by
  obtain ⟨zf, h0, g0, g1, gK, gD, gS, gV⟩ := id gT
  obtain ⟨gw1, gw2, gw3, gw4⟩ := id gv.1
  refine xM_ofY (cc := cX5_losses) (maxL := 5) (ret := (some .int)) (by decide) rfl (Nat.le_of_ble_eq_true rfl) ?_
  intro p e s m args below meth c X hr
  refine y_lv [(0, .ref (E.2.1 (a))), (1, .int (nI (i))), (2, .int (nI (q)))] rfl ?_
  refine y_iconst X (v := (0)) dX5_losses_0 (by decide) ?_
  refine y_istore_n X [(3, .int (0)), (0, .ref (E.2.1 (a))), (1, .int (nI (i))), (2, .int (nI (q)))] dX5_losses_1 rfl (by decide) rfl ?_
  refine y_iconst X (v := (0)) dX5_losses_2 (by decide) ?_
  refine y_istore X [(4, .int (0)), (3, .int (0)), (0, .ref (E.2.1 (a))), (1, .int (nI (i))), (2, .int (nI (q)))] dX5_losses_3 (by decide) rfl ?_
  have L_5 : ∀ (n : Nat) (j : Nat) (x3 : Int32), 8 - j < n → (j ≤ 8) → (x3 = sm (fun j => if lostC T q i j then 1 else 0) j) → xY p l e ({ frames := 3, cells := 0, slots := 0, locals := 69 } : Room) s m args below meth c E (xA E) 5 0 0 (MQ below (xQ E (fun v C1 => v = some (.int (lsR T q i)) ∧ C1 = C)) args s 0 0 (xA E)) C 5 [(0, .ref (E.2.1 (a))), (1, .int (nI (i))), (2, .int (nI (q))), (3, .int x3), (4, .int (nI (j)))] [] := by
    intro n5
    induction n5 with
    | zero => intro _ _ hm5; exact absurd hm5 (Nat.not_lt_zero _)
    | succ n5 ih5 =>
      intro j x3 hm5 gj gx
      refine y_iload X dX5_losses_5 4 rfl ?_
      refine y_bipush X (v := (8)) dX5_losses_7 (by decide) ?_
      refine y_icmp_ge X 37 ((8) ≤ (j)) dX5_losses_9 (by decide) (nI_leI (a := 8) (b := j) (by omega) (by omega)) (fun c_1 => ?_) (fun c_1 => ?_)
      ·
        refine y_iload_n X dX5_losses_37 3 rfl ?_
        exact y_iret X hr dX5_losses_38 rfl ⟨by rw [gx, show j = 8 by omega]; rfl, rfl⟩
      ·
        refine y_iload_n X dX5_losses_12 3 rfl ?_
        refine y_aload_n X dX5_losses_13 0 rfl ?_
        refine y_iload_n X dX5_losses_14 1 rfl ?_
        refine y_iload_n X dX5_losses_15 2 rfl ?_
        refine y_iload X dX5_losses_16 4 rfl ?_
        refine y_callJr X (av := [.ref (E.2.1 (a)), .int (nI (i)), .int (nI (q)), .int (nI (j))]) [.int x3] 4 (c_X5_isLost (a := a) (by omega) gT gv (i := i) (q := q) (j := j) (by omega) (by omega) (by omega)) gX5_losses_X5_isLost rfl (by decide +kernel) rfl ⟨Nat.le_of_ble_eq_true rfl, Nat.le_of_ble_eq_true rfl⟩ ⟨Nat.zero_le _, Nat.zero_le _⟩ (Nat.le_of_ble_eq_true rfl) rfl dX5_losses_18 ?_
        refine y_if_eq X 28 (¬ (lostC T (q) (i) (j))) dX5_losses_21 (by decide) bI_eq (fun c_2 => ?_) (fun c_2 => ?_)
        ·
          refine y_iconst X (v := (0)) dX5_losses_28 (by decide) ?_
          refine y_iadd X (z := (x3 + (0))) dX5_losses_29 rfl ?_
          refine y_istore_n X [(3, .int (x3 + (0))), (0, .ref (E.2.1 (a))), (1, .int (nI (i))), (2, .int (nI (q))), (4, .int (nI (j)))] dX5_losses_30 rfl (by decide) rfl ?_
          refine y_iinc X [(4, .int (nI (j + 1))), (3, .int (x3 + (0))), (0, .ref (E.2.1 (a))), (1, .int (nI (i))), (2, .int (nI (q)))] dX5_losses_31 4 rfl (nI_1 _) (by decide) rfl ?_
          refine y_goto X 5 dX5_losses_34 (by decide) ?_
          refine y_pick [2, 3, 4, 1, 0] [(0, .ref (E.2.1 (a))), (1, .int (nI (i))), (2, .int (nI (q))), (3, .int (x3 + (0))), (4, .int (nI (j + 1)))] rfl ?_
          exact ih5 (j + 1) ((x3 + (0))) (by omega) (by omega) (by rw [gx, Int32.add_zero]; exact sm_zero (if_neg c_2))
        ·
          have c_2 := Decidable.of_not_not c_2
          refine y_iconst X (v := (1)) dX5_losses_24 (by decide) ?_
          refine y_goto X 29 dX5_losses_25 (by decide) ?_
          refine y_iadd X (z := (x3 + (1))) dX5_losses_29 rfl ?_
          refine y_istore_n X [(3, .int (x3 + (1))), (0, .ref (E.2.1 (a))), (1, .int (nI (i))), (2, .int (nI (q))), (4, .int (nI (j)))] dX5_losses_30 rfl (by decide) rfl ?_
          refine y_iinc X [(4, .int (nI (j + 1))), (3, .int (x3 + (1))), (0, .ref (E.2.1 (a))), (1, .int (nI (i))), (2, .int (nI (q)))] dX5_losses_31 4 rfl (nI_1 _) (by decide) rfl ?_
          refine y_goto X 5 dX5_losses_34 (by decide) ?_
          refine y_pick [2, 3, 4, 1, 0] [(0, .ref (E.2.1 (a))), (1, .int (nI (i))), (2, .int (nI (q))), (3, .int (x3 + (1))), (4, .int (nI (j + 1)))] rfl ?_
          exact ih5 (j + 1) ((x3 + (1))) (by omega) (by omega) (by rw [gx]; exact sm_pos (if_pos c_2))
  refine y_pick [2, 3, 4, 1, 0] [(0, .ref (E.2.1 (a))), (1, .int (nI (i))), (2, .int (nI (q))), (3, .int (0)), (4, .int (0))] rfl ?_
  exact L_5 _ (0) (0) (Nat.lt_succ_self _) (by omega) rfl

set_option maxRecDepth 100000 in
set_option maxHeartbeats 4000000 in
theorem c_X5_reads {l : Launch} {E : xE} {C : xC} {a : Nat} {T : Tb} (ga : a < 68) (gT : RM E C a T) (gv : WF T) {i q j : Nat} (gi : i < tr T) (gq : q < tn T) (gj : j < 8) (gc : ¬ tk T q j = -1) : xR E l yX5_reads wsX5_reads 2 44 [.ref (E.2.1 (a)), .int (nI (i)), .int (nI (q)), .int (nI (j))] C (rdC T q i j) := by
  obtain ⟨zf, h0, g0, g1, gK, gD, gS, gV⟩ := id gT
  obtain ⟨gw1, gw2, gw3, gw4⟩ := id gv.1
  refine xM_ofY (cc := cX5_reads) (maxL := 4) (ret := (some .int)) (by decide) rfl (Nat.le_of_ble_eq_true rfl) ?_
  intro p e s m args below meth c X hr
  refine y_lv [(0, .ref (E.2.1 (a))), (1, .int (nI (i))), (2, .int (nI (q))), (3, .int (nI (j)))] rfl ?_
  have gk1 := WF_k gv (gw4 i gi) gj
  refine y_aload_n X dX5_reads_0 0 rfl ?_
  refine y_iload_n X dX5_reads_1 1 rfl ?_
  refine y_iload_n X dX5_reads_2 3 rfl ?_
  refine y_callJr X (av := [.ref (E.2.1 (a)), .int (nI (i)), .int (nI (j))]) [] 3 (c_X5_kindIn (a := a) (by omega) gT gv (i := i) (j := j) (by omega) (by omega)) gX5_reads_X5_kindIn rfl (by decide +kernel) rfl ⟨Nat.le_of_ble_eq_true rfl, Nat.le_of_ble_eq_true rfl⟩ ⟨Nat.zero_le _, Nat.zero_le _⟩ (Nat.le_of_ble_eq_true rfl) rfl dX5_reads_3 ?_
  refine y_if_ge X 18 (¬ (tk T (ts T (i)) (j)) = -1) dX5_reads_6 (by decide) (kgeI (by first | exact gk1 | exact gk2)) (fun c_1 => ?_) (fun c_1 => ?_)
  ·
    refine y_aload_n X dX5_reads_18 0 rfl ?_
    refine y_iload_n X dX5_reads_19 1 rfl ?_
    refine y_iload_n X dX5_reads_20 3 rfl ?_
    refine y_callJr X (av := [.ref (E.2.1 (a)), .int (nI (i)), .int (nI (j))]) [] 3 (c_X5_valueOf (a := a) (by omega) gT gv (i := i) (j := j) (by omega) (by omega) (by assumption)) gX5_reads_X5_valueOf rfl (by decide +kernel) rfl ⟨Nat.le_of_ble_eq_true rfl, Nat.le_of_ble_eq_true rfl⟩ ⟨Nat.zero_le _, Nat.zero_le _⟩ (Nat.le_of_ble_eq_true rfl) rfl dX5_reads_21 ?_
    refine y_aload_n X dX5_reads_24 0 rfl ?_
    refine y_iload_n X dX5_reads_25 2 rfl ?_
    refine y_iload_n X dX5_reads_26 3 rfl ?_
    refine y_callJr X (av := [.ref (E.2.1 (a)), .int (nI (q)), .int (nI (j))]) [.int (tv T (i) (j))] 3 (c_X5_kindOf (a := a) (by omega) gT gv (q := q) (j := j) (by omega) (by omega)) gX5_reads_X5_kindOf rfl (by decide +kernel) rfl ⟨Nat.le_of_ble_eq_true rfl, Nat.le_of_ble_eq_true rfl⟩ ⟨Nat.zero_le _, Nat.zero_le _⟩ (Nat.le_of_ble_eq_true rfl) rfl dX5_reads_27 ?_
    refine y_callJr X (av := [.int (tv T (i) (j)), .int (tk T (q) (j))]) [] 2 (c_X5_cast (x := (tv T (i) (j))) (y := (tk T (q) (j)))) gX5_reads_X5_cast rfl (by decide +kernel) rfl ⟨Nat.le_of_ble_eq_true rfl, Nat.le_of_ble_eq_true rfl⟩ ⟨Nat.zero_le _, Nat.zero_le _⟩ (Nat.le_of_ble_eq_true rfl) rfl dX5_reads_30 ?_
    exact y_iret X hr dX5_reads_33 rfl ⟨by show _ = some (Value.int (rdC T q i j)); rw [rdC, if_neg c_1, rd_eq gv gq gi gj c_1 gc], rfl⟩
  ·
    have c_1 := Decidable.of_not_not c_1
    refine y_aload_n X dX5_reads_9 0 rfl ?_
    refine y_iload_n X dX5_reads_10 2 rfl ?_
    refine y_iload_n X dX5_reads_11 3 rfl ?_
    refine y_callJr X (av := [.ref (E.2.1 (a)), .int (nI (q)), .int (nI (j))]) [] 3 (c_X5_standard (a := a) (by omega) gT gv (q := q) (j := j) (by omega) (by omega)) gX5_reads_X5_standard rfl (by decide +kernel) rfl ⟨Nat.le_of_ble_eq_true rfl, Nat.le_of_ble_eq_true rfl⟩ ⟨Nat.zero_le _, Nat.zero_le _⟩ (Nat.le_of_ble_eq_true rfl) rfl dX5_reads_12 ?_
    refine y_goto X 33 dX5_reads_15 (by decide) ?_
    exact y_iret X hr dX5_reads_33 rfl ⟨by show _ = some (Value.int (rdC T q i j)); rw [rdC, if_pos (by first | exact c_1 | exact Decidable.of_not_not c_1)], rfl⟩

set_option maxRecDepth 100000 in
set_option maxHeartbeats 4000000 in
theorem c_X5_names {l : Launch} {E : xE} {C : xC} {a : Nat} {T : Tb} (ga : a < 68) (gT : RM E C a T) (gv : WF T) {q : Nat} (gq : q < tn T) : xR E l yX5_names wsX5_names 1 22 [.ref (E.2.1 (a)), .int (nI (q))] C (nmS T q) := by
  obtain ⟨zf, h0, g0, g1, gK, gD, gS, gV⟩ := id gT
  obtain ⟨gw1, gw2, gw3, gw4⟩ := id gv.1
  refine xM_ofY (cc := cX5_names) (maxL := 4) (ret := (some .int)) (by decide) rfl (Nat.le_of_ble_eq_true rfl) ?_
  intro p e s m args below meth c X hr
  refine y_lv [(0, .ref (E.2.1 (a))), (1, .int (nI (q)))] rfl ?_
  refine y_iconst X (v := (0)) dX5_names_0 (by decide) ?_
  refine y_istore_n X [(2, .int (0)), (0, .ref (E.2.1 (a))), (1, .int (nI (q)))] dX5_names_1 rfl (by decide) rfl ?_
  refine y_iconst X (v := (0)) dX5_names_2 (by decide) ?_
  refine y_istore_n X [(3, .int (0)), (2, .int (0)), (0, .ref (E.2.1 (a))), (1, .int (nI (q)))] dX5_names_3 rfl (by decide) rfl ?_
  have L_4 : ∀ (n : Nat) (j : Nat) (x2 : Int32), 8 - j < n → (j ≤ 8) → (x2 = orf (fun j => if tk T q j = -1 then 0 else bitN j) j) → xY p l e ({ frames := 1, cells := 0, slots := 0, locals := 22 } : Room) s m args below meth c E (xA E) 4 0 0 (MQ below (xQ E (fun v C1 => v = some (.int (nmS T q)) ∧ C1 = C)) args s 0 0 (xA E)) C 4 [(0, .ref (E.2.1 (a))), (1, .int (nI (q))), (2, .int x2), (3, .int (nI (j)))] [] := by
    intro n4
    induction n4 with
    | zero => intro _ _ hm4; exact absurd hm4 (Nat.not_lt_zero _)
    | succ n4 ih4 =>
      intro j x2 hm4 gj gx
      refine y_iload_n X dX5_names_4 3 rfl ?_
      refine y_bipush X (v := (8)) dX5_names_5 (by decide) ?_
      refine y_icmp_ge X 35 ((8) ≤ (j)) dX5_names_7 (by decide) (nI_leI (a := 8) (b := j) (by omega) (by omega)) (fun c_1 => ?_) (fun c_1 => ?_)
      ·
        refine y_iload_n X dX5_names_35 2 rfl ?_
        exact y_iret X hr dX5_names_36 rfl ⟨by rw [gx, show j = 8 by omega]; rfl, rfl⟩
      ·
        have gk2 := WF_k gv gq (show j < 8 by omega)
        refine y_iload_n X dX5_names_10 2 rfl ?_
        refine y_aload_n X dX5_names_11 0 rfl ?_
        refine y_iload_n X dX5_names_12 1 rfl ?_
        refine y_iload_n X dX5_names_13 3 rfl ?_
        refine y_callJr X (av := [.ref (E.2.1 (a)), .int (nI (q)), .int (nI (j))]) [.int x2] 3 (c_X5_kindOf (a := a) (by omega) gT gv (q := q) (j := j) (by omega) (by omega)) gX5_names_X5_kindOf rfl (by decide +kernel) rfl ⟨Nat.le_of_ble_eq_true rfl, Nat.le_of_ble_eq_true rfl⟩ ⟨Nat.zero_le _, Nat.zero_le _⟩ (Nat.le_of_ble_eq_true rfl) rfl dX5_names_14 ?_
        refine y_if_ge X 24 (¬ (tk T (q) (j)) = -1) dX5_names_17 (by decide) (kgeI (by first | exact gk1 | exact gk2)) (fun c_2 => ?_) (fun c_2 => ?_)
        ·
          refine y_iconst X (v := (1)) dX5_names_24 (by decide) ?_
          refine y_iload_n X dX5_names_25 3 rfl ?_
          refine y_ishl X (z := (bitN (j))) dX5_names_26 rfl ?_
          refine y_ior X (z := (x2 ||| (bitN (j)))) dX5_names_27 rfl ?_
          refine y_istore_n X [(2, .int (x2 ||| (bitN (j)))), (0, .ref (E.2.1 (a))), (1, .int (nI (q))), (3, .int (nI (j)))] dX5_names_28 rfl (by decide) rfl ?_
          refine y_iinc X [(3, .int (nI (j + 1))), (2, .int (x2 ||| (bitN (j)))), (0, .ref (E.2.1 (a))), (1, .int (nI (q)))] dX5_names_29 3 rfl (nI_1 _) (by decide) rfl ?_
          refine y_goto X 4 dX5_names_32 (by decide) ?_
          refine y_pick [2, 3, 1, 0] [(0, .ref (E.2.1 (a))), (1, .int (nI (q))), (2, .int (x2 ||| (bitN (j)))), (3, .int (nI (j + 1)))] rfl ?_
          exact ih4 (j + 1) ((x2 ||| (bitN (j)))) (by omega) (by omega) (by rw [gx]; exact orf_add (if_neg c_2))
        ·
          have c_2 := Decidable.of_not_not c_2
          refine y_iconst X (v := (0)) dX5_names_20 (by decide) ?_
          refine y_goto X 27 dX5_names_21 (by decide) ?_
          refine y_ior X (z := (x2 ||| (0))) dX5_names_27 rfl ?_
          refine y_istore_n X [(2, .int (x2 ||| (0))), (0, .ref (E.2.1 (a))), (1, .int (nI (q))), (3, .int (nI (j)))] dX5_names_28 rfl (by decide) rfl ?_
          refine y_iinc X [(3, .int (nI (j + 1))), (2, .int (x2 ||| (0))), (0, .ref (E.2.1 (a))), (1, .int (nI (q)))] dX5_names_29 3 rfl (nI_1 _) (by decide) rfl ?_
          refine y_goto X 4 dX5_names_32 (by decide) ?_
          refine y_pick [2, 3, 1, 0] [(0, .ref (E.2.1 (a))), (1, .int (nI (q))), (2, .int (x2 ||| (0))), (3, .int (nI (j + 1)))] rfl ?_
          exact ih4 (j + 1) ((x2 ||| (0))) (by omega) (by omega) (by rw [gx]; exact orf_add (if_pos c_2))
  refine y_pick [2, 3, 1, 0] [(0, .ref (E.2.1 (a))), (1, .int (nI (q))), (2, .int (0)), (3, .int (0))] rfl ?_
  exact L_4 _ (0) (0) (Nat.lt_succ_self _) (by omega) rfl

set_option maxRecDepth 100000 in
set_option maxHeartbeats 4000000 in
theorem c_X5_onesN {l : Launch} {E : xE} {C : xC} {w0 : Nat} (gw0 : w0 < 256) : xR E l yX5_ones wsX5_ones 0 0 [.int (nI (w0))] C (bcn (nI w0)) := by
  refine xM_ofY (cc := cX5_ones) (maxL := 3) (ret := (some .int)) (by decide) rfl (Nat.le_of_ble_eq_true rfl) ?_
  intro p e s m args below meth c X hr
  refine y_lv [(0, .int (nI (w0)))] rfl ?_
  refine y_iconst X (v := (0)) dX5_ones_0 (by decide) ?_
  refine y_istore_n X [(1, .int (0)), (0, .int (nI (w0)))] dX5_ones_1 rfl (by decide) rfl ?_
  refine y_iload_n X dX5_ones_2 1 rfl ?_
  refine y_istore_n X [(2, .int (nI (w0))), (1, .int (0)), (0, .int (nI (w0)))] dX5_ones_3 rfl (by decide) rfl ?_
  have L_4 : ∀ (n : Nat) (w : Nat) (x1 : Int32), w < n → (w < 256) → (x1 + bcn (nI w) = bcn (nI w0)) → xY p l e ({ frames := 0, cells := 0, slots := 0, locals := 0 } : Room) s m args below meth c E (xA E) 3 0 0 (MQ below (xQ E (fun v C1 => v = some (.int (bcn (nI w0))) ∧ C1 = C)) args s 0 0 (xA E)) C 4 [(0, .int (nI (w0))), (1, .int x1), (2, .int (nI (w)))] [] := by
    intro n4
    induction n4 with
    | zero => intro _ _ hm4; exact absurd hm4 (Nat.not_lt_zero _)
    | succ n4 ih4 =>
      intro w x1 hm4 gw gx
      refine y_iload_n X dX5_ones_4 2 rfl ?_
      refine y_if_eq X 20 (w = 0) dX5_ones_5 (by decide) (nI_eq (a := w) (b := 0) (by omega) (by omega)) (fun c_1 => ?_) (fun c_1 => ?_)
      ·
        refine y_iload_n X dX5_ones_20 1 rfl ?_
        exact y_iret X hr dX5_ones_21 rfl ⟨by rw [← gx, show w = 0 by omega, bcn0, Int32.add_zero], rfl⟩
      ·
        refine y_iinc X [(1, .int (x1 + 1)), (0, .int (nI (w0))), (2, .int (nI (w)))] dX5_ones_8 1 rfl rfl (by decide) rfl ?_
        refine y_iload_n X dX5_ones_11 2 rfl ?_
        refine y_iload_n X dX5_ones_12 2 rfl ?_
        refine y_iconst X (v := (1)) dX5_ones_13 (by decide) ?_
        refine y_isub X (z := (nI w - 1)) dX5_ones_14 rfl ?_
        refine y_iand X (z := (nI (w &&& (w - 1)))) dX5_ones_15 (onesStep w (by omega) (by omega)).1 ?_
        refine y_istore_n X [(2, .int (nI (w &&& (w - 1)))), (1, .int (x1 + 1)), (0, .int (nI (w0)))] dX5_ones_16 rfl (by decide) rfl ?_
        refine y_goto X 4 dX5_ones_17 (by decide) ?_
        refine y_pick [2, 1, 0] [(0, .int (nI (w0))), (1, .int (x1 + 1)), (2, .int (nI (w &&& (w - 1))))] rfl ?_
        exact ih4 (w &&& (w - 1)) ((x1 + 1)) (Nat.lt_of_lt_of_le (onesLess (by omega)) (by omega)) (Nat.lt_trans (onesLess (by omega)) gw) (by rw [← gx, (onesStep w (by omega) (by omega)).2, Int32.add_assoc, Int32.add_comm 1])
  refine y_pick [2, 1, 0] [(0, .int (nI (w0))), (1, .int (0)), (2, .int (nI (w0)))] rfl ?_
  exact L_4 _ (w0) (0) (Nat.lt_succ_self _) gw0 (Int32.zero_add _)

theorem c_X5_ones {l : Launch} {E : xE} {C : xC} {x : Int32} (gm8 : m8 x) : xR E l yX5_ones wsX5_ones 0 0 [.int x] C (bcn x) := by
  obtain ⟨w0, gw0, rfl⟩ := m8_nI gm8
  exact c_X5_onesN gw0

set_option maxRecDepth 100000 in
set_option maxHeartbeats 4000000 in
theorem c_X5_news {l : Launch} {E : xE} {C : xC} {kp fl ty pa va so se tl : Int32} (m0 : C (61) = .inr (5, [.ref (E.2.1 (62)), .ref (E.2.1 (63)), .ref (E.2.1 (64)), .int kp, .ref (E.2.1 (65)), .int fl, .ref (E.2.1 (66)), .int ty, .int pa, .int va, .int so, .int se, .ref (E.2.1 (67)), .int tl])) {T : Tb} (gT : RM E C 62 T) (gv : WF T) {q : Nat} (gq : q < tn T) : xR E l yX5_news wsX5_news 1 22 [.ref (E.2.1 (61)), .int (nI (q))] C (newC T q) := by
  obtain ⟨zf, h0, g0, g1, gK, gD, gS, gV⟩ := id gT
  obtain ⟨gw1, gw2, gw3, gw4⟩ := id gv.1
  refine xM_ofY (cc := cX5_news) (maxL := 5) (ret := (some .int)) (by decide) rfl (Nat.le_of_ble_eq_true rfl) ?_
  intro p e s m args below meth c X hr
  have inX5 : ∀ w ∈ wsX50, w ∈ wsX5_news := by decide +kernel
  refine y_lv [(0, .ref (E.2.1 (61))), (1, .int (nI (q)))] rfl ?_
  refine y_iconst X (v := (0)) dX5_news_0 (by decide) ?_
  refine y_istore_n X [(2, .int (0)), (0, .ref (E.2.1 (61))), (1, .int (nI (q)))] dX5_news_1 rfl (by decide) rfl ?_
  refine y_iconst X (v := (0)) dX5_news_2 (by decide) ?_
  refine y_istore_n X [(3, .int (0)), (2, .int (0)), (0, .ref (E.2.1 (61))), (1, .int (nI (q)))] dX5_news_3 rfl (by decide) rfl ?_
  have L_4 : ∀ (n : Nat) (j : Nat) (x2 : Int32), 8 - j < n → (j ≤ 8) → (x2 = sm (fun j => if ¬ tk T q j = -1 ∧ ¬ tk T q j = tk T (q - 1) j then 1 else 0) j) → (q = 0 → j = 0) → xY p l e ({ frames := 1, cells := 0, slots := 0, locals := 22 } : Room) s m args below meth c E (xA E) 5 0 0 (MQ below (xQ E (fun v C1 => v = some (.int (newC T q)) ∧ C1 = C)) args s 0 0 (xA E)) C 4 [(0, .ref (E.2.1 (61))), (1, .int (nI (q))), (2, .int x2), (3, .int (nI (j)))] [] := by
    intro n4
    induction n4 with
    | zero => intro _ _ hm4; exact absurd hm4 (Nat.not_lt_zero _)
    | succ n4 ih4 =>
      intro j x2 hm4 gj gx gz
      refine y_iload_n X dX5_news_4 3 rfl ?_
      refine y_bipush X (v := (8)) dX5_news_5 (by decide) ?_
      refine y_icmp_ge X 60 ((8) ≤ (j)) dX5_news_7 (by decide) (nI_leI (a := 8) (b := j) (by omega) (by omega)) (fun c_1 => ?_) (fun c_1 => ?_)
      ·
        refine y_iload_n X dX5_news_60 2 rfl ?_
        exact y_iret X hr dX5_news_61 rfl ⟨by show _ = some (Value.int (newC T q)); rw [gx]; rcases Nat.lt_or_ge 0 q with z9 | z9; rw [show j = 8 by omega, newC, if_neg (by omega)]; rw [gz (by omega), newC, if_pos (by omega)]; rfl, rfl⟩
      ·
        refine y_iload_n X dX5_news_10 1 rfl ?_
        refine y_if_le X 60 ((q) ≤ (0)) dX5_news_11 (by decide) (nI_leI (a := q) (b := 0) (by omega) (by omega)) (fun c_2 => ?_) (fun c_2 => ?_)
        ·
          refine y_iload_n X dX5_news_60 2 rfl ?_
          exact y_iret X hr dX5_news_61 rfl ⟨by show _ = some (Value.int (newC T q)); rw [gx]; rcases Nat.lt_or_ge 0 q with z9 | z9; rw [show j = 8 by omega, newC, if_neg (by omega)]; rw [gz (by omega), newC, if_pos (by omega)]; rfl, rfl⟩
        ·
          have gk2 := WF_k gv gq (show j < 8 by omega)
          refine y_aload_n X dX5_news_14 0 rfl ?_
          refine y_get X (61) 5 0 (Cn := RX5) (T := TX5) (N := 14) (index := 7) (v := .ref (E.2.1 (62))) dX5_news_15 (by omega) m0 rfl (by decide) inX5 (by decide +kernel : Cond.fieldLink RX5 7 "ColumnSeasonsModel" "now" "[I" ∈ wsX5_news) rfl rfl ?_
          refine y_iload_n X dX5_news_18 1 rfl ?_
          refine y_iload_n X dX5_news_19 3 rfl ?_
          refine y_callJr X (av := [.ref (E.2.1 (62)), .int (nI (q)), .int (nI (j))]) [] 3 (c_X5_kindOf (a := 62) (by omega) gT gv (q := q) (j := j) (by omega) (by omega)) gX5_news_X5_kindOf rfl (by decide +kernel) rfl ⟨Nat.le_of_ble_eq_true rfl, Nat.le_of_ble_eq_true rfl⟩ ⟨Nat.zero_le _, Nat.zero_le _⟩ (Nat.le_of_ble_eq_true rfl) rfl dX5_news_20 ?_
          refine y_istore X [(4, .int (tk T (q) (j))), (0, .ref (E.2.1 (61))), (1, .int (nI (q))), (2, .int x2), (3, .int (nI (j)))] dX5_news_23 (by decide) rfl ?_
          refine y_iload_n X dX5_news_25 3 rfl ?_
          refine y_iload X dX5_news_26 0 rfl ?_
          refine y_if_lt X 51 ((tk T (q) (j)) = -1) dX5_news_28 (by decide) (kltI (by first | exact gk1 | exact gk2)) (fun c_3 => ?_) (fun c_3 => ?_)
          ·
            refine y_iconst X (v := (0)) dX5_news_51 (by decide) ?_
            refine y_iadd X (z := (x2 + (0))) dX5_news_52 rfl ?_
            refine y_istore_n X [(2, .int (x2 + (0))), (4, .int (tk T (q) (j))), (0, .ref (E.2.1 (61))), (1, .int (nI (q))), (3, .int (nI (j)))] dX5_news_53 rfl (by decide) rfl ?_
            refine y_iinc X [(3, .int (nI (j + 1))), (2, .int (x2 + (0))), (4, .int (tk T (q) (j))), (0, .ref (E.2.1 (61))), (1, .int (nI (q)))] dX5_news_54 4 rfl (nI_1 _) (by decide) rfl ?_
            refine y_goto X 4 dX5_news_57 (by decide) ?_
            refine y_pick [3, 4, 1, 0] [(0, .ref (E.2.1 (61))), (1, .int (nI (q))), (2, .int (x2 + (0))), (3, .int (nI (j + 1)))] rfl ?_
            exact ih4 (j + 1) ((x2 + (0))) (by omega) (by omega) (by rw [gx, Int32.add_zero]; exact sm_zero (if_neg (fun z => by first | exact z.1 c_3 | exact z.2 c_3))) (fun z => by omega)
          ·
            refine y_iload X dX5_news_31 0 rfl ?_
            refine y_aload_n X dX5_news_33 1 rfl ?_
            refine y_get X (61) 5 0 (Cn := RX5) (T := TX5) (N := 14) (index := 7) (v := .ref (E.2.1 (62))) dX5_news_34 (by omega) m0 rfl (by decide) inX5 (by decide +kernel : Cond.fieldLink RX5 7 "ColumnSeasonsModel" "now" "[I" ∈ wsX5_news) rfl rfl ?_
            refine y_iload_n X dX5_news_37 2 rfl ?_
            refine y_iconst X (v := (1)) dX5_news_38 (by decide) ?_
            refine y_isub X (z := (nI ((q) - (1)))) dX5_news_39 (pk_sub (a := q) (b := 1) (by omega)) ?_
            refine y_iload_n X dX5_news_40 4 rfl ?_
            refine y_callJr X (av := [.ref (E.2.1 (62)), .int (nI ((q) - (1))), .int (nI (j))]) [.int (tk T (q) (j)), .int x2] 3 (c_X5_kindOf (a := 62) (by omega) gT gv (q := (q) - (1)) (j := j) (by omega) (by omega)) gX5_news_X5_kindOf rfl (by decide +kernel) rfl ⟨Nat.le_of_ble_eq_true rfl, Nat.le_of_ble_eq_true rfl⟩ ⟨Nat.zero_le _, Nat.zero_le _⟩ (Nat.le_of_ble_eq_true rfl) rfl dX5_news_41 ?_
            refine y_icmp_eq X 51 ((tk T (q) (j)) = (tk T ((q) - (1)) (j))) dX5_news_44 (by decide) Iff.rfl (fun c_4 => ?_) (fun c_4 => ?_)
            ·
              refine y_iconst X (v := (0)) dX5_news_51 (by decide) ?_
              refine y_iadd X (z := (x2 + (0))) dX5_news_52 rfl ?_
              refine y_istore_n X [(2, .int (x2 + (0))), (4, .int (tk T (q) (j))), (0, .ref (E.2.1 (61))), (1, .int (nI (q))), (3, .int (nI (j)))] dX5_news_53 rfl (by decide) rfl ?_
              refine y_iinc X [(3, .int (nI (j + 1))), (2, .int (x2 + (0))), (4, .int (tk T (q) (j))), (0, .ref (E.2.1 (61))), (1, .int (nI (q)))] dX5_news_54 4 rfl (nI_1 _) (by decide) rfl ?_
              refine y_goto X 4 dX5_news_57 (by decide) ?_
              refine y_pick [3, 4, 1, 0] [(0, .ref (E.2.1 (61))), (1, .int (nI (q))), (2, .int (x2 + (0))), (3, .int (nI (j + 1)))] rfl ?_
              exact ih4 (j + 1) ((x2 + (0))) (by omega) (by omega) (by rw [gx, Int32.add_zero]; exact sm_zero (if_neg (fun z => by first | exact z.1 c_4 | exact z.2 c_4))) (fun z => by omega)
            ·
              refine y_iconst X (v := (1)) dX5_news_47 (by decide) ?_
              refine y_goto X 52 dX5_news_48 (by decide) ?_
              refine y_iadd X (z := (x2 + (1))) dX5_news_52 rfl ?_
              refine y_istore_n X [(2, .int (x2 + (1))), (4, .int (tk T (q) (j))), (0, .ref (E.2.1 (61))), (1, .int (nI (q))), (3, .int (nI (j)))] dX5_news_53 rfl (by decide) rfl ?_
              refine y_iinc X [(3, .int (nI (j + 1))), (2, .int (x2 + (1))), (4, .int (tk T (q) (j))), (0, .ref (E.2.1 (61))), (1, .int (nI (q)))] dX5_news_54 4 rfl (nI_1 _) (by decide) rfl ?_
              refine y_goto X 4 dX5_news_57 (by decide) ?_
              refine y_pick [3, 4, 1, 0] [(0, .ref (E.2.1 (61))), (1, .int (nI (q))), (2, .int (x2 + (1))), (3, .int (nI (j + 1)))] rfl ?_
              exact ih4 (j + 1) ((x2 + (1))) (by omega) (by omega) (by rw [gx]; exact sm_pos (if_pos ⟨c_3, c_4⟩)) (fun z => by omega)
  refine y_pick [2, 3, 1, 0] [(0, .ref (E.2.1 (61))), (1, .int (nI (q))), (2, .int (0)), (3, .int (0))] rfl ?_
  exact L_4 _ (0) (0) (Nat.lt_succ_self _) (by omega) rfl (fun _ => rfl)

set_option maxRecDepth 100000 in
set_option maxHeartbeats 4000000 in
theorem c_X5_how {l : Launch} {E : xE} {C : xC} {kp fl ty pa va so se tl : Int32} (m0 : C (61) = .inr (5, [.ref (E.2.1 (62)), .ref (E.2.1 (63)), .ref (E.2.1 (64)), .int kp, .ref (E.2.1 (65)), .int fl, .ref (E.2.1 (66)), .int ty, .int pa, .int va, .int so, .int se, .ref (E.2.1 (67)), .int tl])) {T : Tb} (gT : RM E C 62 T) (gv : WF T) {i q j : Nat} (gi : i < tr T) (gq : q < tn T) (gj : j < 8) (gc : ¬ tk T q j = -1) : xR E l yX5_how wsX5_how 3 69 [.ref (E.2.1 (61)), .int (nI (i)), .int (nI (q)), .int (nI (j))] C (howC T q i j) := by
  obtain ⟨zf, h0, g0, g1, gK, gD, gS, gV⟩ := id gT
  obtain ⟨gw1, gw2, gw3, gw4⟩ := id gv.1
  refine xM_ofY (cc := cX5_how) (maxL := 5) (ret := (some .int)) (by decide) rfl (Nat.le_of_ble_eq_true rfl) ?_
  intro p e s m args below meth c X hr
  have inX5 : ∀ w ∈ wsX50, w ∈ wsX5_how := by decide +kernel
  refine y_lv [(0, .ref (E.2.1 (61))), (1, .int (nI (i))), (2, .int (nI (q))), (3, .int (nI (j)))] rfl ?_
  have gk1 := WF_k gv (gw4 i gi) gj
  refine y_aload_n X dX5_how_0 0 rfl ?_
  refine y_get X (61) 5 0 (Cn := RX5) (T := TX5) (N := 14) (index := 7) (v := .ref (E.2.1 (62))) dX5_how_1 (by omega) m0 rfl (by decide) inX5 (by decide +kernel : Cond.fieldLink RX5 7 "ColumnSeasonsModel" "now" "[I" ∈ wsX5_how) rfl rfl ?_
  refine y_iload_n X dX5_how_4 1 rfl ?_
  refine y_iload_n X dX5_how_5 3 rfl ?_
  refine y_callJr X (av := [.ref (E.2.1 (62)), .int (nI (i)), .int (nI (j))]) [] 3 (c_X5_kindIn (a := 62) (by omega) gT gv (i := i) (j := j) (by omega) (by omega)) gX5_how_X5_kindIn rfl (by decide +kernel) rfl ⟨Nat.le_of_ble_eq_true rfl, Nat.le_of_ble_eq_true rfl⟩ ⟨Nat.zero_le _, Nat.zero_le _⟩ (Nat.le_of_ble_eq_true rfl) rfl dX5_how_6 ?_
  refine y_istore X [(4, .int (tk T (ts T (i)) (j))), (0, .ref (E.2.1 (61))), (1, .int (nI (i))), (2, .int (nI (q))), (3, .int (nI (j)))] dX5_how_9 (by decide) rfl ?_
  refine y_iload X dX5_how_11 0 rfl ?_
  refine y_if_ge X 20 (¬ (tk T (ts T (i)) (j)) = -1) dX5_how_13 (by decide) (kgeI (by first | exact gk1 | exact gk2)) (fun c_1 => ?_) (fun c_1 => ?_)
  ·
    refine y_iload X dX5_how_20 0 rfl ?_
    refine y_aload_n X dX5_how_22 1 rfl ?_
    refine y_get X (61) 5 0 (Cn := RX5) (T := TX5) (N := 14) (index := 7) (v := .ref (E.2.1 (62))) dX5_how_23 (by omega) m0 rfl (by decide) inX5 (by decide +kernel : Cond.fieldLink RX5 7 "ColumnSeasonsModel" "now" "[I" ∈ wsX5_how) rfl rfl ?_
    refine y_iload_n X dX5_how_26 3 rfl ?_
    refine y_iload_n X dX5_how_27 4 rfl ?_
    refine y_callJr X (av := [.ref (E.2.1 (62)), .int (nI (q)), .int (nI (j))]) [.int (tk T (ts T (i)) (j))] 3 (c_X5_kindOf (a := 62) (by omega) gT gv (q := q) (j := j) (by omega) (by omega)) gX5_how_X5_kindOf rfl (by decide +kernel) rfl ⟨Nat.le_of_ble_eq_true rfl, Nat.le_of_ble_eq_true rfl⟩ ⟨Nat.zero_le _, Nat.zero_le _⟩ (Nat.le_of_ble_eq_true rfl) rfl dX5_how_28 ?_
    refine y_icmp_ne X 38 (¬ ((tk T (ts T (i)) (j)) = (tk T (q) (j)))) dX5_how_31 (by decide) Iff.rfl (fun c_2 => ?_) (fun c_2 => ?_)
    ·
      refine y_aload_n X dX5_how_38 1 rfl ?_
      refine y_get X (61) 5 0 (Cn := RX5) (T := TX5) (N := 14) (index := 7) (v := .ref (E.2.1 (62))) dX5_how_39 (by omega) m0 rfl (by decide) inX5 (by decide +kernel : Cond.fieldLink RX5 7 "ColumnSeasonsModel" "now" "[I" ∈ wsX5_how) rfl rfl ?_
      refine y_iload_n X dX5_how_42 2 rfl ?_
      refine y_iload_n X dX5_how_43 3 rfl ?_
      refine y_iload_n X dX5_how_44 4 rfl ?_
      refine y_callJr X (av := [.ref (E.2.1 (62)), .int (nI (i)), .int (nI (q)), .int (nI (j))]) [] 4 (c_X5_isLost (a := 62) (by omega) gT gv (i := i) (q := q) (j := j) (by omega) (by omega) (by omega)) gX5_how_X5_isLost rfl (by decide +kernel) rfl ⟨Nat.le_of_ble_eq_true rfl, Nat.le_of_ble_eq_true rfl⟩ ⟨Nat.zero_le _, Nat.zero_le _⟩ (Nat.le_of_ble_eq_true rfl) rfl dX5_how_45 ?_
      refine y_if_eq X 55 (¬ (lostC T (q) (i) (j))) dX5_how_48 (by decide) bI_eq (fun c_3 => ?_) (fun c_3 => ?_)
      ·
        refine y_iconst X (v := (1)) dX5_how_55 (by decide) ?_
        exact y_iret X hr dX5_how_56 rfl ⟨by show _ = some (Value.int (howC T q i j)); rw [howC, if_neg c_1, if_neg c_2, if_neg (fun z => c_3 ⟨c_1, Or.inr z⟩)], rfl⟩
      ·
        have c_3 := Decidable.of_not_not c_3
        refine y_iconst X (v := (2)) dX5_how_51 (by decide) ?_
        refine y_goto X 56 dX5_how_52 (by decide) ?_
        exact y_iret X hr dX5_how_56 rfl ⟨by show _ = some (Value.int (howC T q i j)); rw [howC, if_neg c_1, if_neg c_2, if_pos (c_3.2.resolve_left gc)], rfl⟩
    ·
      have c_2 := Decidable.of_not_not c_2
      refine y_iconst X (v := (0)) dX5_how_34 (by decide) ?_
      refine y_goto X 56 dX5_how_35 (by decide) ?_
      exact y_iret X hr dX5_how_56 rfl ⟨by show _ = some (Value.int (howC T q i j)); rw [howC, if_neg c_1, if_pos c_2], rfl⟩
  ·
    have c_1 := Decidable.of_not_not c_1
    refine y_iconst X (v := (3)) dX5_how_16 (by decide) ?_
    refine y_goto X 56 dX5_how_17 (by decide) ?_
    exact y_iret X hr dX5_how_56 rfl ⟨by show _ = some (Value.int (howC T q i j)); rw [howC, if_pos c_1], rfl⟩

set_option maxRecDepth 100000 in
set_option maxHeartbeats 4000000 in
theorem c_X5_wearers {l : Launch} {E : xE} {C : xC} {kp fl ty pa va so se tl : Int32} (m0 : C (61) = .inr (5, [.ref (E.2.1 (62)), .ref (E.2.1 (63)), .ref (E.2.1 (64)), .int kp, .ref (E.2.1 (65)), .int fl, .ref (E.2.1 (66)), .int ty, .int pa, .int va, .int so, .int se, .ref (E.2.1 (67)), .int tl])) {T : Tb} (gT : RM E C 62 T) (gv : WF T) {q : Nat} : xR E l yX5_wearers wsX5_wearers 1 21 [.ref (E.2.1 (61)), .int (nI (q))] C (wear T q) := by
  obtain ⟨zf, h0, g0, g1, gK, gD, gS, gV⟩ := id gT
  obtain ⟨gw1, gw2, gw3, gw4⟩ := id gv.1
  refine xM_ofY (cc := cX5_wearers) (maxL := 4) (ret := (some .int)) (by decide) rfl (Nat.le_of_ble_eq_true rfl) ?_
  intro p e s m args below meth c X hr
  have inX5 : ∀ w ∈ wsX50, w ∈ wsX5_wearers := by decide +kernel
  refine y_lv [(0, .ref (E.2.1 (61))), (1, .int (nI (q)))] rfl ?_
  refine y_iconst X (v := (0)) dX5_wearers_0 (by decide) ?_
  refine y_istore_n X [(2, .int (0)), (0, .ref (E.2.1 (61))), (1, .int (nI (q)))] dX5_wearers_1 rfl (by decide) rfl ?_
  refine y_iconst X (v := (0)) dX5_wearers_2 (by decide) ?_
  refine y_istore_n X [(3, .int (0)), (2, .int (0)), (0, .ref (E.2.1 (61))), (1, .int (nI (q)))] dX5_wearers_3 rfl (by decide) rfl ?_
  have L_4 : ∀ (n : Nat) (j : Nat) (x2 : Int32), tr T - j < n → (j ≤ tr T) → (x2 = sm (fun i => if nI (ts T i) = nI q then 1 else 0) j) → xY p l e ({ frames := 1, cells := 0, slots := 0, locals := 21 } : Room) s m args below meth c E (xA E) 4 0 0 (MQ below (xQ E (fun v C1 => v = some (.int (wear T q)) ∧ C1 = C)) args s 0 0 (xA E)) C 4 [(0, .ref (E.2.1 (61))), (1, .int (nI (q))), (2, .int x2), (3, .int (nI (j)))] [] := by
    intro n4
    induction n4 with
    | zero => intro _ _ hm4; exact absurd hm4 (Nat.not_lt_zero _)
    | succ n4 ih4 =>
      intro j x2 hm4 gj gx
      refine y_iload_n X dX5_wearers_4 3 rfl ?_
      refine y_aload_n X dX5_wearers_5 0 rfl ?_
      refine y_get X (61) 5 0 (Cn := RX5) (T := TX5) (N := 14) (index := 7) (v := .ref (E.2.1 (62))) dX5_wearers_6 (by omega) m0 rfl (by decide) inX5 (by decide +kernel : Cond.fieldLink RX5 7 "ColumnSeasonsModel" "now" "[I" ∈ wsX5_wearers) rfl rfl ?_
      refine y_iconst X (v := (1)) dX5_wearers_9 (by decide) ?_
      refine y_iald X (62) dX5_wearers_10 (by omega) h0 (j := 1) rfl (by omega) (by omega) (z := (nI (tr T))) g1 ?_
      refine y_icmp_ge X 40 ((tr T) ≤ (j)) dX5_wearers_11 (by decide) (nI_leI (a := tr T) (b := j) (by omega) (by omega)) (fun c_1 => ?_) (fun c_1 => ?_)
      ·
        refine y_iload_n X dX5_wearers_40 2 rfl ?_
        exact y_iret X hr dX5_wearers_41 rfl ⟨by rw [gx, show j = tr T by omega]; rfl, rfl⟩
      ·
        refine y_iload_n X dX5_wearers_14 2 rfl ?_
        refine y_aload_n X dX5_wearers_15 0 rfl ?_
        refine y_get X (61) 5 0 (Cn := RX5) (T := TX5) (N := 14) (index := 7) (v := .ref (E.2.1 (62))) dX5_wearers_16 (by omega) m0 rfl (by decide) inX5 (by decide +kernel : Cond.fieldLink RX5 7 "ColumnSeasonsModel" "now" "[I" ∈ wsX5_wearers) rfl rfl ?_
        refine y_iload_n X dX5_wearers_19 3 rfl ?_
        refine y_callJr X (av := [.ref (E.2.1 (62)), .int (nI (j))]) [.int x2] 2 (c_X5_seasonOfRow (a := 62) (by omega) gT gv (i := j) (by omega)) gX5_wearers_X5_seasonOfRow rfl (by decide +kernel) rfl ⟨Nat.le_of_ble_eq_true rfl, Nat.le_of_ble_eq_true rfl⟩ ⟨Nat.zero_le _, Nat.zero_le _⟩ (Nat.le_of_ble_eq_true rfl) rfl dX5_wearers_20 ?_
        refine y_iload_n X dX5_wearers_23 1 rfl ?_
        refine y_icmp_ne X 31 (¬ ((nI (ts T (j))) = (nI (q)))) dX5_wearers_24 (by decide) Iff.rfl (fun c_2 => ?_) (fun c_2 => ?_)
        ·
          refine y_iconst X (v := (0)) dX5_wearers_31 (by decide) ?_
          refine y_iadd X (z := (x2 + (0))) dX5_wearers_32 rfl ?_
          refine y_istore_n X [(2, .int (x2 + (0))), (0, .ref (E.2.1 (61))), (1, .int (nI (q))), (3, .int (nI (j)))] dX5_wearers_33 rfl (by decide) rfl ?_
          refine y_iinc X [(3, .int (nI (j + 1))), (2, .int (x2 + (0))), (0, .ref (E.2.1 (61))), (1, .int (nI (q)))] dX5_wearers_34 3 rfl (nI_1 _) (by decide) rfl ?_
          refine y_goto X 4 dX5_wearers_37 (by decide) ?_
          refine y_pick [2, 3, 1, 0] [(0, .ref (E.2.1 (61))), (1, .int (nI (q))), (2, .int (x2 + (0))), (3, .int (nI (j + 1)))] rfl ?_
          exact ih4 (j + 1) ((x2 + (0))) (by omega) (by omega) (by rw [gx, Int32.add_zero]; exact sm_zero (if_neg c_2))
        ·
          have c_2 := Decidable.of_not_not c_2
          refine y_iconst X (v := (1)) dX5_wearers_27 (by decide) ?_
          refine y_goto X 32 dX5_wearers_28 (by decide) ?_
          refine y_iadd X (z := (x2 + (1))) dX5_wearers_32 rfl ?_
          refine y_istore_n X [(2, .int (x2 + (1))), (0, .ref (E.2.1 (61))), (1, .int (nI (q))), (3, .int (nI (j)))] dX5_wearers_33 rfl (by decide) rfl ?_
          refine y_iinc X [(3, .int (nI (j + 1))), (2, .int (x2 + (1))), (0, .ref (E.2.1 (61))), (1, .int (nI (q)))] dX5_wearers_34 3 rfl (nI_1 _) (by decide) rfl ?_
          refine y_goto X 4 dX5_wearers_37 (by decide) ?_
          refine y_pick [2, 3, 1, 0] [(0, .ref (E.2.1 (61))), (1, .int (nI (q))), (2, .int (x2 + (1))), (3, .int (nI (j + 1)))] rfl ?_
          exact ih4 (j + 1) ((x2 + (1))) (by omega) (by omega) (by rw [gx]; exact sm_pos (if_pos c_2))
  refine y_pick [2, 3, 1, 0] [(0, .ref (E.2.1 (61))), (1, .int (nI (q))), (2, .int (0)), (3, .int (0))] rfl ?_
  exact L_4 _ (0) (0) (Nat.lt_succ_self _) (by omega) rfl

set_option maxRecDepth 100000 in
set_option maxHeartbeats 4000000 in
theorem c_X5_common {l : Launch} {E : xE} {C : xC} {kp fl ty pa va so se tl : Int32} (m0 : C (61) = .inr (5, [.ref (E.2.1 (62)), .ref (E.2.1 (63)), .ref (E.2.1 (64)), .int kp, .ref (E.2.1 (65)), .int fl, .ref (E.2.1 (66)), .int ty, .int pa, .int va, .int so, .int se, .ref (E.2.1 (67)), .int tl])) {T : Tb} (gT : RM E C 62 T) (gv : WF T) {a b0 : Nat} (ga : a < tr T) (gz : b0 < tr T) : xR E l yX5_common wsX5_common 2 45 [.ref (E.2.1 (61)), .int (nI (a)), .int (nI (b0))] C (shN T a b0) := by
  obtain ⟨zf, h0, g0, g1, gK, gD, gS, gV⟩ := id gT
  obtain ⟨gw1, gw2, gw3, gw4⟩ := id gv.1
  refine xM_ofY (cc := cX5_common) (maxL := 5) (ret := (some .int)) (by decide) rfl (Nat.le_of_ble_eq_true rfl) ?_
  intro p e s m args below meth c X hr
  have inX5 : ∀ w ∈ wsX50, w ∈ wsX5_common := by decide +kernel
  refine y_lv [(0, .ref (E.2.1 (61))), (1, .int (nI (a))), (2, .int (nI (b0)))] rfl ?_
  refine y_iload_n X dX5_common_0 1 rfl ?_
  refine y_iload_n X dX5_common_1 2 rfl ?_
  refine y_icmp_le X 9 ((a) ≤ (b0)) dX5_common_2 (by decide) (nI_leI (a := a) (b := b0) (by omega) (by omega)) (fun c_1 => ?_) (fun c_1 => ?_)
  ·
    refine y_sipush X (v := (255)) dX5_common_9 (by decide) ?_
    refine y_istore_n X [(3, .int (255)), (0, .ref (E.2.1 (61))), (1, .int (nI (a))), (2, .int (nI (b0)))] dX5_common_12 rfl (by decide) rfl ?_
    refine y_iload_n X dX5_common_13 2 rfl ?_
    refine y_istore X [(4, .int (nI (a))), (3, .int (255)), (0, .ref (E.2.1 (61))), (1, .int (nI (a))), (2, .int (nI (b0)))] dX5_common_14 (by decide) rfl ?_
    have L_16 : ∀ (n : Nat) (k : Nat) (x3 : Int32), b0 + 1 - a - k < n → (k ≤ b0 + 1 - a) → (x3 = if b0 < a then 0 else cmF T a k) → xY p l e ({ frames := 2, cells := 0, slots := 0, locals := 45 } : Room) s m args below meth c E (xA E) 5 0 0 (MQ below (xQ E (fun v C1 => v = some (.int (shN T a b0)) ∧ C1 = C)) args s 0 0 (xA E)) C 16 [(0, .ref (E.2.1 (61))), (1, .int (nI (a))), (2, .int (nI (b0))), (3, .int x3), (4, .int (nI (a + k)))] [] := by
      intro n16
      induction n16 with
      | zero => intro _ _ hm16; exact absurd hm16 (Nat.not_lt_zero _)
      | succ n16 ih16 =>
        intro k x3 hm16 gk gx
        refine y_iload X dX5_common_16 4 rfl ?_
        refine y_iload_n X dX5_common_18 2 rfl ?_
        refine y_icmp_gt X 47 ((b0) < (a + k)) dX5_common_19 (by decide) (nI_ltI (a := b0) (b := a + k) (by omega) (by omega)) (fun c_2 => ?_) (fun c_2 => ?_)
        ·
          refine y_iload_n X dX5_common_47 3 rfl ?_
          exact y_iret X hr dX5_common_48 rfl ⟨by show _ = some (Value.int (shN T a b0)); rw [gx]; rcases Nat.lt_or_ge b0 a with z9 | z9; rw [if_pos z9, shN, if_pos z9]; rw [if_neg (by omega), ← cmF_shN (by omega), show k = b0 + 1 - a by omega], rfl⟩
        ·
          refine y_iload_n X dX5_common_22 3 rfl ?_
          have gts := gw4 (a + k) (by omega)
          refine y_aload_n X dX5_common_23 0 rfl ?_
          refine y_get X (61) 5 0 (Cn := RX5) (T := TX5) (N := 14) (index := 7) (v := .ref (E.2.1 (62))) dX5_common_24 (by omega) m0 rfl (by decide) inX5 (by decide +kernel : Cond.fieldLink RX5 7 "ColumnSeasonsModel" "now" "[I" ∈ wsX5_common) rfl rfl ?_
          refine y_aload_n X dX5_common_27 0 rfl ?_
          refine y_get X (61) 5 0 (Cn := RX5) (T := TX5) (N := 14) (index := 7) (v := .ref (E.2.1 (62))) dX5_common_28 (by omega) m0 rfl (by decide) inX5 (by decide +kernel : Cond.fieldLink RX5 7 "ColumnSeasonsModel" "now" "[I" ∈ wsX5_common) rfl rfl ?_
          refine y_iload X dX5_common_31 4 rfl ?_
          refine y_callJr X (av := [.ref (E.2.1 (62)), .int (nI (a + k))]) [.ref (E.2.1 (62)), .int x3] 2 (c_X5_seasonOfRow (a := 62) (by omega) gT gv (i := a + k) (by omega)) gX5_common_X5_seasonOfRow rfl (by decide +kernel) rfl ⟨Nat.le_of_ble_eq_true rfl, Nat.le_of_ble_eq_true rfl⟩ ⟨Nat.zero_le _, Nat.zero_le _⟩ (Nat.le_of_ble_eq_true rfl) rfl dX5_common_33 ?_
          refine y_callJr X (av := [.ref (E.2.1 (62)), .int (nI (ts T (a + k)))]) [.int x3] 2 (c_X5_names (a := 62) (by omega) gT gv (q := ts T (a + k)) (by omega)) gX5_common_X5_names rfl (by decide +kernel) rfl ⟨Nat.le_of_ble_eq_true rfl, Nat.le_of_ble_eq_true rfl⟩ ⟨Nat.zero_le _, Nat.zero_le _⟩ (Nat.le_of_ble_eq_true rfl) rfl dX5_common_36 ?_
          refine y_iand X (z := (x3 &&& (nmS T (ts T (a + k))))) dX5_common_39 rfl ?_
          refine y_istore_n X [(3, .int (x3 &&& (nmS T (ts T (a + k))))), (0, .ref (E.2.1 (61))), (1, .int (nI (a))), (2, .int (nI (b0))), (4, .int (nI (a + k)))] dX5_common_40 rfl (by decide) rfl ?_
          refine y_iinc X [(4, .int (nI (a + k + 1))), (3, .int (x3 &&& (nmS T (ts T (a + k))))), (0, .ref (E.2.1 (61))), (1, .int (nI (a))), (2, .int (nI (b0)))] dX5_common_41 4 rfl (nI_1 _) (by decide) rfl ?_
          refine y_goto X 16 dX5_common_44 (by decide) ?_
          refine y_pick [2, 3, 4, 1, 0] [(0, .ref (E.2.1 (61))), (1, .int (nI (a))), (2, .int (nI (b0))), (3, .int (x3 &&& (nmS T (ts T (a + k))))), (4, .int (nI (a + k + 1)))] rfl ?_
          exact ih16 (k + 1) ((x3 &&& (nmS T (ts T (a + k))))) (by omega) (by omega) (by rw [gx, if_neg (by omega), if_neg (by omega)]; rfl)
    refine y_pick [2, 3, 4, 1, 0] [(0, .ref (E.2.1 (61))), (1, .int (nI (a))), (2, .int (nI (b0))), (3, .int (255)), (4, .int (nI (a)))] rfl ?_
    exact L_16 _ (0) ((255)) (Nat.lt_succ_self _) (by omega) (by rw [if_neg (by omega)]; rfl)
  ·
    refine y_iconst X (v := (0)) dX5_common_5 (by decide) ?_
    refine y_goto X 12 dX5_common_6 (by decide) ?_
    refine y_istore_n X [(3, .int (0)), (0, .ref (E.2.1 (61))), (1, .int (nI (a))), (2, .int (nI (b0)))] dX5_common_12 rfl (by decide) rfl ?_
    refine y_iload_n X dX5_common_13 2 rfl ?_
    refine y_istore X [(4, .int (nI (a))), (3, .int (0)), (0, .ref (E.2.1 (61))), (1, .int (nI (a))), (2, .int (nI (b0)))] dX5_common_14 (by decide) rfl ?_
    have L_16 : ∀ (n : Nat) (k : Nat) (x3 : Int32), b0 + 1 - a - k < n → (k ≤ b0 + 1 - a) → (x3 = if b0 < a then 0 else cmF T a k) → xY p l e ({ frames := 2, cells := 0, slots := 0, locals := 45 } : Room) s m args below meth c E (xA E) 5 0 0 (MQ below (xQ E (fun v C1 => v = some (.int (shN T a b0)) ∧ C1 = C)) args s 0 0 (xA E)) C 16 [(0, .ref (E.2.1 (61))), (1, .int (nI (a))), (2, .int (nI (b0))), (3, .int x3), (4, .int (nI (a + k)))] [] := by
      intro n16
      induction n16 with
      | zero => intro _ _ hm16; exact absurd hm16 (Nat.not_lt_zero _)
      | succ n16 ih16 =>
        intro k x3 hm16 gk gx
        refine y_iload X dX5_common_16 4 rfl ?_
        refine y_iload_n X dX5_common_18 2 rfl ?_
        refine y_icmp_gt X 47 ((b0) < (a + k)) dX5_common_19 (by decide) (nI_ltI (a := b0) (b := a + k) (by omega) (by omega)) (fun c_3 => ?_) (fun c_3 => ?_)
        ·
          refine y_iload_n X dX5_common_47 3 rfl ?_
          exact y_iret X hr dX5_common_48 rfl ⟨by show _ = some (Value.int (shN T a b0)); rw [gx]; rcases Nat.lt_or_ge b0 a with z9 | z9; rw [if_pos z9, shN, if_pos z9]; rw [if_neg (by omega), ← cmF_shN (by omega), show k = b0 + 1 - a by omega], rfl⟩
        ·
          refine y_iload_n X dX5_common_22 3 rfl ?_
          have gts := gw4 (a + k) (by omega)
          refine y_aload_n X dX5_common_23 0 rfl ?_
          refine y_get X (61) 5 0 (Cn := RX5) (T := TX5) (N := 14) (index := 7) (v := .ref (E.2.1 (62))) dX5_common_24 (by omega) m0 rfl (by decide) inX5 (by decide +kernel : Cond.fieldLink RX5 7 "ColumnSeasonsModel" "now" "[I" ∈ wsX5_common) rfl rfl ?_
          refine y_aload_n X dX5_common_27 0 rfl ?_
          refine y_get X (61) 5 0 (Cn := RX5) (T := TX5) (N := 14) (index := 7) (v := .ref (E.2.1 (62))) dX5_common_28 (by omega) m0 rfl (by decide) inX5 (by decide +kernel : Cond.fieldLink RX5 7 "ColumnSeasonsModel" "now" "[I" ∈ wsX5_common) rfl rfl ?_
          refine y_iload X dX5_common_31 4 rfl ?_
          refine y_callJr X (av := [.ref (E.2.1 (62)), .int (nI (a + k))]) [.ref (E.2.1 (62)), .int x3] 2 (c_X5_seasonOfRow (a := 62) (by omega) gT gv (i := a + k) (by omega)) gX5_common_X5_seasonOfRow rfl (by decide +kernel) rfl ⟨Nat.le_of_ble_eq_true rfl, Nat.le_of_ble_eq_true rfl⟩ ⟨Nat.zero_le _, Nat.zero_le _⟩ (Nat.le_of_ble_eq_true rfl) rfl dX5_common_33 ?_
          refine y_callJr X (av := [.ref (E.2.1 (62)), .int (nI (ts T (a + k)))]) [.int x3] 2 (c_X5_names (a := 62) (by omega) gT gv (q := ts T (a + k)) (by omega)) gX5_common_X5_names rfl (by decide +kernel) rfl ⟨Nat.le_of_ble_eq_true rfl, Nat.le_of_ble_eq_true rfl⟩ ⟨Nat.zero_le _, Nat.zero_le _⟩ (Nat.le_of_ble_eq_true rfl) rfl dX5_common_36 ?_
          refine y_iand X (z := (x3 &&& (nmS T (ts T (a + k))))) dX5_common_39 rfl ?_
          refine y_istore_n X [(3, .int (x3 &&& (nmS T (ts T (a + k))))), (0, .ref (E.2.1 (61))), (1, .int (nI (a))), (2, .int (nI (b0))), (4, .int (nI (a + k)))] dX5_common_40 rfl (by decide) rfl ?_
          refine y_iinc X [(4, .int (nI (a + k + 1))), (3, .int (x3 &&& (nmS T (ts T (a + k))))), (0, .ref (E.2.1 (61))), (1, .int (nI (a))), (2, .int (nI (b0)))] dX5_common_41 4 rfl (nI_1 _) (by decide) rfl ?_
          refine y_goto X 16 dX5_common_44 (by decide) ?_
          refine y_pick [2, 3, 4, 1, 0] [(0, .ref (E.2.1 (61))), (1, .int (nI (a))), (2, .int (nI (b0))), (3, .int (x3 &&& (nmS T (ts T (a + k))))), (4, .int (nI (a + k + 1)))] rfl ?_
          exact ih16 (k + 1) ((x3 &&& (nmS T (ts T (a + k))))) (by omega) (by omega) (by rw [gx, if_neg (by omega), if_neg (by omega)]; rfl)
    refine y_pick [2, 3, 4, 1, 0] [(0, .ref (E.2.1 (61))), (1, .int (nI (a))), (2, .int (nI (b0))), (3, .int (0)), (4, .int (nI (a)))] rfl ?_
    exact L_16 _ (0) ((0)) (Nat.lt_succ_self _) (by omega) (by rw [if_pos (by omega)])

set_option maxRecDepth 100000 in
set_option maxHeartbeats 4000000 in
theorem c_X5_standards {l : Launch} {E : xE} {C : xC} {kp fl ty pa va so se tl : Int32} (m0 : C (61) = .inr (5, [.ref (E.2.1 (62)), .ref (E.2.1 (63)), .ref (E.2.1 (64)), .int kp, .ref (E.2.1 (65)), .int fl, .ref (E.2.1 (66)), .int ty, .int pa, .int va, .int so, .int se, .ref (E.2.1 (67)), .int tl])) {T : Tb} (gT : RM E C 62 T) (gv : WF T) {a b0 : Nat} (ga : a < tr T) (gz : b0 < tr T) : xR E l yX5_standards wsX5_standards 3 69 [.ref (E.2.1 (61)), .int (nI (a)), .int (nI (b0))] C (dfV T a b0) := by
  obtain ⟨zf, h0, g0, g1, gK, gD, gS, gV⟩ := id gT
  obtain ⟨gw1, gw2, gw3, gw4⟩ := id gv.1
  refine xM_ofY (cc := cX5_standards) (maxL := 8) (ret := (some .int)) (by decide) rfl (Nat.le_of_ble_eq_true rfl) ?_
  intro p e s m args below meth c X hr
  have inX5 : ∀ w ∈ wsX50, w ∈ wsX5_standards := by decide +kernel
  refine y_lv [(0, .ref (E.2.1 (61))), (1, .int (nI (a))), (2, .int (nI (b0)))] rfl ?_
  refine y_aload_n X dX5_standards_0 0 rfl ?_
  refine y_iload_n X dX5_standards_1 1 rfl ?_
  refine y_iload_n X dX5_standards_2 2 rfl ?_
  refine y_callVr X (61) 5 (av := [.int (nI (a)), .int (nI (b0))]) [] 2 (c_X5_common m0 gT gv (a := a) (b0 := b0) (by omega) (by omega)) (by omega) m0 rfl gX5_standards_X5_common rfl (by decide +kernel) rfl ⟨Nat.le_of_ble_eq_true rfl, Nat.le_of_ble_eq_true rfl⟩ ⟨Nat.zero_le _, Nat.zero_le _⟩ (Nat.le_of_ble_eq_true rfl) rfl dX5_standards_3 ?_
  refine y_istore_n X [(3, .int (shN T (a) (b0))), (0, .ref (E.2.1 (61))), (1, .int (nI (a))), (2, .int (nI (b0)))] dX5_standards_6 rfl (by decide) rfl ?_
  refine y_iconst X (v := (0)) dX5_standards_7 (by decide) ?_
  refine y_istore X [(4, .int (0)), (3, .int (shN T (a) (b0))), (0, .ref (E.2.1 (61))), (1, .int (nI (a))), (2, .int (nI (b0)))] dX5_standards_8 (by decide) rfl ?_
  refine y_iconst X (v := (0)) dX5_standards_10 (by decide) ?_
  refine y_istore X [(5, .int (0)), (4, .int (0)), (3, .int (shN T (a) (b0))), (0, .ref (E.2.1 (61))), (1, .int (nI (a))), (2, .int (nI (b0)))] dX5_standards_11 (by decide) rfl ?_
  have L_13 : ∀ (n : Nat) (j : Nat) (x4 : Int32), 8 - j < n → (j ≤ 8) → (x4 = dfM T a b0 j) → xY p l e ({ frames := 3, cells := 0, slots := 0, locals := 69 } : Room) s m args below meth c E (xA E) 8 0 0 (MQ below (xQ E (fun v C1 => v = some (.int (dfV T a b0)) ∧ C1 = C)) args s 0 0 (xA E)) C 13 [(0, .ref (E.2.1 (61))), (1, .int (nI (a))), (2, .int (nI (b0))), (3, .int (shN T a b0)), (4, .int x4), (5, .int (nI (j)))] [] := by
    intro n13
    induction n13 with
    | zero => intro _ _ hm13; exact absurd hm13 (Nat.not_lt_zero _)
    | succ n13 ih13 =>
      intro j x4 hm13 gj gx
      refine y_iload X dX5_standards_13 5 rfl ?_
      refine y_bipush X (v := (8)) dX5_standards_15 (by decide) ?_
      refine y_icmp_ge X 124 ((8) ≤ (j)) dX5_standards_17 (by decide) (nI_leI (a := 8) (b := j) (by omega) (by omega)) (fun c_1 => ?_) (fun c_1 => ?_)
      ·
        refine y_iload X dX5_standards_124 4 rfl ?_
        exact y_iret X hr dX5_standards_126 rfl ⟨by rw [gx, show j = 8 by omega, dfM_eq], rfl⟩
      ·
        refine y_iload_n X dX5_standards_20 3 rfl ?_
        refine y_iload X dX5_standards_21 5 rfl ?_
        refine y_ishr X (z := ((shN T a b0) >>> ((nI (j)) &&& 31))) dX5_standards_23 rfl ?_
        refine y_iconst X (v := (1)) dX5_standards_24 (by decide) ?_
        refine y_iand X (z := (((shN T a b0) >>> ((nI (j)) &&& 31)) &&& (1))) dX5_standards_25 rfl ?_
        refine y_iconst X (v := (1)) dX5_standards_26 (by decide) ?_
        refine y_icmp_ne X 54 (¬ ¬ (shN T a b0 &&& bitN j) = 0) dX5_standards_27 (by decide) (not_congr (bitOne m8_shN (by omega))) (fun c_2 => ?_) (fun c_2 => ?_)
        ·
          refine y_iconst X (v := (0)) dX5_standards_54 (by decide) ?_
          have gfl : (0 : Int32) = bI (dfJ T a b0 j) := (bI_0 (P := dfJ T a b0 j) (fun z => c_2 z.1)).symm
          rw [gfl]
          refine y_istore X [(6, .int (bI (dfJ T a b0 j))), (0, .ref (E.2.1 (61))), (1, .int (nI (a))), (2, .int (nI (b0))), (3, .int (shN T a b0)), (4, .int x4), (5, .int (nI (j)))] dX5_standards_55 (by decide) rfl ?_
          refine y_iload_n X dX5_standards_57 2 rfl ?_
          refine y_istore X [(7, .int (nI (a))), (6, .int (bI (dfJ T a b0 j))), (0, .ref (E.2.1 (61))), (1, .int (nI (a))), (2, .int (nI (b0))), (3, .int (shN T a b0)), (4, .int x4), (5, .int (nI (j)))] dX5_standards_58 (by decide) rfl ?_
          have L_60 : ∀ (n : Nat) (k : Nat) (y4 : Int32), b0 + 1 - a - k < n → (k ≤ b0 + 1 - a) → (y4 = x4 + dfC T a j k) → (¬ dfJ T a b0 j → dfC T a j k = 0) → xY p l e ({ frames := 3, cells := 0, slots := 0, locals := 69 } : Room) s m args below meth c E (xA E) 8 0 0 (MQ below (xQ E (fun v C1 => v = some (.int (dfV T a b0)) ∧ C1 = C)) args s 0 0 (xA E)) C 60 [(0, .ref (E.2.1 (61))), (1, .int (nI (a))), (2, .int (nI (b0))), (3, .int (shN T a b0)), (4, .int y4), (5, .int (nI (j))), (6, .int (bI (dfJ T a b0 j))), (7, .int (nI (a + k)))] [] := by
            intro n60
            induction n60 with
            | zero => intro _ _ hm60; exact absurd hm60 (Nat.not_lt_zero _)
            | succ n60 ih60 =>
              intro k y4 hm60 gk gy gk0
              refine y_iload X dX5_standards_60 7 rfl ?_
              refine y_iload_n X dX5_standards_62 2 rfl ?_
              refine y_icmp_gt X 118 ((b0) < (a + k)) dX5_standards_63 (by decide) (nI_ltI (a := b0) (b := a + k) (by omega) (by omega)) (fun c_3 => ?_) (fun c_3 => ?_)
              ·
                refine y_iinc X [(5, .int (nI (j + 1))), (0, .ref (E.2.1 (61))), (1, .int (nI (a))), (2, .int (nI (b0))), (3, .int (shN T a b0)), (4, .int y4), (6, .int (bI (dfJ T a b0 j))), (7, .int (nI (a + k)))] dX5_standards_118 5 rfl (nI_1 _) (by decide) rfl ?_
                refine y_goto X 13 dX5_standards_121 (by decide) ?_
                refine y_pick [1, 2, 3, 4, 5, 0] [(0, .ref (E.2.1 (61))), (1, .int (nI (a))), (2, .int (nI (b0))), (3, .int (shN T a b0)), (4, .int y4), (5, .int (nI (j + 1)))] rfl ?_
                exact ih13 (j + 1) (y4) (by omega) (by omega) (by rw [gy, gx]; by_cases z9 : dfJ T a b0 j; rw [show k = b0 + 1 - a by omega]; exact sm_add (if_pos z9); rw [gk0 z9]; exact (Int32.add_zero _).trans (sm_zero (if_neg z9)))
              ·
                refine y_iload X dX5_standards_66 6 rfl ?_
                refine y_if_eq X 118 (¬ (dfJ T a b0 j)) dX5_standards_68 (by decide) bI_eq (fun c_4 => ?_) (fun c_4 => ?_)
                ·
                  refine y_iinc X [(5, .int (nI (j + 1))), (0, .ref (E.2.1 (61))), (1, .int (nI (a))), (2, .int (nI (b0))), (3, .int (shN T a b0)), (4, .int y4), (6, .int (bI (dfJ T a b0 j))), (7, .int (nI (a + k)))] dX5_standards_118 5 rfl (nI_1 _) (by decide) rfl ?_
                  refine y_goto X 13 dX5_standards_121 (by decide) ?_
                  refine y_pick [1, 2, 3, 4, 5, 0] [(0, .ref (E.2.1 (61))), (1, .int (nI (a))), (2, .int (nI (b0))), (3, .int (shN T a b0)), (4, .int y4), (5, .int (nI (j + 1)))] rfl ?_
                  exact ih13 (j + 1) (y4) (by omega) (by omega) (by rw [gy, gx, gk0 c_4]; exact (Int32.add_zero _).trans (sm_zero (if_neg c_4)))
                ·
                  have c_4 := Decidable.of_not_not c_4
                  have gpr : ¬ tk T (ts T (a + k)) j = -1 := shN_has (T := T) (a := a) (b := b0) (i := a + k) (by omega) (by omega) (by omega) c_4.1
                  refine y_iload X dX5_standards_71 4 rfl ?_
                  refine y_aload_n X dX5_standards_73 0 rfl ?_
                  refine y_get X (61) 5 0 (Cn := RX5) (T := TX5) (N := 14) (index := 7) (v := .ref (E.2.1 (62))) dX5_standards_74 (by omega) m0 rfl (by decide) inX5 (by decide +kernel : Cond.fieldLink RX5 7 "ColumnSeasonsModel" "now" "[I" ∈ wsX5_standards) rfl rfl ?_
                  refine y_iload X dX5_standards_77 7 rfl ?_
                  refine y_iload X dX5_standards_79 5 rfl ?_
                  refine y_callJr X (av := [.ref (E.2.1 (62)), .int (nI (a + k)), .int (nI (j))]) [.int y4] 3 (c_X5_valueOf (a := 62) (by omega) gT gv (i := a + k) (j := j) (by omega) (by omega) (by assumption)) gX5_standards_X5_valueOf rfl (by decide +kernel) rfl ⟨Nat.le_of_ble_eq_true rfl, Nat.le_of_ble_eq_true rfl⟩ ⟨Nat.zero_le _, Nat.zero_le _⟩ (Nat.le_of_ble_eq_true rfl) rfl dX5_standards_81 ?_
                  refine y_aload_n X dX5_standards_84 0 rfl ?_
                  refine y_get X (61) 5 0 (Cn := RX5) (T := TX5) (N := 14) (index := 7) (v := .ref (E.2.1 (62))) dX5_standards_85 (by omega) m0 rfl (by decide) inX5 (by decide +kernel : Cond.fieldLink RX5 7 "ColumnSeasonsModel" "now" "[I" ∈ wsX5_standards) rfl rfl ?_
                  refine y_aload_n X dX5_standards_88 0 rfl ?_
                  refine y_get X (61) 5 0 (Cn := RX5) (T := TX5) (N := 14) (index := 7) (v := .ref (E.2.1 (62))) dX5_standards_89 (by omega) m0 rfl (by decide) inX5 (by decide +kernel : Cond.fieldLink RX5 7 "ColumnSeasonsModel" "now" "[I" ∈ wsX5_standards) rfl rfl ?_
                  refine y_iconst X (v := (0)) dX5_standards_92 (by decide) ?_
                  refine y_iald X (62) dX5_standards_93 (by omega) h0 (j := 0) rfl (by omega) (by omega) (z := (nI (tn T))) g0 ?_
                  refine y_iconst X (v := (1)) dX5_standards_94 (by decide) ?_
                  refine y_isub X (z := (nI ((tn T) - (1)))) dX5_standards_95 (pk_sub (a := tn T) (b := 1) (by omega)) ?_
                  refine y_iload X dX5_standards_96 5 rfl ?_
                  refine y_callJr X (av := [.ref (E.2.1 (62)), .int (nI ((tn T) - (1))), .int (nI (j))]) [.int (tv T (a + k) (j)), .int y4] 3 (c_X5_standard (a := 62) (by omega) gT gv (q := (tn T) - (1)) (j := j) (by omega) (by omega)) gX5_standards_X5_standard rfl (by decide +kernel) rfl ⟨Nat.le_of_ble_eq_true rfl, Nat.le_of_ble_eq_true rfl⟩ ⟨Nat.zero_le _, Nat.zero_le _⟩ (Nat.le_of_ble_eq_true rfl) rfl dX5_standards_98 ?_
                  refine y_icmp_ne X 108 (¬ ((tv T (a + k) (j)) = (td T ((tn T) - (1)) (j)))) dX5_standards_101 (by decide) Iff.rfl (fun c_5 => ?_) (fun c_5 => ?_)
                  ·
                    refine y_iconst X (v := (0)) dX5_standards_108 (by decide) ?_
                    refine y_iadd X (z := (y4 + (0))) dX5_standards_109 rfl ?_
                    refine y_istore X [(4, .int (y4 + (0))), (0, .ref (E.2.1 (61))), (1, .int (nI (a))), (2, .int (nI (b0))), (3, .int (shN T a b0)), (5, .int (nI (j))), (6, .int (bI (dfJ T a b0 j))), (7, .int (nI (a + k)))] dX5_standards_110 (by decide) rfl ?_
                    refine y_iinc X [(7, .int (nI (a + k + 1))), (4, .int (y4 + (0))), (0, .ref (E.2.1 (61))), (1, .int (nI (a))), (2, .int (nI (b0))), (3, .int (shN T a b0)), (5, .int (nI (j))), (6, .int (bI (dfJ T a b0 j)))] dX5_standards_112 7 rfl (nI_1 _) (by decide) rfl ?_
                    refine y_goto X 60 dX5_standards_115 (by decide) ?_
                    refine y_pick [2, 3, 4, 5, 1, 6, 7, 0] [(0, .ref (E.2.1 (61))), (1, .int (nI (a))), (2, .int (nI (b0))), (3, .int (shN T a b0)), (4, .int (y4 + (0))), (5, .int (nI (j))), (6, .int (bI (dfJ T a b0 j))), (7, .int (nI (a + k + 1)))] rfl ?_
                    exact ih60 (k + 1) ((y4 + (0))) (by omega) (by omega) (by rw [gy, Int32.add_zero]; exact smx_zero (if_neg c_5)) (fun z9 => absurd c_4 z9)
                  ·
                    have c_5 := Decidable.of_not_not c_5
                    refine y_iconst X (v := (1)) dX5_standards_104 (by decide) ?_
                    refine y_goto X 109 dX5_standards_105 (by decide) ?_
                    refine y_iadd X (z := (y4 + (1))) dX5_standards_109 rfl ?_
                    refine y_istore X [(4, .int (y4 + (1))), (0, .ref (E.2.1 (61))), (1, .int (nI (a))), (2, .int (nI (b0))), (3, .int (shN T a b0)), (5, .int (nI (j))), (6, .int (bI (dfJ T a b0 j))), (7, .int (nI (a + k)))] dX5_standards_110 (by decide) rfl ?_
                    refine y_iinc X [(7, .int (nI (a + k + 1))), (4, .int (y4 + (1))), (0, .ref (E.2.1 (61))), (1, .int (nI (a))), (2, .int (nI (b0))), (3, .int (shN T a b0)), (5, .int (nI (j))), (6, .int (bI (dfJ T a b0 j)))] dX5_standards_112 7 rfl (nI_1 _) (by decide) rfl ?_
                    refine y_goto X 60 dX5_standards_115 (by decide) ?_
                    refine y_pick [2, 3, 4, 5, 1, 6, 7, 0] [(0, .ref (E.2.1 (61))), (1, .int (nI (a))), (2, .int (nI (b0))), (3, .int (shN T a b0)), (4, .int (y4 + (1))), (5, .int (nI (j))), (6, .int (bI (dfJ T a b0 j))), (7, .int (nI (a + k + 1)))] rfl ?_
                    exact ih60 (k + 1) ((y4 + (1))) (by omega) (by omega) (by rw [gy]; exact smx_pos (if_pos c_5)) (fun z9 => absurd c_4 z9)
          refine y_pick [2, 3, 4, 5, 6, 7, 1, 0] [(0, .ref (E.2.1 (61))), (1, .int (nI (a))), (2, .int (nI (b0))), (3, .int (shN T a b0)), (4, .int x4), (5, .int (nI (j))), (6, .int (bI (dfJ T a b0 j))), (7, .int (nI (a)))] rfl ?_
          exact L_60 _ (0) (x4) (Nat.lt_succ_self _) (by omega) (Int32.add_zero _).symm (fun _ => rfl)
        ·
          have c_2 := Decidable.of_not_not c_2
          have gk2 := WF_k gv (show tn T - 1 < tn T by omega) (show j < 8 by omega)
          refine y_aload_n X dX5_standards_30 0 rfl ?_
          refine y_get X (61) 5 0 (Cn := RX5) (T := TX5) (N := 14) (index := 7) (v := .ref (E.2.1 (62))) dX5_standards_31 (by omega) m0 rfl (by decide) inX5 (by decide +kernel : Cond.fieldLink RX5 7 "ColumnSeasonsModel" "now" "[I" ∈ wsX5_standards) rfl rfl ?_
          refine y_aload_n X dX5_standards_34 0 rfl ?_
          refine y_get X (61) 5 0 (Cn := RX5) (T := TX5) (N := 14) (index := 7) (v := .ref (E.2.1 (62))) dX5_standards_35 (by omega) m0 rfl (by decide) inX5 (by decide +kernel : Cond.fieldLink RX5 7 "ColumnSeasonsModel" "now" "[I" ∈ wsX5_standards) rfl rfl ?_
          refine y_iconst X (v := (0)) dX5_standards_38 (by decide) ?_
          refine y_iald X (62) dX5_standards_39 (by omega) h0 (j := 0) rfl (by omega) (by omega) (z := (nI (tn T))) g0 ?_
          refine y_iconst X (v := (1)) dX5_standards_40 (by decide) ?_
          refine y_isub X (z := (nI ((tn T) - (1)))) dX5_standards_41 (pk_sub (a := tn T) (b := 1) (by omega)) ?_
          refine y_iload X dX5_standards_42 5 rfl ?_
          refine y_callJr X (av := [.ref (E.2.1 (62)), .int (nI ((tn T) - (1))), .int (nI (j))]) [] 3 (c_X5_kindOf (a := 62) (by omega) gT gv (q := (tn T) - (1)) (j := j) (by omega) (by omega)) gX5_standards_X5_kindOf rfl (by decide +kernel) rfl ⟨Nat.le_of_ble_eq_true rfl, Nat.le_of_ble_eq_true rfl⟩ ⟨Nat.zero_le _, Nat.zero_le _⟩ (Nat.le_of_ble_eq_true rfl) rfl dX5_standards_44 ?_
          refine y_if_lt X 54 ((tk T ((tn T) - (1)) (j)) = -1) dX5_standards_47 (by decide) (kltI (by first | exact gk1 | exact gk2)) (fun c_6 => ?_) (fun c_6 => ?_)
          ·
            refine y_iconst X (v := (0)) dX5_standards_54 (by decide) ?_
            have gfl : (0 : Int32) = bI (dfJ T a b0 j) := (bI_0 (P := dfJ T a b0 j) (fun z => z.2 c_6)).symm
            rw [gfl]
            refine y_istore X [(6, .int (bI (dfJ T a b0 j))), (0, .ref (E.2.1 (61))), (1, .int (nI (a))), (2, .int (nI (b0))), (3, .int (shN T a b0)), (4, .int x4), (5, .int (nI (j)))] dX5_standards_55 (by decide) rfl ?_
            refine y_iload_n X dX5_standards_57 2 rfl ?_
            refine y_istore X [(7, .int (nI (a))), (6, .int (bI (dfJ T a b0 j))), (0, .ref (E.2.1 (61))), (1, .int (nI (a))), (2, .int (nI (b0))), (3, .int (shN T a b0)), (4, .int x4), (5, .int (nI (j)))] dX5_standards_58 (by decide) rfl ?_
            have L_60 : ∀ (n : Nat) (k : Nat) (y4 : Int32), b0 + 1 - a - k < n → (k ≤ b0 + 1 - a) → (y4 = x4 + dfC T a j k) → (¬ dfJ T a b0 j → dfC T a j k = 0) → xY p l e ({ frames := 3, cells := 0, slots := 0, locals := 69 } : Room) s m args below meth c E (xA E) 8 0 0 (MQ below (xQ E (fun v C1 => v = some (.int (dfV T a b0)) ∧ C1 = C)) args s 0 0 (xA E)) C 60 [(0, .ref (E.2.1 (61))), (1, .int (nI (a))), (2, .int (nI (b0))), (3, .int (shN T a b0)), (4, .int y4), (5, .int (nI (j))), (6, .int (bI (dfJ T a b0 j))), (7, .int (nI (a + k)))] [] := by
              intro n60
              induction n60 with
              | zero => intro _ _ hm60; exact absurd hm60 (Nat.not_lt_zero _)
              | succ n60 ih60 =>
                intro k y4 hm60 gk gy gk0
                refine y_iload X dX5_standards_60 7 rfl ?_
                refine y_iload_n X dX5_standards_62 2 rfl ?_
                refine y_icmp_gt X 118 ((b0) < (a + k)) dX5_standards_63 (by decide) (nI_ltI (a := b0) (b := a + k) (by omega) (by omega)) (fun c_7 => ?_) (fun c_7 => ?_)
                ·
                  refine y_iinc X [(5, .int (nI (j + 1))), (0, .ref (E.2.1 (61))), (1, .int (nI (a))), (2, .int (nI (b0))), (3, .int (shN T a b0)), (4, .int y4), (6, .int (bI (dfJ T a b0 j))), (7, .int (nI (a + k)))] dX5_standards_118 5 rfl (nI_1 _) (by decide) rfl ?_
                  refine y_goto X 13 dX5_standards_121 (by decide) ?_
                  refine y_pick [1, 2, 3, 4, 5, 0] [(0, .ref (E.2.1 (61))), (1, .int (nI (a))), (2, .int (nI (b0))), (3, .int (shN T a b0)), (4, .int y4), (5, .int (nI (j + 1)))] rfl ?_
                  exact ih13 (j + 1) (y4) (by omega) (by omega) (by rw [gy, gx]; by_cases z9 : dfJ T a b0 j; rw [show k = b0 + 1 - a by omega]; exact sm_add (if_pos z9); rw [gk0 z9]; exact (Int32.add_zero _).trans (sm_zero (if_neg z9)))
                ·
                  refine y_iload X dX5_standards_66 6 rfl ?_
                  refine y_if_eq X 118 (¬ (dfJ T a b0 j)) dX5_standards_68 (by decide) bI_eq (fun c_8 => ?_) (fun c_8 => ?_)
                  ·
                    refine y_iinc X [(5, .int (nI (j + 1))), (0, .ref (E.2.1 (61))), (1, .int (nI (a))), (2, .int (nI (b0))), (3, .int (shN T a b0)), (4, .int y4), (6, .int (bI (dfJ T a b0 j))), (7, .int (nI (a + k)))] dX5_standards_118 5 rfl (nI_1 _) (by decide) rfl ?_
                    refine y_goto X 13 dX5_standards_121 (by decide) ?_
                    refine y_pick [1, 2, 3, 4, 5, 0] [(0, .ref (E.2.1 (61))), (1, .int (nI (a))), (2, .int (nI (b0))), (3, .int (shN T a b0)), (4, .int y4), (5, .int (nI (j + 1)))] rfl ?_
                    exact ih13 (j + 1) (y4) (by omega) (by omega) (by rw [gy, gx, gk0 c_8]; exact (Int32.add_zero _).trans (sm_zero (if_neg c_8)))
                  ·
                    have c_8 := Decidable.of_not_not c_8
                    have gpr : ¬ tk T (ts T (a + k)) j = -1 := shN_has (T := T) (a := a) (b := b0) (i := a + k) (by omega) (by omega) (by omega) c_8.1
                    refine y_iload X dX5_standards_71 4 rfl ?_
                    refine y_aload_n X dX5_standards_73 0 rfl ?_
                    refine y_get X (61) 5 0 (Cn := RX5) (T := TX5) (N := 14) (index := 7) (v := .ref (E.2.1 (62))) dX5_standards_74 (by omega) m0 rfl (by decide) inX5 (by decide +kernel : Cond.fieldLink RX5 7 "ColumnSeasonsModel" "now" "[I" ∈ wsX5_standards) rfl rfl ?_
                    refine y_iload X dX5_standards_77 7 rfl ?_
                    refine y_iload X dX5_standards_79 5 rfl ?_
                    refine y_callJr X (av := [.ref (E.2.1 (62)), .int (nI (a + k)), .int (nI (j))]) [.int y4] 3 (c_X5_valueOf (a := 62) (by omega) gT gv (i := a + k) (j := j) (by omega) (by omega) (by assumption)) gX5_standards_X5_valueOf rfl (by decide +kernel) rfl ⟨Nat.le_of_ble_eq_true rfl, Nat.le_of_ble_eq_true rfl⟩ ⟨Nat.zero_le _, Nat.zero_le _⟩ (Nat.le_of_ble_eq_true rfl) rfl dX5_standards_81 ?_
                    refine y_aload_n X dX5_standards_84 0 rfl ?_
                    refine y_get X (61) 5 0 (Cn := RX5) (T := TX5) (N := 14) (index := 7) (v := .ref (E.2.1 (62))) dX5_standards_85 (by omega) m0 rfl (by decide) inX5 (by decide +kernel : Cond.fieldLink RX5 7 "ColumnSeasonsModel" "now" "[I" ∈ wsX5_standards) rfl rfl ?_
                    refine y_aload_n X dX5_standards_88 0 rfl ?_
                    refine y_get X (61) 5 0 (Cn := RX5) (T := TX5) (N := 14) (index := 7) (v := .ref (E.2.1 (62))) dX5_standards_89 (by omega) m0 rfl (by decide) inX5 (by decide +kernel : Cond.fieldLink RX5 7 "ColumnSeasonsModel" "now" "[I" ∈ wsX5_standards) rfl rfl ?_
                    refine y_iconst X (v := (0)) dX5_standards_92 (by decide) ?_
                    refine y_iald X (62) dX5_standards_93 (by omega) h0 (j := 0) rfl (by omega) (by omega) (z := (nI (tn T))) g0 ?_
                    refine y_iconst X (v := (1)) dX5_standards_94 (by decide) ?_
                    refine y_isub X (z := (nI ((tn T) - (1)))) dX5_standards_95 (pk_sub (a := tn T) (b := 1) (by omega)) ?_
                    refine y_iload X dX5_standards_96 5 rfl ?_
                    refine y_callJr X (av := [.ref (E.2.1 (62)), .int (nI ((tn T) - (1))), .int (nI (j))]) [.int (tv T (a + k) (j)), .int y4] 3 (c_X5_standard (a := 62) (by omega) gT gv (q := (tn T) - (1)) (j := j) (by omega) (by omega)) gX5_standards_X5_standard rfl (by decide +kernel) rfl ⟨Nat.le_of_ble_eq_true rfl, Nat.le_of_ble_eq_true rfl⟩ ⟨Nat.zero_le _, Nat.zero_le _⟩ (Nat.le_of_ble_eq_true rfl) rfl dX5_standards_98 ?_
                    refine y_icmp_ne X 108 (¬ ((tv T (a + k) (j)) = (td T ((tn T) - (1)) (j)))) dX5_standards_101 (by decide) Iff.rfl (fun c_9 => ?_) (fun c_9 => ?_)
                    ·
                      refine y_iconst X (v := (0)) dX5_standards_108 (by decide) ?_
                      refine y_iadd X (z := (y4 + (0))) dX5_standards_109 rfl ?_
                      refine y_istore X [(4, .int (y4 + (0))), (0, .ref (E.2.1 (61))), (1, .int (nI (a))), (2, .int (nI (b0))), (3, .int (shN T a b0)), (5, .int (nI (j))), (6, .int (bI (dfJ T a b0 j))), (7, .int (nI (a + k)))] dX5_standards_110 (by decide) rfl ?_
                      refine y_iinc X [(7, .int (nI (a + k + 1))), (4, .int (y4 + (0))), (0, .ref (E.2.1 (61))), (1, .int (nI (a))), (2, .int (nI (b0))), (3, .int (shN T a b0)), (5, .int (nI (j))), (6, .int (bI (dfJ T a b0 j)))] dX5_standards_112 7 rfl (nI_1 _) (by decide) rfl ?_
                      refine y_goto X 60 dX5_standards_115 (by decide) ?_
                      refine y_pick [2, 3, 4, 5, 1, 6, 7, 0] [(0, .ref (E.2.1 (61))), (1, .int (nI (a))), (2, .int (nI (b0))), (3, .int (shN T a b0)), (4, .int (y4 + (0))), (5, .int (nI (j))), (6, .int (bI (dfJ T a b0 j))), (7, .int (nI (a + k + 1)))] rfl ?_
                      exact ih60 (k + 1) ((y4 + (0))) (by omega) (by omega) (by rw [gy, Int32.add_zero]; exact smx_zero (if_neg c_9)) (fun z9 => absurd c_8 z9)
                    ·
                      have c_9 := Decidable.of_not_not c_9
                      refine y_iconst X (v := (1)) dX5_standards_104 (by decide) ?_
                      refine y_goto X 109 dX5_standards_105 (by decide) ?_
                      refine y_iadd X (z := (y4 + (1))) dX5_standards_109 rfl ?_
                      refine y_istore X [(4, .int (y4 + (1))), (0, .ref (E.2.1 (61))), (1, .int (nI (a))), (2, .int (nI (b0))), (3, .int (shN T a b0)), (5, .int (nI (j))), (6, .int (bI (dfJ T a b0 j))), (7, .int (nI (a + k)))] dX5_standards_110 (by decide) rfl ?_
                      refine y_iinc X [(7, .int (nI (a + k + 1))), (4, .int (y4 + (1))), (0, .ref (E.2.1 (61))), (1, .int (nI (a))), (2, .int (nI (b0))), (3, .int (shN T a b0)), (5, .int (nI (j))), (6, .int (bI (dfJ T a b0 j)))] dX5_standards_112 7 rfl (nI_1 _) (by decide) rfl ?_
                      refine y_goto X 60 dX5_standards_115 (by decide) ?_
                      refine y_pick [2, 3, 4, 5, 1, 6, 7, 0] [(0, .ref (E.2.1 (61))), (1, .int (nI (a))), (2, .int (nI (b0))), (3, .int (shN T a b0)), (4, .int (y4 + (1))), (5, .int (nI (j))), (6, .int (bI (dfJ T a b0 j))), (7, .int (nI (a + k + 1)))] rfl ?_
                      exact ih60 (k + 1) ((y4 + (1))) (by omega) (by omega) (by rw [gy]; exact smx_pos (if_pos c_9)) (fun z9 => absurd c_8 z9)
            refine y_pick [2, 3, 4, 5, 6, 7, 1, 0] [(0, .ref (E.2.1 (61))), (1, .int (nI (a))), (2, .int (nI (b0))), (3, .int (shN T a b0)), (4, .int x4), (5, .int (nI (j))), (6, .int (bI (dfJ T a b0 j))), (7, .int (nI (a)))] rfl ?_
            exact L_60 _ (0) (x4) (Nat.lt_succ_self _) (by omega) (Int32.add_zero _).symm (fun _ => rfl)
          ·
            refine y_iconst X (v := (1)) dX5_standards_50 (by decide) ?_
            refine y_goto X 55 dX5_standards_51 (by decide) ?_
            have gfl : (1 : Int32) = bI (dfJ T a b0 j) := (bI_1 (P := dfJ T a b0 j) ⟨c_2, c_6⟩).symm
            rw [gfl]
            refine y_istore X [(6, .int (bI (dfJ T a b0 j))), (0, .ref (E.2.1 (61))), (1, .int (nI (a))), (2, .int (nI (b0))), (3, .int (shN T a b0)), (4, .int x4), (5, .int (nI (j)))] dX5_standards_55 (by decide) rfl ?_
            refine y_iload_n X dX5_standards_57 2 rfl ?_
            refine y_istore X [(7, .int (nI (a))), (6, .int (bI (dfJ T a b0 j))), (0, .ref (E.2.1 (61))), (1, .int (nI (a))), (2, .int (nI (b0))), (3, .int (shN T a b0)), (4, .int x4), (5, .int (nI (j)))] dX5_standards_58 (by decide) rfl ?_
            have L_60 : ∀ (n : Nat) (k : Nat) (y4 : Int32), b0 + 1 - a - k < n → (k ≤ b0 + 1 - a) → (y4 = x4 + dfC T a j k) → (¬ dfJ T a b0 j → dfC T a j k = 0) → xY p l e ({ frames := 3, cells := 0, slots := 0, locals := 69 } : Room) s m args below meth c E (xA E) 8 0 0 (MQ below (xQ E (fun v C1 => v = some (.int (dfV T a b0)) ∧ C1 = C)) args s 0 0 (xA E)) C 60 [(0, .ref (E.2.1 (61))), (1, .int (nI (a))), (2, .int (nI (b0))), (3, .int (shN T a b0)), (4, .int y4), (5, .int (nI (j))), (6, .int (bI (dfJ T a b0 j))), (7, .int (nI (a + k)))] [] := by
              intro n60
              induction n60 with
              | zero => intro _ _ hm60; exact absurd hm60 (Nat.not_lt_zero _)
              | succ n60 ih60 =>
                intro k y4 hm60 gk gy gk0
                refine y_iload X dX5_standards_60 7 rfl ?_
                refine y_iload_n X dX5_standards_62 2 rfl ?_
                refine y_icmp_gt X 118 ((b0) < (a + k)) dX5_standards_63 (by decide) (nI_ltI (a := b0) (b := a + k) (by omega) (by omega)) (fun c_10 => ?_) (fun c_10 => ?_)
                ·
                  refine y_iinc X [(5, .int (nI (j + 1))), (0, .ref (E.2.1 (61))), (1, .int (nI (a))), (2, .int (nI (b0))), (3, .int (shN T a b0)), (4, .int y4), (6, .int (bI (dfJ T a b0 j))), (7, .int (nI (a + k)))] dX5_standards_118 5 rfl (nI_1 _) (by decide) rfl ?_
                  refine y_goto X 13 dX5_standards_121 (by decide) ?_
                  refine y_pick [1, 2, 3, 4, 5, 0] [(0, .ref (E.2.1 (61))), (1, .int (nI (a))), (2, .int (nI (b0))), (3, .int (shN T a b0)), (4, .int y4), (5, .int (nI (j + 1)))] rfl ?_
                  exact ih13 (j + 1) (y4) (by omega) (by omega) (by rw [gy, gx]; by_cases z9 : dfJ T a b0 j; rw [show k = b0 + 1 - a by omega]; exact sm_add (if_pos z9); rw [gk0 z9]; exact (Int32.add_zero _).trans (sm_zero (if_neg z9)))
                ·
                  refine y_iload X dX5_standards_66 6 rfl ?_
                  refine y_if_eq X 118 (¬ (dfJ T a b0 j)) dX5_standards_68 (by decide) bI_eq (fun c_11 => ?_) (fun c_11 => ?_)
                  ·
                    refine y_iinc X [(5, .int (nI (j + 1))), (0, .ref (E.2.1 (61))), (1, .int (nI (a))), (2, .int (nI (b0))), (3, .int (shN T a b0)), (4, .int y4), (6, .int (bI (dfJ T a b0 j))), (7, .int (nI (a + k)))] dX5_standards_118 5 rfl (nI_1 _) (by decide) rfl ?_
                    refine y_goto X 13 dX5_standards_121 (by decide) ?_
                    refine y_pick [1, 2, 3, 4, 5, 0] [(0, .ref (E.2.1 (61))), (1, .int (nI (a))), (2, .int (nI (b0))), (3, .int (shN T a b0)), (4, .int y4), (5, .int (nI (j + 1)))] rfl ?_
                    exact ih13 (j + 1) (y4) (by omega) (by omega) (by rw [gy, gx, gk0 c_11]; exact (Int32.add_zero _).trans (sm_zero (if_neg c_11)))
                  ·
                    have c_11 := Decidable.of_not_not c_11
                    have gpr : ¬ tk T (ts T (a + k)) j = -1 := shN_has (T := T) (a := a) (b := b0) (i := a + k) (by omega) (by omega) (by omega) c_11.1
                    refine y_iload X dX5_standards_71 4 rfl ?_
                    refine y_aload_n X dX5_standards_73 0 rfl ?_
                    refine y_get X (61) 5 0 (Cn := RX5) (T := TX5) (N := 14) (index := 7) (v := .ref (E.2.1 (62))) dX5_standards_74 (by omega) m0 rfl (by decide) inX5 (by decide +kernel : Cond.fieldLink RX5 7 "ColumnSeasonsModel" "now" "[I" ∈ wsX5_standards) rfl rfl ?_
                    refine y_iload X dX5_standards_77 7 rfl ?_
                    refine y_iload X dX5_standards_79 5 rfl ?_
                    refine y_callJr X (av := [.ref (E.2.1 (62)), .int (nI (a + k)), .int (nI (j))]) [.int y4] 3 (c_X5_valueOf (a := 62) (by omega) gT gv (i := a + k) (j := j) (by omega) (by omega) (by assumption)) gX5_standards_X5_valueOf rfl (by decide +kernel) rfl ⟨Nat.le_of_ble_eq_true rfl, Nat.le_of_ble_eq_true rfl⟩ ⟨Nat.zero_le _, Nat.zero_le _⟩ (Nat.le_of_ble_eq_true rfl) rfl dX5_standards_81 ?_
                    refine y_aload_n X dX5_standards_84 0 rfl ?_
                    refine y_get X (61) 5 0 (Cn := RX5) (T := TX5) (N := 14) (index := 7) (v := .ref (E.2.1 (62))) dX5_standards_85 (by omega) m0 rfl (by decide) inX5 (by decide +kernel : Cond.fieldLink RX5 7 "ColumnSeasonsModel" "now" "[I" ∈ wsX5_standards) rfl rfl ?_
                    refine y_aload_n X dX5_standards_88 0 rfl ?_
                    refine y_get X (61) 5 0 (Cn := RX5) (T := TX5) (N := 14) (index := 7) (v := .ref (E.2.1 (62))) dX5_standards_89 (by omega) m0 rfl (by decide) inX5 (by decide +kernel : Cond.fieldLink RX5 7 "ColumnSeasonsModel" "now" "[I" ∈ wsX5_standards) rfl rfl ?_
                    refine y_iconst X (v := (0)) dX5_standards_92 (by decide) ?_
                    refine y_iald X (62) dX5_standards_93 (by omega) h0 (j := 0) rfl (by omega) (by omega) (z := (nI (tn T))) g0 ?_
                    refine y_iconst X (v := (1)) dX5_standards_94 (by decide) ?_
                    refine y_isub X (z := (nI ((tn T) - (1)))) dX5_standards_95 (pk_sub (a := tn T) (b := 1) (by omega)) ?_
                    refine y_iload X dX5_standards_96 5 rfl ?_
                    refine y_callJr X (av := [.ref (E.2.1 (62)), .int (nI ((tn T) - (1))), .int (nI (j))]) [.int (tv T (a + k) (j)), .int y4] 3 (c_X5_standard (a := 62) (by omega) gT gv (q := (tn T) - (1)) (j := j) (by omega) (by omega)) gX5_standards_X5_standard rfl (by decide +kernel) rfl ⟨Nat.le_of_ble_eq_true rfl, Nat.le_of_ble_eq_true rfl⟩ ⟨Nat.zero_le _, Nat.zero_le _⟩ (Nat.le_of_ble_eq_true rfl) rfl dX5_standards_98 ?_
                    refine y_icmp_ne X 108 (¬ ((tv T (a + k) (j)) = (td T ((tn T) - (1)) (j)))) dX5_standards_101 (by decide) Iff.rfl (fun c_12 => ?_) (fun c_12 => ?_)
                    ·
                      refine y_iconst X (v := (0)) dX5_standards_108 (by decide) ?_
                      refine y_iadd X (z := (y4 + (0))) dX5_standards_109 rfl ?_
                      refine y_istore X [(4, .int (y4 + (0))), (0, .ref (E.2.1 (61))), (1, .int (nI (a))), (2, .int (nI (b0))), (3, .int (shN T a b0)), (5, .int (nI (j))), (6, .int (bI (dfJ T a b0 j))), (7, .int (nI (a + k)))] dX5_standards_110 (by decide) rfl ?_
                      refine y_iinc X [(7, .int (nI (a + k + 1))), (4, .int (y4 + (0))), (0, .ref (E.2.1 (61))), (1, .int (nI (a))), (2, .int (nI (b0))), (3, .int (shN T a b0)), (5, .int (nI (j))), (6, .int (bI (dfJ T a b0 j)))] dX5_standards_112 7 rfl (nI_1 _) (by decide) rfl ?_
                      refine y_goto X 60 dX5_standards_115 (by decide) ?_
                      refine y_pick [2, 3, 4, 5, 1, 6, 7, 0] [(0, .ref (E.2.1 (61))), (1, .int (nI (a))), (2, .int (nI (b0))), (3, .int (shN T a b0)), (4, .int (y4 + (0))), (5, .int (nI (j))), (6, .int (bI (dfJ T a b0 j))), (7, .int (nI (a + k + 1)))] rfl ?_
                      exact ih60 (k + 1) ((y4 + (0))) (by omega) (by omega) (by rw [gy, Int32.add_zero]; exact smx_zero (if_neg c_12)) (fun z9 => absurd c_11 z9)
                    ·
                      have c_12 := Decidable.of_not_not c_12
                      refine y_iconst X (v := (1)) dX5_standards_104 (by decide) ?_
                      refine y_goto X 109 dX5_standards_105 (by decide) ?_
                      refine y_iadd X (z := (y4 + (1))) dX5_standards_109 rfl ?_
                      refine y_istore X [(4, .int (y4 + (1))), (0, .ref (E.2.1 (61))), (1, .int (nI (a))), (2, .int (nI (b0))), (3, .int (shN T a b0)), (5, .int (nI (j))), (6, .int (bI (dfJ T a b0 j))), (7, .int (nI (a + k)))] dX5_standards_110 (by decide) rfl ?_
                      refine y_iinc X [(7, .int (nI (a + k + 1))), (4, .int (y4 + (1))), (0, .ref (E.2.1 (61))), (1, .int (nI (a))), (2, .int (nI (b0))), (3, .int (shN T a b0)), (5, .int (nI (j))), (6, .int (bI (dfJ T a b0 j)))] dX5_standards_112 7 rfl (nI_1 _) (by decide) rfl ?_
                      refine y_goto X 60 dX5_standards_115 (by decide) ?_
                      refine y_pick [2, 3, 4, 5, 1, 6, 7, 0] [(0, .ref (E.2.1 (61))), (1, .int (nI (a))), (2, .int (nI (b0))), (3, .int (shN T a b0)), (4, .int (y4 + (1))), (5, .int (nI (j))), (6, .int (bI (dfJ T a b0 j))), (7, .int (nI (a + k + 1)))] rfl ?_
                      exact ih60 (k + 1) ((y4 + (1))) (by omega) (by omega) (by rw [gy]; exact smx_pos (if_pos c_12)) (fun z9 => absurd c_11 z9)
            refine y_pick [2, 3, 4, 5, 6, 7, 1, 0] [(0, .ref (E.2.1 (61))), (1, .int (nI (a))), (2, .int (nI (b0))), (3, .int (shN T a b0)), (4, .int x4), (5, .int (nI (j))), (6, .int (bI (dfJ T a b0 j))), (7, .int (nI (a)))] rfl ?_
            exact L_60 _ (0) (x4) (Nat.lt_succ_self _) (by omega) (Int32.add_zero _).symm (fun _ => rfl)
  refine y_pick [3, 4, 5, 2, 1, 0] [(0, .ref (E.2.1 (61))), (1, .int (nI (a))), (2, .int (nI (b0))), (3, .int (shN T (a) (b0))), (4, .int (0)), (5, .int (0))] rfl ?_
  exact L_13 _ (0) (0) (Nat.lt_succ_self _) (by omega) rfl

set_option maxRecDepth 100000 in
set_option maxHeartbeats 4000000 in
theorem c_X5_widest {l : Launch} {E : xE} {C : xC} {kp fl ty pa va so se tl : Int32} (m0 : C (61) = .inr (5, [.ref (E.2.1 (62)), .ref (E.2.1 (63)), .ref (E.2.1 (64)), .int kp, .ref (E.2.1 (65)), .int fl, .ref (E.2.1 (66)), .int ty, .int pa, .int va, .int so, .int se, .ref (E.2.1 (67)), .int tl])) {T : Tb} (gT : RM E C 62 T) (gv : WF T) {a b0 j : Nat} (ga : a < tr T) (gz : b0 < tr T) (gj : j < 8) : xR E l yX5_widest wsX5_widest 2 44 [.ref (E.2.1 (61)), .int (nI (a)), .int (nI (b0)), .int (nI (j))] C (wdt T a j (b0 + 1 - a)) := by
  obtain ⟨zf, h0, g0, g1, gK, gD, gS, gV⟩ := id gT
  obtain ⟨gw1, gw2, gw3, gw4⟩ := id gv.1
  refine xM_ofY (cc := cX5_widest) (maxL := 6) (ret := (some .int)) (by decide) rfl (Nat.le_of_ble_eq_true rfl) ?_
  intro p e s m args below meth c X hr
  have inX5 : ∀ w ∈ wsX50, w ∈ wsX5_widest := by decide +kernel
  refine y_lv [(0, .ref (E.2.1 (61))), (1, .int (nI (a))), (2, .int (nI (b0))), (3, .int (nI (j)))] rfl ?_
  refine y_iconst X (v := (0)) dX5_widest_0 (by decide) ?_
  refine y_istore X [(4, .int (0)), (0, .ref (E.2.1 (61))), (1, .int (nI (a))), (2, .int (nI (b0))), (3, .int (nI (j)))] dX5_widest_1 (by decide) rfl ?_
  refine y_iload_n X dX5_widest_3 2 rfl ?_
  refine y_istore X [(5, .int (nI (a))), (4, .int (0)), (0, .ref (E.2.1 (61))), (1, .int (nI (a))), (2, .int (nI (b0))), (3, .int (nI (j)))] dX5_widest_4 (by decide) rfl ?_
  have L_6 : ∀ (n : Nat) (k : Nat) (x4 : Int32), b0 + 1 - a - k < n → (k ≤ b0 + 1 - a) → (x4 = wdt T a j k) → xY p l e ({ frames := 2, cells := 0, slots := 0, locals := 44 } : Room) s m args below meth c E (xA E) 6 0 0 (MQ below (xQ E (fun v C1 => v = some (.int (wdt T a j (b0 + 1 - a))) ∧ C1 = C)) args s 0 0 (xA E)) C 6 [(0, .ref (E.2.1 (61))), (1, .int (nI (a))), (2, .int (nI (b0))), (3, .int (nI (j))), (4, .int x4), (5, .int (nI (a + k)))] [] := by
    intro n6
    induction n6 with
    | zero => intro _ _ hm6; exact absurd hm6 (Nat.not_lt_zero _)
    | succ n6 ih6 =>
      intro k x4 hm6 gk gx
      refine y_iload X dX5_widest_6 5 rfl ?_
      refine y_iload_n X dX5_widest_8 2 rfl ?_
      refine y_icmp_gt X 50 ((b0) < (a + k)) dX5_widest_9 (by decide) (nI_ltI (a := b0) (b := a + k) (by omega) (by omega)) (fun c_1 => ?_) (fun c_1 => ?_)
      ·
        refine y_iload X dX5_widest_50 4 rfl ?_
        exact y_iret X hr dX5_widest_52 rfl ⟨by rw [gx, show k = b0 + 1 - a by omega], rfl⟩
      ·
        refine y_aload_n X dX5_widest_12 0 rfl ?_
        refine y_get X (61) 5 0 (Cn := RX5) (T := TX5) (N := 14) (index := 7) (v := .ref (E.2.1 (62))) dX5_widest_13 (by omega) m0 rfl (by decide) inX5 (by decide +kernel : Cond.fieldLink RX5 7 "ColumnSeasonsModel" "now" "[I" ∈ wsX5_widest) rfl rfl ?_
        refine y_iload X dX5_widest_16 5 rfl ?_
        refine y_iload_n X dX5_widest_18 3 rfl ?_
        refine y_callJr X (av := [.ref (E.2.1 (62)), .int (nI (a + k)), .int (nI (j))]) [] 3 (c_X5_kindIn (a := 62) (by omega) gT gv (i := a + k) (j := j) (by omega) (by omega)) gX5_widest_X5_kindIn rfl (by decide +kernel) rfl ⟨Nat.le_of_ble_eq_true rfl, Nat.le_of_ble_eq_true rfl⟩ ⟨Nat.zero_le _, Nat.zero_le _⟩ (Nat.le_of_ble_eq_true rfl) rfl dX5_widest_19 ?_
        refine y_iload X dX5_widest_22 4 rfl ?_
        refine y_icmp_le X 40 ((tk T (ts T (a + k)) (j)) ≤ x4) dX5_widest_24 (by decide) Iff.rfl (fun c_2 => ?_) (fun c_2 => ?_)
        ·
          refine y_iload X dX5_widest_40 4 rfl ?_
          refine y_istore X [(4, .int x4), (0, .ref (E.2.1 (61))), (1, .int (nI (a))), (2, .int (nI (b0))), (3, .int (nI (j))), (5, .int (nI (a + k)))] dX5_widest_42 (by decide) rfl ?_
          refine y_iinc X [(5, .int (nI (a + k + 1))), (4, .int x4), (0, .ref (E.2.1 (61))), (1, .int (nI (a))), (2, .int (nI (b0))), (3, .int (nI (j)))] dX5_widest_44 5 rfl (nI_1 _) (by decide) rfl ?_
          refine y_goto X 6 dX5_widest_47 (by decide) ?_
          refine y_pick [2, 3, 4, 5, 1, 0] [(0, .ref (E.2.1 (61))), (1, .int (nI (a))), (2, .int (nI (b0))), (3, .int (nI (j))), (4, .int x4), (5, .int (nI (a + k + 1)))] rfl ?_
          exact ih6 (k + 1) (x4) (by omega) (by omega) (by rw [wdt, i32max, ← gx, if_neg (Int32.not_lt.mpr c_2)])
        ·
          refine y_aload_n X dX5_widest_27 0 rfl ?_
          refine y_get X (61) 5 0 (Cn := RX5) (T := TX5) (N := 14) (index := 7) (v := .ref (E.2.1 (62))) dX5_widest_28 (by omega) m0 rfl (by decide) inX5 (by decide +kernel : Cond.fieldLink RX5 7 "ColumnSeasonsModel" "now" "[I" ∈ wsX5_widest) rfl rfl ?_
          refine y_iload X dX5_widest_31 5 rfl ?_
          refine y_iload_n X dX5_widest_33 3 rfl ?_
          refine y_callJr X (av := [.ref (E.2.1 (62)), .int (nI (a + k)), .int (nI (j))]) [] 3 (c_X5_kindIn (a := 62) (by omega) gT gv (i := a + k) (j := j) (by omega) (by omega)) gX5_widest_X5_kindIn rfl (by decide +kernel) rfl ⟨Nat.le_of_ble_eq_true rfl, Nat.le_of_ble_eq_true rfl⟩ ⟨Nat.zero_le _, Nat.zero_le _⟩ (Nat.le_of_ble_eq_true rfl) rfl dX5_widest_34 ?_
          refine y_goto X 42 dX5_widest_37 (by decide) ?_
          refine y_istore X [(4, .int (tk T (ts T (a + k)) (j))), (0, .ref (E.2.1 (61))), (1, .int (nI (a))), (2, .int (nI (b0))), (3, .int (nI (j))), (5, .int (nI (a + k)))] dX5_widest_42 (by decide) rfl ?_
          refine y_iinc X [(5, .int (nI (a + k + 1))), (4, .int (tk T (ts T (a + k)) (j))), (0, .ref (E.2.1 (61))), (1, .int (nI (a))), (2, .int (nI (b0))), (3, .int (nI (j)))] dX5_widest_44 5 rfl (nI_1 _) (by decide) rfl ?_
          refine y_goto X 6 dX5_widest_47 (by decide) ?_
          refine y_pick [2, 3, 4, 5, 1, 0] [(0, .ref (E.2.1 (61))), (1, .int (nI (a))), (2, .int (nI (b0))), (3, .int (nI (j))), (4, .int (tk T (ts T (a + k)) (j))), (5, .int (nI (a + k + 1)))] rfl ?_
          exact ih6 (k + 1) ((tk T (ts T (a + k)) (j))) (by omega) (by omega) (by rw [wdt, i32max, ← gx, if_pos (Int32.not_le.mp c_2)])
  refine y_pick [2, 3, 4, 5, 1, 0] [(0, .ref (E.2.1 (61))), (1, .int (nI (a))), (2, .int (nI (b0))), (3, .int (nI (j))), (4, .int (0)), (5, .int (nI (a)))] rfl ?_
  exact L_6 _ (0) (0) (Nat.lt_succ_self _) (by omega) rfl

set_option maxRecDepth 100000 in
set_option maxHeartbeats 4000000 in
theorem c_X5_isOld {l : Launch} {E : xE} {C : xC} {kp fl ty pa va so se tl : Int32} (m0 : C (61) = .inr (5, [.ref (E.2.1 (62)), .ref (E.2.1 (63)), .ref (E.2.1 (64)), .int kp, .ref (E.2.1 (65)), .int fl, .ref (E.2.1 (66)), .int ty, .int pa, .int va, .int so, .int se, .ref (E.2.1 (67)), .int tl])) {T : Tb} (gT : RM E C 62 T) (gv : WF T) {a i j : Nat} (ga : a ≤ i) (gz : i < tr T) (gj : j < 8) (gh : ∀ r : Nat, a ≤ r → r ≤ i → ¬ tk T (ts T r) j = -1) : xR E l yX5_isOld wsX5_isOld 1 22 [.ref (E.2.1 (61)), .int (nI (a)), .int (nI (i)), .int (nI (j))] C (bI (¬ fstV T a j i)) := by
  obtain ⟨zf, h0, g0, g1, gK, gD, gS, gV⟩ := id gT
  obtain ⟨gw1, gw2, gw3, gw4⟩ := id gv.1
  refine xM_ofY (cc := cX5_isOld) (maxL := 6) (ret := (some .boolean)) (by decide) rfl (Nat.le_of_ble_eq_true rfl) ?_
  intro p e s m args below meth c X hr
  have inX5 : ∀ w ∈ wsX50, w ∈ wsX5_isOld := by decide +kernel
  refine y_lv [(0, .ref (E.2.1 (61))), (1, .int (nI (a))), (2, .int (nI (i))), (3, .int (nI (j)))] rfl ?_
  refine y_iconst X (v := (0)) dX5_isOld_0 (by decide) ?_
  refine y_istore X [(4, .int (0)), (0, .ref (E.2.1 (61))), (1, .int (nI (a))), (2, .int (nI (i))), (3, .int (nI (j)))] dX5_isOld_1 (by decide) rfl ?_
  refine y_iload_n X dX5_isOld_3 2 rfl ?_
  refine y_istore X [(5, .int (nI (a))), (4, .int (0)), (0, .ref (E.2.1 (61))), (1, .int (nI (a))), (2, .int (nI (i))), (3, .int (nI (j)))] dX5_isOld_4 (by decide) rfl ?_
  have L_6 : ∀ (n : Nat) (k : Nat) (x4 : Int32), i - (a + k) < n → (a + k ≤ i) → (x4 = bI (oldV T a j i k)) → xY p l e ({ frames := 1, cells := 0, slots := 0, locals := 22 } : Room) s m args below meth c E (xA E) 6 0 0 (MQ below (xQ E (fun v C1 => v = some (.int (bI (¬ fstV T a j i))) ∧ C1 = C)) args s 0 0 (xA E)) C 6 [(0, .ref (E.2.1 (61))), (1, .int (nI (a))), (2, .int (nI (i))), (3, .int (nI (j))), (4, .int x4), (5, .int (nI (a + k)))] [] := by
    intro n6
    induction n6 with
    | zero => intro _ _ hm6; exact absurd hm6 (Nat.not_lt_zero _)
    | succ n6 ih6 =>
      intro k x4 hm6 gk gx
      refine y_iload X dX5_isOld_6 5 rfl ?_
      refine y_iload_n X dX5_isOld_8 2 rfl ?_
      refine y_icmp_ge X 52 ((i) ≤ (a + k)) dX5_isOld_9 (by decide) (nI_leI (a := i) (b := a + k) (by omega) (by omega)) (fun c_1 => ?_) (fun c_1 => ?_)
      ·
        refine y_iload X dX5_isOld_52 4 rfl ?_
        exact y_zret X hr (by rw [gx]; exact bI_nar) dX5_isOld_54 rfl ⟨by rw [gx, show k = i - a by omega], rfl⟩
      ·
        refine y_iload X dX5_isOld_12 4 rfl ?_
        refine y_if_ne X 39 (oldV T a j i k) dX5_isOld_14 (by decide) (by rw [gx]; exact bI_ne) (fun c_2 => ?_) (fun c_2 => ?_)
        ·
          refine y_iconst X (v := (1)) dX5_isOld_39 (by decide) ?_
          refine y_goto X 44 dX5_isOld_40 (by decide) ?_
          refine y_istore X [(4, .int (1)), (0, .ref (E.2.1 (61))), (1, .int (nI (a))), (2, .int (nI (i))), (3, .int (nI (j))), (5, .int (nI (a + k)))] dX5_isOld_44 (by decide) rfl ?_
          refine y_iinc X [(5, .int (nI (a + k + 1))), (4, .int (1)), (0, .ref (E.2.1 (61))), (1, .int (nI (a))), (2, .int (nI (i))), (3, .int (nI (j)))] dX5_isOld_46 5 rfl (nI_1 _) (by decide) rfl ?_
          refine y_goto X 6 dX5_isOld_49 (by decide) ?_
          refine y_pick [2, 3, 4, 5, 1, 0] [(0, .ref (E.2.1 (61))), (1, .int (nI (a))), (2, .int (nI (i))), (3, .int (nI (j))), (4, .int (1)), (5, .int (nI (a + k + 1)))] rfl ?_
          exact ih6 (k + 1) ((1)) (by omega) (by omega) (bI_1 (P := oldV T a j i (k + 1)) (fun z => c_2 (fun z1 z2 => z z1 (by omega)))).symm
        ·
          have gpr := gh (a + k) (by omega) (by omega)
          have gpr2 := gh i (by omega) (by omega)
          refine y_aload_n X dX5_isOld_17 0 rfl ?_
          refine y_get X (61) 5 0 (Cn := RX5) (T := TX5) (N := 14) (index := 7) (v := .ref (E.2.1 (62))) dX5_isOld_18 (by omega) m0 rfl (by decide) inX5 (by decide +kernel : Cond.fieldLink RX5 7 "ColumnSeasonsModel" "now" "[I" ∈ wsX5_isOld) rfl rfl ?_
          refine y_iload X dX5_isOld_21 5 rfl ?_
          refine y_iload_n X dX5_isOld_23 3 rfl ?_
          refine y_callJr X (av := [.ref (E.2.1 (62)), .int (nI (a + k)), .int (nI (j))]) [] 3 (c_X5_valueOf (a := 62) (by omega) gT gv (i := a + k) (j := j) (by omega) (by omega) (by assumption)) gX5_isOld_X5_valueOf rfl (by decide +kernel) rfl ⟨Nat.le_of_ble_eq_true rfl, Nat.le_of_ble_eq_true rfl⟩ ⟨Nat.zero_le _, Nat.zero_le _⟩ (Nat.le_of_ble_eq_true rfl) rfl dX5_isOld_24 ?_
          refine y_aload_n X dX5_isOld_27 0 rfl ?_
          refine y_get X (61) 5 0 (Cn := RX5) (T := TX5) (N := 14) (index := 7) (v := .ref (E.2.1 (62))) dX5_isOld_28 (by omega) m0 rfl (by decide) inX5 (by decide +kernel : Cond.fieldLink RX5 7 "ColumnSeasonsModel" "now" "[I" ∈ wsX5_isOld) rfl rfl ?_
          refine y_iload_n X dX5_isOld_31 2 rfl ?_
          refine y_iload_n X dX5_isOld_32 3 rfl ?_
          refine y_callJr X (av := [.ref (E.2.1 (62)), .int (nI (i)), .int (nI (j))]) [.int (tv T (a + k) (j))] 3 (c_X5_valueOf (a := 62) (by omega) gT gv (i := i) (j := j) (by omega) (by omega) (by assumption)) gX5_isOld_X5_valueOf rfl (by decide +kernel) rfl ⟨Nat.le_of_ble_eq_true rfl, Nat.le_of_ble_eq_true rfl⟩ ⟨Nat.zero_le _, Nat.zero_le _⟩ (Nat.le_of_ble_eq_true rfl) rfl dX5_isOld_33 ?_
          refine y_icmp_ne X 43 (¬ ((tv T (a + k) (j)) = (tv T (i) (j)))) dX5_isOld_36 (by decide) Iff.rfl (fun c_3 => ?_) (fun c_3 => ?_)
          ·
            refine y_iconst X (v := (0)) dX5_isOld_43 (by decide) ?_
            refine y_istore X [(4, .int (0)), (0, .ref (E.2.1 (61))), (1, .int (nI (a))), (2, .int (nI (i))), (3, .int (nI (j))), (5, .int (nI (a + k)))] dX5_isOld_44 (by decide) rfl ?_
            refine y_iinc X [(5, .int (nI (a + k + 1))), (4, .int (0)), (0, .ref (E.2.1 (61))), (1, .int (nI (a))), (2, .int (nI (i))), (3, .int (nI (j)))] dX5_isOld_46 5 rfl (nI_1 _) (by decide) rfl ?_
            refine y_goto X 6 dX5_isOld_49 (by decide) ?_
            refine y_pick [2, 3, 4, 5, 1, 0] [(0, .ref (E.2.1 (61))), (1, .int (nI (a))), (2, .int (nI (i))), (3, .int (nI (j))), (4, .int (0)), (5, .int (nI (a + k + 1)))] rfl ?_
            exact ih6 (k + 1) ((0)) (by omega) (by omega) (bI_0 (P := oldV T a j i (k + 1)) (fun z => z (fun z1 z2 => by rcases Nat.lt_or_ge z1 k with q3 | q3; exact (Decidable.of_not_not c_2) z1 q3; rw [show z1 = k by omega]; exact c_3))).symm
          ·
            have c_3 := Decidable.of_not_not c_3
            refine y_iconst X (v := (1)) dX5_isOld_39 (by decide) ?_
            refine y_goto X 44 dX5_isOld_40 (by decide) ?_
            refine y_istore X [(4, .int (1)), (0, .ref (E.2.1 (61))), (1, .int (nI (a))), (2, .int (nI (i))), (3, .int (nI (j))), (5, .int (nI (a + k)))] dX5_isOld_44 (by decide) rfl ?_
            refine y_iinc X [(5, .int (nI (a + k + 1))), (4, .int (1)), (0, .ref (E.2.1 (61))), (1, .int (nI (a))), (2, .int (nI (i))), (3, .int (nI (j)))] dX5_isOld_46 5 rfl (nI_1 _) (by decide) rfl ?_
            refine y_goto X 6 dX5_isOld_49 (by decide) ?_
            refine y_pick [2, 3, 4, 5, 1, 0] [(0, .ref (E.2.1 (61))), (1, .int (nI (a))), (2, .int (nI (i))), (3, .int (nI (j))), (4, .int (1)), (5, .int (nI (a + k + 1)))] rfl ?_
            exact ih6 (k + 1) ((1)) (by omega) (by omega) (bI_1 (P := oldV T a j i (k + 1)) (fun z => z k (by omega) c_3)).symm
  refine y_pick [2, 3, 4, 5, 1, 0] [(0, .ref (E.2.1 (61))), (1, .int (nI (a))), (2, .int (nI (i))), (3, .int (nI (j))), (4, .int (0)), (5, .int (nI (a)))] rfl ?_
  exact L_6 _ (0) (0) (Nat.lt_succ_self _) (by omega) (bI_0 (P := oldV T a j i 0) (fun z => z (fun _ q => absurd q (Nat.not_lt_zero _)))).symm

set_option maxRecDepth 100000 in
set_option maxHeartbeats 4000000 in
theorem c_X5_allLosses {l : Launch} {E : xE} {C : xC} {kp fl ty pa va so se tl : Int32} (m0 : C (61) = .inr (5, [.ref (E.2.1 (62)), .ref (E.2.1 (63)), .ref (E.2.1 (64)), .int kp, .ref (E.2.1 (65)), .int fl, .ref (E.2.1 (66)), .int ty, .int pa, .int va, .int so, .int se, .ref (E.2.1 (67)), .int tl])) {T : Tb} (gT : RM E C 62 T) (gv : WF T) {q : Nat} (gq : q < tn T) : xR E l yX5_allLosses wsX5_allLosses 4 93 [.ref (E.2.1 (61)), .int (nI (q))] C (lsA T q) := by
  obtain ⟨zf, h0, g0, g1, gK, gD, gS, gV⟩ := id gT
  obtain ⟨gw1, gw2, gw3, gw4⟩ := id gv.1
  refine xM_ofY (cc := cX5_allLosses) (maxL := 4) (ret := (some .int)) (by decide) rfl (Nat.le_of_ble_eq_true rfl) ?_
  intro p e s m args below meth c X hr
  have inX5 : ∀ w ∈ wsX50, w ∈ wsX5_allLosses := by decide +kernel
  refine y_lv [(0, .ref (E.2.1 (61))), (1, .int (nI (q)))] rfl ?_
  refine y_iconst X (v := (0)) dX5_allLosses_0 (by decide) ?_
  refine y_istore_n X [(2, .int (0)), (0, .ref (E.2.1 (61))), (1, .int (nI (q)))] dX5_allLosses_1 rfl (by decide) rfl ?_
  refine y_iconst X (v := (0)) dX5_allLosses_2 (by decide) ?_
  refine y_istore_n X [(3, .int (0)), (2, .int (0)), (0, .ref (E.2.1 (61))), (1, .int (nI (q)))] dX5_allLosses_3 rfl (by decide) rfl ?_
  have L_4 : ∀ (n : Nat) (j : Nat) (x2 : Int32), tr T - j < n → (j ≤ tr T) → (x2 = sm (fun i => lsR T q i) j) → xY p l e ({ frames := 4, cells := 0, slots := 0, locals := 93 } : Room) s m args below meth c E (xA E) 4 0 0 (MQ below (xQ E (fun v C1 => v = some (.int (lsA T q)) ∧ C1 = C)) args s 0 0 (xA E)) C 4 [(0, .ref (E.2.1 (61))), (1, .int (nI (q))), (2, .int x2), (3, .int (nI (j)))] [] := by
    intro n4
    induction n4 with
    | zero => intro _ _ hm4; exact absurd hm4 (Nat.not_lt_zero _)
    | succ n4 ih4 =>
      intro j x2 hm4 gj gx
      refine y_iload_n X dX5_allLosses_4 3 rfl ?_
      refine y_aload_n X dX5_allLosses_5 0 rfl ?_
      refine y_get X (61) 5 0 (Cn := RX5) (T := TX5) (N := 14) (index := 7) (v := .ref (E.2.1 (62))) dX5_allLosses_6 (by omega) m0 rfl (by decide) inX5 (by decide +kernel : Cond.fieldLink RX5 7 "ColumnSeasonsModel" "now" "[I" ∈ wsX5_allLosses) rfl rfl ?_
      refine y_iconst X (v := (1)) dX5_allLosses_9 (by decide) ?_
      refine y_iald X (62) dX5_allLosses_10 (by omega) h0 (j := 1) rfl (by omega) (by omega) (z := (nI (tr T))) g1 ?_
      refine y_icmp_ge X 32 ((tr T) ≤ (j)) dX5_allLosses_11 (by decide) (nI_leI (a := tr T) (b := j) (by omega) (by omega)) (fun c_1 => ?_) (fun c_1 => ?_)
      ·
        refine y_iload_n X dX5_allLosses_32 2 rfl ?_
        exact y_iret X hr dX5_allLosses_33 rfl ⟨by rw [gx, show j = tr T by omega]; rfl, rfl⟩
      ·
        refine y_iload_n X dX5_allLosses_14 2 rfl ?_
        refine y_aload_n X dX5_allLosses_15 0 rfl ?_
        refine y_get X (61) 5 0 (Cn := RX5) (T := TX5) (N := 14) (index := 7) (v := .ref (E.2.1 (62))) dX5_allLosses_16 (by omega) m0 rfl (by decide) inX5 (by decide +kernel : Cond.fieldLink RX5 7 "ColumnSeasonsModel" "now" "[I" ∈ wsX5_allLosses) rfl rfl ?_
        refine y_iload_n X dX5_allLosses_19 3 rfl ?_
        refine y_iload_n X dX5_allLosses_20 1 rfl ?_
        refine y_callJr X (av := [.ref (E.2.1 (62)), .int (nI (j)), .int (nI (q))]) [.int x2] 3 (c_X5_losses (a := 62) (by omega) gT gv (i := j) (q := q) (by omega) (by omega)) gX5_allLosses_X5_losses rfl (by decide +kernel) rfl ⟨Nat.le_of_ble_eq_true rfl, Nat.le_of_ble_eq_true rfl⟩ ⟨Nat.zero_le _, Nat.zero_le _⟩ (Nat.le_of_ble_eq_true rfl) rfl dX5_allLosses_21 ?_
        refine y_iadd X (z := (x2 + (lsR T (q) (j)))) dX5_allLosses_24 rfl ?_
        refine y_istore_n X [(2, .int (x2 + (lsR T (q) (j)))), (0, .ref (E.2.1 (61))), (1, .int (nI (q))), (3, .int (nI (j)))] dX5_allLosses_25 rfl (by decide) rfl ?_
        refine y_iinc X [(3, .int (nI (j + 1))), (2, .int (x2 + (lsR T (q) (j)))), (0, .ref (E.2.1 (61))), (1, .int (nI (q)))] dX5_allLosses_26 3 rfl (nI_1 _) (by decide) rfl ?_
        refine y_goto X 4 dX5_allLosses_29 (by decide) ?_
        refine y_pick [2, 3, 1, 0] [(0, .ref (E.2.1 (61))), (1, .int (nI (q))), (2, .int (x2 + (lsR T (q) (j)))), (3, .int (nI (j + 1)))] rfl ?_
        exact ih4 (j + 1) ((x2 + (lsR T (q) (j)))) (by omega) (by omega) (by rw [gx]; rfl)
  refine y_pick [2, 3, 1, 0] [(0, .ref (E.2.1 (61))), (1, .int (nI (q))), (2, .int (0)), (3, .int (0))] rfl ?_
  exact L_4 _ (0) (0) (Nat.lt_succ_self _) (by omega) rfl

set_option maxRecDepth 100000 in
set_option maxHeartbeats 4000000 in
theorem c_X5_allValues {l : Launch} {E : xE} {C : xC} {kp fl ty pa va so se tl : Int32} (m0 : C (61) = .inr (5, [.ref (E.2.1 (62)), .ref (E.2.1 (63)), .ref (E.2.1 (64)), .int kp, .ref (E.2.1 (65)), .int fl, .ref (E.2.1 (66)), .int ty, .int pa, .int va, .int so, .int se, .ref (E.2.1 (67)), .int tl])) {T : Tb} (gT : RM E C 62 T) (gv : WF T) : xR E l yX5_allValues wsX5_allValues 2 45 [.ref (E.2.1 (61))] C (allV T) := by
  obtain ⟨zf, h0, g0, g1, gK, gD, gS, gV⟩ := id gT
  obtain ⟨gw1, gw2, gw3, gw4⟩ := id gv.1
  refine xM_ofY (cc := cX5_allValues) (maxL := 3) (ret := (some .int)) (by decide) rfl (Nat.le_of_ble_eq_true rfl) ?_
  intro p e s m args below meth c X hr
  have inX5 : ∀ w ∈ wsX50, w ∈ wsX5_allValues := by decide +kernel
  refine y_lv [(0, .ref (E.2.1 (61)))] rfl ?_
  refine y_iconst X (v := (0)) dX5_allValues_0 (by decide) ?_
  refine y_istore_n X [(1, .int (0)), (0, .ref (E.2.1 (61)))] dX5_allValues_1 rfl (by decide) rfl ?_
  refine y_iconst X (v := (0)) dX5_allValues_2 (by decide) ?_
  refine y_istore_n X [(2, .int (0)), (1, .int (0)), (0, .ref (E.2.1 (61)))] dX5_allValues_3 rfl (by decide) rfl ?_
  have L_4 : ∀ (n : Nat) (j : Nat) (x1 : Int32), tr T - j < n → (j ≤ tr T) → (x1 = sm (fun i => bcn (nmS T (ts T i))) j) → xY p l e ({ frames := 2, cells := 0, slots := 0, locals := 45 } : Room) s m args below meth c E (xA E) 3 0 0 (MQ below (xQ E (fun v C1 => v = some (.int (allV T)) ∧ C1 = C)) args s 0 0 (xA E)) C 4 [(0, .ref (E.2.1 (61))), (1, .int x1), (2, .int (nI (j)))] [] := by
    intro n4
    induction n4 with
    | zero => intro _ _ hm4; exact absurd hm4 (Nat.not_lt_zero _)
    | succ n4 ih4 =>
      intro j x1 hm4 gj gx
      refine y_iload_n X dX5_allValues_4 2 rfl ?_
      refine y_aload_n X dX5_allValues_5 0 rfl ?_
      refine y_get X (61) 5 0 (Cn := RX5) (T := TX5) (N := 14) (index := 7) (v := .ref (E.2.1 (62))) dX5_allValues_6 (by omega) m0 rfl (by decide) inX5 (by decide +kernel : Cond.fieldLink RX5 7 "ColumnSeasonsModel" "now" "[I" ∈ wsX5_allValues) rfl rfl ?_
      refine y_iconst X (v := (1)) dX5_allValues_9 (by decide) ?_
      refine y_iald X (62) dX5_allValues_10 (by omega) h0 (j := 1) rfl (by omega) (by omega) (z := (nI (tr T))) g1 ?_
      refine y_icmp_ge X 41 ((tr T) ≤ (j)) dX5_allValues_11 (by decide) (nI_leI (a := tr T) (b := j) (by omega) (by omega)) (fun c_1 => ?_) (fun c_1 => ?_)
      ·
        refine y_iload_n X dX5_allValues_41 1 rfl ?_
        exact y_iret X hr dX5_allValues_42 rfl ⟨by rw [gx, show j = tr T by omega]; rfl, rfl⟩
      ·
        refine y_iload_n X dX5_allValues_14 1 rfl ?_
        have gts := gw4 j (by omega)
        refine y_aload_n X dX5_allValues_15 0 rfl ?_
        refine y_get X (61) 5 0 (Cn := RX5) (T := TX5) (N := 14) (index := 7) (v := .ref (E.2.1 (62))) dX5_allValues_16 (by omega) m0 rfl (by decide) inX5 (by decide +kernel : Cond.fieldLink RX5 7 "ColumnSeasonsModel" "now" "[I" ∈ wsX5_allValues) rfl rfl ?_
        refine y_aload_n X dX5_allValues_19 0 rfl ?_
        refine y_get X (61) 5 0 (Cn := RX5) (T := TX5) (N := 14) (index := 7) (v := .ref (E.2.1 (62))) dX5_allValues_20 (by omega) m0 rfl (by decide) inX5 (by decide +kernel : Cond.fieldLink RX5 7 "ColumnSeasonsModel" "now" "[I" ∈ wsX5_allValues) rfl rfl ?_
        refine y_iload_n X dX5_allValues_23 2 rfl ?_
        refine y_callJr X (av := [.ref (E.2.1 (62)), .int (nI (j))]) [.ref (E.2.1 (62)), .int x1] 2 (c_X5_seasonOfRow (a := 62) (by omega) gT gv (i := j) (by omega)) gX5_allValues_X5_seasonOfRow rfl (by decide +kernel) rfl ⟨Nat.le_of_ble_eq_true rfl, Nat.le_of_ble_eq_true rfl⟩ ⟨Nat.zero_le _, Nat.zero_le _⟩ (Nat.le_of_ble_eq_true rfl) rfl dX5_allValues_24 ?_
        refine y_callJr X (av := [.ref (E.2.1 (62)), .int (nI (ts T (j)))]) [.int x1] 2 (c_X5_names (a := 62) (by omega) gT gv (q := ts T (j)) (by omega)) gX5_allValues_X5_names rfl (by decide +kernel) rfl ⟨Nat.le_of_ble_eq_true rfl, Nat.le_of_ble_eq_true rfl⟩ ⟨Nat.zero_le _, Nat.zero_le _⟩ (Nat.le_of_ble_eq_true rfl) rfl dX5_allValues_27 ?_
        refine y_callJr X (av := [.int (nmS T (ts T (j)))]) [.int x1] 1 (c_X5_ones (x := (nmS T (ts T (j)))) (by first | exact m8_nmS | exact m8_shN)) gX5_allValues_X5_ones rfl (by decide +kernel) rfl ⟨Nat.le_of_ble_eq_true rfl, Nat.le_of_ble_eq_true rfl⟩ ⟨Nat.zero_le _, Nat.zero_le _⟩ (Nat.le_of_ble_eq_true rfl) rfl dX5_allValues_30 ?_
        refine y_iadd X (z := (x1 + (bcn (nmS T (ts T (j)))))) dX5_allValues_33 rfl ?_
        refine y_istore_n X [(1, .int (x1 + (bcn (nmS T (ts T (j)))))), (0, .ref (E.2.1 (61))), (2, .int (nI (j)))] dX5_allValues_34 rfl (by decide) rfl ?_
        refine y_iinc X [(2, .int (nI (j + 1))), (1, .int (x1 + (bcn (nmS T (ts T (j)))))), (0, .ref (E.2.1 (61)))] dX5_allValues_35 2 rfl (nI_1 _) (by decide) rfl ?_
        refine y_goto X 4 dX5_allValues_38 (by decide) ?_
        refine y_pick [2, 1, 0] [(0, .ref (E.2.1 (61))), (1, .int (x1 + (bcn (nmS T (ts T (j)))))), (2, .int (nI (j + 1)))] rfl ?_
        exact ih4 (j + 1) ((x1 + (bcn (nmS T (ts T (j)))))) (by omega) (by omega) (by rw [gx]; rfl)
  refine y_pick [2, 1, 0] [(0, .ref (E.2.1 (61))), (1, .int (0)), (2, .int (0))] rfl ?_
  exact L_4 _ (0) (0) (Nat.lt_succ_self _) (by omega) rfl

set_option maxRecDepth 100000 in
set_option maxHeartbeats 4000000 in
theorem c_X5_everNames {l : Launch} {E : xE} {C : xC} {kp fl ty pa va so se tl : Int32} (m0 : C (61) = .inr (5, [.ref (E.2.1 (62)), .ref (E.2.1 (63)), .ref (E.2.1 (64)), .int kp, .ref (E.2.1 (65)), .int fl, .ref (E.2.1 (66)), .int ty, .int pa, .int va, .int so, .int se, .ref (E.2.1 (67)), .int tl])) {T : Tb} (gT : RM E C 62 T) (gv : WF T) : xR E l yX5_everNames wsX5_everNames 2 45 [.ref (E.2.1 (61))] C (evN T) := by
  obtain ⟨zf, h0, g0, g1, gK, gD, gS, gV⟩ := id gT
  obtain ⟨gw1, gw2, gw3, gw4⟩ := id gv.1
  refine xM_ofY (cc := cX5_everNames) (maxL := 3) (ret := (some .int)) (by decide) rfl (Nat.le_of_ble_eq_true rfl) ?_
  intro p e s m args below meth c X hr
  have inX5 : ∀ w ∈ wsX50, w ∈ wsX5_everNames := by decide +kernel
  refine y_lv [(0, .ref (E.2.1 (61)))] rfl ?_
  refine y_iconst X (v := (0)) dX5_everNames_0 (by decide) ?_
  refine y_istore_n X [(1, .int (0)), (0, .ref (E.2.1 (61)))] dX5_everNames_1 rfl (by decide) rfl ?_
  refine y_iconst X (v := (0)) dX5_everNames_2 (by decide) ?_
  refine y_istore_n X [(2, .int (0)), (1, .int (0)), (0, .ref (E.2.1 (61)))] dX5_everNames_3 rfl (by decide) rfl ?_
  have L_4 : ∀ (n : Nat) (j : Nat) (x1 : Int32), tn T - j < n → (j ≤ tn T) → (x1 = orf (fun q => nmS T q) j) → xY p l e ({ frames := 2, cells := 0, slots := 0, locals := 45 } : Room) s m args below meth c E (xA E) 3 0 0 (MQ below (xQ E (fun v C1 => v = some (.int (evN T)) ∧ C1 = C)) args s 0 0 (xA E)) C 4 [(0, .ref (E.2.1 (61))), (1, .int x1), (2, .int (nI (j)))] [] := by
    intro n4
    induction n4 with
    | zero => intro _ _ hm4; exact absurd hm4 (Nat.not_lt_zero _)
    | succ n4 ih4 =>
      intro j x1 hm4 gj gx
      refine y_iload_n X dX5_everNames_4 2 rfl ?_
      refine y_aload_n X dX5_everNames_5 0 rfl ?_
      refine y_get X (61) 5 0 (Cn := RX5) (T := TX5) (N := 14) (index := 7) (v := .ref (E.2.1 (62))) dX5_everNames_6 (by omega) m0 rfl (by decide) inX5 (by decide +kernel : Cond.fieldLink RX5 7 "ColumnSeasonsModel" "now" "[I" ∈ wsX5_everNames) rfl rfl ?_
      refine y_iconst X (v := (0)) dX5_everNames_9 (by decide) ?_
      refine y_iald X (62) dX5_everNames_10 (by omega) h0 (j := 0) rfl (by omega) (by omega) (z := (nI (tn T))) g0 ?_
      refine y_icmp_ge X 31 ((tn T) ≤ (j)) dX5_everNames_11 (by decide) (nI_leI (a := tn T) (b := j) (by omega) (by omega)) (fun c_1 => ?_) (fun c_1 => ?_)
      ·
        refine y_iload_n X dX5_everNames_31 1 rfl ?_
        exact y_iret X hr dX5_everNames_32 rfl ⟨by rw [gx, show j = tn T by omega]; rfl, rfl⟩
      ·
        refine y_iload_n X dX5_everNames_14 1 rfl ?_
        refine y_aload_n X dX5_everNames_15 0 rfl ?_
        refine y_get X (61) 5 0 (Cn := RX5) (T := TX5) (N := 14) (index := 7) (v := .ref (E.2.1 (62))) dX5_everNames_16 (by omega) m0 rfl (by decide) inX5 (by decide +kernel : Cond.fieldLink RX5 7 "ColumnSeasonsModel" "now" "[I" ∈ wsX5_everNames) rfl rfl ?_
        refine y_iload_n X dX5_everNames_19 2 rfl ?_
        refine y_callJr X (av := [.ref (E.2.1 (62)), .int (nI (j))]) [.int x1] 2 (c_X5_names (a := 62) (by omega) gT gv (q := j) (by omega)) gX5_everNames_X5_names rfl (by decide +kernel) rfl ⟨Nat.le_of_ble_eq_true rfl, Nat.le_of_ble_eq_true rfl⟩ ⟨Nat.zero_le _, Nat.zero_le _⟩ (Nat.le_of_ble_eq_true rfl) rfl dX5_everNames_20 ?_
        refine y_ior X (z := (x1 ||| (nmS T (j)))) dX5_everNames_23 rfl ?_
        refine y_istore_n X [(1, .int (x1 ||| (nmS T (j)))), (0, .ref (E.2.1 (61))), (2, .int (nI (j)))] dX5_everNames_24 rfl (by decide) rfl ?_
        refine y_iinc X [(2, .int (nI (j + 1))), (1, .int (x1 ||| (nmS T (j)))), (0, .ref (E.2.1 (61)))] dX5_everNames_25 2 rfl (nI_1 _) (by decide) rfl ?_
        refine y_goto X 4 dX5_everNames_28 (by decide) ?_
        refine y_pick [2, 1, 0] [(0, .ref (E.2.1 (61))), (1, .int (x1 ||| (nmS T (j)))), (2, .int (nI (j + 1)))] rfl ?_
        exact ih4 (j + 1) ((x1 ||| (nmS T (j)))) (by omega) (by omega) (by rw [gx]; rfl)
  refine y_pick [2, 1, 0] [(0, .ref (E.2.1 (61))), (1, .int (0)), (2, .int (0))] rfl ?_
  exact L_4 _ (0) (0) (Nat.lt_succ_self _) (by omega) rfl
