set_option maxRecDepth 100000 in
set_option maxHeartbeats 4000000 in
theorem c_X4_isName {l : Launch} {E : xE} {C : xC} {x : Int32} : xR E l yX4_isName wsX4_isName 0 0 [.int x] C (bI (xin x 8)) := by
  refine xM_ofY (cc := cX4_isName) (maxL := 1) (ret := (some .boolean)) (by decide) rfl (Nat.le_of_ble_eq_true rfl) ?_
  intro p e s m args below meth c X hr
  refine y_lv [(0, .int x)] rfl ?_
  refine y_iload_n X dX4_isName_0 0 rfl ?_
  refine y_if_lt X 14 ((x).toInt < (0 : Int)) dX4_isName_1 (by decide) (cLt rfl (by decide)) (fun c_1 => ?_) (fun c_1 => ?_)
  ·
    refine y_iconst X (v := (0)) dX4_isName_14 (by decide) ?_
    exact y_zret X hr (by rfl) dX4_isName_15 rfl (by first | exact ⟨rfl, rfl⟩ | exact ⟨congrArg (fun z => some (Value.int z)) (bI_1 (by omega)).symm, rfl⟩ | exact ⟨congrArg (fun z => some (Value.int z)) (bI_0 (by omega)).symm, rfl⟩)
  ·
    refine y_iload_n X dX4_isName_4 0 rfl ?_
    refine y_bipush X (v := (8)) dX4_isName_5 (by decide) ?_
    refine y_icmp_ge X 14 ((8 : Int) ≤ (x).toInt) dX4_isName_7 (by decide) (cLe (by decide) rfl) (fun c_2 => ?_) (fun c_2 => ?_)
    ·
      refine y_iconst X (v := (0)) dX4_isName_14 (by decide) ?_
      exact y_zret X hr (by rfl) dX4_isName_15 rfl (by first | exact ⟨rfl, rfl⟩ | exact ⟨congrArg (fun z => some (Value.int z)) (bI_1 (by omega)).symm, rfl⟩ | exact ⟨congrArg (fun z => some (Value.int z)) (bI_0 (by omega)).symm, rfl⟩)
    ·
      refine y_iconst X (v := (1)) dX4_isName_10 (by decide) ?_
      refine y_goto X 15 dX4_isName_11 (by decide) ?_
      exact y_zret X hr (by rfl) dX4_isName_15 rfl (by first | exact ⟨rfl, rfl⟩ | exact ⟨congrArg (fun z => some (Value.int z)) (bI_1 (by omega)).symm, rfl⟩ | exact ⟨congrArg (fun z => some (Value.int z)) (bI_0 (by omega)).symm, rfl⟩)

set_option maxRecDepth 100000 in
set_option maxHeartbeats 4000000 in
theorem c_X4_isKind {l : Launch} {E : xE} {C : xC} {x : Int32} : xR E l yX4_isKind wsX4_isKind 0 0 [.int x] C (bI (xin x 3)) := by
  refine xM_ofY (cc := cX4_isKind) (maxL := 1) (ret := (some .boolean)) (by decide) rfl (Nat.le_of_ble_eq_true rfl) ?_
  intro p e s m args below meth c X hr
  refine y_lv [(0, .int x)] rfl ?_
  refine y_iload_n X dX4_isKind_0 0 rfl ?_
  refine y_if_lt X 13 ((x).toInt < (0 : Int)) dX4_isKind_1 (by decide) (cLt rfl (by decide)) (fun c_1 => ?_) (fun c_1 => ?_)
  ·
    refine y_iconst X (v := (0)) dX4_isKind_13 (by decide) ?_
    exact y_zret X hr (by rfl) dX4_isKind_14 rfl (by first | exact ⟨rfl, rfl⟩ | exact ⟨congrArg (fun z => some (Value.int z)) (bI_1 (by omega)).symm, rfl⟩ | exact ⟨congrArg (fun z => some (Value.int z)) (bI_0 (by omega)).symm, rfl⟩)
  ·
    refine y_iload_n X dX4_isKind_4 0 rfl ?_
    refine y_iconst X (v := (2)) dX4_isKind_5 (by decide) ?_
    refine y_icmp_gt X 13 ((2 : Int) < (x).toInt) dX4_isKind_6 (by decide) (cLt (by decide) rfl) (fun c_2 => ?_) (fun c_2 => ?_)
    ·
      refine y_iconst X (v := (0)) dX4_isKind_13 (by decide) ?_
      exact y_zret X hr (by rfl) dX4_isKind_14 rfl (by first | exact ⟨rfl, rfl⟩ | exact ⟨congrArg (fun z => some (Value.int z)) (bI_1 (by omega)).symm, rfl⟩ | exact ⟨congrArg (fun z => some (Value.int z)) (bI_0 (by omega)).symm, rfl⟩)
    ·
      refine y_iconst X (v := (1)) dX4_isKind_9 (by decide) ?_
      refine y_goto X 14 dX4_isKind_10 (by decide) ?_
      exact y_zret X hr (by rfl) dX4_isKind_14 rfl (by first | exact ⟨rfl, rfl⟩ | exact ⟨congrArg (fun z => some (Value.int z)) (bI_1 (by omega)).symm, rfl⟩ | exact ⟨congrArg (fun z => some (Value.int z)) (bI_0 (by omega)).symm, rfl⟩)

set_option maxRecDepth 100000 in
set_option maxHeartbeats 4000000 in
theorem c_X4_isError {l : Launch} {E : xE} {C : xC} {x : Int32} : xR E l yX4_isError wsX4_isError 0 0 [.int x] C (bI (erP x)) := by
  refine xM_ofY (cc := cX4_isError) (maxL := 1) (ret := (some .boolean)) (by decide) rfl (Nat.le_of_ble_eq_true rfl) ?_
  intro p e s m args below meth c X hr
  refine y_lv [(0, .int x)] rfl ?_
  refine y_iload_n X dX4_isError_0 0 rfl ?_
  refine y_sipush X (v := (-10001)) dX4_isError_1 (by decide) ?_
  refine y_icmp_gt X 18 ((-10001 : Int) < (x).toInt) dX4_isError_4 (by decide) (cLt (by decide) rfl) (fun c_1 => ?_) (fun c_1 => ?_)
  ·
    refine y_iconst X (v := (0)) dX4_isError_18 (by decide) ?_
    exact y_zret X hr (by rfl) dX4_isError_19 rfl ⟨by first | rw [bI_1 (P := erP x) ⟨by omega, by assumption⟩] | rw [bI_0 (P := erP x) (fun z => by first | exact absurd z.1 (by omega) | exact z.2 (by assumption))], rfl⟩
  ·
    refine y_iload_n X dX4_isError_7 0 rfl ?_
    refine y_sipush X (v := (-10005)) dX4_isError_8 (by decide) ?_
    refine y_icmp_eq X 18 (x = (-10005)) dX4_isError_11 (by decide) Iff.rfl (fun c_2 => ?_) (fun c_2 => ?_)
    ·
      refine y_iconst X (v := (0)) dX4_isError_18 (by decide) ?_
      exact y_zret X hr (by rfl) dX4_isError_19 rfl ⟨by first | rw [bI_1 (P := erP x) ⟨by omega, by assumption⟩] | rw [bI_0 (P := erP x) (fun z => by first | exact absurd z.1 (by omega) | exact z.2 (by assumption))], rfl⟩
    ·
      refine y_iconst X (v := (1)) dX4_isError_14 (by decide) ?_
      refine y_goto X 19 dX4_isError_15 (by decide) ?_
      exact y_zret X hr (by rfl) dX4_isError_19 rfl ⟨by first | rw [bI_1 (P := erP x) ⟨by omega, by assumption⟩] | rw [bI_0 (P := erP x) (fun z => by first | exact absurd z.1 (by omega) | exact z.2 (by assumption))], rfl⟩

set_option maxRecDepth 100000 in
set_option maxHeartbeats 4000000 in
theorem c_X4_hasName {l : Launch} {E : xE} {C : xC} {x : Int32} {j : Nat} : xR E l yX4_hasName wsX4_hasName 0 0 [.int x, .int (nI (j))] C (bI (¬ (x &&& bitN j) = 0)) := by
  refine xM_ofY (cc := cX4_hasName) (maxL := 2) (ret := (some .boolean)) (by decide) rfl (Nat.le_of_ble_eq_true rfl) ?_
  intro p e s m args below meth c X hr
  refine y_lv [(0, .int x), (1, .int (nI (j)))] rfl ?_
  refine y_iload_n X dX4_hasName_0 0 rfl ?_
  refine y_iconst X (v := (1)) dX4_hasName_1 (by decide) ?_
  refine y_iload_n X dX4_hasName_2 1 rfl ?_
  refine y_ishl X (z := (bitN (j))) dX4_hasName_3 rfl ?_
  refine y_iand X (z := (x &&& (bitN (j)))) dX4_hasName_4 rfl ?_
  refine y_if_eq X 12 ((x &&& (bitN (j))) = (0)) dX4_hasName_5 (by decide) Iff.rfl (fun c_1 => ?_) (fun c_1 => ?_)
  ·
    refine y_iconst X (v := (0)) dX4_hasName_12 (by decide) ?_
    exact y_zret X hr (by rfl) dX4_hasName_13 rfl ⟨by first | rw [bI_1 (P := ¬ (x &&& bitN j) = 0) (by assumption)] | rw [bI_0 (P := ¬ (x &&& bitN j) = 0) (fun z => z (by assumption))], rfl⟩
  ·
    refine y_iconst X (v := (1)) dX4_hasName_8 (by decide) ?_
    refine y_goto X 13 dX4_hasName_9 (by decide) ?_
    exact y_zret X hr (by rfl) dX4_hasName_13 rfl ⟨by first | rw [bI_1 (P := ¬ (x &&& bitN j) = 0) (by assumption)] | rw [bI_0 (P := ¬ (x &&& bitN j) = 0) (fun z => z (by assumption))], rfl⟩

set_option maxRecDepth 100000 in
set_option maxHeartbeats 4000000 in
theorem c_X4_leastOfKind {l : Launch} {E : xE} {C : xC} {x : Int32} : xR E l yX4_leastOfKind wsX4_leastOfKind 0 0 [.int x] C (loK x) := by
  refine xM_ofY (cc := cX4_leastOfKind) (maxL := 1) (ret := (some .int)) (by decide) rfl (Nat.le_of_ble_eq_true rfl) ?_
  intro p e s m args below meth c X hr
  refine y_lv [(0, .int x)] rfl ?_
  refine y_iload_n X dX4_leastOfKind_0 0 rfl ?_
  refine y_iconst X (v := (2)) dX4_leastOfKind_1 (by decide) ?_
  refine y_icmp_ne X 11 (¬ (x = (2))) dX4_leastOfKind_2 (by decide) Iff.rfl (fun c_1 => ?_) (fun c_1 => ?_)
  ·
    refine y_iconst X (v := (0)) dX4_leastOfKind_11 (by decide) ?_
    exact y_iret X hr dX4_leastOfKind_12 rfl ⟨by simp [loK, c_1], rfl⟩
  ·
    have c_1 := Decidable.of_not_not c_1
    refine y_sipush X (v := (-9999)) dX4_leastOfKind_5 (by decide) ?_
    refine y_goto X 12 dX4_leastOfKind_8 (by decide) ?_
    exact y_iret X hr dX4_leastOfKind_12 rfl ⟨by simp [loK, c_1], rfl⟩

set_option maxRecDepth 100000 in
set_option maxHeartbeats 4000000 in
theorem c_X4_greatestOfKind {l : Launch} {E : xE} {C : xC} {x : Int32} : xR E l yX4_greatestOfKind wsX4_greatestOfKind 0 0 [.int x] C (hiK x) := by
  refine xM_ofY (cc := cX4_greatestOfKind) (maxL := 1) (ret := (some .int)) (by decide) rfl (Nat.le_of_ble_eq_true rfl) ?_
  intro p e s m args below meth c X hr
  refine y_lv [(0, .int x)] rfl ?_
  refine y_iload_n X dX4_greatestOfKind_0 0 rfl ?_
  refine y_if_ne X 6 (¬ (x = (0))) dX4_greatestOfKind_1 (by decide) Iff.rfl (fun c_1 => ?_) (fun c_1 => ?_)
  ·
    refine y_iload_n X dX4_greatestOfKind_6 0 rfl ?_
    refine y_iconst X (v := (1)) dX4_greatestOfKind_7 (by decide) ?_
    refine y_icmp_ne X 16 (¬ (x = (1))) dX4_greatestOfKind_8 (by decide) Iff.rfl (fun c_2 => ?_) (fun c_2 => ?_)
    ·
      refine y_sipush X (v := (9999)) dX4_greatestOfKind_16 (by decide) ?_
      exact y_iret X hr dX4_greatestOfKind_19 rfl ⟨by simp [hiK, c_1, c_2], rfl⟩
    ·
      have c_2 := Decidable.of_not_not c_2
      refine y_bipush X (v := (9)) dX4_greatestOfKind_11 (by decide) ?_
      refine y_goto X 19 dX4_greatestOfKind_13 (by decide) ?_
      exact y_iret X hr dX4_greatestOfKind_19 rfl ⟨by simp [hiK, c_1, c_2], rfl⟩
  ·
    have c_1 := Decidable.of_not_not c_1
    refine y_iconst X (v := (1)) dX4_greatestOfKind_4 (by decide) ?_
    exact y_iret X hr dX4_greatestOfKind_5 rfl ⟨by simp [hiK, c_1], rfl⟩

set_option maxRecDepth 100000 in
set_option maxHeartbeats 4000000 in
theorem c_X4_isOfKind {l : Launch} {E : xE} {C : xC} {x y : Int32} : xR E l yX4_isOfKind wsX4_isOfKind 1 20 [.int x, .int y] C (bI (okv x y)) := by
  refine xM_ofY (cc := cX4_isOfKind) (maxL := 2) (ret := (some .boolean)) (by decide) rfl (Nat.le_of_ble_eq_true rfl) ?_
  intro p e s m args below meth c X hr
  refine y_lv [(0, .int x), (1, .int y)] rfl ?_
  refine y_iload_n X dX4_isOfKind_0 0 rfl ?_
  refine y_iload_n X dX4_isOfKind_1 1 rfl ?_
  refine y_callJr X (av := [.int y]) [.int x] 1 (c_X4_leastOfKind (x := y)) gX4_isOfKind_X4_leastOfKind rfl (by decide +kernel) rfl ⟨Nat.le_of_ble_eq_true rfl, Nat.le_of_ble_eq_true rfl⟩ ⟨Nat.zero_le _, Nat.zero_le _⟩ (Nat.le_of_ble_eq_true rfl) rfl dX4_isOfKind_2 ?_
  refine y_icmp_lt X 20 ((x).toInt < ((loK y)).toInt) dX4_isOfKind_5 (by decide) (cLt rfl rfl) (fun c_1 => ?_) (fun c_1 => ?_)
  ·
    refine y_iconst X (v := (0)) dX4_isOfKind_20 (by decide) ?_
    exact y_zret X hr (by rfl) dX4_isOfKind_21 rfl (by first | exact ⟨rfl, rfl⟩ | exact ⟨congrArg (fun z => some (Value.int z)) (bI_1 (by omega)).symm, rfl⟩ | exact ⟨congrArg (fun z => some (Value.int z)) (bI_0 (by omega)).symm, rfl⟩)
  ·
    refine y_iload_n X dX4_isOfKind_8 0 rfl ?_
    refine y_iload_n X dX4_isOfKind_9 1 rfl ?_
    refine y_callJr X (av := [.int y]) [.int x] 1 (c_X4_greatestOfKind (x := y)) gX4_isOfKind_X4_greatestOfKind rfl (by decide +kernel) rfl ⟨Nat.le_of_ble_eq_true rfl, Nat.le_of_ble_eq_true rfl⟩ ⟨Nat.zero_le _, Nat.zero_le _⟩ (Nat.le_of_ble_eq_true rfl) rfl dX4_isOfKind_10 ?_
    refine y_icmp_gt X 20 (((hiK y)).toInt < (x).toInt) dX4_isOfKind_13 (by decide) (cLt rfl rfl) (fun c_2 => ?_) (fun c_2 => ?_)
    ·
      refine y_iconst X (v := (0)) dX4_isOfKind_20 (by decide) ?_
      exact y_zret X hr (by rfl) dX4_isOfKind_21 rfl (by first | exact ⟨rfl, rfl⟩ | exact ⟨congrArg (fun z => some (Value.int z)) (bI_1 (by omega)).symm, rfl⟩ | exact ⟨congrArg (fun z => some (Value.int z)) (bI_0 (by omega)).symm, rfl⟩)
    ·
      refine y_iconst X (v := (1)) dX4_isOfKind_16 (by decide) ?_
      refine y_goto X 21 dX4_isOfKind_17 (by decide) ?_
      exact y_zret X hr (by rfl) dX4_isOfKind_21 rfl (by first | exact ⟨rfl, rfl⟩ | exact ⟨congrArg (fun z => some (Value.int z)) (bI_1 (by omega)).symm, rfl⟩ | exact ⟨congrArg (fun z => some (Value.int z)) (bI_0 (by omega)).symm, rfl⟩)

set_option maxRecDepth 100000 in
set_option maxHeartbeats 4000000 in
theorem c_X4_castTo {l : Launch} {E : xE} {C : xC} {x y : Int32} : xR E l yX4_castTo wsX4_castTo 1 20 [.int x, .int y] C (cstC x y) := by
  refine xM_ofY (cc := cX4_castTo) (maxL := 2) (ret := (some .int)) (by decide) rfl (Nat.le_of_ble_eq_true rfl) ?_
  intro p e s m args below meth c X hr
  refine y_lv [(0, .int x), (1, .int y)] rfl ?_
  refine y_iload_n X dX4_castTo_0 0 rfl ?_
  refine y_if_ne X 14 (¬ (x = (0))) dX4_castTo_1 (by decide) Iff.rfl (fun c_1 => ?_) (fun c_1 => ?_)
  ·
    refine y_iload_n X dX4_castTo_14 0 rfl ?_
    refine y_callJr X (av := [.int x]) [] 1 (c_X4_leastOfKind (x := x)) gX4_castTo_X4_leastOfKind rfl (by decide +kernel) rfl ⟨Nat.le_of_ble_eq_true rfl, Nat.le_of_ble_eq_true rfl⟩ ⟨Nat.zero_le _, Nat.zero_le _⟩ (Nat.le_of_ble_eq_true rfl) rfl dX4_castTo_15 ?_
    refine y_iload_n X dX4_castTo_18 0 rfl ?_
    refine y_callJr X (av := [.int x]) [.int (loK x)] 1 (c_X4_greatestOfKind (x := x)) gX4_castTo_X4_greatestOfKind rfl (by decide +kernel) rfl ⟨Nat.le_of_ble_eq_true rfl, Nat.le_of_ble_eq_true rfl⟩ ⟨Nat.zero_le _, Nat.zero_le _⟩ (Nat.le_of_ble_eq_true rfl) rfl dX4_castTo_19 ?_
    refine y_iload_n X dX4_castTo_22 1 rfl ?_
    refine y_min X (z := (if y < (hiK x) then y else (hiK x))) dX4_castTo_23 (by decide +kernel) (by decide +kernel) (by decide +kernel) (by decide +kernel) (Nat.le_of_ble_eq_true rfl) (Nat.le_of_ble_eq_true rfl) ⟨Nat.zero_le _, Nat.zero_le _⟩ rfl ?_
    refine y_max X (z := (if (loK x) < (if y < (hiK x) then y else (hiK x)) then (if y < (hiK x) then y else (hiK x)) else (loK x))) dX4_castTo_26 (by decide +kernel) (by decide +kernel) (by decide +kernel) (by decide +kernel) (Nat.le_of_ble_eq_true rfl) (Nat.le_of_ble_eq_true rfl) ⟨Nat.zero_le _, Nat.zero_le _⟩ rfl ?_
    exact y_iret X hr dX4_castTo_29 rfl ⟨by simp [cstC, c_1], rfl⟩
  ·
    have c_1 := Decidable.of_not_not c_1
    refine y_iload_n X dX4_castTo_4 1 rfl ?_
    refine y_if_ne X 12 (¬ (y = (0))) dX4_castTo_5 (by decide) Iff.rfl (fun c_2 => ?_) (fun c_2 => ?_)
    ·
      refine y_iconst X (v := (1)) dX4_castTo_12 (by decide) ?_
      exact y_iret X hr dX4_castTo_13 rfl ⟨by simp [cstC, c_1, c_2], rfl⟩
    ·
      have c_2 := Decidable.of_not_not c_2
      refine y_iconst X (v := (0)) dX4_castTo_8 (by decide) ?_
      refine y_goto X 13 dX4_castTo_9 (by decide) ?_
      exact y_iret X hr dX4_castTo_13 rfl ⟨by simp [cstC, c_1, c_2], rfl⟩

set_option maxRecDepth 100000 in
set_option maxHeartbeats 4000000 in
theorem c_X4_castLoses {l : Launch} {E : xE} {C : xC} {x y z : Int32} : xR E l yX4_castLoses wsX4_castLoses 2 41 [.int x, .int y, .int z] C (bI (¬ cstC y (cstC z x) = x)) := by
  refine xM_ofY (cc := cX4_castLoses) (maxL := 3) (ret := (some .boolean)) (by decide) rfl (Nat.le_of_ble_eq_true rfl) ?_
  intro p e s m args below meth c X hr
  refine y_lv [(0, .int x), (1, .int y), (2, .int z)] rfl ?_
  refine y_iload_n X dX4_castLoses_0 1 rfl ?_
  refine y_iload_n X dX4_castLoses_1 2 rfl ?_
  refine y_iload_n X dX4_castLoses_2 0 rfl ?_
  refine y_callJr X (av := [.int z, .int x]) [.int y] 2 (c_X4_castTo (x := z) (y := x)) gX4_castLoses_X4_castTo rfl (by decide +kernel) rfl ⟨Nat.le_of_ble_eq_true rfl, Nat.le_of_ble_eq_true rfl⟩ ⟨Nat.zero_le _, Nat.zero_le _⟩ (Nat.le_of_ble_eq_true rfl) rfl dX4_castLoses_3 ?_
  refine y_callJr X (av := [.int y, .int (cstC z x)]) [] 2 (c_X4_castTo (x := y) (y := (cstC z x))) gX4_castLoses_X4_castTo rfl (by decide +kernel) rfl ⟨Nat.le_of_ble_eq_true rfl, Nat.le_of_ble_eq_true rfl⟩ ⟨Nat.zero_le _, Nat.zero_le _⟩ (Nat.le_of_ble_eq_true rfl) rfl dX4_castLoses_6 ?_
  refine y_iload_n X dX4_castLoses_9 0 rfl ?_
  refine y_icmp_eq X 17 ((cstC y (cstC z x)) = x) dX4_castLoses_10 (by decide) Iff.rfl (fun c_1 => ?_) (fun c_1 => ?_)
  ·
    refine y_iconst X (v := (0)) dX4_castLoses_17 (by decide) ?_
    exact y_zret X hr (by rfl) dX4_castLoses_18 rfl ⟨by first | rw [bI_1 (P := ¬ cstC y (cstC z x) = x) (by assumption)] | rw [bI_0 (P := ¬ cstC y (cstC z x) = x) (fun w => w (by assumption))], rfl⟩
  ·
    refine y_iconst X (v := (1)) dX4_castLoses_13 (by decide) ?_
    refine y_goto X 18 dX4_castLoses_14 (by decide) ?_
    exact y_zret X hr (by rfl) dX4_castLoses_18 rfl ⟨by first | rw [bI_1 (P := ¬ cstC y (cstC z x) = x) (by assumption)] | rw [bI_0 (P := ¬ cstC y (cstC z x) = x) (fun w => w (by assumption))], rfl⟩

set_option maxRecDepth 100000 in
set_option maxHeartbeats 4000000 in
theorem c_X3_now {l : Launch} {E : xE} {C : xC} {b n : Nat} {fs : List Value} (gb : b < 61) (gn : 1 ≤ n) (g0 : C (b) = .inr (3, .int (nI n) :: fs)) : xR E l yX3_now wsX3_now 0 0 [.ref (E.2.1 (b))] C (nI (n - 1)) := by
  refine xM_ofY (cc := cX3_now) (maxL := 1) (ret := (some .int)) (by decide) rfl (Nat.le_of_ble_eq_true rfl) ?_
  intro p e s m args below meth c X hr
  have inX3 : ∀ w ∈ wsX30, w ∈ wsX3_now := by decide +kernel
  refine y_lv [(0, .ref (E.2.1 (b)))] rfl ?_
  refine y_aload_n X dX3_now_0 0 rfl ?_
  refine y_get X (b) 3 0 (Cn := RX3) (T := TX3) (N := 6) (index := 9) (v := .int (nI (n))) dX3_now_1 (by omega) g0 rfl (by decide) inX3 (by decide +kernel : Cond.fieldLink RX3 9 "ColumnSeasons$Table" "seasons" "I" ∈ wsX3_now) rfl rfl ?_
  refine y_iconst X (v := (1)) dX3_now_4 (by decide) ?_
  refine y_isub X (z := (nI ((n) - (1)))) dX3_now_5 (pk_sub (a := n) (b := 1) (by omega)) ?_
  exact y_iret X hr dX3_now_6 rfl (by first | exact ⟨rfl, rfl⟩ | exact ⟨congrArg (fun z => some (Value.int z)) (bI_1 (by omega)).symm, rfl⟩ | exact ⟨congrArg (fun z => some (Value.int z)) (bI_0 (by omega)).symm, rfl⟩)

set_option maxRecDepth 100000 in
set_option maxHeartbeats 4000000 in
theorem c_X3_isSeason {l : Launch} {E : xE} {C : xC} {b : Nat} {T : Tb} (gb : b + 4 < 61) (gT : RC E C b T) (gw : WB T) {x : Int32} : xR E l yX3_isSeason wsX3_isSeason 0 0 [.ref (E.2.1 (b)), .int x] C (bI (xin x (tn T))) := by
  obtain ⟨zK, zD, zS, zV, h0, h1, h2, h3, h4, gK, gD, gS, gV⟩ := id gT
  obtain ⟨gw1, gw2, gw3, gw4⟩ := id gw
  refine xM_ofY (cc := cX3_isSeason) (maxL := 2) (ret := (some .boolean)) (by decide) rfl (Nat.le_of_ble_eq_true rfl) ?_
  intro p e s m args below meth c X hr
  have inX3 : ∀ w ∈ wsX30, w ∈ wsX3_isSeason := by decide +kernel
  refine y_lv [(0, .ref (E.2.1 (b))), (1, .int x)] rfl ?_
  refine y_iload_n X dX3_isSeason_0 1 rfl ?_
  refine y_if_lt X 16 ((x).toInt < (0 : Int)) dX3_isSeason_1 (by decide) (cLt rfl (by decide)) (fun c_1 => ?_) (fun c_1 => ?_)
  ·
    refine y_iconst X (v := (0)) dX3_isSeason_16 (by decide) ?_
    exact y_zret X hr (by rfl) dX3_isSeason_17 rfl (by first | exact ⟨rfl, rfl⟩ | exact ⟨congrArg (fun z => some (Value.int z)) (bI_1 (by omega)).symm, rfl⟩ | exact ⟨congrArg (fun z => some (Value.int z)) (bI_0 (by omega)).symm, rfl⟩)
  ·
    refine y_iload_n X dX3_isSeason_4 1 rfl ?_
    refine y_aload_n X dX3_isSeason_5 0 rfl ?_
    refine y_get X (b) 3 0 (Cn := RX3) (T := TX3) (N := 6) (index := 9) (v := .int (nI (tn T))) dX3_isSeason_6 (by omega) h0 rfl (by decide) inX3 (by decide +kernel : Cond.fieldLink RX3 9 "ColumnSeasons$Table" "seasons" "I" ∈ wsX3_isSeason) rfl rfl ?_
    refine y_icmp_ge X 16 ((((tn T) : Nat) : Int) ≤ (x).toInt) dX3_isSeason_9 (by decide) (cLe (nI_toInt (by omega)) rfl) (fun c_2 => ?_) (fun c_2 => ?_)
    ·
      refine y_iconst X (v := (0)) dX3_isSeason_16 (by decide) ?_
      exact y_zret X hr (by rfl) dX3_isSeason_17 rfl (by first | exact ⟨rfl, rfl⟩ | exact ⟨congrArg (fun z => some (Value.int z)) (bI_1 (by omega)).symm, rfl⟩ | exact ⟨congrArg (fun z => some (Value.int z)) (bI_0 (by omega)).symm, rfl⟩)
    ·
      refine y_iconst X (v := (1)) dX3_isSeason_12 (by decide) ?_
      refine y_goto X 17 dX3_isSeason_13 (by decide) ?_
      exact y_zret X hr (by rfl) dX3_isSeason_17 rfl (by first | exact ⟨rfl, rfl⟩ | exact ⟨congrArg (fun z => some (Value.int z)) (bI_1 (by omega)).symm, rfl⟩ | exact ⟨congrArg (fun z => some (Value.int z)) (bI_0 (by omega)).symm, rfl⟩)

set_option maxRecDepth 100000 in
set_option maxHeartbeats 4000000 in
theorem c_X3_isRow {l : Launch} {E : xE} {C : xC} {b : Nat} {T : Tb} (gb : b + 4 < 61) (gT : RC E C b T) (gw : WB T) {x : Int32} : xR E l yX3_isRow wsX3_isRow 0 0 [.ref (E.2.1 (b)), .int x] C (bI (xin x (tr T))) := by
  obtain ⟨zK, zD, zS, zV, h0, h1, h2, h3, h4, gK, gD, gS, gV⟩ := id gT
  obtain ⟨gw1, gw2, gw3, gw4⟩ := id gw
  refine xM_ofY (cc := cX3_isRow) (maxL := 2) (ret := (some .boolean)) (by decide) rfl (Nat.le_of_ble_eq_true rfl) ?_
  intro p e s m args below meth c X hr
  have inX3 : ∀ w ∈ wsX30, w ∈ wsX3_isRow := by decide +kernel
  refine y_lv [(0, .ref (E.2.1 (b))), (1, .int x)] rfl ?_
  refine y_iload_n X dX3_isRow_0 1 rfl ?_
  refine y_if_lt X 16 ((x).toInt < (0 : Int)) dX3_isRow_1 (by decide) (cLt rfl (by decide)) (fun c_1 => ?_) (fun c_1 => ?_)
  ·
    refine y_iconst X (v := (0)) dX3_isRow_16 (by decide) ?_
    exact y_zret X hr (by rfl) dX3_isRow_17 rfl (by first | exact ⟨rfl, rfl⟩ | exact ⟨congrArg (fun z => some (Value.int z)) (bI_1 (by omega)).symm, rfl⟩ | exact ⟨congrArg (fun z => some (Value.int z)) (bI_0 (by omega)).symm, rfl⟩)
  ·
    refine y_iload_n X dX3_isRow_4 1 rfl ?_
    refine y_aload_n X dX3_isRow_5 0 rfl ?_
    refine y_get X (b) 3 3 (Cn := RX3) (T := TX3) (N := 6) (index := 22) (v := .int (nI (tr T))) dX3_isRow_6 (by omega) h0 rfl (by decide) inX3 (by decide +kernel : Cond.fieldLink RX3 22 "ColumnSeasons$Table" "rows" "I" ∈ wsX3_isRow) rfl rfl ?_
    refine y_icmp_ge X 16 ((((tr T) : Nat) : Int) ≤ (x).toInt) dX3_isRow_9 (by decide) (cLe (nI_toInt (by omega)) rfl) (fun c_2 => ?_) (fun c_2 => ?_)
    ·
      refine y_iconst X (v := (0)) dX3_isRow_16 (by decide) ?_
      exact y_zret X hr (by rfl) dX3_isRow_17 rfl (by first | exact ⟨rfl, rfl⟩ | exact ⟨congrArg (fun z => some (Value.int z)) (bI_1 (by omega)).symm, rfl⟩ | exact ⟨congrArg (fun z => some (Value.int z)) (bI_0 (by omega)).symm, rfl⟩)
    ·
      refine y_iconst X (v := (1)) dX3_isRow_12 (by decide) ?_
      refine y_goto X 17 dX3_isRow_13 (by decide) ?_
      exact y_zret X hr (by rfl) dX3_isRow_17 rfl (by first | exact ⟨rfl, rfl⟩ | exact ⟨congrArg (fun z => some (Value.int z)) (bI_1 (by omega)).symm, rfl⟩ | exact ⟨congrArg (fun z => some (Value.int z)) (bI_0 (by omega)).symm, rfl⟩)

set_option maxRecDepth 100000 in
set_option maxHeartbeats 4000000 in
theorem c_X3_kindIn {l : Launch} {E : xE} {C : xC} {b : Nat} {T : Tb} (gb : b + 4 < 61) (gT : RC E C b T) (gw : WB T) {q j : Nat} (gq : q < tn T) (gj : j < 8) : xR E l yX3_kindIn wsX3_kindIn 0 0 [.ref (E.2.1 (b)), .int (nI (q)), .int (nI (j))] C ((tk T q j)) := by
  obtain ⟨zK, zD, zS, zV, h0, h1, h2, h3, h4, gK, gD, gS, gV⟩ := id gT
  obtain ⟨gw1, gw2, gw3, gw4⟩ := id gw
  refine xM_ofY (cc := cX3_kindIn) (maxL := 3) (ret := (some .int)) (by decide) rfl (Nat.le_of_ble_eq_true rfl) ?_
  intro p e s m args below meth c X hr
  have inX3 : ∀ w ∈ wsX30, w ∈ wsX3_kindIn := by decide +kernel
  refine y_lv [(0, .ref (E.2.1 (b))), (1, .int (nI (q))), (2, .int (nI (j)))] rfl ?_
  refine y_aload_n X dX3_kindIn_0 0 rfl ?_
  refine y_get X (b) 3 1 (Cn := RX3) (T := TX3) (N := 6) (index := 15) (v := .ref (E.2.1 (b + 1))) dX3_kindIn_1 (by omega) h0 rfl (by decide) inX3 (by decide +kernel : Cond.fieldLink RX3 15 "ColumnSeasons$Table" "kinds" "[I" ∈ wsX3_kindIn) rfl rfl ?_
  refine y_iload_n X dX3_kindIn_4 1 rfl ?_
  refine y_bipush X (v := (8)) dX3_kindIn_5 (by decide) ?_
  refine y_imul X (z := (nI ((q) * (8)))) dX3_kindIn_7 (pk_mul (q) (8)) ?_
  refine y_iload_n X dX3_kindIn_8 2 rfl ?_
  refine y_iadd X (z := (nI ((q) * (8) + j))) dX3_kindIn_9 (nI_add ((q) * (8)) (j)) ?_
  refine y_iald X (b + 1) dX3_kindIn_10 (by omega) h1 (j := (q) * (8) + j) rfl (by omega) (by omega) (z := (tk T q j)) (gK q j gq gj) ?_
  exact y_iret X hr dX3_kindIn_11 rfl (by first | exact ⟨rfl, rfl⟩ | exact ⟨congrArg (fun z => some (Value.int z)) (bI_1 (by omega)).symm, rfl⟩ | exact ⟨congrArg (fun z => some (Value.int z)) (bI_0 (by omega)).symm, rfl⟩)

set_option maxRecDepth 100000 in
set_option maxHeartbeats 4000000 in
theorem c_X3_standardIn {l : Launch} {E : xE} {C : xC} {b : Nat} {T : Tb} (gb : b + 4 < 61) (gT : RC E C b T) (gw : WB T) {q j : Nat} (gq : q < tn T) (gj : j < 8) : xR E l yX3_standardIn wsX3_standardIn 0 0 [.ref (E.2.1 (b)), .int (nI (q)), .int (nI (j))] C ((td T q j)) := by
  obtain ⟨zK, zD, zS, zV, h0, h1, h2, h3, h4, gK, gD, gS, gV⟩ := id gT
  obtain ⟨gw1, gw2, gw3, gw4⟩ := id gw
  refine xM_ofY (cc := cX3_standardIn) (maxL := 3) (ret := (some .int)) (by decide) rfl (Nat.le_of_ble_eq_true rfl) ?_
  intro p e s m args below meth c X hr
  have inX3 : ∀ w ∈ wsX30, w ∈ wsX3_standardIn := by decide +kernel
  refine y_lv [(0, .ref (E.2.1 (b))), (1, .int (nI (q))), (2, .int (nI (j)))] rfl ?_
  refine y_aload_n X dX3_standardIn_0 0 rfl ?_
  refine y_get X (b) 3 2 (Cn := RX3) (T := TX3) (N := 6) (index := 19) (v := .ref (E.2.1 (b + 2))) dX3_standardIn_1 (by omega) h0 rfl (by decide) inX3 (by decide +kernel : Cond.fieldLink RX3 19 "ColumnSeasons$Table" "standards" "[I" ∈ wsX3_standardIn) rfl rfl ?_
  refine y_iload_n X dX3_standardIn_4 1 rfl ?_
  refine y_bipush X (v := (8)) dX3_standardIn_5 (by decide) ?_
  refine y_imul X (z := (nI ((q) * (8)))) dX3_standardIn_7 (pk_mul (q) (8)) ?_
  refine y_iload_n X dX3_standardIn_8 2 rfl ?_
  refine y_iadd X (z := (nI ((q) * (8) + j))) dX3_standardIn_9 (nI_add ((q) * (8)) (j)) ?_
  refine y_iald X (b + 2) dX3_standardIn_10 (by omega) h2 (j := (q) * (8) + j) rfl (by omega) (by omega) (z := (td T q j)) (gD q j gq gj) ?_
  exact y_iret X hr dX3_standardIn_11 rfl (by first | exact ⟨rfl, rfl⟩ | exact ⟨congrArg (fun z => some (Value.int z)) (bI_1 (by omega)).symm, rfl⟩ | exact ⟨congrArg (fun z => some (Value.int z)) (bI_0 (by omega)).symm, rfl⟩)

set_option maxRecDepth 100000 in
set_option maxHeartbeats 4000000 in
theorem c_X3_valueAt {l : Launch} {E : xE} {C : xC} {b : Nat} {T : Tb} (gb : b + 4 < 61) (gT : RC E C b T) (gw : WB T) {i j : Nat} (gi : i < tr T) (gj : j < 8) (gc : ¬ tk T (ts T i) j = -1) : xR E l yX3_valueAt wsX3_valueAt 0 0 [.ref (E.2.1 (b)), .int (nI (i)), .int (nI (j))] C ((tv T i j)) := by
  obtain ⟨zK, zD, zS, zV, h0, h1, h2, h3, h4, gK, gD, gS, gV⟩ := id gT
  obtain ⟨gw1, gw2, gw3, gw4⟩ := id gw
  refine xM_ofY (cc := cX3_valueAt) (maxL := 3) (ret := (some .int)) (by decide) rfl (Nat.le_of_ble_eq_true rfl) ?_
  intro p e s m args below meth c X hr
  have inX3 : ∀ w ∈ wsX30, w ∈ wsX3_valueAt := by decide +kernel
  refine y_lv [(0, .ref (E.2.1 (b))), (1, .int (nI (i))), (2, .int (nI (j)))] rfl ?_
  refine y_aload_n X dX3_valueAt_0 0 rfl ?_
  refine y_get X (b) 3 5 (Cn := RX3) (T := TX3) (N := 6) (index := 28) (v := .ref (E.2.1 (b + 4))) dX3_valueAt_1 (by omega) h0 rfl (by decide) inX3 (by decide +kernel : Cond.fieldLink RX3 28 "ColumnSeasons$Table" "values" "[I" ∈ wsX3_valueAt) rfl rfl ?_
  refine y_iload_n X dX3_valueAt_4 1 rfl ?_
  refine y_bipush X (v := (8)) dX3_valueAt_5 (by decide) ?_
  refine y_imul X (z := (nI ((i) * (8)))) dX3_valueAt_7 (pk_mul (i) (8)) ?_
  refine y_iload_n X dX3_valueAt_8 2 rfl ?_
  refine y_iadd X (z := (nI ((i) * (8) + j))) dX3_valueAt_9 (nI_add ((i) * (8)) (j)) ?_
  refine y_iald X (b + 4) dX3_valueAt_10 (by omega) h4 (j := (i) * (8) + j) rfl (by omega) (by omega) (z := (tv T i j)) (gV i j gi gj gc) ?_
  exact y_iret X hr dX3_valueAt_11 rfl (by first | exact ⟨rfl, rfl⟩ | exact ⟨congrArg (fun z => some (Value.int z)) (bI_1 (by omega)).symm, rfl⟩ | exact ⟨congrArg (fun z => some (Value.int z)) (bI_0 (by omega)).symm, rfl⟩)

set_option maxRecDepth 100000 in
set_option maxHeartbeats 4000000 in
theorem c_X3_seasonOfRow {l : Launch} {E : xE} {C : xC} {b : Nat} {T : Tb} (gb : b + 4 < 61) (gT : RC E C b T) (gw : WB T) {i : Nat} (gi : i < tr T) : xR E l yX3_seasonOfRow wsX3_seasonOfRow 0 0 [.ref (E.2.1 (b)), .int (nI (i))] C (nI (ts T i)) := by
  obtain ⟨zK, zD, zS, zV, h0, h1, h2, h3, h4, gK, gD, gS, gV⟩ := id gT
  obtain ⟨gw1, gw2, gw3, gw4⟩ := id gw
  refine xM_ofY (cc := cX3_seasonOfRow) (maxL := 2) (ret := (some .int)) (by decide) rfl (Nat.le_of_ble_eq_true rfl) ?_
  intro p e s m args below meth c X hr
  have inX3 : ∀ w ∈ wsX30, w ∈ wsX3_seasonOfRow := by decide +kernel
  refine y_lv [(0, .ref (E.2.1 (b))), (1, .int (nI (i)))] rfl ?_
  refine y_aload_n X dX3_seasonOfRow_0 0 rfl ?_
  refine y_get X (b) 3 4 (Cn := RX3) (T := TX3) (N := 6) (index := 25) (v := .ref (E.2.1 (b + 3))) dX3_seasonOfRow_1 (by omega) h0 rfl (by decide) inX3 (by decide +kernel : Cond.fieldLink RX3 25 "ColumnSeasons$Table" "rowSeasons" "[I" ∈ wsX3_seasonOfRow) rfl rfl ?_
  refine y_iload_n X dX3_seasonOfRow_4 1 rfl ?_
  refine y_iald X (b + 3) dX3_seasonOfRow_5 (by omega) h3 (j := i) rfl (by omega) (by omega) (z := (nI (ts T i))) (gS i gi) ?_
  exact y_iret X hr dX3_seasonOfRow_6 rfl (by first | exact ⟨rfl, rfl⟩ | exact ⟨congrArg (fun z => some (Value.int z)) (bI_1 (by omega)).symm, rfl⟩ | exact ⟨congrArg (fun z => some (Value.int z)) (bI_0 (by omega)).symm, rfl⟩)

set_option maxRecDepth 100000 in
set_option maxHeartbeats 4000000 in
theorem c_X3_kindInRow {l : Launch} {E : xE} {C : xC} {b : Nat} {T : Tb} (gb : b + 4 < 61) (gT : RC E C b T) (gw : WB T) {i j : Nat} (gi : i < tr T) (gj : j < 8) : xR E l yX3_kindInRow wsX3_kindInRow 1 22 [.ref (E.2.1 (b)), .int (nI (i)), .int (nI (j))] C (tk T (ts T i) j) := by
  obtain ⟨zK, zD, zS, zV, h0, h1, h2, h3, h4, gK, gD, gS, gV⟩ := id gT
  obtain ⟨gw1, gw2, gw3, gw4⟩ := id gw
  refine xM_ofY (cc := cX3_kindInRow) (maxL := 3) (ret := (some .int)) (by decide) rfl (Nat.le_of_ble_eq_true rfl) ?_
  intro p e s m args below meth c X hr
  have inX3 : ∀ w ∈ wsX30, w ∈ wsX3_kindInRow := by decide +kernel
  refine y_lv [(0, .ref (E.2.1 (b))), (1, .int (nI (i))), (2, .int (nI (j)))] rfl ?_
  have hs := gw4 i gi
  refine y_aload_n X dX3_kindInRow_0 0 rfl ?_
  refine y_aload_n X dX3_kindInRow_1 0 rfl ?_
  refine y_get X (b) 3 4 (Cn := RX3) (T := TX3) (N := 6) (index := 25) (v := .ref (E.2.1 (b + 3))) dX3_kindInRow_2 (by omega) h0 rfl (by decide) inX3 (by decide +kernel : Cond.fieldLink RX3 25 "ColumnSeasons$Table" "rowSeasons" "[I" ∈ wsX3_kindInRow) rfl rfl ?_
  refine y_iload_n X dX3_kindInRow_5 1 rfl ?_
  refine y_iald X (b + 3) dX3_kindInRow_6 (by omega) h3 (j := i) rfl (by omega) (by omega) (z := (nI (ts T i))) (gS i gi) ?_
  refine y_iload_n X dX3_kindInRow_7 2 rfl ?_
  refine y_callVr X (b) 3 (av := [.int (nI (ts T i)), .int (nI (j))]) [] 2 (c_X3_kindIn (b := b) (by omega) gT gw (q := ts T i) (j := j) (by omega) (by omega)) (by omega) h0 rfl gX3_kindInRow_X3_kindIn rfl (by decide +kernel) rfl ⟨Nat.le_of_ble_eq_true rfl, Nat.le_of_ble_eq_true rfl⟩ ⟨Nat.zero_le _, Nat.zero_le _⟩ (Nat.le_of_ble_eq_true rfl) rfl dX3_kindInRow_8 ?_
  exact y_iret X hr dX3_kindInRow_11 rfl (by first | exact ⟨rfl, rfl⟩ | exact ⟨congrArg (fun z => some (Value.int z)) (bI_1 (by omega)).symm, rfl⟩ | exact ⟨congrArg (fun z => some (Value.int z)) (bI_0 (by omega)).symm, rfl⟩)
