set_option maxRecDepth 100000 in
set_option maxHeartbeats 4000000 in
theorem c_J6_bitCount_0f7a4 {l : Launch} {E : xE} {C : xC} {x : Int32} : xR E l yJ6_bitCount_0f7a4 wsJ6_bitCount_0f7a4 0 0 [.int x] C (bcn x) := by
  refine xM_ofY (cc := cJ6_bitCount_0f7a4) (maxL := 1) (ret := (some .int)) (by decide) rfl (Nat.le_of_ble_eq_true rfl) ?_
  intro p e s m args below meth c X hr
  refine y_lv [(0, .int x)] rfl ?_
  refine y_iload_n X dJ6_bitCount_0f7a4_0 0 rfl ?_
  refine y_iload_n X dJ6_bitCount_0f7a4_1 0 rfl ?_
  refine y_iconst X (v := (1)) dJ6_bitCount_0f7a4_2 (by decide) ?_
  refine y_iushr X (z := ((x.toUInt32 >>> (((1) : Int32).toUInt32 &&& Int32.toUInt32 31)).toInt32)) dJ6_bitCount_0f7a4_3 rfl ?_
  refine y_ldcw X (v := 1431655765) dJ6_bitCount_0f7a4_4 (by decide +kernel) ?_
  refine y_iand X (z := (((x.toUInt32 >>> (((1) : Int32).toUInt32 &&& Int32.toUInt32 31)).toInt32) &&& (1431655765))) dJ6_bitCount_0f7a4_7 rfl ?_
  refine y_isub X (z := (x - (((x.toUInt32 >>> (((1) : Int32).toUInt32 &&& Int32.toUInt32 31)).toInt32) &&& (1431655765)))) dJ6_bitCount_0f7a4_8 rfl ?_
  refine y_topi (fun xb1 exb1 => ?_)
  refine y_istore_n X [(0, .int xb1)] dJ6_bitCount_0f7a4_9 rfl (by decide) rfl ?_
  refine y_iload_n X dJ6_bitCount_0f7a4_10 0 rfl ?_
  refine y_ldcw X (v := 858993459) dJ6_bitCount_0f7a4_11 (by decide +kernel) ?_
  refine y_iand X (z := (xb1 &&& (858993459))) dJ6_bitCount_0f7a4_14 rfl ?_
  refine y_iload_n X dJ6_bitCount_0f7a4_15 0 rfl ?_
  refine y_iconst X (v := (2)) dJ6_bitCount_0f7a4_16 (by decide) ?_
  refine y_iushr X (z := ((xb1.toUInt32 >>> (((2) : Int32).toUInt32 &&& Int32.toUInt32 31)).toInt32)) dJ6_bitCount_0f7a4_17 rfl ?_
  refine y_ldcw X (v := 858993459) dJ6_bitCount_0f7a4_18 (by decide +kernel) ?_
  refine y_iand X (z := (((xb1.toUInt32 >>> (((2) : Int32).toUInt32 &&& Int32.toUInt32 31)).toInt32) &&& (858993459))) dJ6_bitCount_0f7a4_21 rfl ?_
  refine y_iadd X (z := ((xb1 &&& (858993459)) + (((xb1.toUInt32 >>> (((2) : Int32).toUInt32 &&& Int32.toUInt32 31)).toInt32) &&& (858993459)))) dJ6_bitCount_0f7a4_22 rfl ?_
  refine y_topi (fun xb2 exb2 => ?_)
  refine y_istore_n X [(0, .int xb2)] dJ6_bitCount_0f7a4_23 rfl (by decide) rfl ?_
  refine y_iload_n X dJ6_bitCount_0f7a4_24 0 rfl ?_
  refine y_iload_n X dJ6_bitCount_0f7a4_25 0 rfl ?_
  refine y_iconst X (v := (4)) dJ6_bitCount_0f7a4_26 (by decide) ?_
  refine y_iushr X (z := ((xb2.toUInt32 >>> (((4) : Int32).toUInt32 &&& Int32.toUInt32 31)).toInt32)) dJ6_bitCount_0f7a4_27 rfl ?_
  refine y_iadd X (z := (xb2 + ((xb2.toUInt32 >>> (((4) : Int32).toUInt32 &&& Int32.toUInt32 31)).toInt32))) dJ6_bitCount_0f7a4_28 rfl ?_
  refine y_ldcw X (v := 252645135) dJ6_bitCount_0f7a4_29 (by decide +kernel) ?_
  refine y_iand X (z := ((xb2 + ((xb2.toUInt32 >>> (((4) : Int32).toUInt32 &&& Int32.toUInt32 31)).toInt32)) &&& (252645135))) dJ6_bitCount_0f7a4_32 rfl ?_
  refine y_topi (fun xb3 exb3 => ?_)
  refine y_istore_n X [(0, .int xb3)] dJ6_bitCount_0f7a4_33 rfl (by decide) rfl ?_
  refine y_iload_n X dJ6_bitCount_0f7a4_34 0 rfl ?_
  refine y_iload_n X dJ6_bitCount_0f7a4_35 0 rfl ?_
  refine y_bipush X (v := (8)) dJ6_bitCount_0f7a4_36 (by decide) ?_
  refine y_iushr X (z := ((xb3.toUInt32 >>> (((8) : Int32).toUInt32 &&& Int32.toUInt32 31)).toInt32)) dJ6_bitCount_0f7a4_38 rfl ?_
  refine y_iadd X (z := (xb3 + ((xb3.toUInt32 >>> (((8) : Int32).toUInt32 &&& Int32.toUInt32 31)).toInt32))) dJ6_bitCount_0f7a4_39 rfl ?_
  refine y_topi (fun xb4 exb4 => ?_)
  refine y_istore_n X [(0, .int xb4)] dJ6_bitCount_0f7a4_40 rfl (by decide) rfl ?_
  refine y_iload_n X dJ6_bitCount_0f7a4_41 0 rfl ?_
  refine y_iload_n X dJ6_bitCount_0f7a4_42 0 rfl ?_
  refine y_bipush X (v := (16)) dJ6_bitCount_0f7a4_43 (by decide) ?_
  refine y_iushr X (z := ((xb4.toUInt32 >>> (((16) : Int32).toUInt32 &&& Int32.toUInt32 31)).toInt32)) dJ6_bitCount_0f7a4_45 rfl ?_
  refine y_iadd X (z := (xb4 + ((xb4.toUInt32 >>> (((16) : Int32).toUInt32 &&& Int32.toUInt32 31)).toInt32))) dJ6_bitCount_0f7a4_46 rfl ?_
  refine y_topi (fun xb5 exb5 => ?_)
  refine y_istore_n X [(0, .int xb5)] dJ6_bitCount_0f7a4_47 rfl (by decide) rfl ?_
  refine y_iload_n X dJ6_bitCount_0f7a4_48 0 rfl ?_
  refine y_bipush X (v := (63)) dJ6_bitCount_0f7a4_49 (by decide) ?_
  refine y_iand X (z := (xb5 &&& (63))) dJ6_bitCount_0f7a4_51 rfl ?_
  exact y_iret X hr dJ6_bitCount_0f7a4_52 rfl ⟨by rw [exb5, exb4, exb3, exb2, exb1]; rfl, rfl⟩

