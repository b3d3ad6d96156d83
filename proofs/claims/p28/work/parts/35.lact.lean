set_option maxRecDepth 100000 in
set_option maxHeartbeats 4000000 in
theorem c_L_act {l : Launch} {E : xE} {C : xC} {T : Tb} {hh : Nat → Tb} {hn : Nat} {sn : Option Tb} {tx : Nat → Int32} {ln : Nat} {sp : Option (Nat × Int32)} (gC : CX E C T hh hn sn tx ln sp) (gW : WX T hh hn sn tx ln sp) (gd : DIF T) {k : Nat} (gk : k + 2 < 2 ^ 20) (gl : xsl E < 2 ^ 20) : xM E l yL_act wsL_act 6 136 [.ref (E.2.1 (0)), .ref (xsb E), .int (nI (k))] C (fun v C1 => ∃ r : Int32 × Tb, v = some (.int r.1) ∧ CX E C1 (acT r T) (acH r T hh hn) (acN r hn) sn tx ln sp ∧ AOK T (nI (lowN (cel E k) 20)) r) := by
  obtain ⟨f0, e0⟩ := CX_0 gC
  obtain ⟨gv, gn4, -, -, -, -, -⟩ := id gW
  obtain ⟨gw1, gw2, gw3, gw4⟩ := id gv.1
  have gna := nal_le gv.1
  have gla := nla_le (T := T) (q := tn T - 1)
  have gbl := bsC_lt gw1
  have gbs := bs_least gv.1
  refine xM_ofY (cc := cL_act) (maxL := 9) (ret := (some .int)) (by decide) rfl (Nat.le_of_ble_eq_true rfl) ?_
  intro p e s m args below meth c X hr
  refine y_lv [(0, .ref (E.2.1 (0))), (1, .ref (xsb E)), (2, .int (nI (k)))] rfl ?_
  refine y_aload_n X dL_act_0 1 rfl ?_
  refine y_iload_n X dL_act_1 2 rfl ?_
  refine y_iconst X (v := (1)) dL_act_2 (by decide) ?_
  refine y_iadd X (z := (nI (k + 1))) dL_act_3 (nI_add (k) (1)) ?_
  refine y_callJr X (av := [.ref (xsb E), .int (nI (k + 1))]) [] 2 (c_L_cell (k := k + 1) (by omega) (by omega)) gL_act_L_cell rfl (by decide +kernel) rfl ⟨Nat.le_of_ble_eq_true rfl, Nat.le_of_ble_eq_true rfl⟩ ⟨Nat.zero_le _, Nat.zero_le _⟩ (Nat.le_of_ble_eq_true rfl) rfl dL_act_4 ?_
  refine y_topi (fun u3 eu3 => ?_)
  refine y_istore_n X [(3, .int u3), (0, .ref (E.2.1 (0))), (1, .ref (xsb E)), (2, .int (nI (k)))] dL_act_7 rfl (by decide) rfl ?_
  refine y_aload_n X dL_act_8 2 rfl ?_
  refine y_iload_n X dL_act_9 3 rfl ?_
  refine y_iconst X (v := (2)) dL_act_10 (by decide) ?_
  refine y_iadd X (z := (nI (k + 2))) dL_act_11 (nI_add (k) (2)) ?_
  refine y_callJr X (av := [.ref (xsb E), .int (nI (k + 2))]) [] 2 (c_L_cell (k := k + 2) (by omega) (by omega)) gL_act_L_cell rfl (by decide +kernel) rfl ⟨Nat.le_of_ble_eq_true rfl, Nat.le_of_ble_eq_true rfl⟩ ⟨Nat.zero_le _, Nat.zero_le _⟩ (Nat.le_of_ble_eq_true rfl) rfl dL_act_12 ?_
  refine y_topi (fun u4 eu4 => ?_)
  refine y_istore X [(4, .int u4), (3, .int u3), (0, .ref (E.2.1 (0))), (1, .ref (xsb E)), (2, .int (nI (k)))] dL_act_15 (by decide) rfl ?_
  refine y_aload_n X dL_act_17 2 rfl ?_
  refine y_iconst X (v := (2)) dL_act_18 (by decide) ?_
  refine y_callVr X (0) 4 (av := [.int (2)]) [] 1 ((xR_eq rCt_2 (c_X4_count (w := 2) gC gW))) (by omega) e0 rfl gL_act_X4_count rfl (by decide +kernel) rfl ⟨Nat.le_of_ble_eq_true rfl, Nat.le_of_ble_eq_true rfl⟩ ⟨Nat.zero_le _, Nat.zero_le _⟩ (Nat.le_of_ble_eq_true rfl) rfl dL_act_19 ?_
  refine y_istore X [(5, .int (nI (tr T))), (4, .int u4), (3, .int u3), (0, .ref (E.2.1 (0))), (1, .ref (xsb E)), (2, .int (nI (k)))] dL_act_22 (by decide) rfl ?_
  have J_45 : ∀ (u6 : Int32), xY p l e ({ frames := 6, cells := 0, slots := 0, locals := 136 } : Room) s m args below meth c E (xA E) 9 0 0 (MQ below (xQ E (fun v C1 => ∃ r : Int32 × Tb, v = some (.int r.1) ∧ CX E C1 (acT r T) (acH r T hh hn) (acN r hn) sn tx ln sp ∧ AOK T (nI (lowN (cel E k) 20)) r)) args s 0 0 (xA E)) C 45 [(5, .int (nI (tr T))), (4, .int u4), (3, .int u3), (0, .ref (E.2.1 (0))), (1, .ref (xsb E)), (2, .int (nI (k)))] [.int u6] := by
    intro u6
    refine y_istore X [(6, .int u6), (5, .int (nI (tr T))), (4, .int u4), (3, .int u3), (0, .ref (E.2.1 (0))), (1, .ref (xsb E)), (2, .int (nI (k)))] dL_act_45 (by decide) rfl ?_
    refine y_iload X dL_act_47 2 rfl ?_
    refine y_iconst X (v := (3)) dL_act_49 (by decide) ?_
    have glo_1 : lowN u4 (3) < 3 := lowN_lt (by omega)
    refine y_callJr X (av := [.int u4, .int (3)]) [] 2 (c_L_low (x := u4) (n := 3) (by omega) (by omega)) gL_act_L_low rfl (by decide +kernel) rfl ⟨Nat.le_of_ble_eq_true rfl, Nat.le_of_ble_eq_true rfl⟩ ⟨Nat.zero_le _, Nat.zero_le _⟩ (Nat.le_of_ble_eq_true rfl) rfl dL_act_50 ?_
    refine y_topi (fun u7 eu7 => ?_)
    refine y_istore X [(7, .int u7), (6, .int u6), (5, .int (nI (tr T))), (4, .int u4), (3, .int u3), (0, .ref (E.2.1 (0))), (1, .ref (xsb E)), (2, .int (nI (k)))] dL_act_53 (by decide) rfl ?_
    have J_72 : ∀ (i8 : Nat), (tr T = 0 ∨ i8 < tr T) → xY p l e ({ frames := 6, cells := 0, slots := 0, locals := 136 } : Room) s m args below meth c E (xA E) 9 0 0 (MQ below (xQ E (fun v C1 => ∃ r : Int32 × Tb, v = some (.int r.1) ∧ CX E C1 (acT r T) (acH r T hh hn) (acN r hn) sn tx ln sp ∧ AOK T (nI (lowN (cel E k) 20)) r)) args s 0 0 (xA E)) C 72 [(7, .int u7), (6, .int u6), (5, .int (nI (tr T))), (4, .int u4), (3, .int u3), (0, .ref (E.2.1 (0))), (1, .ref (xsb E)), (2, .int (nI (k)))] [.int (nI (i8))] := by
      intro i8 g8
      refine y_istore X [(8, .int (nI (i8))), (7, .int u7), (6, .int u6), (5, .int (nI (tr T))), (4, .int u4), (3, .int u3), (0, .ref (E.2.1 (0))), (1, .ref (xsb E)), (2, .int (nI (k)))] dL_act_72 (by decide) rfl ?_
      refine y_aload_n X dL_act_74 7 rfl ?_
      refine y_iload_n X dL_act_75 8 rfl ?_
      refine y_callJr X (av := [.ref (xsb E), .int (nI (k))]) [] 2 (c_L_cell (k := k) (by omega) (by omega)) gL_act_L_cell rfl (by decide +kernel) rfl ⟨Nat.le_of_ble_eq_true rfl, Nat.le_of_ble_eq_true rfl⟩ ⟨Nat.zero_le _, Nat.zero_le _⟩ (Nat.le_of_ble_eq_true rfl) rfl dL_act_76 ?_
      refine y_bipush X (v := (20)) dL_act_79 (by decide) ?_
      have glo_2 : lowN (cel E (k)) (20) < 20 := lowN_lt (by omega)
      refine y_callJr X (av := [.int (cel E (k)), .int (20)]) [] 2 (c_L_low (x := (cel E (k))) (n := 20) (by omega) (by omega)) gL_act_L_low rfl (by decide +kernel) rfl ⟨Nat.le_of_ble_eq_true rfl, Nat.le_of_ble_eq_true rfl⟩ ⟨Nat.zero_le _, Nat.zero_le _⟩ (Nat.le_of_ble_eq_true rfl) rfl dL_act_81 ?_
      refine y_topi (fun u9 eu9 => ?_)
      have g9 : 0 ≤ u9.toInt ∧ u9.toInt < 20 := by rw [eu9, nI_toInt (by omega)]; omega
      have J_176 : (u9.toInt ≤ 6) → xY p l e ({ frames := 6, cells := 0, slots := 0, locals := 136 } : Room) s m args below meth c E (xA E) 9 0 0 (MQ below (xQ E (fun v C1 => ∃ r : Int32 × Tb, v = some (.int r.1) ∧ CX E C1 (acT r T) (acH r T hh hn) (acN r hn) sn tx ln sp ∧ AOK T (nI (lowN (cel E k) 20)) r)) args s 0 0 (xA E)) C 176 [(8, .int (nI (i8))), (7, .int u7), (6, .int u6), (5, .int (nI (tr T))), (4, .int u4), (3, .int u3), (0, .ref (E.2.1 (0))), (1, .ref (xsb E)), (2, .int (nI (k)))] [] := by
        intro hu
        refine y_aload_n X dL_act_176 6 rfl ?_
        refine y_iload X dL_act_177 2 rfl ?_
        refine y_iload X dL_act_179 1 rfl ?_
        refine y_iload X dL_act_181 4 rfl ?_
        refine y_iconst X (v := (2)) dL_act_183 (by decide) ?_
        refine y_ishr X (z := (u4 >>> ((2) &&& 31))) dL_act_184 rfl ?_
        refine y_iload X dL_act_185 1 rfl ?_
        refine y_callJ X (av := [.int (u4 >>> ((2) &&& 31)), .int u7]) [.int u7, .int u6, .ref (E.2.1 (0))] 2 (c_L_valued (x := (u4 >>> ((2) &&& 31))) (y := u7)) gL_act_L_valued rfl (by decide +kernel) rfl ⟨Nat.le_of_ble_eq_true rfl, Nat.le_of_ble_eq_true rfl⟩ ⟨Nat.zero_le _, Nat.zero_le _⟩ (Nat.le_of_ble_eq_true rfl) rfl dL_act_187 (fun v_3 C_4 hp_5 => ?_)
        obtain ⟨⟨rv_6, gv9⟩, gc9⟩ := hp_5
        subst gv9
        have gc8 := gc9.symm
        subst gc8
        refine y_callV X (0) 4 (av := [.int u6, .int u7, .int rv_6]) [] 3 (c_X4_add (x := u6) (k0 := u7) (d0 := rv_6) gC gW) (by omega) e0 rfl gL_act_X4_add rfl (by decide +kernel) rfl ⟨Nat.le_of_ble_eq_true rfl, Nat.le_of_ble_eq_true rfl⟩ ⟨Nat.zero_le _, Nat.zero_le _⟩ (Nat.le_of_ble_eq_true rfl) rfl dL_act_190 (fun v_7 C_8 hp_9 => ?_)
        obtain ⟨gv9, gC1, gF1⟩ := hp_9
        subst gv9
        exact y_iret X hr dL_act_193 rfl ⟨sAdd T u6 u7 rv_6, rfl, gC1, (by rw [← eu9]; exact AOK_add gv gd (by first | omega | decide))⟩
      have J_201 : (u9.toInt ≤ 6) → xY p l e ({ frames := 6, cells := 0, slots := 0, locals := 136 } : Room) s m args below meth c E (xA E) 9 0 0 (MQ below (xQ E (fun v C1 => ∃ r : Int32 × Tb, v = some (.int r.1) ∧ CX E C1 (acT r T) (acH r T hh hn) (acN r hn) sn tx ln sp ∧ AOK T (nI (lowN (cel E k) 20)) r)) args s 0 0 (xA E)) C 201 [(8, .int (nI (i8))), (7, .int u7), (6, .int u6), (5, .int (nI (tr T))), (4, .int u4), (3, .int u3), (0, .ref (E.2.1 (0))), (1, .ref (xsb E)), (2, .int (nI (k)))] [] := by
        intro hu
        refine y_aload_n X dL_act_201 6 rfl ?_
        refine y_iload X dL_act_202 2 rfl ?_
        refine y_iload X dL_act_204 1 rfl ?_
        refine y_callV X (0) 4 (av := [.int u6, .int u7]) [] 2 (c_X4_kind (x := u6) (k0 := u7) gC gW) (by omega) e0 rfl gL_act_X4_kind rfl (by decide +kernel) rfl ⟨Nat.le_of_ble_eq_true rfl, Nat.le_of_ble_eq_true rfl⟩ ⟨Nat.zero_le _, Nat.zero_le _⟩ (Nat.le_of_ble_eq_true rfl) rfl dL_act_206 (fun v_10 C_11 hp_12 => ?_)
        obtain ⟨gv9, gC1, gF1⟩ := hp_12
        subst gv9
        exact y_iret X hr dL_act_209 rfl ⟨sKind T u6 u7, rfl, gC1, (by rw [← eu9]; exact AOK_kind gv gd (by first | omega | decide))⟩
      have J_210 : (7 ≤ u9.toInt) → (u9.toInt ≤ 16) → xY p l e ({ frames := 6, cells := 0, slots := 0, locals := 136 } : Room) s m args below meth c E (xA E) 9 0 0 (MQ below (xQ E (fun v C1 => ∃ r : Int32 × Tb, v = some (.int r.1) ∧ CX E C1 (acT r T) (acH r T hh hn) (acN r hn) sn tx ln sp ∧ AOK T (nI (lowN (cel E k) 20)) r)) args s 0 0 (xA E)) C 210 [(8, .int (nI (i8))), (7, .int u7), (6, .int u6), (5, .int (nI (tr T))), (4, .int u4), (3, .int u3), (0, .ref (E.2.1 (0))), (1, .ref (xsb E)), (2, .int (nI (k)))] [] := by
        intro hu hv
        refine y_aload_n X dL_act_210 6 rfl ?_
        refine y_callV X (0) 4 (av := []) [] 0 (c_X4_row  gC gW) (by omega) e0 rfl gL_act_X4_row rfl (by decide +kernel) rfl ⟨Nat.le_of_ble_eq_true rfl, Nat.le_of_ble_eq_true rfl⟩ ⟨Nat.zero_le _, Nat.zero_le _⟩ (Nat.le_of_ble_eq_true rfl) rfl dL_act_211 (fun v_13 C_14 hp_15 => ?_)
        obtain ⟨gv9, gC1, gF1⟩ := hp_15
        subst gv9
        exact y_iret X hr dL_act_214 rfl ⟨sRow T, rfl, gC1, (by rw [← eu9]; exact AOK_row gv gd (by first | omega | decide) (by first | omega | decide))⟩
      have J_215 : (7 ≤ u9.toInt) → (u9.toInt ≤ 16) → xY p l e ({ frames := 6, cells := 0, slots := 0, locals := 136 } : Room) s m args below meth c E (xA E) 9 0 0 (MQ below (xQ E (fun v C1 => ∃ r : Int32 × Tb, v = some (.int r.1) ∧ CX E C1 (acT r T) (acH r T hh hn) (acN r hn) sn tx ln sp ∧ AOK T (nI (lowN (cel E k) 20)) r)) args s 0 0 (xA E)) C 215 [(8, .int (nI (i8))), (7, .int u7), (6, .int u6), (5, .int (nI (tr T))), (4, .int u4), (3, .int u3), (0, .ref (E.2.1 (0))), (1, .ref (xsb E)), (2, .int (nI (k)))] [] := by
        intro hu hv
        refine y_aload_n X dL_act_215 6 rfl ?_
        refine y_iload X dL_act_216 0 rfl ?_
        refine y_iload X dL_act_218 2 rfl ?_
        refine y_iload X dL_act_220 4 rfl ?_
        refine y_iconst X (v := (2)) dL_act_222 (by decide) ?_
        refine y_ishr X (z := (u4 >>> ((2) &&& 31))) dL_act_223 rfl ?_
        refine y_iload X dL_act_224 3 rfl ?_
        refine y_if_eq X 245 ((tr T) = (0)) dL_act_226 (by decide) (nI_eq (a := tr T) (b := 0) (by omega) (by omega)) (fun c_16 => ?_) (fun c_16 => ?_)
        ·
          refine y_iconst X (v := (2)) dL_act_245 (by decide) ?_
          refine y_goto X 262 dL_act_246 (by decide) ?_
          refine y_callJ X (av := [.int (u4 >>> ((2) &&& 31)), .int (2)]) [.int u6, .int (nI (i8)), .ref (E.2.1 (0))] 2 (c_L_valued (x := (u4 >>> ((2) &&& 31))) (y := (2))) gL_act_L_valued rfl (by decide +kernel) rfl ⟨Nat.le_of_ble_eq_true rfl, Nat.le_of_ble_eq_true rfl⟩ ⟨Nat.zero_le _, Nat.zero_le _⟩ (Nat.le_of_ble_eq_true rfl) rfl dL_act_262 (fun v_17 C_18 hp_19 => ?_)
          obtain ⟨⟨rv_20, gv9⟩, gc9⟩ := hp_19
          subst gv9
          have gc8 := gc9.symm
          subst gc8
          refine y_callV X (0) 4 (av := [.int (nI (i8)), .int u6, .int rv_20]) [] 3 (c_X4_set (x := (nI (i8))) (y := u6) (v0 := rv_20) gC gW) (by omega) e0 rfl gL_act_X4_set rfl (by decide +kernel) rfl ⟨Nat.le_of_ble_eq_true rfl, Nat.le_of_ble_eq_true rfl⟩ ⟨Nat.zero_le _, Nat.zero_le _⟩ (Nat.le_of_ble_eq_true rfl) rfl dL_act_265 (fun v_21 C_22 hp_23 => ?_)
          obtain ⟨gv9, gC1, gF1⟩ := hp_23
          subst gv9
          exact y_iret X hr dL_act_268 rfl ⟨sSet T (nI (i8)) u6 rv_20, rfl, gC1, (by rw [← eu9]; exact AOK_set gv gd (by first | omega | decide) (by first | omega | decide))⟩
        ·
          refine y_aload_n X dL_act_229 6 rfl ?_
          refine y_aload_n X dL_act_230 6 rfl ?_
          refine y_iload X dL_act_231 0 rfl ?_
          refine y_callVr X (0) 4 (av := [.int (nI (i8))]) [.ref (E.2.1 (0)), .int (u4 >>> ((2) &&& 31)), .int u6, .int (nI (i8)), .ref (E.2.1 (0))] 1 ((c_X4_seasonOf (x := (nI (i8))) gC gW)) (by omega) e0 rfl gL_act_X4_seasonOf rfl (by decide +kernel) rfl ⟨Nat.le_of_ble_eq_true rfl, Nat.le_of_ble_eq_true rfl⟩ ⟨Nat.zero_le _, Nat.zero_le _⟩ (Nat.le_of_ble_eq_true rfl) rfl dL_act_233 ?_
          refine y_iload X dL_act_236 2 rfl ?_
          refine y_iconst X (v := (0)) dL_act_238 (by decide) ?_
          refine y_callVr X (0) 4 (av := [.int (rSof T (nI (i8))), .int u6, .int (0)]) [.int (u4 >>> ((2) &&& 31)), .int u6, .int (nI (i8)), .ref (E.2.1 (0))] 3 ((c_X4_column (x := (rSof T (nI (i8)))) (y := u6) (w := (0)) gC gW)) (by omega) e0 rfl gL_act_X4_column rfl (by decide +kernel) rfl ⟨Nat.le_of_ble_eq_true rfl, Nat.le_of_ble_eq_true rfl⟩ ⟨Nat.zero_le _, Nat.zero_le _⟩ (Nat.le_of_ble_eq_true rfl) rfl dL_act_239 ?_
          refine y_if_ge X 249 ((0 : Int) ≤ ((rCol T (rSof T (nI (i8))) u6 (0))).toInt) dL_act_242 (by decide) (cLe (by decide) rfl) (fun c_24 => ?_) (fun c_24 => ?_)
          ·
            refine y_aload_n X dL_act_249 6 rfl ?_
            refine y_aload_n X dL_act_250 6 rfl ?_
            refine y_iload X dL_act_251 0 rfl ?_
            refine y_callVr X (0) 4 (av := [.int (nI (i8))]) [.ref (E.2.1 (0)), .int (u4 >>> ((2) &&& 31)), .int u6, .int (nI (i8)), .ref (E.2.1 (0))] 1 ((c_X4_seasonOf (x := (nI (i8))) gC gW)) (by omega) e0 rfl gL_act_X4_seasonOf rfl (by decide +kernel) rfl ⟨Nat.le_of_ble_eq_true rfl, Nat.le_of_ble_eq_true rfl⟩ ⟨Nat.zero_le _, Nat.zero_le _⟩ (Nat.le_of_ble_eq_true rfl) rfl dL_act_253 ?_
            refine y_iload X dL_act_256 2 rfl ?_
            refine y_iconst X (v := (0)) dL_act_258 (by decide) ?_
            refine y_callVr X (0) 4 (av := [.int (rSof T (nI (i8))), .int u6, .int (0)]) [.int (u4 >>> ((2) &&& 31)), .int u6, .int (nI (i8)), .ref (E.2.1 (0))] 3 ((c_X4_column (x := (rSof T (nI (i8)))) (y := u6) (w := (0)) gC gW)) (by omega) e0 rfl gL_act_X4_column rfl (by decide +kernel) rfl ⟨Nat.le_of_ble_eq_true rfl, Nat.le_of_ble_eq_true rfl⟩ ⟨Nat.zero_le _, Nat.zero_le _⟩ (Nat.le_of_ble_eq_true rfl) rfl dL_act_259 ?_
            refine y_callJ X (av := [.int (u4 >>> ((2) &&& 31)), .int (rCol T (rSof T (nI (i8))) u6 (0))]) [.int u6, .int (nI (i8)), .ref (E.2.1 (0))] 2 (c_L_valued (x := (u4 >>> ((2) &&& 31))) (y := (rCol T (rSof T (nI (i8))) u6 (0)))) gL_act_L_valued rfl (by decide +kernel) rfl ⟨Nat.le_of_ble_eq_true rfl, Nat.le_of_ble_eq_true rfl⟩ ⟨Nat.zero_le _, Nat.zero_le _⟩ (Nat.le_of_ble_eq_true rfl) rfl dL_act_262 (fun v_25 C_26 hp_27 => ?_)
            obtain ⟨⟨rv_28, gv9⟩, gc9⟩ := hp_27
            subst gv9
            have gc8 := gc9.symm
            subst gc8
            refine y_callV X (0) 4 (av := [.int (nI (i8)), .int u6, .int rv_28]) [] 3 (c_X4_set (x := (nI (i8))) (y := u6) (v0 := rv_28) gC gW) (by omega) e0 rfl gL_act_X4_set rfl (by decide +kernel) rfl ⟨Nat.le_of_ble_eq_true rfl, Nat.le_of_ble_eq_true rfl⟩ ⟨Nat.zero_le _, Nat.zero_le _⟩ (Nat.le_of_ble_eq_true rfl) rfl dL_act_265 (fun v_29 C_30 hp_31 => ?_)
            obtain ⟨gv9, gC1, gF1⟩ := hp_31
            subst gv9
            exact y_iret X hr dL_act_268 rfl ⟨sSet T (nI (i8)) u6 rv_28, rfl, gC1, (by rw [← eu9]; exact AOK_set gv gd (by first | omega | decide) (by first | omega | decide))⟩
          ·
            refine y_iconst X (v := (2)) dL_act_245 (by decide) ?_
            refine y_goto X 262 dL_act_246 (by decide) ?_
            refine y_callJ X (av := [.int (u4 >>> ((2) &&& 31)), .int (2)]) [.int u6, .int (nI (i8)), .ref (E.2.1 (0))] 2 (c_L_valued (x := (u4 >>> ((2) &&& 31))) (y := (2))) gL_act_L_valued rfl (by decide +kernel) rfl ⟨Nat.le_of_ble_eq_true rfl, Nat.le_of_ble_eq_true rfl⟩ ⟨Nat.zero_le _, Nat.zero_le _⟩ (Nat.le_of_ble_eq_true rfl) rfl dL_act_262 (fun v_32 C_33 hp_34 => ?_)
            obtain ⟨⟨rv_35, gv9⟩, gc9⟩ := hp_34
            subst gv9
            have gc8 := gc9.symm
            subst gc8
            refine y_callV X (0) 4 (av := [.int (nI (i8)), .int u6, .int rv_35]) [] 3 (c_X4_set (x := (nI (i8))) (y := u6) (v0 := rv_35) gC gW) (by omega) e0 rfl gL_act_X4_set rfl (by decide +kernel) rfl ⟨Nat.le_of_ble_eq_true rfl, Nat.le_of_ble_eq_true rfl⟩ ⟨Nat.zero_le _, Nat.zero_le _⟩ (Nat.le_of_ble_eq_true rfl) rfl dL_act_265 (fun v_36 C_37 hp_38 => ?_)
            obtain ⟨gv9, gC1, gF1⟩ := hp_38
            subst gv9
            exact y_iret X hr dL_act_268 rfl ⟨sSet T (nI (i8)) u6 rv_35, rfl, gC1, (by rw [← eu9]; exact AOK_set gv gd (by first | omega | decide) (by first | omega | decide))⟩
      have J_276 : (7 ≤ u9.toInt) → (u9.toInt < 19) → xY p l e ({ frames := 6, cells := 0, slots := 0, locals := 136 } : Room) s m args below meth c E (xA E) 9 0 0 (MQ below (xQ E (fun v C1 => ∃ r : Int32 × Tb, v = some (.int r.1) ∧ CX E C1 (acT r T) (acH r T hh hn) (acN r hn) sn tx ln sp ∧ AOK T (nI (lowN (cel E k) 20)) r)) args s 0 0 (xA E)) C 276 [(8, .int (nI (i8))), (7, .int u7), (6, .int u6), (5, .int (nI (tr T))), (4, .int u4), (3, .int u3), (0, .ref (E.2.1 (0))), (1, .ref (xsb E)), (2, .int (nI (k)))] [] := by
        intro hu hv
        refine y_iload X dL_act_276 3 rfl ?_
        refine y_if_ne X 287 (¬ ((tr T) = (0))) dL_act_278 (by decide) (cNe (nI_eq (a := tr T) (b := 0) (by omega) (by omega))) (fun c_39 => ?_) (fun c_39 => ?_)
        ·
          refine y_aload_n X dL_act_287 6 rfl ?_
          refine y_iload X dL_act_288 0 rfl ?_
          refine y_iload X dL_act_290 0 rfl ?_
          refine y_iload X dL_act_292 4 rfl ?_
          refine y_iload X dL_act_294 3 rfl ?_
          refine y_iload X dL_act_296 0 rfl ?_
          refine y_isub X (z := (nI ((tr T) - (i8)))) dL_act_298 (pk_sub (a := tr T) (b := i8) (by omega)) ?_
          have glo_40 : lowN u4 ((tr T) - (i8)) < (tr T) - (i8) := lowN_lt (by omega)
          refine y_callJr X (av := [.int u4, .int (nI ((tr T) - (i8)))]) [.int (nI (i8)), .int (nI (i8)), .ref (E.2.1 (0))] 2 (c_L_low (x := u4) (n := (tr T) - (i8)) (by omega) (by omega)) gL_act_L_low rfl (by decide +kernel) rfl ⟨Nat.le_of_ble_eq_true rfl, Nat.le_of_ble_eq_true rfl⟩ ⟨Nat.zero_le _, Nat.zero_le _⟩ (Nat.le_of_ble_eq_true rfl) rfl dL_act_299 ?_
          refine y_iadd X (z := (nI (i8 + lowN u4 ((tr T) - (i8))))) dL_act_302 (nI_add (i8) (lowN u4 ((tr T) - (i8)))) ?_
          refine y_callV X (0) 4 (av := [.int (nI (i8)), .int (nI (i8 + lowN u4 ((tr T) - (i8))))]) [] 2 (c_X4_makeOver (x := (nI (i8))) (y := (nI (i8 + lowN u4 ((tr T) - (i8))))) gC gW) (by omega) e0 rfl gL_act_X4_makeOver rfl (by decide +kernel) rfl ⟨Nat.le_of_ble_eq_true rfl, Nat.le_of_ble_eq_true rfl⟩ ⟨Nat.zero_le _, Nat.zero_le _⟩ (Nat.le_of_ble_eq_true rfl) rfl dL_act_303 (fun v_41 C_42 hp_43 => ?_)
          obtain ⟨gv9, gC1, gF1⟩ := hp_43
          subst gv9
          exact y_iret X hr dL_act_306 rfl ⟨sMk T (nI (i8)) (nI (i8 + lowN u4 ((tr T) - (i8)))), rfl, gC1, (by rw [← eu9]; exact AOK_mk gv gd (by first | omega | decide) (by first | omega | decide))⟩
        ·
          have c_39 := Decidable.of_not_not c_39
          refine y_sipush X (v := (-10005)) dL_act_281 (by decide) ?_
          refine y_goto X 306 dL_act_284 (by decide) ?_
          exact y_iret X hr dL_act_306 rfl ⟨(-10005, T), rfl, CX_stay no_act gC, (by rw [← eu9]; exact AOK_no gv gd no_act rfl)⟩
      by_cases e84_0 : u9 = 0
      ·
        subst e84_0
        refine y_tableIn X 176 (off := 92) dL_act_84 (by decide) (by decide) (by decide) (by decide) ?_
        exact J_176  (by decide)
      by_cases e84_1 : u9 = 1
      ·
        subst e84_1
        refine y_tableIn X 176 (off := 92) dL_act_84 (by decide) (by decide) (by decide) (by decide) ?_
        exact J_176  (by decide)
      by_cases e84_2 : u9 = 2
      ·
        subst e84_2
        refine y_tableIn X 176 (off := 92) dL_act_84 (by decide) (by decide) (by decide) (by decide) ?_
        exact J_176  (by decide)
      by_cases e84_3 : u9 = 3
      ·
        subst e84_3
        refine y_tableIn X 176 (off := 92) dL_act_84 (by decide) (by decide) (by decide) (by decide) ?_
        exact J_176  (by decide)
      by_cases e84_4 : u9 = 4
      ·
        subst e84_4
        refine y_tableIn X 194 (off := 110) dL_act_84 (by decide) (by decide) (by decide) (by decide) ?_
        refine y_aload_n X dL_act_194 6 rfl ?_
        refine y_iload X dL_act_195 2 rfl ?_
        refine y_callV X (0) 4 (av := [.int u6]) [] 1 (c_X4_drop (x := u6) gC gW) (by omega) e0 rfl gL_act_X4_drop rfl (by decide +kernel) rfl ⟨Nat.le_of_ble_eq_true rfl, Nat.le_of_ble_eq_true rfl⟩ ⟨Nat.zero_le _, Nat.zero_le _⟩ (Nat.le_of_ble_eq_true rfl) rfl dL_act_197 (fun v_44 C_45 hp_46 => ?_)
        obtain ⟨gv9, gC1, gF1⟩ := hp_46
        subst gv9
        exact y_iret X hr dL_act_200 rfl ⟨sDrop T u6, rfl, gC1, (by rw [← eu9]; exact AOK_drop gv gd (by first | omega | decide))⟩
      by_cases e84_5 : u9 = 5
      ·
        subst e84_5
        refine y_tableIn X 201 (off := 117) dL_act_84 (by decide) (by decide) (by decide) (by decide) ?_
        exact J_201  (by decide)
      by_cases e84_6 : u9 = 6
      ·
        subst e84_6
        refine y_tableIn X 201 (off := 117) dL_act_84 (by decide) (by decide) (by decide) (by decide) ?_
        exact J_201  (by decide)
      by_cases e84_7 : u9 = 7
      ·
        subst e84_7
        refine y_tableIn X 210 (off := 126) dL_act_84 (by decide) (by decide) (by decide) (by decide) ?_
        exact J_210  (by decide) (by decide)
      by_cases e84_8 : u9 = 8
      ·
        subst e84_8
        refine y_tableIn X 210 (off := 126) dL_act_84 (by decide) (by decide) (by decide) (by decide) ?_
        exact J_210  (by decide) (by decide)
      by_cases e84_9 : u9 = 9
      ·
        subst e84_9
        refine y_tableIn X 210 (off := 126) dL_act_84 (by decide) (by decide) (by decide) (by decide) ?_
        exact J_210  (by decide) (by decide)
      by_cases e84_10 : u9 = 10
      ·
        subst e84_10
        refine y_tableIn X 210 (off := 126) dL_act_84 (by decide) (by decide) (by decide) (by decide) ?_
        exact J_210  (by decide) (by decide)
      by_cases e84_11 : u9 = 11
      ·
        subst e84_11
        refine y_tableIn X 215 (off := 131) dL_act_84 (by decide) (by decide) (by decide) (by decide) ?_
        exact J_215  (by decide) (by decide)
      by_cases e84_12 : u9 = 12
      ·
        subst e84_12
        refine y_tableIn X 215 (off := 131) dL_act_84 (by decide) (by decide) (by decide) (by decide) ?_
        exact J_215  (by decide) (by decide)
      by_cases e84_13 : u9 = 13
      ·
        subst e84_13
        refine y_tableIn X 215 (off := 131) dL_act_84 (by decide) (by decide) (by decide) (by decide) ?_
        exact J_215  (by decide) (by decide)
      by_cases e84_14 : u9 = 14
      ·
        subst e84_14
        refine y_tableIn X 215 (off := 131) dL_act_84 (by decide) (by decide) (by decide) (by decide) ?_
        exact J_215  (by decide) (by decide)
      by_cases e84_15 : u9 = 15
      ·
        subst e84_15
        refine y_tableIn X 215 (off := 131) dL_act_84 (by decide) (by decide) (by decide) (by decide) ?_
        exact J_215  (by decide) (by decide)
      by_cases e84_16 : u9 = 16
      ·
        subst e84_16
        refine y_tableIn X 269 (off := 185) dL_act_84 (by decide) (by decide) (by decide) (by decide) ?_
        refine y_aload_n X dL_act_269 6 rfl ?_
        refine y_iload X dL_act_270 0 rfl ?_
        refine y_callV X (0) 4 (av := [.int (nI (i8))]) [] 1 (c_X4_remove (x := (nI (i8))) gC gW) (by omega) e0 rfl gL_act_X4_remove rfl (by decide +kernel) rfl ⟨Nat.le_of_ble_eq_true rfl, Nat.le_of_ble_eq_true rfl⟩ ⟨Nat.zero_le _, Nat.zero_le _⟩ (Nat.le_of_ble_eq_true rfl) rfl dL_act_272 (fun v_47 C_48 hp_49 => ?_)
        obtain ⟨gv9, gC1, gF1⟩ := hp_49
        subst gv9
        exact y_iret X hr dL_act_275 rfl ⟨sRem T (nI (i8)), rfl, gC1, (by rw [← eu9]; exact AOK_rem gv gd (by first | omega | decide) (by first | omega | decide))⟩
      by_cases e84_17 : u9 = 17
      ·
        subst e84_17
        refine y_tableIn X 276 (off := 192) dL_act_84 (by decide) (by decide) (by decide) (by decide) ?_
        exact J_276  (by decide) (by decide)
      by_cases e84_18 : u9 = 18
      ·
        subst e84_18
        refine y_tableIn X 276 (off := 192) dL_act_84 (by decide) (by decide) (by decide) (by decide) ?_
        exact J_276  (by decide) (by decide)
      ·
        have t84_0 : ¬ (u9).toInt = 0 := fun z => e84_0 (Int32.toInt_inj.mp (z.trans (by decide)))
        have t84_1 : ¬ (u9).toInt = 1 := fun z => e84_1 (Int32.toInt_inj.mp (z.trans (by decide)))
        have t84_2 : ¬ (u9).toInt = 2 := fun z => e84_2 (Int32.toInt_inj.mp (z.trans (by decide)))
        have t84_3 : ¬ (u9).toInt = 3 := fun z => e84_3 (Int32.toInt_inj.mp (z.trans (by decide)))
        have t84_4 : ¬ (u9).toInt = 4 := fun z => e84_4 (Int32.toInt_inj.mp (z.trans (by decide)))
        have t84_5 : ¬ (u9).toInt = 5 := fun z => e84_5 (Int32.toInt_inj.mp (z.trans (by decide)))
        have t84_6 : ¬ (u9).toInt = 6 := fun z => e84_6 (Int32.toInt_inj.mp (z.trans (by decide)))
        have t84_7 : ¬ (u9).toInt = 7 := fun z => e84_7 (Int32.toInt_inj.mp (z.trans (by decide)))
        have t84_8 : ¬ (u9).toInt = 8 := fun z => e84_8 (Int32.toInt_inj.mp (z.trans (by decide)))
        have t84_9 : ¬ (u9).toInt = 9 := fun z => e84_9 (Int32.toInt_inj.mp (z.trans (by decide)))
        have t84_10 : ¬ (u9).toInt = 10 := fun z => e84_10 (Int32.toInt_inj.mp (z.trans (by decide)))
        have t84_11 : ¬ (u9).toInt = 11 := fun z => e84_11 (Int32.toInt_inj.mp (z.trans (by decide)))
        have t84_12 : ¬ (u9).toInt = 12 := fun z => e84_12 (Int32.toInt_inj.mp (z.trans (by decide)))
        have t84_13 : ¬ (u9).toInt = 13 := fun z => e84_13 (Int32.toInt_inj.mp (z.trans (by decide)))
        have t84_14 : ¬ (u9).toInt = 14 := fun z => e84_14 (Int32.toInt_inj.mp (z.trans (by decide)))
        have t84_15 : ¬ (u9).toInt = 15 := fun z => e84_15 (Int32.toInt_inj.mp (z.trans (by decide)))
        have t84_16 : ¬ (u9).toInt = 16 := fun z => e84_16 (Int32.toInt_inj.mp (z.trans (by decide)))
        have t84_17 : ¬ (u9).toInt = 17 := fun z => e84_17 (Int32.toInt_inj.mp (z.trans (by decide)))
        have t84_18 : ¬ (u9).toInt = 18 := fun z => e84_18 (Int32.toInt_inj.mp (z.trans (by decide)))
        refine y_tableOut X 307 dL_act_84 (by omega) (by decide) ?_
        refine y_aload_n X dL_act_307 6 rfl ?_
        refine y_callV X (0) 4 (av := []) [] 0 (c_X4_forget  gC gW) (by omega) e0 rfl gL_act_X4_forget rfl (by decide +kernel) rfl ⟨Nat.le_of_ble_eq_true rfl, Nat.le_of_ble_eq_true rfl⟩ ⟨Nat.zero_le _, Nat.zero_le _⟩ (Nat.le_of_ble_eq_true rfl) rfl dL_act_308 (fun v_50 C_51 hp_52 => ?_)
        obtain ⟨gv9, gC1, gF1⟩ := hp_52
        subst gv9
        exact y_iret X hr dL_act_311 rfl ⟨sFor T, rfl, gC1, (by rw [← eu9]; exact AOK_for gv gd (by first | omega | decide))⟩
    refine y_iload X dL_act_55 2 rfl ?_
    refine y_if_ne X 64 (¬ ((tr T) = (0))) dL_act_57 (by decide) (cNe (nI_eq (a := tr T) (b := 0) (by omega) (by omega))) (fun c_53 => ?_) (fun c_53 => ?_)
    ·
      refine y_iload_n X dL_act_64 4 rfl ?_
      refine y_iconst X (v := (3)) dL_act_65 (by decide) ?_
      refine y_ishr X (z := (u3 >>> ((3) &&& 31))) dL_act_66 rfl ?_
      refine y_iload X dL_act_67 2 rfl ?_
      have glo_54 : lowN (u3 >>> ((3) &&& 31)) (tr T) < tr T := lowN_lt (by omega)
      refine y_callJr X (av := [.int (u3 >>> ((3) &&& 31)), .int (nI (tr T))]) [] 2 (c_L_low (x := (u3 >>> ((3) &&& 31))) (n := tr T) (by omega) (by omega)) gL_act_L_low rfl (by decide +kernel) rfl ⟨Nat.le_of_ble_eq_true rfl, Nat.le_of_ble_eq_true rfl⟩ ⟨Nat.zero_le _, Nat.zero_le _⟩ (Nat.le_of_ble_eq_true rfl) rfl dL_act_69 ?_
      exact J_72 (lowN (u3 >>> ((3) &&& 31)) (tr T)) (Or.inr glo_54)
    ·
      have c_53 := Decidable.of_not_not c_53
      refine y_iconst X (v := (0)) dL_act_60 (by decide) ?_
      refine y_goto X 72 dL_act_61 (by decide) ?_
      exact J_72 (0) (Or.inl c_53)
  refine y_iload_n X dL_act_24 2 rfl ?_
  refine y_iload_n X dL_act_25 2 rfl ?_
  refine y_bipush X (v := (20)) dL_act_26 (by decide) ?_
  refine y_ishr X (z := (u3 >>> ((20) &&& 31))) dL_act_28 rfl ?_
  refine y_iconst X (v := (3)) dL_act_29 (by decide) ?_
  have glo_55 : lowN (u3 >>> ((20) &&& 31)) (3) < 3 := lowN_lt (by omega)
  refine y_callJr X (av := [.int (u3 >>> ((20) &&& 31)), .int (3)]) [.int u3] 2 (c_L_low (x := (u3 >>> ((20) &&& 31))) (n := 3) (by omega) (by omega)) gL_act_L_low rfl (by decide +kernel) rfl ⟨Nat.le_of_ble_eq_true rfl, Nat.le_of_ble_eq_true rfl⟩ ⟨Nat.zero_le _, Nat.zero_le _⟩ (Nat.le_of_ble_eq_true rfl) rfl dL_act_30 ?_
  refine y_if_le X 40 ((lowN (u3 >>> ((20) &&& 31)) (3)) ≤ (0)) dL_act_33 (by decide) (nI_leI (a := lowN (u3 >>> ((20) &&& 31)) (3)) (b := 0) (by omega) (by omega)) (fun c_56 => ?_) (fun c_56 => ?_)
  ·
    refine y_bipush X (v := (8)) dL_act_40 (by decide) ?_
    have glo_57 : lowN u3 (8) < 8 := lowN_lt (by omega)
    refine y_callJr X (av := [.int u3, .int (8)]) [] 2 (c_L_low (x := u3) (n := 8) (by omega) (by omega)) gL_act_L_low rfl (by decide +kernel) rfl ⟨Nat.le_of_ble_eq_true rfl, Nat.le_of_ble_eq_true rfl⟩ ⟨Nat.zero_le _, Nat.zero_le _⟩ (Nat.le_of_ble_eq_true rfl) rfl dL_act_42 ?_
    exact J_45 ((nI (lowN u3 (8))))
  ·
    refine y_iconst X (v := (3)) dL_act_36 (by decide) ?_
    refine y_goto X 42 dL_act_37 (by decide) ?_
    have glo_58 : lowN u3 (3) < 3 := lowN_lt (by omega)
    refine y_callJr X (av := [.int u3, .int (3)]) [] 2 (c_L_low (x := u3) (n := 3) (by omega) (by omega)) gL_act_L_low rfl (by decide +kernel) rfl ⟨Nat.le_of_ble_eq_true rfl, Nat.le_of_ble_eq_true rfl⟩ ⟨Nat.zero_le _, Nat.zero_le _⟩ (Nat.le_of_ble_eq_true rfl) rfl dL_act_42 ?_
    exact J_45 ((nI (lowN u3 (3))))
