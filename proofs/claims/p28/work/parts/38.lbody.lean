set_option maxRecDepth 100000 in
set_option maxHeartbeats 4000000 in
theorem l_body {p : Program} {l : Launch} {e : Env} {s : State} {m : MethodId} {below : List Frame} {meth : Method} {c : Code} {E : xE} {C : xC} {T : Tb} {hh : Nat → Tb} {hn : Nat} {sn : Option Tb} {tx : Nat → Int32} {ln : Nat} {sp : Option (Nat × Int32)} (gC : CX E C T hh hn sn tx ln sp) (gW : WX T hh hn sn tx ln sp) (gd : DIF T) (hH : lH p s m meth c E) (gl : xsl E ≤ 260) : lY p l e s m below meth c E C 8 [(1, .ref (E.2.1 (0))), (0, .ref (xsb E))] [] := by
  have hH0 := hH
  obtain ⟨X, hr⟩ := hH
  refine y_iconst X (v := (1)) dL_law_8 (by decide) ?_
  refine y_istore_n X [(2, .int (1)), (1, .ref (E.2.1 (0))), (0, .ref (xsb E))] dL_law_9 rfl (by decide) rfl ?_
  have J_28 : ∀ (tu : Nat), (tu ≤ 50) → lY p l e s m below meth c E C 28 [(2, .int (1)), (1, .ref (E.2.1 (0))), (0, .ref (xsb E))] [.int (nI (tu))] := by
    intro tu gtu
    refine y_istore_n X [(3, .int (nI (tu))), (2, .int (1)), (1, .ref (E.2.1 (0))), (0, .ref (xsb E))] dL_law_28 rfl (by decide) rfl ?_
    refine y_iconst X (v := (0)) dL_law_29 (by decide) ?_
    refine y_istore X [(4, .int (0)), (3, .int (nI (tu))), (2, .int (1)), (1, .ref (E.2.1 (0))), (0, .ref (xsb E))] dL_law_30 (by decide) rfl ?_
    have L_32 : ∀ (n : Nat) (C2 : xC) (T2 : Tb) (hh2 : Nat → Tb) (hn2 : Nat) (k : Nat), tu - k < n → (CX E C2 T2 hh2 hn2 sn tx ln sp) → (WX T2 hh2 hn2 sn tx ln sp) → (DIF T2) → (k ≤ tu) → lY p l e s m below meth c E C2 32 [(0, .ref (xsb E)), (1, .ref (E.2.1 (0))), (2, .int (1)), (3, .int (nI (tu))), (4, .int (nI (k)))] [] := by
      intro n32
      induction n32 with
      | zero => intro _ _ _ _ _ hm32; exact absurd hm32 (Nat.not_lt_zero _)
      | succ n32 ih32 =>
        intro C2 T2 hh2 hn2 k hm32 gC2 gW2 gd2 gk
        obtain ⟨f2, e2⟩ := CX_0 gC2
        obtain ⟨gv2, gn4, -, -, -, -, -⟩ := id gW2
        obtain ⟨gw1, gw2, gw3, gw4⟩ := id gv2.1
        have gna := nal_le gv2.1
        have gla := nla_le (T := T2) (q := tn T2 - 1)
        refine y_iload X dL_law_32 4 rfl ?_
        refine y_iload_n X dL_law_34 3 rfl ?_
        refine y_icmp_ge X 374 ((tu) ≤ (k)) dL_law_35 (by decide) (nI_leI (a := tu) (b := k) (by omega) (by omega)) (fun c_1 => ?_) (fun c_1 => ?_)
        ·
          refine y_aload_n X dL_law_374 1 rfl ?_
          refine y_iconst X (v := (2)) dL_law_375 (by decide) ?_
          refine y_callVr X (0) 4 (av := [.int (2)]) [] 1 ((xR_eq rCt_2 (c_X4_count (w := 2) gC2 gW2))) (by omega) e2 rfl gL_law_X4_count rfl (by decide +kernel) rfl ⟨Nat.le_of_ble_eq_true rfl, Nat.le_of_ble_eq_true rfl⟩ ⟨Nat.le_of_ble_eq_true rfl, Nat.le_of_ble_eq_true rfl⟩ (Nat.le_of_ble_eq_true rfl) rfl dL_law_376 ?_
          refine y_iconst X (v := (1)) dL_law_379 (by decide) ?_
          refine y_isub X (z := (nI (tr T2) - 1)) dL_law_380 rfl ?_
          refine y_istore X [(4, .int (nI (tr T2) - 1)), (0, .ref (xsb E)), (1, .ref (E.2.1 (0))), (2, .int (1)), (3, .int (nI (tu)))] dL_law_381 (by decide) rfl ?_
          refine y_aload_n X dL_law_383 2 rfl ?_
          refine y_iconst X (v := (5)) dL_law_384 (by decide) ?_
          refine y_callVr X (0) 4 (av := [.int (5)]) [] 1 ((xR_eq rCt_5 (c_X4_count (w := 5) gC2 gW2))) (by omega) e2 rfl gL_law_X4_count rfl (by decide +kernel) rfl ⟨Nat.le_of_ble_eq_true rfl, Nat.le_of_ble_eq_true rfl⟩ ⟨Nat.le_of_ble_eq_true rfl, Nat.le_of_ble_eq_true rfl⟩ (Nat.le_of_ble_eq_true rfl) rfl dL_law_385 ?_
          refine y_istore X [(5, .int (nI (nla T2 (tn T2 - 1)))), (4, .int (nI (tr T2) - 1)), (0, .ref (xsb E)), (1, .ref (E.2.1 (0))), (2, .int (1)), (3, .int (nI (tu)))] dL_law_388 (by decide) rfl ?_
          refine y_iload X dL_law_390 1 rfl ?_
          refine y_if_ge X 401 (¬ tr T2 = 0) dL_law_392 (by decide) (Int32.not_lt.symm.trans (not_congr (dn_lt (by omega)))) (fun c_2 => ?_) (fun c_2 => ?_)
          ·
            rw [dn_eq (show 1 ≤ tr T2 by omega)]
            refine y_aload_n X dL_law_401 3 rfl ?_
            refine y_iconst X (v := (0)) dL_law_402 (by decide) ?_
            refine y_iload X dL_law_403 1 rfl ?_
            refine y_callV X (0) 4 (av := [.int (0), .int (nI (tr T2 - 1))]) [] 2 (c_X4_makeOver (x := 0) (y := nI (tr T2 - 1)) gC2 gW2) (by omega) e2 rfl gL_law_X4_makeOver rfl (by decide +kernel) rfl ⟨Nat.le_of_ble_eq_true rfl, Nat.le_of_ble_eq_true rfl⟩ ⟨Nat.le_of_ble_eq_true rfl, Nat.le_of_ble_eq_true rfl⟩ (Nat.le_of_ble_eq_true rfl) rfl dL_law_405 (fun v_3 C_4 hp_5 => ?_)
            obtain ⟨gv9, gC4, gF4⟩ := hp_5
            subst gv9
            obtain ⟨f4, e4⟩ := CX_0 gC4
            have gW4 := WX_act (r := sMk T2 (0) (nI (tr T2 - 1))) gW2 (WF_sMk gv2)
            obtain ⟨gv4, gn44, -, -, -, -, -⟩ := id gW4
            have gna4 := nal_le gv4.1
            have gla4 := nla_le (T := (acT (sMk T2 (0) (nI (tr T2 - 1))) T2)) (q := tn (acT (sMk T2 (0) (nI (tr T2 - 1))) T2) - 1)
            have gme := mk_end gv2 (by omega)
            refine y_istore X [(6, .int (sMk T2 (0) (nI (tr T2 - 1))).1), (5, .int (nI (nla T2 (tn T2 - 1)))), (4, .int (nI (tr T2 - 1))), (0, .ref (xsb E)), (1, .ref (E.2.1 (0))), (2, .int (1)), (3, .int (nI (tu)))] dL_law_408 (by decide) rfl ?_
            refine y_iload_n X dL_law_410 5 rfl ?_
            refine y_if_eq X 453 ((1) = (0)) dL_law_411 (by decide) (nI_eq (a := 1) (b := 0) (by omega) (by omega)) (fun c_6 => ?_) (fun c_6 => ?_)
            ·
              exact absurd c_6 (by decide)
            ·
              have J_429 : lY p l e s m below meth c E C_4 429 [(6, .int (sMk T2 (0) (nI (tr T2 - 1))).1), (5, .int (nI (nla T2 (tn T2 - 1)))), (4, .int (nI (tr T2 - 1))), (0, .ref (xsb E)), (1, .ref (E.2.1 (0))), (2, .int (1)), (3, .int (nI (tu)))] [] := by
                refine y_aload_n X dL_law_429 4 rfl ?_
                refine y_iconst X (v := (5)) dL_law_430 (by decide) ?_
                refine y_callVr X (0) 4 (av := [.int (5)]) [] 1 ((xR_eq rCt_5 (c_X4_count (w := 5) gC4 gW4))) (by omega) e4 rfl gL_law_X4_count rfl (by decide +kernel) rfl ⟨Nat.le_of_ble_eq_true rfl, Nat.le_of_ble_eq_true rfl⟩ ⟨Nat.le_of_ble_eq_true rfl, Nat.le_of_ble_eq_true rfl⟩ (Nat.le_of_ble_eq_true rfl) rfl dL_law_431 ?_
                refine y_if_ne X 453 (False) dL_law_434 (by decide) (iff_of_false (fun z => z (by rw [gme.2.1]; decide)) id) (fun c_7 => ?_) (fun c_7 => ?_)
                ·
                  exact c_7.elim
                ·
                  refine y_aload_n X dL_law_437 4 rfl ?_
                  refine y_iconst X (v := (3)) dL_law_438 (by decide) ?_
                  refine y_callVr X (0) 4 (av := [.int (3)]) [] 1 ((xR_eq rCt_3 (c_X4_count (w := 3) gC4 gW4))) (by omega) e4 rfl gL_law_X4_count rfl (by decide +kernel) rfl ⟨Nat.le_of_ble_eq_true rfl, Nat.le_of_ble_eq_true rfl⟩ ⟨Nat.le_of_ble_eq_true rfl, Nat.le_of_ble_eq_true rfl⟩ (Nat.le_of_ble_eq_true rfl) rfl dL_law_439 ?_
                  refine y_iload X dL_law_442 2 rfl ?_
                  refine y_iconst X (v := (1)) dL_law_444 (by decide) ?_
                  refine y_iadd X (z := (nI (tr T2 - 1 + 1))) dL_law_445 (nI_add (tr T2 - 1) (1)) ?_
                  refine y_icmp_ne X 453 (False) dL_law_446 (by decide) (iff_of_false (fun z => z (by rw [gme.2.2, show tr T2 - 1 + 1 = tr T2 by omega])) id) (fun c_8 => ?_) (fun c_8 => ?_)
                  ·
                    exact c_8.elim
                  ·
                    refine y_iconst X (v := (1)) dL_law_449 (by decide) ?_
                    refine y_goto X 454 dL_law_450 (by decide) ?_
                    exact l_end hH0
              refine y_iload X dL_law_414 0 rfl ?_
              refine y_sipush X (v := (-10005)) dL_law_416 (by decide) ?_
              refine y_icmp_eq X 429 ((sMk T2 (0) (nI (tr T2 - 1))).1 = (-10005)) dL_law_419 (by decide) Iff.rfl (fun c_9 => ?_) (fun c_9 => ?_)
              ·
                exact J_429
              ·
                refine y_iload X dL_law_422 0 rfl ?_
                refine y_iload X dL_law_424 1 rfl ?_
                refine y_icmp_ne X 453 (False) dL_law_426 (by decide) (iff_of_false (fun z => z (gme.1.resolve_left c_9)) id) (fun c_10 => ?_) (fun c_10 => ?_)
                ·
                  exact c_10.elim
                ·
                  exact J_429
          ·
            have c_2 := Decidable.of_not_not c_2
            refine y_sipush X (v := (-10005)) dL_law_395 (by decide) ?_
            refine y_goto X 408 dL_law_398 (by decide) ?_
            refine y_istore X [(6, .int (-10005)), (5, .int (nI (nla T2 (tn T2 - 1)))), (4, .int (nI (tr T2) - 1)), (0, .ref (xsb E)), (1, .ref (E.2.1 (0))), (2, .int (1)), (3, .int (nI (tu)))] dL_law_408 (by decide) rfl ?_
            refine y_iload_n X dL_law_410 5 rfl ?_
            refine y_if_eq X 453 ((1) = (0)) dL_law_411 (by decide) (nI_eq (a := 1) (b := 0) (by omega) (by omega)) (fun c_11 => ?_) (fun c_11 => ?_)
            ·
              exact absurd c_11 (by decide)
            ·
              have J_429 : lY p l e s m below meth c E C2 429 [(6, .int (-10005)), (5, .int (nI (nla T2 (tn T2 - 1)))), (4, .int (nI (tr T2) - 1)), (0, .ref (xsb E)), (1, .ref (E.2.1 (0))), (2, .int (1)), (3, .int (nI (tu)))] [] := by
                refine y_aload_n X dL_law_429 4 rfl ?_
                refine y_iconst X (v := (5)) dL_law_430 (by decide) ?_
                refine y_callVr X (0) 4 (av := [.int (5)]) [] 1 ((xR_eq rCt_5 (c_X4_count (w := 5) gC2 gW2))) (by omega) e2 rfl gL_law_X4_count rfl (by decide +kernel) rfl ⟨Nat.le_of_ble_eq_true rfl, Nat.le_of_ble_eq_true rfl⟩ ⟨Nat.le_of_ble_eq_true rfl, Nat.le_of_ble_eq_true rfl⟩ (Nat.le_of_ble_eq_true rfl) rfl dL_law_431 ?_
                refine y_if_ne X 453 (False) dL_law_434 (by decide) (iff_of_false (fun z => z (by rw [(mk_none c_2).1]; decide)) id) (fun c_12 => ?_) (fun c_12 => ?_)
                ·
                  exact c_12.elim
                ·
                  refine y_aload_n X dL_law_437 4 rfl ?_
                  refine y_iconst X (v := (3)) dL_law_438 (by decide) ?_
                  refine y_callVr X (0) 4 (av := [.int (3)]) [] 1 ((xR_eq rCt_3 (c_X4_count (w := 3) gC2 gW2))) (by omega) e2 rfl gL_law_X4_count rfl (by decide +kernel) rfl ⟨Nat.le_of_ble_eq_true rfl, Nat.le_of_ble_eq_true rfl⟩ ⟨Nat.le_of_ble_eq_true rfl, Nat.le_of_ble_eq_true rfl⟩ (Nat.le_of_ble_eq_true rfl) rfl dL_law_439 ?_
                  refine y_iload X dL_law_442 2 rfl ?_
                  refine y_iconst X (v := (1)) dL_law_444 (by decide) ?_
                  refine y_iadd X (z := ((nI (tr T2) - 1) + (1))) dL_law_445 rfl ?_
                  refine y_icmp_ne X 453 (False) dL_law_446 (by decide) (iff_of_false (fun z => z (by rw [(mk_none c_2).2, c_2]; decide)) id) (fun c_13 => ?_) (fun c_13 => ?_)
                  ·
                    exact c_13.elim
                  ·
                    refine y_iconst X (v := (1)) dL_law_449 (by decide) ?_
                    refine y_goto X 454 dL_law_450 (by decide) ?_
                    exact l_end hH0
              refine y_iload X dL_law_414 0 rfl ?_
              refine y_sipush X (v := (-10005)) dL_law_416 (by decide) ?_
              refine y_icmp_eq X 429 ((-10005) = (-10005)) dL_law_419 (by decide) Iff.rfl (fun c_14 => ?_) (fun c_14 => ?_)
              ·
                exact J_429
              ·
                exact absurd c_14 (by decide)
        ·
          refine y_iload_n X dL_law_38 2 rfl ?_
          refine y_if_eq X 374 ((1) = (0)) dL_law_39 (by decide) (nI_eq (a := 1) (b := 0) (by omega) (by omega)) (fun c_15 => ?_) (fun c_15 => ?_)
          ·
            exact absurd c_15 (by decide)
          ·
            refine y_aload_n X dL_law_42 1 rfl ?_
            refine y_bipush X (v := (7)) dL_law_43 (by decide) ?_
            refine y_callVr X (0) 4 (av := [.int (7)]) [] 1 ((xR_eq rCt_7 (c_X4_count (w := 7) gC2 gW2))) (by omega) e2 rfl gL_law_X4_count rfl (by decide +kernel) rfl ⟨Nat.le_of_ble_eq_true rfl, Nat.le_of_ble_eq_true rfl⟩ ⟨Nat.le_of_ble_eq_true rfl, Nat.le_of_ble_eq_true rfl⟩ (Nat.le_of_ble_eq_true rfl) rfl dL_law_45 ?_
            refine y_istore X [(5, .int (nI (hn2))), (0, .ref (xsb E)), (1, .ref (E.2.1 (0))), (2, .int (1)), (3, .int (nI (tu))), (4, .int (nI (k)))] dL_law_48 (by decide) rfl ?_
            refine y_aload_n X dL_law_50 2 rfl ?_
            refine y_iconst X (v := (0)) dL_law_51 (by decide) ?_
            refine y_callVr X (0) 4 (av := [.int (0)]) [] 1 ((xR_eq rCt_0 (c_X4_count (w := 0) gC2 gW2))) (by omega) e2 rfl gL_law_X4_count rfl (by decide +kernel) rfl ⟨Nat.le_of_ble_eq_true rfl, Nat.le_of_ble_eq_true rfl⟩ ⟨Nat.le_of_ble_eq_true rfl, Nat.le_of_ble_eq_true rfl⟩ (Nat.le_of_ble_eq_true rfl) rfl dL_law_52 ?_
            refine y_istore X [(6, .int (nI (tn T2 - 1))), (5, .int (nI (hn2))), (0, .ref (xsb E)), (1, .ref (E.2.1 (0))), (2, .int (1)), (3, .int (nI (tu))), (4, .int (nI (k)))] dL_law_55 (by decide) rfl ?_
            refine y_aload_n X dL_law_57 3 rfl ?_
            refine y_iconst X (v := (2)) dL_law_58 (by decide) ?_
            refine y_callVr X (0) 4 (av := [.int (2)]) [] 1 ((xR_eq rCt_2 (c_X4_count (w := 2) gC2 gW2))) (by omega) e2 rfl gL_law_X4_count rfl (by decide +kernel) rfl ⟨Nat.le_of_ble_eq_true rfl, Nat.le_of_ble_eq_true rfl⟩ ⟨Nat.le_of_ble_eq_true rfl, Nat.le_of_ble_eq_true rfl⟩ (Nat.le_of_ble_eq_true rfl) rfl dL_law_59 ?_
            refine y_istore X [(7, .int (nI (tr T2))), (6, .int (nI (tn T2 - 1))), (5, .int (nI (hn2))), (0, .ref (xsb E)), (1, .ref (E.2.1 (0))), (2, .int (1)), (3, .int (nI (tu))), (4, .int (nI (k)))] dL_law_62 (by decide) rfl ?_
            refine y_aload_n X dL_law_64 4 rfl ?_
            refine y_iconst X (v := (4)) dL_law_65 (by decide) ?_
            refine y_callVr X (0) 4 (av := [.int (4)]) [] 1 ((xR_eq rCt_4 (c_X4_count (w := 4) gC2 gW2))) (by omega) e2 rfl gL_law_X4_count rfl (by decide +kernel) rfl ⟨Nat.le_of_ble_eq_true rfl, Nat.le_of_ble_eq_true rfl⟩ ⟨Nat.le_of_ble_eq_true rfl, Nat.le_of_ble_eq_true rfl⟩ (Nat.le_of_ble_eq_true rfl) rfl dL_law_66 ?_
            refine y_istore X [(8, .int (nI (nal T2))), (7, .int (nI (tr T2))), (6, .int (nI (tn T2 - 1))), (5, .int (nI (hn2))), (0, .ref (xsb E)), (1, .ref (E.2.1 (0))), (2, .int (1)), (3, .int (nI (tu))), (4, .int (nI (k)))] dL_law_69 (by decide) rfl ?_
            refine y_aload_n X dL_law_71 4 rfl ?_
            refine y_iconst X (v := (3)) dL_law_72 (by decide) ?_
            refine y_iload X dL_law_73 8 rfl ?_
            refine y_imul X (z := (nI ((3) * (k)))) dL_law_75 (pk_mul (3) (k)) ?_
            refine y_callJr X (av := [.ref (xsb E), .int (nI ((3) * (k)))]) [] 2 (c_L_cell (k := (3) * (k)) (by omega) (by omega)) gL_law_L_cell rfl (by decide +kernel) rfl ⟨Nat.le_of_ble_eq_true rfl, Nat.le_of_ble_eq_true rfl⟩ ⟨Nat.le_of_ble_eq_true rfl, Nat.le_of_ble_eq_true rfl⟩ (Nat.le_of_ble_eq_true rfl) rfl dL_law_76 ?_
            refine y_bipush X (v := (20)) dL_law_79 (by decide) ?_
            have glo_16 : lowN (cel E ((3) * (k))) (20) < 20 := lowN_lt (by omega)
            refine y_callJr X (av := [.int (cel E ((3) * (k))), .int (20)]) [] 2 (c_L_low (x := (cel E ((3) * (k)))) (n := 20) (by omega) (by omega)) gL_law_L_low rfl (by decide +kernel) rfl ⟨Nat.le_of_ble_eq_true rfl, Nat.le_of_ble_eq_true rfl⟩ ⟨Nat.le_of_ble_eq_true rfl, Nat.le_of_ble_eq_true rfl⟩ (Nat.le_of_ble_eq_true rfl) rfl dL_law_81 ?_
            refine y_topi (fun u9 eu9 => ?_)
            refine y_istore X [(9, .int u9), (8, .int (nI (nal T2))), (7, .int (nI (tr T2))), (6, .int (nI (tn T2 - 1))), (5, .int (nI (hn2))), (0, .ref (xsb E)), (1, .ref (E.2.1 (0))), (2, .int (1)), (3, .int (nI (tu))), (4, .int (nI (k)))] dL_law_84 (by decide) rfl ?_
            refine y_aload_n X dL_law_86 6 rfl ?_
            refine y_aload_n X dL_law_87 5 rfl ?_
            refine y_iconst X (v := (3)) dL_law_88 (by decide) ?_
            refine y_iload X dL_law_89 9 rfl ?_
            refine y_imul X (z := (nI ((3) * (k)))) dL_law_91 (pk_mul (3) (k)) ?_
            refine y_callJ X (av := [.ref (E.2.1 (0)), .ref (xsb E), .int (nI ((3) * (k)))]) [] 3 (c_L_act (k := (3) * (k)) gC2 gW2 gd2 (by omega) (by omega)) gL_law_L_act rfl (by decide +kernel) rfl ⟨Nat.le_of_ble_eq_true rfl, Nat.le_of_ble_eq_true rfl⟩ ⟨Nat.le_of_ble_eq_true rfl, Nat.le_of_ble_eq_true rfl⟩ (Nat.le_of_ble_eq_true rfl) rfl dL_law_92 (fun v_17 C_18 hp_19 => ?_)
            obtain ⟨r, gv9, gC3, gA⟩ := hp_19
            subst gv9
            rw [← eu9] at gA
            obtain ⟨f3, e3⟩ := CX_0 gC3
            have gW3 := WX_act (r := r) gW2 gA.1
            have gd3 := DIF_act gd2 gA
            obtain ⟨gv3, gn43, -, -, -, -, -⟩ := id gW3
            obtain ⟨gx1, gx2, gx3, gx4⟩ := id gv3.1
            have gna3 := nal_le gv3.1
            refine y_istore X [(10, .int r.1), (9, .int u9), (8, .int (nI (nal T2))), (7, .int (nI (tr T2))), (6, .int (nI (tn T2 - 1))), (5, .int (nI (hn2))), (0, .ref (xsb E)), (1, .ref (E.2.1 (0))), (2, .int (1)), (3, .int (nI (tu))), (4, .int (nI (k)))] dL_law_95 (by decide) rfl ?_
            have J_182 : lY p l e s m below meth c E C_18 182 [(10, .int r.1), (9, .int u9), (8, .int (nI (nal T2))), (7, .int (nI (tr T2))), (6, .int (nI (tn T2 - 1))), (5, .int (nI (hn2))), (0, .ref (xsb E)), (1, .ref (E.2.1 (0))), (2, .int (1)), (3, .int (nI (tu))), (4, .int (nI (k)))] [.int (1)] := by
              refine y_istore_n X [(2, .int (1)), (10, .int r.1), (9, .int u9), (8, .int (nI (nal T2))), (7, .int (nI (tr T2))), (6, .int (nI (tn T2 - 1))), (5, .int (nI (hn2))), (0, .ref (xsb E)), (1, .ref (E.2.1 (0))), (3, .int (nI (tu))), (4, .int (nI (k)))] dL_law_182 rfl (by decide) rfl ?_
              refine y_iload_n X dL_law_183 0 rfl ?_
              refine y_if_eq X 288 ((1) = (0)) dL_law_184 (by decide) (nI_eq (a := 1) (b := 0) (by omega) (by omega)) (fun c_20 => ?_) (fun c_20 => ?_)
              ·
                exact absurd c_20 (by decide)
              ·
                have J_233 : lY p l e s m below meth c E C_18 233 [(2, .int (1)), (10, .int r.1), (9, .int u9), (8, .int (nI (nal T2))), (7, .int (nI (tr T2))), (6, .int (nI (tn T2 - 1))), (5, .int (nI (hn2))), (0, .ref (xsb E)), (1, .ref (E.2.1 (0))), (3, .int (nI (tu))), (4, .int (nI (k)))] [] := by
                  have J_258 : lY p l e s m below meth c E C_18 258 [(2, .int (1)), (10, .int r.1), (9, .int u9), (8, .int (nI (nal T2))), (7, .int (nI (tr T2))), (6, .int (nI (tn T2 - 1))), (5, .int (nI (hn2))), (0, .ref (xsb E)), (1, .ref (E.2.1 (0))), (3, .int (nI (tu))), (4, .int (nI (k)))] [] := by
                    have J_289 : lY p l e s m below meth c E C_18 289 [(2, .int (1)), (10, .int r.1), (9, .int u9), (8, .int (nI (nal T2))), (7, .int (nI (tr T2))), (6, .int (nI (tn T2 - 1))), (5, .int (nI (hn2))), (0, .ref (xsb E)), (1, .ref (E.2.1 (0))), (3, .int (nI (tu))), (4, .int (nI (k)))] [.int (1)] := by
                      refine y_istore_n X [(2, .int (1)), (10, .int r.1), (9, .int u9), (8, .int (nI (nal T2))), (7, .int (nI (tr T2))), (6, .int (nI (tn T2 - 1))), (5, .int (nI (hn2))), (0, .ref (xsb E)), (1, .ref (E.2.1 (0))), (3, .int (nI (tu))), (4, .int (nI (k)))] dL_law_289 rfl (by decide) rfl ?_
                      refine y_aload_n X dL_law_290 8 rfl ?_
                      refine y_iconst X (v := (2)) dL_law_291 (by decide) ?_
                      refine y_callVr X (0) 4 (av := [.int (2)]) [] 1 ((xR_eq rCt_2 (c_X4_count (w := 2) gC3 gW3))) (by omega) e3 rfl gL_law_X4_count rfl (by decide +kernel) rfl ⟨Nat.le_of_ble_eq_true rfl, Nat.le_of_ble_eq_true rfl⟩ ⟨Nat.le_of_ble_eq_true rfl, Nat.le_of_ble_eq_true rfl⟩ (Nat.le_of_ble_eq_true rfl) rfl dL_law_292 ?_
                      refine y_istore X [(11, .int (nI (tr (acT r T2)))), (2, .int (1)), (10, .int r.1), (9, .int u9), (8, .int (nI (nal T2))), (7, .int (nI (tr T2))), (6, .int (nI (tn T2 - 1))), (5, .int (nI (hn2))), (0, .ref (xsb E)), (1, .ref (E.2.1 (0))), (3, .int (nI (tu))), (4, .int (nI (k)))] dL_law_295 (by decide) rfl ?_
                      refine y_iload_n X dL_law_297 1 rfl ?_
                      refine y_if_eq X 366 ((1) = (0)) dL_law_298 (by decide) (nI_eq (a := 1) (b := 0) (by omega) (by omega)) (fun c_21 => ?_) (fun c_21 => ?_)
                      ·
                        exact absurd c_21 (by decide)
                      ·
                        refine y_aload_n X dL_law_301 9 rfl ?_
                        refine y_iload X dL_law_302 0 rfl ?_
                        refine y_if_ne X 311 (¬ ((tr (acT r T2)) = (0))) dL_law_304 (by decide) (cNe (nI_eq (a := tr (acT r T2)) (b := 0) (by omega) (by omega))) (fun c_22 => ?_) (fun c_22 => ?_)
                        ·
                          refine y_aload_n X dL_law_311 8 rfl ?_
                          refine y_iconst X (v := (3)) dL_law_312 (by decide) ?_
                          refine y_iload X dL_law_313 11 rfl ?_
                          refine y_imul X (z := (nI ((3) * (k)))) dL_law_315 (pk_mul (3) (k)) ?_
                          refine y_iconst X (v := (1)) dL_law_316 (by decide) ?_
                          refine y_iadd X (z := (nI ((3) * (k) + 1))) dL_law_317 (nI_add ((3) * (k)) (1)) ?_
                          refine y_callJr X (av := [.ref (xsb E), .int (nI ((3) * (k) + 1))]) [.ref (E.2.1 (0))] 2 (c_L_cell (k := (3) * (k) + 1) (by omega) (by omega)) gL_law_L_cell rfl (by decide +kernel) rfl ⟨Nat.le_of_ble_eq_true rfl, Nat.le_of_ble_eq_true rfl⟩ ⟨Nat.le_of_ble_eq_true rfl, Nat.le_of_ble_eq_true rfl⟩ (Nat.le_of_ble_eq_true rfl) rfl dL_law_318 ?_
                          refine y_bipush X (v := (9)) dL_law_321 (by decide) ?_
                          refine y_ishr X (z := ((cel E ((3) * (k) + 1)) >>> ((9) &&& 31))) dL_law_323 rfl ?_
                          refine y_iload X dL_law_324 0 rfl ?_
                          have glo_23 : lowN ((cel E ((3) * (k) + 1)) >>> ((9) &&& 31)) (tr (acT r T2)) < tr (acT r T2) := lowN_lt (by omega)
                          refine y_callJr X (av := [.int ((cel E ((3) * (k) + 1)) >>> ((9) &&& 31)), .int (nI (tr (acT r T2)))]) [.ref (E.2.1 (0))] 2 (c_L_low (x := ((cel E ((3) * (k) + 1)) >>> ((9) &&& 31))) (n := tr (acT r T2)) (by omega) (by omega)) gL_law_L_low rfl (by decide +kernel) rfl ⟨Nat.le_of_ble_eq_true rfl, Nat.le_of_ble_eq_true rfl⟩ ⟨Nat.le_of_ble_eq_true rfl, Nat.le_of_ble_eq_true rfl⟩ (Nat.le_of_ble_eq_true rfl) rfl dL_law_326 ?_
                          refine y_iload X dL_law_329 0 rfl ?_
                          refine y_if_ne X 338 (¬ ((tr (acT r T2)) = (0))) dL_law_331 (by decide) (cNe (nI_eq (a := tr (acT r T2)) (b := 0) (by omega) (by omega))) (fun c_24 => ?_) (fun c_24 => ?_)
                          ·
                            refine y_aload_n X dL_law_338 8 rfl ?_
                            refine y_iconst X (v := (3)) dL_law_339 (by decide) ?_
                            refine y_iload X dL_law_340 11 rfl ?_
                            refine y_imul X (z := (nI ((3) * (k)))) dL_law_342 (pk_mul (3) (k)) ?_
                            refine y_iconst X (v := (2)) dL_law_343 (by decide) ?_
                            refine y_iadd X (z := (nI ((3) * (k) + 2))) dL_law_344 (nI_add ((3) * (k)) (2)) ?_
                            refine y_callJr X (av := [.ref (xsb E), .int (nI ((3) * (k) + 2))]) [.int (nI (lowN ((cel E ((3) * (k) + 1)) >>> ((9) &&& 31)) (tr (acT r T2)))), .ref (E.2.1 (0))] 2 (c_L_cell (k := (3) * (k) + 2) (by omega) (by omega)) gL_law_L_cell rfl (by decide +kernel) rfl ⟨Nat.le_of_ble_eq_true rfl, Nat.le_of_ble_eq_true rfl⟩ ⟨Nat.le_of_ble_eq_true rfl, Nat.le_of_ble_eq_true rfl⟩ (Nat.le_of_ble_eq_true rfl) rfl dL_law_345 ?_
                            refine y_bipush X (v := (9)) dL_law_348 (by decide) ?_
                            refine y_ishr X (z := ((cel E ((3) * (k) + 2)) >>> ((9) &&& 31))) dL_law_350 rfl ?_
                            refine y_iload X dL_law_351 0 rfl ?_
                            have glo_25 : lowN ((cel E ((3) * (k) + 2)) >>> ((9) &&& 31)) (tr (acT r T2)) < tr (acT r T2) := lowN_lt (by omega)
                            refine y_callJr X (av := [.int ((cel E ((3) * (k) + 2)) >>> ((9) &&& 31)), .int (nI (tr (acT r T2)))]) [.int (nI (lowN ((cel E ((3) * (k) + 1)) >>> ((9) &&& 31)) (tr (acT r T2)))), .ref (E.2.1 (0))] 2 (c_L_low (x := ((cel E ((3) * (k) + 2)) >>> ((9) &&& 31))) (n := tr (acT r T2)) (by omega) (by omega)) gL_law_L_low rfl (by decide +kernel) rfl ⟨Nat.le_of_ble_eq_true rfl, Nat.le_of_ble_eq_true rfl⟩ ⟨Nat.le_of_ble_eq_true rfl, Nat.le_of_ble_eq_true rfl⟩ (Nat.le_of_ble_eq_true rfl) rfl dL_law_353 ?_
                            refine y_callJr X (av := [.ref (E.2.1 (0)), .int (nI (lowN ((cel E ((3) * (k) + 1)) >>> ((9) &&& 31)) (tr (acT r T2)))), .int (nI (lowN ((cel E ((3) * (k) + 2)) >>> ((9) &&& 31)) (tr (acT r T2))))]) [] 3 (c_L_table (a := lowN ((cel E ((3) * (k) + 1)) >>> ((9) &&& 31)) (tr (acT r T2))) (b0 := lowN ((cel E ((3) * (k) + 2)) >>> ((9) &&& 31)) (tr (acT r T2))) gC3 gW3 gd3 (by omega) (by omega)) gL_law_L_table rfl (by decide +kernel) rfl ⟨Nat.le_of_ble_eq_true rfl, Nat.le_of_ble_eq_true rfl⟩ ⟨Nat.le_of_ble_eq_true rfl, Nat.le_of_ble_eq_true rfl⟩ (Nat.le_of_ble_eq_true rfl) rfl dL_law_356 ?_
                            refine y_if_eq X 366 ((1) = (0)) dL_law_359 (by decide) (nI_eq (a := 1) (b := 0) (by omega) (by omega)) (fun c_26 => ?_) (fun c_26 => ?_)
                            ·
                              exact absurd c_26 (by decide)
                            ·
                              refine y_iconst X (v := (1)) dL_law_362 (by decide) ?_
                              refine y_goto X 367 dL_law_363 (by decide) ?_
                              refine y_istore_n X [(2, .int (1)), (11, .int (nI (tr (acT r T2)))), (10, .int r.1), (9, .int u9), (8, .int (nI (nal T2))), (7, .int (nI (tr T2))), (6, .int (nI (tn T2 - 1))), (5, .int (nI (hn2))), (0, .ref (xsb E)), (1, .ref (E.2.1 (0))), (3, .int (nI (tu))), (4, .int (nI (k)))] dL_law_367 rfl (by decide) rfl ?_
                              refine y_iinc X [(4, .int (nI (k + 1))), (2, .int (1)), (11, .int (nI (tr (acT r T2)))), (10, .int r.1), (9, .int u9), (8, .int (nI (nal T2))), (7, .int (nI (tr T2))), (6, .int (nI (tn T2 - 1))), (5, .int (nI (hn2))), (0, .ref (xsb E)), (1, .ref (E.2.1 (0))), (3, .int (nI (tu)))] dL_law_368 11 rfl (nI_1 _) (by decide) rfl ?_
                              refine y_goto X 32 dL_law_371 (by decide) ?_
                              refine y_pick [9, 10, 1, 11, 0] [(0, .ref (xsb E)), (1, .ref (E.2.1 (0))), (2, .int (1)), (3, .int (nI (tu))), (4, .int (nI (k + 1)))] rfl ?_
                              exact ih32 (C_18) ((acT r T2)) ((acH r T2 hh2 hn2)) ((acN r hn2)) (k + 1) (by omega) gC3 gW3 gd3 (by omega)
                          ·
                            have c_24 := Decidable.of_not_not c_24
                            exact absurd c_24 c_22
                        ·
                          have c_22 := Decidable.of_not_not c_22
                          refine y_iconst X (v := (0)) dL_law_307 (by decide) ?_
                          refine y_goto X 329 dL_law_308 (by decide) ?_
                          refine y_iload X dL_law_329 0 rfl ?_
                          refine y_if_ne X 338 (¬ ((tr (acT r T2)) = (0))) dL_law_331 (by decide) (cNe (nI_eq (a := tr (acT r T2)) (b := 0) (by omega) (by omega))) (fun c_27 => ?_) (fun c_27 => ?_)
                          ·
                            exact absurd c_22 c_27
                          ·
                            have c_27 := Decidable.of_not_not c_27
                            refine y_iconst X (v := (-1)) dL_law_334 (by decide) ?_
                            refine y_goto X 356 dL_law_335 (by decide) ?_
                            refine y_callJr X (av := [.ref (E.2.1 (0)), .int (0), .int (-1)]) [] 3 (c_L_table0 gC3 gW3 gd3 c_22) gL_law_L_table rfl (by decide +kernel) rfl ⟨Nat.le_of_ble_eq_true rfl, Nat.le_of_ble_eq_true rfl⟩ ⟨Nat.le_of_ble_eq_true rfl, Nat.le_of_ble_eq_true rfl⟩ (Nat.le_of_ble_eq_true rfl) rfl dL_law_356 ?_
                            refine y_if_eq X 366 ((1) = (0)) dL_law_359 (by decide) (nI_eq (a := 1) (b := 0) (by omega) (by omega)) (fun c_28 => ?_) (fun c_28 => ?_)
                            ·
                              exact absurd c_28 (by decide)
                            ·
                              refine y_iconst X (v := (1)) dL_law_362 (by decide) ?_
                              refine y_goto X 367 dL_law_363 (by decide) ?_
                              refine y_istore_n X [(2, .int (1)), (11, .int (nI (tr (acT r T2)))), (10, .int r.1), (9, .int u9), (8, .int (nI (nal T2))), (7, .int (nI (tr T2))), (6, .int (nI (tn T2 - 1))), (5, .int (nI (hn2))), (0, .ref (xsb E)), (1, .ref (E.2.1 (0))), (3, .int (nI (tu))), (4, .int (nI (k)))] dL_law_367 rfl (by decide) rfl ?_
                              refine y_iinc X [(4, .int (nI (k + 1))), (2, .int (1)), (11, .int (nI (tr (acT r T2)))), (10, .int r.1), (9, .int u9), (8, .int (nI (nal T2))), (7, .int (nI (tr T2))), (6, .int (nI (tn T2 - 1))), (5, .int (nI (hn2))), (0, .ref (xsb E)), (1, .ref (E.2.1 (0))), (3, .int (nI (tu)))] dL_law_368 11 rfl (nI_1 _) (by decide) rfl ?_
                              refine y_goto X 32 dL_law_371 (by decide) ?_
                              refine y_pick [9, 10, 1, 11, 0] [(0, .ref (xsb E)), (1, .ref (E.2.1 (0))), (2, .int (1)), (3, .int (nI (tu))), (4, .int (nI (k + 1)))] rfl ?_
                              exact ih32 (C_18) ((acT r T2)) ((acH r T2 hh2 hn2)) ((acN r hn2)) (k + 1) (by omega) gC3 gW3 gd3 (by omega)
                    have J_272 : (u9 = 17 ∨ u9 = 18) → lY p l e s m below meth c E C_18 272 [(2, .int (1)), (10, .int r.1), (9, .int u9), (8, .int (nI (nal T2))), (7, .int (nI (tr T2))), (6, .int (nI (tn T2 - 1))), (5, .int (nI (hn2))), (0, .ref (xsb E)), (1, .ref (E.2.1 (0))), (3, .int (nI (tu))), (4, .int (nI (k)))] [] := by
                      intro h17
                      refine y_iload X dL_law_272 1 rfl ?_
                      refine y_if_lt X 284 ((r.1).toInt < (0 : Int)) dL_law_274 (by decide) (cLt rfl (by decide)) (fun c_29 => ?_) (fun c_29 => ?_)
                      ·
                        refine y_iconst X (v := (1)) dL_law_284 (by decide) ?_
                        refine y_goto X 289 dL_law_285 (by decide) ?_
                        exact J_289
                      ·
                        refine y_iload X dL_law_277 1 rfl ?_
                        refine y_iload X dL_law_279 3 rfl ?_
                        refine y_icmp_gt X 288 (False) dL_law_281 (by decide) (iff_of_false (law_s3 gA gv2.1 h17 (told_ok c_29)) id) (fun c_30 => ?_) (fun c_30 => ?_)
                        ·
                          exact c_30.elim
                        ·
                          refine y_iconst X (v := (1)) dL_law_284 (by decide) ?_
                          refine y_goto X 289 dL_law_285 (by decide) ?_
                          exact J_289
                    refine y_iload X dL_law_258 2 rfl ?_
                    refine y_bipush X (v := (17)) dL_law_260 (by decide) ?_
                    refine y_icmp_eq X 272 (u9 = (17)) dL_law_262 (by decide) Iff.rfl (fun c_31 => ?_) (fun c_31 => ?_)
                    ·
                      exact J_272  (Or.inl c_31)
                    ·
                      refine y_iload X dL_law_265 2 rfl ?_
                      refine y_bipush X (v := (18)) dL_law_267 (by decide) ?_
                      refine y_icmp_ne X 284 (¬ (u9 = (18))) dL_law_269 (by decide) Iff.rfl (fun c_32 => ?_) (fun c_32 => ?_)
                      ·
                        refine y_iconst X (v := (1)) dL_law_284 (by decide) ?_
                        refine y_goto X 289 dL_law_285 (by decide) ?_
                        exact J_289
                      ·
                        have c_32 := Decidable.of_not_not c_32
                        exact J_272  (Or.inr c_32)
                  refine y_iload X dL_law_233 2 rfl ?_
                  refine y_bipush X (v := (19)) dL_law_235 (by decide) ?_
                  refine y_icmp_lt X 258 ((u9).toInt < (19 : Int)) dL_law_237 (by decide) (cLt rfl (by decide)) (fun c_33 => ?_) (fun c_33 => ?_)
                  ·
                    exact J_258
                  ·
                    refine y_iload X dL_law_240 1 rfl ?_
                    refine y_if_lt X 258 ((r.1).toInt < (0 : Int)) dL_law_242 (by decide) (cLt rfl (by decide)) (fun c_34 => ?_) (fun c_34 => ?_)
                    ·
                      exact J_258
                    ·
                      refine y_aload_n X dL_law_245 8 rfl ?_
                      refine y_iconst X (v := (0)) dL_law_246 (by decide) ?_
                      refine y_callVr X (0) 4 (av := [.int (0)]) [] 1 ((xR_eq rCt_0 (c_X4_count (w := 0) gC3 gW3))) (by omega) e3 rfl gL_law_X4_count rfl (by decide +kernel) rfl ⟨Nat.le_of_ble_eq_true rfl, Nat.le_of_ble_eq_true rfl⟩ ⟨Nat.le_of_ble_eq_true rfl, Nat.le_of_ble_eq_true rfl⟩ (Nat.le_of_ble_eq_true rfl) rfl dL_law_247 ?_
                      refine y_iload X dL_law_250 5 rfl ?_
                      refine y_iload X dL_law_252 1 rfl ?_
                      refine y_isub X (z := ((nI (tn T2 - 1)) - r.1)) dL_law_254 rfl ?_
                      refine y_icmp_ne X 288 (False) dL_law_255 (by decide) (iff_of_false (fun z => z (law_s2 gA gw1 gw2 c_33 (told_ok c_34))) id) (fun c_35 => ?_) (fun c_35 => ?_)
                      ·
                        exact c_35.elim
                      ·
                        exact J_258
                refine y_iload X dL_law_187 2 rfl ?_
                refine y_bipush X (v := (6)) dL_law_189 (by decide) ?_
                refine y_icmp_gt X 233 ((6 : Int) < (u9).toInt) dL_law_191 (by decide) (cLt (by decide) rfl) (fun c_36 => ?_) (fun c_36 => ?_)
                ·
                  exact J_233
                ·
                  refine y_iload X dL_law_194 1 rfl ?_
                  refine y_sipush X (v := (-9999)) dL_law_196 (by decide) ?_
                  refine y_icmp_lt X 233 (¬ -10001 < r.1) dL_law_199 (by decide) (told_lt gA.2.2.1) (fun c_37 => ?_) (fun c_37 => ?_)
                  ·
                    exact J_233
                  ·
                    have c_37 := Decidable.of_not_not c_37
                    refine y_aload_n X dL_law_202 8 rfl ?_
                    refine y_iconst X (v := (0)) dL_law_203 (by decide) ?_
                    refine y_callVr X (0) 4 (av := [.int (0)]) [] 1 ((xR_eq rCt_0 (c_X4_count (w := 0) gC3 gW3))) (by omega) e3 rfl gL_law_X4_count rfl (by decide +kernel) rfl ⟨Nat.le_of_ble_eq_true rfl, Nat.le_of_ble_eq_true rfl⟩ ⟨Nat.le_of_ble_eq_true rfl, Nat.le_of_ble_eq_true rfl⟩ (Nat.le_of_ble_eq_true rfl) rfl dL_law_204 ?_
                    refine y_iload X dL_law_207 5 rfl ?_
                    refine y_iconst X (v := (1)) dL_law_209 (by decide) ?_
                    refine y_iadd X (z := (nI (tn T2 - 1 + 1))) dL_law_210 (nI_add (tn T2 - 1) (1)) ?_
                    refine y_icmp_ne X 288 (False) dL_law_211 (by decide) (iff_of_false (fun z => z (law_s1 gA gw1 (by omega) c_37).1) id) (fun c_38 => ?_) (fun c_38 => ?_)
                    ·
                      exact c_38.elim
                    ·
                      refine y_iload X dL_law_214 1 rfl ?_
                      refine y_iload X dL_law_216 5 rfl ?_
                      refine y_iconst X (v := (1)) dL_law_218 (by decide) ?_
                      refine y_iadd X (z := (nI (tn T2 - 1 + 1))) dL_law_219 (nI_add (tn T2 - 1) (1)) ?_
                      refine y_icmp_ne X 288 (False) dL_law_220 (by decide) (iff_of_false (fun z => z (law_s1 gA gw1 (by omega) c_37).2.1) id) (fun c_39 => ?_) (fun c_39 => ?_)
                      ·
                        exact c_39.elim
                      ·
                        refine y_aload_n X dL_law_223 8 rfl ?_
                        refine y_iconst X (v := (4)) dL_law_224 (by decide) ?_
                        refine y_callVr X (0) 4 (av := [.int (4)]) [] 1 ((xR_eq rCt_4 (c_X4_count (w := 4) gC3 gW3))) (by omega) e3 rfl gL_law_X4_count rfl (by decide +kernel) rfl ⟨Nat.le_of_ble_eq_true rfl, Nat.le_of_ble_eq_true rfl⟩ ⟨Nat.le_of_ble_eq_true rfl, Nat.le_of_ble_eq_true rfl⟩ (Nat.le_of_ble_eq_true rfl) rfl dL_law_225 ?_
                        refine y_iload X dL_law_228 3 rfl ?_
                        refine y_icmp_ne X 288 (False) dL_law_230 (by decide) (iff_of_false (fun z => z (law_s1 gA gw1 (by omega) c_37).2.2) id) (fun c_40 => ?_) (fun c_40 => ?_)
                        ·
                          exact c_40.elim
                        ·
                          exact J_233
            refine y_iload X dL_law_97 0 rfl ?_
            refine y_sipush X (v := (-9999)) dL_law_99 (by decide) ?_
            refine y_icmp_lt X 136 (¬ -10001 < r.1) dL_law_102 (by decide) (told_lt gA.2.2.1) (fun c_41 => ?_) (fun c_41 => ?_)
            ·
              refine y_aload_n X dL_law_136 7 rfl ?_
              refine y_bipush X (v := (7)) dL_law_137 (by decide) ?_
              refine y_callVr X (0) 4 (av := [.int (7)]) [] 1 ((xR_eq rCt_7 (c_X4_count (w := 7) gC3 gW3))) (by omega) e3 rfl gL_law_X4_count rfl (by decide +kernel) rfl ⟨Nat.le_of_ble_eq_true rfl, Nat.le_of_ble_eq_true rfl⟩ ⟨Nat.le_of_ble_eq_true rfl, Nat.le_of_ble_eq_true rfl⟩ (Nat.le_of_ble_eq_true rfl) rfl dL_law_139 ?_
              refine y_iload X dL_law_142 5 rfl ?_
              refine y_icmp_ne X 181 (False) dL_law_144 (by decide) (iff_of_false (fun z => z (stay_N c_41)) id) (fun c_42 => ?_) (fun c_42 => ?_)
              ·
                exact c_42.elim
              ·
                refine y_aload_n X dL_law_147 7 rfl ?_
                refine y_iconst X (v := (0)) dL_law_148 (by decide) ?_
                refine y_callVr X (0) 4 (av := [.int (0)]) [] 1 ((xR_eq rCt_0 (c_X4_count (w := 0) gC3 gW3))) (by omega) e3 rfl gL_law_X4_count rfl (by decide +kernel) rfl ⟨Nat.le_of_ble_eq_true rfl, Nat.le_of_ble_eq_true rfl⟩ ⟨Nat.le_of_ble_eq_true rfl, Nat.le_of_ble_eq_true rfl⟩ (Nat.le_of_ble_eq_true rfl) rfl dL_law_149 ?_
                refine y_iload X dL_law_152 4 rfl ?_
                refine y_icmp_ne X 181 (False) dL_law_154 (by decide) (iff_of_false (fun z => z (by rw [stay_T c_41])) id) (fun c_43 => ?_) (fun c_43 => ?_)
                ·
                  exact c_43.elim
                ·
                  refine y_aload_n X dL_law_157 7 rfl ?_
                  refine y_iconst X (v := (2)) dL_law_158 (by decide) ?_
                  refine y_callVr X (0) 4 (av := [.int (2)]) [] 1 ((xR_eq rCt_2 (c_X4_count (w := 2) gC3 gW3))) (by omega) e3 rfl gL_law_X4_count rfl (by decide +kernel) rfl ⟨Nat.le_of_ble_eq_true rfl, Nat.le_of_ble_eq_true rfl⟩ ⟨Nat.le_of_ble_eq_true rfl, Nat.le_of_ble_eq_true rfl⟩ (Nat.le_of_ble_eq_true rfl) rfl dL_law_159 ?_
                  refine y_iload X dL_law_162 3 rfl ?_
                  refine y_icmp_ne X 181 (False) dL_law_164 (by decide) (iff_of_false (fun z => z (by rw [stay_T c_41])) id) (fun c_44 => ?_) (fun c_44 => ?_)
                  ·
                    exact c_44.elim
                  ·
                    refine y_aload_n X dL_law_167 7 rfl ?_
                    refine y_iconst X (v := (4)) dL_law_168 (by decide) ?_
                    refine y_callVr X (0) 4 (av := [.int (4)]) [] 1 ((xR_eq rCt_4 (c_X4_count (w := 4) gC3 gW3))) (by omega) e3 rfl gL_law_X4_count rfl (by decide +kernel) rfl ⟨Nat.le_of_ble_eq_true rfl, Nat.le_of_ble_eq_true rfl⟩ ⟨Nat.le_of_ble_eq_true rfl, Nat.le_of_ble_eq_true rfl⟩ (Nat.le_of_ble_eq_true rfl) rfl dL_law_169 ?_
                    refine y_iload X dL_law_172 2 rfl ?_
                    refine y_icmp_ne X 181 (False) dL_law_174 (by decide) (iff_of_false (fun z => z (by rw [stay_T c_41])) id) (fun c_45 => ?_) (fun c_45 => ?_)
                    ·
                      exact c_45.elim
                    ·
                      refine y_iconst X (v := (1)) dL_law_177 (by decide) ?_
                      refine y_goto X 182 dL_law_178 (by decide) ?_
                      exact J_182
            ·
              have c_41 := Decidable.of_not_not c_41
              refine y_aload_n X dL_law_105 7 rfl ?_
              refine y_bipush X (v := (7)) dL_law_106 (by decide) ?_
              refine y_callVr X (0) 4 (av := [.int (7)]) [] 1 ((xR_eq rCt_7 (c_X4_count (w := 7) gC3 gW3))) (by omega) e3 rfl gL_law_X4_count rfl (by decide +kernel) rfl ⟨Nat.le_of_ble_eq_true rfl, Nat.le_of_ble_eq_true rfl⟩ ⟨Nat.le_of_ble_eq_true rfl, Nat.le_of_ble_eq_true rfl⟩ (Nat.le_of_ble_eq_true rfl) rfl dL_law_108 ?_
              refine y_iload X dL_law_111 5 rfl ?_
              refine y_iconst X (v := (4)) dL_law_113 (by decide) ?_
              refine y_icmp_ge X 124 ((4) ≤ (hn2)) dL_law_114 (by decide) (nI_leI (a := 4) (b := hn2) (by omega) (by omega)) (fun c_46 => ?_) (fun c_46 => ?_)
              ·
                refine y_iconst X (v := (4)) dL_law_124 (by decide) ?_
                refine y_icmp_ne X 132 (False) dL_law_125 (by decide) (iff_of_false (fun z => z (acN_4 c_41 c_46 gn4)) id) (fun c_47 => ?_) (fun c_47 => ?_)
                ·
                  exact c_47.elim
                ·
                  refine y_iconst X (v := (1)) dL_law_128 (by decide) ?_
                  refine y_goto X 182 dL_law_129 (by decide) ?_
                  exact J_182
              ·
                refine y_iload X dL_law_117 5 rfl ?_
                refine y_iconst X (v := (1)) dL_law_119 (by decide) ?_
                refine y_iadd X (z := (nI (hn2 + 1))) dL_law_120 (nI_add (hn2) (1)) ?_
                refine y_goto X 125 dL_law_121 (by decide) ?_
                refine y_icmp_ne X 132 (False) dL_law_125 (by decide) (iff_of_false (fun z => z (acN_s c_41 c_46)) id) (fun c_48 => ?_) (fun c_48 => ?_)
                ·
                  exact c_48.elim
                ·
                  refine y_iconst X (v := (1)) dL_law_128 (by decide) ?_
                  refine y_goto X 182 dL_law_129 (by decide) ?_
                  exact J_182
    refine y_pick [4, 3, 2, 1, 0] [(0, .ref (xsb E)), (1, .ref (E.2.1 (0))), (2, .int (1)), (3, .int (nI (tu))), (4, .int (0))] rfl ?_
    exact L_32 _ (C) (T) (hh) (hn) (0) (Nat.lt_succ_self _) gC gW gd (by omega)
  refine y_aload_n X dL_law_10 2 rfl ?_
  refine y_slen X dL_law_11 ?_
  refine y_iconst X (v := (3)) dL_law_12 (by decide) ?_
  refine y_idiv X (z := (nI ((xsl E) / (3)))) dL_law_13 (by decide) (pk_div (a := xsl E) (d := 3) (by omega) (by omega) (by omega)) ?_
  refine y_bipush X (v := (50)) dL_law_14 (by decide) ?_
  refine y_icmp_le X 24 (((xsl E) / (3)) ≤ (50)) dL_law_16 (by decide) (nI_leI (a := (xsl E) / (3)) (b := 50) (by omega) (by omega)) (fun c_49 => ?_) (fun c_49 => ?_)
  ·
    refine y_aload_n X dL_law_24 2 rfl ?_
    refine y_slen X dL_law_25 ?_
    refine y_iconst X (v := (3)) dL_law_26 (by decide) ?_
    refine y_idiv X (z := (nI ((xsl E) / (3)))) dL_law_27 (by decide) (pk_div (a := xsl E) (d := 3) (by omega) (by omega) (by omega)) ?_
    exact J_28 ((xsl E) / (3)) (by omega)
  ·
    refine y_bipush X (v := (50)) dL_law_19 (by decide) ?_
    refine y_goto X 28 dL_law_21 (by decide) ?_
    exact J_28 (50) (by omega)
