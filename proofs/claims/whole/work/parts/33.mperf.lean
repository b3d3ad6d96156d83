set_option maxRecDepth 100000 in
set_option maxHeartbeats 4000000 in
theorem c_X5_does {l : Launch} {E : xE} {C : xC} {a : Nat} {T : Tb} (ga : a < 68) (gT : RM E C a T) (gv : WF T) {G : Nat → Nat} {ln u8 : Nat} {x1 x2 x3 : Int32} (gO : cmO G ln u8) (gk0 : cmS G ln u8 < 65536) (g97 : cmS G ln u8 = 97 → x1 = opV G ln 0 7 (u8 + 3) ∧ x2 = nI (colK G ln (u8 + 3)) ∧ x3 = dftV G ln (colK G ln (u8 + 3)) (colP G ln (u8 + 3))) (g107 : cmS G ln u8 = 107 → x1 = opV G ln 0 7 (u8 + 4) ∧ x2 = nI (colK G ln (u8 + 4))) (g100 : cmS G ln u8 = 100 → x1 = opV G ln 0 7 (u8 + 4)) (g115 : cmS G ln u8 = 115 → x1 = opV G ln 0 23 (u8 + 3) ∧ x2 = opV G ln 0 7 (opP G ln 0 23 (u8 + 3)) ∧ x3 = opV G ln (-9999) 9999 (opP G ln 0 7 (opP G ln 0 23 (u8 + 3)))) : xM E l yX5_does wsX5_does 3 69 [.ref (E.2.1 (a)), .int (nI (cmS G ln u8)), .int x1, .int x2, .int x3] C (fun v C1 => v = some (.int (exC T G ln u8).1) ∧ RM E C1 a (exC T G ln u8).2 ∧ (∀ i : Nat, ¬ i = a → C1 i = C i)) := by
  refine xM_ofY (cc := cX5_does) (maxL := 5) (ret := (some .int)) (by decide) rfl (Nat.le_of_ble_eq_true rfl) ?_
  intro p e s m args below meth c X hr
  refine y_lv [(0, .ref (E.2.1 (a))), (1, .int (nI (cmS G ln u8))), (2, .int x1), (3, .int x2), (4, .int x3)] rfl ?_
  refine y_iload_n X dX5_does_0 1 rfl ?_
  by_cases gs9 : cmS G ln u8 = 97
  ·
    refine y_lookup X 44 (off := 43) dX5_does_1 (by decide) (by rw [gs9]; rfl) (by decide) ?_
    obtain ⟨ex1, ex2, ex3⟩ := g97 gs9
    rw [opV_N] at ex1
    subst ex1
    subst ex2
    subst ex3
    have gj := opN_b (cm_97 gO gs9).1.1
    refine y_aload_n X dX5_does_44 0 rfl ?_
    refine y_iload_n X dX5_does_45 2 rfl ?_
    refine y_iload_n X dX5_does_46 3 rfl ?_
    refine y_iload X dX5_does_47 4 rfl ?_
    refine y_callJ X (av := [.ref (E.2.1 (a)), .int (nI (opN G ln 7 (u8 + 3))), .int (nI (colK G ln (u8 + 3))), .int (dftV G ln (colK G ln (u8 + 3)) (colP G ln (u8 + 3)))]) [] 4 (c_X5_adds (a := a) (T := T) ga gT gv (j := opN G ln 7 (u8 + 3)) (kd := (nI (colK G ln (u8 + 3)))) (d0 := (dftV G ln (colK G ln (u8 + 3)) (colP G ln (u8 + 3)))) (by omega)) gX5_does_X5_adds rfl (by decide +kernel) rfl ⟨Nat.le_of_ble_eq_true rfl, Nat.le_of_ble_eq_true rfl⟩ ⟨Nat.zero_le _, Nat.zero_le _⟩ (Nat.le_of_ble_eq_true rfl) rfl dX5_does_49 (fun v_1 C_2 hp_3 => ?_)
    obtain ⟨gv9, gR, gF⟩ := hp_3
    subst gv9
    exact y_iret X hr dX5_does_52 rfl (by have ez : exC T G ln u8 = aAdd T (opN G ln 7 (u8 + 3)) (nI (colK G ln (u8 + 3))) (dftV G ln (colK G ln (u8 + 3)) (colP G ln (u8 + 3))) := (by unfold exC; rw [if_pos gs9]); rw [ez]; exact ⟨rfl, gR, gF⟩)
  ·
    have gn97 := gs9
    clear gs9
    by_cases gs9 : cmS G ln u8 = 100
    ·
      refine y_lookup X 60 (off := 59) dX5_does_1 (by decide) (by rw [gs9]; rfl) (by decide) ?_
      have ex1 := g100 gs9
      rw [opV_N] at ex1
      subst ex1
      have gj := opN_b (cm_100 gO gs9)
      refine y_aload_n X dX5_does_60 0 rfl ?_
      refine y_iload_n X dX5_does_61 2 rfl ?_
      refine y_callJ X (av := [.ref (E.2.1 (a)), .int (nI (opN G ln 7 (u8 + 4)))]) [] 2 (c_X5_drops (a := a) (T := T) ga gT gv (j := opN G ln 7 (u8 + 4)) (by omega)) gX5_does_X5_drops rfl (by decide +kernel) rfl ⟨Nat.le_of_ble_eq_true rfl, Nat.le_of_ble_eq_true rfl⟩ ⟨Nat.zero_le _, Nat.zero_le _⟩ (Nat.le_of_ble_eq_true rfl) rfl dX5_does_62 (fun v_4 C_5 hp_6 => ?_)
      obtain ⟨gv9, gR, gF⟩ := hp_6
      subst gv9
      exact y_iret X hr dX5_does_65 rfl (by have ez : exC T G ln u8 = aDrop T (opN G ln 7 (u8 + 4)) := (by unfold exC; rw [if_neg (by omega), if_neg (by omega), if_pos gs9]); rw [ez]; exact ⟨rfl, gR, gF⟩)
    ·
      have gn100 := gs9
      clear gs9
      by_cases gs9 : cmS G ln u8 = 107
      ·
        refine y_lookup X 53 (off := 52) dX5_does_1 (by decide) (by rw [gs9]; rfl) (by decide) ?_
        obtain ⟨ex1, ex2⟩ := g107 gs9
        rw [opV_N] at ex1
        subst ex1
        subst ex2
        have gj := opN_b (cm_107 gO gs9).1
        refine y_aload_n X dX5_does_53 0 rfl ?_
        refine y_iload_n X dX5_does_54 2 rfl ?_
        refine y_iload_n X dX5_does_55 3 rfl ?_
        refine y_callJ X (av := [.ref (E.2.1 (a)), .int (nI (opN G ln 7 (u8 + 4))), .int (nI (colK G ln (u8 + 4)))]) [] 3 (c_X5_turns (a := a) (T := T) ga gT gv (j := opN G ln 7 (u8 + 4)) (kd := (nI (colK G ln (u8 + 4)))) (by omega) (xin_3 kdK_3)) gX5_does_X5_turns rfl (by decide +kernel) rfl ⟨Nat.le_of_ble_eq_true rfl, Nat.le_of_ble_eq_true rfl⟩ ⟨Nat.zero_le _, Nat.zero_le _⟩ (Nat.le_of_ble_eq_true rfl) rfl dX5_does_56 (fun v_7 C_8 hp_9 => ?_)
        obtain ⟨gv9, gR, gF⟩ := hp_9
        subst gv9
        exact y_iret X hr dX5_does_59 rfl (by have ez : exC T G ln u8 = aKind T (opN G ln 7 (u8 + 4)) (nI (colK G ln (u8 + 4))) := (by unfold exC; rw [if_neg (by omega), if_pos gs9]); rw [ez]; exact ⟨rfl, gR, gF⟩)
      ·
        have gn107 := gs9
        clear gs9
        by_cases gs9 : cmS G ln u8 = 114
        ·
          refine y_lookup X 66 (off := 65) dX5_does_1 (by decide) (by rw [gs9]; rfl) (by decide) ?_
          refine y_aload_n X dX5_does_66 0 rfl ?_
          refine y_callJ X (av := [.ref (E.2.1 (a))]) [] 1 (c_X5_writes (a := a) (T := T) ga gT gv ) gX5_does_X5_writes rfl (by decide +kernel) rfl ⟨Nat.le_of_ble_eq_true rfl, Nat.le_of_ble_eq_true rfl⟩ ⟨Nat.zero_le _, Nat.zero_le _⟩ (Nat.le_of_ble_eq_true rfl) rfl dX5_does_67 (fun v_10 C_11 hp_12 => ?_)
          obtain ⟨gv9, gR, gF⟩ := hp_12
          subst gv9
          exact y_iret X hr dX5_does_70 rfl (by have ez : exC T G ln u8 = sRow T := (by unfold exC; rw [if_neg (by omega), if_neg (by omega), if_neg (by omega), if_pos gs9]); rw [ez]; exact ⟨rfl, gR, gF⟩)
        ·
          have gn114 := gs9
          clear gs9
          refine y_lookup X 71 (off := 70) dX5_does_1 (by decide) (by rw [nI_toInt (by omega)]; show Op.lookupswitch.offset [(97, 43), (100, 59), (107, 52), (114, 65)] 70 _ = _; rw [Op.lookupswitch.offset_cons, if_neg (by omega), Op.lookupswitch.offset_cons, if_neg (by omega), Op.lookupswitch.offset_cons, if_neg (by omega), Op.lookupswitch.offset_cons, if_neg (by omega)]; rfl) (by decide) ?_
          have gs9 := cm_115 gO gn97 gn107 gn100 gn114
          obtain ⟨ex1, ex2, ex3⟩ := g115 gs9
          subst ex1
          subst ex2
          subst ex3
          refine y_aload_n X dX5_does_71 0 rfl ?_
          refine y_iload_n X dX5_does_72 2 rfl ?_
          refine y_iload_n X dX5_does_73 3 rfl ?_
          refine y_iload X dX5_does_74 4 rfl ?_
          refine y_callJ X (av := [.ref (E.2.1 (a)), .int (opV G ln 0 23 (u8 + 3)), .int (opV G ln 0 7 (opP G ln 0 23 (u8 + 3))), .int (opV G ln (-9999) 9999 (opP G ln 0 7 (opP G ln 0 23 (u8 + 3))))]) [] 4 (c_X5_sets (a := a) (T := T) ga gT gv (x := (opV G ln 0 23 (u8 + 3))) (y := (opV G ln 0 7 (opP G ln 0 23 (u8 + 3)))) (v0 := (opV G ln (-9999) 9999 (opP G ln 0 7 (opP G ln 0 23 (u8 + 3)))))) gX5_does_X5_sets rfl (by decide +kernel) rfl ⟨Nat.le_of_ble_eq_true rfl, Nat.le_of_ble_eq_true rfl⟩ ⟨Nat.zero_le _, Nat.zero_le _⟩ (Nat.le_of_ble_eq_true rfl) rfl dX5_does_76 (fun v_13 C_14 hp_15 => ?_)
          obtain ⟨gv9, gR, gF⟩ := hp_15
          subst gv9
          exact y_iret X hr dX5_does_79 rfl (by have ez : exC T G ln u8 = sSet T (opV G ln 0 23 (u8 + 3)) (opV G ln 0 7 (opP G ln 0 23 (u8 + 3))) (opV G ln (-9999) 9999 (opP G ln 0 7 (opP G ln 0 23 (u8 + 3)))) := (by unfold exC; rw [if_neg (by omega), if_neg (by omega), if_neg (by omega), if_neg (by omega)]); rw [ez]; exact ⟨rfl, gR, gF⟩)
