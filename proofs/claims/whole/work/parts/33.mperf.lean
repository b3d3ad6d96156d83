set_option maxRecDepth 100000 in
set_option maxHeartbeats 4000000 in
theorem c_X5_does {l : Launch} {E : xE} {C : xC} {a : Nat} {T : Tb} (ga : a < 68) (gT : RM E C a T) (gv : WF T) {G : Nat → Nat} {ln u8 : Nat} {x1 x2 x3 : Int32} (gO : cmO G ln u8) (gk0 : cmS G ln u8 < 65536) (g97 : cmS G ln u8 = 97 → x1 = opV G ln 0 7 (u8 + 3) ∧ x2 = nI (colK G ln (u8 + 3)) ∧ x3 = dftV G ln (colK G ln (u8 + 3)) (colP G ln (u8 + 3))) (g107 : cmS G ln u8 = 107 → x1 = opV G ln 0 7 (u8 + 4) ∧ x2 = nI (colK G ln (u8 + 4))) (g100 : cmS G ln u8 = 100 → x1 = opV G ln 0 7 (u8 + 4)) (g115 : cmS G ln u8 = 115 → x1 = opV G ln 0 23 (u8 + 3) ∧ x2 = opV G ln 0 7 (opP G ln 0 23 (u8 + 3)) ∧ x3 = opV G ln (-9999) 9999 (opP G ln 0 7 (opP G ln 0 23 (u8 + 3)))) : xM E l yX5_does wsX5_does 3 69 [.ref (E.2.1 (a)), .int (nI (cmS G ln u8)), .int x1, .int x2, .int x3] C (fun v C1 => v = some (.int (exC T G ln u8).1) ∧ RM E C1 a (exC T G ln u8).2 ∧ (∀ i : Nat, ¬ i = a → C1 i = C i)) := by
  refine xM_ofY (cc := cX5_does) (maxL := 5) (ret := (some .int)) (by decide) rfl (Nat.le_of_ble_eq_true rfl) ?_
  intro p e s m args below meth c X hr
  refine y_lv [(0, .ref (E.2.1 (a))), (1, .int (nI (cmS G ln u8))), (2, .int x1), (3, .int x2), (4, .int x3)] rfl ?_
  refine y_iload_n X dX5_does_0 1 rfl ?_
  by_cases gs9 : cmS G ln u8 = 97
  ·
    refine y_lookup X 44 (off := 43) dX5_does_1 (by decide) (by rw [gs9]; rfl) (by decide) ?_
    obtain ⟨ex1, ex2, ex3⟩ := g97 gs9
    rw [opV_N] at ex1
    subst ex1
    subst ex2
    subst ex3
    have gj := opN_b (cm_97 gO gs9).1.1
    refine y_aload_n X dX5_does_44 0 rfl ?_
    refine y_iload_n X dX5_does_45 2 rfl ?_
    refine y_iload_n X dX5_does_46 3 rfl ?_
    refine y_iload X dX5_does_47 4 rfl ?_
    refine y_callJ X (av := [.ref (E.2.1 (a)), .int (nI (opN G ln 7 (u8 + 3))), .int (nI (colK G ln (u8 + 3))), .int (dftV G ln (colK G ln (u8 + 3)) (colP G ln (u8 + 3)))]) [] 4 (c_X5_adds (a := a) (T := T) ga gT gv (j := opN G ln 7 (u8 + 3)) (kd := (nI (colK G ln (u8 + 3)))) (d0 := (dftV G ln (colK G ln (u8 + 3)) (colP G ln (u8 + 3)))) (by omega)) gX5_does_X5_adds rfl (by decide +kernel) rfl ⟨Nat.le_of_ble_eq_true rfl, Nat.le_of_ble_eq_true rfl⟩ ⟨Nat.zero_le _, Nat.zero_le _⟩ (Nat.le_of_ble_eq_true rfl) rfl dX5_does_49 (fun v_1 C_2 hp_3 => ?_)
    obtain ⟨gv9, gR, gF⟩ := hp_3
    subst gv9
    exact y_iret X hr dX5_does_52 rfl (by have ez : exC T G ln u8 = aAdd T (opN G ln 7 (u8 + 3)) (nI (colK G ln (u8 + 3))) (dftV G ln (colK G ln (u8 + 3)) (colP G ln (u8 + 3))) := (by unfold exC; rw [if_pos gs9]); rw [ez]; exact ⟨rfl, gR, gF⟩)
  ·
    have gn97 := gs9
    clear gs9
    by_cases gs9 : cmS G ln u8 = 100
    ·
      refine y_lookup X 60 (off := 59) dX5_does_1 (by decide) (by rw [gs9]; rfl) (by decide) ?_
      have ex1 := g100 gs9
      rw [opV_N] at ex1
      subst ex1
      have gj := opN_b (cm_100 gO gs9)
      refine y_aload_n X dX5_does_60 0 rfl ?_
      refine y_iload_n X dX5_does_61 2 rfl ?_
      refine y_callJ X (av := [.ref (E.2.1 (a)), .int (nI (opN G ln 7 (u8 + 4)))]) [] 2 (c_X5_drops (a := a) (T := T) ga gT gv (j := opN G ln 7 (u8 + 4)) (by omega)) gX5_does_X5_drops rfl (by decide +kernel) rfl ⟨Nat.le_of_ble_eq_true rfl, Nat.le_of_ble_eq_true rfl⟩ ⟨Nat.zero_le _, Nat.zero_le _⟩ (Nat.le_of_ble_eq_true rfl) rfl dX5_does_62 (fun v_4 C_5 hp_6 => ?_)
      obtain ⟨gv9, gR, gF⟩ := hp_6
      subst gv9
      exact y_iret X hr dX5_does_65 rfl (by have ez : exC T G ln u8 = aDrop T (opN G ln 7 (u8 + 4)) := (by unfold exC; rw [if_neg (by omega), if_neg (by omega), if_pos gs9]); rw [ez]; exact ⟨rfl, gR, gF⟩)
    ·
      have gn100 := gs9
      clear gs9
      by_cases gs9 : cmS G ln u8 = 107
      ·
        refine y_lookup X 53 (off := 52) dX5_does_1 (by decide) (by rw [gs9]; rfl) (by decide) ?_
        obtain ⟨ex1, ex2⟩ := g107 gs9
        rw [opV_N] at ex1
        subst ex1
        subst ex2
        have gj := opN_b (cm_107 gO gs9).1
        refine y_aload_n X dX5_does_53 0 rfl ?_
        refine y_iload_n X dX5_does_54 2 rfl ?_
        refine y_iload_n X dX5_does_55 3 rfl ?_
        refine y_callJ X (av := [.ref (E.2.1 (a)), .int (nI (opN G ln 7 (u8 + 4))), .int (nI (colK G ln (u8 + 4)))]) [] 3 (c_X5_turns (a := a) (T := T) ga gT gv (j := opN G ln 7 (u8 + 4)) (kd := (nI (colK G ln (u8 + 4)))) (by omega) (xin_3 kdK_3)) gX5_does_X5_turns rfl (by decide +kernel) rfl ⟨Nat.le_of_ble_eq_true rfl, Nat.le_of_ble_eq_true rfl⟩ ⟨Nat.zero_le _, Nat.zero_le _⟩ (Nat.le_of_ble_eq_true rfl) rfl dX5_does_56 (fun v_7 C_8 hp_9 => ?_)
        obtain ⟨gv9, gR, gF⟩ := hp_9
        subst gv9
        exact y_iret X hr dX5_does_59 rfl (by have ez : exC T G ln u8 = aKind T (opN G ln 7 (u8 + 4)) (nI (colK G ln (u8 + 4))) := (by unfold exC; rw [if_neg (by omega), if_pos gs9]); rw [ez]; exact ⟨rfl, gR, gF⟩)
      ·
        have gn107 := gs9
        clear gs9
        by_cases gs9 : cmS G ln u8 = 114
        ·
          refine y_lookup X 66 (off := 65) dX5_does_1 (by decide) (by rw [gs9]; rfl) (by decide) ?_
          refine y_aload_n X dX5_does_66 0 rfl ?_
          refine y_callJ X (av := [.ref (E.2.1 (a))]) [] 1 (c_X5_writes (a := a) (T := T) ga gT gv ) gX5_does_X5_writes rfl (by decide +kernel) rfl ⟨Nat.le_of_ble_eq_true rfl, Nat.le_of_ble_eq_true rfl⟩ ⟨Nat.zero_le _, Nat.zero_le _⟩ (Nat.le_of_ble_eq_true rfl) rfl dX5_does_67 (fun v_10 C_11 hp_12 => ?_)
          obtain ⟨gv9, gR, gF⟩ := hp_12
          subst gv9
          exact y_iret X hr dX5_does_70 rfl (by have ez : exC T G ln u8 = sRow T := (by unfold exC; rw [if_neg (by omega), if_neg (by omega), if_neg (by omega), if_pos gs9]); rw [ez]; exact ⟨rfl, gR, gF⟩)
        ·
          have gn114 := gs9
          clear gs9
          refine y_lookup X 71 (off := 70) dX5_does_1 (by decide) (by rw [nI_toInt (by omega)]; show Op.lookupswitch.offset [(97, 43), (100, 59), (107, 52), (114, 65)] 70 _ = _; rw [Op.lookupswitch.offset_cons, if_neg (by omega), Op.lookupswitch.offset_cons, if_neg (by omega), Op.lookupswitch.offset_cons, if_neg (by omega), Op.lookupswitch.offset_cons, if_neg (by omega)]; rfl) (by decide) ?_
          have gs9 := cm_115 gO gn97 gn107 gn100 gn114
          obtain ⟨ex1, ex2, ex3⟩ := g115 gs9
          subst ex1
          subst ex2
          subst ex3
          refine y_aload_n X dX5_does_71 0 rfl ?_
          refine y_iload_n X dX5_does_72 2 rfl ?_
          refine y_iload_n X dX5_does_73 3 rfl ?_
          refine y_iload X dX5_does_74 4 rfl ?_
          refine y_callJ X (av := [.ref (E.2.1 (a)), .int (opV G ln 0 23 (u8 + 3)), .int (opV G ln 0 7 (opP G ln 0 23 (u8 + 3))), .int (opV G ln (-9999) 9999 (opP G ln 0 7 (opP G ln 0 23 (u8 + 3))))]) [] 4 (c_X5_sets (a := a) (T := T) ga gT gv (x := (opV G ln 0 23 (u8 + 3))) (y := (opV G ln 0 7 (opP G ln 0 23 (u8 + 3)))) (v0 := (opV G ln (-9999) 9999 (opP G ln 0 7 (opP G ln 0 23 (u8 + 3)))))) gX5_does_X5_sets rfl (by decide +kernel) rfl ⟨Nat.le_of_ble_eq_true rfl, Nat.le_of_ble_eq_true rfl⟩ ⟨Nat.zero_le _, Nat.zero_le _⟩ (Nat.le_of_ble_eq_true rfl) rfl dX5_does_76 (fun v_13 C_14 hp_15 => ?_)
          obtain ⟨gv9, gR, gF⟩ := hp_15
          subst gv9
          exact y_iret X hr dX5_does_79 rfl (by have ez : exC T G ln u8 = sSet T (opV G ln 0 23 (u8 + 3)) (opV G ln 0 7 (opP G ln 0 23 (u8 + 3))) (opV G ln (-9999) 9999 (opP G ln 0 7 (opP G ln 0 23 (u8 + 3)))) := (by unfold exC; rw [if_neg (by omega), if_neg (by omega), if_neg (by omega), if_neg (by omega)]); rw [ez]; exact ⟨rfl, gR, gF⟩)

set_option maxRecDepth 100000 in
set_option maxHeartbeats 4000000 in
theorem c_X5_perform {l : Launch} {E : xE} {C : xC} {T : Tb} {hh : Nat → Tb} {hn : Nat} {sn : Option Tb} {tx : Nat → Int32} {ln : Nat} {sp : Option (Nat × Int32)} (gM : MX E C T hh hn sn tx ln sp) (gW : WX T hh hn sn tx ln sp) : xM E l yX5_perform wsX5_perform 9 197 [.ref (E.2.1 (61))] C (fun v C1 => v = some (.int (prV T tx ln)) ∧ MX E C1 (prT T tx ln) (prH T hh hn tx ln) (prN T hn tx ln) (sn) (tx) (ln) (prS T tx ln sp) ∧ (∀ i : Nat, i < 61 → C1 i = C i)) := by
  obtain ⟨zf, zt, zp, zs, zx, zl, pa, va, tl, m0, h2, h3, h4, h5, h6, h7, gRT, gPH, gSN, gTX⟩ := id gM
  obtain ⟨gv, gn4, gWH, gWS, gl80, gch, gsp⟩ := id gW
  have gT : RM E C 62 T := ⟨zf, h2, gRT⟩
  obtain ⟨gw1, gw2, gw3, gw4⟩ := id gv.1
  have eC : cntT tx ln = tcN (gxT tx) ln + 1 := rfl
  refine xM_ofY (cc := cX5_perform) (maxL := 3) (ret := (some .int)) (by decide) rfl (Nat.le_of_ble_eq_true rfl) ?_
  intro p e s m args below meth c X hr
  have inX5 : ∀ w ∈ wsX50, w ∈ wsX5_perform := by decide +kernel
  refine y_lv [(0, .ref (E.2.1 (61)))] rfl ?_
  refine y_aload_n X dX5_perform_0 0 rfl ?_
  refine y_callV X (61) 5 (av := []) [] 0 (c_X5_isText (G := (gxT tx)) gl80 (fun z q1 => (gTX z q1).trans (gxT_eq gch z q1).1) (fun z q1 => (gxT_eq gch z q1).2) m0 h6 h7) (by omega) m0 rfl gX5_perform_X5_isText rfl (by decide +kernel) rfl ⟨Nat.le_of_ble_eq_true rfl, Nat.le_of_ble_eq_true rfl⟩ ⟨Nat.zero_le _, Nat.zero_le _⟩ (Nat.le_of_ble_eq_true rfl) rfl dX5_perform_1 (fun v_1 C_2 hp_3 => ?_)
  obtain ⟨gv8, ⟨vb, tl2, zl2, gM8, gZ8, gW8⟩, gF8⟩ := hp_3
  rcases Decidable.em (okT (gxT tx) ln) with cT | cT
  ·
    rw [bI_1 cT] at gv8
    subst gv8
    obtain ⟨gt1, gt2, gTD⟩ := gW8 cT
    subst gt1
    have h_4 : C_2 (61) = .inr (5, [.ref (E.2.1 (62)), .ref (E.2.1 (63)), .ref (E.2.1 (64)), .int (nI (hn)), .ref (E.2.1 (65)), .int (flg sn), .ref (E.2.1 (66)), .int (nI (ln)), .int (nI (atT (gxT tx) ln)), .int vb, .int (soM sp), .int (seM sp), .ref (E.2.1 (67)), .int (nI (tcN (gxT tx) ln + 1))]) := gM8
    have h_5 : C_2 (62) = .inl (E.2.2.1 1, 698, .inl zf) := (gF8 _ (by omega) (by omega)).trans h2
    have h_6 : C_2 (63) = .inl (E.2.2.1 1, 698, .inl zt) := (gF8 _ (by omega) (by omega)).trans h3
    have h_7 : C_2 (64) = .inl (E.2.2.1 1, 2792, .inl zp) := (gF8 _ (by omega) (by omega)).trans h4
    have h_8 : C_2 (65) = .inl (E.2.2.1 1, 698, .inl zs) := (gF8 _ (by omega) (by omega)).trans h5
    have h_9 : C_2 (66) = .inl (E.2.2.1 1, 80, .inl zx) := (gF8 _ (by omega) (by omega)).trans h6
    have h_10 : C_2 (67) = .inl (E.2.2.1 1, 84, .inl zl2) := gZ8
    refine y_if_ne X 16 (¬ ((1) = (0))) dX5_perform_4 (by decide) (cNe (nI_eq (a := 1) (b := 0) (by omega) (by omega))) (fun c_11 => ?_) (fun c_11 => ?_)
    ·
      refine y_aload_n X dX5_perform_16 0 rfl ?_
      refine y_get X (61) 5 0 (Cn := RX5) (T := TX5) (N := 14) (index := 7) (v := .ref (E.2.1 (62))) dX5_perform_17 (by omega) h_4 rfl (by decide) inX5 (by decide +kernel : Cond.fieldLink RX5 7 "ColumnSeasonsModel" "now" "[I" ∈ wsX5_perform) rfl rfl ?_
      refine y_iconst X (v := (0)) dX5_perform_20 (by decide) ?_
      refine y_aload_n X dX5_perform_21 0 rfl ?_
      refine y_get X (61) 5 1 (Cn := RX5) (T := TX5) (N := 14) (index := 13) (v := .ref (E.2.1 (63))) dX5_perform_22 (by omega) h_4 rfl (by decide) inX5 (by decide +kernel : Cond.fieldLink RX5 13 "ColumnSeasonsModel" "then" "[I" ∈ wsX5_perform) rfl rfl ?_
      refine y_iconst X (v := (0)) dX5_perform_25 (by decide) ?_
      refine y_callJ X (av := [.ref (E.2.1 (62)), .int (0), .ref (E.2.1 (63)), .int (0)]) [] 4 (c_X5_copies (a := 62) (b2 := 63) (x := 0) (y := 0) (by omega) (by omega) (by omega) (by omega) (by omega) (by omega) (by omega) h_5 h_6) gX5_perform_X5_copies rfl (by decide +kernel) rfl ⟨Nat.le_of_ble_eq_true rfl, Nat.le_of_ble_eq_true rfl⟩ ⟨Nat.zero_le _, Nat.zero_le _⟩ (Nat.le_of_ble_eq_true rfl) rfl dX5_perform_26 (fun v_12 C_13 hp_14 => ?_)
      obtain ⟨gv9, ⟨zq15, hq15, gA15, gB15⟩, gF15⟩ := hp_14
      subst gv9
      have h_16 : C_13 (61) = .inr (5, [.ref (E.2.1 (62)), .ref (E.2.1 (63)), .ref (E.2.1 (64)), .int (nI (hn)), .ref (E.2.1 (65)), .int (flg sn), .ref (E.2.1 (66)), .int (nI (ln)), .int (nI (atT (gxT tx) ln)), .int vb, .int (soM sp), .int (seM sp), .ref (E.2.1 (67)), .int (nI (tcN (gxT tx) ln + 1))]) := (gF15 _ (by omega)).trans h_4
      have h_17 : C_13 (62) = .inl (E.2.2.1 1, 698, .inl zf) := (gF15 _ (by omega)).trans h_5
      have h_18 : C_13 (63) = .inl (E.2.2.1 1, 698, .inl zq15) := hq15
      have h_19 : C_13 (64) = .inl (E.2.2.1 1, 2792, .inl zp) := (gF15 _ (by omega)).trans h_7
      have h_20 : C_13 (65) = .inl (E.2.2.1 1, 698, .inl zs) := (gF15 _ (by omega)).trans h_8
      have h_21 : C_13 (66) = .inl (E.2.2.1 1, 80, .inl zx) := (gF15 _ (by omega)).trans h_9
      have h_22 : C_13 (67) = .inl (E.2.2.1 1, 84, .inl zl2) := (gF15 _ (by omega)).trans h_10
      refine y_iconst X (v := (0)) dX5_perform_29 (by decide) ?_
      refine y_istore_n X [(1, .int (0)), (0, .ref (E.2.1 (61)))] dX5_perform_30 rfl (by decide) rfl ?_
      have L_31 : ∀ (n : Nat) (C2 : xC) (zt2 : Nat → Int32) (i : Nat), tcN (gxT tx) ln + 1 - i < n → (C2 (61) = .inr (5, [.ref (E.2.1 (62)), .ref (E.2.1 (63)), .ref (E.2.1 (64)), .int (nI (hn)), .ref (E.2.1 (65)), .int (flg sn), .ref (E.2.1 (66)), .int (nI (ln)), .int (nI (atT (gxT tx) ln)), .int vb, .int (soM sp), .int (seM sp), .ref (E.2.1 (67)), .int (nI (tcN (gxT tx) ln + 1))])) → (C2 (62) = .inl (E.2.2.1 1, 698, .inl zf)) → (C2 (63) = .inl (E.2.2.1 1, 698, .inl zt2)) → (C2 (64) = .inl (E.2.2.1 1, 2792, .inl zp)) → (C2 (65) = .inl (E.2.2.1 1, 698, .inl zs)) → (C2 (66) = .inl (E.2.2.1 1, 80, .inl zx)) → (C2 (67) = .inl (E.2.2.1 1, 84, .inl zl2)) → (∀ i9 : Nat, i9 < 61 → C2 i9 = C i9) → (RTm (exT T (gxT tx) ln i) zt2) → (∀ k : Nat, k < i → ¬ erP (exR T (gxT tx) ln k)) → (i ≤ tcN (gxT tx) ln + 1) → xY p l e ({ frames := 9, cells := 0, slots := 0, locals := 197 } : Room) s m args below meth c E (xA E) 3 0 0 (MQ below (xQ E (fun v C1 => v = some (.int (prV T tx ln)) ∧ MX E C1 (prT T tx ln) (prH T hh hn tx ln) (prN T hn tx ln) (sn) (tx) (ln) (prS T tx ln sp) ∧ (∀ i : Nat, i < 61 → C1 i = C i))) args s 0 0 (xA E)) C2 31 [(0, .ref (E.2.1 (61))), (1, .int (nI (i)))] [] := by
        intro n31
        induction n31 with
        | zero => intro _ _ _ hm31; exact absurd hm31 (Nat.not_lt_zero _)
        | succ n31 ih31 =>
          intro C2 zt2 i hm31 k0 k2 k3 k4 k5 k6 k7 gF2 gR2 gNE gi
          refine y_iload_n X dX5_perform_31 1 rfl ?_
          refine y_aload_n X dX5_perform_32 0 rfl ?_
          refine y_get X (61) 5 13 (Cn := RX5) (T := TX5) (N := 14) (index := 151) (v := .int (nI (tcN (gxT tx) ln + 1))) dX5_perform_33 (by omega) k0 rfl (by decide) inX5 (by decide +kernel : Cond.fieldLink RX5 151 "ColumnSeasonsModel" "tolds" "I" ∈ wsX5_perform) rfl rfl ?_
          refine y_icmp_ge X 119 ((tcN (gxT tx) ln + 1) ≤ (i)) dX5_perform_36 (by decide) (nI_leI (a := tcN (gxT tx) ln + 1) (b := i) (by omega) (by omega)) (fun c_23 => ?_) (fun c_23 => ?_)
          ·
            refine y_aload_n X dX5_perform_119 0 rfl ?_
            refine y_aload_n X dX5_perform_120 0 rfl ?_
            refine y_get X (61) 5 13 (Cn := RX5) (T := TX5) (N := 14) (index := 151) (v := .int (nI (tcN (gxT tx) ln + 1))) dX5_perform_121 (by omega) k0 rfl (by decide) inX5 (by decide +kernel : Cond.fieldLink RX5 151 "ColumnSeasonsModel" "tolds" "I" ∈ wsX5_perform) rfl rfl ?_
            refine y_callV X (61) 5 (av := [.int (nI (tcN (gxT tx) ln + 1))]) [] 1 (c_X5_done (T := T) (T2 := exT T (gxT tx) ln i) gv (WF_exT gv cT i (by omega)) gWH gn4 k0 k2 k3 k4 gRT gR2 gPH) (by omega) k0 rfl gX5_perform_X5_done rfl (by decide +kernel) rfl ⟨Nat.le_of_ble_eq_true rfl, Nat.le_of_ble_eq_true rfl⟩ ⟨Nat.zero_le _, Nat.zero_le _⟩ (Nat.le_of_ble_eq_true rfl) rfl dX5_perform_124 (fun v_24 C_25 hp_26 => ?_)
            obtain ⟨gv9, gD⟩ := hp_26
            subst gv9
            exact y_iret X hr dX5_perform_127 rfl (by have ei : i = tcN (gxT tx) ln + 1 := (by omega); subst ei; have eX : xsT T tx ln = cntT tx ln := (xs_none _ 0 (fun k q => gNE k (by omega))).trans (Nat.zero_add _); have e1 : prV T tx ln = nI (tcN (gxT tx) ln + 1) := (if_pos cT).trans (if_pos eX); have e2 : prT T tx ln = exT T (gxT tx) ln (tcN (gxT tx) ln + 1) := if_pos ⟨cT, eX⟩; have e3 : prH T hh hn tx ln = recH hh hn T := if_pos ⟨cT, eX⟩; have e4 : prN T hn tx ln = recN hn := if_pos ⟨cT, eX⟩; have e5 : prS T tx ln sp = sp := if_neg (fun z => z.2 eX); rw [e1, e2, e3, e4, e5]; rcases gD with ⟨-, ⟨zf5, zp5, g61, g62, g64, gR5, gP5⟩, gF5⟩ | ⟨gbad, -⟩; exact ⟨rfl, ⟨_, _, _, _, _, _, _, _, _, g61, g62, (gF5 _ (by omega) (by omega) (by omega)).trans k3, g64, (gF5 _ (by omega) (by omega) (by omega)).trans k5, (gF5 _ (by omega) (by omega) (by omega)).trans k6, (gF5 _ (by omega) (by omega) (by omega)).trans k7, gR5, gP5, gSN, gTX⟩, (fun i9 g9 => by rw [gF5 i9 (by omega) (by omega) (by omega)]; rw [gF2 i9 g9])⟩; exact absurd (act_pos (by omega)) gbad)
          ·
            have gk0 : cmS (gxT tx) ln (psN (gxT tx) ln i) < 65536 := by unfold cmS; split; exact (gxT_eq gch _ (by assumption)).2; decide
            refine y_aload_n X dX5_perform_39 0 rfl ?_
            refine y_get X (61) 5 1 (Cn := RX5) (T := TX5) (N := 14) (index := 13) (v := .ref (E.2.1 (63))) dX5_perform_40 (by omega) k0 rfl (by decide) inX5 (by decide +kernel : Cond.fieldLink RX5 13 "ColumnSeasonsModel" "then" "[I" ∈ wsX5_perform) rfl rfl ?_
            refine y_aload_n X dX5_perform_43 0 rfl ?_
            refine y_get X (61) 5 12 (Cn := RX5) (T := TX5) (N := 14) (index := 32) (v := .ref (E.2.1 (67))) dX5_perform_44 (by omega) k0 rfl (by decide) inX5 (by decide +kernel : Cond.fieldLink RX5 32 "ColumnSeasonsModel" "told" "[I" ∈ wsX5_perform) rfl rfl ?_
            refine y_iconst X (v := (4)) dX5_perform_47 (by decide) ?_
            refine y_iload_n X dX5_perform_48 1 rfl ?_
            refine y_imul X (z := (nI ((4) * (i)))) dX5_perform_49 (pk_mul (4) (i)) ?_
            refine y_iald X (67) dX5_perform_50 (by omega) k7 (j := (4) * (i)) rfl (by omega) (by omega) (z := (nI (cmS (gxT tx) ln (psN (gxT tx) ln i)))) (gTD i (by omega)).1 ?_
            refine y_aload_n X dX5_perform_51 0 rfl ?_
            refine y_get X (61) 5 12 (Cn := RX5) (T := TX5) (N := 14) (index := 32) (v := .ref (E.2.1 (67))) dX5_perform_52 (by omega) k0 rfl (by decide) inX5 (by decide +kernel : Cond.fieldLink RX5 32 "ColumnSeasonsModel" "told" "[I" ∈ wsX5_perform) rfl rfl ?_
            refine y_iconst X (v := (4)) dX5_perform_55 (by decide) ?_
            refine y_iload_n X dX5_perform_56 1 rfl ?_
            refine y_imul X (z := (nI ((4) * (i)))) dX5_perform_57 (pk_mul (4) (i)) ?_
            refine y_iconst X (v := (1)) dX5_perform_58 (by decide) ?_
            refine y_iadd X (z := (nI ((4) * (i) + 1))) dX5_perform_59 (nI_add ((4) * (i)) (1)) ?_
            refine y_iald X (67) dX5_perform_60 (by omega) k7 (j := (4) * (i) + 1) rfl (by omega) (by omega) (z := (zl2 ((4) * (i) + 1))) rfl ?_
            refine y_aload_n X dX5_perform_61 0 rfl ?_
            refine y_get X (61) 5 12 (Cn := RX5) (T := TX5) (N := 14) (index := 32) (v := .ref (E.2.1 (67))) dX5_perform_62 (by omega) k0 rfl (by decide) inX5 (by decide +kernel : Cond.fieldLink RX5 32 "ColumnSeasonsModel" "told" "[I" ∈ wsX5_perform) rfl rfl ?_
            refine y_iconst X (v := (4)) dX5_perform_65 (by decide) ?_
            refine y_iload_n X dX5_perform_66 1 rfl ?_
            refine y_imul X (z := (nI ((4) * (i)))) dX5_perform_67 (pk_mul (4) (i)) ?_
            refine y_iconst X (v := (2)) dX5_perform_68 (by decide) ?_
            refine y_iadd X (z := (nI ((4) * (i) + 2))) dX5_perform_69 (nI_add ((4) * (i)) (2)) ?_
            refine y_iald X (67) dX5_perform_70 (by omega) k7 (j := (4) * (i) + 2) rfl (by omega) (by omega) (z := (zl2 ((4) * (i) + 2))) rfl ?_
            refine y_aload_n X dX5_perform_71 0 rfl ?_
            refine y_get X (61) 5 12 (Cn := RX5) (T := TX5) (N := 14) (index := 32) (v := .ref (E.2.1 (67))) dX5_perform_72 (by omega) k0 rfl (by decide) inX5 (by decide +kernel : Cond.fieldLink RX5 32 "ColumnSeasonsModel" "told" "[I" ∈ wsX5_perform) rfl rfl ?_
            refine y_iconst X (v := (4)) dX5_perform_75 (by decide) ?_
            refine y_iload_n X dX5_perform_76 1 rfl ?_
            refine y_imul X (z := (nI ((4) * (i)))) dX5_perform_77 (pk_mul (4) (i)) ?_
            refine y_iconst X (v := (3)) dX5_perform_78 (by decide) ?_
            refine y_iadd X (z := (nI ((4) * (i) + 3))) dX5_perform_79 (nI_add ((4) * (i)) (3)) ?_
            refine y_iald X (67) dX5_perform_80 (by omega) k7 (j := (4) * (i) + 3) rfl (by omega) (by omega) (z := (zl2 ((4) * (i) + 3))) rfl ?_
            refine y_callJ X (av := [.ref (E.2.1 (63)), .int (nI (cmS (gxT tx) ln (psN (gxT tx) ln i))), .int (zl2 ((4) * (i) + 1)), .int (zl2 ((4) * (i) + 2)), .int (zl2 ((4) * (i) + 3))]) [] 5 (c_X5_does (a := 63) (T := exT T (gxT tx) ln i) (by omega) ⟨zt2, k3, gR2⟩ (WF_exT gv cT i (by omega)) (okT_cm cT (by omega)) gk0 (gTD i (by omega)).2.1 (gTD i (by omega)).2.2.1 (gTD i (by omega)).2.2.2.1 (gTD i (by omega)).2.2.2.2) gX5_perform_X5_does rfl (by decide +kernel) rfl ⟨Nat.le_of_ble_eq_true rfl, Nat.le_of_ble_eq_true rfl⟩ ⟨Nat.zero_le _, Nat.zero_le _⟩ (Nat.le_of_ble_eq_true rfl) rfl dX5_perform_81 (fun v_27 C_28 hp_29 => ?_)
            obtain ⟨gv9, ⟨zt3, h63, gR3⟩, gF3⟩ := hp_29
            subst gv9
            have h_30 : C_28 (61) = .inr (5, [.ref (E.2.1 (62)), .ref (E.2.1 (63)), .ref (E.2.1 (64)), .int (nI (hn)), .ref (E.2.1 (65)), .int (flg sn), .ref (E.2.1 (66)), .int (nI (ln)), .int (nI (atT (gxT tx) ln)), .int vb, .int (soM sp), .int (seM sp), .ref (E.2.1 (67)), .int (nI (tcN (gxT tx) ln + 1))]) := (gF3 _ (by omega)).trans k0
            have h_31 : C_28 (62) = .inl (E.2.2.1 1, 698, .inl zf) := (gF3 _ (by omega)).trans k2
            have h_32 : C_28 (63) = .inl (E.2.2.1 1, 698, .inl zt3) := h63
            have h_33 : C_28 (64) = .inl (E.2.2.1 1, 2792, .inl zp) := (gF3 _ (by omega)).trans k4
            have h_34 : C_28 (65) = .inl (E.2.2.1 1, 698, .inl zs) := (gF3 _ (by omega)).trans k5
            have h_35 : C_28 (66) = .inl (E.2.2.1 1, 80, .inl zx) := (gF3 _ (by omega)).trans k6
            have h_36 : C_28 (67) = .inl (E.2.2.1 1, 84, .inl zl2) := (gF3 _ (by omega)).trans k7
            refine y_istore_n X [(2, .int (exR T (gxT tx) ln i)), (0, .ref (E.2.1 (61))), (1, .int (nI (i)))] dX5_perform_84 rfl (by decide) rfl ?_
            refine y_iload_n X dX5_perform_85 0 rfl ?_
            refine y_sipush X (v := (-10001)) dX5_perform_86 (by decide) ?_
            refine y_icmp_gt X 113 ((-10001 : Int) < ((exR T (gxT tx) ln i)).toInt) dX5_perform_89 (by decide) (cLt (by decide) rfl) (fun c_37 => ?_) (fun c_37 => ?_)
            ·
              refine y_iinc X [(1, .int (nI (i + 1))), (2, .int (exR T (gxT tx) ln i)), (0, .ref (E.2.1 (61)))] dX5_perform_113 2 rfl (nI_1 _) (by decide) rfl ?_
              refine y_goto X 31 dX5_perform_116 (by decide) ?_
              refine y_pick [2, 0] [(0, .ref (E.2.1 (61))), (1, .int (nI (i + 1)))] rfl ?_
              exact ih31 (C_28) (zt3) (i + 1) (by omega) h_30 h_31 h_32 h_33 h_34 h_35 h_36 (fun i9 g9 => by rw [gF3 i9 (by omega)]; rw [gF2 i9 g9]) gR3 (fun k q1 q2 => by rcases Nat.lt_or_ge k i with q3 | q3; exact gNE k q3 q2; rw [show k = i by omega] at q2; first | exact absurd q2.1 (by omega) | exact q2.2 c_37) (by omega)
            ·
              refine y_iload_n X dX5_perform_92 0 rfl ?_
              refine y_sipush X (v := (-10005)) dX5_perform_93 (by decide) ?_
              refine y_icmp_eq X 113 ((exR T (gxT tx) ln i) = (-10005)) dX5_perform_96 (by decide) Iff.rfl (fun c_38 => ?_) (fun c_38 => ?_)
              ·
                refine y_iinc X [(1, .int (nI (i + 1))), (2, .int (exR T (gxT tx) ln i)), (0, .ref (E.2.1 (61)))] dX5_perform_113 2 rfl (nI_1 _) (by decide) rfl ?_
                refine y_goto X 31 dX5_perform_116 (by decide) ?_
                refine y_pick [2, 0] [(0, .ref (E.2.1 (61))), (1, .int (nI (i + 1)))] rfl ?_
                exact ih31 (C_28) (zt3) (i + 1) (by omega) h_30 h_31 h_32 h_33 h_34 h_35 h_36 (fun i9 g9 => by rw [gF3 i9 (by omega)]; rw [gF2 i9 g9]) gR3 (fun k q1 q2 => by rcases Nat.lt_or_ge k i with q3 | q3; exact gNE k q3 q2; rw [show k = i by omega] at q2; first | exact absurd q2.1 (by omega) | exact q2.2 c_38) (by omega)
              ·
                refine y_aload_n X dX5_perform_99 1 rfl ?_
                refine y_iload_n X dX5_perform_100 2 rfl ?_
                refine y_put X (61) 5 10 (Cn := RX5) (T := TX5) (N := 14) (index := 25) tyX5 (v := .int (nI (i))) dX5_perform_101 (by omega) h_30 rfl (by decide) inX5 (by decide +kernel : Cond.fieldLink RX5 25 "ColumnSeasonsModel" "stop" "I" ∈ wsX5_perform) rfl tyX5_ok nmX5 rfl rfl rfl (Nat.le_of_ble_eq_true rfl) ?_
                refine y_mem (va_up C_28 (61) (.inr (5, [.ref (E.2.1 (62)), .ref (E.2.1 (63)), .ref (E.2.1 (64)), .int (nI (hn)), .ref (E.2.1 (65)), .int (flg sn), .ref (E.2.1 (66)), .int (nI (ln)), .int (nI (atT (gxT tx) ln)), .int vb, .int (nI (i)), .int (seM sp), .ref (E.2.1 (67)), .int (nI (tcN (gxT tx) ln + 1))]))) rfl (fun C_39 eC_40 => ?_)
                have h_41 : C_39 (61) = .inr (5, [.ref (E.2.1 (62)), .ref (E.2.1 (63)), .ref (E.2.1 (64)), .int (nI (hn)), .ref (E.2.1 (65)), .int (flg sn), .ref (E.2.1 (66)), .int (nI (ln)), .int (nI (atT (gxT tx) ln)), .int vb, .int (nI (i)), .int (seM sp), .ref (E.2.1 (67)), .int (nI (tcN (gxT tx) ln + 1))]) := by rw [eC_40, va_up, if_pos rfl]
                have h_42 : C_39 (62) = .inl (E.2.2.1 1, 698, .inl zf) := by rw [eC_40, va_up, if_neg (by omega)]; exact h_31
                have h_43 : C_39 (63) = .inl (E.2.2.1 1, 698, .inl zt3) := by rw [eC_40, va_up, if_neg (by omega)]; exact h_32
                have h_44 : C_39 (64) = .inl (E.2.2.1 1, 2792, .inl zp) := by rw [eC_40, va_up, if_neg (by omega)]; exact h_33
                have h_45 : C_39 (65) = .inl (E.2.2.1 1, 698, .inl zs) := by rw [eC_40, va_up, if_neg (by omega)]; exact h_34
                have h_46 : C_39 (66) = .inl (E.2.2.1 1, 80, .inl zx) := by rw [eC_40, va_up, if_neg (by omega)]; exact h_35
                have h_47 : C_39 (67) = .inl (E.2.2.1 1, 84, .inl zl2) := by rw [eC_40, va_up, if_neg (by omega)]; exact h_36
                refine y_aload_n X dX5_perform_104 1 rfl ?_
                refine y_iload_n X dX5_perform_105 0 rfl ?_
                refine y_put X (61) 5 11 (Cn := RX5) (T := TX5) (N := 14) (index := 29) tyX5 (v := .int (exR T (gxT tx) ln i)) dX5_perform_106 (by omega) h_41 rfl (by decide) inX5 (by decide +kernel : Cond.fieldLink RX5 29 "ColumnSeasonsModel" "stopError" "I" ∈ wsX5_perform) rfl tyX5_ok nmX5 rfl rfl rfl (Nat.le_of_ble_eq_true rfl) ?_
                refine y_mem (va_up C_39 (61) (.inr (5, [.ref (E.2.1 (62)), .ref (E.2.1 (63)), .ref (E.2.1 (64)), .int (nI (hn)), .ref (E.2.1 (65)), .int (flg sn), .ref (E.2.1 (66)), .int (nI (ln)), .int (nI (atT (gxT tx) ln)), .int vb, .int (nI (i)), .int (exR T (gxT tx) ln i), .ref (E.2.1 (67)), .int (nI (tcN (gxT tx) ln + 1))]))) rfl (fun C_48 eC_49 => ?_)
                have h_50 : C_48 (61) = .inr (5, [.ref (E.2.1 (62)), .ref (E.2.1 (63)), .ref (E.2.1 (64)), .int (nI (hn)), .ref (E.2.1 (65)), .int (flg sn), .ref (E.2.1 (66)), .int (nI (ln)), .int (nI (atT (gxT tx) ln)), .int vb, .int (nI (i)), .int (exR T (gxT tx) ln i), .ref (E.2.1 (67)), .int (nI (tcN (gxT tx) ln + 1))]) := by rw [eC_49, va_up, if_pos rfl]
                have h_51 : C_48 (62) = .inl (E.2.2.1 1, 698, .inl zf) := by rw [eC_49, va_up, if_neg (by omega)]; exact h_42
                have h_52 : C_48 (63) = .inl (E.2.2.1 1, 698, .inl zt3) := by rw [eC_49, va_up, if_neg (by omega)]; exact h_43
                have h_53 : C_48 (64) = .inl (E.2.2.1 1, 2792, .inl zp) := by rw [eC_49, va_up, if_neg (by omega)]; exact h_44
                have h_54 : C_48 (65) = .inl (E.2.2.1 1, 698, .inl zs) := by rw [eC_49, va_up, if_neg (by omega)]; exact h_45
                have h_55 : C_48 (66) = .inl (E.2.2.1 1, 80, .inl zx) := by rw [eC_49, va_up, if_neg (by omega)]; exact h_46
                have h_56 : C_48 (67) = .inl (E.2.2.1 1, 84, .inl zl2) := by rw [eC_49, va_up, if_neg (by omega)]; exact h_47
                refine y_sipush X (v := (-10004)) dX5_perform_109 (by decide) ?_
                exact y_iret X hr dX5_perform_112 rfl (by have eX : xsT T tx ln = i := xs_hit _ 0 (Nat.zero_le _) (by omega) gNE ⟨by omega, c_38⟩; have nX : ¬ xsT T tx ln = cntT tx ln := (by rw [eX]; omega); have e1 : prV T tx ln = -10004 := (if_pos cT).trans (if_neg nX); have e2 : prT T tx ln = T := if_neg (fun z => nX z.2); have e3 : prH T hh hn tx ln = hh := if_neg (fun z => nX z.2); have e4 : prN T hn tx ln = hn := if_neg (fun z => nX z.2); have e5 : prS T tx ln sp = some (i, exR T (gxT tx) ln i) := (if_pos ⟨cT, nX⟩).trans (by rw [eX]); rw [e1, e2, e3, e4, e5]; exact ⟨rfl, ⟨_, _, _, _, _, _, _, _, _, h_50, h_51, h_52, h_53, h_54, h_55, h_56, gRT, gPH, gSN, gTX⟩, (fun i9 g9 => by rw [eC_49, va_up, if_neg (by omega)]; rw [eC_40, va_up, if_neg (by omega)]; rw [gF3 i9 (by omega)]; rw [gF2 i9 g9])⟩)
      refine y_pick [1, 0] [(0, .ref (E.2.1 (61))), (1, .int (0))] rfl ?_
      exact L_31 _ (C_13) (zq15) (0) (Nat.lt_succ_self _) h_16 h_17 h_18 h_19 h_20 h_21 h_22 (fun i9 g9 => by rw [gF15 i9 (by omega)]; rw [gF8 i9 (by omega) (by omega)]) (RTm_ext gv.1 gRT (fun z q1 => by rw [gA15 z (by omega) (by omega)]; exact congrArg zf (by omega))) (fun _ q1 => absurd q1 (Nat.not_lt_zero _)) (by omega)
    ·
      have c_11 := Decidable.of_not_not c_11
      exact absurd c_11 (by decide)
  ·
    rw [bI_0 cT] at gv8
    subst gv8
    have h_57 : C_2 (61) = .inr (5, [.ref (E.2.1 (62)), .ref (E.2.1 (63)), .ref (E.2.1 (64)), .int (nI (hn)), .ref (E.2.1 (65)), .int (flg sn), .ref (E.2.1 (66)), .int (nI (ln)), .int (nI (atT (gxT tx) ln)), .int vb, .int (soM sp), .int (seM sp), .ref (E.2.1 (67)), .int (nI (tl2))]) := gM8
    have h_58 : C_2 (62) = .inl (E.2.2.1 1, 698, .inl zf) := (gF8 _ (by omega) (by omega)).trans h2
    have h_59 : C_2 (63) = .inl (E.2.2.1 1, 698, .inl zt) := (gF8 _ (by omega) (by omega)).trans h3
    have h_60 : C_2 (64) = .inl (E.2.2.1 1, 2792, .inl zp) := (gF8 _ (by omega) (by omega)).trans h4
    have h_61 : C_2 (65) = .inl (E.2.2.1 1, 698, .inl zs) := (gF8 _ (by omega) (by omega)).trans h5
    have h_62 : C_2 (66) = .inl (E.2.2.1 1, 80, .inl zx) := (gF8 _ (by omega) (by omega)).trans h6
    have h_63 : C_2 (67) = .inl (E.2.2.1 1, 84, .inl zl2) := gZ8
    refine y_if_ne X 16 (¬ ((0) = (0))) dX5_perform_4 (by decide) (cNe (nI_eq (a := 0) (b := 0) (by omega) (by omega))) (fun c_64 => ?_) (fun c_64 => ?_)
    ·
      exact absurd c_64 (by decide)
    ·
      have c_64 := Decidable.of_not_not c_64
      refine y_sipush X (v := (-10100)) dX5_perform_7 (by decide) ?_
      refine y_aload_n X dX5_perform_10 0 rfl ?_
      refine y_get X (61) 5 8 (Cn := RX5) (T := TX5) (N := 14) (index := 131) (v := .int (nI (atT (gxT tx) ln))) dX5_perform_11 (by omega) h_57 rfl (by decide) inX5 (by decide +kernel : Cond.fieldLink RX5 131 "ColumnSeasonsModel" "at" "I" ∈ wsX5_perform) rfl rfl ?_
      refine y_isub X (z := ((-10100) - (nI (atT (gxT tx) ln)))) dX5_perform_14 rfl ?_
      exact y_iret X hr dX5_perform_15 rfl (by have e1 : prV T tx ln = -10100 - nI (atT (gxT tx) ln) := if_neg cT; have e2 : prT T tx ln = T := if_neg (fun z => cT z.1); have e3 : prH T hh hn tx ln = hh := if_neg (fun z => cT z.1); have e4 : prN T hn tx ln = hn := if_neg (fun z => cT z.1); have e5 : prS T tx ln sp = sp := if_neg (fun z => cT z.1); rw [e1, e2, e3, e4, e5]; exact ⟨rfl, ⟨_, _, _, _, _, _, _, _, _, h_57, h_58, h_59, h_60, h_61, h_62, h_63, gRT, gPH, gSN, gTX⟩, (fun i9 g9 => by rw [gF8 i9 (by omega) (by omega)])⟩)
