set_option maxRecDepth 100000 in
set_option maxHeartbeats 4000000 in
theorem c_X5_records {l : Launch} {E : xE} {C : xC} {T : Tb} {hh : Nat → Tb} {hn ln : Nat} {zf zp : Nat → Int32} {fl pa va so se tl : Int32} (gv : WF T) (gWH : ∀ k : Nat, k < hn → WF (hh k)) (gn4 : hn ≤ 4) (m0 : C (61) = .inr (5, [.ref (E.2.1 (62)), .ref (E.2.1 (63)), .ref (E.2.1 (64)), .int (nI (hn)), .ref (E.2.1 (65)), .int fl, .ref (E.2.1 (66)), .int (nI (ln)), .int pa, .int va, .int so, .int se, .ref (E.2.1 (67)), .int tl])) (h2 : C (62) = .inl (E.2.2.1 1, 698, .inl zf)) (h4 : C (64) = .inl (E.2.2.1 1, 2792, .inl zp)) (gRT : RTm T zf) (gPH : PH zp hh hn) : xM E l yX5_records wsX5_records 1 24 [.ref (E.2.1 (61))] C (fun v C1 => v = none ∧ C1 (61) = .inr (5, [.ref (E.2.1 (62)), .ref (E.2.1 (63)), .ref (E.2.1 (64)), .int (nI (recN hn)), .ref (E.2.1 (65)), .int fl, .ref (E.2.1 (66)), .int (nI (ln)), .int pa, .int va, .int so, .int se, .ref (E.2.1 (67)), .int tl]) ∧ (∃ zq : Nat → Int32, C1 (64) = .inl (E.2.2.1 1, 2792, .inl zq) ∧ PH zq (recH hh hn T) (recN hn)) ∧ (∀ i : Nat, ¬ i = 61 → ¬ i = 64 → C1 i = C i)) := by
  refine xM_ofY (cc := cX5_records) (maxL := 2) (ret := none) (by decide) rfl (Nat.le_of_ble_eq_true rfl) ?_
  intro p e s m args below meth c X hr
  have inX5 : ∀ w ∈ wsX50, w ∈ wsX5_records := by decide +kernel
  refine y_lv [(0, .ref (E.2.1 (61)))] rfl ?_
  refine y_aload_n X dX5_records_0 0 rfl ?_
  refine y_get X (61) 5 3 (Cn := RX5) (T := TX5) (N := 14) (index := 39) (v := .int (nI (hn))) dX5_records_1 (by omega) m0 rfl (by decide) inX5 (by decide +kernel : Cond.fieldLink RX5 39 "ColumnSeasonsModel" "kept" "I" ∈ wsX5_records) rfl rfl ?_
  refine y_iconst X (v := (4)) dX5_records_4 (by decide) ?_
  refine y_icmp_ne X 49 (¬ ((hn) = (4))) dX5_records_5 (by decide) (cNe (nI_eq (a := hn) (b := 4) (by omega) (by omega))) (fun c_1 => ?_) (fun c_1 => ?_)
  ·
    have c4 : ¬ hn = 4 := by omega
    refine y_aload_n X dX5_records_49 0 rfl ?_
    refine y_get X (61) 5 0 (Cn := RX5) (T := TX5) (N := 14) (index := 7) (v := .ref (E.2.1 (62))) dX5_records_50 (by omega) m0 rfl (by decide) inX5 (by decide +kernel : Cond.fieldLink RX5 7 "ColumnSeasonsModel" "now" "[I" ∈ wsX5_records) rfl rfl ?_
    refine y_iconst X (v := (0)) dX5_records_53 (by decide) ?_
    refine y_aload_n X dX5_records_54 0 rfl ?_
    refine y_get X (61) 5 2 (Cn := RX5) (T := TX5) (N := 14) (index := 16) (v := .ref (E.2.1 (64))) dX5_records_55 (by omega) m0 rfl (by decide) inX5 (by decide +kernel : Cond.fieldLink RX5 16 "ColumnSeasonsModel" "past" "[I" ∈ wsX5_records) rfl rfl ?_
    refine y_sipush X (v := (698)) dX5_records_58 (by decide) ?_
    refine y_aload_n X dX5_records_61 0 rfl ?_
    refine y_get X (61) 5 3 (Cn := RX5) (T := TX5) (N := 14) (index := 39) (v := .int (nI (hn))) dX5_records_62 (by omega) m0 rfl (by decide) inX5 (by decide +kernel : Cond.fieldLink RX5 39 "ColumnSeasonsModel" "kept" "I" ∈ wsX5_records) rfl rfl ?_
    refine y_imul X (z := (nI ((698) * (hn)))) dX5_records_65 (pk_mul (698) (hn)) ?_
    refine y_callJ X (av := [.ref (E.2.1 (62)), .int (0), .ref (E.2.1 (64)), .int (nI ((698) * (hn)))]) [] 4 (c_X5_copies (a := 62) (b2 := 64) (x := 0) (y := (698) * (hn)) (by omega) (by omega) (by omega) (by omega) (by omega) (by omega) (by omega) h2 h4) gX5_records_X5_copies rfl (by decide +kernel) rfl ⟨Nat.le_of_ble_eq_true rfl, Nat.le_of_ble_eq_true rfl⟩ ⟨Nat.zero_le _, Nat.zero_le _⟩ (Nat.le_of_ble_eq_true rfl) rfl dX5_records_66 (fun v_2 C_3 hp_4 => ?_)
    obtain ⟨gv9, ⟨zq5, hq5, gA5, gB5⟩, gF5⟩ := hp_4
    subst gv9
    have h_6 : C_3 (61) = .inr (5, [.ref (E.2.1 (62)), .ref (E.2.1 (63)), .ref (E.2.1 (64)), .int (nI (hn)), .ref (E.2.1 (65)), .int fl, .ref (E.2.1 (66)), .int (nI (ln)), .int pa, .int va, .int so, .int se, .ref (E.2.1 (67)), .int tl]) := (gF5 _ (by omega)).trans m0
    have h_7 : C_3 (62) = .inl (E.2.2.1 1, 698, .inl zf) := (gF5 _ (by omega)).trans h2
    have h_8 : C_3 (64) = .inl (E.2.2.1 1, 2792, .inl zq5) := hq5
    refine y_aload_n X dX5_records_69 0 rfl ?_
    refine y_dup X dX5_records_70 rfl ?_
    refine y_get X (61) 5 3 (Cn := RX5) (T := TX5) (N := 14) (index := 39) (v := .int (nI (hn))) dX5_records_71 (by omega) h_6 rfl (by decide) inX5 (by decide +kernel : Cond.fieldLink RX5 39 "ColumnSeasonsModel" "kept" "I" ∈ wsX5_records) rfl rfl ?_
    refine y_iconst X (v := (1)) dX5_records_74 (by decide) ?_
    refine y_iadd X (z := (nI (hn + 1))) dX5_records_75 (nI_add (hn) (1)) ?_
    refine y_put X (61) 5 3 (Cn := RX5) (T := TX5) (N := 14) (index := 39) tyX5 (v := .int (nI (hn + 1))) dX5_records_76 (by omega) h_6 rfl (by decide) inX5 (by decide +kernel : Cond.fieldLink RX5 39 "ColumnSeasonsModel" "kept" "I" ∈ wsX5_records) rfl tyX5_ok nmX5 rfl rfl rfl (Nat.le_of_ble_eq_true rfl) ?_
    refine y_mem (va_up C_3 (61) (.inr (5, [.ref (E.2.1 (62)), .ref (E.2.1 (63)), .ref (E.2.1 (64)), .int (nI (hn + 1)), .ref (E.2.1 (65)), .int fl, .ref (E.2.1 (66)), .int (nI (ln)), .int pa, .int va, .int so, .int se, .ref (E.2.1 (67)), .int tl]))) rfl (fun C_9 eC_10 => ?_)
    have h_11 : C_9 (61) = .inr (5, [.ref (E.2.1 (62)), .ref (E.2.1 (63)), .ref (E.2.1 (64)), .int (nI (hn + 1)), .ref (E.2.1 (65)), .int fl, .ref (E.2.1 (66)), .int (nI (ln)), .int pa, .int va, .int so, .int se, .ref (E.2.1 (67)), .int tl]) := by rw [eC_10, va_up, if_pos rfl]
    have h_12 : C_9 (62) = .inl (E.2.2.1 1, 698, .inl zf) := by rw [eC_10, va_up, if_neg (by omega)]; exact h_7
    have h_13 : C_9 (64) = .inl (E.2.2.1 1, 2792, .inl zq5) := by rw [eC_10, va_up, if_neg (by omega)]; exact h_8
    exact y_vret X hr dX5_records_79 rfl ⟨rfl, (by rw [show recN hn = hn + 1 by rw [recN, if_neg c4]]; exact h_11), ⟨zq5, h_13, PH_add c4 gWH gv gPH (fun z q1 => gB5 z (by omega)) (RTm_ext gv.1 gRT (fun z q1 => by show zq5 _ = _; rw [gA5 _ (by omega) (by omega)]; exact congrArg zf (by omega)))⟩, (fun i9 g9 g8 => by rw [eC_10, va_up, if_neg (by omega)]; rw [gF5 i9 (by omega)])⟩
  ·
    have c_1 := Decidable.of_not_not c_1
    have c4 : hn = 4 := by omega
    refine y_iconst X (v := (0)) dX5_records_8 (by decide) ?_
    refine y_istore_n X [(1, .int (0)), (0, .ref (E.2.1 (61)))] dX5_records_9 rfl (by decide) rfl ?_
    have L_10 : ∀ (n : Nat) (C2 : xC) (zq : Nat → Int32) (n9 : Nat), 2094 - n9 < n → (C2 (61) = .inr (5, [.ref (E.2.1 (62)), .ref (E.2.1 (63)), .ref (E.2.1 (64)), .int (nI (hn)), .ref (E.2.1 (65)), .int fl, .ref (E.2.1 (66)), .int (nI (ln)), .int pa, .int va, .int so, .int se, .ref (E.2.1 (67)), .int tl])) → (C2 (62) = .inl (E.2.2.1 1, 698, .inl zf)) → (C2 (64) = .inl (E.2.2.1 1, 2792, .inl zq)) → ((∀ i9 : Nat, ¬ i9 = 61 → ¬ i9 = 64 → C2 i9 = C i9)) → (∀ z : Nat, z < n9 → zq z = zp (z + 698)) → (∀ z : Nat, n9 ≤ z → zq z = zp z) → (n9 ≤ 2094) → xY p l e ({ frames := 1, cells := 0, slots := 0, locals := 24 } : Room) s m args below meth c E (xA E) 2 0 0 (MQ below (xQ E (fun v C1 => v = none ∧ C1 (61) = .inr (5, [.ref (E.2.1 (62)), .ref (E.2.1 (63)), .ref (E.2.1 (64)), .int (nI (recN hn)), .ref (E.2.1 (65)), .int fl, .ref (E.2.1 (66)), .int (nI (ln)), .int pa, .int va, .int so, .int se, .ref (E.2.1 (67)), .int tl]) ∧ (∃ zq : Nat → Int32, C1 (64) = .inl (E.2.2.1 1, 2792, .inl zq) ∧ PH zq (recH hh hn T) (recN hn)) ∧ (∀ i : Nat, ¬ i = 61 → ¬ i = 64 → C1 i = C i))) args s 0 0 (xA E)) C2 10 [(0, .ref (E.2.1 (61))), (1, .int (nI (n9)))] [] := by
      intro n10
      induction n10 with
      | zero => intro _ _ _ hm10; exact absurd hm10 (Nat.not_lt_zero _)
      | succ n10 ih10 =>
        intro C2 zq n9 hm10 k0 k2 k4 gF2 gA gB gn
        refine y_iload_n X dX5_records_10 1 rfl ?_
        refine y_sipush X (v := (2094)) dX5_records_11 (by decide) ?_
        refine y_icmp_ge X 39 ((2094) ≤ (n9)) dX5_records_14 (by decide) (nI_leI (a := 2094) (b := n9) (by omega) (by omega)) (fun c_14 => ?_) (fun c_14 => ?_)
        ·
          refine y_aload_n X dX5_records_39 0 rfl ?_
          refine y_dup X dX5_records_40 rfl ?_
          refine y_get X (61) 5 3 (Cn := RX5) (T := TX5) (N := 14) (index := 39) (v := .int (nI (hn))) dX5_records_41 (by omega) k0 rfl (by decide) inX5 (by decide +kernel : Cond.fieldLink RX5 39 "ColumnSeasonsModel" "kept" "I" ∈ wsX5_records) rfl rfl ?_
          refine y_iconst X (v := (1)) dX5_records_44 (by decide) ?_
          refine y_isub X (z := (nI ((hn) - (1)))) dX5_records_45 (pk_sub (a := hn) (b := 1) (by omega)) ?_
          refine y_put X (61) 5 3 (Cn := RX5) (T := TX5) (N := 14) (index := 39) tyX5 (v := .int (nI ((hn) - (1)))) dX5_records_46 (by omega) k0 rfl (by decide) inX5 (by decide +kernel : Cond.fieldLink RX5 39 "ColumnSeasonsModel" "kept" "I" ∈ wsX5_records) rfl tyX5_ok nmX5 rfl rfl rfl (Nat.le_of_ble_eq_true rfl) ?_
          refine y_mem (va_up C2 (61) (.inr (5, [.ref (E.2.1 (62)), .ref (E.2.1 (63)), .ref (E.2.1 (64)), .int (nI ((hn) - (1))), .ref (E.2.1 (65)), .int fl, .ref (E.2.1 (66)), .int (nI (ln)), .int pa, .int va, .int so, .int se, .ref (E.2.1 (67)), .int tl]))) rfl (fun C_15 eC_16 => ?_)
          have h_17 : C_15 (61) = .inr (5, [.ref (E.2.1 (62)), .ref (E.2.1 (63)), .ref (E.2.1 (64)), .int (nI ((hn) - (1))), .ref (E.2.1 (65)), .int fl, .ref (E.2.1 (66)), .int (nI (ln)), .int pa, .int va, .int so, .int se, .ref (E.2.1 (67)), .int tl]) := by rw [eC_16, va_up, if_pos rfl]
          have h_18 : C_15 (62) = .inl (E.2.2.1 1, 698, .inl zf) := by rw [eC_16, va_up, if_neg (by omega)]; exact k2
          have h_19 : C_15 (64) = .inl (E.2.2.1 1, 2792, .inl zq) := by rw [eC_16, va_up, if_neg (by omega)]; exact k4
          refine y_aload_n X dX5_records_49 0 rfl ?_
          refine y_get X (61) 5 0 (Cn := RX5) (T := TX5) (N := 14) (index := 7) (v := .ref (E.2.1 (62))) dX5_records_50 (by omega) h_17 rfl (by decide) inX5 (by decide +kernel : Cond.fieldLink RX5 7 "ColumnSeasonsModel" "now" "[I" ∈ wsX5_records) rfl rfl ?_
          refine y_iconst X (v := (0)) dX5_records_53 (by decide) ?_
          refine y_aload_n X dX5_records_54 0 rfl ?_
          refine y_get X (61) 5 2 (Cn := RX5) (T := TX5) (N := 14) (index := 16) (v := .ref (E.2.1 (64))) dX5_records_55 (by omega) h_17 rfl (by decide) inX5 (by decide +kernel : Cond.fieldLink RX5 16 "ColumnSeasonsModel" "past" "[I" ∈ wsX5_records) rfl rfl ?_
          refine y_sipush X (v := (698)) dX5_records_58 (by decide) ?_
          refine y_aload_n X dX5_records_61 0 rfl ?_
          refine y_get X (61) 5 3 (Cn := RX5) (T := TX5) (N := 14) (index := 39) (v := .int (nI ((hn) - (1)))) dX5_records_62 (by omega) h_17 rfl (by decide) inX5 (by decide +kernel : Cond.fieldLink RX5 39 "ColumnSeasonsModel" "kept" "I" ∈ wsX5_records) rfl rfl ?_
          refine y_imul X (z := (nI ((698) * ((hn) - (1))))) dX5_records_65 (pk_mul (698) ((hn) - (1))) ?_
          refine y_callJ X (av := [.ref (E.2.1 (62)), .int (0), .ref (E.2.1 (64)), .int (nI ((698) * ((hn) - (1))))]) [] 4 (c_X5_copies (a := 62) (b2 := 64) (x := 0) (y := (698) * ((hn) - (1))) (by omega) (by omega) (by omega) (by omega) (by omega) (by omega) (by omega) h_18 h_19) gX5_records_X5_copies rfl (by decide +kernel) rfl ⟨Nat.le_of_ble_eq_true rfl, Nat.le_of_ble_eq_true rfl⟩ ⟨Nat.zero_le _, Nat.zero_le _⟩ (Nat.le_of_ble_eq_true rfl) rfl dX5_records_66 (fun v_20 C_21 hp_22 => ?_)
          obtain ⟨gv9, ⟨zq23, hq23, gA23, gB23⟩, gF23⟩ := hp_22
          subst gv9
          have h_24 : C_21 (61) = .inr (5, [.ref (E.2.1 (62)), .ref (E.2.1 (63)), .ref (E.2.1 (64)), .int (nI ((hn) - (1))), .ref (E.2.1 (65)), .int fl, .ref (E.2.1 (66)), .int (nI (ln)), .int pa, .int va, .int so, .int se, .ref (E.2.1 (67)), .int tl]) := (gF23 _ (by omega)).trans h_17
          have h_25 : C_21 (62) = .inl (E.2.2.1 1, 698, .inl zf) := (gF23 _ (by omega)).trans h_18
          have h_26 : C_21 (64) = .inl (E.2.2.1 1, 2792, .inl zq23) := hq23
          refine y_aload_n X dX5_records_69 0 rfl ?_
          refine y_dup X dX5_records_70 rfl ?_
          refine y_get X (61) 5 3 (Cn := RX5) (T := TX5) (N := 14) (index := 39) (v := .int (nI ((hn) - (1)))) dX5_records_71 (by omega) h_24 rfl (by decide) inX5 (by decide +kernel : Cond.fieldLink RX5 39 "ColumnSeasonsModel" "kept" "I" ∈ wsX5_records) rfl rfl ?_
          refine y_iconst X (v := (1)) dX5_records_74 (by decide) ?_
          refine y_iadd X (z := (nI ((hn) - (1) + 1))) dX5_records_75 (nI_add ((hn) - (1)) (1)) ?_
          refine y_put X (61) 5 3 (Cn := RX5) (T := TX5) (N := 14) (index := 39) tyX5 (v := .int (nI ((hn) - (1) + 1))) dX5_records_76 (by omega) h_24 rfl (by decide) inX5 (by decide +kernel : Cond.fieldLink RX5 39 "ColumnSeasonsModel" "kept" "I" ∈ wsX5_records) rfl tyX5_ok nmX5 rfl rfl rfl (Nat.le_of_ble_eq_true rfl) ?_
          refine y_mem (va_up C_21 (61) (.inr (5, [.ref (E.2.1 (62)), .ref (E.2.1 (63)), .ref (E.2.1 (64)), .int (nI ((hn) - (1) + 1)), .ref (E.2.1 (65)), .int fl, .ref (E.2.1 (66)), .int (nI (ln)), .int pa, .int va, .int so, .int se, .ref (E.2.1 (67)), .int tl]))) rfl (fun C_27 eC_28 => ?_)
          have h_29 : C_27 (61) = .inr (5, [.ref (E.2.1 (62)), .ref (E.2.1 (63)), .ref (E.2.1 (64)), .int (nI ((hn) - (1) + 1)), .ref (E.2.1 (65)), .int fl, .ref (E.2.1 (66)), .int (nI (ln)), .int pa, .int va, .int so, .int se, .ref (E.2.1 (67)), .int tl]) := by rw [eC_28, va_up, if_pos rfl]
          have h_30 : C_27 (62) = .inl (E.2.2.1 1, 698, .inl zf) := by rw [eC_28, va_up, if_neg (by omega)]; exact h_25
          have h_31 : C_27 (64) = .inl (E.2.2.1 1, 2792, .inl zq23) := by rw [eC_28, va_up, if_neg (by omega)]; exact h_26
          exact y_vret X hr dX5_records_79 rfl ⟨rfl, (by rw [show recN hn = hn - 1 + 1 by rw [recN, if_pos c4]; omega]; exact h_29), ⟨zq23, h_31, PH_rec c4 gWH gv gPH (fun z q1 => by rw [gB23 z (by omega)]; exact gA z (by omega)) (RTm_ext gv.1 gRT (fun z q1 => by show zq23 _ = _; rw [gA23 _ (by omega) (by omega)]; exact congrArg zf (by omega)))⟩, (fun i9 g9 g8 => by rw [eC_28, va_up, if_neg (by omega)]; rw [gF23 i9 (by omega)]; rw [eC_16, va_up, if_neg (by omega)]; rw [gF2 i9 g9 g8])⟩
        ·
          refine y_aload_n X dX5_records_17 0 rfl ?_
          refine y_get X (61) 5 2 (Cn := RX5) (T := TX5) (N := 14) (index := 16) (v := .ref (E.2.1 (64))) dX5_records_18 (by omega) k0 rfl (by decide) inX5 (by decide +kernel : Cond.fieldLink RX5 16 "ColumnSeasonsModel" "past" "[I" ∈ wsX5_records) rfl rfl ?_
          refine y_iload_n X dX5_records_21 1 rfl ?_
          refine y_aload_n X dX5_records_22 0 rfl ?_
          refine y_get X (61) 5 2 (Cn := RX5) (T := TX5) (N := 14) (index := 16) (v := .ref (E.2.1 (64))) dX5_records_23 (by omega) k0 rfl (by decide) inX5 (by decide +kernel : Cond.fieldLink RX5 16 "ColumnSeasonsModel" "past" "[I" ∈ wsX5_records) rfl rfl ?_
          refine y_iload_n X dX5_records_26 1 rfl ?_
          refine y_sipush X (v := (698)) dX5_records_27 (by decide) ?_
          refine y_iadd X (z := (nI (n9 + 698))) dX5_records_30 (nI_add (n9) (698)) ?_
          refine y_iald X (64) dX5_records_31 (by omega) k4 (j := n9 + 698) rfl (by omega) (by omega) (z := (zq (n9 + 698))) rfl ?_
          refine y_iast X (64) dX5_records_32 (by omega) k4 (j := n9) rfl (by omega) (by omega) ?_
          refine y_mem (va_up C2 (64) (.inl (E.2.2.1 1, 2792, .inl (upd zq (n9) (zq (n9 + 698)))))) rfl (fun C_32 eC_33 => ?_)
          have h_34 : C_32 (61) = .inr (5, [.ref (E.2.1 (62)), .ref (E.2.1 (63)), .ref (E.2.1 (64)), .int (nI (hn)), .ref (E.2.1 (65)), .int fl, .ref (E.2.1 (66)), .int (nI (ln)), .int pa, .int va, .int so, .int se, .ref (E.2.1 (67)), .int tl]) := by rw [eC_33, va_up, if_neg (by omega)]; exact k0
          have h_35 : C_32 (62) = .inl (E.2.2.1 1, 698, .inl zf) := by rw [eC_33, va_up, if_neg (by omega)]; exact k2
          have h_36 : C_32 (64) = .inl (E.2.2.1 1, 2792, .inl (upd zq (n9) (zq (n9 + 698)))) := by rw [eC_33, va_up, if_pos rfl]
          refine y_iinc X [(1, .int (nI (n9 + 1))), (0, .ref (E.2.1 (61)))] dX5_records_33 1 rfl (nI_1 _) (by decide) rfl ?_
          refine y_goto X 10 dX5_records_36 (by decide) ?_
          refine y_pick [1, 0] [(0, .ref (E.2.1 (61))), (1, .int (nI (n9 + 1)))] rfl ?_
          exact ih10 (C_32) ((upd zq (n9) (zq (n9 + 698)))) (n9 + 1) (by omega) h_34 h_35 h_36 (fun i9 g9 g8 => by rw [eC_33, va_up, if_neg (by omega)]; rw [gF2 i9 g9 g8]) (fun z q1 => by rcases Nat.lt_or_ge z n9 with q3 | q3; rw [pk_un (by omega)]; exact gA z q3; rw [show z = n9 by omega, pk_us]; exact gB _ (by omega)) (fun z q1 => by rw [pk_un (by omega)]; exact gB z (by omega)) (by omega)
    refine y_pick [1, 0] [(0, .ref (E.2.1 (61))), (1, .int (0))] rfl ?_
    exact L_10 _ (C) (zp) (0) (Nat.lt_succ_self _) m0 h2 h4 (fun _ _ _ => rfl) (fun _ q1 => absurd q1 (Nat.not_lt_zero _)) (fun _ _ => rfl) (by omega)

set_option maxRecDepth 100000 in
set_option maxHeartbeats 4000000 in
theorem c_X5_done {l : Launch} {E : xE} {C : xC} {T T2 : Tb} {hh : Nat → Tb} {hn ln : Nat} {zf zt zp : Nat → Int32} {fl pa va so se tl r0 : Int32} (gv : WF T) (gv2 : WF T2) (gWH : ∀ k : Nat, k < hn → WF (hh k)) (gn4 : hn ≤ 4) (m0 : C (61) = .inr (5, [.ref (E.2.1 (62)), .ref (E.2.1 (63)), .ref (E.2.1 (64)), .int (nI (hn)), .ref (E.2.1 (65)), .int fl, .ref (E.2.1 (66)), .int (nI (ln)), .int pa, .int va, .int so, .int se, .ref (E.2.1 (67)), .int tl])) (h2 : C (62) = .inl (E.2.2.1 1, 698, .inl zf)) (h3 : C (63) = .inl (E.2.2.1 1, 698, .inl zt)) (h4 : C (64) = .inl (E.2.2.1 1, 2792, .inl zp)) (gRT : RTm T zf) (gR2 : RTm T2 zt) (gPH : PH zp hh hn) : xM E l yX5_done wsX5_done 2 45 [.ref (E.2.1 (61)), .int r0] C (fun v C1 => v = some (.int r0) ∧ DN E C C1 r0 T T2 hh hn ln fl pa va so se tl) := by
  refine xM_ofY (cc := cX5_done) (maxL := 2) (ret := (some .int)) (by decide) rfl (Nat.le_of_ble_eq_true rfl) ?_
  intro p e s m args below meth c X hr
  have inX5 : ∀ w ∈ wsX50, w ∈ wsX5_done := by decide +kernel
  refine y_lv [(0, .ref (E.2.1 (61))), (1, .int r0)] rfl ?_
  refine y_iload_n X dX5_done_0 1 rfl ?_
  refine y_sipush X (v := (-10001)) dX5_done_1 (by decide) ?_
  refine y_icmp_le X 24 (r0 ≤ (-10001)) dX5_done_4 (by decide) Iff.rfl (fun c_1 => ?_) (fun c_1 => ?_)
  ·
    refine y_iload_n X dX5_done_24 1 rfl ?_
    exact y_iret X hr dX5_done_25 rfl ⟨rfl, Or.inr ⟨Int32.not_lt.mpr c_1, rfl⟩⟩
  ·
    refine y_aload_n X dX5_done_7 0 rfl ?_
    refine y_callV X (61) 5 (av := []) [] 0 (c_X5_records gv gWH gn4 m0 h2 h4 gRT gPH) (by omega) m0 rfl gX5_done_X5_records rfl (by decide +kernel) rfl ⟨Nat.le_of_ble_eq_true rfl, Nat.le_of_ble_eq_true rfl⟩ ⟨Nat.zero_le _, Nat.zero_le _⟩ (Nat.le_of_ble_eq_true rfl) rfl dX5_done_8 (fun v_2 C_3 hp_4 => ?_)
    obtain ⟨gv9, hr5, ⟨zq5, hq5, gP5⟩, gF5⟩ := hp_4
    subst gv9
    have h_6 : C_3 (61) = .inr (5, [.ref (E.2.1 (62)), .ref (E.2.1 (63)), .ref (E.2.1 (64)), .int (nI (recN hn)), .ref (E.2.1 (65)), .int fl, .ref (E.2.1 (66)), .int (nI (ln)), .int pa, .int va, .int so, .int se, .ref (E.2.1 (67)), .int tl]) := hr5
    have h_7 : C_3 (62) = .inl (E.2.2.1 1, 698, .inl zf) := (gF5 _ (by omega) (by omega)).trans h2
    have h_8 : C_3 (63) = .inl (E.2.2.1 1, 698, .inl zt) := (gF5 _ (by omega) (by omega)).trans h3
    have h_9 : C_3 (64) = .inl (E.2.2.1 1, 2792, .inl zq5) := hq5
    refine y_aload_n X dX5_done_11 0 rfl ?_
    refine y_get X (61) 5 1 (Cn := RX5) (T := TX5) (N := 14) (index := 13) (v := .ref (E.2.1 (63))) dX5_done_12 (by omega) h_6 rfl (by decide) inX5 (by decide +kernel : Cond.fieldLink RX5 13 "ColumnSeasonsModel" "then" "[I" ∈ wsX5_done) rfl rfl ?_
    refine y_iconst X (v := (0)) dX5_done_15 (by decide) ?_
    refine y_aload_n X dX5_done_16 0 rfl ?_
    refine y_get X (61) 5 0 (Cn := RX5) (T := TX5) (N := 14) (index := 7) (v := .ref (E.2.1 (62))) dX5_done_17 (by omega) h_6 rfl (by decide) inX5 (by decide +kernel : Cond.fieldLink RX5 7 "ColumnSeasonsModel" "now" "[I" ∈ wsX5_done) rfl rfl ?_
    refine y_iconst X (v := (0)) dX5_done_20 (by decide) ?_
    refine y_callJ X (av := [.ref (E.2.1 (63)), .int (0), .ref (E.2.1 (62)), .int (0)]) [] 4 (c_X5_copies (a := 63) (b2 := 62) (x := 0) (y := 0) (by omega) (by omega) (by omega) (by omega) (by omega) (by omega) (by omega) h_8 h_7) gX5_done_X5_copies rfl (by decide +kernel) rfl ⟨Nat.le_of_ble_eq_true rfl, Nat.le_of_ble_eq_true rfl⟩ ⟨Nat.zero_le _, Nat.zero_le _⟩ (Nat.le_of_ble_eq_true rfl) rfl dX5_done_21 (fun v_10 C_11 hp_12 => ?_)
    obtain ⟨gv9, ⟨zq13, hq13, gA13, gB13⟩, gF13⟩ := hp_12
    subst gv9
    have h_14 : C_11 (61) = .inr (5, [.ref (E.2.1 (62)), .ref (E.2.1 (63)), .ref (E.2.1 (64)), .int (nI (recN hn)), .ref (E.2.1 (65)), .int fl, .ref (E.2.1 (66)), .int (nI (ln)), .int pa, .int va, .int so, .int se, .ref (E.2.1 (67)), .int tl]) := (gF13 _ (by omega)).trans h_6
    have h_15 : C_11 (62) = .inl (E.2.2.1 1, 698, .inl zq13) := hq13
    have h_16 : C_11 (63) = .inl (E.2.2.1 1, 698, .inl zt) := (gF13 _ (by omega)).trans h_8
    have h_17 : C_11 (64) = .inl (E.2.2.1 1, 2792, .inl zq5) := (gF13 _ (by omega)).trans h_9
    refine y_iload_n X dX5_done_24 1 rfl ?_
    exact y_iret X hr dX5_done_25 rfl ⟨rfl, Or.inl ⟨Int32.not_le.mp c_1, ⟨zq13, zq5, h_14, h_15, h_17, RTm_ext gv2.1 gR2 (fun z q1 => by rw [gA13 z (by omega) (by omega)]; exact congrArg zt (by omega)), gP5⟩, (fun i9 g9 g8 g7 => by rw [gF13 i9 (by omega)]; rw [gF5 i9 (by omega) (by omega)])⟩⟩

set_option maxRecDepth 100000 in
set_option maxHeartbeats 4000000 in
theorem c_X5_add {l : Launch} {E : xE} {C : xC} {T : Tb} {hh : Nat → Tb} {hn : Nat} {sn : Option Tb} {tx : Nat → Int32} {ln : Nat} {sp : Option (Nat × Int32)} (gM : MX E C T hh hn sn tx ln sp) (gW : WX T hh hn sn tx ln sp) {x kd d0 : Int32} : xM E l yX5_add wsX5_add 3 66 [.ref (E.2.1 (61)), .int x, .int kd, .int d0] C (fun v C1 => v = some (.int ((sAdd T x kd d0).1)) ∧ MX E C1 (acT (sAdd T x kd d0) T) (acH (sAdd T x kd d0) T hh hn) (acN (sAdd T x kd d0) hn) (sn) (tx) (ln) (sp) ∧ (∀ i : Nat, i < 61 → C1 i = C i)) := by
  obtain ⟨zf, zt, zp, zs, zx, zl, pa, va, tl, m0, h2, h3, h4, h5, h6, h7, gRT, gPH, gSN, gTX⟩ := id gM
  obtain ⟨gv, gn4, gWH, gWS, gl80, gch, gsp⟩ := id gW
  have gT : RM E C 62 T := ⟨zf, h2, gRT⟩
  obtain ⟨gw1, gw2, gw3, gw4⟩ := id gv.1
  refine xM_ofY (cc := cX5_add) (maxL := 4) (ret := (some .int)) (by decide) rfl (Nat.le_of_ble_eq_true rfl) ?_
  intro p e s m args below meth c X hr
  have inX5 : ∀ w ∈ wsX50, w ∈ wsX5_add := by decide +kernel
  refine y_lv [(0, .ref (E.2.1 (61))), (1, .int x), (2, .int kd), (3, .int d0)] rfl ?_
  refine y_iload_n X dX5_add_0 1 rfl ?_
  refine y_callJr X (av := [.int x]) [] 1 (c_X5_isName (x := x)) gX5_add_X5_isName rfl (by decide +kernel) rfl ⟨Nat.le_of_ble_eq_true rfl, Nat.le_of_ble_eq_true rfl⟩ ⟨Nat.zero_le _, Nat.zero_le _⟩ (Nat.le_of_ble_eq_true rfl) rfl dX5_add_1 ?_
  refine y_if_ne X 11 (xin x 8) dX5_add_4 (by decide) bI_ne (fun c_1 => ?_) (fun c_1 => ?_)
  ·
    obtain ⟨j, gj, gej⟩ := xin_of c_1 (by decide)
    subst gej
    refine y_iload_n X dX5_add_11 2 rfl ?_
    refine y_iconst X (v := (0)) dX5_add_12 (by decide) ?_
    refine y_iconst X (v := (2)) dX5_add_13 (by decide) ?_
    refine y_callJr X (av := [.int kd, .int (0), .int (2)]) [] 3 (c_X5_inN (x := kd) (z := (2)) (n := 3) (by decide)) gX5_add_X5_in rfl (by decide +kernel) rfl ⟨Nat.le_of_ble_eq_true rfl, Nat.le_of_ble_eq_true rfl⟩ ⟨Nat.zero_le _, Nat.zero_le _⟩ (Nat.le_of_ble_eq_true rfl) rfl dX5_add_14 ?_
    refine y_if_eq X 35 (¬ (xin kd 3)) dX5_add_17 (by decide) bI_eq (fun c_2 => ?_) (fun c_2 => ?_)
    ·
      refine y_sipush X (v := (-10002)) dX5_add_35 (by decide) ?_
      exact y_iret X hr dX5_add_38 rfl (by have ez : sAdd T (nI j) kd d0 = ((-10002), T) := (by rw [sAdd, if_pos c_1, if_neg (fun z => c_2 z.1)]); rw [ez]; exact ⟨rfl, MX_err (by decide) ⟨_, _, _, _, _, _, _, _, _, m0, h2, h3, h4, h5, h6, h7, gRT, gPH, gSN, gTX⟩, (fun _ _ => rfl)⟩)
    ·
      have c_2 := Decidable.of_not_not c_2
      refine y_iload_n X dX5_add_20 3 rfl ?_
      refine y_iload_n X dX5_add_21 2 rfl ?_
      refine y_callJr X (av := [.int kd]) [.int d0] 1 (c_X5_least (x := kd)) gX5_add_X5_least rfl (by decide +kernel) rfl ⟨Nat.le_of_ble_eq_true rfl, Nat.le_of_ble_eq_true rfl⟩ ⟨Nat.zero_le _, Nat.zero_le _⟩ (Nat.le_of_ble_eq_true rfl) rfl dX5_add_22 ?_
      refine y_iload_n X dX5_add_25 2 rfl ?_
      refine y_callJr X (av := [.int kd]) [.int (loK kd), .int d0] 1 (c_X5_most (x := kd)) gX5_add_X5_most rfl (by decide +kernel) rfl ⟨Nat.le_of_ble_eq_true rfl, Nat.le_of_ble_eq_true rfl⟩ ⟨Nat.zero_le _, Nat.zero_le _⟩ (Nat.le_of_ble_eq_true rfl) rfl dX5_add_26 ?_
      refine y_callJr X (av := [.int d0, .int (loK kd), .int (hiK kd)]) [] 3 (c_X5_in (x := d0) (y := (loK kd)) (z := (hiK kd)) rfl rfl rfl) gX5_add_X5_in rfl (by decide +kernel) rfl ⟨Nat.le_of_ble_eq_true rfl, Nat.le_of_ble_eq_true rfl⟩ ⟨Nat.zero_le _, Nat.zero_le _⟩ (Nat.le_of_ble_eq_true rfl) rfl dX5_add_29 ?_
      refine y_if_ne X 39 (okv d0 kd) dX5_add_32 (by decide) bI_ne (fun c_3 => ?_) (fun c_3 => ?_)
      ·
        refine y_aload_n X dX5_add_39 0 rfl ?_
        refine y_get X (61) 5 0 (Cn := RX5) (T := TX5) (N := 14) (index := 7) (v := .ref (E.2.1 (62))) dX5_add_40 (by omega) m0 rfl (by decide) inX5 (by decide +kernel : Cond.fieldLink RX5 7 "ColumnSeasonsModel" "now" "[I" ∈ wsX5_add) rfl rfl ?_
        refine y_iconst X (v := (0)) dX5_add_43 (by decide) ?_
        refine y_aload_n X dX5_add_44 0 rfl ?_
        refine y_get X (61) 5 1 (Cn := RX5) (T := TX5) (N := 14) (index := 13) (v := .ref (E.2.1 (63))) dX5_add_45 (by omega) m0 rfl (by decide) inX5 (by decide +kernel : Cond.fieldLink RX5 13 "ColumnSeasonsModel" "then" "[I" ∈ wsX5_add) rfl rfl ?_
        refine y_iconst X (v := (0)) dX5_add_48 (by decide) ?_
        refine y_callJ X (av := [.ref (E.2.1 (62)), .int (0), .ref (E.2.1 (63)), .int (0)]) [] 4 (c_X5_copies (a := 62) (b2 := 63) (x := 0) (y := 0) (by omega) (by omega) (by omega) (by omega) (by omega) (by omega) (by omega) h2 h3) gX5_add_X5_copies rfl (by decide +kernel) rfl ⟨Nat.le_of_ble_eq_true rfl, Nat.le_of_ble_eq_true rfl⟩ ⟨Nat.zero_le _, Nat.zero_le _⟩ (Nat.le_of_ble_eq_true rfl) rfl dX5_add_49 (fun v_4 C_5 hp_6 => ?_)
        obtain ⟨gv9, ⟨zq7, hq7, gA7, gB7⟩, gF7⟩ := hp_6
        subst gv9
        have h_8 : C_5 (61) = .inr (5, [.ref (E.2.1 (62)), .ref (E.2.1 (63)), .ref (E.2.1 (64)), .int (nI (hn)), .ref (E.2.1 (65)), .int (flg sn), .ref (E.2.1 (66)), .int (nI (ln)), .int pa, .int va, .int (soM sp), .int (seM sp), .ref (E.2.1 (67)), .int tl]) := (gF7 _ (by omega)).trans m0
        have h_9 : C_5 (62) = .inl (E.2.2.1 1, 698, .inl zf) := (gF7 _ (by omega)).trans h2
        have h_10 : C_5 (63) = .inl (E.2.2.1 1, 698, .inl zq7) := hq7
        have h_11 : C_5 (64) = .inl (E.2.2.1 1, 2792, .inl zp) := (gF7 _ (by omega)).trans h4
        have h_12 : C_5 (65) = .inl (E.2.2.1 1, 698, .inl zs) := (gF7 _ (by omega)).trans h5
        have h_13 : C_5 (66) = .inl (E.2.2.1 1, 80, .inl zx) := (gF7 _ (by omega)).trans h6
        have h_14 : C_5 (67) = .inl (E.2.2.1 1, 84, .inl zl) := (gF7 _ (by omega)).trans h7
        refine y_aload_n X dX5_add_52 0 rfl ?_
        refine y_aload_n X dX5_add_53 0 rfl ?_
        refine y_get X (61) 5 1 (Cn := RX5) (T := TX5) (N := 14) (index := 13) (v := .ref (E.2.1 (63))) dX5_add_54 (by omega) h_8 rfl (by decide) inX5 (by decide +kernel : Cond.fieldLink RX5 13 "ColumnSeasonsModel" "then" "[I" ∈ wsX5_add) rfl rfl ?_
        refine y_iload_n X dX5_add_57 1 rfl ?_
        refine y_iload_n X dX5_add_58 2 rfl ?_
        refine y_iload_n X dX5_add_59 3 rfl ?_
        have gT2 : RM E C_5 63 T := ⟨_, h_10, RTm_ext gv.1 gRT (fun z q1 => by rw [gA7 z (by omega) (by omega)]; exact congrArg zf (by omega))⟩
        refine y_callJ X (av := [.ref (E.2.1 (63)), .int (nI (j)), .int kd, .int d0]) [.ref (E.2.1 (61))] 4 (c_X5_adds (a := 63) (T := T) (j := j) (kd := kd) (d0 := d0) (by omega) gT2 gv gj) gX5_add_X5_adds rfl (by decide +kernel) rfl ⟨Nat.le_of_ble_eq_true rfl, Nat.le_of_ble_eq_true rfl⟩ ⟨Nat.zero_le _, Nat.zero_le _⟩ (Nat.le_of_ble_eq_true rfl) rfl dX5_add_60 (fun v_15 C_16 hp_17 => ?_)
        obtain ⟨gv9, ⟨zt18, ht18, gR2⟩, gF18⟩ := hp_17
        subst gv9
        have h_19 : C_16 (61) = .inr (5, [.ref (E.2.1 (62)), .ref (E.2.1 (63)), .ref (E.2.1 (64)), .int (nI (hn)), .ref (E.2.1 (65)), .int (flg sn), .ref (E.2.1 (66)), .int (nI (ln)), .int pa, .int va, .int (soM sp), .int (seM sp), .ref (E.2.1 (67)), .int tl]) := (gF18 _ (by omega)).trans h_8
        have h_20 : C_16 (62) = .inl (E.2.2.1 1, 698, .inl zf) := (gF18 _ (by omega)).trans h_9
        have h_21 : C_16 (63) = .inl (E.2.2.1 1, 698, .inl zt18) := ht18
        have h_22 : C_16 (64) = .inl (E.2.2.1 1, 2792, .inl zp) := (gF18 _ (by omega)).trans h_11
        have h_23 : C_16 (65) = .inl (E.2.2.1 1, 698, .inl zs) := (gF18 _ (by omega)).trans h_12
        have h_24 : C_16 (66) = .inl (E.2.2.1 1, 80, .inl zx) := (gF18 _ (by omega)).trans h_13
        have h_25 : C_16 (67) = .inl (E.2.2.1 1, 84, .inl zl) := (gF18 _ (by omega)).trans h_14
        refine y_callV X (61) 5 (av := [.int (aAdd T j kd d0).1]) [] 1 (c_X5_done (T := T) (T2 := (aAdd T j kd d0).2) (r0 := (aAdd T j kd d0).1) gv (WF_aAdd gv gj c_2 c_3) gWH gn4 h_19 h_20 h_21 h_22 gRT gR2 gPH) (by omega) h_19 rfl gX5_add_X5_done rfl (by decide +kernel) rfl ⟨Nat.le_of_ble_eq_true rfl, Nat.le_of_ble_eq_true rfl⟩ ⟨Nat.zero_le _, Nat.zero_le _⟩ (Nat.le_of_ble_eq_true rfl) rfl dX5_add_63 (fun v_26 C_27 hp_28 => ?_)
        obtain ⟨gv9, gDN⟩ := hp_28
        subst gv9
        exact y_iret X hr dX5_add_66 rfl (by rw [sAdd_a gj c_2 c_3]; exact ⟨rfl, MX_done (r := aAdd T j kd d0) h_19 h_20 h_21 h_22 h_23 h_24 h_25 gRT gPH gSN gTX gDN, (fun i9 g9 => by rw [DN_fr gDN i9 (by omega)]; rw [gF18 i9 (by omega)]; rw [gF7 i9 (by omega)])⟩)
      ·
        refine y_sipush X (v := (-10002)) dX5_add_35 (by decide) ?_
        exact y_iret X hr dX5_add_38 rfl (by have ez : sAdd T (nI j) kd d0 = ((-10002), T) := (by rw [sAdd, if_pos c_1, if_neg (fun z => c_3 z.2)]); rw [ez]; exact ⟨rfl, MX_err (by decide) ⟨_, _, _, _, _, _, _, _, _, m0, h2, h3, h4, h5, h6, h7, gRT, gPH, gSN, gTX⟩, (fun _ _ => rfl)⟩)
  ·
    refine y_sipush X (v := (-10001)) dX5_add_7 (by decide) ?_
    exact y_iret X hr dX5_add_10 rfl (by have ez : sAdd T x kd d0 = ((-10001), T) := (by rw [sAdd, if_neg c_1]); rw [ez]; exact ⟨rfl, MX_err (by decide) ⟨_, _, _, _, _, _, _, _, _, m0, h2, h3, h4, h5, h6, h7, gRT, gPH, gSN, gTX⟩, (fun _ _ => rfl)⟩)

set_option maxRecDepth 100000 in
set_option maxHeartbeats 4000000 in
theorem c_X5_drop {l : Launch} {E : xE} {C : xC} {T : Tb} {hh : Nat → Tb} {hn : Nat} {sn : Option Tb} {tx : Nat → Int32} {ln : Nat} {sp : Option (Nat × Int32)} (gM : MX E C T hh hn sn tx ln sp) (gW : WX T hh hn sn tx ln sp) {x : Int32} : xM E l yX5_drop wsX5_drop 3 66 [.ref (E.2.1 (61)), .int x] C (fun v C1 => v = some (.int ((sDrop T x).1)) ∧ MX E C1 (acT (sDrop T x) T) (acH (sDrop T x) T hh hn) (acN (sDrop T x) hn) (sn) (tx) (ln) (sp) ∧ (∀ i : Nat, i < 61 → C1 i = C i)) := by
  obtain ⟨zf, zt, zp, zs, zx, zl, pa, va, tl, m0, h2, h3, h4, h5, h6, h7, gRT, gPH, gSN, gTX⟩ := id gM
  obtain ⟨gv, gn4, gWH, gWS, gl80, gch, gsp⟩ := id gW
  have gT : RM E C 62 T := ⟨zf, h2, gRT⟩
  obtain ⟨gw1, gw2, gw3, gw4⟩ := id gv.1
  refine xM_ofY (cc := cX5_drop) (maxL := 2) (ret := (some .int)) (by decide) rfl (Nat.le_of_ble_eq_true rfl) ?_
  intro p e s m args below meth c X hr
  have inX5 : ∀ w ∈ wsX50, w ∈ wsX5_drop := by decide +kernel
  refine y_lv [(0, .ref (E.2.1 (61))), (1, .int x)] rfl ?_
  refine y_aload_n X dX5_drop_0 0 rfl ?_
  refine y_get X (61) 5 0 (Cn := RX5) (T := TX5) (N := 14) (index := 7) (v := .ref (E.2.1 (62))) dX5_drop_1 (by omega) m0 rfl (by decide) inX5 (by decide +kernel : Cond.fieldLink RX5 7 "ColumnSeasonsModel" "now" "[I" ∈ wsX5_drop) rfl rfl ?_
  refine y_iconst X (v := (0)) dX5_drop_4 (by decide) ?_
  refine y_aload_n X dX5_drop_5 0 rfl ?_
  refine y_get X (61) 5 1 (Cn := RX5) (T := TX5) (N := 14) (index := 13) (v := .ref (E.2.1 (63))) dX5_drop_6 (by omega) m0 rfl (by decide) inX5 (by decide +kernel : Cond.fieldLink RX5 13 "ColumnSeasonsModel" "then" "[I" ∈ wsX5_drop) rfl rfl ?_
  refine y_iconst X (v := (0)) dX5_drop_9 (by decide) ?_
  refine y_callJ X (av := [.ref (E.2.1 (62)), .int (0), .ref (E.2.1 (63)), .int (0)]) [] 4 (c_X5_copies (a := 62) (b2 := 63) (x := 0) (y := 0) (by omega) (by omega) (by omega) (by omega) (by omega) (by omega) (by omega) h2 h3) gX5_drop_X5_copies rfl (by decide +kernel) rfl ⟨Nat.le_of_ble_eq_true rfl, Nat.le_of_ble_eq_true rfl⟩ ⟨Nat.zero_le _, Nat.zero_le _⟩ (Nat.le_of_ble_eq_true rfl) rfl dX5_drop_10 (fun v_1 C_2 hp_3 => ?_)
  obtain ⟨gv9, ⟨zq4, hq4, gA4, gB4⟩, gF4⟩ := hp_3
  subst gv9
  have h_5 : C_2 (61) = .inr (5, [.ref (E.2.1 (62)), .ref (E.2.1 (63)), .ref (E.2.1 (64)), .int (nI (hn)), .ref (E.2.1 (65)), .int (flg sn), .ref (E.2.1 (66)), .int (nI (ln)), .int pa, .int va, .int (soM sp), .int (seM sp), .ref (E.2.1 (67)), .int tl]) := (gF4 _ (by omega)).trans m0
  have h_6 : C_2 (62) = .inl (E.2.2.1 1, 698, .inl zf) := (gF4 _ (by omega)).trans h2
  have h_7 : C_2 (63) = .inl (E.2.2.1 1, 698, .inl zq4) := hq4
  have h_8 : C_2 (64) = .inl (E.2.2.1 1, 2792, .inl zp) := (gF4 _ (by omega)).trans h4
  have h_9 : C_2 (65) = .inl (E.2.2.1 1, 698, .inl zs) := (gF4 _ (by omega)).trans h5
  have h_10 : C_2 (66) = .inl (E.2.2.1 1, 80, .inl zx) := (gF4 _ (by omega)).trans h6
  have h_11 : C_2 (67) = .inl (E.2.2.1 1, 84, .inl zl) := (gF4 _ (by omega)).trans h7
  refine y_iload_n X dX5_drop_13 1 rfl ?_
  refine y_callJr X (av := [.int x]) [] 1 (c_X5_isName (x := x)) gX5_drop_X5_isName rfl (by decide +kernel) rfl ⟨Nat.le_of_ble_eq_true rfl, Nat.le_of_ble_eq_true rfl⟩ ⟨Nat.zero_le _, Nat.zero_le _⟩ (Nat.le_of_ble_eq_true rfl) rfl dX5_drop_14 ?_
  refine y_if_eq X 35 (¬ (xin x 8)) dX5_drop_17 (by decide) bI_eq (fun c_12 => ?_) (fun c_12 => ?_)
  ·
    refine y_sipush X (v := (-10001)) dX5_drop_35 (by decide) ?_
    exact y_iret X hr dX5_drop_38 rfl (by have ez : sDrop T x = ((-10001), T) := (by rw [sDrop, if_neg (fun z => c_12 z.1)]); rw [ez]; exact ⟨rfl, MX_err (by decide) ⟨_, _, _, _, _, _, _, _, _, h_5, h_6, h_7, h_8, h_9, h_10, h_11, gRT, gPH, gSN, gTX⟩, (fun i9 g9 => by rw [gF4 i9 (by omega)])⟩)
  ·
    have c_12 := Decidable.of_not_not c_12
    obtain ⟨j, gj, gej⟩ := xin_of c_12 (by decide)
    subst gej
    refine y_aload_n X dX5_drop_20 0 rfl ?_
    refine y_aload_n X dX5_drop_21 0 rfl ?_
    refine y_get X (61) 5 1 (Cn := RX5) (T := TX5) (N := 14) (index := 13) (v := .ref (E.2.1 (63))) dX5_drop_22 (by omega) h_5 rfl (by decide) inX5 (by decide +kernel : Cond.fieldLink RX5 13 "ColumnSeasonsModel" "then" "[I" ∈ wsX5_drop) rfl rfl ?_
    refine y_iload_n X dX5_drop_25 1 rfl ?_
    have gT2 : RM E C_2 63 T := ⟨_, h_7, RTm_ext gv.1 gRT (fun z q1 => by rw [gA4 z (by omega) (by omega)]; exact congrArg zf (by omega))⟩
    refine y_callJ X (av := [.ref (E.2.1 (63)), .int (nI (j))]) [.ref (E.2.1 (61))] 2 (c_X5_drops (a := 63) (T := T) (j := j) (by omega) gT2 gv gj) gX5_drop_X5_drops rfl (by decide +kernel) rfl ⟨Nat.le_of_ble_eq_true rfl, Nat.le_of_ble_eq_true rfl⟩ ⟨Nat.zero_le _, Nat.zero_le _⟩ (Nat.le_of_ble_eq_true rfl) rfl dX5_drop_26 (fun v_13 C_14 hp_15 => ?_)
    obtain ⟨gv9, ⟨zt16, ht16, gR2⟩, gF16⟩ := hp_15
    subst gv9
    have h_17 : C_14 (61) = .inr (5, [.ref (E.2.1 (62)), .ref (E.2.1 (63)), .ref (E.2.1 (64)), .int (nI (hn)), .ref (E.2.1 (65)), .int (flg sn), .ref (E.2.1 (66)), .int (nI (ln)), .int pa, .int va, .int (soM sp), .int (seM sp), .ref (E.2.1 (67)), .int tl]) := (gF16 _ (by omega)).trans h_5
    have h_18 : C_14 (62) = .inl (E.2.2.1 1, 698, .inl zf) := (gF16 _ (by omega)).trans h_6
    have h_19 : C_14 (63) = .inl (E.2.2.1 1, 698, .inl zt16) := ht16
    have h_20 : C_14 (64) = .inl (E.2.2.1 1, 2792, .inl zp) := (gF16 _ (by omega)).trans h_8
    have h_21 : C_14 (65) = .inl (E.2.2.1 1, 698, .inl zs) := (gF16 _ (by omega)).trans h_9
    have h_22 : C_14 (66) = .inl (E.2.2.1 1, 80, .inl zx) := (gF16 _ (by omega)).trans h_10
    have h_23 : C_14 (67) = .inl (E.2.2.1 1, 84, .inl zl) := (gF16 _ (by omega)).trans h_11
    refine y_callV X (61) 5 (av := [.int (aDrop T j).1]) [] 1 (c_X5_done (T := T) (T2 := (aDrop T j).2) (r0 := (aDrop T j).1) gv (WF_aDrop gv gj) gWH gn4 h_17 h_18 h_19 h_20 gRT gR2 gPH) (by omega) h_17 rfl gX5_drop_X5_done rfl (by decide +kernel) rfl ⟨Nat.le_of_ble_eq_true rfl, Nat.le_of_ble_eq_true rfl⟩ ⟨Nat.zero_le _, Nat.zero_le _⟩ (Nat.le_of_ble_eq_true rfl) rfl dX5_drop_29 (fun v_24 C_25 hp_26 => ?_)
    obtain ⟨gv9, gDN⟩ := hp_26
    subst gv9
    refine y_goto X 38 dX5_drop_32 (by decide) ?_
    exact y_iret X hr dX5_drop_38 rfl (by rw [sDrop_a gj]; exact ⟨rfl, MX_done (r := aDrop T j) h_17 h_18 h_19 h_20 h_21 h_22 h_23 gRT gPH gSN gTX gDN, (fun i9 g9 => by rw [DN_fr gDN i9 (by omega)]; rw [gF16 i9 (by omega)]; rw [gF4 i9 (by omega)])⟩)

set_option maxRecDepth 100000 in
set_option maxHeartbeats 4000000 in
theorem c_X5_kind {l : Launch} {E : xE} {C : xC} {T : Tb} {hh : Nat → Tb} {hn : Nat} {sn : Option Tb} {tx : Nat → Int32} {ln : Nat} {sp : Option (Nat × Int32)} (gM : MX E C T hh hn sn tx ln sp) (gW : WX T hh hn sn tx ln sp) {x kd : Int32} : xM E l yX5_kind wsX5_kind 3 66 [.ref (E.2.1 (61)), .int x, .int kd] C (fun v C1 => v = some (.int ((sKind T x kd).1)) ∧ MX E C1 (acT (sKind T x kd) T) (acH (sKind T x kd) T hh hn) (acN (sKind T x kd) hn) (sn) (tx) (ln) (sp) ∧ (∀ i : Nat, i < 61 → C1 i = C i)) := by
  obtain ⟨zf, zt, zp, zs, zx, zl, pa, va, tl, m0, h2, h3, h4, h5, h6, h7, gRT, gPH, gSN, gTX⟩ := id gM
  obtain ⟨gv, gn4, gWH, gWS, gl80, gch, gsp⟩ := id gW
  have gT : RM E C 62 T := ⟨zf, h2, gRT⟩
  obtain ⟨gw1, gw2, gw3, gw4⟩ := id gv.1
  refine xM_ofY (cc := cX5_kind) (maxL := 3) (ret := (some .int)) (by decide) rfl (Nat.le_of_ble_eq_true rfl) ?_
  intro p e s m args below meth c X hr
  have inX5 : ∀ w ∈ wsX50, w ∈ wsX5_kind := by decide +kernel
  refine y_lv [(0, .ref (E.2.1 (61))), (1, .int x), (2, .int kd)] rfl ?_
  refine y_iload_n X dX5_kind_0 1 rfl ?_
  refine y_callJr X (av := [.int x]) [] 1 (c_X5_isName (x := x)) gX5_kind_X5_isName rfl (by decide +kernel) rfl ⟨Nat.le_of_ble_eq_true rfl, Nat.le_of_ble_eq_true rfl⟩ ⟨Nat.zero_le _, Nat.zero_le _⟩ (Nat.le_of_ble_eq_true rfl) rfl dX5_kind_1 ?_
  refine y_if_eq X 26 (¬ (xin x 8)) dX5_kind_4 (by decide) bI_eq (fun c_1 => ?_) (fun c_1 => ?_)
  ·
    refine y_sipush X (v := (-10001)) dX5_kind_26 (by decide) ?_
    exact y_iret X hr dX5_kind_29 rfl (by have ez : sKind T x kd = ((-10001), T) := (by rw [sKind, if_neg (fun z => c_1 z.1)]); rw [ez]; exact ⟨rfl, MX_err (by decide) ⟨_, _, _, _, _, _, _, _, _, m0, h2, h3, h4, h5, h6, h7, gRT, gPH, gSN, gTX⟩, (fun _ _ => rfl)⟩)
  ·
    have c_1 := Decidable.of_not_not c_1
    obtain ⟨j, gj, gej⟩ := xin_of c_1 (by decide)
    subst gej
    have gk2 := WF_k gv (show tn T - 1 < tn T by omega) gj
    refine y_aload_n X dX5_kind_7 0 rfl ?_
    refine y_get X (61) 5 0 (Cn := RX5) (T := TX5) (N := 14) (index := 7) (v := .ref (E.2.1 (62))) dX5_kind_8 (by omega) m0 rfl (by decide) inX5 (by decide +kernel : Cond.fieldLink RX5 7 "ColumnSeasonsModel" "now" "[I" ∈ wsX5_kind) rfl rfl ?_
    refine y_aload_n X dX5_kind_11 0 rfl ?_
    refine y_get X (61) 5 0 (Cn := RX5) (T := TX5) (N := 14) (index := 7) (v := .ref (E.2.1 (62))) dX5_kind_12 (by omega) m0 rfl (by decide) inX5 (by decide +kernel : Cond.fieldLink RX5 7 "ColumnSeasonsModel" "now" "[I" ∈ wsX5_kind) rfl rfl ?_
    refine y_iconst X (v := (0)) dX5_kind_15 (by decide) ?_
    refine y_iald X (62) dX5_kind_16 (by omega) h2 (j := 0) rfl (by omega) (by omega) (z := (nI (tn T))) gRT.1 ?_
    refine y_iconst X (v := (1)) dX5_kind_17 (by decide) ?_
    refine y_isub X (z := (nI ((tn T) - (1)))) dX5_kind_18 (pk_sub (a := tn T) (b := 1) (by omega)) ?_
    refine y_iload_n X dX5_kind_19 1 rfl ?_
    refine y_callJr X (av := [.ref (E.2.1 (62)), .int (nI ((tn T) - (1))), .int (nI (j))]) [] 3 (c_X5_kindOf (a := 62) (by omega) gT gv (q := (tn T) - (1)) (j := j) (by omega) (by omega)) gX5_kind_X5_kindOf rfl (by decide +kernel) rfl ⟨Nat.le_of_ble_eq_true rfl, Nat.le_of_ble_eq_true rfl⟩ ⟨Nat.zero_le _, Nat.zero_le _⟩ (Nat.le_of_ble_eq_true rfl) rfl dX5_kind_20 ?_
    refine y_if_ge X 30 (¬ (tk T ((tn T) - (1)) (j)) = -1) dX5_kind_23 (by decide) (kgeI (by first | exact gk1 | exact gk2)) (fun c_2 => ?_) (fun c_2 => ?_)
    ·
      refine y_aload_n X dX5_kind_30 0 rfl ?_
      refine y_get X (61) 5 0 (Cn := RX5) (T := TX5) (N := 14) (index := 7) (v := .ref (E.2.1 (62))) dX5_kind_31 (by omega) m0 rfl (by decide) inX5 (by decide +kernel : Cond.fieldLink RX5 7 "ColumnSeasonsModel" "now" "[I" ∈ wsX5_kind) rfl rfl ?_
      refine y_iconst X (v := (0)) dX5_kind_34 (by decide) ?_
      refine y_aload_n X dX5_kind_35 0 rfl ?_
      refine y_get X (61) 5 1 (Cn := RX5) (T := TX5) (N := 14) (index := 13) (v := .ref (E.2.1 (63))) dX5_kind_36 (by omega) m0 rfl (by decide) inX5 (by decide +kernel : Cond.fieldLink RX5 13 "ColumnSeasonsModel" "then" "[I" ∈ wsX5_kind) rfl rfl ?_
      refine y_iconst X (v := (0)) dX5_kind_39 (by decide) ?_
      refine y_callJ X (av := [.ref (E.2.1 (62)), .int (0), .ref (E.2.1 (63)), .int (0)]) [] 4 (c_X5_copies (a := 62) (b2 := 63) (x := 0) (y := 0) (by omega) (by omega) (by omega) (by omega) (by omega) (by omega) (by omega) h2 h3) gX5_kind_X5_copies rfl (by decide +kernel) rfl ⟨Nat.le_of_ble_eq_true rfl, Nat.le_of_ble_eq_true rfl⟩ ⟨Nat.zero_le _, Nat.zero_le _⟩ (Nat.le_of_ble_eq_true rfl) rfl dX5_kind_40 (fun v_3 C_4 hp_5 => ?_)
      obtain ⟨gv9, ⟨zq6, hq6, gA6, gB6⟩, gF6⟩ := hp_5
      subst gv9
      have h_7 : C_4 (61) = .inr (5, [.ref (E.2.1 (62)), .ref (E.2.1 (63)), .ref (E.2.1 (64)), .int (nI (hn)), .ref (E.2.1 (65)), .int (flg sn), .ref (E.2.1 (66)), .int (nI (ln)), .int pa, .int va, .int (soM sp), .int (seM sp), .ref (E.2.1 (67)), .int tl]) := (gF6 _ (by omega)).trans m0
      have h_8 : C_4 (62) = .inl (E.2.2.1 1, 698, .inl zf) := (gF6 _ (by omega)).trans h2
      have h_9 : C_4 (63) = .inl (E.2.2.1 1, 698, .inl zq6) := hq6
      have h_10 : C_4 (64) = .inl (E.2.2.1 1, 2792, .inl zp) := (gF6 _ (by omega)).trans h4
      have h_11 : C_4 (65) = .inl (E.2.2.1 1, 698, .inl zs) := (gF6 _ (by omega)).trans h5
      have h_12 : C_4 (66) = .inl (E.2.2.1 1, 80, .inl zx) := (gF6 _ (by omega)).trans h6
      have h_13 : C_4 (67) = .inl (E.2.2.1 1, 84, .inl zl) := (gF6 _ (by omega)).trans h7
      refine y_iload_n X dX5_kind_43 2 rfl ?_
      refine y_iconst X (v := (0)) dX5_kind_44 (by decide) ?_
      refine y_iconst X (v := (2)) dX5_kind_45 (by decide) ?_
      refine y_callJr X (av := [.int kd, .int (0), .int (2)]) [] 3 (c_X5_inN (x := kd) (z := (2)) (n := 3) (by decide)) gX5_kind_X5_in rfl (by decide +kernel) rfl ⟨Nat.le_of_ble_eq_true rfl, Nat.le_of_ble_eq_true rfl⟩ ⟨Nat.zero_le _, Nat.zero_le _⟩ (Nat.le_of_ble_eq_true rfl) rfl dX5_kind_46 ?_
      refine y_if_eq X 68 (¬ (xin kd 3)) dX5_kind_49 (by decide) bI_eq (fun c_14 => ?_) (fun c_14 => ?_)
      ·
        refine y_sipush X (v := (-10002)) dX5_kind_68 (by decide) ?_
        exact y_iret X hr dX5_kind_71 rfl (by have ez : sKind T (nI j) kd = ((-10002), T) := (by rw [sKind, if_pos ⟨c_1, by rw [ix_nI (by omega)]; exact c_2⟩, if_neg c_14]); rw [ez]; exact ⟨rfl, MX_err (by decide) ⟨_, _, _, _, _, _, _, _, _, h_7, h_8, h_9, h_10, h_11, h_12, h_13, gRT, gPH, gSN, gTX⟩, (fun i9 g9 => by rw [gF6 i9 (by omega)])⟩)
      ·
        have c_14 := Decidable.of_not_not c_14
        refine y_aload_n X dX5_kind_52 0 rfl ?_
        refine y_aload_n X dX5_kind_53 0 rfl ?_
        refine y_get X (61) 5 1 (Cn := RX5) (T := TX5) (N := 14) (index := 13) (v := .ref (E.2.1 (63))) dX5_kind_54 (by omega) h_7 rfl (by decide) inX5 (by decide +kernel : Cond.fieldLink RX5 13 "ColumnSeasonsModel" "then" "[I" ∈ wsX5_kind) rfl rfl ?_
        refine y_iload_n X dX5_kind_57 1 rfl ?_
        refine y_iload_n X dX5_kind_58 2 rfl ?_
        have gT2 : RM E C_4 63 T := ⟨_, h_9, RTm_ext gv.1 gRT (fun z q1 => by rw [gA6 z (by omega) (by omega)]; exact congrArg zf (by omega))⟩
        refine y_callJ X (av := [.ref (E.2.1 (63)), .int (nI (j)), .int kd]) [.ref (E.2.1 (61))] 3 (c_X5_turns (a := 63) (T := T) (j := j) (kd := kd) (by omega) gT2 gv gj c_14) gX5_kind_X5_turns rfl (by decide +kernel) rfl ⟨Nat.le_of_ble_eq_true rfl, Nat.le_of_ble_eq_true rfl⟩ ⟨Nat.zero_le _, Nat.zero_le _⟩ (Nat.le_of_ble_eq_true rfl) rfl dX5_kind_59 (fun v_15 C_16 hp_17 => ?_)
        obtain ⟨gv9, ⟨zt18, ht18, gR2⟩, gF18⟩ := hp_17
        subst gv9
        have h_19 : C_16 (61) = .inr (5, [.ref (E.2.1 (62)), .ref (E.2.1 (63)), .ref (E.2.1 (64)), .int (nI (hn)), .ref (E.2.1 (65)), .int (flg sn), .ref (E.2.1 (66)), .int (nI (ln)), .int pa, .int va, .int (soM sp), .int (seM sp), .ref (E.2.1 (67)), .int tl]) := (gF18 _ (by omega)).trans h_7
        have h_20 : C_16 (62) = .inl (E.2.2.1 1, 698, .inl zf) := (gF18 _ (by omega)).trans h_8
        have h_21 : C_16 (63) = .inl (E.2.2.1 1, 698, .inl zt18) := ht18
        have h_22 : C_16 (64) = .inl (E.2.2.1 1, 2792, .inl zp) := (gF18 _ (by omega)).trans h_10
        have h_23 : C_16 (65) = .inl (E.2.2.1 1, 698, .inl zs) := (gF18 _ (by omega)).trans h_11
        have h_24 : C_16 (66) = .inl (E.2.2.1 1, 80, .inl zx) := (gF18 _ (by omega)).trans h_12
        have h_25 : C_16 (67) = .inl (E.2.2.1 1, 84, .inl zl) := (gF18 _ (by omega)).trans h_13
        refine y_callV X (61) 5 (av := [.int (aKind T j kd).1]) [] 1 (c_X5_done (T := T) (T2 := (aKind T j kd).2) (r0 := (aKind T j kd).1) gv (WF_aKind gv gj c_14) gWH gn4 h_19 h_20 h_21 h_22 gRT gR2 gPH) (by omega) h_19 rfl gX5_kind_X5_done rfl (by decide +kernel) rfl ⟨Nat.le_of_ble_eq_true rfl, Nat.le_of_ble_eq_true rfl⟩ ⟨Nat.zero_le _, Nat.zero_le _⟩ (Nat.le_of_ble_eq_true rfl) rfl dX5_kind_62 (fun v_26 C_27 hp_28 => ?_)
        obtain ⟨gv9, gDN⟩ := hp_28
        subst gv9
        refine y_goto X 71 dX5_kind_65 (by decide) ?_
        exact y_iret X hr dX5_kind_71 rfl (by rw [sKind_a gj c_14]; exact ⟨rfl, MX_done (r := aKind T j kd) h_19 h_20 h_21 h_22 h_23 h_24 h_25 gRT gPH gSN gTX gDN, (fun i9 g9 => by rw [DN_fr gDN i9 (by omega)]; rw [gF18 i9 (by omega)]; rw [gF6 i9 (by omega)])⟩)
    ·
      have c_2 := Decidable.of_not_not c_2
      refine y_sipush X (v := (-10001)) dX5_kind_26 (by decide) ?_
      exact y_iret X hr dX5_kind_29 rfl (by have ez : sKind T (nI j) kd = ((-10001), T) := (by rw [sKind, if_neg (fun z => z.2 (by rw [ix_nI (by omega)]; first | exact c_2 | exact Decidable.of_not_not c_2))]); rw [ez]; exact ⟨rfl, MX_err (by decide) ⟨_, _, _, _, _, _, _, _, _, m0, h2, h3, h4, h5, h6, h7, gRT, gPH, gSN, gTX⟩, (fun _ _ => rfl)⟩)

set_option maxRecDepth 100000 in
set_option maxHeartbeats 4000000 in
theorem c_X5_row {l : Launch} {E : xE} {C : xC} {T : Tb} {hh : Nat → Tb} {hn : Nat} {sn : Option Tb} {tx : Nat → Int32} {ln : Nat} {sp : Option (Nat × Int32)} (gM : MX E C T hh hn sn tx ln sp) (gW : WX T hh hn sn tx ln sp) : xM E l yX5_row wsX5_row 3 66 [.ref (E.2.1 (61))] C (fun v C1 => v = some (.int ((sRow T).1)) ∧ MX E C1 (acT (sRow T) T) (acH (sRow T) T hh hn) (acN (sRow T) hn) (sn) (tx) (ln) (sp) ∧ (∀ i : Nat, i < 61 → C1 i = C i)) := by
  obtain ⟨zf, zt, zp, zs, zx, zl, pa, va, tl, m0, h2, h3, h4, h5, h6, h7, gRT, gPH, gSN, gTX⟩ := id gM
  obtain ⟨gv, gn4, gWH, gWS, gl80, gch, gsp⟩ := id gW
  have gT : RM E C 62 T := ⟨zf, h2, gRT⟩
  obtain ⟨gw1, gw2, gw3, gw4⟩ := id gv.1
  refine xM_ofY (cc := cX5_row) (maxL := 1) (ret := (some .int)) (by decide) rfl (Nat.le_of_ble_eq_true rfl) ?_
  intro p e s m args below meth c X hr
  have inX5 : ∀ w ∈ wsX50, w ∈ wsX5_row := by decide +kernel
  refine y_lv [(0, .ref (E.2.1 (61)))] rfl ?_
  refine y_aload_n X dX5_row_0 0 rfl ?_
  refine y_get X (61) 5 0 (Cn := RX5) (T := TX5) (N := 14) (index := 7) (v := .ref (E.2.1 (62))) dX5_row_1 (by omega) m0 rfl (by decide) inX5 (by decide +kernel : Cond.fieldLink RX5 7 "ColumnSeasonsModel" "now" "[I" ∈ wsX5_row) rfl rfl ?_
  refine y_iconst X (v := (0)) dX5_row_4 (by decide) ?_
  refine y_aload_n X dX5_row_5 0 rfl ?_
  refine y_get X (61) 5 1 (Cn := RX5) (T := TX5) (N := 14) (index := 13) (v := .ref (E.2.1 (63))) dX5_row_6 (by omega) m0 rfl (by decide) inX5 (by decide +kernel : Cond.fieldLink RX5 13 "ColumnSeasonsModel" "then" "[I" ∈ wsX5_row) rfl rfl ?_
  refine y_iconst X (v := (0)) dX5_row_9 (by decide) ?_
  refine y_callJ X (av := [.ref (E.2.1 (62)), .int (0), .ref (E.2.1 (63)), .int (0)]) [] 4 (c_X5_copies (a := 62) (b2 := 63) (x := 0) (y := 0) (by omega) (by omega) (by omega) (by omega) (by omega) (by omega) (by omega) h2 h3) gX5_row_X5_copies rfl (by decide +kernel) rfl ⟨Nat.le_of_ble_eq_true rfl, Nat.le_of_ble_eq_true rfl⟩ ⟨Nat.zero_le _, Nat.zero_le _⟩ (Nat.le_of_ble_eq_true rfl) rfl dX5_row_10 (fun v_1 C_2 hp_3 => ?_)
  obtain ⟨gv9, ⟨zq4, hq4, gA4, gB4⟩, gF4⟩ := hp_3
  subst gv9
  have h_5 : C_2 (61) = .inr (5, [.ref (E.2.1 (62)), .ref (E.2.1 (63)), .ref (E.2.1 (64)), .int (nI (hn)), .ref (E.2.1 (65)), .int (flg sn), .ref (E.2.1 (66)), .int (nI (ln)), .int pa, .int va, .int (soM sp), .int (seM sp), .ref (E.2.1 (67)), .int tl]) := (gF4 _ (by omega)).trans m0
  have h_6 : C_2 (62) = .inl (E.2.2.1 1, 698, .inl zf) := (gF4 _ (by omega)).trans h2
  have h_7 : C_2 (63) = .inl (E.2.2.1 1, 698, .inl zq4) := hq4
  have h_8 : C_2 (64) = .inl (E.2.2.1 1, 2792, .inl zp) := (gF4 _ (by omega)).trans h4
  have h_9 : C_2 (65) = .inl (E.2.2.1 1, 698, .inl zs) := (gF4 _ (by omega)).trans h5
  have h_10 : C_2 (66) = .inl (E.2.2.1 1, 80, .inl zx) := (gF4 _ (by omega)).trans h6
  have h_11 : C_2 (67) = .inl (E.2.2.1 1, 84, .inl zl) := (gF4 _ (by omega)).trans h7
  refine y_aload_n X dX5_row_13 0 rfl ?_
  refine y_aload_n X dX5_row_14 0 rfl ?_
  refine y_get X (61) 5 1 (Cn := RX5) (T := TX5) (N := 14) (index := 13) (v := .ref (E.2.1 (63))) dX5_row_15 (by omega) h_5 rfl (by decide) inX5 (by decide +kernel : Cond.fieldLink RX5 13 "ColumnSeasonsModel" "then" "[I" ∈ wsX5_row) rfl rfl ?_
  have gT2 : RM E C_2 63 T := ⟨_, h_7, RTm_ext gv.1 gRT (fun z q1 => by rw [gA4 z (by omega) (by omega)]; exact congrArg zf (by omega))⟩
  refine y_callJ X (av := [.ref (E.2.1 (63))]) [.ref (E.2.1 (61))] 1 (c_X5_writes (a := 63) (T := T)  (by omega) gT2 gv ) gX5_row_X5_writes rfl (by decide +kernel) rfl ⟨Nat.le_of_ble_eq_true rfl, Nat.le_of_ble_eq_true rfl⟩ ⟨Nat.zero_le _, Nat.zero_le _⟩ (Nat.le_of_ble_eq_true rfl) rfl dX5_row_18 (fun v_12 C_13 hp_14 => ?_)
  obtain ⟨gv9, ⟨zt15, ht15, gR2⟩, gF15⟩ := hp_14
  subst gv9
  have h_16 : C_13 (61) = .inr (5, [.ref (E.2.1 (62)), .ref (E.2.1 (63)), .ref (E.2.1 (64)), .int (nI (hn)), .ref (E.2.1 (65)), .int (flg sn), .ref (E.2.1 (66)), .int (nI (ln)), .int pa, .int va, .int (soM sp), .int (seM sp), .ref (E.2.1 (67)), .int tl]) := (gF15 _ (by omega)).trans h_5
  have h_17 : C_13 (62) = .inl (E.2.2.1 1, 698, .inl zf) := (gF15 _ (by omega)).trans h_6
  have h_18 : C_13 (63) = .inl (E.2.2.1 1, 698, .inl zt15) := ht15
  have h_19 : C_13 (64) = .inl (E.2.2.1 1, 2792, .inl zp) := (gF15 _ (by omega)).trans h_8
  have h_20 : C_13 (65) = .inl (E.2.2.1 1, 698, .inl zs) := (gF15 _ (by omega)).trans h_9
  have h_21 : C_13 (66) = .inl (E.2.2.1 1, 80, .inl zx) := (gF15 _ (by omega)).trans h_10
  have h_22 : C_13 (67) = .inl (E.2.2.1 1, 84, .inl zl) := (gF15 _ (by omega)).trans h_11
  refine y_callV X (61) 5 (av := [.int (sRow T).1]) [] 1 (c_X5_done (T := T) (T2 := (sRow T).2) (r0 := (sRow T).1) gv (WF_sRow gv) gWH gn4 h_16 h_17 h_18 h_19 gRT gR2 gPH) (by omega) h_16 rfl gX5_row_X5_done rfl (by decide +kernel) rfl ⟨Nat.le_of_ble_eq_true rfl, Nat.le_of_ble_eq_true rfl⟩ ⟨Nat.zero_le _, Nat.zero_le _⟩ (Nat.le_of_ble_eq_true rfl) rfl dX5_row_21 (fun v_23 C_24 hp_25 => ?_)
  obtain ⟨gv9, gDN⟩ := hp_25
  subst gv9
  exact y_iret X hr dX5_row_24 rfl ⟨rfl, MX_done (r := sRow T) h_16 h_17 h_18 h_19 h_20 h_21 h_22 gRT gPH gSN gTX gDN, (fun i9 g9 => by rw [DN_fr gDN i9 (by omega)]; rw [gF15 i9 (by omega)]; rw [gF4 i9 (by omega)])⟩

set_option maxRecDepth 100000 in
set_option maxHeartbeats 4000000 in
theorem c_X5_set {l : Launch} {E : xE} {C : xC} {T : Tb} {hh : Nat → Tb} {hn : Nat} {sn : Option Tb} {tx : Nat → Int32} {ln : Nat} {sp : Option (Nat × Int32)} (gM : MX E C T hh hn sn tx ln sp) (gW : WX T hh hn sn tx ln sp) {x y v0 : Int32} : xM E l yX5_set wsX5_set 3 69 [.ref (E.2.1 (61)), .int x, .int y, .int v0] C (fun v C1 => v = some (.int ((sSet T x y v0).1)) ∧ MX E C1 (acT (sSet T x y v0) T) (acH (sSet T x y v0) T hh hn) (acN (sSet T x y v0) hn) (sn) (tx) (ln) (sp) ∧ (∀ i : Nat, i < 61 → C1 i = C i)) := by
  obtain ⟨zf, zt, zp, zs, zx, zl, pa, va, tl, m0, h2, h3, h4, h5, h6, h7, gRT, gPH, gSN, gTX⟩ := id gM
  obtain ⟨gv, gn4, gWH, gWS, gl80, gch, gsp⟩ := id gW
  have gT : RM E C 62 T := ⟨zf, h2, gRT⟩
  obtain ⟨gw1, gw2, gw3, gw4⟩ := id gv.1
  refine xM_ofY (cc := cX5_set) (maxL := 4) (ret := (some .int)) (by decide) rfl (Nat.le_of_ble_eq_true rfl) ?_
  intro p e s m args below meth c X hr
  have inX5 : ∀ w ∈ wsX50, w ∈ wsX5_set := by decide +kernel
  refine y_lv [(0, .ref (E.2.1 (61))), (1, .int x), (2, .int y), (3, .int v0)] rfl ?_
  refine y_aload_n X dX5_set_0 0 rfl ?_
  refine y_get X (61) 5 0 (Cn := RX5) (T := TX5) (N := 14) (index := 7) (v := .ref (E.2.1 (62))) dX5_set_1 (by omega) m0 rfl (by decide) inX5 (by decide +kernel : Cond.fieldLink RX5 7 "ColumnSeasonsModel" "now" "[I" ∈ wsX5_set) rfl rfl ?_
  refine y_iconst X (v := (0)) dX5_set_4 (by decide) ?_
  refine y_aload_n X dX5_set_5 0 rfl ?_
  refine y_get X (61) 5 1 (Cn := RX5) (T := TX5) (N := 14) (index := 13) (v := .ref (E.2.1 (63))) dX5_set_6 (by omega) m0 rfl (by decide) inX5 (by decide +kernel : Cond.fieldLink RX5 13 "ColumnSeasonsModel" "then" "[I" ∈ wsX5_set) rfl rfl ?_
  refine y_iconst X (v := (0)) dX5_set_9 (by decide) ?_
  refine y_callJ X (av := [.ref (E.2.1 (62)), .int (0), .ref (E.2.1 (63)), .int (0)]) [] 4 (c_X5_copies (a := 62) (b2 := 63) (x := 0) (y := 0) (by omega) (by omega) (by omega) (by omega) (by omega) (by omega) (by omega) h2 h3) gX5_set_X5_copies rfl (by decide +kernel) rfl ⟨Nat.le_of_ble_eq_true rfl, Nat.le_of_ble_eq_true rfl⟩ ⟨Nat.zero_le _, Nat.zero_le _⟩ (Nat.le_of_ble_eq_true rfl) rfl dX5_set_10 (fun v_1 C_2 hp_3 => ?_)
  obtain ⟨gv9, ⟨zq4, hq4, gA4, gB4⟩, gF4⟩ := hp_3
  subst gv9
  have h_5 : C_2 (61) = .inr (5, [.ref (E.2.1 (62)), .ref (E.2.1 (63)), .ref (E.2.1 (64)), .int (nI (hn)), .ref (E.2.1 (65)), .int (flg sn), .ref (E.2.1 (66)), .int (nI (ln)), .int pa, .int va, .int (soM sp), .int (seM sp), .ref (E.2.1 (67)), .int tl]) := (gF4 _ (by omega)).trans m0
  have h_6 : C_2 (62) = .inl (E.2.2.1 1, 698, .inl zf) := (gF4 _ (by omega)).trans h2
  have h_7 : C_2 (63) = .inl (E.2.2.1 1, 698, .inl zq4) := hq4
  have h_8 : C_2 (64) = .inl (E.2.2.1 1, 2792, .inl zp) := (gF4 _ (by omega)).trans h4
  have h_9 : C_2 (65) = .inl (E.2.2.1 1, 698, .inl zs) := (gF4 _ (by omega)).trans h5
  have h_10 : C_2 (66) = .inl (E.2.2.1 1, 80, .inl zx) := (gF4 _ (by omega)).trans h6
  have h_11 : C_2 (67) = .inl (E.2.2.1 1, 84, .inl zl) := (gF4 _ (by omega)).trans h7
  refine y_aload_n X dX5_set_13 0 rfl ?_
  refine y_aload_n X dX5_set_14 0 rfl ?_
  refine y_get X (61) 5 1 (Cn := RX5) (T := TX5) (N := 14) (index := 13) (v := .ref (E.2.1 (63))) dX5_set_15 (by omega) h_5 rfl (by decide) inX5 (by decide +kernel : Cond.fieldLink RX5 13 "ColumnSeasonsModel" "then" "[I" ∈ wsX5_set) rfl rfl ?_
  refine y_iload_n X dX5_set_18 1 rfl ?_
  refine y_iload_n X dX5_set_19 2 rfl ?_
  refine y_iload_n X dX5_set_20 3 rfl ?_
  have gT2 : RM E C_2 63 T := ⟨_, h_7, RTm_ext gv.1 gRT (fun z q1 => by rw [gA4 z (by omega) (by omega)]; exact congrArg zf (by omega))⟩
  refine y_callJ X (av := [.ref (E.2.1 (63)), .int x, .int y, .int v0]) [.ref (E.2.1 (61))] 4 (c_X5_sets (a := 63) (T := T) (x := x) (y := y) (v0 := v0) (by omega) gT2 gv ) gX5_set_X5_sets rfl (by decide +kernel) rfl ⟨Nat.le_of_ble_eq_true rfl, Nat.le_of_ble_eq_true rfl⟩ ⟨Nat.zero_le _, Nat.zero_le _⟩ (Nat.le_of_ble_eq_true rfl) rfl dX5_set_21 (fun v_12 C_13 hp_14 => ?_)
  obtain ⟨gv9, ⟨zt15, ht15, gR2⟩, gF15⟩ := hp_14
  subst gv9
  have h_16 : C_13 (61) = .inr (5, [.ref (E.2.1 (62)), .ref (E.2.1 (63)), .ref (E.2.1 (64)), .int (nI (hn)), .ref (E.2.1 (65)), .int (flg sn), .ref (E.2.1 (66)), .int (nI (ln)), .int pa, .int va, .int (soM sp), .int (seM sp), .ref (E.2.1 (67)), .int tl]) := (gF15 _ (by omega)).trans h_5
  have h_17 : C_13 (62) = .inl (E.2.2.1 1, 698, .inl zf) := (gF15 _ (by omega)).trans h_6
  have h_18 : C_13 (63) = .inl (E.2.2.1 1, 698, .inl zt15) := ht15
  have h_19 : C_13 (64) = .inl (E.2.2.1 1, 2792, .inl zp) := (gF15 _ (by omega)).trans h_8
  have h_20 : C_13 (65) = .inl (E.2.2.1 1, 698, .inl zs) := (gF15 _ (by omega)).trans h_9
  have h_21 : C_13 (66) = .inl (E.2.2.1 1, 80, .inl zx) := (gF15 _ (by omega)).trans h_10
  have h_22 : C_13 (67) = .inl (E.2.2.1 1, 84, .inl zl) := (gF15 _ (by omega)).trans h_11
  refine y_callV X (61) 5 (av := [.int (sSet T x y v0).1]) [] 1 (c_X5_done (T := T) (T2 := (sSet T x y v0).2) (r0 := (sSet T x y v0).1) gv (WF_sSet gv) gWH gn4 h_16 h_17 h_18 h_19 gRT gR2 gPH) (by omega) h_16 rfl gX5_set_X5_done rfl (by decide +kernel) rfl ⟨Nat.le_of_ble_eq_true rfl, Nat.le_of_ble_eq_true rfl⟩ ⟨Nat.zero_le _, Nat.zero_le _⟩ (Nat.le_of_ble_eq_true rfl) rfl dX5_set_24 (fun v_23 C_24 hp_25 => ?_)
  obtain ⟨gv9, gDN⟩ := hp_25
  subst gv9
  exact y_iret X hr dX5_set_27 rfl ⟨rfl, MX_done (r := sSet T x y v0) h_16 h_17 h_18 h_19 h_20 h_21 h_22 gRT gPH gSN gTX gDN, (fun i9 g9 => by rw [DN_fr gDN i9 (by omega)]; rw [gF15 i9 (by omega)]; rw [gF4 i9 (by omega)])⟩

set_option maxRecDepth 100000 in
set_option maxHeartbeats 4000000 in
theorem c_X5_undo {l : Launch} {E : xE} {C : xC} {T : Tb} {hh : Nat → Tb} {hn : Nat} {sn : Option Tb} {tx : Nat → Int32} {ln : Nat} {sp : Option (Nat × Int32)} (gM : MX E C T hh hn sn tx ln sp) (gW : WX T hh hn sn tx ln sp) : xM E l yX5_undo wsX5_undo 1 24 [.ref (E.2.1 (61))] C (fun v C1 => v = some (.int (if hn = 0 then -10005 else nI (hn - 1))) ∧ MX E C1 (if hn = 0 then T else hh (hn - 1)) (hh) (hn - 1) (sn) (tx) (ln) (sp) ∧ (∀ i : Nat, i < 61 → C1 i = C i)) := by
  obtain ⟨zf, zt, zp, zs, zx, zl, pa, va, tl, m0, h2, h3, h4, h5, h6, h7, gRT, gPH, gSN, gTX⟩ := id gM
  obtain ⟨gv, gn4, gWH, gWS, gl80, gch, gsp⟩ := id gW
  have gT : RM E C 62 T := ⟨zf, h2, gRT⟩
  obtain ⟨gw1, gw2, gw3, gw4⟩ := id gv.1
  refine xM_ofY (cc := cX5_undo) (maxL := 1) (ret := (some .int)) (by decide) rfl (Nat.le_of_ble_eq_true rfl) ?_
  intro p e s m args below meth c X hr
  have inX5 : ∀ w ∈ wsX50, w ∈ wsX5_undo := by decide +kernel
  refine y_lv [(0, .ref (E.2.1 (61)))] rfl ?_
  refine y_aload_n X dX5_undo_0 0 rfl ?_
  refine y_get X (61) 5 3 (Cn := RX5) (T := TX5) (N := 14) (index := 39) (v := .int (nI (hn))) dX5_undo_1 (by omega) m0 rfl (by decide) inX5 (by decide +kernel : Cond.fieldLink RX5 39 "ColumnSeasonsModel" "kept" "I" ∈ wsX5_undo) rfl rfl ?_
  refine y_if_ne X 11 (¬ ((hn) = (0))) dX5_undo_4 (by decide) (cNe (nI_eq (a := hn) (b := 0) (by omega) (by omega))) (fun c_1 => ?_) (fun c_1 => ?_)
  ·
    refine y_aload_n X dX5_undo_11 0 rfl ?_
    refine y_dup X dX5_undo_12 rfl ?_
    refine y_get X (61) 5 3 (Cn := RX5) (T := TX5) (N := 14) (index := 39) (v := .int (nI (hn))) dX5_undo_13 (by omega) m0 rfl (by decide) inX5 (by decide +kernel : Cond.fieldLink RX5 39 "ColumnSeasonsModel" "kept" "I" ∈ wsX5_undo) rfl rfl ?_
    refine y_iconst X (v := (1)) dX5_undo_16 (by decide) ?_
    refine y_isub X (z := (nI ((hn) - (1)))) dX5_undo_17 (pk_sub (a := hn) (b := 1) (by omega)) ?_
    refine y_put X (61) 5 3 (Cn := RX5) (T := TX5) (N := 14) (index := 39) tyX5 (v := .int (nI ((hn) - (1)))) dX5_undo_18 (by omega) m0 rfl (by decide) inX5 (by decide +kernel : Cond.fieldLink RX5 39 "ColumnSeasonsModel" "kept" "I" ∈ wsX5_undo) rfl tyX5_ok nmX5 rfl rfl rfl (Nat.le_of_ble_eq_true rfl) ?_
    refine y_mem (va_up C (61) (.inr (5, [.ref (E.2.1 (62)), .ref (E.2.1 (63)), .ref (E.2.1 (64)), .int (nI ((hn) - (1))), .ref (E.2.1 (65)), .int (flg sn), .ref (E.2.1 (66)), .int (nI (ln)), .int pa, .int va, .int (soM sp), .int (seM sp), .ref (E.2.1 (67)), .int tl]))) rfl (fun C_2 eC_3 => ?_)
    have h_4 : C_2 (61) = .inr (5, [.ref (E.2.1 (62)), .ref (E.2.1 (63)), .ref (E.2.1 (64)), .int (nI ((hn) - (1))), .ref (E.2.1 (65)), .int (flg sn), .ref (E.2.1 (66)), .int (nI (ln)), .int pa, .int va, .int (soM sp), .int (seM sp), .ref (E.2.1 (67)), .int tl]) := by rw [eC_3, va_up, if_pos rfl]
    have h_5 : C_2 (62) = .inl (E.2.2.1 1, 698, .inl zf) := by rw [eC_3, va_up, if_neg (by omega)]; exact h2
    have h_6 : C_2 (63) = .inl (E.2.2.1 1, 698, .inl zt) := by rw [eC_3, va_up, if_neg (by omega)]; exact h3
    have h_7 : C_2 (64) = .inl (E.2.2.1 1, 2792, .inl zp) := by rw [eC_3, va_up, if_neg (by omega)]; exact h4
    have h_8 : C_2 (65) = .inl (E.2.2.1 1, 698, .inl zs) := by rw [eC_3, va_up, if_neg (by omega)]; exact h5
    have h_9 : C_2 (66) = .inl (E.2.2.1 1, 80, .inl zx) := by rw [eC_3, va_up, if_neg (by omega)]; exact h6
    have h_10 : C_2 (67) = .inl (E.2.2.1 1, 84, .inl zl) := by rw [eC_3, va_up, if_neg (by omega)]; exact h7
    refine y_aload_n X dX5_undo_21 0 rfl ?_
    refine y_get X (61) 5 2 (Cn := RX5) (T := TX5) (N := 14) (index := 16) (v := .ref (E.2.1 (64))) dX5_undo_22 (by omega) h_4 rfl (by decide) inX5 (by decide +kernel : Cond.fieldLink RX5 16 "ColumnSeasonsModel" "past" "[I" ∈ wsX5_undo) rfl rfl ?_
    refine y_sipush X (v := (698)) dX5_undo_25 (by decide) ?_
    refine y_aload_n X dX5_undo_28 0 rfl ?_
    refine y_get X (61) 5 3 (Cn := RX5) (T := TX5) (N := 14) (index := 39) (v := .int (nI ((hn) - (1)))) dX5_undo_29 (by omega) h_4 rfl (by decide) inX5 (by decide +kernel : Cond.fieldLink RX5 39 "ColumnSeasonsModel" "kept" "I" ∈ wsX5_undo) rfl rfl ?_
    refine y_imul X (z := (nI ((698) * ((hn) - (1))))) dX5_undo_32 (pk_mul (698) ((hn) - (1))) ?_
    refine y_aload_n X dX5_undo_33 0 rfl ?_
    refine y_get X (61) 5 0 (Cn := RX5) (T := TX5) (N := 14) (index := 7) (v := .ref (E.2.1 (62))) dX5_undo_34 (by omega) h_4 rfl (by decide) inX5 (by decide +kernel : Cond.fieldLink RX5 7 "ColumnSeasonsModel" "now" "[I" ∈ wsX5_undo) rfl rfl ?_
    refine y_iconst X (v := (0)) dX5_undo_37 (by decide) ?_
    refine y_callJ X (av := [.ref (E.2.1 (64)), .int (nI ((698) * ((hn) - (1)))), .ref (E.2.1 (62)), .int (0)]) [] 4 (c_X5_copies (a := 64) (b2 := 62) (x := (698) * ((hn) - (1))) (y := 0) (by omega) (by omega) (by omega) (by omega) (by omega) (by omega) (by omega) h_7 h_5) gX5_undo_X5_copies rfl (by decide +kernel) rfl ⟨Nat.le_of_ble_eq_true rfl, Nat.le_of_ble_eq_true rfl⟩ ⟨Nat.zero_le _, Nat.zero_le _⟩ (Nat.le_of_ble_eq_true rfl) rfl dX5_undo_38 (fun v_11 C_12 hp_13 => ?_)
    obtain ⟨gv9, ⟨zq14, hq14, gA14, gB14⟩, gF14⟩ := hp_13
    subst gv9
    have h_15 : C_12 (61) = .inr (5, [.ref (E.2.1 (62)), .ref (E.2.1 (63)), .ref (E.2.1 (64)), .int (nI ((hn) - (1))), .ref (E.2.1 (65)), .int (flg sn), .ref (E.2.1 (66)), .int (nI (ln)), .int pa, .int va, .int (soM sp), .int (seM sp), .ref (E.2.1 (67)), .int tl]) := (gF14 _ (by omega)).trans h_4
    have h_16 : C_12 (62) = .inl (E.2.2.1 1, 698, .inl zq14) := hq14
    have h_17 : C_12 (63) = .inl (E.2.2.1 1, 698, .inl zt) := (gF14 _ (by omega)).trans h_6
    have h_18 : C_12 (64) = .inl (E.2.2.1 1, 2792, .inl zp) := (gF14 _ (by omega)).trans h_7
    have h_19 : C_12 (65) = .inl (E.2.2.1 1, 698, .inl zs) := (gF14 _ (by omega)).trans h_8
    have h_20 : C_12 (66) = .inl (E.2.2.1 1, 80, .inl zx) := (gF14 _ (by omega)).trans h_9
    have h_21 : C_12 (67) = .inl (E.2.2.1 1, 84, .inl zl) := (gF14 _ (by omega)).trans h_10
    refine y_aload_n X dX5_undo_41 0 rfl ?_
    refine y_get X (61) 5 3 (Cn := RX5) (T := TX5) (N := 14) (index := 39) (v := .int (nI ((hn) - (1)))) dX5_undo_42 (by omega) h_15 rfl (by decide) inX5 (by decide +kernel : Cond.fieldLink RX5 39 "ColumnSeasonsModel" "kept" "I" ∈ wsX5_undo) rfl rfl ?_
    exact y_iret X hr dX5_undo_45 rfl (by rw [if_neg (by omega), if_neg (by omega)]; exact ⟨rfl, ⟨_, _, _, _, _, _, _, _, _, h_15, h_16, h_17, h_18, h_19, h_20, h_21, (RTm_ext (gWH (hn - 1) (by omega)).1 (gPH (hn - 1) (by omega)) (fun z q1 => by rw [gA14 z (by omega) (by omega)]; exact congrArg zp (by omega))), (fun k q1 => gPH k (by omega)), gSN, gTX⟩, (fun i9 g9 => by rw [gF14 i9 (by omega)]; rw [eC_3, va_up, if_neg (by omega)])⟩)
  ·
    have c_1 := Decidable.of_not_not c_1
    refine y_sipush X (v := (-10005)) dX5_undo_7 (by decide) ?_
    exact y_iret X hr dX5_undo_10 rfl (by have c9 : hn = 0 := (by omega); subst c9; exact ⟨rfl, gM, (fun _ _ => rfl)⟩)

set_option maxRecDepth 100000 in
set_option maxHeartbeats 4000000 in
theorem c_X5_keep {l : Launch} {E : xE} {C : xC} {T : Tb} {hh : Nat → Tb} {hn : Nat} {sn : Option Tb} {tx : Nat → Int32} {ln : Nat} {sp : Option (Nat × Int32)} (gM : MX E C T hh hn sn tx ln sp) (gW : WX T hh hn sn tx ln sp) : xM E l yX5_keep wsX5_keep 1 24 [.ref (E.2.1 (61))] C (fun v C1 => v = some (.int (nI (tr T))) ∧ MX E C1 (T) (hh) (hn) (some T) (tx) (ln) (sp) ∧ (∀ i : Nat, i < 61 → C1 i = C i)) := by
  obtain ⟨zf, zt, zp, zs, zx, zl, pa, va, tl, m0, h2, h3, h4, h5, h6, h7, gRT, gPH, gSN, gTX⟩ := id gM
  obtain ⟨gv, gn4, gWH, gWS, gl80, gch, gsp⟩ := id gW
  have gT : RM E C 62 T := ⟨zf, h2, gRT⟩
  obtain ⟨gw1, gw2, gw3, gw4⟩ := id gv.1
  refine xM_ofY (cc := cX5_keep) (maxL := 1) (ret := (some .int)) (by decide) rfl (Nat.le_of_ble_eq_true rfl) ?_
  intro p e s m args below meth c X hr
  have inX5 : ∀ w ∈ wsX50, w ∈ wsX5_keep := by decide +kernel
  refine y_lv [(0, .ref (E.2.1 (61)))] rfl ?_
  refine y_aload_n X dX5_keep_0 0 rfl ?_
  refine y_get X (61) 5 0 (Cn := RX5) (T := TX5) (N := 14) (index := 7) (v := .ref (E.2.1 (62))) dX5_keep_1 (by omega) m0 rfl (by decide) inX5 (by decide +kernel : Cond.fieldLink RX5 7 "ColumnSeasonsModel" "now" "[I" ∈ wsX5_keep) rfl rfl ?_
  refine y_iconst X (v := (0)) dX5_keep_4 (by decide) ?_
  refine y_aload_n X dX5_keep_5 0 rfl ?_
  refine y_get X (61) 5 4 (Cn := RX5) (T := TX5) (N := 14) (index := 19) (v := .ref (E.2.1 (65))) dX5_keep_6 (by omega) m0 rfl (by decide) inX5 (by decide +kernel : Cond.fieldLink RX5 19 "ColumnSeasonsModel" "snapshot" "[I" ∈ wsX5_keep) rfl rfl ?_
  refine y_iconst X (v := (0)) dX5_keep_9 (by decide) ?_
  refine y_callJ X (av := [.ref (E.2.1 (62)), .int (0), .ref (E.2.1 (65)), .int (0)]) [] 4 (c_X5_copies (a := 62) (b2 := 65) (x := 0) (y := 0) (by omega) (by omega) (by omega) (by omega) (by omega) (by omega) (by omega) h2 h5) gX5_keep_X5_copies rfl (by decide +kernel) rfl ⟨Nat.le_of_ble_eq_true rfl, Nat.le_of_ble_eq_true rfl⟩ ⟨Nat.zero_le _, Nat.zero_le _⟩ (Nat.le_of_ble_eq_true rfl) rfl dX5_keep_10 (fun v_1 C_2 hp_3 => ?_)
  obtain ⟨gv9, ⟨zq4, hq4, gA4, gB4⟩, gF4⟩ := hp_3
  subst gv9
  have h_5 : C_2 (61) = .inr (5, [.ref (E.2.1 (62)), .ref (E.2.1 (63)), .ref (E.2.1 (64)), .int (nI (hn)), .ref (E.2.1 (65)), .int (flg sn), .ref (E.2.1 (66)), .int (nI (ln)), .int pa, .int va, .int (soM sp), .int (seM sp), .ref (E.2.1 (67)), .int tl]) := (gF4 _ (by omega)).trans m0
  have h_6 : C_2 (62) = .inl (E.2.2.1 1, 698, .inl zf) := (gF4 _ (by omega)).trans h2
  have h_7 : C_2 (63) = .inl (E.2.2.1 1, 698, .inl zt) := (gF4 _ (by omega)).trans h3
  have h_8 : C_2 (64) = .inl (E.2.2.1 1, 2792, .inl zp) := (gF4 _ (by omega)).trans h4
  have h_9 : C_2 (65) = .inl (E.2.2.1 1, 698, .inl zq4) := hq4
  have h_10 : C_2 (66) = .inl (E.2.2.1 1, 80, .inl zx) := (gF4 _ (by omega)).trans h6
  have h_11 : C_2 (67) = .inl (E.2.2.1 1, 84, .inl zl) := (gF4 _ (by omega)).trans h7
  refine y_aload_n X dX5_keep_13 0 rfl ?_
  refine y_iconst X (v := (1)) dX5_keep_14 (by decide) ?_
  refine y_put X (61) 5 5 (Cn := RX5) (T := TX5) (N := 14) (index := 46) tyX5 (v := .int (1)) dX5_keep_15 (by omega) h_5 rfl (by decide) inX5 (by decide +kernel : Cond.fieldLink RX5 46 "ColumnSeasonsModel" "isFilled" "Z" ∈ wsX5_keep) rfl tyX5_ok nmX5 rfl rfl rfl (Nat.le_of_ble_eq_true rfl) ?_
  refine y_mem (va_up C_2 (61) (.inr (5, [.ref (E.2.1 (62)), .ref (E.2.1 (63)), .ref (E.2.1 (64)), .int (nI (hn)), .ref (E.2.1 (65)), .int (1), .ref (E.2.1 (66)), .int (nI (ln)), .int pa, .int va, .int (soM sp), .int (seM sp), .ref (E.2.1 (67)), .int tl]))) rfl (fun C_12 eC_13 => ?_)
  have h_14 : C_12 (61) = .inr (5, [.ref (E.2.1 (62)), .ref (E.2.1 (63)), .ref (E.2.1 (64)), .int (nI (hn)), .ref (E.2.1 (65)), .int (1), .ref (E.2.1 (66)), .int (nI (ln)), .int pa, .int va, .int (soM sp), .int (seM sp), .ref (E.2.1 (67)), .int tl]) := by rw [eC_13, va_up, if_pos rfl]
  have h_15 : C_12 (62) = .inl (E.2.2.1 1, 698, .inl zf) := by rw [eC_13, va_up, if_neg (by omega)]; exact h_6
  have h_16 : C_12 (63) = .inl (E.2.2.1 1, 698, .inl zt) := by rw [eC_13, va_up, if_neg (by omega)]; exact h_7
  have h_17 : C_12 (64) = .inl (E.2.2.1 1, 2792, .inl zp) := by rw [eC_13, va_up, if_neg (by omega)]; exact h_8
  have h_18 : C_12 (65) = .inl (E.2.2.1 1, 698, .inl zq4) := by rw [eC_13, va_up, if_neg (by omega)]; exact h_9
  have h_19 : C_12 (66) = .inl (E.2.2.1 1, 80, .inl zx) := by rw [eC_13, va_up, if_neg (by omega)]; exact h_10
  have h_20 : C_12 (67) = .inl (E.2.2.1 1, 84, .inl zl) := by rw [eC_13, va_up, if_neg (by omega)]; exact h_11
  refine y_aload_n X dX5_keep_18 0 rfl ?_
  refine y_get X (61) 5 0 (Cn := RX5) (T := TX5) (N := 14) (index := 7) (v := .ref (E.2.1 (62))) dX5_keep_19 (by omega) h_14 rfl (by decide) inX5 (by decide +kernel : Cond.fieldLink RX5 7 "ColumnSeasonsModel" "now" "[I" ∈ wsX5_keep) rfl rfl ?_
  refine y_iconst X (v := (1)) dX5_keep_22 (by decide) ?_
  refine y_iald X (62) dX5_keep_23 (by omega) h_15 (j := 1) rfl (by omega) (by omega) (z := (nI (tr T))) gRT.2.1 ?_
  exact y_iret X hr dX5_keep_24 rfl ⟨rfl, ⟨_, _, _, _, _, _, _, _, _, h_14, h_15, h_16, h_17, h_18, h_19, h_20, gRT, gPH, (fun S q1 => by cases q1; exact RTm_ext gv.1 gRT (fun z q2 => by rw [gA4 z (by omega) (by omega)]; exact congrArg zf (by omega))), gTX⟩, (fun i9 g9 => by rw [eC_13, va_up, if_neg (by omega)]; rw [gF4 i9 (by omega)])⟩

def rsV (sn : Option Tb) : Int32 := match sn with
  | none => -10005
  | some S => nI (tr S)
def rsT (sn : Option Tb) (T : Tb) : Tb := match sn with
  | none => T
  | some S => S
def rsH (sn : Option Tb) (T : Tb) (hh : Nat → Tb) (hn : Nat) : Nat → Tb := match sn with
  | none => hh
  | some _ => recH hh hn T
def rsN (sn : Option Tb) (hn : Nat) : Nat := match sn with
  | none => hn
  | some _ => recN hn
theorem flg_0 {sn : Option Tb} : flg sn = 0 ↔ sn = none := by
  cases sn with
  | none => exact ⟨fun _ => rfl, fun _ => rfl⟩
  | some S => exact ⟨fun z => absurd z (by show ¬ (1 : Int32) = 0; decide), fun z => by cases z⟩

set_option maxRecDepth 100000 in
set_option maxHeartbeats 4000000 in
theorem c_X5_restore {l : Launch} {E : xE} {C : xC} {T : Tb} {hh : Nat → Tb} {hn : Nat} {sn : Option Tb} {tx : Nat → Int32} {ln : Nat} {sp : Option (Nat × Int32)} (gM : MX E C T hh hn sn tx ln sp) (gW : WX T hh hn sn tx ln sp) : xM E l yX5_restore wsX5_restore 2 45 [.ref (E.2.1 (61))] C (fun v C1 => v = some (.int (rsV sn)) ∧ MX E C1 (rsT sn T) (rsH sn T hh hn) (rsN sn hn) (sn) (tx) (ln) (sp) ∧ (∀ i : Nat, i < 61 → C1 i = C i)) := by
  obtain ⟨zf, zt, zp, zs, zx, zl, pa, va, tl, m0, h2, h3, h4, h5, h6, h7, gRT, gPH, gSN, gTX⟩ := id gM
  obtain ⟨gv, gn4, gWH, gWS, gl80, gch, gsp⟩ := id gW
  have gT : RM E C 62 T := ⟨zf, h2, gRT⟩
  obtain ⟨gw1, gw2, gw3, gw4⟩ := id gv.1
  refine xM_ofY (cc := cX5_restore) (maxL := 1) (ret := (some .int)) (by decide) rfl (Nat.le_of_ble_eq_true rfl) ?_
  intro p e s m args below meth c X hr
  have inX5 : ∀ w ∈ wsX50, w ∈ wsX5_restore := by decide +kernel
  refine y_lv [(0, .ref (E.2.1 (61)))] rfl ?_
  refine y_aload_n X dX5_restore_0 0 rfl ?_
  refine y_get X (61) 5 5 (Cn := RX5) (T := TX5) (N := 14) (index := 46) (v := .int (flg sn)) dX5_restore_1 (by omega) m0 rfl (by decide) inX5 (by decide +kernel : Cond.fieldLink RX5 46 "ColumnSeasonsModel" "isFilled" "Z" ∈ wsX5_restore) rfl rfl ?_
  refine y_if_ne X 11 (¬ sn = none) dX5_restore_4 (by decide) (not_congr flg_0) (fun c_1 => ?_) (fun c_1 => ?_)
  ·
    obtain ⟨S, eS⟩ := Option.ne_none_iff_exists'.mp c_1
    refine y_aload_n X dX5_restore_11 0 rfl ?_
    refine y_callV X (61) 5 (av := []) [] 0 (c_X5_records gv gWH gn4 m0 h2 h4 gRT gPH) (by omega) m0 rfl gX5_restore_X5_records rfl (by decide +kernel) rfl ⟨Nat.le_of_ble_eq_true rfl, Nat.le_of_ble_eq_true rfl⟩ ⟨Nat.zero_le _, Nat.zero_le _⟩ (Nat.le_of_ble_eq_true rfl) rfl dX5_restore_12 (fun v_2 C_3 hp_4 => ?_)
    obtain ⟨gv9, hr5, ⟨zq5, hq5, gP5⟩, gF5⟩ := hp_4
    subst gv9
    have h_6 : C_3 (61) = .inr (5, [.ref (E.2.1 (62)), .ref (E.2.1 (63)), .ref (E.2.1 (64)), .int (nI (recN hn)), .ref (E.2.1 (65)), .int (flg sn), .ref (E.2.1 (66)), .int (nI (ln)), .int pa, .int va, .int (soM sp), .int (seM sp), .ref (E.2.1 (67)), .int tl]) := hr5
    have h_7 : C_3 (62) = .inl (E.2.2.1 1, 698, .inl zf) := (gF5 _ (by omega) (by omega)).trans h2
    have h_8 : C_3 (63) = .inl (E.2.2.1 1, 698, .inl zt) := (gF5 _ (by omega) (by omega)).trans h3
    have h_9 : C_3 (64) = .inl (E.2.2.1 1, 2792, .inl zq5) := hq5
    have h_10 : C_3 (65) = .inl (E.2.2.1 1, 698, .inl zs) := (gF5 _ (by omega) (by omega)).trans h5
    have h_11 : C_3 (66) = .inl (E.2.2.1 1, 80, .inl zx) := (gF5 _ (by omega) (by omega)).trans h6
    have h_12 : C_3 (67) = .inl (E.2.2.1 1, 84, .inl zl) := (gF5 _ (by omega) (by omega)).trans h7
    refine y_aload_n X dX5_restore_15 0 rfl ?_
    refine y_get X (61) 5 4 (Cn := RX5) (T := TX5) (N := 14) (index := 19) (v := .ref (E.2.1 (65))) dX5_restore_16 (by omega) h_6 rfl (by decide) inX5 (by decide +kernel : Cond.fieldLink RX5 19 "ColumnSeasonsModel" "snapshot" "[I" ∈ wsX5_restore) rfl rfl ?_
    refine y_iconst X (v := (0)) dX5_restore_19 (by decide) ?_
    refine y_aload_n X dX5_restore_20 0 rfl ?_
    refine y_get X (61) 5 0 (Cn := RX5) (T := TX5) (N := 14) (index := 7) (v := .ref (E.2.1 (62))) dX5_restore_21 (by omega) h_6 rfl (by decide) inX5 (by decide +kernel : Cond.fieldLink RX5 7 "ColumnSeasonsModel" "now" "[I" ∈ wsX5_restore) rfl rfl ?_
    refine y_iconst X (v := (0)) dX5_restore_24 (by decide) ?_
    refine y_callJ X (av := [.ref (E.2.1 (65)), .int (0), .ref (E.2.1 (62)), .int (0)]) [] 4 (c_X5_copies (a := 65) (b2 := 62) (x := 0) (y := 0) (by omega) (by omega) (by omega) (by omega) (by omega) (by omega) (by omega) h_10 h_7) gX5_restore_X5_copies rfl (by decide +kernel) rfl ⟨Nat.le_of_ble_eq_true rfl, Nat.le_of_ble_eq_true rfl⟩ ⟨Nat.zero_le _, Nat.zero_le _⟩ (Nat.le_of_ble_eq_true rfl) rfl dX5_restore_25 (fun v_13 C_14 hp_15 => ?_)
    obtain ⟨gv9, ⟨zq16, hq16, gA16, gB16⟩, gF16⟩ := hp_15
    subst gv9
    have h_17 : C_14 (61) = .inr (5, [.ref (E.2.1 (62)), .ref (E.2.1 (63)), .ref (E.2.1 (64)), .int (nI (recN hn)), .ref (E.2.1 (65)), .int (flg sn), .ref (E.2.1 (66)), .int (nI (ln)), .int pa, .int va, .int (soM sp), .int (seM sp), .ref (E.2.1 (67)), .int tl]) := (gF16 _ (by omega)).trans h_6
    have h_18 : C_14 (62) = .inl (E.2.2.1 1, 698, .inl zq16) := hq16
    have h_19 : C_14 (63) = .inl (E.2.2.1 1, 698, .inl zt) := (gF16 _ (by omega)).trans h_8
    have h_20 : C_14 (64) = .inl (E.2.2.1 1, 2792, .inl zq5) := (gF16 _ (by omega)).trans h_9
    have h_21 : C_14 (65) = .inl (E.2.2.1 1, 698, .inl zs) := (gF16 _ (by omega)).trans h_10
    have h_22 : C_14 (66) = .inl (E.2.2.1 1, 80, .inl zx) := (gF16 _ (by omega)).trans h_11
    have h_23 : C_14 (67) = .inl (E.2.2.1 1, 84, .inl zl) := (gF16 _ (by omega)).trans h_12
    have gRS : RTm S zq16 := RTm_ext (gWS S eS).1 (gSN S eS) (fun z q1 => by rw [gA16 z (by omega) (by omega)]; exact congrArg zs (by omega))
    refine y_aload_n X dX5_restore_28 0 rfl ?_
    refine y_get X (61) 5 0 (Cn := RX5) (T := TX5) (N := 14) (index := 7) (v := .ref (E.2.1 (62))) dX5_restore_29 (by omega) h_17 rfl (by decide) inX5 (by decide +kernel : Cond.fieldLink RX5 7 "ColumnSeasonsModel" "now" "[I" ∈ wsX5_restore) rfl rfl ?_
    refine y_iconst X (v := (1)) dX5_restore_32 (by decide) ?_
    refine y_iald X (62) dX5_restore_33 (by omega) h_18 (j := 1) rfl (by omega) (by omega) (z := (nI (tr S))) gRS.2.1 ?_
    exact y_iret X hr dX5_restore_34 rfl (by subst eS; exact ⟨rfl, ⟨_, _, _, _, _, _, _, _, _, h_17, h_18, h_19, h_20, h_21, h_22, h_23, gRS, gP5, gSN, gTX⟩, (fun i9 g9 => by rw [gF16 i9 (by omega)]; rw [gF5 i9 (by omega) (by omega)])⟩)
  ·
    have c_1 := Decidable.of_not_not c_1
    refine y_sipush X (v := (-10005)) dX5_restore_7 (by decide) ?_
    exact y_iret X hr dX5_restore_10 rfl (by subst c_1; exact ⟨rfl, gM, (fun _ _ => rfl)⟩)
