set_option maxRecDepth 100000 in
set_option maxHeartbeats 4000000 in
theorem c_X5_isAt {l : Launch} {E : xE} {C : xC} {G : Nat → Nat} {u0 hn ln tl : Nat} {fl so se va : Int32} {zx : Nat → Int32} (gp : u0 ≤ ln) (gl80 : ln ≤ 80) (gX : ∀ z : Nat, z < ln → zx z = nI (G z)) (gG : ∀ z : Nat, z < ln → G z < 65536) (m0 : C (61) = .inr (5, [.ref (E.2.1 (62)), .ref (E.2.1 (63)), .ref (E.2.1 (64)), .int (nI (hn)), .ref (E.2.1 (65)), .int fl, .ref (E.2.1 (66)), .int (nI (ln)), .int (nI (u0)), .int va, .int so, .int se, .ref (E.2.1 (67)), .int (nI (tl))])) (m6 : C (66) = .inl (E.2.2.1 1, 80, .inl zx)) {lo0 hi0 : Nat} (gq0 : lo0 < 65536) (gq1 : hi0 < 65536) : xR E l yX5_isAt wsX5_isAt 1 22 [.ref (E.2.1 (61)), .int (nI (lo0)), .int (nI (hi0))] C (bI (u0 < ln ∧ (lo0 ≤ G u0 ∧ G u0 ≤ hi0))) := by
  refine xM_ofY (cc := cX5_isAt) (maxL := 3) (ret := (some .boolean)) (by decide) rfl (Nat.le_of_ble_eq_true rfl) ?_
  intro p e s m args below meth c X hr
  have inX5 : ∀ w ∈ wsX50, w ∈ wsX5_isAt := by decide +kernel
  refine y_lv [(0, .ref (E.2.1 (61))), (1, .int (nI (lo0))), (2, .int (nI (hi0)))] rfl ?_
  refine y_aload_n X dX5_isAt_0 0 rfl ?_
  refine y_get X (61) 5 8 (Cn := RX5) (T := TX5) (N := 14) (index := 131) (v := .int (nI (u0))) dX5_isAt_1 (by omega) m0 rfl (by decide) inX5 (by decide +kernel : Cond.fieldLink RX5 131 "ColumnSeasonsModel" "at" "I" ∈ wsX5_isAt) rfl rfl ?_
  refine y_aload_n X dX5_isAt_4 0 rfl ?_
  refine y_get X (61) 5 7 (Cn := RX5) (T := TX5) (N := 14) (index := 128) (v := .int (nI (ln))) dX5_isAt_5 (by omega) m0 rfl (by decide) inX5 (by decide +kernel : Cond.fieldLink RX5 128 "ColumnSeasonsModel" "typed" "I" ∈ wsX5_isAt) rfl rfl ?_
  refine y_icmp_ge X 32 ((ln) ≤ (u0)) dX5_isAt_8 (by decide) (nI_leI (a := ln) (b := u0) (by omega) (by omega)) (fun c_1 => ?_) (fun c_1 => ?_)
  ·
    refine y_iconst X (v := (0)) dX5_isAt_32 (by decide) ?_
    exact y_zret X hr (by rfl) dX5_isAt_33 rfl ⟨congrArg (fun z => some (Value.int z)) (by first | exact (bI_1 (by omega)).symm | exact (bI_0 (by omega)).symm), rfl⟩
  ·
    refine y_aload_n X dX5_isAt_11 0 rfl ?_
    refine y_get X (61) 5 6 (Cn := RX5) (T := TX5) (N := 14) (index := 22) (v := .ref (E.2.1 (66))) dX5_isAt_12 (by omega) m0 rfl (by decide) inX5 (by decide +kernel : Cond.fieldLink RX5 22 "ColumnSeasonsModel" "text" "[I" ∈ wsX5_isAt) rfl rfl ?_
    refine y_aload_n X dX5_isAt_15 0 rfl ?_
    refine y_get X (61) 5 8 (Cn := RX5) (T := TX5) (N := 14) (index := 131) (v := .int (nI (u0))) dX5_isAt_16 (by omega) m0 rfl (by decide) inX5 (by decide +kernel : Cond.fieldLink RX5 131 "ColumnSeasonsModel" "at" "I" ∈ wsX5_isAt) rfl rfl ?_
    refine y_iald X (66) dX5_isAt_19 (by omega) m6 (j := u0) rfl (by omega) (by omega) (z := (nI (G (u0)))) (gX (u0) (by omega)) ?_
    refine y_iload_n X dX5_isAt_20 1 rfl ?_
    refine y_iload_n X dX5_isAt_21 2 rfl ?_
    refine y_callJr X (av := [.int (nI (G (u0))), .int (nI (lo0)), .int (nI (hi0))]) [] 3 (c_X5_in (x := (nI (G (u0)))) (y := (nI (lo0))) (z := (nI (hi0))) (nI_toInt (by have := gG u0 (by omega); omega)) (nI_toInt (by omega)) (nI_toInt (by omega))) gX5_isAt_X5_in rfl (by decide +kernel) rfl ⟨Nat.le_of_ble_eq_true rfl, Nat.le_of_ble_eq_true rfl⟩ ⟨Nat.zero_le _, Nat.zero_le _⟩ (Nat.le_of_ble_eq_true rfl) rfl dX5_isAt_22 ?_
    refine y_if_eq X 32 (¬ (((lo0 : Int) ≤ (G u0 : Int) ∧ (G u0 : Int) ≤ (hi0 : Int)))) dX5_isAt_25 (by decide) bI_eq (fun c_2 => ?_) (fun c_2 => ?_)
    ·
      refine y_iconst X (v := (0)) dX5_isAt_32 (by decide) ?_
      exact y_zret X hr (by rfl) dX5_isAt_33 rfl ⟨congrArg (fun z => some (Value.int z)) (by first | exact (bI_1 (by omega)).symm | exact (bI_0 (by omega)).symm), rfl⟩
    ·
      have c_2 := Decidable.of_not_not c_2
      refine y_iconst X (v := (1)) dX5_isAt_28 (by decide) ?_
      refine y_goto X 33 dX5_isAt_29 (by decide) ?_
      exact y_zret X hr (by rfl) dX5_isAt_33 rfl ⟨congrArg (fun z => some (Value.int z)) (by first | exact (bI_1 (by omega)).symm | exact (bI_0 (by omega)).symm), rfl⟩

set_option maxRecDepth 100000 in
set_option maxHeartbeats 4000000 in
theorem c_X5_sign {l : Launch} {E : xE} {C : xC} {G : Nat → Nat} {u0 hn ln tl : Nat} {fl so se va : Int32} {zx : Nat → Int32} (gp : u0 ≤ ln) (gl80 : ln ≤ 80) (gX : ∀ z : Nat, z < ln → zx z = nI (G z)) (gG : ∀ z : Nat, z < ln → G z < 65536) (m0 : C (61) = .inr (5, [.ref (E.2.1 (62)), .ref (E.2.1 (63)), .ref (E.2.1 (64)), .int (nI (hn)), .ref (E.2.1 (65)), .int fl, .ref (E.2.1 (66)), .int (nI (ln)), .int (nI (u0)), .int va, .int so, .int se, .ref (E.2.1 (67)), .int (nI (tl))])) (m6 : C (66) = .inl (E.2.2.1 1, 80, .inl zx)) {c0 : Nat} (gq0 : c0 < 65536) : xM E l yX5_sign wsX5_sign 2 44 [.ref (E.2.1 (61)), .int (nI (c0))] C (fun v C1 => v = some (.int (bI (chA G ln u0 c0))) ∧ C1 (61) = .inr (5, [.ref (E.2.1 (62)), .ref (E.2.1 (63)), .ref (E.2.1 (64)), .int (nI (hn)), .ref (E.2.1 (65)), .int fl, .ref (E.2.1 (66)), .int (nI (ln)), .int (nI (if chA G ln u0 c0 then u0 + 1 else u0)), .int va, .int so, .int se, .ref (E.2.1 (67)), .int (nI (tl))]) ∧ (∀ i : Nat, ¬ i = 61 → C1 i = C i)) := by
  refine xM_ofY (cc := cX5_sign) (maxL := 3) (ret := (some .boolean)) (by decide) rfl (Nat.le_of_ble_eq_true rfl) ?_
  intro p e s m args below meth c X hr
  have inX5 : ∀ w ∈ wsX50, w ∈ wsX5_sign := by decide +kernel
  refine y_lv [(0, .ref (E.2.1 (61))), (1, .int (nI (c0)))] rfl ?_
  refine y_aload_n X dX5_sign_0 0 rfl ?_
  refine y_iload_n X dX5_sign_1 1 rfl ?_
  refine y_iload_n X dX5_sign_2 1 rfl ?_
  refine y_callVr X (61) 5 (av := [.int (nI (c0)), .int (nI (c0))]) [] 2 (c_X5_isAt (G := G) (u0 := u0) (tl := tl) (by omega) gl80 gX gG m0 m6 (lo0 := c0) (hi0 := c0) (by omega) (by omega)) (by omega) m0 rfl gX5_sign_X5_isAt rfl (by decide +kernel) rfl ⟨Nat.le_of_ble_eq_true rfl, Nat.le_of_ble_eq_true rfl⟩ ⟨Nat.zero_le _, Nat.zero_le _⟩ (Nat.le_of_ble_eq_true rfl) rfl dX5_sign_3 ?_
  refine y_istore_n X [(2, .int (bI ((u0) < ln ∧ ((c0) ≤ G (u0) ∧ G (u0) ≤ (c0))))), (0, .ref (E.2.1 (61))), (1, .int (nI (c0)))] dX5_sign_6 rfl (by decide) rfl ?_
  refine y_aload_n X dX5_sign_7 1 rfl ?_
  refine y_dup X dX5_sign_8 rfl ?_
  refine y_get X (61) 5 8 (Cn := RX5) (T := TX5) (N := 14) (index := 131) (v := .int (nI (u0))) dX5_sign_9 (by omega) m0 rfl (by decide) inX5 (by decide +kernel : Cond.fieldLink RX5 131 "ColumnSeasonsModel" "at" "I" ∈ wsX5_sign) rfl rfl ?_
  refine y_iload_n X dX5_sign_12 0 rfl ?_
  refine y_if_eq X 20 (¬ ((u0) < ln ∧ ((c0) ≤ G (u0) ∧ G (u0) ≤ (c0)))) dX5_sign_13 (by decide) bI_eq (fun c_1 => ?_) (fun c_1 => ?_)
  ·
    refine y_iconst X (v := (0)) dX5_sign_20 (by decide) ?_
    refine y_iadd X (z := (nI (u0 + 0))) dX5_sign_21 (nI_add (u0) (0)) ?_
    refine y_put X (61) 5 8 (Cn := RX5) (T := TX5) (N := 14) (index := 131) tyX5 (v := .int (nI (u0 + 0))) dX5_sign_22 (by omega) m0 rfl (by decide) inX5 (by decide +kernel : Cond.fieldLink RX5 131 "ColumnSeasonsModel" "at" "I" ∈ wsX5_sign) rfl tyX5_ok nmX5 rfl rfl rfl (Nat.le_of_ble_eq_true rfl) ?_
    refine y_mem (va_up C (61) (.inr (5, [.ref (E.2.1 (62)), .ref (E.2.1 (63)), .ref (E.2.1 (64)), .int (nI (hn)), .ref (E.2.1 (65)), .int fl, .ref (E.2.1 (66)), .int (nI (ln)), .int (nI (u0 + 0)), .int va, .int so, .int se, .ref (E.2.1 (67)), .int (nI (tl))]))) rfl (fun C_2 eC_3 => ?_)
    have h_4 : C_2 (61) = .inr (5, [.ref (E.2.1 (62)), .ref (E.2.1 (63)), .ref (E.2.1 (64)), .int (nI (hn)), .ref (E.2.1 (65)), .int fl, .ref (E.2.1 (66)), .int (nI (ln)), .int (nI (u0 + 0)), .int va, .int so, .int se, .ref (E.2.1 (67)), .int (nI (tl))]) := by rw [eC_3, va_up, if_pos rfl]
    have h_5 : C_2 (66) = .inl (E.2.2.1 1, 80, .inl zx) := by rw [eC_3, va_up, if_neg (by omega)]; exact m6
    refine y_iload_n X dX5_sign_25 0 rfl ?_
    exact y_zret X hr bI_nar dX5_sign_26 rfl (by have c9 := c_1; first | (rw [if_pos (chA_2.mp c9)]; exact ⟨congrArg (fun z => some (Value.int z)) (bI_congr chA_2), h_4, (fun i9 g9 => by rw [eC_3, va_up, if_neg (by omega)])⟩) | (rw [if_neg (fun z => c9 (chA_2.mpr z))]; exact ⟨congrArg (fun z => some (Value.int z)) (bI_congr chA_2), h_4, (fun i9 g9 => by rw [eC_3, va_up, if_neg (by omega)])⟩))
  ·
    have c_1 := Decidable.of_not_not c_1
    refine y_iconst X (v := (1)) dX5_sign_16 (by decide) ?_
    refine y_goto X 21 dX5_sign_17 (by decide) ?_
    refine y_iadd X (z := (nI (u0 + 1))) dX5_sign_21 (nI_add (u0) (1)) ?_
    refine y_put X (61) 5 8 (Cn := RX5) (T := TX5) (N := 14) (index := 131) tyX5 (v := .int (nI (u0 + 1))) dX5_sign_22 (by omega) m0 rfl (by decide) inX5 (by decide +kernel : Cond.fieldLink RX5 131 "ColumnSeasonsModel" "at" "I" ∈ wsX5_sign) rfl tyX5_ok nmX5 rfl rfl rfl (Nat.le_of_ble_eq_true rfl) ?_
    refine y_mem (va_up C (61) (.inr (5, [.ref (E.2.1 (62)), .ref (E.2.1 (63)), .ref (E.2.1 (64)), .int (nI (hn)), .ref (E.2.1 (65)), .int fl, .ref (E.2.1 (66)), .int (nI (ln)), .int (nI (u0 + 1)), .int va, .int so, .int se, .ref (E.2.1 (67)), .int (nI (tl))]))) rfl (fun C_6 eC_7 => ?_)
    have h_8 : C_6 (61) = .inr (5, [.ref (E.2.1 (62)), .ref (E.2.1 (63)), .ref (E.2.1 (64)), .int (nI (hn)), .ref (E.2.1 (65)), .int fl, .ref (E.2.1 (66)), .int (nI (ln)), .int (nI (u0 + 1)), .int va, .int so, .int se, .ref (E.2.1 (67)), .int (nI (tl))]) := by rw [eC_7, va_up, if_pos rfl]
    have h_9 : C_6 (66) = .inl (E.2.2.1 1, 80, .inl zx) := by rw [eC_7, va_up, if_neg (by omega)]; exact m6
    refine y_iload_n X dX5_sign_25 0 rfl ?_
    exact y_zret X hr bI_nar dX5_sign_26 rfl (by have c9 := c_1; first | (rw [if_pos (chA_2.mp c9)]; exact ⟨congrArg (fun z => some (Value.int z)) (bI_congr chA_2), h_8, (fun i9 g9 => by rw [eC_7, va_up, if_neg (by omega)])⟩) | (rw [if_neg (fun z => c9 (chA_2.mpr z))]; exact ⟨congrArg (fun z => some (Value.int z)) (bI_congr chA_2), h_8, (fun i9 g9 => by rw [eC_7, va_up, if_neg (by omega)])⟩))

set_option maxRecDepth 100000 in
set_option maxHeartbeats 4000000 in
theorem c_X5_isNumber {l : Launch} {E : xE} {C : xC} {G : Nat → Nat} {u0 hn ln tl : Nat} {fl so se va : Int32} {zx : Nat → Int32} (gp : u0 ≤ ln) (gl80 : ln ≤ 80) (gX : ∀ z : Nat, z < ln → zx z = nI (G z)) (gG : ∀ z : Nat, z < ln → G z < 65536) (m0 : C (61) = .inr (5, [.ref (E.2.1 (62)), .ref (E.2.1 (63)), .ref (E.2.1 (64)), .int (nI (hn)), .ref (E.2.1 (65)), .int fl, .ref (E.2.1 (66)), .int (nI (ln)), .int (nI (u0)), .int va, .int so, .int se, .ref (E.2.1 (67)), .int (nI (tl))])) (m6 : C (66) = .inl (E.2.2.1 1, 80, .inl zx)) {lw : Int32} {mo : Nat} (gmo : mo ≤ 9999) : xM E l yX5_isNumber wsX5_isNumber 3 66 [.ref (E.2.1 (61)), .int lw, .int (nI (mo))] C (fun v C1 => v = some (.int (bI (nmO G ln lw mo u0))) ∧ (∃ va2 : Int32, C1 (61) = .inr (5, [.ref (E.2.1 (62)), .ref (E.2.1 (63)), .ref (E.2.1 (64)), .int (nI (hn)), .ref (E.2.1 (65)), .int fl, .ref (E.2.1 (66)), .int (nI (ln)), .int (nI (nmP G ln lw mo u0)), .int va2, .int so, .int se, .ref (E.2.1 (67)), .int (nI (tl))]) ∧ ((nmO G ln lw mo u0) → va2 = nmV G ln lw mo u0)) ∧ (∀ i : Nat, ¬ i = 61 → C1 i = C i)) := by
  refine xM_ofY (cc := cX5_isNumber) (maxL := 4) (ret := (some .boolean)) (by decide) rfl (Nat.le_of_ble_eq_true rfl) ?_
  intro p e s m args below meth c X hr
  have inX5 : ∀ w ∈ wsX50, w ∈ wsX5_isNumber := by decide +kernel
  refine y_lv [(0, .ref (E.2.1 (61))), (1, .int lw), (2, .int (nI (mo)))] rfl ?_
  refine y_iload_n X dX5_isNumber_0 1 rfl ?_
  refine y_if_ge X 17 ((0 : Int) ≤ (lw).toInt) dX5_isNumber_1 (by decide) (cLe (by decide) rfl) (fun c_1 => ?_) (fun c_1 => ?_)
  ·
    refine y_iconst X (v := (0)) dX5_isNumber_17 (by decide) ?_
    refine y_istore_n X [(3, .int (0)), (0, .ref (E.2.1 (61))), (1, .int lw), (2, .int (nI (mo)))] dX5_isNumber_18 rfl (by decide) rfl ?_
    have gB : ¬ nmB G ln lw u0 := fun z => by first | exact absurd z.1 (by omega) | exact absurd z.2 gp
    have g1 : nm1 G ln lw u0 = u0 := if_neg gB
    refine y_aload_n X dX5_isNumber_19 1 rfl ?_
    refine y_iload_n X dX5_isNumber_20 0 rfl ?_
    refine y_if_eq X 29 ((0) = (0)) dX5_isNumber_21 (by decide) (nI_eq (a := 0) (b := 0) (by omega) (by omega)) (fun c_2 => ?_) (fun c_2 => ?_)
    ·
      refine y_bipush X (v := (48)) dX5_isNumber_29 (by decide) ?_
      refine y_bipush X (v := (57)) dX5_isNumber_31 (by decide) ?_
      refine y_callVr X (61) 5 (av := [.int (48), .int (57)]) [] 2 (c_X5_isAt (G := G) (u0 := u0) (tl := tl) (by omega) gl80 gX gG m0 m6 (lo0 := 48) (hi0 := 57) (by omega) (by omega)) (by omega) m0 rfl gX5_isNumber_X5_isAt rfl (by decide +kernel) rfl ⟨Nat.le_of_ble_eq_true rfl, Nat.le_of_ble_eq_true rfl⟩ ⟨Nat.zero_le _, Nat.zero_le _⟩ (Nat.le_of_ble_eq_true rfl) rfl dX5_isNumber_33 ?_
      refine y_if_eq X 55 (¬ ((u0) < ln ∧ ((48) ≤ G (u0) ∧ G (u0) ≤ (57)))) dX5_isNumber_36 (by decide) bI_eq (fun c_3 => ?_) (fun c_3 => ?_)
      ·
        refine y_iconst X (v := (0)) dX5_isNumber_55 (by decide) ?_
        exact y_zret X hr (by rfl) dX5_isNumber_56 rfl (by have gN : ¬ nmO G ln lw mo u0 := (fun z => by unfold nmO at z; rw [g1, if_neg gB] at z; omega); have g2 : nmP G ln lw mo u0 = u0 := (if_neg gN).trans g1; rw [g2]; exact ⟨congrArg (fun z => some (Value.int z)) (bI_0 gN).symm, ⟨_, m0, fun z => absurd z gN⟩, (fun _ _ => rfl)⟩)
      ·
        have c_3 := Decidable.of_not_not c_3
        refine y_aload_n X dX5_isNumber_39 1 rfl ?_
        refine y_get X (61) 5 6 (Cn := RX5) (T := TX5) (N := 14) (index := 22) (v := .ref (E.2.1 (66))) dX5_isNumber_40 (by omega) m0 rfl (by decide) inX5 (by decide +kernel : Cond.fieldLink RX5 22 "ColumnSeasonsModel" "text" "[I" ∈ wsX5_isNumber) rfl rfl ?_
        refine y_aload_n X dX5_isNumber_43 1 rfl ?_
        refine y_get X (61) 5 8 (Cn := RX5) (T := TX5) (N := 14) (index := 131) (v := .int (nI (u0))) dX5_isNumber_44 (by omega) m0 rfl (by decide) inX5 (by decide +kernel : Cond.fieldLink RX5 131 "ColumnSeasonsModel" "at" "I" ∈ wsX5_isNumber) rfl rfl ?_
        refine y_iald X (66) dX5_isNumber_47 (by omega) m6 (j := u0) rfl (by omega) (by omega) (z := (nI (G (u0)))) (gX (u0) (by omega)) ?_
        refine y_bipush X (v := (48)) dX5_isNumber_48 (by decide) ?_
        refine y_isub X (z := (nI ((G (u0)) - (48)))) dX5_isNumber_50 (pk_sub (a := G (u0)) (b := 48) (by omega)) ?_
        refine y_iload_n X dX5_isNumber_51 3 rfl ?_
        refine y_icmp_le X 57 (((G (u0)) - (48)) ≤ (mo)) dX5_isNumber_52 (by decide) (nI_leI (a := (G (u0)) - (48)) (b := mo) (by omega) (by omega)) (fun c_4 => ?_) (fun c_4 => ?_)
        ·
          have gO : nmO G ln lw mo u0 := by unfold nmO; rw [g1, if_neg gB]; omega
          refine y_aload_n X dX5_isNumber_57 1 rfl ?_
          refine y_aload_n X dX5_isNumber_58 1 rfl ?_
          refine y_get X (61) 5 6 (Cn := RX5) (T := TX5) (N := 14) (index := 22) (v := .ref (E.2.1 (66))) dX5_isNumber_59 (by omega) m0 rfl (by decide) inX5 (by decide +kernel : Cond.fieldLink RX5 22 "ColumnSeasonsModel" "text" "[I" ∈ wsX5_isNumber) rfl rfl ?_
          refine y_aload_n X dX5_isNumber_62 1 rfl ?_
          refine y_get X (61) 5 8 (Cn := RX5) (T := TX5) (N := 14) (index := 131) (v := .int (nI (u0))) dX5_isNumber_63 (by omega) m0 rfl (by decide) inX5 (by decide +kernel : Cond.fieldLink RX5 131 "ColumnSeasonsModel" "at" "I" ∈ wsX5_isNumber) rfl rfl ?_
          refine y_iald X (66) dX5_isNumber_66 (by omega) m6 (j := u0) rfl (by omega) (by omega) (z := (nI (G (u0)))) (gX (u0) (by omega)) ?_
          refine y_bipush X (v := (48)) dX5_isNumber_67 (by decide) ?_
          refine y_isub X (z := (nI ((G (u0)) - (48)))) dX5_isNumber_69 (pk_sub (a := G (u0)) (b := 48) (by omega)) ?_
          refine y_put X (61) 5 9 (Cn := RX5) (T := TX5) (N := 14) (index := 141) tyX5 (v := .int (nI ((G (u0)) - (48)))) dX5_isNumber_70 (by omega) m0 rfl (by decide) inX5 (by decide +kernel : Cond.fieldLink RX5 141 "ColumnSeasonsModel" "value" "I" ∈ wsX5_isNumber) rfl tyX5_ok nmX5 rfl rfl rfl (Nat.le_of_ble_eq_true rfl) ?_
          refine y_mem (va_up C (61) (.inr (5, [.ref (E.2.1 (62)), .ref (E.2.1 (63)), .ref (E.2.1 (64)), .int (nI (hn)), .ref (E.2.1 (65)), .int fl, .ref (E.2.1 (66)), .int (nI (ln)), .int (nI (u0)), .int (nI ((G (u0)) - (48))), .int so, .int se, .ref (E.2.1 (67)), .int (nI (tl))]))) rfl (fun C_5 eC_6 => ?_)
          have h_7 : C_5 (61) = .inr (5, [.ref (E.2.1 (62)), .ref (E.2.1 (63)), .ref (E.2.1 (64)), .int (nI (hn)), .ref (E.2.1 (65)), .int fl, .ref (E.2.1 (66)), .int (nI (ln)), .int (nI (u0)), .int (nI ((G (u0)) - (48))), .int so, .int se, .ref (E.2.1 (67)), .int (nI (tl))]) := by rw [eC_6, va_up, if_pos rfl]
          have h_8 : C_5 (66) = .inl (E.2.2.1 1, 80, .inl zx) := by rw [eC_6, va_up, if_neg (by omega)]; exact m6
          refine y_aload_n X dX5_isNumber_73 1 rfl ?_
          refine y_dup X dX5_isNumber_74 rfl ?_
          refine y_get X (61) 5 8 (Cn := RX5) (T := TX5) (N := 14) (index := 131) (v := .int (nI (u0))) dX5_isNumber_75 (by omega) h_7 rfl (by decide) inX5 (by decide +kernel : Cond.fieldLink RX5 131 "ColumnSeasonsModel" "at" "I" ∈ wsX5_isNumber) rfl rfl ?_
          refine y_iconst X (v := (1)) dX5_isNumber_78 (by decide) ?_
          refine y_iadd X (z := (nI (u0 + 1))) dX5_isNumber_79 (nI_add (u0) (1)) ?_
          refine y_put X (61) 5 8 (Cn := RX5) (T := TX5) (N := 14) (index := 131) tyX5 (v := .int (nI (u0 + 1))) dX5_isNumber_80 (by omega) h_7 rfl (by decide) inX5 (by decide +kernel : Cond.fieldLink RX5 131 "ColumnSeasonsModel" "at" "I" ∈ wsX5_isNumber) rfl tyX5_ok nmX5 rfl rfl rfl (Nat.le_of_ble_eq_true rfl) ?_
          refine y_mem (va_up C_5 (61) (.inr (5, [.ref (E.2.1 (62)), .ref (E.2.1 (63)), .ref (E.2.1 (64)), .int (nI (hn)), .ref (E.2.1 (65)), .int fl, .ref (E.2.1 (66)), .int (nI (ln)), .int (nI (u0 + 1)), .int (nI ((G (u0)) - (48))), .int so, .int se, .ref (E.2.1 (67)), .int (nI (tl))]))) rfl (fun C_9 eC_10 => ?_)
          have h_11 : C_9 (61) = .inr (5, [.ref (E.2.1 (62)), .ref (E.2.1 (63)), .ref (E.2.1 (64)), .int (nI (hn)), .ref (E.2.1 (65)), .int fl, .ref (E.2.1 (66)), .int (nI (ln)), .int (nI (u0 + 1)), .int (nI ((G (u0)) - (48))), .int so, .int se, .ref (E.2.1 (67)), .int (nI (tl))]) := by rw [eC_10, va_up, if_pos rfl]
          have h_12 : C_9 (66) = .inl (E.2.2.1 1, 80, .inl zx) := by rw [eC_10, va_up, if_neg (by omega)]; exact h_8
          have L_83 : ∀ (n : Nat) (C2 : xC) (p9 : Nat) (v9 : Nat), ln - p9 < n → (C2 (61) = .inr (5, [.ref (E.2.1 (62)), .ref (E.2.1 (63)), .ref (E.2.1 (64)), .int (nI (hn)), .ref (E.2.1 (65)), .int fl, .ref (E.2.1 (66)), .int (nI (ln)), .int (nI (p9)), .int (nI (v9)), .int so, .int se, .ref (E.2.1 (67)), .int (nI (tl))])) → (C2 (66) = .inl (E.2.2.1 1, 80, .inl zx)) → (∀ i9 : Nat, ¬ i9 = 61 → C2 i9 = C i9) → (p9 ≤ ln) → (v9 ≤ mo) → (dgF G ln mo (ln - p9) p9 v9 = nmD G ln lw mo u0) → xY p l e ({ frames := 3, cells := 0, slots := 0, locals := 66 } : Room) s m args below meth c E (xA E) 4 0 0 (MQ below (xQ E (fun v C1 => v = some (.int (bI (nmO G ln lw mo u0))) ∧ (∃ va2 : Int32, C1 (61) = .inr (5, [.ref (E.2.1 (62)), .ref (E.2.1 (63)), .ref (E.2.1 (64)), .int (nI (hn)), .ref (E.2.1 (65)), .int fl, .ref (E.2.1 (66)), .int (nI (ln)), .int (nI (nmP G ln lw mo u0)), .int va2, .int so, .int se, .ref (E.2.1 (67)), .int (nI (tl))]) ∧ ((nmO G ln lw mo u0) → va2 = nmV G ln lw mo u0)) ∧ (∀ i : Nat, ¬ i = 61 → C1 i = C i))) args s 0 0 (xA E)) C2 83 [(0, .ref (E.2.1 (61))), (1, .int lw), (2, .int (nI (mo))), (3, .int (0))] [] := by
            intro n83
            induction n83 with
            | zero => intro _ _ _ hm83; exact absurd hm83 (Nat.not_lt_zero _)
            | succ n83 ih83 =>
              intro C2 p9 v9 hm83 k0 k6 gF2 gp9 gv9 gD
              refine y_aload_n X dX5_isNumber_83 0 rfl ?_
              refine y_get X (61) 5 9 (Cn := RX5) (T := TX5) (N := 14) (index := 141) (v := .int (nI (v9))) dX5_isNumber_84 (by omega) k0 rfl (by decide) inX5 (by decide +kernel : Cond.fieldLink RX5 141 "ColumnSeasonsModel" "value" "I" ∈ wsX5_isNumber) rfl rfl ?_
              refine y_if_le X 162 ((v9) ≤ (0)) dX5_isNumber_87 (by decide) (nI_leI (a := v9) (b := 0) (by omega) (by omega)) (fun c_13 => ?_) (fun c_13 => ?_)
              ·
                refine y_aload_n X dX5_isNumber_162 0 rfl ?_
                refine y_iload_n X dX5_isNumber_163 3 rfl ?_
                refine y_if_eq X 175 ((0) = (0)) dX5_isNumber_164 (by decide) (nI_eq (a := 0) (b := 0) (by omega) (by omega)) (fun c_14 => ?_) (fun c_14 => ?_)
                ·
                  refine y_aload_n X dX5_isNumber_175 0 rfl ?_
                  refine y_get X (61) 5 9 (Cn := RX5) (T := TX5) (N := 14) (index := 141) (v := .int (nI (v9))) dX5_isNumber_176 (by omega) k0 rfl (by decide) inX5 (by decide +kernel : Cond.fieldLink RX5 141 "ColumnSeasonsModel" "value" "I" ∈ wsX5_isNumber) rfl rfl ?_
                  refine y_put X (61) 5 9 (Cn := RX5) (T := TX5) (N := 14) (index := 141) tyX5 (v := .int (nI (v9))) dX5_isNumber_179 (by omega) k0 rfl (by decide) inX5 (by decide +kernel : Cond.fieldLink RX5 141 "ColumnSeasonsModel" "value" "I" ∈ wsX5_isNumber) rfl tyX5_ok nmX5 rfl rfl rfl (Nat.le_of_ble_eq_true rfl) ?_
                  refine y_mem (va_up C2 (61) (.inr (5, [.ref (E.2.1 (62)), .ref (E.2.1 (63)), .ref (E.2.1 (64)), .int (nI (hn)), .ref (E.2.1 (65)), .int fl, .ref (E.2.1 (66)), .int (nI (ln)), .int (nI (p9)), .int (nI (v9)), .int so, .int se, .ref (E.2.1 (67)), .int (nI (tl))]))) rfl (fun C_15 eC_16 => ?_)
                  have h_17 : C_15 (61) = .inr (5, [.ref (E.2.1 (62)), .ref (E.2.1 (63)), .ref (E.2.1 (64)), .int (nI (hn)), .ref (E.2.1 (65)), .int fl, .ref (E.2.1 (66)), .int (nI (ln)), .int (nI (p9)), .int (nI (v9)), .int so, .int se, .ref (E.2.1 (67)), .int (nI (tl))]) := by rw [eC_16, va_up, if_pos rfl]
                  have h_18 : C_15 (66) = .inl (E.2.2.1 1, 80, .inl zx) := by rw [eC_16, va_up, if_neg (by omega)]; exact k6
                  refine y_iconst X (v := (1)) dX5_isNumber_182 (by decide) ?_
                  exact y_zret X hr (by rfl) dX5_isNumber_183 rfl (by have g8 := gD.symm.trans (dg_end (by omega)); have g2 : nmP G ln lw mo u0 = p9 := (if_pos gO).trans (by rw [g8]); have g3 : nmV G ln lw mo u0 = (nI (v9)) := (if_neg gB).trans (by rw [g8]); rw [g2]; exact ⟨congrArg (fun z => some (Value.int z)) (bI_1 gO).symm, ⟨_, h_17, fun _ => g3.symm⟩, (fun i9 g9 => by rw [eC_16, va_up, if_neg (by omega)]; rw [gF2 i9 g9])⟩)
                ·
                  exact absurd c_14 (by decide)
              ·
                refine y_aload_n X dX5_isNumber_90 0 rfl ?_
                refine y_bipush X (v := (48)) dX5_isNumber_91 (by decide) ?_
                refine y_bipush X (v := (57)) dX5_isNumber_93 (by decide) ?_
                refine y_callVr X (61) 5 (av := [.int (48), .int (57)]) [] 2 (c_X5_isAt (G := G) (u0 := p9) (tl := tl) (by omega) gl80 gX gG k0 k6 (lo0 := 48) (hi0 := 57) (by omega) (by omega)) (by omega) k0 rfl gX5_isNumber_X5_isAt rfl (by decide +kernel) rfl ⟨Nat.le_of_ble_eq_true rfl, Nat.le_of_ble_eq_true rfl⟩ ⟨Nat.zero_le _, Nat.zero_le _⟩ (Nat.le_of_ble_eq_true rfl) rfl dX5_isNumber_95 ?_
                refine y_if_eq X 162 (¬ ((p9) < ln ∧ ((48) ≤ G (p9) ∧ G (p9) ≤ (57)))) dX5_isNumber_98 (by decide) bI_eq (fun c_19 => ?_) (fun c_19 => ?_)
                ·
                  refine y_aload_n X dX5_isNumber_162 0 rfl ?_
                  refine y_iload_n X dX5_isNumber_163 3 rfl ?_
                  refine y_if_eq X 175 ((0) = (0)) dX5_isNumber_164 (by decide) (nI_eq (a := 0) (b := 0) (by omega) (by omega)) (fun c_20 => ?_) (fun c_20 => ?_)
                  ·
                    refine y_aload_n X dX5_isNumber_175 0 rfl ?_
                    refine y_get X (61) 5 9 (Cn := RX5) (T := TX5) (N := 14) (index := 141) (v := .int (nI (v9))) dX5_isNumber_176 (by omega) k0 rfl (by decide) inX5 (by decide +kernel : Cond.fieldLink RX5 141 "ColumnSeasonsModel" "value" "I" ∈ wsX5_isNumber) rfl rfl ?_
                    refine y_put X (61) 5 9 (Cn := RX5) (T := TX5) (N := 14) (index := 141) tyX5 (v := .int (nI (v9))) dX5_isNumber_179 (by omega) k0 rfl (by decide) inX5 (by decide +kernel : Cond.fieldLink RX5 141 "ColumnSeasonsModel" "value" "I" ∈ wsX5_isNumber) rfl tyX5_ok nmX5 rfl rfl rfl (Nat.le_of_ble_eq_true rfl) ?_
                    refine y_mem (va_up C2 (61) (.inr (5, [.ref (E.2.1 (62)), .ref (E.2.1 (63)), .ref (E.2.1 (64)), .int (nI (hn)), .ref (E.2.1 (65)), .int fl, .ref (E.2.1 (66)), .int (nI (ln)), .int (nI (p9)), .int (nI (v9)), .int so, .int se, .ref (E.2.1 (67)), .int (nI (tl))]))) rfl (fun C_21 eC_22 => ?_)
                    have h_23 : C_21 (61) = .inr (5, [.ref (E.2.1 (62)), .ref (E.2.1 (63)), .ref (E.2.1 (64)), .int (nI (hn)), .ref (E.2.1 (65)), .int fl, .ref (E.2.1 (66)), .int (nI (ln)), .int (nI (p9)), .int (nI (v9)), .int so, .int se, .ref (E.2.1 (67)), .int (nI (tl))]) := by rw [eC_22, va_up, if_pos rfl]
                    have h_24 : C_21 (66) = .inl (E.2.2.1 1, 80, .inl zx) := by rw [eC_22, va_up, if_neg (by omega)]; exact k6
                    refine y_iconst X (v := (1)) dX5_isNumber_182 (by decide) ?_
                    exact y_zret X hr (by rfl) dX5_isNumber_183 rfl (by have g8 := gD.symm.trans (dg_end (by omega)); have g2 : nmP G ln lw mo u0 = p9 := (if_pos gO).trans (by rw [g8]); have g3 : nmV G ln lw mo u0 = (nI (v9)) := (if_neg gB).trans (by rw [g8]); rw [g2]; exact ⟨congrArg (fun z => some (Value.int z)) (bI_1 gO).symm, ⟨_, h_23, fun _ => g3.symm⟩, (fun i9 g9 => by rw [eC_22, va_up, if_neg (by omega)]; rw [gF2 i9 g9])⟩)
                  ·
                    exact absurd c_20 (by decide)
                ·
                  have c_19 := Decidable.of_not_not c_19
                  refine y_bipush X (v := (10)) dX5_isNumber_101 (by decide) ?_
                  refine y_aload_n X dX5_isNumber_103 0 rfl ?_
                  refine y_get X (61) 5 9 (Cn := RX5) (T := TX5) (N := 14) (index := 141) (v := .int (nI (v9))) dX5_isNumber_104 (by omega) k0 rfl (by decide) inX5 (by decide +kernel : Cond.fieldLink RX5 141 "ColumnSeasonsModel" "value" "I" ∈ wsX5_isNumber) rfl rfl ?_
                  refine y_imul X (z := (nI ((10) * (v9)))) dX5_isNumber_107 (pk_mul (10) (v9)) ?_
                  refine y_aload_n X dX5_isNumber_108 0 rfl ?_
                  refine y_get X (61) 5 6 (Cn := RX5) (T := TX5) (N := 14) (index := 22) (v := .ref (E.2.1 (66))) dX5_isNumber_109 (by omega) k0 rfl (by decide) inX5 (by decide +kernel : Cond.fieldLink RX5 22 "ColumnSeasonsModel" "text" "[I" ∈ wsX5_isNumber) rfl rfl ?_
                  refine y_aload_n X dX5_isNumber_112 0 rfl ?_
                  refine y_get X (61) 5 8 (Cn := RX5) (T := TX5) (N := 14) (index := 131) (v := .int (nI (p9))) dX5_isNumber_113 (by omega) k0 rfl (by decide) inX5 (by decide +kernel : Cond.fieldLink RX5 131 "ColumnSeasonsModel" "at" "I" ∈ wsX5_isNumber) rfl rfl ?_
                  refine y_iald X (66) dX5_isNumber_116 (by omega) k6 (j := p9) rfl (by omega) (by omega) (z := (nI (G (p9)))) (gX (p9) (by omega)) ?_
                  refine y_iadd X (z := (nI ((10) * (v9) + G (p9)))) dX5_isNumber_117 (nI_add ((10) * (v9)) (G (p9))) ?_
                  refine y_bipush X (v := (48)) dX5_isNumber_118 (by decide) ?_
                  refine y_isub X (z := (nI (((10) * (v9) + G (p9)) - (48)))) dX5_isNumber_120 (pk_sub (a := (10) * (v9) + G (p9)) (b := 48) (by omega)) ?_
                  refine y_iload_n X dX5_isNumber_121 2 rfl ?_
                  refine y_icmp_gt X 162 ((mo) < (((10) * (v9) + G (p9)) - (48))) dX5_isNumber_122 (by decide) (nI_ltI (a := mo) (b := ((10) * (v9) + G (p9)) - (48)) (by omega) (by omega)) (fun c_25 => ?_) (fun c_25 => ?_)
                  ·
                    refine y_aload_n X dX5_isNumber_162 0 rfl ?_
                    refine y_iload_n X dX5_isNumber_163 3 rfl ?_
                    refine y_if_eq X 175 ((0) = (0)) dX5_isNumber_164 (by decide) (nI_eq (a := 0) (b := 0) (by omega) (by omega)) (fun c_26 => ?_) (fun c_26 => ?_)
                    ·
                      refine y_aload_n X dX5_isNumber_175 0 rfl ?_
                      refine y_get X (61) 5 9 (Cn := RX5) (T := TX5) (N := 14) (index := 141) (v := .int (nI (v9))) dX5_isNumber_176 (by omega) k0 rfl (by decide) inX5 (by decide +kernel : Cond.fieldLink RX5 141 "ColumnSeasonsModel" "value" "I" ∈ wsX5_isNumber) rfl rfl ?_
                      refine y_put X (61) 5 9 (Cn := RX5) (T := TX5) (N := 14) (index := 141) tyX5 (v := .int (nI (v9))) dX5_isNumber_179 (by omega) k0 rfl (by decide) inX5 (by decide +kernel : Cond.fieldLink RX5 141 "ColumnSeasonsModel" "value" "I" ∈ wsX5_isNumber) rfl tyX5_ok nmX5 rfl rfl rfl (Nat.le_of_ble_eq_true rfl) ?_
                      refine y_mem (va_up C2 (61) (.inr (5, [.ref (E.2.1 (62)), .ref (E.2.1 (63)), .ref (E.2.1 (64)), .int (nI (hn)), .ref (E.2.1 (65)), .int fl, .ref (E.2.1 (66)), .int (nI (ln)), .int (nI (p9)), .int (nI (v9)), .int so, .int se, .ref (E.2.1 (67)), .int (nI (tl))]))) rfl (fun C_27 eC_28 => ?_)
                      have h_29 : C_27 (61) = .inr (5, [.ref (E.2.1 (62)), .ref (E.2.1 (63)), .ref (E.2.1 (64)), .int (nI (hn)), .ref (E.2.1 (65)), .int fl, .ref (E.2.1 (66)), .int (nI (ln)), .int (nI (p9)), .int (nI (v9)), .int so, .int se, .ref (E.2.1 (67)), .int (nI (tl))]) := by rw [eC_28, va_up, if_pos rfl]
                      have h_30 : C_27 (66) = .inl (E.2.2.1 1, 80, .inl zx) := by rw [eC_28, va_up, if_neg (by omega)]; exact k6
                      refine y_iconst X (v := (1)) dX5_isNumber_182 (by decide) ?_
                      exact y_zret X hr (by rfl) dX5_isNumber_183 rfl (by have g8 := gD.symm.trans (dg_end (by omega)); have g2 : nmP G ln lw mo u0 = p9 := (if_pos gO).trans (by rw [g8]); have g3 : nmV G ln lw mo u0 = (nI (v9)) := (if_neg gB).trans (by rw [g8]); rw [g2]; exact ⟨congrArg (fun z => some (Value.int z)) (bI_1 gO).symm, ⟨_, h_29, fun _ => g3.symm⟩, (fun i9 g9 => by rw [eC_28, va_up, if_neg (by omega)]; rw [gF2 i9 g9])⟩)
                    ·
                      exact absurd c_26 (by decide)
                  ·
                    refine y_aload_n X dX5_isNumber_125 0 rfl ?_
                    refine y_bipush X (v := (10)) dX5_isNumber_126 (by decide) ?_
                    refine y_aload_n X dX5_isNumber_128 0 rfl ?_
                    refine y_get X (61) 5 9 (Cn := RX5) (T := TX5) (N := 14) (index := 141) (v := .int (nI (v9))) dX5_isNumber_129 (by omega) k0 rfl (by decide) inX5 (by decide +kernel : Cond.fieldLink RX5 141 "ColumnSeasonsModel" "value" "I" ∈ wsX5_isNumber) rfl rfl ?_
                    refine y_imul X (z := (nI ((10) * (v9)))) dX5_isNumber_132 (pk_mul (10) (v9)) ?_
                    refine y_aload_n X dX5_isNumber_133 0 rfl ?_
                    refine y_get X (61) 5 6 (Cn := RX5) (T := TX5) (N := 14) (index := 22) (v := .ref (E.2.1 (66))) dX5_isNumber_134 (by omega) k0 rfl (by decide) inX5 (by decide +kernel : Cond.fieldLink RX5 22 "ColumnSeasonsModel" "text" "[I" ∈ wsX5_isNumber) rfl rfl ?_
                    refine y_aload_n X dX5_isNumber_137 0 rfl ?_
                    refine y_get X (61) 5 8 (Cn := RX5) (T := TX5) (N := 14) (index := 131) (v := .int (nI (p9))) dX5_isNumber_138 (by omega) k0 rfl (by decide) inX5 (by decide +kernel : Cond.fieldLink RX5 131 "ColumnSeasonsModel" "at" "I" ∈ wsX5_isNumber) rfl rfl ?_
                    refine y_iald X (66) dX5_isNumber_141 (by omega) k6 (j := p9) rfl (by omega) (by omega) (z := (nI (G (p9)))) (gX (p9) (by omega)) ?_
                    refine y_iadd X (z := (nI ((10) * (v9) + G (p9)))) dX5_isNumber_142 (nI_add ((10) * (v9)) (G (p9))) ?_
                    refine y_bipush X (v := (48)) dX5_isNumber_143 (by decide) ?_
                    refine y_isub X (z := (nI (((10) * (v9) + G (p9)) - (48)))) dX5_isNumber_145 (pk_sub (a := (10) * (v9) + G (p9)) (b := 48) (by omega)) ?_
                    refine y_put X (61) 5 9 (Cn := RX5) (T := TX5) (N := 14) (index := 141) tyX5 (v := .int (nI (((10) * (v9) + G (p9)) - (48)))) dX5_isNumber_146 (by omega) k0 rfl (by decide) inX5 (by decide +kernel : Cond.fieldLink RX5 141 "ColumnSeasonsModel" "value" "I" ∈ wsX5_isNumber) rfl tyX5_ok nmX5 rfl rfl rfl (Nat.le_of_ble_eq_true rfl) ?_
                    refine y_mem (va_up C2 (61) (.inr (5, [.ref (E.2.1 (62)), .ref (E.2.1 (63)), .ref (E.2.1 (64)), .int (nI (hn)), .ref (E.2.1 (65)), .int fl, .ref (E.2.1 (66)), .int (nI (ln)), .int (nI (p9)), .int (nI (((10) * (v9) + G (p9)) - (48))), .int so, .int se, .ref (E.2.1 (67)), .int (nI (tl))]))) rfl (fun C_31 eC_32 => ?_)
                    have h_33 : C_31 (61) = .inr (5, [.ref (E.2.1 (62)), .ref (E.2.1 (63)), .ref (E.2.1 (64)), .int (nI (hn)), .ref (E.2.1 (65)), .int fl, .ref (E.2.1 (66)), .int (nI (ln)), .int (nI (p9)), .int (nI (((10) * (v9) + G (p9)) - (48))), .int so, .int se, .ref (E.2.1 (67)), .int (nI (tl))]) := by rw [eC_32, va_up, if_pos rfl]
                    have h_34 : C_31 (66) = .inl (E.2.2.1 1, 80, .inl zx) := by rw [eC_32, va_up, if_neg (by omega)]; exact k6
                    refine y_aload_n X dX5_isNumber_149 0 rfl ?_
                    refine y_dup X dX5_isNumber_150 rfl ?_
                    refine y_get X (61) 5 8 (Cn := RX5) (T := TX5) (N := 14) (index := 131) (v := .int (nI (p9))) dX5_isNumber_151 (by omega) h_33 rfl (by decide) inX5 (by decide +kernel : Cond.fieldLink RX5 131 "ColumnSeasonsModel" "at" "I" ∈ wsX5_isNumber) rfl rfl ?_
                    refine y_iconst X (v := (1)) dX5_isNumber_154 (by decide) ?_
                    refine y_iadd X (z := (nI (p9 + 1))) dX5_isNumber_155 (nI_add (p9) (1)) ?_
                    refine y_put X (61) 5 8 (Cn := RX5) (T := TX5) (N := 14) (index := 131) tyX5 (v := .int (nI (p9 + 1))) dX5_isNumber_156 (by omega) h_33 rfl (by decide) inX5 (by decide +kernel : Cond.fieldLink RX5 131 "ColumnSeasonsModel" "at" "I" ∈ wsX5_isNumber) rfl tyX5_ok nmX5 rfl rfl rfl (Nat.le_of_ble_eq_true rfl) ?_
                    refine y_mem (va_up C_31 (61) (.inr (5, [.ref (E.2.1 (62)), .ref (E.2.1 (63)), .ref (E.2.1 (64)), .int (nI (hn)), .ref (E.2.1 (65)), .int fl, .ref (E.2.1 (66)), .int (nI (ln)), .int (nI (p9 + 1)), .int (nI (((10) * (v9) + G (p9)) - (48))), .int so, .int se, .ref (E.2.1 (67)), .int (nI (tl))]))) rfl (fun C_35 eC_36 => ?_)
                    have h_37 : C_35 (61) = .inr (5, [.ref (E.2.1 (62)), .ref (E.2.1 (63)), .ref (E.2.1 (64)), .int (nI (hn)), .ref (E.2.1 (65)), .int fl, .ref (E.2.1 (66)), .int (nI (ln)), .int (nI (p9 + 1)), .int (nI (((10) * (v9) + G (p9)) - (48))), .int so, .int se, .ref (E.2.1 (67)), .int (nI (tl))]) := by rw [eC_36, va_up, if_pos rfl]
                    have h_38 : C_35 (66) = .inl (E.2.2.1 1, 80, .inl zx) := by rw [eC_36, va_up, if_neg (by omega)]; exact h_34
                    refine y_goto X 83 dX5_isNumber_159 (by decide) ?_
                    exact ih83 (C_35) (p9 + 1) (((10) * (v9) + G (p9)) - (48)) (by omega) h_37 h_38 (fun i9 g9 => by rw [eC_36, va_up, if_neg (by omega)]; rw [eC_32, va_up, if_neg (by omega)]; rw [gF2 i9 g9]) (by omega) (by omega) (by rw [← gD, dg_go (G := G) (ln := ln) (mo := mo) (p := p9) (v := v9) (by omega)]; exact congrArg (dgF G ln mo (ln - (p9 + 1)) (p9 + 1)) (by omega))
          refine y_pick [1, 2, 3, 0] [(0, .ref (E.2.1 (61))), (1, .int lw), (2, .int (nI (mo))), (3, .int (0))] rfl ?_
          exact L_83 _ (C_9) (u0 + 1) ((G (u0)) - (48)) (Nat.lt_succ_self _) h_11 h_12 (fun i9 g9 => by rw [eC_10, va_up, if_neg (by omega)]; rw [eC_6, va_up, if_neg (by omega)]) (by omega) (by omega) (by rw [nmD, g1])
        ·
          refine y_iconst X (v := (0)) dX5_isNumber_55 (by decide) ?_
          exact y_zret X hr (by rfl) dX5_isNumber_56 rfl (by have gN : ¬ nmO G ln lw mo u0 := (fun z => by unfold nmO at z; rw [g1, if_neg gB] at z; omega); have g2 : nmP G ln lw mo u0 = u0 := (if_neg gN).trans g1; rw [g2]; exact ⟨congrArg (fun z => some (Value.int z)) (bI_0 gN).symm, ⟨_, m0, fun z => absurd z gN⟩, (fun _ _ => rfl)⟩)
    ·
      exact absurd c_2 (by decide)
  ·
    refine y_aload_n X dX5_isNumber_4 0 rfl ?_
    refine y_bipush X (v := (45)) dX5_isNumber_5 (by decide) ?_
    refine y_callV X (61) 5 (av := [.int (45)]) [] 1 (c_X5_sign (G := G) (u0 := u0) (tl := tl) (by omega) gl80 gX gG m0 m6 (c0 := 45) (by omega)) (by omega) m0 rfl gX5_isNumber_X5_sign rfl (by decide +kernel) rfl ⟨Nat.le_of_ble_eq_true rfl, Nat.le_of_ble_eq_true rfl⟩ ⟨Nat.zero_le _, Nat.zero_le _⟩ (Nat.le_of_ble_eq_true rfl) rfl dX5_isNumber_7 (fun v_39 C_40 hp_41 => ?_)
    obtain ⟨gv42, gM42, gF42⟩ := hp_41
    rcases Decidable.em (chA G ln (u0) (45)) with cs42 | cs42
    ·
      rw [bI_1 cs42] at gv42
      subst gv42
      rw [if_pos cs42] at gM42
      have gb42 := cs42.1
      have h_43 : C_40 (66) = .inl (E.2.2.1 1, 80, .inl zx) := (gF42 _ (by omega)).trans m6
      refine y_if_eq X 17 ((1) = (0)) dX5_isNumber_10 (by decide) (nI_eq (a := 1) (b := 0) (by omega) (by omega)) (fun c_44 => ?_) (fun c_44 => ?_)
      ·
        exact absurd c_44 (by decide)
      ·
        refine y_iconst X (v := (1)) dX5_isNumber_13 (by decide) ?_
        refine y_goto X 18 dX5_isNumber_14 (by decide) ?_
        refine y_istore_n X [(3, .int (1)), (0, .ref (E.2.1 (61))), (1, .int lw), (2, .int (nI (mo)))] dX5_isNumber_18 rfl (by decide) rfl ?_
        have gB : nmB G ln lw u0 := ⟨by omega, cs42⟩
        have g1 : nm1 G ln lw u0 = u0 + 1 := if_pos gB
        refine y_aload_n X dX5_isNumber_19 1 rfl ?_
        refine y_iload_n X dX5_isNumber_20 0 rfl ?_
        refine y_if_eq X 29 ((1) = (0)) dX5_isNumber_21 (by decide) (nI_eq (a := 1) (b := 0) (by omega) (by omega)) (fun c_45 => ?_) (fun c_45 => ?_)
        ·
          exact absurd c_45 (by decide)
        ·
          refine y_bipush X (v := (49)) dX5_isNumber_24 (by decide) ?_
          refine y_goto X 31 dX5_isNumber_26 (by decide) ?_
          refine y_bipush X (v := (57)) dX5_isNumber_31 (by decide) ?_
          refine y_callVr X (61) 5 (av := [.int (49), .int (57)]) [] 2 (c_X5_isAt (G := G) (u0 := u0 + 1) (tl := tl) (by omega) gl80 gX gG gM42 h_43 (lo0 := 49) (hi0 := 57) (by omega) (by omega)) (by omega) gM42 rfl gX5_isNumber_X5_isAt rfl (by decide +kernel) rfl ⟨Nat.le_of_ble_eq_true rfl, Nat.le_of_ble_eq_true rfl⟩ ⟨Nat.zero_le _, Nat.zero_le _⟩ (Nat.le_of_ble_eq_true rfl) rfl dX5_isNumber_33 ?_
          refine y_if_eq X 55 (¬ ((u0 + 1) < ln ∧ ((49) ≤ G (u0 + 1) ∧ G (u0 + 1) ≤ (57)))) dX5_isNumber_36 (by decide) bI_eq (fun c_46 => ?_) (fun c_46 => ?_)
          ·
            refine y_iconst X (v := (0)) dX5_isNumber_55 (by decide) ?_
            exact y_zret X hr (by rfl) dX5_isNumber_56 rfl (by have gN : ¬ nmO G ln lw mo u0 := (fun z => by unfold nmO at z; rw [g1, if_pos gB] at z; omega); have g2 : nmP G ln lw mo u0 = u0 + 1 := (if_neg gN).trans g1; rw [g2]; exact ⟨congrArg (fun z => some (Value.int z)) (bI_0 gN).symm, ⟨_, gM42, fun z => absurd z gN⟩, (fun i9 g9 => by rw [gF42 i9 (by omega)])⟩)
          ·
            have c_46 := Decidable.of_not_not c_46
            refine y_aload_n X dX5_isNumber_39 1 rfl ?_
            refine y_get X (61) 5 6 (Cn := RX5) (T := TX5) (N := 14) (index := 22) (v := .ref (E.2.1 (66))) dX5_isNumber_40 (by omega) gM42 rfl (by decide) inX5 (by decide +kernel : Cond.fieldLink RX5 22 "ColumnSeasonsModel" "text" "[I" ∈ wsX5_isNumber) rfl rfl ?_
            refine y_aload_n X dX5_isNumber_43 1 rfl ?_
            refine y_get X (61) 5 8 (Cn := RX5) (T := TX5) (N := 14) (index := 131) (v := .int (nI (u0 + 1))) dX5_isNumber_44 (by omega) gM42 rfl (by decide) inX5 (by decide +kernel : Cond.fieldLink RX5 131 "ColumnSeasonsModel" "at" "I" ∈ wsX5_isNumber) rfl rfl ?_
            refine y_iald X (66) dX5_isNumber_47 (by omega) h_43 (j := u0 + 1) rfl (by omega) (by omega) (z := (nI (G (u0 + 1)))) (gX (u0 + 1) (by omega)) ?_
            refine y_bipush X (v := (48)) dX5_isNumber_48 (by decide) ?_
            refine y_isub X (z := (nI ((G (u0 + 1)) - (48)))) dX5_isNumber_50 (pk_sub (a := G (u0 + 1)) (b := 48) (by omega)) ?_
            refine y_iload_n X dX5_isNumber_51 3 rfl ?_
            refine y_icmp_le X 57 (((G (u0 + 1)) - (48)) ≤ (mo)) dX5_isNumber_52 (by decide) (nI_leI (a := (G (u0 + 1)) - (48)) (b := mo) (by omega) (by omega)) (fun c_47 => ?_) (fun c_47 => ?_)
            ·
              have gO : nmO G ln lw mo u0 := by unfold nmO; rw [g1, if_pos gB]; omega
              refine y_aload_n X dX5_isNumber_57 1 rfl ?_
              refine y_aload_n X dX5_isNumber_58 1 rfl ?_
              refine y_get X (61) 5 6 (Cn := RX5) (T := TX5) (N := 14) (index := 22) (v := .ref (E.2.1 (66))) dX5_isNumber_59 (by omega) gM42 rfl (by decide) inX5 (by decide +kernel : Cond.fieldLink RX5 22 "ColumnSeasonsModel" "text" "[I" ∈ wsX5_isNumber) rfl rfl ?_
              refine y_aload_n X dX5_isNumber_62 1 rfl ?_
              refine y_get X (61) 5 8 (Cn := RX5) (T := TX5) (N := 14) (index := 131) (v := .int (nI (u0 + 1))) dX5_isNumber_63 (by omega) gM42 rfl (by decide) inX5 (by decide +kernel : Cond.fieldLink RX5 131 "ColumnSeasonsModel" "at" "I" ∈ wsX5_isNumber) rfl rfl ?_
              refine y_iald X (66) dX5_isNumber_66 (by omega) h_43 (j := u0 + 1) rfl (by omega) (by omega) (z := (nI (G (u0 + 1)))) (gX (u0 + 1) (by omega)) ?_
              refine y_bipush X (v := (48)) dX5_isNumber_67 (by decide) ?_
              refine y_isub X (z := (nI ((G (u0 + 1)) - (48)))) dX5_isNumber_69 (pk_sub (a := G (u0 + 1)) (b := 48) (by omega)) ?_
              refine y_put X (61) 5 9 (Cn := RX5) (T := TX5) (N := 14) (index := 141) tyX5 (v := .int (nI ((G (u0 + 1)) - (48)))) dX5_isNumber_70 (by omega) gM42 rfl (by decide) inX5 (by decide +kernel : Cond.fieldLink RX5 141 "ColumnSeasonsModel" "value" "I" ∈ wsX5_isNumber) rfl tyX5_ok nmX5 rfl rfl rfl (Nat.le_of_ble_eq_true rfl) ?_
              refine y_mem (va_up C_40 (61) (.inr (5, [.ref (E.2.1 (62)), .ref (E.2.1 (63)), .ref (E.2.1 (64)), .int (nI (hn)), .ref (E.2.1 (65)), .int fl, .ref (E.2.1 (66)), .int (nI (ln)), .int (nI (u0 + 1)), .int (nI ((G (u0 + 1)) - (48))), .int so, .int se, .ref (E.2.1 (67)), .int (nI (tl))]))) rfl (fun C_48 eC_49 => ?_)
              have h_50 : C_48 (61) = .inr (5, [.ref (E.2.1 (62)), .ref (E.2.1 (63)), .ref (E.2.1 (64)), .int (nI (hn)), .ref (E.2.1 (65)), .int fl, .ref (E.2.1 (66)), .int (nI (ln)), .int (nI (u0 + 1)), .int (nI ((G (u0 + 1)) - (48))), .int so, .int se, .ref (E.2.1 (67)), .int (nI (tl))]) := by rw [eC_49, va_up, if_pos rfl]
              have h_51 : C_48 (66) = .inl (E.2.2.1 1, 80, .inl zx) := by rw [eC_49, va_up, if_neg (by omega)]; exact h_43
              refine y_aload_n X dX5_isNumber_73 1 rfl ?_
              refine y_dup X dX5_isNumber_74 rfl ?_
              refine y_get X (61) 5 8 (Cn := RX5) (T := TX5) (N := 14) (index := 131) (v := .int (nI (u0 + 1))) dX5_isNumber_75 (by omega) h_50 rfl (by decide) inX5 (by decide +kernel : Cond.fieldLink RX5 131 "ColumnSeasonsModel" "at" "I" ∈ wsX5_isNumber) rfl rfl ?_
              refine y_iconst X (v := (1)) dX5_isNumber_78 (by decide) ?_
              refine y_iadd X (z := (nI (u0 + 1 + 1))) dX5_isNumber_79 (nI_add (u0 + 1) (1)) ?_
              refine y_put X (61) 5 8 (Cn := RX5) (T := TX5) (N := 14) (index := 131) tyX5 (v := .int (nI (u0 + 1 + 1))) dX5_isNumber_80 (by omega) h_50 rfl (by decide) inX5 (by decide +kernel : Cond.fieldLink RX5 131 "ColumnSeasonsModel" "at" "I" ∈ wsX5_isNumber) rfl tyX5_ok nmX5 rfl rfl rfl (Nat.le_of_ble_eq_true rfl) ?_
              refine y_mem (va_up C_48 (61) (.inr (5, [.ref (E.2.1 (62)), .ref (E.2.1 (63)), .ref (E.2.1 (64)), .int (nI (hn)), .ref (E.2.1 (65)), .int fl, .ref (E.2.1 (66)), .int (nI (ln)), .int (nI (u0 + 1 + 1)), .int (nI ((G (u0 + 1)) - (48))), .int so, .int se, .ref (E.2.1 (67)), .int (nI (tl))]))) rfl (fun C_52 eC_53 => ?_)
              have h_54 : C_52 (61) = .inr (5, [.ref (E.2.1 (62)), .ref (E.2.1 (63)), .ref (E.2.1 (64)), .int (nI (hn)), .ref (E.2.1 (65)), .int fl, .ref (E.2.1 (66)), .int (nI (ln)), .int (nI (u0 + 1 + 1)), .int (nI ((G (u0 + 1)) - (48))), .int so, .int se, .ref (E.2.1 (67)), .int (nI (tl))]) := by rw [eC_53, va_up, if_pos rfl]
              have h_55 : C_52 (66) = .inl (E.2.2.1 1, 80, .inl zx) := by rw [eC_53, va_up, if_neg (by omega)]; exact h_51
              have L_83 : ∀ (n : Nat) (C2 : xC) (p9 : Nat) (v9 : Nat), ln - p9 < n → (C2 (61) = .inr (5, [.ref (E.2.1 (62)), .ref (E.2.1 (63)), .ref (E.2.1 (64)), .int (nI (hn)), .ref (E.2.1 (65)), .int fl, .ref (E.2.1 (66)), .int (nI (ln)), .int (nI (p9)), .int (nI (v9)), .int so, .int se, .ref (E.2.1 (67)), .int (nI (tl))])) → (C2 (66) = .inl (E.2.2.1 1, 80, .inl zx)) → (∀ i9 : Nat, ¬ i9 = 61 → C2 i9 = C i9) → (p9 ≤ ln) → (v9 ≤ mo) → (dgF G ln mo (ln - p9) p9 v9 = nmD G ln lw mo u0) → xY p l e ({ frames := 3, cells := 0, slots := 0, locals := 66 } : Room) s m args below meth c E (xA E) 4 0 0 (MQ below (xQ E (fun v C1 => v = some (.int (bI (nmO G ln lw mo u0))) ∧ (∃ va2 : Int32, C1 (61) = .inr (5, [.ref (E.2.1 (62)), .ref (E.2.1 (63)), .ref (E.2.1 (64)), .int (nI (hn)), .ref (E.2.1 (65)), .int fl, .ref (E.2.1 (66)), .int (nI (ln)), .int (nI (nmP G ln lw mo u0)), .int va2, .int so, .int se, .ref (E.2.1 (67)), .int (nI (tl))]) ∧ ((nmO G ln lw mo u0) → va2 = nmV G ln lw mo u0)) ∧ (∀ i : Nat, ¬ i = 61 → C1 i = C i))) args s 0 0 (xA E)) C2 83 [(0, .ref (E.2.1 (61))), (1, .int lw), (2, .int (nI (mo))), (3, .int (1))] [] := by
                intro n83
                induction n83 with
                | zero => intro _ _ _ hm83; exact absurd hm83 (Nat.not_lt_zero _)
                | succ n83 ih83 =>
                  intro C2 p9 v9 hm83 k0 k6 gF2 gp9 gv9 gD
                  refine y_aload_n X dX5_isNumber_83 0 rfl ?_
                  refine y_get X (61) 5 9 (Cn := RX5) (T := TX5) (N := 14) (index := 141) (v := .int (nI (v9))) dX5_isNumber_84 (by omega) k0 rfl (by decide) inX5 (by decide +kernel : Cond.fieldLink RX5 141 "ColumnSeasonsModel" "value" "I" ∈ wsX5_isNumber) rfl rfl ?_
                  refine y_if_le X 162 ((v9) ≤ (0)) dX5_isNumber_87 (by decide) (nI_leI (a := v9) (b := 0) (by omega) (by omega)) (fun c_56 => ?_) (fun c_56 => ?_)
                  ·
                    refine y_aload_n X dX5_isNumber_162 0 rfl ?_
                    refine y_iload_n X dX5_isNumber_163 3 rfl ?_
                    refine y_if_eq X 175 ((1) = (0)) dX5_isNumber_164 (by decide) (nI_eq (a := 1) (b := 0) (by omega) (by omega)) (fun c_57 => ?_) (fun c_57 => ?_)
                    ·
                      exact absurd c_57 (by decide)
                    ·
                      refine y_aload_n X dX5_isNumber_167 0 rfl ?_
                      refine y_get X (61) 5 9 (Cn := RX5) (T := TX5) (N := 14) (index := 141) (v := .int (nI (v9))) dX5_isNumber_168 (by omega) k0 rfl (by decide) inX5 (by decide +kernel : Cond.fieldLink RX5 141 "ColumnSeasonsModel" "value" "I" ∈ wsX5_isNumber) rfl rfl ?_
                      refine y_ineg X (z := (-(nI (v9)))) dX5_isNumber_171 rfl ?_
                      refine y_goto X 179 dX5_isNumber_172 (by decide) ?_
                      refine y_put X (61) 5 9 (Cn := RX5) (T := TX5) (N := 14) (index := 141) tyX5 (v := .int (-(nI (v9)))) dX5_isNumber_179 (by omega) k0 rfl (by decide) inX5 (by decide +kernel : Cond.fieldLink RX5 141 "ColumnSeasonsModel" "value" "I" ∈ wsX5_isNumber) rfl tyX5_ok nmX5 rfl rfl rfl (Nat.le_of_ble_eq_true rfl) ?_
                      refine y_mem (va_up C2 (61) (.inr (5, [.ref (E.2.1 (62)), .ref (E.2.1 (63)), .ref (E.2.1 (64)), .int (nI (hn)), .ref (E.2.1 (65)), .int fl, .ref (E.2.1 (66)), .int (nI (ln)), .int (nI (p9)), .int (-(nI (v9))), .int so, .int se, .ref (E.2.1 (67)), .int (nI (tl))]))) rfl (fun C_58 eC_59 => ?_)
                      have h_60 : C_58 (61) = .inr (5, [.ref (E.2.1 (62)), .ref (E.2.1 (63)), .ref (E.2.1 (64)), .int (nI (hn)), .ref (E.2.1 (65)), .int fl, .ref (E.2.1 (66)), .int (nI (ln)), .int (nI (p9)), .int (-(nI (v9))), .int so, .int se, .ref (E.2.1 (67)), .int (nI (tl))]) := by rw [eC_59, va_up, if_pos rfl]
                      have h_61 : C_58 (66) = .inl (E.2.2.1 1, 80, .inl zx) := by rw [eC_59, va_up, if_neg (by omega)]; exact k6
                      refine y_iconst X (v := (1)) dX5_isNumber_182 (by decide) ?_
                      exact y_zret X hr (by rfl) dX5_isNumber_183 rfl (by have g8 := gD.symm.trans (dg_end (by omega)); have g2 : nmP G ln lw mo u0 = p9 := (if_pos gO).trans (by rw [g8]); have g3 : nmV G ln lw mo u0 = (-(nI (v9))) := (if_pos gB).trans (by rw [g8]); rw [g2]; exact ⟨congrArg (fun z => some (Value.int z)) (bI_1 gO).symm, ⟨_, h_60, fun _ => g3.symm⟩, (fun i9 g9 => by rw [eC_59, va_up, if_neg (by omega)]; rw [gF2 i9 g9])⟩)
                  ·
                    refine y_aload_n X dX5_isNumber_90 0 rfl ?_
                    refine y_bipush X (v := (48)) dX5_isNumber_91 (by decide) ?_
                    refine y_bipush X (v := (57)) dX5_isNumber_93 (by decide) ?_
                    refine y_callVr X (61) 5 (av := [.int (48), .int (57)]) [] 2 (c_X5_isAt (G := G) (u0 := p9) (tl := tl) (by omega) gl80 gX gG k0 k6 (lo0 := 48) (hi0 := 57) (by omega) (by omega)) (by omega) k0 rfl gX5_isNumber_X5_isAt rfl (by decide +kernel) rfl ⟨Nat.le_of_ble_eq_true rfl, Nat.le_of_ble_eq_true rfl⟩ ⟨Nat.zero_le _, Nat.zero_le _⟩ (Nat.le_of_ble_eq_true rfl) rfl dX5_isNumber_95 ?_
                    refine y_if_eq X 162 (¬ ((p9) < ln ∧ ((48) ≤ G (p9) ∧ G (p9) ≤ (57)))) dX5_isNumber_98 (by decide) bI_eq (fun c_62 => ?_) (fun c_62 => ?_)
                    ·
                      refine y_aload_n X dX5_isNumber_162 0 rfl ?_
                      refine y_iload_n X dX5_isNumber_163 3 rfl ?_
                      refine y_if_eq X 175 ((1) = (0)) dX5_isNumber_164 (by decide) (nI_eq (a := 1) (b := 0) (by omega) (by omega)) (fun c_63 => ?_) (fun c_63 => ?_)
                      ·
                        exact absurd c_63 (by decide)
                      ·
                        refine y_aload_n X dX5_isNumber_167 0 rfl ?_
                        refine y_get X (61) 5 9 (Cn := RX5) (T := TX5) (N := 14) (index := 141) (v := .int (nI (v9))) dX5_isNumber_168 (by omega) k0 rfl (by decide) inX5 (by decide +kernel : Cond.fieldLink RX5 141 "ColumnSeasonsModel" "value" "I" ∈ wsX5_isNumber) rfl rfl ?_
                        refine y_ineg X (z := (-(nI (v9)))) dX5_isNumber_171 rfl ?_
                        refine y_goto X 179 dX5_isNumber_172 (by decide) ?_
                        refine y_put X (61) 5 9 (Cn := RX5) (T := TX5) (N := 14) (index := 141) tyX5 (v := .int (-(nI (v9)))) dX5_isNumber_179 (by omega) k0 rfl (by decide) inX5 (by decide +kernel : Cond.fieldLink RX5 141 "ColumnSeasonsModel" "value" "I" ∈ wsX5_isNumber) rfl tyX5_ok nmX5 rfl rfl rfl (Nat.le_of_ble_eq_true rfl) ?_
                        refine y_mem (va_up C2 (61) (.inr (5, [.ref (E.2.1 (62)), .ref (E.2.1 (63)), .ref (E.2.1 (64)), .int (nI (hn)), .ref (E.2.1 (65)), .int fl, .ref (E.2.1 (66)), .int (nI (ln)), .int (nI (p9)), .int (-(nI (v9))), .int so, .int se, .ref (E.2.1 (67)), .int (nI (tl))]))) rfl (fun C_64 eC_65 => ?_)
                        have h_66 : C_64 (61) = .inr (5, [.ref (E.2.1 (62)), .ref (E.2.1 (63)), .ref (E.2.1 (64)), .int (nI (hn)), .ref (E.2.1 (65)), .int fl, .ref (E.2.1 (66)), .int (nI (ln)), .int (nI (p9)), .int (-(nI (v9))), .int so, .int se, .ref (E.2.1 (67)), .int (nI (tl))]) := by rw [eC_65, va_up, if_pos rfl]
                        have h_67 : C_64 (66) = .inl (E.2.2.1 1, 80, .inl zx) := by rw [eC_65, va_up, if_neg (by omega)]; exact k6
                        refine y_iconst X (v := (1)) dX5_isNumber_182 (by decide) ?_
                        exact y_zret X hr (by rfl) dX5_isNumber_183 rfl (by have g8 := gD.symm.trans (dg_end (by omega)); have g2 : nmP G ln lw mo u0 = p9 := (if_pos gO).trans (by rw [g8]); have g3 : nmV G ln lw mo u0 = (-(nI (v9))) := (if_pos gB).trans (by rw [g8]); rw [g2]; exact ⟨congrArg (fun z => some (Value.int z)) (bI_1 gO).symm, ⟨_, h_66, fun _ => g3.symm⟩, (fun i9 g9 => by rw [eC_65, va_up, if_neg (by omega)]; rw [gF2 i9 g9])⟩)
                    ·
                      have c_62 := Decidable.of_not_not c_62
                      refine y_bipush X (v := (10)) dX5_isNumber_101 (by decide) ?_
                      refine y_aload_n X dX5_isNumber_103 0 rfl ?_
                      refine y_get X (61) 5 9 (Cn := RX5) (T := TX5) (N := 14) (index := 141) (v := .int (nI (v9))) dX5_isNumber_104 (by omega) k0 rfl (by decide) inX5 (by decide +kernel : Cond.fieldLink RX5 141 "ColumnSeasonsModel" "value" "I" ∈ wsX5_isNumber) rfl rfl ?_
                      refine y_imul X (z := (nI ((10) * (v9)))) dX5_isNumber_107 (pk_mul (10) (v9)) ?_
                      refine y_aload_n X dX5_isNumber_108 0 rfl ?_
                      refine y_get X (61) 5 6 (Cn := RX5) (T := TX5) (N := 14) (index := 22) (v := .ref (E.2.1 (66))) dX5_isNumber_109 (by omega) k0 rfl (by decide) inX5 (by decide +kernel : Cond.fieldLink RX5 22 "ColumnSeasonsModel" "text" "[I" ∈ wsX5_isNumber) rfl rfl ?_
                      refine y_aload_n X dX5_isNumber_112 0 rfl ?_
                      refine y_get X (61) 5 8 (Cn := RX5) (T := TX5) (N := 14) (index := 131) (v := .int (nI (p9))) dX5_isNumber_113 (by omega) k0 rfl (by decide) inX5 (by decide +kernel : Cond.fieldLink RX5 131 "ColumnSeasonsModel" "at" "I" ∈ wsX5_isNumber) rfl rfl ?_
                      refine y_iald X (66) dX5_isNumber_116 (by omega) k6 (j := p9) rfl (by omega) (by omega) (z := (nI (G (p9)))) (gX (p9) (by omega)) ?_
                      refine y_iadd X (z := (nI ((10) * (v9) + G (p9)))) dX5_isNumber_117 (nI_add ((10) * (v9)) (G (p9))) ?_
                      refine y_bipush X (v := (48)) dX5_isNumber_118 (by decide) ?_
                      refine y_isub X (z := (nI (((10) * (v9) + G (p9)) - (48)))) dX5_isNumber_120 (pk_sub (a := (10) * (v9) + G (p9)) (b := 48) (by omega)) ?_
                      refine y_iload_n X dX5_isNumber_121 2 rfl ?_
                      refine y_icmp_gt X 162 ((mo) < (((10) * (v9) + G (p9)) - (48))) dX5_isNumber_122 (by decide) (nI_ltI (a := mo) (b := ((10) * (v9) + G (p9)) - (48)) (by omega) (by omega)) (fun c_68 => ?_) (fun c_68 => ?_)
                      ·
                        refine y_aload_n X dX5_isNumber_162 0 rfl ?_
                        refine y_iload_n X dX5_isNumber_163 3 rfl ?_
                        refine y_if_eq X 175 ((1) = (0)) dX5_isNumber_164 (by decide) (nI_eq (a := 1) (b := 0) (by omega) (by omega)) (fun c_69 => ?_) (fun c_69 => ?_)
                        ·
                          exact absurd c_69 (by decide)
                        ·
                          refine y_aload_n X dX5_isNumber_167 0 rfl ?_
                          refine y_get X (61) 5 9 (Cn := RX5) (T := TX5) (N := 14) (index := 141) (v := .int (nI (v9))) dX5_isNumber_168 (by omega) k0 rfl (by decide) inX5 (by decide +kernel : Cond.fieldLink RX5 141 "ColumnSeasonsModel" "value" "I" ∈ wsX5_isNumber) rfl rfl ?_
                          refine y_ineg X (z := (-(nI (v9)))) dX5_isNumber_171 rfl ?_
                          refine y_goto X 179 dX5_isNumber_172 (by decide) ?_
                          refine y_put X (61) 5 9 (Cn := RX5) (T := TX5) (N := 14) (index := 141) tyX5 (v := .int (-(nI (v9)))) dX5_isNumber_179 (by omega) k0 rfl (by decide) inX5 (by decide +kernel : Cond.fieldLink RX5 141 "ColumnSeasonsModel" "value" "I" ∈ wsX5_isNumber) rfl tyX5_ok nmX5 rfl rfl rfl (Nat.le_of_ble_eq_true rfl) ?_
                          refine y_mem (va_up C2 (61) (.inr (5, [.ref (E.2.1 (62)), .ref (E.2.1 (63)), .ref (E.2.1 (64)), .int (nI (hn)), .ref (E.2.1 (65)), .int fl, .ref (E.2.1 (66)), .int (nI (ln)), .int (nI (p9)), .int (-(nI (v9))), .int so, .int se, .ref (E.2.1 (67)), .int (nI (tl))]))) rfl (fun C_70 eC_71 => ?_)
                          have h_72 : C_70 (61) = .inr (5, [.ref (E.2.1 (62)), .ref (E.2.1 (63)), .ref (E.2.1 (64)), .int (nI (hn)), .ref (E.2.1 (65)), .int fl, .ref (E.2.1 (66)), .int (nI (ln)), .int (nI (p9)), .int (-(nI (v9))), .int so, .int se, .ref (E.2.1 (67)), .int (nI (tl))]) := by rw [eC_71, va_up, if_pos rfl]
                          have h_73 : C_70 (66) = .inl (E.2.2.1 1, 80, .inl zx) := by rw [eC_71, va_up, if_neg (by omega)]; exact k6
                          refine y_iconst X (v := (1)) dX5_isNumber_182 (by decide) ?_
                          exact y_zret X hr (by rfl) dX5_isNumber_183 rfl (by have g8 := gD.symm.trans (dg_end (by omega)); have g2 : nmP G ln lw mo u0 = p9 := (if_pos gO).trans (by rw [g8]); have g3 : nmV G ln lw mo u0 = (-(nI (v9))) := (if_pos gB).trans (by rw [g8]); rw [g2]; exact ⟨congrArg (fun z => some (Value.int z)) (bI_1 gO).symm, ⟨_, h_72, fun _ => g3.symm⟩, (fun i9 g9 => by rw [eC_71, va_up, if_neg (by omega)]; rw [gF2 i9 g9])⟩)
                      ·
                        refine y_aload_n X dX5_isNumber_125 0 rfl ?_
                        refine y_bipush X (v := (10)) dX5_isNumber_126 (by decide) ?_
                        refine y_aload_n X dX5_isNumber_128 0 rfl ?_
                        refine y_get X (61) 5 9 (Cn := RX5) (T := TX5) (N := 14) (index := 141) (v := .int (nI (v9))) dX5_isNumber_129 (by omega) k0 rfl (by decide) inX5 (by decide +kernel : Cond.fieldLink RX5 141 "ColumnSeasonsModel" "value" "I" ∈ wsX5_isNumber) rfl rfl ?_
                        refine y_imul X (z := (nI ((10) * (v9)))) dX5_isNumber_132 (pk_mul (10) (v9)) ?_
                        refine y_aload_n X dX5_isNumber_133 0 rfl ?_
                        refine y_get X (61) 5 6 (Cn := RX5) (T := TX5) (N := 14) (index := 22) (v := .ref (E.2.1 (66))) dX5_isNumber_134 (by omega) k0 rfl (by decide) inX5 (by decide +kernel : Cond.fieldLink RX5 22 "ColumnSeasonsModel" "text" "[I" ∈ wsX5_isNumber) rfl rfl ?_
                        refine y_aload_n X dX5_isNumber_137 0 rfl ?_
                        refine y_get X (61) 5 8 (Cn := RX5) (T := TX5) (N := 14) (index := 131) (v := .int (nI (p9))) dX5_isNumber_138 (by omega) k0 rfl (by decide) inX5 (by decide +kernel : Cond.fieldLink RX5 131 "ColumnSeasonsModel" "at" "I" ∈ wsX5_isNumber) rfl rfl ?_
                        refine y_iald X (66) dX5_isNumber_141 (by omega) k6 (j := p9) rfl (by omega) (by omega) (z := (nI (G (p9)))) (gX (p9) (by omega)) ?_
                        refine y_iadd X (z := (nI ((10) * (v9) + G (p9)))) dX5_isNumber_142 (nI_add ((10) * (v9)) (G (p9))) ?_
                        refine y_bipush X (v := (48)) dX5_isNumber_143 (by decide) ?_
                        refine y_isub X (z := (nI (((10) * (v9) + G (p9)) - (48)))) dX5_isNumber_145 (pk_sub (a := (10) * (v9) + G (p9)) (b := 48) (by omega)) ?_
                        refine y_put X (61) 5 9 (Cn := RX5) (T := TX5) (N := 14) (index := 141) tyX5 (v := .int (nI (((10) * (v9) + G (p9)) - (48)))) dX5_isNumber_146 (by omega) k0 rfl (by decide) inX5 (by decide +kernel : Cond.fieldLink RX5 141 "ColumnSeasonsModel" "value" "I" ∈ wsX5_isNumber) rfl tyX5_ok nmX5 rfl rfl rfl (Nat.le_of_ble_eq_true rfl) ?_
                        refine y_mem (va_up C2 (61) (.inr (5, [.ref (E.2.1 (62)), .ref (E.2.1 (63)), .ref (E.2.1 (64)), .int (nI (hn)), .ref (E.2.1 (65)), .int fl, .ref (E.2.1 (66)), .int (nI (ln)), .int (nI (p9)), .int (nI (((10) * (v9) + G (p9)) - (48))), .int so, .int se, .ref (E.2.1 (67)), .int (nI (tl))]))) rfl (fun C_74 eC_75 => ?_)
                        have h_76 : C_74 (61) = .inr (5, [.ref (E.2.1 (62)), .ref (E.2.1 (63)), .ref (E.2.1 (64)), .int (nI (hn)), .ref (E.2.1 (65)), .int fl, .ref (E.2.1 (66)), .int (nI (ln)), .int (nI (p9)), .int (nI (((10) * (v9) + G (p9)) - (48))), .int so, .int se, .ref (E.2.1 (67)), .int (nI (tl))]) := by rw [eC_75, va_up, if_pos rfl]
                        have h_77 : C_74 (66) = .inl (E.2.2.1 1, 80, .inl zx) := by rw [eC_75, va_up, if_neg (by omega)]; exact k6
                        refine y_aload_n X dX5_isNumber_149 0 rfl ?_
                        refine y_dup X dX5_isNumber_150 rfl ?_
                        refine y_get X (61) 5 8 (Cn := RX5) (T := TX5) (N := 14) (index := 131) (v := .int (nI (p9))) dX5_isNumber_151 (by omega) h_76 rfl (by decide) inX5 (by decide +kernel : Cond.fieldLink RX5 131 "ColumnSeasonsModel" "at" "I" ∈ wsX5_isNumber) rfl rfl ?_
                        refine y_iconst X (v := (1)) dX5_isNumber_154 (by decide) ?_
                        refine y_iadd X (z := (nI (p9 + 1))) dX5_isNumber_155 (nI_add (p9) (1)) ?_
                        refine y_put X (61) 5 8 (Cn := RX5) (T := TX5) (N := 14) (index := 131) tyX5 (v := .int (nI (p9 + 1))) dX5_isNumber_156 (by omega) h_76 rfl (by decide) inX5 (by decide +kernel : Cond.fieldLink RX5 131 "ColumnSeasonsModel" "at" "I" ∈ wsX5_isNumber) rfl tyX5_ok nmX5 rfl rfl rfl (Nat.le_of_ble_eq_true rfl) ?_
                        refine y_mem (va_up C_74 (61) (.inr (5, [.ref (E.2.1 (62)), .ref (E.2.1 (63)), .ref (E.2.1 (64)), .int (nI (hn)), .ref (E.2.1 (65)), .int fl, .ref (E.2.1 (66)), .int (nI (ln)), .int (nI (p9 + 1)), .int (nI (((10) * (v9) + G (p9)) - (48))), .int so, .int se, .ref (E.2.1 (67)), .int (nI (tl))]))) rfl (fun C_78 eC_79 => ?_)
                        have h_80 : C_78 (61) = .inr (5, [.ref (E.2.1 (62)), .ref (E.2.1 (63)), .ref (E.2.1 (64)), .int (nI (hn)), .ref (E.2.1 (65)), .int fl, .ref (E.2.1 (66)), .int (nI (ln)), .int (nI (p9 + 1)), .int (nI (((10) * (v9) + G (p9)) - (48))), .int so, .int se, .ref (E.2.1 (67)), .int (nI (tl))]) := by rw [eC_79, va_up, if_pos rfl]
                        have h_81 : C_78 (66) = .inl (E.2.2.1 1, 80, .inl zx) := by rw [eC_79, va_up, if_neg (by omega)]; exact h_77
                        refine y_goto X 83 dX5_isNumber_159 (by decide) ?_
                        exact ih83 (C_78) (p9 + 1) (((10) * (v9) + G (p9)) - (48)) (by omega) h_80 h_81 (fun i9 g9 => by rw [eC_79, va_up, if_neg (by omega)]; rw [eC_75, va_up, if_neg (by omega)]; rw [gF2 i9 g9]) (by omega) (by omega) (by rw [← gD, dg_go (G := G) (ln := ln) (mo := mo) (p := p9) (v := v9) (by omega)]; exact congrArg (dgF G ln mo (ln - (p9 + 1)) (p9 + 1)) (by omega))
              refine y_pick [1, 2, 3, 0] [(0, .ref (E.2.1 (61))), (1, .int lw), (2, .int (nI (mo))), (3, .int (1))] rfl ?_
              exact L_83 _ (C_52) (u0 + 1 + 1) ((G (u0 + 1)) - (48)) (Nat.lt_succ_self _) h_54 h_55 (fun i9 g9 => by rw [eC_53, va_up, if_neg (by omega)]; rw [eC_49, va_up, if_neg (by omega)]; rw [gF42 i9 (by omega)]) (by omega) (by omega) (by rw [nmD, g1])
            ·
              refine y_iconst X (v := (0)) dX5_isNumber_55 (by decide) ?_
              exact y_zret X hr (by rfl) dX5_isNumber_56 rfl (by have gN : ¬ nmO G ln lw mo u0 := (fun z => by unfold nmO at z; rw [g1, if_pos gB] at z; omega); have g2 : nmP G ln lw mo u0 = u0 + 1 := (if_neg gN).trans g1; rw [g2]; exact ⟨congrArg (fun z => some (Value.int z)) (bI_0 gN).symm, ⟨_, gM42, fun z => absurd z gN⟩, (fun i9 g9 => by rw [gF42 i9 (by omega)])⟩)
    ·
      rw [bI_0 cs42] at gv42
      subst gv42
      rw [if_neg cs42] at gM42
      have h_82 : C_40 (66) = .inl (E.2.2.1 1, 80, .inl zx) := (gF42 _ (by omega)).trans m6
      refine y_if_eq X 17 ((0) = (0)) dX5_isNumber_10 (by decide) (nI_eq (a := 0) (b := 0) (by omega) (by omega)) (fun c_83 => ?_) (fun c_83 => ?_)
      ·
        refine y_iconst X (v := (0)) dX5_isNumber_17 (by decide) ?_
        refine y_istore_n X [(3, .int (0)), (0, .ref (E.2.1 (61))), (1, .int lw), (2, .int (nI (mo)))] dX5_isNumber_18 rfl (by decide) rfl ?_
        have gB : ¬ nmB G ln lw u0 := fun z => by first | exact absurd z.1 (by omega) | exact absurd z.2 cs42
        have g1 : nm1 G ln lw u0 = u0 := if_neg gB
        refine y_aload_n X dX5_isNumber_19 1 rfl ?_
        refine y_iload_n X dX5_isNumber_20 0 rfl ?_
        refine y_if_eq X 29 ((0) = (0)) dX5_isNumber_21 (by decide) (nI_eq (a := 0) (b := 0) (by omega) (by omega)) (fun c_84 => ?_) (fun c_84 => ?_)
        ·
          refine y_bipush X (v := (48)) dX5_isNumber_29 (by decide) ?_
          refine y_bipush X (v := (57)) dX5_isNumber_31 (by decide) ?_
          refine y_callVr X (61) 5 (av := [.int (48), .int (57)]) [] 2 (c_X5_isAt (G := G) (u0 := u0) (tl := tl) (by omega) gl80 gX gG gM42 h_82 (lo0 := 48) (hi0 := 57) (by omega) (by omega)) (by omega) gM42 rfl gX5_isNumber_X5_isAt rfl (by decide +kernel) rfl ⟨Nat.le_of_ble_eq_true rfl, Nat.le_of_ble_eq_true rfl⟩ ⟨Nat.zero_le _, Nat.zero_le _⟩ (Nat.le_of_ble_eq_true rfl) rfl dX5_isNumber_33 ?_
          refine y_if_eq X 55 (¬ ((u0) < ln ∧ ((48) ≤ G (u0) ∧ G (u0) ≤ (57)))) dX5_isNumber_36 (by decide) bI_eq (fun c_85 => ?_) (fun c_85 => ?_)
          ·
            refine y_iconst X (v := (0)) dX5_isNumber_55 (by decide) ?_
            exact y_zret X hr (by rfl) dX5_isNumber_56 rfl (by have gN : ¬ nmO G ln lw mo u0 := (fun z => by unfold nmO at z; rw [g1, if_neg gB] at z; omega); have g2 : nmP G ln lw mo u0 = u0 := (if_neg gN).trans g1; rw [g2]; exact ⟨congrArg (fun z => some (Value.int z)) (bI_0 gN).symm, ⟨_, gM42, fun z => absurd z gN⟩, (fun i9 g9 => by rw [gF42 i9 (by omega)])⟩)
          ·
            have c_85 := Decidable.of_not_not c_85
            refine y_aload_n X dX5_isNumber_39 1 rfl ?_
            refine y_get X (61) 5 6 (Cn := RX5) (T := TX5) (N := 14) (index := 22) (v := .ref (E.2.1 (66))) dX5_isNumber_40 (by omega) gM42 rfl (by decide) inX5 (by decide +kernel : Cond.fieldLink RX5 22 "ColumnSeasonsModel" "text" "[I" ∈ wsX5_isNumber) rfl rfl ?_
            refine y_aload_n X dX5_isNumber_43 1 rfl ?_
            refine y_get X (61) 5 8 (Cn := RX5) (T := TX5) (N := 14) (index := 131) (v := .int (nI (u0))) dX5_isNumber_44 (by omega) gM42 rfl (by decide) inX5 (by decide +kernel : Cond.fieldLink RX5 131 "ColumnSeasonsModel" "at" "I" ∈ wsX5_isNumber) rfl rfl ?_
            refine y_iald X (66) dX5_isNumber_47 (by omega) h_82 (j := u0) rfl (by omega) (by omega) (z := (nI (G (u0)))) (gX (u0) (by omega)) ?_
            refine y_bipush X (v := (48)) dX5_isNumber_48 (by decide) ?_
            refine y_isub X (z := (nI ((G (u0)) - (48)))) dX5_isNumber_50 (pk_sub (a := G (u0)) (b := 48) (by omega)) ?_
            refine y_iload_n X dX5_isNumber_51 3 rfl ?_
            refine y_icmp_le X 57 (((G (u0)) - (48)) ≤ (mo)) dX5_isNumber_52 (by decide) (nI_leI (a := (G (u0)) - (48)) (b := mo) (by omega) (by omega)) (fun c_86 => ?_) (fun c_86 => ?_)
            ·
              have gO : nmO G ln lw mo u0 := by unfold nmO; rw [g1, if_neg gB]; omega
              refine y_aload_n X dX5_isNumber_57 1 rfl ?_
              refine y_aload_n X dX5_isNumber_58 1 rfl ?_
              refine y_get X (61) 5 6 (Cn := RX5) (T := TX5) (N := 14) (index := 22) (v := .ref (E.2.1 (66))) dX5_isNumber_59 (by omega) gM42 rfl (by decide) inX5 (by decide +kernel : Cond.fieldLink RX5 22 "ColumnSeasonsModel" "text" "[I" ∈ wsX5_isNumber) rfl rfl ?_
              refine y_aload_n X dX5_isNumber_62 1 rfl ?_
              refine y_get X (61) 5 8 (Cn := RX5) (T := TX5) (N := 14) (index := 131) (v := .int (nI (u0))) dX5_isNumber_63 (by omega) gM42 rfl (by decide) inX5 (by decide +kernel : Cond.fieldLink RX5 131 "ColumnSeasonsModel" "at" "I" ∈ wsX5_isNumber) rfl rfl ?_
              refine y_iald X (66) dX5_isNumber_66 (by omega) h_82 (j := u0) rfl (by omega) (by omega) (z := (nI (G (u0)))) (gX (u0) (by omega)) ?_
              refine y_bipush X (v := (48)) dX5_isNumber_67 (by decide) ?_
              refine y_isub X (z := (nI ((G (u0)) - (48)))) dX5_isNumber_69 (pk_sub (a := G (u0)) (b := 48) (by omega)) ?_
              refine y_put X (61) 5 9 (Cn := RX5) (T := TX5) (N := 14) (index := 141) tyX5 (v := .int (nI ((G (u0)) - (48)))) dX5_isNumber_70 (by omega) gM42 rfl (by decide) inX5 (by decide +kernel : Cond.fieldLink RX5 141 "ColumnSeasonsModel" "value" "I" ∈ wsX5_isNumber) rfl tyX5_ok nmX5 rfl rfl rfl (Nat.le_of_ble_eq_true rfl) ?_
              refine y_mem (va_up C_40 (61) (.inr (5, [.ref (E.2.1 (62)), .ref (E.2.1 (63)), .ref (E.2.1 (64)), .int (nI (hn)), .ref (E.2.1 (65)), .int fl, .ref (E.2.1 (66)), .int (nI (ln)), .int (nI (u0)), .int (nI ((G (u0)) - (48))), .int so, .int se, .ref (E.2.1 (67)), .int (nI (tl))]))) rfl (fun C_87 eC_88 => ?_)
              have h_89 : C_87 (61) = .inr (5, [.ref (E.2.1 (62)), .ref (E.2.1 (63)), .ref (E.2.1 (64)), .int (nI (hn)), .ref (E.2.1 (65)), .int fl, .ref (E.2.1 (66)), .int (nI (ln)), .int (nI (u0)), .int (nI ((G (u0)) - (48))), .int so, .int se, .ref (E.2.1 (67)), .int (nI (tl))]) := by rw [eC_88, va_up, if_pos rfl]
              have h_90 : C_87 (66) = .inl (E.2.2.1 1, 80, .inl zx) := by rw [eC_88, va_up, if_neg (by omega)]; exact h_82
              refine y_aload_n X dX5_isNumber_73 1 rfl ?_
              refine y_dup X dX5_isNumber_74 rfl ?_
              refine y_get X (61) 5 8 (Cn := RX5) (T := TX5) (N := 14) (index := 131) (v := .int (nI (u0))) dX5_isNumber_75 (by omega) h_89 rfl (by decide) inX5 (by decide +kernel : Cond.fieldLink RX5 131 "ColumnSeasonsModel" "at" "I" ∈ wsX5_isNumber) rfl rfl ?_
              refine y_iconst X (v := (1)) dX5_isNumber_78 (by decide) ?_
              refine y_iadd X (z := (nI (u0 + 1))) dX5_isNumber_79 (nI_add (u0) (1)) ?_
              refine y_put X (61) 5 8 (Cn := RX5) (T := TX5) (N := 14) (index := 131) tyX5 (v := .int (nI (u0 + 1))) dX5_isNumber_80 (by omega) h_89 rfl (by decide) inX5 (by decide +kernel : Cond.fieldLink RX5 131 "ColumnSeasonsModel" "at" "I" ∈ wsX5_isNumber) rfl tyX5_ok nmX5 rfl rfl rfl (Nat.le_of_ble_eq_true rfl) ?_
              refine y_mem (va_up C_87 (61) (.inr (5, [.ref (E.2.1 (62)), .ref (E.2.1 (63)), .ref (E.2.1 (64)), .int (nI (hn)), .ref (E.2.1 (65)), .int fl, .ref (E.2.1 (66)), .int (nI (ln)), .int (nI (u0 + 1)), .int (nI ((G (u0)) - (48))), .int so, .int se, .ref (E.2.1 (67)), .int (nI (tl))]))) rfl (fun C_91 eC_92 => ?_)
              have h_93 : C_91 (61) = .inr (5, [.ref (E.2.1 (62)), .ref (E.2.1 (63)), .ref (E.2.1 (64)), .int (nI (hn)), .ref (E.2.1 (65)), .int fl, .ref (E.2.1 (66)), .int (nI (ln)), .int (nI (u0 + 1)), .int (nI ((G (u0)) - (48))), .int so, .int se, .ref (E.2.1 (67)), .int (nI (tl))]) := by rw [eC_92, va_up, if_pos rfl]
              have h_94 : C_91 (66) = .inl (E.2.2.1 1, 80, .inl zx) := by rw [eC_92, va_up, if_neg (by omega)]; exact h_90
              have L_83 : ∀ (n : Nat) (C2 : xC) (p9 : Nat) (v9 : Nat), ln - p9 < n → (C2 (61) = .inr (5, [.ref (E.2.1 (62)), .ref (E.2.1 (63)), .ref (E.2.1 (64)), .int (nI (hn)), .ref (E.2.1 (65)), .int fl, .ref (E.2.1 (66)), .int (nI (ln)), .int (nI (p9)), .int (nI (v9)), .int so, .int se, .ref (E.2.1 (67)), .int (nI (tl))])) → (C2 (66) = .inl (E.2.2.1 1, 80, .inl zx)) → (∀ i9 : Nat, ¬ i9 = 61 → C2 i9 = C i9) → (p9 ≤ ln) → (v9 ≤ mo) → (dgF G ln mo (ln - p9) p9 v9 = nmD G ln lw mo u0) → xY p l e ({ frames := 3, cells := 0, slots := 0, locals := 66 } : Room) s m args below meth c E (xA E) 4 0 0 (MQ below (xQ E (fun v C1 => v = some (.int (bI (nmO G ln lw mo u0))) ∧ (∃ va2 : Int32, C1 (61) = .inr (5, [.ref (E.2.1 (62)), .ref (E.2.1 (63)), .ref (E.2.1 (64)), .int (nI (hn)), .ref (E.2.1 (65)), .int fl, .ref (E.2.1 (66)), .int (nI (ln)), .int (nI (nmP G ln lw mo u0)), .int va2, .int so, .int se, .ref (E.2.1 (67)), .int (nI (tl))]) ∧ ((nmO G ln lw mo u0) → va2 = nmV G ln lw mo u0)) ∧ (∀ i : Nat, ¬ i = 61 → C1 i = C i))) args s 0 0 (xA E)) C2 83 [(0, .ref (E.2.1 (61))), (1, .int lw), (2, .int (nI (mo))), (3, .int (0))] [] := by
                intro n83
                induction n83 with
                | zero => intro _ _ _ hm83; exact absurd hm83 (Nat.not_lt_zero _)
                | succ n83 ih83 =>
                  intro C2 p9 v9 hm83 k0 k6 gF2 gp9 gv9 gD
                  refine y_aload_n X dX5_isNumber_83 0 rfl ?_
                  refine y_get X (61) 5 9 (Cn := RX5) (T := TX5) (N := 14) (index := 141) (v := .int (nI (v9))) dX5_isNumber_84 (by omega) k0 rfl (by decide) inX5 (by decide +kernel : Cond.fieldLink RX5 141 "ColumnSeasonsModel" "value" "I" ∈ wsX5_isNumber) rfl rfl ?_
                  refine y_if_le X 162 ((v9) ≤ (0)) dX5_isNumber_87 (by decide) (nI_leI (a := v9) (b := 0) (by omega) (by omega)) (fun c_95 => ?_) (fun c_95 => ?_)
                  ·
                    refine y_aload_n X dX5_isNumber_162 0 rfl ?_
                    refine y_iload_n X dX5_isNumber_163 3 rfl ?_
                    refine y_if_eq X 175 ((0) = (0)) dX5_isNumber_164 (by decide) (nI_eq (a := 0) (b := 0) (by omega) (by omega)) (fun c_96 => ?_) (fun c_96 => ?_)
                    ·
                      refine y_aload_n X dX5_isNumber_175 0 rfl ?_
                      refine y_get X (61) 5 9 (Cn := RX5) (T := TX5) (N := 14) (index := 141) (v := .int (nI (v9))) dX5_isNumber_176 (by omega) k0 rfl (by decide) inX5 (by decide +kernel : Cond.fieldLink RX5 141 "ColumnSeasonsModel" "value" "I" ∈ wsX5_isNumber) rfl rfl ?_
                      refine y_put X (61) 5 9 (Cn := RX5) (T := TX5) (N := 14) (index := 141) tyX5 (v := .int (nI (v9))) dX5_isNumber_179 (by omega) k0 rfl (by decide) inX5 (by decide +kernel : Cond.fieldLink RX5 141 "ColumnSeasonsModel" "value" "I" ∈ wsX5_isNumber) rfl tyX5_ok nmX5 rfl rfl rfl (Nat.le_of_ble_eq_true rfl) ?_
                      refine y_mem (va_up C2 (61) (.inr (5, [.ref (E.2.1 (62)), .ref (E.2.1 (63)), .ref (E.2.1 (64)), .int (nI (hn)), .ref (E.2.1 (65)), .int fl, .ref (E.2.1 (66)), .int (nI (ln)), .int (nI (p9)), .int (nI (v9)), .int so, .int se, .ref (E.2.1 (67)), .int (nI (tl))]))) rfl (fun C_97 eC_98 => ?_)
                      have h_99 : C_97 (61) = .inr (5, [.ref (E.2.1 (62)), .ref (E.2.1 (63)), .ref (E.2.1 (64)), .int (nI (hn)), .ref (E.2.1 (65)), .int fl, .ref (E.2.1 (66)), .int (nI (ln)), .int (nI (p9)), .int (nI (v9)), .int so, .int se, .ref (E.2.1 (67)), .int (nI (tl))]) := by rw [eC_98, va_up, if_pos rfl]
                      have h_100 : C_97 (66) = .inl (E.2.2.1 1, 80, .inl zx) := by rw [eC_98, va_up, if_neg (by omega)]; exact k6
                      refine y_iconst X (v := (1)) dX5_isNumber_182 (by decide) ?_
                      exact y_zret X hr (by rfl) dX5_isNumber_183 rfl (by have g8 := gD.symm.trans (dg_end (by omega)); have g2 : nmP G ln lw mo u0 = p9 := (if_pos gO).trans (by rw [g8]); have g3 : nmV G ln lw mo u0 = (nI (v9)) := (if_neg gB).trans (by rw [g8]); rw [g2]; exact ⟨congrArg (fun z => some (Value.int z)) (bI_1 gO).symm, ⟨_, h_99, fun _ => g3.symm⟩, (fun i9 g9 => by rw [eC_98, va_up, if_neg (by omega)]; rw [gF2 i9 g9])⟩)
                    ·
                      exact absurd c_96 (by decide)
                  ·
                    refine y_aload_n X dX5_isNumber_90 0 rfl ?_
                    refine y_bipush X (v := (48)) dX5_isNumber_91 (by decide) ?_
                    refine y_bipush X (v := (57)) dX5_isNumber_93 (by decide) ?_
                    refine y_callVr X (61) 5 (av := [.int (48), .int (57)]) [] 2 (c_X5_isAt (G := G) (u0 := p9) (tl := tl) (by omega) gl80 gX gG k0 k6 (lo0 := 48) (hi0 := 57) (by omega) (by omega)) (by omega) k0 rfl gX5_isNumber_X5_isAt rfl (by decide +kernel) rfl ⟨Nat.le_of_ble_eq_true rfl, Nat.le_of_ble_eq_true rfl⟩ ⟨Nat.zero_le _, Nat.zero_le _⟩ (Nat.le_of_ble_eq_true rfl) rfl dX5_isNumber_95 ?_
                    refine y_if_eq X 162 (¬ ((p9) < ln ∧ ((48) ≤ G (p9) ∧ G (p9) ≤ (57)))) dX5_isNumber_98 (by decide) bI_eq (fun c_101 => ?_) (fun c_101 => ?_)
                    ·
                      refine y_aload_n X dX5_isNumber_162 0 rfl ?_
                      refine y_iload_n X dX5_isNumber_163 3 rfl ?_
                      refine y_if_eq X 175 ((0) = (0)) dX5_isNumber_164 (by decide) (nI_eq (a := 0) (b := 0) (by omega) (by omega)) (fun c_102 => ?_) (fun c_102 => ?_)
                      ·
                        refine y_aload_n X dX5_isNumber_175 0 rfl ?_
                        refine y_get X (61) 5 9 (Cn := RX5) (T := TX5) (N := 14) (index := 141) (v := .int (nI (v9))) dX5_isNumber_176 (by omega) k0 rfl (by decide) inX5 (by decide +kernel : Cond.fieldLink RX5 141 "ColumnSeasonsModel" "value" "I" ∈ wsX5_isNumber) rfl rfl ?_
                        refine y_put X (61) 5 9 (Cn := RX5) (T := TX5) (N := 14) (index := 141) tyX5 (v := .int (nI (v9))) dX5_isNumber_179 (by omega) k0 rfl (by decide) inX5 (by decide +kernel : Cond.fieldLink RX5 141 "ColumnSeasonsModel" "value" "I" ∈ wsX5_isNumber) rfl tyX5_ok nmX5 rfl rfl rfl (Nat.le_of_ble_eq_true rfl) ?_
                        refine y_mem (va_up C2 (61) (.inr (5, [.ref (E.2.1 (62)), .ref (E.2.1 (63)), .ref (E.2.1 (64)), .int (nI (hn)), .ref (E.2.1 (65)), .int fl, .ref (E.2.1 (66)), .int (nI (ln)), .int (nI (p9)), .int (nI (v9)), .int so, .int se, .ref (E.2.1 (67)), .int (nI (tl))]))) rfl (fun C_103 eC_104 => ?_)
                        have h_105 : C_103 (61) = .inr (5, [.ref (E.2.1 (62)), .ref (E.2.1 (63)), .ref (E.2.1 (64)), .int (nI (hn)), .ref (E.2.1 (65)), .int fl, .ref (E.2.1 (66)), .int (nI (ln)), .int (nI (p9)), .int (nI (v9)), .int so, .int se, .ref (E.2.1 (67)), .int (nI (tl))]) := by rw [eC_104, va_up, if_pos rfl]
                        have h_106 : C_103 (66) = .inl (E.2.2.1 1, 80, .inl zx) := by rw [eC_104, va_up, if_neg (by omega)]; exact k6
                        refine y_iconst X (v := (1)) dX5_isNumber_182 (by decide) ?_
                        exact y_zret X hr (by rfl) dX5_isNumber_183 rfl (by have g8 := gD.symm.trans (dg_end (by omega)); have g2 : nmP G ln lw mo u0 = p9 := (if_pos gO).trans (by rw [g8]); have g3 : nmV G ln lw mo u0 = (nI (v9)) := (if_neg gB).trans (by rw [g8]); rw [g2]; exact ⟨congrArg (fun z => some (Value.int z)) (bI_1 gO).symm, ⟨_, h_105, fun _ => g3.symm⟩, (fun i9 g9 => by rw [eC_104, va_up, if_neg (by omega)]; rw [gF2 i9 g9])⟩)
                      ·
                        exact absurd c_102 (by decide)
                    ·
                      have c_101 := Decidable.of_not_not c_101
                      refine y_bipush X (v := (10)) dX5_isNumber_101 (by decide) ?_
                      refine y_aload_n X dX5_isNumber_103 0 rfl ?_
                      refine y_get X (61) 5 9 (Cn := RX5) (T := TX5) (N := 14) (index := 141) (v := .int (nI (v9))) dX5_isNumber_104 (by omega) k0 rfl (by decide) inX5 (by decide +kernel : Cond.fieldLink RX5 141 "ColumnSeasonsModel" "value" "I" ∈ wsX5_isNumber) rfl rfl ?_
                      refine y_imul X (z := (nI ((10) * (v9)))) dX5_isNumber_107 (pk_mul (10) (v9)) ?_
                      refine y_aload_n X dX5_isNumber_108 0 rfl ?_
                      refine y_get X (61) 5 6 (Cn := RX5) (T := TX5) (N := 14) (index := 22) (v := .ref (E.2.1 (66))) dX5_isNumber_109 (by omega) k0 rfl (by decide) inX5 (by decide +kernel : Cond.fieldLink RX5 22 "ColumnSeasonsModel" "text" "[I" ∈ wsX5_isNumber) rfl rfl ?_
                      refine y_aload_n X dX5_isNumber_112 0 rfl ?_
                      refine y_get X (61) 5 8 (Cn := RX5) (T := TX5) (N := 14) (index := 131) (v := .int (nI (p9))) dX5_isNumber_113 (by omega) k0 rfl (by decide) inX5 (by decide +kernel : Cond.fieldLink RX5 131 "ColumnSeasonsModel" "at" "I" ∈ wsX5_isNumber) rfl rfl ?_
                      refine y_iald X (66) dX5_isNumber_116 (by omega) k6 (j := p9) rfl (by omega) (by omega) (z := (nI (G (p9)))) (gX (p9) (by omega)) ?_
                      refine y_iadd X (z := (nI ((10) * (v9) + G (p9)))) dX5_isNumber_117 (nI_add ((10) * (v9)) (G (p9))) ?_
                      refine y_bipush X (v := (48)) dX5_isNumber_118 (by decide) ?_
                      refine y_isub X (z := (nI (((10) * (v9) + G (p9)) - (48)))) dX5_isNumber_120 (pk_sub (a := (10) * (v9) + G (p9)) (b := 48) (by omega)) ?_
                      refine y_iload_n X dX5_isNumber_121 2 rfl ?_
                      refine y_icmp_gt X 162 ((mo) < (((10) * (v9) + G (p9)) - (48))) dX5_isNumber_122 (by decide) (nI_ltI (a := mo) (b := ((10) * (v9) + G (p9)) - (48)) (by omega) (by omega)) (fun c_107 => ?_) (fun c_107 => ?_)
                      ·
                        refine y_aload_n X dX5_isNumber_162 0 rfl ?_
                        refine y_iload_n X dX5_isNumber_163 3 rfl ?_
                        refine y_if_eq X 175 ((0) = (0)) dX5_isNumber_164 (by decide) (nI_eq (a := 0) (b := 0) (by omega) (by omega)) (fun c_108 => ?_) (fun c_108 => ?_)
                        ·
                          refine y_aload_n X dX5_isNumber_175 0 rfl ?_
                          refine y_get X (61) 5 9 (Cn := RX5) (T := TX5) (N := 14) (index := 141) (v := .int (nI (v9))) dX5_isNumber_176 (by omega) k0 rfl (by decide) inX5 (by decide +kernel : Cond.fieldLink RX5 141 "ColumnSeasonsModel" "value" "I" ∈ wsX5_isNumber) rfl rfl ?_
                          refine y_put X (61) 5 9 (Cn := RX5) (T := TX5) (N := 14) (index := 141) tyX5 (v := .int (nI (v9))) dX5_isNumber_179 (by omega) k0 rfl (by decide) inX5 (by decide +kernel : Cond.fieldLink RX5 141 "ColumnSeasonsModel" "value" "I" ∈ wsX5_isNumber) rfl tyX5_ok nmX5 rfl rfl rfl (Nat.le_of_ble_eq_true rfl) ?_
                          refine y_mem (va_up C2 (61) (.inr (5, [.ref (E.2.1 (62)), .ref (E.2.1 (63)), .ref (E.2.1 (64)), .int (nI (hn)), .ref (E.2.1 (65)), .int fl, .ref (E.2.1 (66)), .int (nI (ln)), .int (nI (p9)), .int (nI (v9)), .int so, .int se, .ref (E.2.1 (67)), .int (nI (tl))]))) rfl (fun C_109 eC_110 => ?_)
                          have h_111 : C_109 (61) = .inr (5, [.ref (E.2.1 (62)), .ref (E.2.1 (63)), .ref (E.2.1 (64)), .int (nI (hn)), .ref (E.2.1 (65)), .int fl, .ref (E.2.1 (66)), .int (nI (ln)), .int (nI (p9)), .int (nI (v9)), .int so, .int se, .ref (E.2.1 (67)), .int (nI (tl))]) := by rw [eC_110, va_up, if_pos rfl]
                          have h_112 : C_109 (66) = .inl (E.2.2.1 1, 80, .inl zx) := by rw [eC_110, va_up, if_neg (by omega)]; exact k6
                          refine y_iconst X (v := (1)) dX5_isNumber_182 (by decide) ?_
                          exact y_zret X hr (by rfl) dX5_isNumber_183 rfl (by have g8 := gD.symm.trans (dg_end (by omega)); have g2 : nmP G ln lw mo u0 = p9 := (if_pos gO).trans (by rw [g8]); have g3 : nmV G ln lw mo u0 = (nI (v9)) := (if_neg gB).trans (by rw [g8]); rw [g2]; exact ⟨congrArg (fun z => some (Value.int z)) (bI_1 gO).symm, ⟨_, h_111, fun _ => g3.symm⟩, (fun i9 g9 => by rw [eC_110, va_up, if_neg (by omega)]; rw [gF2 i9 g9])⟩)
                        ·
                          exact absurd c_108 (by decide)
                      ·
                        refine y_aload_n X dX5_isNumber_125 0 rfl ?_
                        refine y_bipush X (v := (10)) dX5_isNumber_126 (by decide) ?_
                        refine y_aload_n X dX5_isNumber_128 0 rfl ?_
                        refine y_get X (61) 5 9 (Cn := RX5) (T := TX5) (N := 14) (index := 141) (v := .int (nI (v9))) dX5_isNumber_129 (by omega) k0 rfl (by decide) inX5 (by decide +kernel : Cond.fieldLink RX5 141 "ColumnSeasonsModel" "value" "I" ∈ wsX5_isNumber) rfl rfl ?_
                        refine y_imul X (z := (nI ((10) * (v9)))) dX5_isNumber_132 (pk_mul (10) (v9)) ?_
                        refine y_aload_n X dX5_isNumber_133 0 rfl ?_
                        refine y_get X (61) 5 6 (Cn := RX5) (T := TX5) (N := 14) (index := 22) (v := .ref (E.2.1 (66))) dX5_isNumber_134 (by omega) k0 rfl (by decide) inX5 (by decide +kernel : Cond.fieldLink RX5 22 "ColumnSeasonsModel" "text" "[I" ∈ wsX5_isNumber) rfl rfl ?_
                        refine y_aload_n X dX5_isNumber_137 0 rfl ?_
                        refine y_get X (61) 5 8 (Cn := RX5) (T := TX5) (N := 14) (index := 131) (v := .int (nI (p9))) dX5_isNumber_138 (by omega) k0 rfl (by decide) inX5 (by decide +kernel : Cond.fieldLink RX5 131 "ColumnSeasonsModel" "at" "I" ∈ wsX5_isNumber) rfl rfl ?_
                        refine y_iald X (66) dX5_isNumber_141 (by omega) k6 (j := p9) rfl (by omega) (by omega) (z := (nI (G (p9)))) (gX (p9) (by omega)) ?_
                        refine y_iadd X (z := (nI ((10) * (v9) + G (p9)))) dX5_isNumber_142 (nI_add ((10) * (v9)) (G (p9))) ?_
                        refine y_bipush X (v := (48)) dX5_isNumber_143 (by decide) ?_
                        refine y_isub X (z := (nI (((10) * (v9) + G (p9)) - (48)))) dX5_isNumber_145 (pk_sub (a := (10) * (v9) + G (p9)) (b := 48) (by omega)) ?_
                        refine y_put X (61) 5 9 (Cn := RX5) (T := TX5) (N := 14) (index := 141) tyX5 (v := .int (nI (((10) * (v9) + G (p9)) - (48)))) dX5_isNumber_146 (by omega) k0 rfl (by decide) inX5 (by decide +kernel : Cond.fieldLink RX5 141 "ColumnSeasonsModel" "value" "I" ∈ wsX5_isNumber) rfl tyX5_ok nmX5 rfl rfl rfl (Nat.le_of_ble_eq_true rfl) ?_
                        refine y_mem (va_up C2 (61) (.inr (5, [.ref (E.2.1 (62)), .ref (E.2.1 (63)), .ref (E.2.1 (64)), .int (nI (hn)), .ref (E.2.1 (65)), .int fl, .ref (E.2.1 (66)), .int (nI (ln)), .int (nI (p9)), .int (nI (((10) * (v9) + G (p9)) - (48))), .int so, .int se, .ref (E.2.1 (67)), .int (nI (tl))]))) rfl (fun C_113 eC_114 => ?_)
                        have h_115 : C_113 (61) = .inr (5, [.ref (E.2.1 (62)), .ref (E.2.1 (63)), .ref (E.2.1 (64)), .int (nI (hn)), .ref (E.2.1 (65)), .int fl, .ref (E.2.1 (66)), .int (nI (ln)), .int (nI (p9)), .int (nI (((10) * (v9) + G (p9)) - (48))), .int so, .int se, .ref (E.2.1 (67)), .int (nI (tl))]) := by rw [eC_114, va_up, if_pos rfl]
                        have h_116 : C_113 (66) = .inl (E.2.2.1 1, 80, .inl zx) := by rw [eC_114, va_up, if_neg (by omega)]; exact k6
                        refine y_aload_n X dX5_isNumber_149 0 rfl ?_
                        refine y_dup X dX5_isNumber_150 rfl ?_
                        refine y_get X (61) 5 8 (Cn := RX5) (T := TX5) (N := 14) (index := 131) (v := .int (nI (p9))) dX5_isNumber_151 (by omega) h_115 rfl (by decide) inX5 (by decide +kernel : Cond.fieldLink RX5 131 "ColumnSeasonsModel" "at" "I" ∈ wsX5_isNumber) rfl rfl ?_
                        refine y_iconst X (v := (1)) dX5_isNumber_154 (by decide) ?_
                        refine y_iadd X (z := (nI (p9 + 1))) dX5_isNumber_155 (nI_add (p9) (1)) ?_
                        refine y_put X (61) 5 8 (Cn := RX5) (T := TX5) (N := 14) (index := 131) tyX5 (v := .int (nI (p9 + 1))) dX5_isNumber_156 (by omega) h_115 rfl (by decide) inX5 (by decide +kernel : Cond.fieldLink RX5 131 "ColumnSeasonsModel" "at" "I" ∈ wsX5_isNumber) rfl tyX5_ok nmX5 rfl rfl rfl (Nat.le_of_ble_eq_true rfl) ?_
                        refine y_mem (va_up C_113 (61) (.inr (5, [.ref (E.2.1 (62)), .ref (E.2.1 (63)), .ref (E.2.1 (64)), .int (nI (hn)), .ref (E.2.1 (65)), .int fl, .ref (E.2.1 (66)), .int (nI (ln)), .int (nI (p9 + 1)), .int (nI (((10) * (v9) + G (p9)) - (48))), .int so, .int se, .ref (E.2.1 (67)), .int (nI (tl))]))) rfl (fun C_117 eC_118 => ?_)
                        have h_119 : C_117 (61) = .inr (5, [.ref (E.2.1 (62)), .ref (E.2.1 (63)), .ref (E.2.1 (64)), .int (nI (hn)), .ref (E.2.1 (65)), .int fl, .ref (E.2.1 (66)), .int (nI (ln)), .int (nI (p9 + 1)), .int (nI (((10) * (v9) + G (p9)) - (48))), .int so, .int se, .ref (E.2.1 (67)), .int (nI (tl))]) := by rw [eC_118, va_up, if_pos rfl]
                        have h_120 : C_117 (66) = .inl (E.2.2.1 1, 80, .inl zx) := by rw [eC_118, va_up, if_neg (by omega)]; exact h_116
                        refine y_goto X 83 dX5_isNumber_159 (by decide) ?_
                        exact ih83 (C_117) (p9 + 1) (((10) * (v9) + G (p9)) - (48)) (by omega) h_119 h_120 (fun i9 g9 => by rw [eC_118, va_up, if_neg (by omega)]; rw [eC_114, va_up, if_neg (by omega)]; rw [gF2 i9 g9]) (by omega) (by omega) (by rw [← gD, dg_go (G := G) (ln := ln) (mo := mo) (p := p9) (v := v9) (by omega)]; exact congrArg (dgF G ln mo (ln - (p9 + 1)) (p9 + 1)) (by omega))
              refine y_pick [1, 2, 3, 0] [(0, .ref (E.2.1 (61))), (1, .int lw), (2, .int (nI (mo))), (3, .int (0))] rfl ?_
              exact L_83 _ (C_91) (u0 + 1) ((G (u0)) - (48)) (Nat.lt_succ_self _) h_93 h_94 (fun i9 g9 => by rw [eC_92, va_up, if_neg (by omega)]; rw [eC_88, va_up, if_neg (by omega)]; rw [gF42 i9 (by omega)]) (by omega) (by omega) (by rw [nmD, g1])
            ·
              refine y_iconst X (v := (0)) dX5_isNumber_55 (by decide) ?_
              exact y_zret X hr (by rfl) dX5_isNumber_56 rfl (by have gN : ¬ nmO G ln lw mo u0 := (fun z => by unfold nmO at z; rw [g1, if_neg gB] at z; omega); have g2 : nmP G ln lw mo u0 = u0 := (if_neg gN).trans g1; rw [g2]; exact ⟨congrArg (fun z => some (Value.int z)) (bI_0 gN).symm, ⟨_, gM42, fun z => absurd z gN⟩, (fun i9 g9 => by rw [gF42 i9 (by omega)])⟩)
        ·
          exact absurd c_84 (by decide)
      ·
        exact absurd c_83 (by decide)

set_option maxRecDepth 100000 in
set_option maxHeartbeats 4000000 in
theorem c_X5_isNext {l : Launch} {E : xE} {C : xC} {G : Nat → Nat} {u0 hn ln tl : Nat} {fl so se va : Int32} {zx : Nat → Int32} (gp : u0 ≤ ln) (gl80 : ln ≤ 80) (gX : ∀ z : Nat, z < ln → zx z = nI (G z)) (gG : ∀ z : Nat, z < ln → G z < 65536) (m0 : C (61) = .inr (5, [.ref (E.2.1 (62)), .ref (E.2.1 (63)), .ref (E.2.1 (64)), .int (nI (hn)), .ref (E.2.1 (65)), .int fl, .ref (E.2.1 (66)), .int (nI (ln)), .int (nI (u0)), .int va, .int so, .int se, .ref (E.2.1 (67)), .int (nI (tl))])) (m6 : C (66) = .inl (E.2.2.1 1, 80, .inl zx)) {lw : Int32} {mo : Nat} (gmo : mo ≤ 9999) : xM E l yX5_isNext wsX5_isNext 4 89 [.ref (E.2.1 (61)), .int lw, .int (nI (mo))] C (fun v C1 => v = some (.int (bI (opO G ln lw mo u0))) ∧ (∃ va2 : Int32, C1 (61) = .inr (5, [.ref (E.2.1 (62)), .ref (E.2.1 (63)), .ref (E.2.1 (64)), .int (nI (hn)), .ref (E.2.1 (65)), .int fl, .ref (E.2.1 (66)), .int (nI (ln)), .int (nI (opP G ln lw mo u0)), .int va2, .int so, .int se, .ref (E.2.1 (67)), .int (nI (tl))]) ∧ ((opO G ln lw mo u0) → va2 = opV G ln lw mo u0)) ∧ (∀ i : Nat, ¬ i = 61 → C1 i = C i)) := by
  refine xM_ofY (cc := cX5_isNext) (maxL := 3) (ret := (some .boolean)) (by decide) rfl (Nat.le_of_ble_eq_true rfl) ?_
  intro p e s m args below meth c X hr
  refine y_lv [(0, .ref (E.2.1 (61))), (1, .int lw), (2, .int (nI (mo)))] rfl ?_
  refine y_aload_n X dX5_isNext_0 0 rfl ?_
  refine y_bipush X (v := (32)) dX5_isNext_1 (by decide) ?_
  refine y_callV X (61) 5 (av := [.int (32)]) [] 1 (c_X5_sign (G := G) (u0 := u0) (tl := tl) (by omega) gl80 gX gG m0 m6 (c0 := 32) (by omega)) (by omega) m0 rfl gX5_isNext_X5_sign rfl (by decide +kernel) rfl ⟨Nat.le_of_ble_eq_true rfl, Nat.le_of_ble_eq_true rfl⟩ ⟨Nat.zero_le _, Nat.zero_le _⟩ (Nat.le_of_ble_eq_true rfl) rfl dX5_isNext_3 (fun v_1 C_2 hp_3 => ?_)
  obtain ⟨gv4, gM4, gF4⟩ := hp_3
  rcases Decidable.em (chA G ln (u0) (32)) with cs4 | cs4
  ·
    rw [bI_1 cs4] at gv4
    subst gv4
    rw [if_pos cs4] at gM4
    have gb4 := cs4.1
    have h_5 : C_2 (66) = .inl (E.2.2.1 1, 80, .inl zx) := (gF4 _ (by omega)).trans m6
    refine y_if_eq X 22 ((1) = (0)) dX5_isNext_6 (by decide) (nI_eq (a := 1) (b := 0) (by omega) (by omega)) (fun c_6 => ?_) (fun c_6 => ?_)
    ·
      exact absurd c_6 (by decide)
    ·
      refine y_aload_n X dX5_isNext_9 0 rfl ?_
      refine y_iload_n X dX5_isNext_10 1 rfl ?_
      refine y_iload_n X dX5_isNext_11 2 rfl ?_
      refine y_callV X (61) 5 (av := [.int lw, .int (nI (mo))]) [] 2 (c_X5_isNumber (G := G) (u0 := u0 + 1) (tl := tl) (by omega) gl80 gX gG gM4 h_5 (lw := lw) (mo := mo) (by omega)) (by omega) gM4 rfl gX5_isNext_X5_isNumber rfl (by decide +kernel) rfl ⟨Nat.le_of_ble_eq_true rfl, Nat.le_of_ble_eq_true rfl⟩ ⟨Nat.zero_le _, Nat.zero_le _⟩ (Nat.le_of_ble_eq_true rfl) rfl dX5_isNext_12 (fun v_7 C_8 hp_9 => ?_)
      obtain ⟨gv10, ⟨vz10, gM10, gW10⟩, gF10⟩ := hp_9
      rcases Decidable.em (nmO G ln lw (mo) (u0 + 1)) with cn10 | cn10
      ·
        rw [bI_1 cn10] at gv10
        subst gv10
        have gY10 := gW10 cn10
        subst gY10
        have gb10 := nmP_b (G := G) (lw := lw) (mo := mo) (p := u0 + 1) (ln := ln) (by omega)
        have h_11 : C_8 (66) = .inl (E.2.2.1 1, 80, .inl zx) := (gF10 _ (by omega)).trans h_5
        refine y_if_eq X 22 ((1) = (0)) dX5_isNext_15 (by decide) (nI_eq (a := 1) (b := 0) (by omega) (by omega)) (fun c_12 => ?_) (fun c_12 => ?_)
        ·
          exact absurd c_12 (by decide)
        ·
          refine y_iconst X (v := (1)) dX5_isNext_18 (by decide) ?_
          refine y_goto X 23 dX5_isNext_19 (by decide) ?_
          exact y_zret X hr (by rfl) dX5_isNext_23 rfl (by have gO : opO G ln lw mo u0 := ⟨cs4, cn10⟩; have g2 : opP G ln lw mo u0 = nmP G ln lw mo (u0 + 1) := if_pos cs4; rw [g2]; exact ⟨congrArg (fun z => some (Value.int z)) (bI_1 gO).symm, ⟨_, gM10, fun _ => rfl⟩, (fun i9 g9 => by rw [gF10 i9 (by omega)]; rw [gF4 i9 (by omega)])⟩)
      ·
        rw [bI_0 cn10] at gv10
        subst gv10
        have h_13 : C_8 (66) = .inl (E.2.2.1 1, 80, .inl zx) := (gF10 _ (by omega)).trans h_5
        refine y_if_eq X 22 ((0) = (0)) dX5_isNext_15 (by decide) (nI_eq (a := 0) (b := 0) (by omega) (by omega)) (fun c_14 => ?_) (fun c_14 => ?_)
        ·
          refine y_iconst X (v := (0)) dX5_isNext_22 (by decide) ?_
          exact y_zret X hr (by rfl) dX5_isNext_23 rfl (by have gN : ¬ opO G ln lw mo u0 := (fun z => cn10 z.2); have g2 : opP G ln lw mo u0 = nmP G ln lw mo (u0 + 1) := if_pos cs4; rw [g2]; exact ⟨congrArg (fun z => some (Value.int z)) (bI_0 gN).symm, ⟨_, gM10, fun z => absurd z gN⟩, (fun i9 g9 => by rw [gF10 i9 (by omega)]; rw [gF4 i9 (by omega)])⟩)
        ·
          exact absurd c_14 (by decide)
  ·
    rw [bI_0 cs4] at gv4
    subst gv4
    rw [if_neg cs4] at gM4
    have h_15 : C_2 (66) = .inl (E.2.2.1 1, 80, .inl zx) := (gF4 _ (by omega)).trans m6
    refine y_if_eq X 22 ((0) = (0)) dX5_isNext_6 (by decide) (nI_eq (a := 0) (b := 0) (by omega) (by omega)) (fun c_16 => ?_) (fun c_16 => ?_)
    ·
      refine y_iconst X (v := (0)) dX5_isNext_22 (by decide) ?_
      exact y_zret X hr (by rfl) dX5_isNext_23 rfl (by have gN : ¬ opO G ln lw mo u0 := (fun z => cs4 z.1); have g2 : opP G ln lw mo u0 = u0 := if_neg cs4; rw [g2]; exact ⟨congrArg (fun z => some (Value.int z)) (bI_0 gN).symm, ⟨_, gM4, fun z => absurd z gN⟩, (fun i9 g9 => by rw [gF4 i9 (by omega)])⟩)
    ·
      exact absurd c_16 (by decide)

set_option maxRecDepth 100000 in
set_option maxHeartbeats 4000000 in
theorem c_X5_isWord {l : Launch} {E : xE} {C : xC} {G : Nat → Nat} {u0 hn ln tl : Nat} {fl so se va : Int32} {zx : Nat → Int32} (gp : u0 ≤ ln) (gl80 : ln ≤ 80) (gX : ∀ z : Nat, z < ln → zx z = nI (G z)) (gG : ∀ z : Nat, z < ln → G z < 65536) (m0 : C (61) = .inr (5, [.ref (E.2.1 (62)), .ref (E.2.1 (63)), .ref (E.2.1 (64)), .int (nI (hn)), .ref (E.2.1 (65)), .int fl, .ref (E.2.1 (66)), .int (nI (ln)), .int (nI (u0)), .int va, .int so, .int se, .ref (E.2.1 (67)), .int (nI (tl))])) (m6 : C (66) = .inl (E.2.2.1 1, 80, .inl zx)) {a0 b0 e0 f0 h0 : Nat} {wL : List Nat} (gL : wL = a0 :: b0 :: (oz e0 ++ (oz f0 ++ oz h0))) (gq : a0 < 128 ∧ b0 < 128 ∧ e0 < 128 ∧ f0 < 128 ∧ h0 < 128) : xM E l yX5_isWord wsX5_isWord 3 66 [.ref (E.2.1 (61)), .int (nI (a0)), .int (nI (b0)), .int (nI (e0)), .int (nI (f0)), .int (nI (h0))] C (fun v C1 => v = some (.int (bI (wdO G ln wL u0))) ∧ C1 (61) = .inr (5, [.ref (E.2.1 (62)), .ref (E.2.1 (63)), .ref (E.2.1 (64)), .int (nI (hn)), .ref (E.2.1 (65)), .int fl, .ref (E.2.1 (66)), .int (nI (ln)), .int (nI (wdP G ln wL u0)), .int va, .int so, .int se, .ref (E.2.1 (67)), .int (nI (tl))]) ∧ (∀ i : Nat, ¬ i = 61 → C1 i = C i)) := by
  refine xM_ofY (cc := cX5_isWord) (maxL := 6) (ret := (some .boolean)) (by decide) rfl (Nat.le_of_ble_eq_true rfl) ?_
  intro p e s m args below meth c X hr
  refine y_lv [(0, .ref (E.2.1 (61))), (1, .int (nI (a0))), (2, .int (nI (b0))), (3, .int (nI (e0))), (4, .int (nI (f0))), (5, .int (nI (h0)))] rfl ?_
  refine y_aload_n X dX5_isWord_0 0 rfl ?_
  refine y_iload_n X dX5_isWord_1 1 rfl ?_
  refine y_callV X (61) 5 (av := [.int (nI (a0))]) [] 1 (c_X5_sign (G := G) (u0 := u0) (tl := tl) (by omega) gl80 gX gG m0 m6 (c0 := a0) (by omega)) (by omega) m0 rfl gX5_isWord_X5_sign rfl (by decide +kernel) rfl ⟨Nat.le_of_ble_eq_true rfl, Nat.le_of_ble_eq_true rfl⟩ ⟨Nat.zero_le _, Nat.zero_le _⟩ (Nat.le_of_ble_eq_true rfl) rfl dX5_isWord_2 (fun v_1 C_2 hp_3 => ?_)
  obtain ⟨gv4, gM4, gF4⟩ := hp_3
  rcases Decidable.em (chA G ln (u0) (a0)) with cs4 | cs4
  ·
    rw [bI_1 cs4] at gv4
    subst gv4
    rw [if_pos cs4] at gM4
    have gb4 := cs4.1
    have h_5 : C_2 (66) = .inl (E.2.2.1 1, 80, .inl zx) := (gF4 _ (by omega)).trans m6
    refine y_if_eq X 60 ((1) = (0)) dX5_isWord_5 (by decide) (nI_eq (a := 1) (b := 0) (by omega) (by omega)) (fun c_6 => ?_) (fun c_6 => ?_)
    ·
      exact absurd c_6 (by decide)
    ·
      refine y_aload_n X dX5_isWord_8 0 rfl ?_
      refine y_iload_n X dX5_isWord_9 2 rfl ?_
      refine y_callV X (61) 5 (av := [.int (nI (b0))]) [] 1 (c_X5_sign (G := G) (u0 := u0 + 1) (tl := tl) (by omega) gl80 gX gG gM4 h_5 (c0 := b0) (by omega)) (by omega) gM4 rfl gX5_isWord_X5_sign rfl (by decide +kernel) rfl ⟨Nat.le_of_ble_eq_true rfl, Nat.le_of_ble_eq_true rfl⟩ ⟨Nat.zero_le _, Nat.zero_le _⟩ (Nat.le_of_ble_eq_true rfl) rfl dX5_isWord_10 (fun v_7 C_8 hp_9 => ?_)
      obtain ⟨gv10, gM10, gF10⟩ := hp_9
      rcases Decidable.em (chA G ln (u0 + 1) (b0)) with cs10 | cs10
      ·
        rw [bI_1 cs10] at gv10
        subst gv10
        rw [if_pos cs10] at gM10
        have gb10 := cs10.1
        have h_11 : C_8 (66) = .inl (E.2.2.1 1, 80, .inl zx) := (gF10 _ (by omega)).trans h_5
        refine y_if_eq X 60 ((1) = (0)) dX5_isWord_13 (by decide) (nI_eq (a := 1) (b := 0) (by omega) (by omega)) (fun c_12 => ?_) (fun c_12 => ?_)
        ·
          exact absurd c_12 (by decide)
        ·
          refine y_iload_n X dX5_isWord_16 3 rfl ?_
          refine y_if_eq X 28 ((e0) = (0)) dX5_isWord_17 (by decide) (nI_eq (a := e0) (b := 0) (by omega) (by omega)) (fun c_13 => ?_) (fun c_13 => ?_)
          ·
            refine y_iload X dX5_isWord_28 4 rfl ?_
            refine y_if_eq X 42 ((f0) = (0)) dX5_isWord_30 (by decide) (nI_eq (a := f0) (b := 0) (by omega) (by omega)) (fun c_14 => ?_) (fun c_14 => ?_)
            ·
              refine y_iload X dX5_isWord_42 5 rfl ?_
              refine y_if_eq X 56 ((h0) = (0)) dX5_isWord_44 (by decide) (nI_eq (a := h0) (b := 0) (by omega) (by omega)) (fun c_15 => ?_) (fun c_15 => ?_)
              ·
                refine y_iconst X (v := (1)) dX5_isWord_56 (by decide) ?_
                refine y_goto X 61 dX5_isWord_57 (by decide) ?_
                exact y_zret X hr (by rfl) dX5_isWord_61 rfl (by have g2 : wdP G ln wL u0 = u0 + 1 + 1 := (by simp only [gL, oz, wdO_cons, wdO_nil, wdP, List.cons_append, List.nil_append, List.append_nil, and_true, true_and, and_false, false_and, if_true, if_false, ite_true, ite_false, not_false_eq_true, eq_self, (eq_true cs4), (eq_true cs10), c_6, c_12, c_13, c_14, c_15]); have gO : wdO G ln wL u0 := (by simp only [gL, oz, wdO_cons, wdO_nil, wdP, List.cons_append, List.nil_append, List.append_nil, and_true, true_and, and_false, false_and, if_true, if_false, ite_true, ite_false, not_false_eq_true, eq_self, (eq_true cs4), (eq_true cs10), c_6, c_12, c_13, c_14, c_15]); rw [g2]; exact ⟨congrArg (fun z => some (Value.int z)) (bI_1 gO).symm, gM10, (fun i9 g9 => by rw [gF10 i9 (by omega)]; rw [gF4 i9 (by omega)])⟩)
              ·
                refine y_aload_n X dX5_isWord_47 0 rfl ?_
                refine y_iload X dX5_isWord_48 5 rfl ?_
                refine y_callV X (61) 5 (av := [.int (nI (h0))]) [] 1 (c_X5_sign (G := G) (u0 := u0 + 1 + 1) (tl := tl) (by omega) gl80 gX gG gM10 h_11 (c0 := h0) (by omega)) (by omega) gM10 rfl gX5_isWord_X5_sign rfl (by decide +kernel) rfl ⟨Nat.le_of_ble_eq_true rfl, Nat.le_of_ble_eq_true rfl⟩ ⟨Nat.zero_le _, Nat.zero_le _⟩ (Nat.le_of_ble_eq_true rfl) rfl dX5_isWord_50 (fun v_16 C_17 hp_18 => ?_)
                obtain ⟨gv19, gM19, gF19⟩ := hp_18
                rcases Decidable.em (chA G ln (u0 + 1 + 1) (h0)) with cs19 | cs19
                ·
                  rw [bI_1 cs19] at gv19
                  subst gv19
                  rw [if_pos cs19] at gM19
                  have gb19 := cs19.1
                  have h_20 : C_17 (66) = .inl (E.2.2.1 1, 80, .inl zx) := (gF19 _ (by omega)).trans h_11
                  refine y_if_eq X 60 ((1) = (0)) dX5_isWord_53 (by decide) (nI_eq (a := 1) (b := 0) (by omega) (by omega)) (fun c_21 => ?_) (fun c_21 => ?_)
                  ·
                    exact absurd c_21 (by decide)
                  ·
                    refine y_iconst X (v := (1)) dX5_isWord_56 (by decide) ?_
                    refine y_goto X 61 dX5_isWord_57 (by decide) ?_
                    exact y_zret X hr (by rfl) dX5_isWord_61 rfl (by have g2 : wdP G ln wL u0 = u0 + 1 + 1 + 1 := (by simp only [gL, oz, wdO_cons, wdO_nil, wdP, List.cons_append, List.nil_append, List.append_nil, and_true, true_and, and_false, false_and, if_true, if_false, ite_true, ite_false, not_false_eq_true, eq_self, (eq_true cs4), (eq_true cs10), (eq_true cs19), c_6, c_12, c_13, c_14, c_15, c_21]); have gO : wdO G ln wL u0 := (by simp only [gL, oz, wdO_cons, wdO_nil, wdP, List.cons_append, List.nil_append, List.append_nil, and_true, true_and, and_false, false_and, if_true, if_false, ite_true, ite_false, not_false_eq_true, eq_self, (eq_true cs4), (eq_true cs10), (eq_true cs19), c_6, c_12, c_13, c_14, c_15, c_21]); rw [g2]; exact ⟨congrArg (fun z => some (Value.int z)) (bI_1 gO).symm, gM19, (fun i9 g9 => by rw [gF19 i9 (by omega)]; rw [gF10 i9 (by omega)]; rw [gF4 i9 (by omega)])⟩)
                ·
                  rw [bI_0 cs19] at gv19
                  subst gv19
                  rw [if_neg cs19] at gM19
                  have h_22 : C_17 (66) = .inl (E.2.2.1 1, 80, .inl zx) := (gF19 _ (by omega)).trans h_11
                  refine y_if_eq X 60 ((0) = (0)) dX5_isWord_53 (by decide) (nI_eq (a := 0) (b := 0) (by omega) (by omega)) (fun c_23 => ?_) (fun c_23 => ?_)
                  ·
                    refine y_iconst X (v := (0)) dX5_isWord_60 (by decide) ?_
                    exact y_zret X hr (by rfl) dX5_isWord_61 rfl (by have g2 : wdP G ln wL u0 = u0 + 1 + 1 := (by simp only [gL, oz, wdO_cons, wdO_nil, wdP, List.cons_append, List.nil_append, List.append_nil, and_true, true_and, and_false, false_and, if_true, if_false, ite_true, ite_false, not_false_eq_true, eq_self, (eq_true cs4), (eq_true cs10), (eq_false cs19), c_6, c_12, c_13, c_14, c_15, c_23]); have gN : ¬ wdO G ln wL u0 := (by simp only [gL, oz, wdO_cons, wdO_nil, wdP, List.cons_append, List.nil_append, List.append_nil, and_true, true_and, and_false, false_and, if_true, if_false, ite_true, ite_false, not_false_eq_true, eq_self, (eq_true cs4), (eq_true cs10), (eq_false cs19), c_6, c_12, c_13, c_14, c_15, c_23]); rw [g2]; exact ⟨congrArg (fun z => some (Value.int z)) (bI_0 gN).symm, gM19, (fun i9 g9 => by rw [gF19 i9 (by omega)]; rw [gF10 i9 (by omega)]; rw [gF4 i9 (by omega)])⟩)
                  ·
                    exact absurd c_23 (by decide)
            ·
              refine y_aload_n X dX5_isWord_33 0 rfl ?_
              refine y_iload X dX5_isWord_34 4 rfl ?_
              refine y_callV X (61) 5 (av := [.int (nI (f0))]) [] 1 (c_X5_sign (G := G) (u0 := u0 + 1 + 1) (tl := tl) (by omega) gl80 gX gG gM10 h_11 (c0 := f0) (by omega)) (by omega) gM10 rfl gX5_isWord_X5_sign rfl (by decide +kernel) rfl ⟨Nat.le_of_ble_eq_true rfl, Nat.le_of_ble_eq_true rfl⟩ ⟨Nat.zero_le _, Nat.zero_le _⟩ (Nat.le_of_ble_eq_true rfl) rfl dX5_isWord_36 (fun v_24 C_25 hp_26 => ?_)
              obtain ⟨gv27, gM27, gF27⟩ := hp_26
              rcases Decidable.em (chA G ln (u0 + 1 + 1) (f0)) with cs27 | cs27
              ·
                rw [bI_1 cs27] at gv27
                subst gv27
                rw [if_pos cs27] at gM27
                have gb27 := cs27.1
                have h_28 : C_25 (66) = .inl (E.2.2.1 1, 80, .inl zx) := (gF27 _ (by omega)).trans h_11
                refine y_if_eq X 60 ((1) = (0)) dX5_isWord_39 (by decide) (nI_eq (a := 1) (b := 0) (by omega) (by omega)) (fun c_29 => ?_) (fun c_29 => ?_)
                ·
                  exact absurd c_29 (by decide)
                ·
                  refine y_iload X dX5_isWord_42 5 rfl ?_
                  refine y_if_eq X 56 ((h0) = (0)) dX5_isWord_44 (by decide) (nI_eq (a := h0) (b := 0) (by omega) (by omega)) (fun c_30 => ?_) (fun c_30 => ?_)
                  ·
                    refine y_iconst X (v := (1)) dX5_isWord_56 (by decide) ?_
                    refine y_goto X 61 dX5_isWord_57 (by decide) ?_
                    exact y_zret X hr (by rfl) dX5_isWord_61 rfl (by have g2 : wdP G ln wL u0 = u0 + 1 + 1 + 1 := (by simp only [gL, oz, wdO_cons, wdO_nil, wdP, List.cons_append, List.nil_append, List.append_nil, and_true, true_and, and_false, false_and, if_true, if_false, ite_true, ite_false, not_false_eq_true, eq_self, (eq_true cs4), (eq_true cs10), (eq_true cs27), c_6, c_12, c_13, c_14, c_29, c_30]); have gO : wdO G ln wL u0 := (by simp only [gL, oz, wdO_cons, wdO_nil, wdP, List.cons_append, List.nil_append, List.append_nil, and_true, true_and, and_false, false_and, if_true, if_false, ite_true, ite_false, not_false_eq_true, eq_self, (eq_true cs4), (eq_true cs10), (eq_true cs27), c_6, c_12, c_13, c_14, c_29, c_30]); rw [g2]; exact ⟨congrArg (fun z => some (Value.int z)) (bI_1 gO).symm, gM27, (fun i9 g9 => by rw [gF27 i9 (by omega)]; rw [gF10 i9 (by omega)]; rw [gF4 i9 (by omega)])⟩)
                  ·
                    refine y_aload_n X dX5_isWord_47 0 rfl ?_
                    refine y_iload X dX5_isWord_48 5 rfl ?_
                    refine y_callV X (61) 5 (av := [.int (nI (h0))]) [] 1 (c_X5_sign (G := G) (u0 := u0 + 1 + 1 + 1) (tl := tl) (by omega) gl80 gX gG gM27 h_28 (c0 := h0) (by omega)) (by omega) gM27 rfl gX5_isWord_X5_sign rfl (by decide +kernel) rfl ⟨Nat.le_of_ble_eq_true rfl, Nat.le_of_ble_eq_true rfl⟩ ⟨Nat.zero_le _, Nat.zero_le _⟩ (Nat.le_of_ble_eq_true rfl) rfl dX5_isWord_50 (fun v_31 C_32 hp_33 => ?_)
                    obtain ⟨gv34, gM34, gF34⟩ := hp_33
                    rcases Decidable.em (chA G ln (u0 + 1 + 1 + 1) (h0)) with cs34 | cs34
                    ·
                      rw [bI_1 cs34] at gv34
                      subst gv34
                      rw [if_pos cs34] at gM34
                      have gb34 := cs34.1
                      have h_35 : C_32 (66) = .inl (E.2.2.1 1, 80, .inl zx) := (gF34 _ (by omega)).trans h_28
                      refine y_if_eq X 60 ((1) = (0)) dX5_isWord_53 (by decide) (nI_eq (a := 1) (b := 0) (by omega) (by omega)) (fun c_36 => ?_) (fun c_36 => ?_)
                      ·
                        exact absurd c_36 (by decide)
                      ·
                        refine y_iconst X (v := (1)) dX5_isWord_56 (by decide) ?_
                        refine y_goto X 61 dX5_isWord_57 (by decide) ?_
                        exact y_zret X hr (by rfl) dX5_isWord_61 rfl (by have g2 : wdP G ln wL u0 = u0 + 1 + 1 + 1 + 1 := (by simp only [gL, oz, wdO_cons, wdO_nil, wdP, List.cons_append, List.nil_append, List.append_nil, and_true, true_and, and_false, false_and, if_true, if_false, ite_true, ite_false, not_false_eq_true, eq_self, (eq_true cs4), (eq_true cs10), (eq_true cs27), (eq_true cs34), c_6, c_12, c_13, c_14, c_29, c_30, c_36]); have gO : wdO G ln wL u0 := (by simp only [gL, oz, wdO_cons, wdO_nil, wdP, List.cons_append, List.nil_append, List.append_nil, and_true, true_and, and_false, false_and, if_true, if_false, ite_true, ite_false, not_false_eq_true, eq_self, (eq_true cs4), (eq_true cs10), (eq_true cs27), (eq_true cs34), c_6, c_12, c_13, c_14, c_29, c_30, c_36]); rw [g2]; exact ⟨congrArg (fun z => some (Value.int z)) (bI_1 gO).symm, gM34, (fun i9 g9 => by rw [gF34 i9 (by omega)]; rw [gF27 i9 (by omega)]; rw [gF10 i9 (by omega)]; rw [gF4 i9 (by omega)])⟩)
                    ·
                      rw [bI_0 cs34] at gv34
                      subst gv34
                      rw [if_neg cs34] at gM34
                      have h_37 : C_32 (66) = .inl (E.2.2.1 1, 80, .inl zx) := (gF34 _ (by omega)).trans h_28
                      refine y_if_eq X 60 ((0) = (0)) dX5_isWord_53 (by decide) (nI_eq (a := 0) (b := 0) (by omega) (by omega)) (fun c_38 => ?_) (fun c_38 => ?_)
                      ·
                        refine y_iconst X (v := (0)) dX5_isWord_60 (by decide) ?_
                        exact y_zret X hr (by rfl) dX5_isWord_61 rfl (by have g2 : wdP G ln wL u0 = u0 + 1 + 1 + 1 := (by simp only [gL, oz, wdO_cons, wdO_nil, wdP, List.cons_append, List.nil_append, List.append_nil, and_true, true_and, and_false, false_and, if_true, if_false, ite_true, ite_false, not_false_eq_true, eq_self, (eq_true cs4), (eq_true cs10), (eq_true cs27), (eq_false cs34), c_6, c_12, c_13, c_14, c_29, c_30, c_38]); have gN : ¬ wdO G ln wL u0 := (by simp only [gL, oz, wdO_cons, wdO_nil, wdP, List.cons_append, List.nil_append, List.append_nil, and_true, true_and, and_false, false_and, if_true, if_false, ite_true, ite_false, not_false_eq_true, eq_self, (eq_true cs4), (eq_true cs10), (eq_true cs27), (eq_false cs34), c_6, c_12, c_13, c_14, c_29, c_30, c_38]); rw [g2]; exact ⟨congrArg (fun z => some (Value.int z)) (bI_0 gN).symm, gM34, (fun i9 g9 => by rw [gF34 i9 (by omega)]; rw [gF27 i9 (by omega)]; rw [gF10 i9 (by omega)]; rw [gF4 i9 (by omega)])⟩)
                      ·
                        exact absurd c_38 (by decide)
              ·
                rw [bI_0 cs27] at gv27
                subst gv27
                rw [if_neg cs27] at gM27
                have h_39 : C_25 (66) = .inl (E.2.2.1 1, 80, .inl zx) := (gF27 _ (by omega)).trans h_11
                refine y_if_eq X 60 ((0) = (0)) dX5_isWord_39 (by decide) (nI_eq (a := 0) (b := 0) (by omega) (by omega)) (fun c_40 => ?_) (fun c_40 => ?_)
                ·
                  refine y_iconst X (v := (0)) dX5_isWord_60 (by decide) ?_
                  exact y_zret X hr (by rfl) dX5_isWord_61 rfl (by have g2 : wdP G ln wL u0 = u0 + 1 + 1 := (by simp only [gL, oz, wdO_cons, wdO_nil, wdP, List.cons_append, List.nil_append, List.append_nil, and_true, true_and, and_false, false_and, if_true, if_false, ite_true, ite_false, not_false_eq_true, eq_self, (eq_true cs4), (eq_true cs10), (eq_false cs27), c_6, c_12, c_13, c_14, c_40]); have gN : ¬ wdO G ln wL u0 := (by simp only [gL, oz, wdO_cons, wdO_nil, wdP, List.cons_append, List.nil_append, List.append_nil, and_true, true_and, and_false, false_and, if_true, if_false, ite_true, ite_false, not_false_eq_true, eq_self, (eq_true cs4), (eq_true cs10), (eq_false cs27), c_6, c_12, c_13, c_14, c_40]); rw [g2]; exact ⟨congrArg (fun z => some (Value.int z)) (bI_0 gN).symm, gM27, (fun i9 g9 => by rw [gF27 i9 (by omega)]; rw [gF10 i9 (by omega)]; rw [gF4 i9 (by omega)])⟩)
                ·
                  exact absurd c_40 (by decide)
          ·
            refine y_aload_n X dX5_isWord_20 0 rfl ?_
            refine y_iload_n X dX5_isWord_21 3 rfl ?_
            refine y_callV X (61) 5 (av := [.int (nI (e0))]) [] 1 (c_X5_sign (G := G) (u0 := u0 + 1 + 1) (tl := tl) (by omega) gl80 gX gG gM10 h_11 (c0 := e0) (by omega)) (by omega) gM10 rfl gX5_isWord_X5_sign rfl (by decide +kernel) rfl ⟨Nat.le_of_ble_eq_true rfl, Nat.le_of_ble_eq_true rfl⟩ ⟨Nat.zero_le _, Nat.zero_le _⟩ (Nat.le_of_ble_eq_true rfl) rfl dX5_isWord_22 (fun v_41 C_42 hp_43 => ?_)
            obtain ⟨gv44, gM44, gF44⟩ := hp_43
            rcases Decidable.em (chA G ln (u0 + 1 + 1) (e0)) with cs44 | cs44
            ·
              rw [bI_1 cs44] at gv44
              subst gv44
              rw [if_pos cs44] at gM44
              have gb44 := cs44.1
              have h_45 : C_42 (66) = .inl (E.2.2.1 1, 80, .inl zx) := (gF44 _ (by omega)).trans h_11
              refine y_if_eq X 60 ((1) = (0)) dX5_isWord_25 (by decide) (nI_eq (a := 1) (b := 0) (by omega) (by omega)) (fun c_46 => ?_) (fun c_46 => ?_)
              ·
                exact absurd c_46 (by decide)
              ·
                refine y_iload X dX5_isWord_28 4 rfl ?_
                refine y_if_eq X 42 ((f0) = (0)) dX5_isWord_30 (by decide) (nI_eq (a := f0) (b := 0) (by omega) (by omega)) (fun c_47 => ?_) (fun c_47 => ?_)
                ·
                  refine y_iload X dX5_isWord_42 5 rfl ?_
                  refine y_if_eq X 56 ((h0) = (0)) dX5_isWord_44 (by decide) (nI_eq (a := h0) (b := 0) (by omega) (by omega)) (fun c_48 => ?_) (fun c_48 => ?_)
                  ·
                    refine y_iconst X (v := (1)) dX5_isWord_56 (by decide) ?_
                    refine y_goto X 61 dX5_isWord_57 (by decide) ?_
                    exact y_zret X hr (by rfl) dX5_isWord_61 rfl (by have g2 : wdP G ln wL u0 = u0 + 1 + 1 + 1 := (by simp only [gL, oz, wdO_cons, wdO_nil, wdP, List.cons_append, List.nil_append, List.append_nil, and_true, true_and, and_false, false_and, if_true, if_false, ite_true, ite_false, not_false_eq_true, eq_self, (eq_true cs4), (eq_true cs10), (eq_true cs44), c_6, c_12, c_13, c_46, c_47, c_48]); have gO : wdO G ln wL u0 := (by simp only [gL, oz, wdO_cons, wdO_nil, wdP, List.cons_append, List.nil_append, List.append_nil, and_true, true_and, and_false, false_and, if_true, if_false, ite_true, ite_false, not_false_eq_true, eq_self, (eq_true cs4), (eq_true cs10), (eq_true cs44), c_6, c_12, c_13, c_46, c_47, c_48]); rw [g2]; exact ⟨congrArg (fun z => some (Value.int z)) (bI_1 gO).symm, gM44, (fun i9 g9 => by rw [gF44 i9 (by omega)]; rw [gF10 i9 (by omega)]; rw [gF4 i9 (by omega)])⟩)
                  ·
                    refine y_aload_n X dX5_isWord_47 0 rfl ?_
                    refine y_iload X dX5_isWord_48 5 rfl ?_
                    refine y_callV X (61) 5 (av := [.int (nI (h0))]) [] 1 (c_X5_sign (G := G) (u0 := u0 + 1 + 1 + 1) (tl := tl) (by omega) gl80 gX gG gM44 h_45 (c0 := h0) (by omega)) (by omega) gM44 rfl gX5_isWord_X5_sign rfl (by decide +kernel) rfl ⟨Nat.le_of_ble_eq_true rfl, Nat.le_of_ble_eq_true rfl⟩ ⟨Nat.zero_le _, Nat.zero_le _⟩ (Nat.le_of_ble_eq_true rfl) rfl dX5_isWord_50 (fun v_49 C_50 hp_51 => ?_)
                    obtain ⟨gv52, gM52, gF52⟩ := hp_51
                    rcases Decidable.em (chA G ln (u0 + 1 + 1 + 1) (h0)) with cs52 | cs52
                    ·
                      rw [bI_1 cs52] at gv52
                      subst gv52
                      rw [if_pos cs52] at gM52
                      have gb52 := cs52.1
                      have h_53 : C_50 (66) = .inl (E.2.2.1 1, 80, .inl zx) := (gF52 _ (by omega)).trans h_45
                      refine y_if_eq X 60 ((1) = (0)) dX5_isWord_53 (by decide) (nI_eq (a := 1) (b := 0) (by omega) (by omega)) (fun c_54 => ?_) (fun c_54 => ?_)
                      ·
                        exact absurd c_54 (by decide)
                      ·
                        refine y_iconst X (v := (1)) dX5_isWord_56 (by decide) ?_
                        refine y_goto X 61 dX5_isWord_57 (by decide) ?_
                        exact y_zret X hr (by rfl) dX5_isWord_61 rfl (by have g2 : wdP G ln wL u0 = u0 + 1 + 1 + 1 + 1 := (by simp only [gL, oz, wdO_cons, wdO_nil, wdP, List.cons_append, List.nil_append, List.append_nil, and_true, true_and, and_false, false_and, if_true, if_false, ite_true, ite_false, not_false_eq_true, eq_self, (eq_true cs4), (eq_true cs10), (eq_true cs44), (eq_true cs52), c_6, c_12, c_13, c_46, c_47, c_48, c_54]); have gO : wdO G ln wL u0 := (by simp only [gL, oz, wdO_cons, wdO_nil, wdP, List.cons_append, List.nil_append, List.append_nil, and_true, true_and, and_false, false_and, if_true, if_false, ite_true, ite_false, not_false_eq_true, eq_self, (eq_true cs4), (eq_true cs10), (eq_true cs44), (eq_true cs52), c_6, c_12, c_13, c_46, c_47, c_48, c_54]); rw [g2]; exact ⟨congrArg (fun z => some (Value.int z)) (bI_1 gO).symm, gM52, (fun i9 g9 => by rw [gF52 i9 (by omega)]; rw [gF44 i9 (by omega)]; rw [gF10 i9 (by omega)]; rw [gF4 i9 (by omega)])⟩)
                    ·
                      rw [bI_0 cs52] at gv52
                      subst gv52
                      rw [if_neg cs52] at gM52
                      have h_55 : C_50 (66) = .inl (E.2.2.1 1, 80, .inl zx) := (gF52 _ (by omega)).trans h_45
                      refine y_if_eq X 60 ((0) = (0)) dX5_isWord_53 (by decide) (nI_eq (a := 0) (b := 0) (by omega) (by omega)) (fun c_56 => ?_) (fun c_56 => ?_)
                      ·
                        refine y_iconst X (v := (0)) dX5_isWord_60 (by decide) ?_
                        exact y_zret X hr (by rfl) dX5_isWord_61 rfl (by have g2 : wdP G ln wL u0 = u0 + 1 + 1 + 1 := (by simp only [gL, oz, wdO_cons, wdO_nil, wdP, List.cons_append, List.nil_append, List.append_nil, and_true, true_and, and_false, false_and, if_true, if_false, ite_true, ite_false, not_false_eq_true, eq_self, (eq_true cs4), (eq_true cs10), (eq_true cs44), (eq_false cs52), c_6, c_12, c_13, c_46, c_47, c_48, c_56]); have gN : ¬ wdO G ln wL u0 := (by simp only [gL, oz, wdO_cons, wdO_nil, wdP, List.cons_append, List.nil_append, List.append_nil, and_true, true_and, and_false, false_and, if_true, if_false, ite_true, ite_false, not_false_eq_true, eq_self, (eq_true cs4), (eq_true cs10), (eq_true cs44), (eq_false cs52), c_6, c_12, c_13, c_46, c_47, c_48, c_56]); rw [g2]; exact ⟨congrArg (fun z => some (Value.int z)) (bI_0 gN).symm, gM52, (fun i9 g9 => by rw [gF52 i9 (by omega)]; rw [gF44 i9 (by omega)]; rw [gF10 i9 (by omega)]; rw [gF4 i9 (by omega)])⟩)
                      ·
                        exact absurd c_56 (by decide)
                ·
                  refine y_aload_n X dX5_isWord_33 0 rfl ?_
                  refine y_iload X dX5_isWord_34 4 rfl ?_
                  refine y_callV X (61) 5 (av := [.int (nI (f0))]) [] 1 (c_X5_sign (G := G) (u0 := u0 + 1 + 1 + 1) (tl := tl) (by omega) gl80 gX gG gM44 h_45 (c0 := f0) (by omega)) (by omega) gM44 rfl gX5_isWord_X5_sign rfl (by decide +kernel) rfl ⟨Nat.le_of_ble_eq_true rfl, Nat.le_of_ble_eq_true rfl⟩ ⟨Nat.zero_le _, Nat.zero_le _⟩ (Nat.le_of_ble_eq_true rfl) rfl dX5_isWord_36 (fun v_57 C_58 hp_59 => ?_)
                  obtain ⟨gv60, gM60, gF60⟩ := hp_59
                  rcases Decidable.em (chA G ln (u0 + 1 + 1 + 1) (f0)) with cs60 | cs60
                  ·
                    rw [bI_1 cs60] at gv60
                    subst gv60
                    rw [if_pos cs60] at gM60
                    have gb60 := cs60.1
                    have h_61 : C_58 (66) = .inl (E.2.2.1 1, 80, .inl zx) := (gF60 _ (by omega)).trans h_45
                    refine y_if_eq X 60 ((1) = (0)) dX5_isWord_39 (by decide) (nI_eq (a := 1) (b := 0) (by omega) (by omega)) (fun c_62 => ?_) (fun c_62 => ?_)
                    ·
                      exact absurd c_62 (by decide)
                    ·
                      refine y_iload X dX5_isWord_42 5 rfl ?_
                      refine y_if_eq X 56 ((h0) = (0)) dX5_isWord_44 (by decide) (nI_eq (a := h0) (b := 0) (by omega) (by omega)) (fun c_63 => ?_) (fun c_63 => ?_)
                      ·
                        refine y_iconst X (v := (1)) dX5_isWord_56 (by decide) ?_
                        refine y_goto X 61 dX5_isWord_57 (by decide) ?_
                        exact y_zret X hr (by rfl) dX5_isWord_61 rfl (by have g2 : wdP G ln wL u0 = u0 + 1 + 1 + 1 + 1 := (by simp only [gL, oz, wdO_cons, wdO_nil, wdP, List.cons_append, List.nil_append, List.append_nil, and_true, true_and, and_false, false_and, if_true, if_false, ite_true, ite_false, not_false_eq_true, eq_self, (eq_true cs4), (eq_true cs10), (eq_true cs44), (eq_true cs60), c_6, c_12, c_13, c_46, c_47, c_62, c_63]); have gO : wdO G ln wL u0 := (by simp only [gL, oz, wdO_cons, wdO_nil, wdP, List.cons_append, List.nil_append, List.append_nil, and_true, true_and, and_false, false_and, if_true, if_false, ite_true, ite_false, not_false_eq_true, eq_self, (eq_true cs4), (eq_true cs10), (eq_true cs44), (eq_true cs60), c_6, c_12, c_13, c_46, c_47, c_62, c_63]); rw [g2]; exact ⟨congrArg (fun z => some (Value.int z)) (bI_1 gO).symm, gM60, (fun i9 g9 => by rw [gF60 i9 (by omega)]; rw [gF44 i9 (by omega)]; rw [gF10 i9 (by omega)]; rw [gF4 i9 (by omega)])⟩)
                      ·
                        refine y_aload_n X dX5_isWord_47 0 rfl ?_
                        refine y_iload X dX5_isWord_48 5 rfl ?_
                        refine y_callV X (61) 5 (av := [.int (nI (h0))]) [] 1 (c_X5_sign (G := G) (u0 := u0 + 1 + 1 + 1 + 1) (tl := tl) (by omega) gl80 gX gG gM60 h_61 (c0 := h0) (by omega)) (by omega) gM60 rfl gX5_isWord_X5_sign rfl (by decide +kernel) rfl ⟨Nat.le_of_ble_eq_true rfl, Nat.le_of_ble_eq_true rfl⟩ ⟨Nat.zero_le _, Nat.zero_le _⟩ (Nat.le_of_ble_eq_true rfl) rfl dX5_isWord_50 (fun v_64 C_65 hp_66 => ?_)
                        obtain ⟨gv67, gM67, gF67⟩ := hp_66
                        rcases Decidable.em (chA G ln (u0 + 1 + 1 + 1 + 1) (h0)) with cs67 | cs67
                        ·
                          rw [bI_1 cs67] at gv67
                          subst gv67
                          rw [if_pos cs67] at gM67
                          have gb67 := cs67.1
                          have h_68 : C_65 (66) = .inl (E.2.2.1 1, 80, .inl zx) := (gF67 _ (by omega)).trans h_61
                          refine y_if_eq X 60 ((1) = (0)) dX5_isWord_53 (by decide) (nI_eq (a := 1) (b := 0) (by omega) (by omega)) (fun c_69 => ?_) (fun c_69 => ?_)
                          ·
                            exact absurd c_69 (by decide)
                          ·
                            refine y_iconst X (v := (1)) dX5_isWord_56 (by decide) ?_
                            refine y_goto X 61 dX5_isWord_57 (by decide) ?_
                            exact y_zret X hr (by rfl) dX5_isWord_61 rfl (by have g2 : wdP G ln wL u0 = u0 + 1 + 1 + 1 + 1 + 1 := (by simp only [gL, oz, wdO_cons, wdO_nil, wdP, List.cons_append, List.nil_append, List.append_nil, and_true, true_and, and_false, false_and, if_true, if_false, ite_true, ite_false, not_false_eq_true, eq_self, (eq_true cs4), (eq_true cs10), (eq_true cs44), (eq_true cs60), (eq_true cs67), c_6, c_12, c_13, c_46, c_47, c_62, c_63, c_69]); have gO : wdO G ln wL u0 := (by simp only [gL, oz, wdO_cons, wdO_nil, wdP, List.cons_append, List.nil_append, List.append_nil, and_true, true_and, and_false, false_and, if_true, if_false, ite_true, ite_false, not_false_eq_true, eq_self, (eq_true cs4), (eq_true cs10), (eq_true cs44), (eq_true cs60), (eq_true cs67), c_6, c_12, c_13, c_46, c_47, c_62, c_63, c_69]); rw [g2]; exact ⟨congrArg (fun z => some (Value.int z)) (bI_1 gO).symm, gM67, (fun i9 g9 => by rw [gF67 i9 (by omega)]; rw [gF60 i9 (by omega)]; rw [gF44 i9 (by omega)]; rw [gF10 i9 (by omega)]; rw [gF4 i9 (by omega)])⟩)
                        ·
                          rw [bI_0 cs67] at gv67
                          subst gv67
                          rw [if_neg cs67] at gM67
                          have h_70 : C_65 (66) = .inl (E.2.2.1 1, 80, .inl zx) := (gF67 _ (by omega)).trans h_61
                          refine y_if_eq X 60 ((0) = (0)) dX5_isWord_53 (by decide) (nI_eq (a := 0) (b := 0) (by omega) (by omega)) (fun c_71 => ?_) (fun c_71 => ?_)
                          ·
                            refine y_iconst X (v := (0)) dX5_isWord_60 (by decide) ?_
                            exact y_zret X hr (by rfl) dX5_isWord_61 rfl (by have g2 : wdP G ln wL u0 = u0 + 1 + 1 + 1 + 1 := (by simp only [gL, oz, wdO_cons, wdO_nil, wdP, List.cons_append, List.nil_append, List.append_nil, and_true, true_and, and_false, false_and, if_true, if_false, ite_true, ite_false, not_false_eq_true, eq_self, (eq_true cs4), (eq_true cs10), (eq_true cs44), (eq_true cs60), (eq_false cs67), c_6, c_12, c_13, c_46, c_47, c_62, c_63, c_71]); have gN : ¬ wdO G ln wL u0 := (by simp only [gL, oz, wdO_cons, wdO_nil, wdP, List.cons_append, List.nil_append, List.append_nil, and_true, true_and, and_false, false_and, if_true, if_false, ite_true, ite_false, not_false_eq_true, eq_self, (eq_true cs4), (eq_true cs10), (eq_true cs44), (eq_true cs60), (eq_false cs67), c_6, c_12, c_13, c_46, c_47, c_62, c_63, c_71]); rw [g2]; exact ⟨congrArg (fun z => some (Value.int z)) (bI_0 gN).symm, gM67, (fun i9 g9 => by rw [gF67 i9 (by omega)]; rw [gF60 i9 (by omega)]; rw [gF44 i9 (by omega)]; rw [gF10 i9 (by omega)]; rw [gF4 i9 (by omega)])⟩)
                          ·
                            exact absurd c_71 (by decide)
                  ·
                    rw [bI_0 cs60] at gv60
                    subst gv60
                    rw [if_neg cs60] at gM60
                    have h_72 : C_58 (66) = .inl (E.2.2.1 1, 80, .inl zx) := (gF60 _ (by omega)).trans h_45
                    refine y_if_eq X 60 ((0) = (0)) dX5_isWord_39 (by decide) (nI_eq (a := 0) (b := 0) (by omega) (by omega)) (fun c_73 => ?_) (fun c_73 => ?_)
                    ·
                      refine y_iconst X (v := (0)) dX5_isWord_60 (by decide) ?_
                      exact y_zret X hr (by rfl) dX5_isWord_61 rfl (by have g2 : wdP G ln wL u0 = u0 + 1 + 1 + 1 := (by simp only [gL, oz, wdO_cons, wdO_nil, wdP, List.cons_append, List.nil_append, List.append_nil, and_true, true_and, and_false, false_and, if_true, if_false, ite_true, ite_false, not_false_eq_true, eq_self, (eq_true cs4), (eq_true cs10), (eq_true cs44), (eq_false cs60), c_6, c_12, c_13, c_46, c_47, c_73]); have gN : ¬ wdO G ln wL u0 := (by simp only [gL, oz, wdO_cons, wdO_nil, wdP, List.cons_append, List.nil_append, List.append_nil, and_true, true_and, and_false, false_and, if_true, if_false, ite_true, ite_false, not_false_eq_true, eq_self, (eq_true cs4), (eq_true cs10), (eq_true cs44), (eq_false cs60), c_6, c_12, c_13, c_46, c_47, c_73]); rw [g2]; exact ⟨congrArg (fun z => some (Value.int z)) (bI_0 gN).symm, gM60, (fun i9 g9 => by rw [gF60 i9 (by omega)]; rw [gF44 i9 (by omega)]; rw [gF10 i9 (by omega)]; rw [gF4 i9 (by omega)])⟩)
                    ·
                      exact absurd c_73 (by decide)
            ·
              rw [bI_0 cs44] at gv44
              subst gv44
              rw [if_neg cs44] at gM44
              have h_74 : C_42 (66) = .inl (E.2.2.1 1, 80, .inl zx) := (gF44 _ (by omega)).trans h_11
              refine y_if_eq X 60 ((0) = (0)) dX5_isWord_25 (by decide) (nI_eq (a := 0) (b := 0) (by omega) (by omega)) (fun c_75 => ?_) (fun c_75 => ?_)
              ·
                refine y_iconst X (v := (0)) dX5_isWord_60 (by decide) ?_
                exact y_zret X hr (by rfl) dX5_isWord_61 rfl (by have g2 : wdP G ln wL u0 = u0 + 1 + 1 := (by simp only [gL, oz, wdO_cons, wdO_nil, wdP, List.cons_append, List.nil_append, List.append_nil, and_true, true_and, and_false, false_and, if_true, if_false, ite_true, ite_false, not_false_eq_true, eq_self, (eq_true cs4), (eq_true cs10), (eq_false cs44), c_6, c_12, c_13, c_75]); have gN : ¬ wdO G ln wL u0 := (by simp only [gL, oz, wdO_cons, wdO_nil, wdP, List.cons_append, List.nil_append, List.append_nil, and_true, true_and, and_false, false_and, if_true, if_false, ite_true, ite_false, not_false_eq_true, eq_self, (eq_true cs4), (eq_true cs10), (eq_false cs44), c_6, c_12, c_13, c_75]); rw [g2]; exact ⟨congrArg (fun z => some (Value.int z)) (bI_0 gN).symm, gM44, (fun i9 g9 => by rw [gF44 i9 (by omega)]; rw [gF10 i9 (by omega)]; rw [gF4 i9 (by omega)])⟩)
              ·
                exact absurd c_75 (by decide)
      ·
        rw [bI_0 cs10] at gv10
        subst gv10
        rw [if_neg cs10] at gM10
        have h_76 : C_8 (66) = .inl (E.2.2.1 1, 80, .inl zx) := (gF10 _ (by omega)).trans h_5
        refine y_if_eq X 60 ((0) = (0)) dX5_isWord_13 (by decide) (nI_eq (a := 0) (b := 0) (by omega) (by omega)) (fun c_77 => ?_) (fun c_77 => ?_)
        ·
          refine y_iconst X (v := (0)) dX5_isWord_60 (by decide) ?_
          exact y_zret X hr (by rfl) dX5_isWord_61 rfl (by have g2 : wdP G ln wL u0 = u0 + 1 := (by simp only [gL, oz, wdO_cons, wdO_nil, wdP, List.cons_append, List.nil_append, List.append_nil, and_true, true_and, and_false, false_and, if_true, if_false, ite_true, ite_false, not_false_eq_true, eq_self, (eq_true cs4), (eq_false cs10), c_6, c_77]); have gN : ¬ wdO G ln wL u0 := (by simp only [gL, oz, wdO_cons, wdO_nil, wdP, List.cons_append, List.nil_append, List.append_nil, and_true, true_and, and_false, false_and, if_true, if_false, ite_true, ite_false, not_false_eq_true, eq_self, (eq_true cs4), (eq_false cs10), c_6, c_77]); rw [g2]; exact ⟨congrArg (fun z => some (Value.int z)) (bI_0 gN).symm, gM10, (fun i9 g9 => by rw [gF10 i9 (by omega)]; rw [gF4 i9 (by omega)])⟩)
        ·
          exact absurd c_77 (by decide)
  ·
    rw [bI_0 cs4] at gv4
    subst gv4
    rw [if_neg cs4] at gM4
    have h_78 : C_2 (66) = .inl (E.2.2.1 1, 80, .inl zx) := (gF4 _ (by omega)).trans m6
    refine y_if_eq X 60 ((0) = (0)) dX5_isWord_5 (by decide) (nI_eq (a := 0) (b := 0) (by omega) (by omega)) (fun c_79 => ?_) (fun c_79 => ?_)
    ·
      refine y_iconst X (v := (0)) dX5_isWord_60 (by decide) ?_
      exact y_zret X hr (by rfl) dX5_isWord_61 rfl (by have g2 : wdP G ln wL u0 = u0 := (by simp only [gL, oz, wdO_cons, wdO_nil, wdP, List.cons_append, List.nil_append, List.append_nil, and_true, true_and, and_false, false_and, if_true, if_false, ite_true, ite_false, not_false_eq_true, eq_self, (eq_false cs4), c_79]); have gN : ¬ wdO G ln wL u0 := (by simp only [gL, oz, wdO_cons, wdO_nil, wdP, List.cons_append, List.nil_append, List.append_nil, and_true, true_and, and_false, false_and, if_true, if_false, ite_true, ite_false, not_false_eq_true, eq_self, (eq_false cs4), c_79]); rw [g2]; exact ⟨congrArg (fun z => some (Value.int z)) (bI_0 gN).symm, gM4, (fun i9 g9 => by rw [gF4 i9 (by omega)])⟩)
    ·
      exact absurd c_79 (by decide)
