set_option maxRecDepth 100000 in
set_option maxHeartbeats 4000000 in
theorem c_X3_namesIn {l : Launch} {E : xE} {C : xC} {b : Nat} {T : Tb} (gb : b + 4 < 61) (gT : RC E C b T) (gw : WB T) {q : Nat} (gq : q < tn T) : xR E l yX3_namesIn wsX3_namesIn 1 22 [.ref (E.2.1 (b)), .int (nI (q))] C (nmS T q) := by
  obtain ⟨zK, zD, zS, zV, h0, h1, h2, h3, h4, gK, gD, gS, gV⟩ := id gT
  obtain ⟨gw1, gw2, gw3, gw4⟩ := id gw
  refine xM_ofY (cc := cX3_namesIn) (maxL := 4) (ret := (some .int)) (by decide) rfl (Nat.le_of_ble_eq_true rfl) ?_
  intro p e s m args below meth c X hr
  refine y_lv [(0, .ref (E.2.1 (b))), (1, .int (nI (q)))] rfl ?_
  refine y_iconst X (v := (0)) dX3_namesIn_0 (by decide) ?_
  refine y_istore_n X [(2, .int (0)), (0, .ref (E.2.1 (b))), (1, .int (nI (q)))] dX3_namesIn_1 rfl (by decide) rfl ?_
  refine y_iconst X (v := (0)) dX3_namesIn_2 (by decide) ?_
  refine y_istore_n X [(3, .int (0)), (2, .int (0)), (0, .ref (E.2.1 (b))), (1, .int (nI (q)))] dX3_namesIn_3 rfl (by decide) rfl ?_
  have L_4 : ∀ (n : Nat) (j : Nat) (x2 : Int32), 8 - j < n → (j ≤ 8) → (x2 = orf (fun j => if tk T q j = -1 then 0 else bitN j) j) → xY p l e ({ frames := 1, cells := 0, slots := 0, locals := 22 } : Room) s m args below meth c E (xA E) 4 0 0 (MQ below (xQ E (fun v C1 => v = some (.int (nmS T q)) ∧ C1 = C)) args s 0 0 (xA E)) C 4 [(0, .ref (E.2.1 (b))), (1, .int (nI (q))), (2, .int x2), (3, .int (nI (j)))] [] := by
    intro n4
    induction n4 with
    | zero => intro _ _ hm4; exact absurd hm4 (Nat.not_lt_zero _)
    | succ n4 ih4 =>
      intro j x2 hm4 gj gx
      refine y_iload_n X dX3_namesIn_4 3 rfl ?_
      refine y_bipush X (v := (8)) dX3_namesIn_5 (by decide) ?_
      refine y_icmp_ge X 32 ((8) ≤ (j)) dX3_namesIn_7 (by decide) (nI_leI (a := 8) (b := j) (by omega) (by omega)) (fun c_1 => ?_) (fun c_1 => ?_)
      ·
        refine y_iload_n X dX3_namesIn_32 2 rfl ?_
        exact y_iret X hr dX3_namesIn_33 rfl ⟨by rw [gx, show j = 8 by omega]; rfl, rfl⟩
      ·
        refine y_aload_n X dX3_namesIn_10 0 rfl ?_
        refine y_iload_n X dX3_namesIn_11 1 rfl ?_
        refine y_iload_n X dX3_namesIn_12 3 rfl ?_
        refine y_callVr X (b) 3 (av := [.int (nI (q)), .int (nI (j))]) [] 2 (c_X3_kindIn (b := b) (by omega) gT gw (q := q) (j := j) (by omega) (by omega)) (by omega) h0 rfl gX3_namesIn_X3_kindIn rfl (by decide +kernel) rfl ⟨Nat.le_of_ble_eq_true rfl, Nat.le_of_ble_eq_true rfl⟩ ⟨Nat.zero_le _, Nat.zero_le _⟩ (Nat.le_of_ble_eq_true rfl) rfl dX3_namesIn_13 ?_
        refine y_iconst X (v := (-1)) dX3_namesIn_16 (by decide) ?_
        refine y_icmp_eq X 26 ((tk T (q) (j)) = (-1)) dX3_namesIn_17 (by decide) Iff.rfl (fun c_2 => ?_) (fun c_2 => ?_)
        ·
          refine y_iinc X [(3, .int (nI (j + 1))), (0, .ref (E.2.1 (b))), (1, .int (nI (q))), (2, .int x2)] dX3_namesIn_26 3 rfl (nI_1 _) (by decide) rfl ?_
          refine y_goto X 4 dX3_namesIn_29 (by decide) ?_
          refine y_pick [1, 2, 3, 0] [(0, .ref (E.2.1 (b))), (1, .int (nI (q))), (2, .int x2), (3, .int (nI (j + 1)))] rfl ?_
          exact ih4 (j + 1) (x2) (by omega) (by omega) (by rw [gx]; show _ = orf _ _ ||| (if _ then _ else _); rw [if_pos c_2, Int32.or_zero])
        ·
          refine y_iload_n X dX3_namesIn_20 2 rfl ?_
          refine y_iconst X (v := (1)) dX3_namesIn_21 (by decide) ?_
          refine y_iload_n X dX3_namesIn_22 3 rfl ?_
          refine y_ishl X (z := (bitN (j))) dX3_namesIn_23 rfl ?_
          refine y_ior X (z := (x2 ||| (bitN (j)))) dX3_namesIn_24 rfl ?_
          refine y_istore_n X [(2, .int (x2 ||| (bitN (j)))), (0, .ref (E.2.1 (b))), (1, .int (nI (q))), (3, .int (nI (j)))] dX3_namesIn_25 rfl (by decide) rfl ?_
          refine y_iinc X [(3, .int (nI (j + 1))), (2, .int (x2 ||| (bitN (j)))), (0, .ref (E.2.1 (b))), (1, .int (nI (q)))] dX3_namesIn_26 3 rfl (nI_1 _) (by decide) rfl ?_
          refine y_goto X 4 dX3_namesIn_29 (by decide) ?_
          refine y_pick [2, 3, 1, 0] [(0, .ref (E.2.1 (b))), (1, .int (nI (q))), (2, .int (x2 ||| (bitN (j)))), (3, .int (nI (j + 1)))] rfl ?_
          exact ih4 (j + 1) ((x2 ||| (bitN (j)))) (by omega) (by omega) (by rw [gx]; show _ = orf _ _ ||| (if _ then _ else _); rw [if_neg c_2])
  refine y_pick [2, 3, 1, 0] [(0, .ref (E.2.1 (b))), (1, .int (nI (q))), (2, .int (0)), (3, .int (0))] rfl ?_
  exact L_4 _ (0) (0) (Nat.lt_succ_self _) (by omega) rfl

set_option maxRecDepth 100000 in
set_option maxHeartbeats 4000000 in
theorem c_X3_namesOfAllSeasons {l : Launch} {E : xE} {C : xC} {b : Nat} {T : Tb} (gb : b + 4 < 61) (gT : RC E C b T) (gw : WB T) : xR E l yX3_namesOfAllSeasons wsX3_namesOfAllSeasons 2 45 [.ref (E.2.1 (b))] C (evN T) := by
  obtain ⟨zK, zD, zS, zV, h0, h1, h2, h3, h4, gK, gD, gS, gV⟩ := id gT
  obtain ⟨gw1, gw2, gw3, gw4⟩ := id gw
  refine xM_ofY (cc := cX3_namesOfAllSeasons) (maxL := 3) (ret := (some .int)) (by decide) rfl (Nat.le_of_ble_eq_true rfl) ?_
  intro p e s m args below meth c X hr
  have inX3 : ∀ w ∈ wsX30, w ∈ wsX3_namesOfAllSeasons := by decide +kernel
  refine y_lv [(0, .ref (E.2.1 (b)))] rfl ?_
  refine y_iconst X (v := (0)) dX3_namesOfAllSeasons_0 (by decide) ?_
  refine y_istore_n X [(1, .int (0)), (0, .ref (E.2.1 (b)))] dX3_namesOfAllSeasons_1 rfl (by decide) rfl ?_
  refine y_iconst X (v := (0)) dX3_namesOfAllSeasons_2 (by decide) ?_
  refine y_istore_n X [(2, .int (0)), (1, .int (0)), (0, .ref (E.2.1 (b)))] dX3_namesOfAllSeasons_3 rfl (by decide) rfl ?_
  have L_4 : ∀ (n : Nat) (j : Nat) (x2 : Int32), tn T - j < n → (j ≤ tn T) → (x2 = orf (fun q => nmS T q) j) → xY p l e ({ frames := 2, cells := 0, slots := 0, locals := 45 } : Room) s m args below meth c E (xA E) 3 0 0 (MQ below (xQ E (fun v C1 => v = some (.int (evN T)) ∧ C1 = C)) args s 0 0 (xA E)) C 4 [(0, .ref (E.2.1 (b))), (1, .int x2), (2, .int (nI (j)))] [] := by
    intro n4
    induction n4 with
    | zero => intro _ _ hm4; exact absurd hm4 (Nat.not_lt_zero _)
    | succ n4 ih4 =>
      intro j x2 hm4 gj gx
      refine y_iload_n X dX3_namesOfAllSeasons_4 2 rfl ?_
      refine y_aload_n X dX3_namesOfAllSeasons_5 0 rfl ?_
      refine y_get X (b) 3 0 (Cn := RX3) (T := TX3) (N := 6) (index := 9) (v := .int (nI (tn T))) dX3_namesOfAllSeasons_6 (by omega) h0 rfl (by decide) inX3 (by decide +kernel : Cond.fieldLink RX3 9 "ColumnSeasons$Table" "seasons" "I" ∈ wsX3_namesOfAllSeasons) rfl rfl ?_
      refine y_icmp_ge X 26 ((tn T) ≤ (j)) dX3_namesOfAllSeasons_9 (by decide) (nI_leI (a := tn T) (b := j) (by omega) (by omega)) (fun c_1 => ?_) (fun c_1 => ?_)
      ·
        refine y_iload_n X dX3_namesOfAllSeasons_26 1 rfl ?_
        exact y_iret X hr dX3_namesOfAllSeasons_27 rfl ⟨by rw [gx, show j = tn T by omega]; rfl, rfl⟩
      ·
        refine y_iload_n X dX3_namesOfAllSeasons_12 1 rfl ?_
        refine y_aload_n X dX3_namesOfAllSeasons_13 0 rfl ?_
        refine y_iload_n X dX3_namesOfAllSeasons_14 2 rfl ?_
        refine y_callVr X (b) 3 (av := [.int (nI (j))]) [.int x2] 1 (c_X3_namesIn (b := b) (by omega) gT gw (q := j) (by omega)) (by omega) h0 rfl gX3_namesOfAllSeasons_X3_namesIn rfl (by decide +kernel) rfl ⟨Nat.le_of_ble_eq_true rfl, Nat.le_of_ble_eq_true rfl⟩ ⟨Nat.zero_le _, Nat.zero_le _⟩ (Nat.le_of_ble_eq_true rfl) rfl dX3_namesOfAllSeasons_15 ?_
        refine y_ior X (z := (x2 ||| (nmS T (j)))) dX3_namesOfAllSeasons_18 rfl ?_
        refine y_istore_n X [(1, .int (x2 ||| (nmS T (j)))), (0, .ref (E.2.1 (b))), (2, .int (nI (j)))] dX3_namesOfAllSeasons_19 rfl (by decide) rfl ?_
        refine y_iinc X [(2, .int (nI (j + 1))), (1, .int (x2 ||| (nmS T (j)))), (0, .ref (E.2.1 (b)))] dX3_namesOfAllSeasons_20 2 rfl (nI_1 _) (by decide) rfl ?_
        refine y_goto X 4 dX3_namesOfAllSeasons_23 (by decide) ?_
        refine y_pick [2, 1, 0] [(0, .ref (E.2.1 (b))), (1, .int (x2 ||| (nmS T (j)))), (2, .int (nI (j + 1)))] rfl ?_
        exact ih4 (j + 1) ((x2 ||| (nmS T (j)))) (by omega) (by omega) (by rw [gx]; rfl)
  refine y_pick [2, 1, 0] [(0, .ref (E.2.1 (b))), (1, .int (0)), (2, .int (0))] rfl ?_
  exact L_4 _ (0) (0) (Nat.lt_succ_self _) (by omega) rfl

set_option maxRecDepth 100000 in
set_option maxHeartbeats 4000000 in
theorem c_X3_newColumnsIn {l : Launch} {E : xE} {C : xC} {b : Nat} {T : Tb} (gb : b + 4 < 61) (gT : RC E C b T) (gw : WB T) {q : Nat} (gq : q < tn T) : xR E l yX3_newColumnsIn wsX3_newColumnsIn 1 22 [.ref (E.2.1 (b)), .int (nI (q))] C (newC T q) := by
  obtain ⟨zK, zD, zS, zV, h0, h1, h2, h3, h4, gK, gD, gS, gV⟩ := id gT
  obtain ⟨gw1, gw2, gw3, gw4⟩ := id gw
  refine xM_ofY (cc := cX3_newColumnsIn) (maxL := 5) (ret := (some .int)) (by decide) rfl (Nat.le_of_ble_eq_true rfl) ?_
  intro p e s m args below meth c X hr
  refine y_lv [(0, .ref (E.2.1 (b))), (1, .int (nI (q)))] rfl ?_
  refine y_iload_n X dX3_newColumnsIn_0 1 rfl ?_
  refine y_if_ne X 6 (¬ ((q) = (0))) dX3_newColumnsIn_1 (by decide) (cNe (nI_eq (a := q) (b := 0) (by omega) (by omega))) (fun c_1 => ?_) (fun c_1 => ?_)
  ·
    refine y_iconst X (v := (0)) dX3_newColumnsIn_6 (by decide) ?_
    refine y_istore_n X [(2, .int (0)), (0, .ref (E.2.1 (b))), (1, .int (nI (q)))] dX3_newColumnsIn_7 rfl (by decide) rfl ?_
    refine y_iconst X (v := (0)) dX3_newColumnsIn_8 (by decide) ?_
    refine y_istore_n X [(3, .int (0)), (2, .int (0)), (0, .ref (E.2.1 (b))), (1, .int (nI (q)))] dX3_newColumnsIn_9 rfl (by decide) rfl ?_
    have L_10 : ∀ (n : Nat) (j : Nat) (x2 : Int32), 8 - j < n → (j ≤ 8) → (x2 = sm (fun j => if ¬ tk T q j = -1 ∧ ¬ tk T q j = tk T (q - 1) j then 1 else 0) j) → xY p l e ({ frames := 1, cells := 0, slots := 0, locals := 22 } : Room) s m args below meth c E (xA E) 5 0 0 (MQ below (xQ E (fun v C1 => v = some (.int (newC T q)) ∧ C1 = C)) args s 0 0 (xA E)) C 10 [(0, .ref (E.2.1 (b))), (1, .int (nI (q))), (2, .int x2), (3, .int (nI (j)))] [] := by
      intro n10
      induction n10 with
      | zero => intro _ _ hm10; exact absurd hm10 (Nat.not_lt_zero _)
      | succ n10 ih10 =>
        intro j x2 hm10 gj gx
        refine y_iload_n X dX3_newColumnsIn_10 3 rfl ?_
        refine y_bipush X (v := (8)) dX3_newColumnsIn_11 (by decide) ?_
        refine y_icmp_ge X 52 ((8) ≤ (j)) dX3_newColumnsIn_13 (by decide) (nI_leI (a := 8) (b := j) (by omega) (by omega)) (fun c_2 => ?_) (fun c_2 => ?_)
        ·
          refine y_iload_n X dX3_newColumnsIn_52 2 rfl ?_
          exact y_iret X hr dX3_newColumnsIn_53 rfl ⟨by rw [gx, show j = 8 by omega]; show _ = some (Value.int (newC T q)); rw [newC, if_neg (by omega)], rfl⟩
        ·
          refine y_aload_n X dX3_newColumnsIn_16 0 rfl ?_
          refine y_iload_n X dX3_newColumnsIn_17 1 rfl ?_
          refine y_iload_n X dX3_newColumnsIn_18 3 rfl ?_
          refine y_callVr X (b) 3 (av := [.int (nI (q)), .int (nI (j))]) [] 2 (c_X3_kindIn (b := b) (by omega) gT gw (q := q) (j := j) (by omega) (by omega)) (by omega) h0 rfl gX3_newColumnsIn_X3_kindIn rfl (by decide +kernel) rfl ⟨Nat.le_of_ble_eq_true rfl, Nat.le_of_ble_eq_true rfl⟩ ⟨Nat.zero_le _, Nat.zero_le _⟩ (Nat.le_of_ble_eq_true rfl) rfl dX3_newColumnsIn_19 ?_
          refine y_istore X [(4, .int (tk T (q) (j))), (0, .ref (E.2.1 (b))), (1, .int (nI (q))), (2, .int x2), (3, .int (nI (j)))] dX3_newColumnsIn_22 (by decide) rfl ?_
          refine y_iload X dX3_newColumnsIn_24 0 rfl ?_
          refine y_iconst X (v := (-1)) dX3_newColumnsIn_26 (by decide) ?_
          refine y_icmp_eq X 46 ((tk T (q) (j)) = (-1)) dX3_newColumnsIn_27 (by decide) Iff.rfl (fun c_3 => ?_) (fun c_3 => ?_)
          ·
            refine y_iinc X [(3, .int (nI (j + 1))), (4, .int (tk T (q) (j))), (0, .ref (E.2.1 (b))), (1, .int (nI (q))), (2, .int x2)] dX3_newColumnsIn_46 4 rfl (nI_1 _) (by decide) rfl ?_
            refine y_goto X 10 dX3_newColumnsIn_49 (by decide) ?_
            refine y_pick [2, 3, 4, 0] [(0, .ref (E.2.1 (b))), (1, .int (nI (q))), (2, .int x2), (3, .int (nI (j + 1)))] rfl ?_
            exact ih10 (j + 1) (x2) (by omega) (by omega) (by rw [gx]; show _ = sm _ _ + (if _ then _ else _); rw [if_neg (fun z => by first | exact z.1 c_3 | exact z.2 c_3), Int32.add_zero])
          ·
            refine y_iload X dX3_newColumnsIn_30 0 rfl ?_
            refine y_aload_n X dX3_newColumnsIn_32 1 rfl ?_
            refine y_iload_n X dX3_newColumnsIn_33 2 rfl ?_
            refine y_iconst X (v := (1)) dX3_newColumnsIn_34 (by decide) ?_
            refine y_isub X (z := (nI ((q) - (1)))) dX3_newColumnsIn_35 (pk_sub (a := q) (b := 1) (by omega)) ?_
            refine y_iload_n X dX3_newColumnsIn_36 4 rfl ?_
            refine y_callVr X (b) 3 (av := [.int (nI ((q) - (1))), .int (nI (j))]) [.int (tk T (q) (j))] 2 (c_X3_kindIn (b := b) (by omega) gT gw (q := (q) - (1)) (j := j) (by omega) (by omega)) (by omega) h0 rfl gX3_newColumnsIn_X3_kindIn rfl (by decide +kernel) rfl ⟨Nat.le_of_ble_eq_true rfl, Nat.le_of_ble_eq_true rfl⟩ ⟨Nat.zero_le _, Nat.zero_le _⟩ (Nat.le_of_ble_eq_true rfl) rfl dX3_newColumnsIn_37 ?_
            refine y_icmp_eq X 46 ((tk T (q) (j)) = (tk T ((q) - (1)) (j))) dX3_newColumnsIn_40 (by decide) Iff.rfl (fun c_4 => ?_) (fun c_4 => ?_)
            ·
              refine y_iinc X [(3, .int (nI (j + 1))), (4, .int (tk T (q) (j))), (0, .ref (E.2.1 (b))), (1, .int (nI (q))), (2, .int x2)] dX3_newColumnsIn_46 4 rfl (nI_1 _) (by decide) rfl ?_
              refine y_goto X 10 dX3_newColumnsIn_49 (by decide) ?_
              refine y_pick [2, 3, 4, 0] [(0, .ref (E.2.1 (b))), (1, .int (nI (q))), (2, .int x2), (3, .int (nI (j + 1)))] rfl ?_
              exact ih10 (j + 1) (x2) (by omega) (by omega) (by rw [gx]; show _ = sm _ _ + (if _ then _ else _); rw [if_neg (fun z => by first | exact z.1 c_4 | exact z.2 c_4), Int32.add_zero])
            ·
              refine y_iinc X [(2, .int (x2 + 1)), (4, .int (tk T (q) (j))), (0, .ref (E.2.1 (b))), (1, .int (nI (q))), (3, .int (nI (j)))] dX3_newColumnsIn_43 3 rfl rfl (by decide) rfl ?_
              refine y_iinc X [(3, .int (nI (j + 1))), (2, .int (x2 + 1)), (4, .int (tk T (q) (j))), (0, .ref (E.2.1 (b))), (1, .int (nI (q)))] dX3_newColumnsIn_46 4 rfl (nI_1 _) (by decide) rfl ?_
              refine y_goto X 10 dX3_newColumnsIn_49 (by decide) ?_
              refine y_pick [3, 4, 1, 0] [(0, .ref (E.2.1 (b))), (1, .int (nI (q))), (2, .int (x2 + 1)), (3, .int (nI (j + 1)))] rfl ?_
              exact ih10 (j + 1) ((x2 + 1)) (by omega) (by omega) (by rw [gx]; show _ = sm _ _ + (if _ then _ else _); rw [if_pos ⟨c_3, c_4⟩])
    refine y_pick [2, 3, 1, 0] [(0, .ref (E.2.1 (b))), (1, .int (nI (q))), (2, .int (0)), (3, .int (0))] rfl ?_
    exact L_10 _ (0) (0) (Nat.lt_succ_self _) (by omega) rfl
  ·
    have c_1 := Decidable.of_not_not c_1
    refine y_iconst X (v := (0)) dX3_newColumnsIn_4 (by decide) ?_
    exact y_iret X hr dX3_newColumnsIn_5 rfl ⟨by show _ = some (Value.int (newC T q)); rw [newC, if_pos (by omega)], rfl⟩

set_option maxRecDepth 100000 in
set_option maxHeartbeats 4000000 in
theorem c_X3_rowsOfSeason {l : Launch} {E : xE} {C : xC} {b : Nat} {T : Tb} (gb : b + 4 < 61) (gT : RC E C b T) (gw : WB T) {q : Nat} (gq : q < tn T) : xR E l yX3_rowsOfSeason wsX3_rowsOfSeason 0 0 [.ref (E.2.1 (b)), .int (nI (q))] C (wear T q) := by
  obtain ⟨zK, zD, zS, zV, h0, h1, h2, h3, h4, gK, gD, gS, gV⟩ := id gT
  obtain ⟨gw1, gw2, gw3, gw4⟩ := id gw
  refine xM_ofY (cc := cX3_rowsOfSeason) (maxL := 4) (ret := (some .int)) (by decide) rfl (Nat.le_of_ble_eq_true rfl) ?_
  intro p e s m args below meth c X hr
  have inX3 : ∀ w ∈ wsX30, w ∈ wsX3_rowsOfSeason := by decide +kernel
  refine y_lv [(0, .ref (E.2.1 (b))), (1, .int (nI (q)))] rfl ?_
  refine y_iconst X (v := (0)) dX3_rowsOfSeason_0 (by decide) ?_
  refine y_istore_n X [(2, .int (0)), (0, .ref (E.2.1 (b))), (1, .int (nI (q)))] dX3_rowsOfSeason_1 rfl (by decide) rfl ?_
  refine y_iconst X (v := (0)) dX3_rowsOfSeason_2 (by decide) ?_
  refine y_istore_n X [(3, .int (0)), (2, .int (0)), (0, .ref (E.2.1 (b))), (1, .int (nI (q)))] dX3_rowsOfSeason_3 rfl (by decide) rfl ?_
  have L_4 : ∀ (n : Nat) (j : Nat) (x2 : Int32), tr T - j < n → (j ≤ tr T) → (x2 = sm (fun i => if nI (ts T i) = nI q then 1 else 0) j) → xY p l e ({ frames := 0, cells := 0, slots := 0, locals := 0 } : Room) s m args below meth c E (xA E) 4 0 0 (MQ below (xQ E (fun v C1 => v = some (.int (wear T q)) ∧ C1 = C)) args s 0 0 (xA E)) C 4 [(0, .ref (E.2.1 (b))), (1, .int (nI (q))), (2, .int x2), (3, .int (nI (j)))] [] := by
    intro n4
    induction n4 with
    | zero => intro _ _ hm4; exact absurd hm4 (Nat.not_lt_zero _)
    | succ n4 ih4 =>
      intro j x2 hm4 gj gx
      refine y_iload_n X dX3_rowsOfSeason_4 3 rfl ?_
      refine y_aload_n X dX3_rowsOfSeason_5 0 rfl ?_
      refine y_get X (b) 3 3 (Cn := RX3) (T := TX3) (N := 6) (index := 22) (v := .int (nI (tr T))) dX3_rowsOfSeason_6 (by omega) h0 rfl (by decide) inX3 (by decide +kernel : Cond.fieldLink RX3 22 "ColumnSeasons$Table" "rows" "I" ∈ wsX3_rowsOfSeason) rfl rfl ?_
      refine y_icmp_ge X 31 ((tr T) ≤ (j)) dX3_rowsOfSeason_9 (by decide) (nI_leI (a := tr T) (b := j) (by omega) (by omega)) (fun c_1 => ?_) (fun c_1 => ?_)
      ·
        refine y_iload_n X dX3_rowsOfSeason_31 2 rfl ?_
        exact y_iret X hr dX3_rowsOfSeason_32 rfl ⟨by rw [gx, show j = tr T by omega]; rfl, rfl⟩
      ·
        refine y_aload_n X dX3_rowsOfSeason_12 0 rfl ?_
        refine y_get X (b) 3 4 (Cn := RX3) (T := TX3) (N := 6) (index := 25) (v := .ref (E.2.1 (b + 3))) dX3_rowsOfSeason_13 (by omega) h0 rfl (by decide) inX3 (by decide +kernel : Cond.fieldLink RX3 25 "ColumnSeasons$Table" "rowSeasons" "[I" ∈ wsX3_rowsOfSeason) rfl rfl ?_
        refine y_iload_n X dX3_rowsOfSeason_16 3 rfl ?_
        refine y_iald X (b + 3) dX3_rowsOfSeason_17 (by omega) h3 (j := j) rfl (by omega) (by omega) (z := (nI (ts T (j)))) (gS _ (by omega)) ?_
        refine y_iload_n X dX3_rowsOfSeason_18 1 rfl ?_
        refine y_icmp_ne X 25 (¬ ((nI (ts T (j))) = (nI (q)))) dX3_rowsOfSeason_19 (by decide) Iff.rfl (fun c_2 => ?_) (fun c_2 => ?_)
        ·
          refine y_iinc X [(3, .int (nI (j + 1))), (0, .ref (E.2.1 (b))), (1, .int (nI (q))), (2, .int x2)] dX3_rowsOfSeason_25 3 rfl (nI_1 _) (by decide) rfl ?_
          refine y_goto X 4 dX3_rowsOfSeason_28 (by decide) ?_
          refine y_pick [1, 2, 3, 0] [(0, .ref (E.2.1 (b))), (1, .int (nI (q))), (2, .int x2), (3, .int (nI (j + 1)))] rfl ?_
          exact ih4 (j + 1) (x2) (by omega) (by omega) (by rw [gx]; show _ = sm _ _ + (if _ then _ else _); rw [if_neg c_2, Int32.add_zero])
        ·
          have c_2 := Decidable.of_not_not c_2
          refine y_iinc X [(2, .int (x2 + 1)), (0, .ref (E.2.1 (b))), (1, .int (nI (q))), (3, .int (nI (j)))] dX3_rowsOfSeason_22 2 rfl rfl (by decide) rfl ?_
          refine y_iinc X [(3, .int (nI (j + 1))), (2, .int (x2 + 1)), (0, .ref (E.2.1 (b))), (1, .int (nI (q)))] dX3_rowsOfSeason_25 3 rfl (nI_1 _) (by decide) rfl ?_
          refine y_goto X 4 dX3_rowsOfSeason_28 (by decide) ?_
          refine y_pick [2, 3, 1, 0] [(0, .ref (E.2.1 (b))), (1, .int (nI (q))), (2, .int (x2 + 1)), (3, .int (nI (j + 1)))] rfl ?_
          exact ih4 (j + 1) ((x2 + 1)) (by omega) (by omega) (by rw [gx]; show _ = sm _ _ + (if _ then _ else _); rw [if_pos c_2])
  refine y_pick [2, 3, 1, 0] [(0, .ref (E.2.1 (b))), (1, .int (nI (q))), (2, .int (0)), (3, .int (0))] rfl ?_
  exact L_4 _ (0) (0) (Nat.lt_succ_self _) (by omega) rfl

