set_option maxRecDepth 100000 in
set_option maxHeartbeats 4000000 in
theorem c_X2_isDigit {l : Launch} {E : xE} {C : xC} {n0 : Nat} (gn0 : n0 < 65536) : xR E l yX2_isDigit wsX2_isDigit 0 0 [.int (nI (n0))] C (bI (48 ≤ n0 ∧ n0 ≤ 57)) := by
  refine xM_ofY (cc := cX2_isDigit) (maxL := 1) (ret := (some .boolean)) (by decide) rfl (Nat.le_of_ble_eq_true rfl) ?_
  intro p e s m args below meth c X hr
  refine y_lv [(0, .int (nI (n0)))] rfl ?_
  refine y_iload_n X dX2_isDigit_0 0 rfl ?_
  refine y_bipush X (v := (48)) dX2_isDigit_1 (by decide) ?_
  refine y_icmp_lt X 16 ((n0) < (48)) dX2_isDigit_3 (by decide) (nI_ltI (a := n0) (b := 48) (by omega) (by omega)) (fun c_1 => ?_) (fun c_1 => ?_)
  ·
    refine y_iconst X (v := (0)) dX2_isDigit_16 (by decide) ?_
    exact y_zret X hr (by rfl) dX2_isDigit_17 rfl (by first | exact ⟨rfl, rfl⟩ | exact ⟨congrArg (fun z => some (Value.int z)) (bI_1 (by omega)).symm, rfl⟩ | exact ⟨congrArg (fun z => some (Value.int z)) (bI_0 (by omega)).symm, rfl⟩)
  ·
    refine y_iload_n X dX2_isDigit_6 0 rfl ?_
    refine y_bipush X (v := (57)) dX2_isDigit_7 (by decide) ?_
    refine y_icmp_gt X 16 ((57) < (n0)) dX2_isDigit_9 (by decide) (nI_ltI (a := 57) (b := n0) (by omega) (by omega)) (fun c_2 => ?_) (fun c_2 => ?_)
    ·
      refine y_iconst X (v := (0)) dX2_isDigit_16 (by decide) ?_
      exact y_zret X hr (by rfl) dX2_isDigit_17 rfl (by first | exact ⟨rfl, rfl⟩ | exact ⟨congrArg (fun z => some (Value.int z)) (bI_1 (by omega)).symm, rfl⟩ | exact ⟨congrArg (fun z => some (Value.int z)) (bI_0 (by omega)).symm, rfl⟩)
    ·
      refine y_iconst X (v := (1)) dX2_isDigit_12 (by decide) ?_
      refine y_goto X 17 dX2_isDigit_13 (by decide) ?_
      exact y_zret X hr (by rfl) dX2_isDigit_17 rfl (by first | exact ⟨rfl, rfl⟩ | exact ⟨congrArg (fun z => some (Value.int z)) (bI_1 (by omega)).symm, rfl⟩ | exact ⟨congrArg (fun z => some (Value.int z)) (bI_0 (by omega)).symm, rfl⟩)

set_option maxRecDepth 100000 in
set_option maxHeartbeats 4000000 in
theorem c_X2_isNext {l : Launch} {E : xE} {C : xC} {G : Nat → Nat} {u0 ln : Nat} {cc nu : Int32} {xt : Nat → Int32} (gp : u0 ≤ ln) (gl80 : ln ≤ 80) (gX : ∀ z : Nat, z < ln → xt z = nI (G z)) (gG : ∀ z : Nat, z < ln → G z < 65536) (s0 : C (38) = .inr (2, [.ref (E.2.1 (39)), .int (nI (ln)), .ref (E.2.1 (40)), .int cc, .int (nI (u0)), .int nu])) (s1 : C (39) = .inl (E.2.2.1 0, 80, .inl xt)) {c0 : Nat} (gq0 : c0 < 65536) : xR E l yX2_isNext wsX2_isNext 0 0 [.ref (E.2.1 (38)), .int (nI (c0))] C (bI (chA G ln u0 c0)) := by
  refine xM_ofY (cc := cX2_isNext) (maxL := 2) (ret := (some .boolean)) (by decide) rfl (Nat.le_of_ble_eq_true rfl) ?_
  intro p e s m args below meth c X hr
  have inX2 : ∀ w ∈ wsX20, w ∈ wsX2_isNext := by decide +kernel
  refine y_lv [(0, .ref (E.2.1 (38))), (1, .int (nI (c0)))] rfl ?_
  refine y_aload_n X dX2_isNext_0 0 rfl ?_
  refine y_get X (38) 2 4 (Cn := RX2) (T := TX2) (N := 6) (index := 28) (v := .int (nI (u0))) dX2_isNext_1 (by omega) s0 rfl (by decide) inX2 (by decide +kernel : Cond.fieldLink RX2 28 "ColumnSeasons$Script" "place" "I" ∈ wsX2_isNext) rfl rfl ?_
  refine y_aload_n X dX2_isNext_4 0 rfl ?_
  refine y_get X (38) 2 1 (Cn := RX2) (T := TX2) (N := 6) (index := 15) (v := .int (nI (ln))) dX2_isNext_5 (by omega) s0 rfl (by decide) inX2 (by decide +kernel : Cond.fieldLink RX2 15 "ColumnSeasons$Script" "length" "I" ∈ wsX2_isNext) rfl rfl ?_
  refine y_icmp_ge X 28 ((ln) ≤ (u0)) dX2_isNext_8 (by decide) (nI_leI (a := ln) (b := u0) (by omega) (by omega)) (fun c_1 => ?_) (fun c_1 => ?_)
  ·
    refine y_iconst X (v := (0)) dX2_isNext_28 (by decide) ?_
    exact y_zret X hr (by rfl) dX2_isNext_29 rfl ⟨congrArg (fun z => some (Value.int z)) (by first | exact (bI_1 (P := chA G ln u0 c0) ⟨by omega, by omega⟩).symm | exact (bI_0 (P := chA G ln u0 c0) (fun z => by have := z.1; have := z.2; omega)).symm), rfl⟩
  ·
    refine y_aload_n X dX2_isNext_11 0 rfl ?_
    refine y_get X (38) 2 0 (Cn := RX2) (T := TX2) (N := 6) (index := 9) (v := .ref (E.2.1 (39))) dX2_isNext_12 (by omega) s0 rfl (by decide) inX2 (by decide +kernel : Cond.fieldLink RX2 9 "ColumnSeasons$Script" "text" "[C" ∈ wsX2_isNext) rfl rfl ?_
    refine y_aload_n X dX2_isNext_15 0 rfl ?_
    refine y_get X (38) 2 4 (Cn := RX2) (T := TX2) (N := 6) (index := 28) (v := .int (nI (u0))) dX2_isNext_16 (by omega) s0 rfl (by decide) inX2 (by decide +kernel : Cond.fieldLink RX2 28 "ColumnSeasons$Script" "place" "I" ∈ wsX2_isNext) rfl rfl ?_
    have gG0 := gG u0 (by omega)
    refine y_cald X (39) dX2_isNext_19 (by omega) s1 (j := u0) rfl (by omega) (by omega) (z := (nI (G (u0)))) (gX (u0) (by omega)) ?_
    refine y_iload_n X dX2_isNext_20 1 rfl ?_
    refine y_icmp_ne X 28 (¬ ((G (u0)) = (c0))) dX2_isNext_21 (by decide) (cNe (nI_eq (a := G (u0)) (b := c0) (by omega) (by omega))) (fun c_2 => ?_) (fun c_2 => ?_)
    ·
      refine y_iconst X (v := (0)) dX2_isNext_28 (by decide) ?_
      exact y_zret X hr (by rfl) dX2_isNext_29 rfl ⟨congrArg (fun z => some (Value.int z)) (by first | exact (bI_1 (P := chA G ln u0 c0) ⟨by omega, by omega⟩).symm | exact (bI_0 (P := chA G ln u0 c0) (fun z => by have := z.1; have := z.2; omega)).symm), rfl⟩
    ·
      have c_2 := Decidable.of_not_not c_2
      refine y_iconst X (v := (1)) dX2_isNext_24 (by decide) ?_
      refine y_goto X 29 dX2_isNext_25 (by decide) ?_
      exact y_zret X hr (by rfl) dX2_isNext_29 rfl ⟨congrArg (fun z => some (Value.int z)) (by first | exact (bI_1 (P := chA G ln u0 c0) ⟨by omega, by omega⟩).symm | exact (bI_0 (P := chA G ln u0 c0) (fun z => by have := z.1; have := z.2; omega)).symm), rfl⟩

set_option maxRecDepth 100000 in
set_option maxHeartbeats 4000000 in
theorem c_X2_readSign {l : Launch} {E : xE} {C : xC} {G : Nat → Nat} {u0 ln : Nat} {cc nu : Int32} {xt : Nat → Int32} (gp : u0 ≤ ln) (gl80 : ln ≤ 80) (gX : ∀ z : Nat, z < ln → xt z = nI (G z)) (gG : ∀ z : Nat, z < ln → G z < 65536) (s0 : C (38) = .inr (2, [.ref (E.2.1 (39)), .int (nI (ln)), .ref (E.2.1 (40)), .int cc, .int (nI (u0)), .int nu])) (s1 : C (39) = .inl (E.2.2.1 0, 80, .inl xt)) {c0 : Nat} (gq0 : c0 < 65536) : xM E l yX2_readSign wsX2_readSign 1 21 [.ref (E.2.1 (38)), .int (nI (c0))] C (fun v C1 => v = some (.int (bI (chA G ln u0 c0))) ∧ C1 (38) = .inr (2, [.ref (E.2.1 (39)), .int (nI (ln)), .ref (E.2.1 (40)), .int cc, .int (nI (if chA G ln u0 c0 then u0 + 1 else u0)), .int nu]) ∧ (∀ i : Nat, ¬ i = 38 → C1 i = C i)) := by
  refine xM_ofY (cc := cX2_readSign) (maxL := 2) (ret := (some .boolean)) (by decide) rfl (Nat.le_of_ble_eq_true rfl) ?_
  intro p e s m args below meth c X hr
  have inX2 : ∀ w ∈ wsX20, w ∈ wsX2_readSign := by decide +kernel
  refine y_lv [(0, .ref (E.2.1 (38))), (1, .int (nI (c0)))] rfl ?_
  refine y_aload_n X dX2_readSign_0 0 rfl ?_
  refine y_iload_n X dX2_readSign_1 1 rfl ?_
  refine y_callVr X (38) 2 (av := [.int (nI (c0))]) [] 1 (c_X2_isNext (G := G) (u0 := u0) (by omega) gl80 gX gG s0 s1 (c0 := c0) (by omega)) (by omega) s0 rfl gX2_readSign_X2_isNext rfl (by decide +kernel) rfl ⟨Nat.le_of_ble_eq_true rfl, Nat.le_of_ble_eq_true rfl⟩ ⟨Nat.zero_le _, Nat.zero_le _⟩ (Nat.le_of_ble_eq_true rfl) rfl dX2_readSign_2 ?_
  refine y_if_ne X 10 (chA G ln (u0) (c0)) dX2_readSign_5 (by decide) bI_ne (fun c_1 => ?_) (fun c_1 => ?_)
  ·
    refine y_aload_n X dX2_readSign_10 0 rfl ?_
    refine y_dup X dX2_readSign_11 rfl ?_
    refine y_get X (38) 2 4 (Cn := RX2) (T := TX2) (N := 6) (index := 28) (v := .int (nI (u0))) dX2_readSign_12 (by omega) s0 rfl (by decide) inX2 (by decide +kernel : Cond.fieldLink RX2 28 "ColumnSeasons$Script" "place" "I" ∈ wsX2_readSign) rfl rfl ?_
    refine y_iconst X (v := (1)) dX2_readSign_15 (by decide) ?_
    refine y_iadd X (z := (nI (u0 + 1))) dX2_readSign_16 (nI_add (u0) (1)) ?_
    refine y_put X (38) 2 4 (Cn := RX2) (T := TX2) (N := 6) (index := 28) tyX2 (v := .int (nI (u0 + 1))) dX2_readSign_17 (by omega) s0 rfl (by decide) inX2 (by decide +kernel : Cond.fieldLink RX2 28 "ColumnSeasons$Script" "place" "I" ∈ wsX2_readSign) rfl tyX2_ok nmX2 rfl rfl rfl (Nat.le_of_ble_eq_true rfl) ?_
    refine y_mem (va_up C (38) (.inr (2, [.ref (E.2.1 (39)), .int (nI (ln)), .ref (E.2.1 (40)), .int cc, .int (nI (u0 + 1)), .int nu]))) rfl (fun C_2 eC_3 => ?_)
    have h_4 : C_2 (38) = .inr (2, [.ref (E.2.1 (39)), .int (nI (ln)), .ref (E.2.1 (40)), .int cc, .int (nI (u0 + 1)), .int nu]) := by rw [eC_3, va_up, if_pos rfl]
    have h_5 : C_2 (39) = .inl (E.2.2.1 0, 80, .inl xt) := by rw [eC_3, va_up, if_neg (by omega)]; exact s1
    refine y_iconst X (v := (1)) dX2_readSign_20 (by decide) ?_
    exact y_zret X hr (by rfl) dX2_readSign_21 rfl (by have c9 := c_1; rw [if_pos c9]; exact ⟨congrArg (fun z => some (Value.int z)) (bI_1 c9).symm, h_4, (fun i9 g9 => by rw [eC_3, va_up, if_neg (by omega)])⟩)
  ·
    refine y_iconst X (v := (0)) dX2_readSign_8 (by decide) ?_
    exact y_zret X hr (by rfl) dX2_readSign_9 rfl (by have c9 := c_1; rw [if_neg c9]; exact ⟨congrArg (fun z => some (Value.int z)) (bI_0 c9).symm, s0, (fun _ _ => rfl)⟩)

set_option maxRecDepth 100000 in
set_option maxHeartbeats 4000000 in
theorem c_X2_readDigits {l : Launch} {E : xE} {C : xC} {G : Nat → Nat} {u0 ln : Nat} {cc nu : Int32} {xt : Nat → Int32} (gp : u0 ≤ ln) (gl80 : ln ≤ 80) (gX : ∀ z : Nat, z < ln → xt z = nI (G z)) (gG : ∀ z : Nat, z < ln → G z < 65536) (s0 : C (38) = .inr (2, [.ref (E.2.1 (39)), .int (nI (ln)), .ref (E.2.1 (40)), .int cc, .int (nI (u0)), .int nu])) (s1 : C (39) = .inl (E.2.2.1 0, 80, .inl xt)) {mo : Nat} (gmo : mo ≤ 9999) : xM E l yX2_readDigits wsX2_readDigits 1 20 [.ref (E.2.1 (38)), .int (nI (mo))] C (fun v C1 => v = some (.int (bI (ddO G ln mo u0))) ∧ C1 (38) = .inr (2, [.ref (E.2.1 (39)), .int (nI (ln)), .ref (E.2.1 (40)), .int cc, .int (nI (ddP G ln mo u0)), .int (ddN G ln mo u0)]) ∧ (∀ i : Nat, ¬ i = 38 → C1 i = C i)) := by
  refine xM_ofY (cc := cX2_readDigits) (maxL := 3) (ret := (some .boolean)) (by decide) rfl (Nat.le_of_ble_eq_true rfl) ?_
  intro p e s m args below meth c X hr
  have inX2 : ∀ w ∈ wsX20, w ∈ wsX2_readDigits := by decide +kernel
  refine y_lv [(0, .ref (E.2.1 (38))), (1, .int (nI (mo)))] rfl ?_
  refine y_aload_n X dX2_readDigits_0 0 rfl ?_
  refine y_get X (38) 2 4 (Cn := RX2) (T := TX2) (N := 6) (index := 28) (v := .int (nI (u0))) dX2_readDigits_1 (by omega) s0 rfl (by decide) inX2 (by decide +kernel : Cond.fieldLink RX2 28 "ColumnSeasons$Script" "place" "I" ∈ wsX2_readDigits) rfl rfl ?_
  refine y_istore_n X [(2, .int (nI (u0))), (0, .ref (E.2.1 (38))), (1, .int (nI (mo)))] dX2_readDigits_4 rfl (by decide) rfl ?_
  refine y_aload_n X dX2_readDigits_5 1 rfl ?_
  refine y_iconst X (v := (0)) dX2_readDigits_6 (by decide) ?_
  refine y_put X (38) 2 5 (Cn := RX2) (T := TX2) (N := 6) (index := 31) tyX2 (v := .int (0)) dX2_readDigits_7 (by omega) s0 rfl (by decide) inX2 (by decide +kernel : Cond.fieldLink RX2 31 "ColumnSeasons$Script" "number" "I" ∈ wsX2_readDigits) rfl tyX2_ok nmX2 rfl rfl rfl (Nat.le_of_ble_eq_true rfl) ?_
  refine y_mem (va_up C (38) (.inr (2, [.ref (E.2.1 (39)), .int (nI (ln)), .ref (E.2.1 (40)), .int cc, .int (nI (u0)), .int (0)]))) rfl (fun C_1 eC_2 => ?_)
  have h_3 : C_1 (38) = .inr (2, [.ref (E.2.1 (39)), .int (nI (ln)), .ref (E.2.1 (40)), .int cc, .int (nI (u0)), .int (0)]) := by rw [eC_2, va_up, if_pos rfl]
  have h_4 : C_1 (39) = .inl (E.2.2.1 0, 80, .inl xt) := by rw [eC_2, va_up, if_neg (by omega)]; exact s1
  refine y_aload_n X dX2_readDigits_10 1 rfl ?_
  refine y_get X (38) 2 4 (Cn := RX2) (T := TX2) (N := 6) (index := 28) (v := .int (nI (u0))) dX2_readDigits_11 (by omega) h_3 rfl (by decide) inX2 (by decide +kernel : Cond.fieldLink RX2 28 "ColumnSeasons$Script" "place" "I" ∈ wsX2_readDigits) rfl rfl ?_
  refine y_aload_n X dX2_readDigits_14 1 rfl ?_
  refine y_get X (38) 2 1 (Cn := RX2) (T := TX2) (N := 6) (index := 15) (v := .int (nI (ln))) dX2_readDigits_15 (by omega) h_3 rfl (by decide) inX2 (by decide +kernel : Cond.fieldLink RX2 15 "ColumnSeasons$Script" "length" "I" ∈ wsX2_readDigits) rfl rfl ?_
  refine y_icmp_ge X 112 ((ln) ≤ (u0)) dX2_readDigits_18 (by decide) (nI_leI (a := ln) (b := u0) (by omega) (by omega)) (fun c_5 => ?_) (fun c_5 => ?_)
  ·
    refine y_aload_n X dX2_readDigits_112 1 rfl ?_
    refine y_get X (38) 2 4 (Cn := RX2) (T := TX2) (N := 6) (index := 28) (v := .int (nI (u0))) dX2_readDigits_113 (by omega) h_3 rfl (by decide) inX2 (by decide +kernel : Cond.fieldLink RX2 28 "ColumnSeasons$Script" "place" "I" ∈ wsX2_readDigits) rfl rfl ?_
    refine y_iload_n X dX2_readDigits_116 0 rfl ?_
    refine y_icmp_le X 124 ((u0) ≤ (u0)) dX2_readDigits_117 (by decide) (nI_leI (a := u0) (b := u0) (by omega) (by omega)) (fun c_6 => ?_) (fun c_6 => ?_)
    ·
      refine y_iconst X (v := (0)) dX2_readDigits_124 (by decide) ?_
      exact y_zret X hr (by rfl) dX2_readDigits_125 rfl (by have gN : ¬ ddO G ln mo u0 := (by omega); have g2 : ddP G ln mo u0 = u0 := if_neg gN; have g3 : ddN G ln mo u0 = 0 := if_neg gN; rw [g2, g3]; exact ⟨congrArg (fun z => some (Value.int z)) (bI_0 gN).symm, h_3, (fun i9 g9 => by rw [eC_2, va_up, if_neg (by omega)])⟩)
    ·
      exact absurd c_6 (by omega)
  ·
    refine y_aload_n X dX2_readDigits_21 1 rfl ?_
    refine y_get X (38) 2 0 (Cn := RX2) (T := TX2) (N := 6) (index := 9) (v := .ref (E.2.1 (39))) dX2_readDigits_22 (by omega) h_3 rfl (by decide) inX2 (by decide +kernel : Cond.fieldLink RX2 9 "ColumnSeasons$Script" "text" "[C" ∈ wsX2_readDigits) rfl rfl ?_
    refine y_aload_n X dX2_readDigits_25 1 rfl ?_
    refine y_get X (38) 2 4 (Cn := RX2) (T := TX2) (N := 6) (index := 28) (v := .int (nI (u0))) dX2_readDigits_26 (by omega) h_3 rfl (by decide) inX2 (by decide +kernel : Cond.fieldLink RX2 28 "ColumnSeasons$Script" "place" "I" ∈ wsX2_readDigits) rfl rfl ?_
    refine y_cald X (39) dX2_readDigits_29 (by omega) h_4 (j := u0) rfl (by omega) (by omega) (z := (nI (G (u0)))) (gX (u0) (by omega)) ?_
    refine y_callJr X (av := [.int (nI (G (u0)))]) [] 1 (c_X2_isDigit (n0 := G (u0)) (by have := gG (u0) (by omega); omega)) gX2_readDigits_X2_isDigit rfl (by decide +kernel) rfl ⟨Nat.le_of_ble_eq_true rfl, Nat.le_of_ble_eq_true rfl⟩ ⟨Nat.zero_le _, Nat.zero_le _⟩ (Nat.le_of_ble_eq_true rfl) rfl dX2_readDigits_30 ?_
    refine y_if_eq X 112 (¬ (48 ≤ G (u0) ∧ G (u0) ≤ 57)) dX2_readDigits_33 (by decide) bI_eq (fun c_7 => ?_) (fun c_7 => ?_)
    ·
      refine y_aload_n X dX2_readDigits_112 1 rfl ?_
      refine y_get X (38) 2 4 (Cn := RX2) (T := TX2) (N := 6) (index := 28) (v := .int (nI (u0))) dX2_readDigits_113 (by omega) h_3 rfl (by decide) inX2 (by decide +kernel : Cond.fieldLink RX2 28 "ColumnSeasons$Script" "place" "I" ∈ wsX2_readDigits) rfl rfl ?_
      refine y_iload_n X dX2_readDigits_116 0 rfl ?_
      refine y_icmp_le X 124 ((u0) ≤ (u0)) dX2_readDigits_117 (by decide) (nI_leI (a := u0) (b := u0) (by omega) (by omega)) (fun c_8 => ?_) (fun c_8 => ?_)
      ·
        refine y_iconst X (v := (0)) dX2_readDigits_124 (by decide) ?_
        exact y_zret X hr (by rfl) dX2_readDigits_125 rfl (by have gN : ¬ ddO G ln mo u0 := (by omega); have g2 : ddP G ln mo u0 = u0 := if_neg gN; have g3 : ddN G ln mo u0 = 0 := if_neg gN; rw [g2, g3]; exact ⟨congrArg (fun z => some (Value.int z)) (bI_0 gN).symm, h_3, (fun i9 g9 => by rw [eC_2, va_up, if_neg (by omega)])⟩)
      ·
        exact absurd c_8 (by omega)
    ·
      have c_7 := Decidable.of_not_not c_7
      refine y_aload_n X dX2_readDigits_36 1 rfl ?_
      refine y_get X (38) 2 4 (Cn := RX2) (T := TX2) (N := 6) (index := 28) (v := .int (nI (u0))) dX2_readDigits_37 (by omega) h_3 rfl (by decide) inX2 (by decide +kernel : Cond.fieldLink RX2 28 "ColumnSeasons$Script" "place" "I" ∈ wsX2_readDigits) rfl rfl ?_
      refine y_iload_n X dX2_readDigits_40 0 rfl ?_
      refine y_icmp_eq X 51 ((u0) = (u0)) dX2_readDigits_41 (by decide) (nI_eq (a := u0) (b := u0) (by omega) (by omega)) (fun c_9 => ?_) (fun c_9 => ?_)
      ·
        refine y_aload_n X dX2_readDigits_51 1 rfl ?_
        refine y_get X (38) 2 5 (Cn := RX2) (T := TX2) (N := 6) (index := 31) (v := .int (0)) dX2_readDigits_52 (by omega) h_3 rfl (by decide) inX2 (by decide +kernel : Cond.fieldLink RX2 31 "ColumnSeasons$Script" "number" "I" ∈ wsX2_readDigits) rfl rfl ?_
        refine y_bipush X (v := (10)) dX2_readDigits_55 (by decide) ?_
        refine y_imul X (z := (nI ((0) * (10)))) dX2_readDigits_57 (pk_mul (0) (10)) ?_
        refine y_aload_n X dX2_readDigits_58 1 rfl ?_
        refine y_get X (38) 2 0 (Cn := RX2) (T := TX2) (N := 6) (index := 9) (v := .ref (E.2.1 (39))) dX2_readDigits_59 (by omega) h_3 rfl (by decide) inX2 (by decide +kernel : Cond.fieldLink RX2 9 "ColumnSeasons$Script" "text" "[C" ∈ wsX2_readDigits) rfl rfl ?_
        refine y_aload_n X dX2_readDigits_62 1 rfl ?_
        refine y_get X (38) 2 4 (Cn := RX2) (T := TX2) (N := 6) (index := 28) (v := .int (nI (u0))) dX2_readDigits_63 (by omega) h_3 rfl (by decide) inX2 (by decide +kernel : Cond.fieldLink RX2 28 "ColumnSeasons$Script" "place" "I" ∈ wsX2_readDigits) rfl rfl ?_
        refine y_cald X (39) dX2_readDigits_66 (by omega) h_4 (j := u0) rfl (by omega) (by omega) (z := (nI (G (u0)))) (gX (u0) (by omega)) ?_
        refine y_bipush X (v := (48)) dX2_readDigits_67 (by decide) ?_
        refine y_isub X (z := (nI ((G (u0)) - (48)))) dX2_readDigits_69 (pk_sub (a := G (u0)) (b := 48) (by omega)) ?_
        refine y_iadd X (z := (nI ((0) * (10) + ((G (u0)) - (48))))) dX2_readDigits_70 (nI_add ((0) * (10)) ((G (u0)) - (48))) ?_
        refine y_iload_n X dX2_readDigits_71 2 rfl ?_
        refine y_icmp_gt X 112 ((mo) < ((0) * (10) + ((G (u0)) - (48)))) dX2_readDigits_72 (by decide) (nI_ltI (a := mo) (b := (0) * (10) + ((G (u0)) - (48))) (by omega) (by omega)) (fun c_10 => ?_) (fun c_10 => ?_)
        ·
          refine y_aload_n X dX2_readDigits_112 1 rfl ?_
          refine y_get X (38) 2 4 (Cn := RX2) (T := TX2) (N := 6) (index := 28) (v := .int (nI (u0))) dX2_readDigits_113 (by omega) h_3 rfl (by decide) inX2 (by decide +kernel : Cond.fieldLink RX2 28 "ColumnSeasons$Script" "place" "I" ∈ wsX2_readDigits) rfl rfl ?_
          refine y_iload_n X dX2_readDigits_116 0 rfl ?_
          refine y_icmp_le X 124 ((u0) ≤ (u0)) dX2_readDigits_117 (by decide) (nI_leI (a := u0) (b := u0) (by omega) (by omega)) (fun c_11 => ?_) (fun c_11 => ?_)
          ·
            refine y_iconst X (v := (0)) dX2_readDigits_124 (by decide) ?_
            exact y_zret X hr (by rfl) dX2_readDigits_125 rfl (by have gN : ¬ ddO G ln mo u0 := (by omega); have g2 : ddP G ln mo u0 = u0 := if_neg gN; have g3 : ddN G ln mo u0 = 0 := if_neg gN; rw [g2, g3]; exact ⟨congrArg (fun z => some (Value.int z)) (bI_0 gN).symm, h_3, (fun i9 g9 => by rw [eC_2, va_up, if_neg (by omega)])⟩)
          ·
            exact absurd c_11 (by omega)
        ·
          refine y_aload_n X dX2_readDigits_75 1 rfl ?_
          refine y_aload_n X dX2_readDigits_76 1 rfl ?_
          refine y_get X (38) 2 5 (Cn := RX2) (T := TX2) (N := 6) (index := 31) (v := .int (0)) dX2_readDigits_77 (by omega) h_3 rfl (by decide) inX2 (by decide +kernel : Cond.fieldLink RX2 31 "ColumnSeasons$Script" "number" "I" ∈ wsX2_readDigits) rfl rfl ?_
          refine y_bipush X (v := (10)) dX2_readDigits_80 (by decide) ?_
          refine y_imul X (z := (nI ((0) * (10)))) dX2_readDigits_82 (pk_mul (0) (10)) ?_
          refine y_aload_n X dX2_readDigits_83 1 rfl ?_
          refine y_get X (38) 2 0 (Cn := RX2) (T := TX2) (N := 6) (index := 9) (v := .ref (E.2.1 (39))) dX2_readDigits_84 (by omega) h_3 rfl (by decide) inX2 (by decide +kernel : Cond.fieldLink RX2 9 "ColumnSeasons$Script" "text" "[C" ∈ wsX2_readDigits) rfl rfl ?_
          refine y_aload_n X dX2_readDigits_87 1 rfl ?_
          refine y_get X (38) 2 4 (Cn := RX2) (T := TX2) (N := 6) (index := 28) (v := .int (nI (u0))) dX2_readDigits_88 (by omega) h_3 rfl (by decide) inX2 (by decide +kernel : Cond.fieldLink RX2 28 "ColumnSeasons$Script" "place" "I" ∈ wsX2_readDigits) rfl rfl ?_
          refine y_cald X (39) dX2_readDigits_91 (by omega) h_4 (j := u0) rfl (by omega) (by omega) (z := (nI (G (u0)))) (gX (u0) (by omega)) ?_
          refine y_bipush X (v := (48)) dX2_readDigits_92 (by decide) ?_
          refine y_isub X (z := (nI ((G (u0)) - (48)))) dX2_readDigits_94 (pk_sub (a := G (u0)) (b := 48) (by omega)) ?_
          refine y_iadd X (z := (nI ((0) * (10) + ((G (u0)) - (48))))) dX2_readDigits_95 (nI_add ((0) * (10)) ((G (u0)) - (48))) ?_
          refine y_put X (38) 2 5 (Cn := RX2) (T := TX2) (N := 6) (index := 31) tyX2 (v := .int (nI ((0) * (10) + ((G (u0)) - (48))))) dX2_readDigits_96 (by omega) h_3 rfl (by decide) inX2 (by decide +kernel : Cond.fieldLink RX2 31 "ColumnSeasons$Script" "number" "I" ∈ wsX2_readDigits) rfl tyX2_ok nmX2 rfl rfl rfl (Nat.le_of_ble_eq_true rfl) ?_
          refine y_mem (va_up C_1 (38) (.inr (2, [.ref (E.2.1 (39)), .int (nI (ln)), .ref (E.2.1 (40)), .int cc, .int (nI (u0)), .int (nI ((0) * (10) + ((G (u0)) - (48))))]))) rfl (fun C_12 eC_13 => ?_)
          have h_14 : C_12 (38) = .inr (2, [.ref (E.2.1 (39)), .int (nI (ln)), .ref (E.2.1 (40)), .int cc, .int (nI (u0)), .int (nI ((0) * (10) + ((G (u0)) - (48))))]) := by rw [eC_13, va_up, if_pos rfl]
          have h_15 : C_12 (39) = .inl (E.2.2.1 0, 80, .inl xt) := by rw [eC_13, va_up, if_neg (by omega)]; exact h_4
          refine y_aload_n X dX2_readDigits_99 1 rfl ?_
          refine y_dup X dX2_readDigits_100 rfl ?_
          refine y_get X (38) 2 4 (Cn := RX2) (T := TX2) (N := 6) (index := 28) (v := .int (nI (u0))) dX2_readDigits_101 (by omega) h_14 rfl (by decide) inX2 (by decide +kernel : Cond.fieldLink RX2 28 "ColumnSeasons$Script" "place" "I" ∈ wsX2_readDigits) rfl rfl ?_
          refine y_iconst X (v := (1)) dX2_readDigits_104 (by decide) ?_
          refine y_iadd X (z := (nI (u0 + 1))) dX2_readDigits_105 (nI_add (u0) (1)) ?_
          refine y_put X (38) 2 4 (Cn := RX2) (T := TX2) (N := 6) (index := 28) tyX2 (v := .int (nI (u0 + 1))) dX2_readDigits_106 (by omega) h_14 rfl (by decide) inX2 (by decide +kernel : Cond.fieldLink RX2 28 "ColumnSeasons$Script" "place" "I" ∈ wsX2_readDigits) rfl tyX2_ok nmX2 rfl rfl rfl (Nat.le_of_ble_eq_true rfl) ?_
          refine y_mem (va_up C_12 (38) (.inr (2, [.ref (E.2.1 (39)), .int (nI (ln)), .ref (E.2.1 (40)), .int cc, .int (nI (u0 + 1)), .int (nI ((0) * (10) + ((G (u0)) - (48))))]))) rfl (fun C_16 eC_17 => ?_)
          have h_18 : C_16 (38) = .inr (2, [.ref (E.2.1 (39)), .int (nI (ln)), .ref (E.2.1 (40)), .int cc, .int (nI (u0 + 1)), .int (nI ((0) * (10) + ((G (u0)) - (48))))]) := by rw [eC_17, va_up, if_pos rfl]
          have h_19 : C_16 (39) = .inl (E.2.2.1 0, 80, .inl xt) := by rw [eC_17, va_up, if_neg (by omega)]; exact h_15
          refine y_goto X 10 dX2_readDigits_109 (by decide) ?_
          have gd9 : ddO G ln mo u0 := by omega
          have L_10 : ∀ (n : Nat) (C2 : xC) (p9 : Nat) (v9 : Nat), ln - p9 < n → (C2 (38) = .inr (2, [.ref (E.2.1 (39)), .int (nI (ln)), .ref (E.2.1 (40)), .int cc, .int (nI (p9)), .int (nI (v9))])) → (C2 (39) = .inl (E.2.2.1 0, 80, .inl xt)) → (∀ i9 : Nat, ¬ i9 = 38 → C2 i9 = C i9) → (u0 + 1 ≤ p9 ∧ p9 ≤ ln) → (v9 ≤ mo) → (dgF G ln mo (ln - p9) p9 v9 = ddD G ln mo u0) → xY p l e ({ frames := 1, cells := 0, slots := 0, locals := 20 } : Room) s m args below meth c E (xA E) 3 0 0 (MQ below (xQ E (fun v C1 => v = some (.int (bI (ddO G ln mo u0))) ∧ C1 (38) = .inr (2, [.ref (E.2.1 (39)), .int (nI (ln)), .ref (E.2.1 (40)), .int cc, .int (nI (ddP G ln mo u0)), .int (ddN G ln mo u0)]) ∧ (∀ i : Nat, ¬ i = 38 → C1 i = C i))) args s 0 0 (xA E)) C2 10 [(0, .ref (E.2.1 (38))), (1, .int (nI (mo))), (2, .int (nI (u0)))] [] := by
            intro n10
            induction n10 with
            | zero => intro _ _ _ hm10; exact absurd hm10 (Nat.not_lt_zero _)
            | succ n10 ih10 =>
              intro C2 p9 v9 hm10 k0 k1 gF2 gp9 gv9 gD
              refine y_aload_n X dX2_readDigits_10 0 rfl ?_
              refine y_get X (38) 2 4 (Cn := RX2) (T := TX2) (N := 6) (index := 28) (v := .int (nI (p9))) dX2_readDigits_11 (by omega) k0 rfl (by decide) inX2 (by decide +kernel : Cond.fieldLink RX2 28 "ColumnSeasons$Script" "place" "I" ∈ wsX2_readDigits) rfl rfl ?_
              refine y_aload_n X dX2_readDigits_14 0 rfl ?_
              refine y_get X (38) 2 1 (Cn := RX2) (T := TX2) (N := 6) (index := 15) (v := .int (nI (ln))) dX2_readDigits_15 (by omega) k0 rfl (by decide) inX2 (by decide +kernel : Cond.fieldLink RX2 15 "ColumnSeasons$Script" "length" "I" ∈ wsX2_readDigits) rfl rfl ?_
              refine y_icmp_ge X 112 ((ln) ≤ (p9)) dX2_readDigits_18 (by decide) (nI_leI (a := ln) (b := p9) (by omega) (by omega)) (fun c_20 => ?_) (fun c_20 => ?_)
              ·
                refine y_aload_n X dX2_readDigits_112 0 rfl ?_
                refine y_get X (38) 2 4 (Cn := RX2) (T := TX2) (N := 6) (index := 28) (v := .int (nI (p9))) dX2_readDigits_113 (by omega) k0 rfl (by decide) inX2 (by decide +kernel : Cond.fieldLink RX2 28 "ColumnSeasons$Script" "place" "I" ∈ wsX2_readDigits) rfl rfl ?_
                refine y_iload_n X dX2_readDigits_116 2 rfl ?_
                refine y_icmp_le X 124 ((p9) ≤ (u0)) dX2_readDigits_117 (by decide) (nI_leI (a := p9) (b := u0) (by omega) (by omega)) (fun c_21 => ?_) (fun c_21 => ?_)
                ·
                  exact absurd c_21 (by omega)
                ·
                  refine y_iconst X (v := (1)) dX2_readDigits_120 (by decide) ?_
                  refine y_goto X 125 dX2_readDigits_121 (by decide) ?_
                  exact y_zret X hr (by rfl) dX2_readDigits_125 rfl (by have g8 := gD.symm.trans (dg_end (by omega)); have g2 : ddP G ln mo u0 = p9 := (if_pos gd9).trans (by rw [g8]); have g3 : ddN G ln mo u0 = nI v9 := (if_pos gd9).trans (by rw [g8]); rw [g2, g3]; exact ⟨congrArg (fun z => some (Value.int z)) (bI_1 gd9).symm, k0, (fun i9 g9 => by rw [gF2 i9 g9])⟩)
              ·
                refine y_aload_n X dX2_readDigits_21 0 rfl ?_
                refine y_get X (38) 2 0 (Cn := RX2) (T := TX2) (N := 6) (index := 9) (v := .ref (E.2.1 (39))) dX2_readDigits_22 (by omega) k0 rfl (by decide) inX2 (by decide +kernel : Cond.fieldLink RX2 9 "ColumnSeasons$Script" "text" "[C" ∈ wsX2_readDigits) rfl rfl ?_
                refine y_aload_n X dX2_readDigits_25 0 rfl ?_
                refine y_get X (38) 2 4 (Cn := RX2) (T := TX2) (N := 6) (index := 28) (v := .int (nI (p9))) dX2_readDigits_26 (by omega) k0 rfl (by decide) inX2 (by decide +kernel : Cond.fieldLink RX2 28 "ColumnSeasons$Script" "place" "I" ∈ wsX2_readDigits) rfl rfl ?_
                refine y_cald X (39) dX2_readDigits_29 (by omega) k1 (j := p9) rfl (by omega) (by omega) (z := (nI (G (p9)))) (gX (p9) (by omega)) ?_
                refine y_callJr X (av := [.int (nI (G (p9)))]) [] 1 (c_X2_isDigit (n0 := G (p9)) (by have := gG (p9) (by omega); omega)) gX2_readDigits_X2_isDigit rfl (by decide +kernel) rfl ⟨Nat.le_of_ble_eq_true rfl, Nat.le_of_ble_eq_true rfl⟩ ⟨Nat.zero_le _, Nat.zero_le _⟩ (Nat.le_of_ble_eq_true rfl) rfl dX2_readDigits_30 ?_
                refine y_if_eq X 112 (¬ (48 ≤ G (p9) ∧ G (p9) ≤ 57)) dX2_readDigits_33 (by decide) bI_eq (fun c_22 => ?_) (fun c_22 => ?_)
                ·
                  refine y_aload_n X dX2_readDigits_112 0 rfl ?_
                  refine y_get X (38) 2 4 (Cn := RX2) (T := TX2) (N := 6) (index := 28) (v := .int (nI (p9))) dX2_readDigits_113 (by omega) k0 rfl (by decide) inX2 (by decide +kernel : Cond.fieldLink RX2 28 "ColumnSeasons$Script" "place" "I" ∈ wsX2_readDigits) rfl rfl ?_
                  refine y_iload_n X dX2_readDigits_116 2 rfl ?_
                  refine y_icmp_le X 124 ((p9) ≤ (u0)) dX2_readDigits_117 (by decide) (nI_leI (a := p9) (b := u0) (by omega) (by omega)) (fun c_23 => ?_) (fun c_23 => ?_)
                  ·
                    exact absurd c_23 (by omega)
                  ·
                    refine y_iconst X (v := (1)) dX2_readDigits_120 (by decide) ?_
                    refine y_goto X 125 dX2_readDigits_121 (by decide) ?_
                    exact y_zret X hr (by rfl) dX2_readDigits_125 rfl (by have g8 := gD.symm.trans (dg_end (by omega)); have g2 : ddP G ln mo u0 = p9 := (if_pos gd9).trans (by rw [g8]); have g3 : ddN G ln mo u0 = nI v9 := (if_pos gd9).trans (by rw [g8]); rw [g2, g3]; exact ⟨congrArg (fun z => some (Value.int z)) (bI_1 gd9).symm, k0, (fun i9 g9 => by rw [gF2 i9 g9])⟩)
                ·
                  have c_22 := Decidable.of_not_not c_22
                  refine y_aload_n X dX2_readDigits_36 0 rfl ?_
                  refine y_get X (38) 2 4 (Cn := RX2) (T := TX2) (N := 6) (index := 28) (v := .int (nI (p9))) dX2_readDigits_37 (by omega) k0 rfl (by decide) inX2 (by decide +kernel : Cond.fieldLink RX2 28 "ColumnSeasons$Script" "place" "I" ∈ wsX2_readDigits) rfl rfl ?_
                  refine y_iload_n X dX2_readDigits_40 2 rfl ?_
                  refine y_icmp_eq X 51 ((p9) = (u0)) dX2_readDigits_41 (by decide) (nI_eq (a := p9) (b := u0) (by omega) (by omega)) (fun c_24 => ?_) (fun c_24 => ?_)
                  ·
                    exact absurd c_24 (by omega)
                  ·
                    refine y_aload_n X dX2_readDigits_44 0 rfl ?_
                    refine y_get X (38) 2 5 (Cn := RX2) (T := TX2) (N := 6) (index := 31) (v := .int (nI (v9))) dX2_readDigits_45 (by omega) k0 rfl (by decide) inX2 (by decide +kernel : Cond.fieldLink RX2 31 "ColumnSeasons$Script" "number" "I" ∈ wsX2_readDigits) rfl rfl ?_
                    refine y_if_eq X 112 ((v9) = (0)) dX2_readDigits_48 (by decide) (nI_eq (a := v9) (b := 0) (by omega) (by omega)) (fun c_25 => ?_) (fun c_25 => ?_)
                    ·
                      refine y_aload_n X dX2_readDigits_112 0 rfl ?_
                      refine y_get X (38) 2 4 (Cn := RX2) (T := TX2) (N := 6) (index := 28) (v := .int (nI (p9))) dX2_readDigits_113 (by omega) k0 rfl (by decide) inX2 (by decide +kernel : Cond.fieldLink RX2 28 "ColumnSeasons$Script" "place" "I" ∈ wsX2_readDigits) rfl rfl ?_
                      refine y_iload_n X dX2_readDigits_116 2 rfl ?_
                      refine y_icmp_le X 124 ((p9) ≤ (u0)) dX2_readDigits_117 (by decide) (nI_leI (a := p9) (b := u0) (by omega) (by omega)) (fun c_26 => ?_) (fun c_26 => ?_)
                      ·
                        exact absurd c_26 (by omega)
                      ·
                        refine y_iconst X (v := (1)) dX2_readDigits_120 (by decide) ?_
                        refine y_goto X 125 dX2_readDigits_121 (by decide) ?_
                        exact y_zret X hr (by rfl) dX2_readDigits_125 rfl (by have g8 := gD.symm.trans (dg_end (by omega)); have g2 : ddP G ln mo u0 = p9 := (if_pos gd9).trans (by rw [g8]); have g3 : ddN G ln mo u0 = nI v9 := (if_pos gd9).trans (by rw [g8]); rw [g2, g3]; exact ⟨congrArg (fun z => some (Value.int z)) (bI_1 gd9).symm, k0, (fun i9 g9 => by rw [gF2 i9 g9])⟩)
                    ·
                      refine y_aload_n X dX2_readDigits_51 0 rfl ?_
                      refine y_get X (38) 2 5 (Cn := RX2) (T := TX2) (N := 6) (index := 31) (v := .int (nI (v9))) dX2_readDigits_52 (by omega) k0 rfl (by decide) inX2 (by decide +kernel : Cond.fieldLink RX2 31 "ColumnSeasons$Script" "number" "I" ∈ wsX2_readDigits) rfl rfl ?_
                      refine y_bipush X (v := (10)) dX2_readDigits_55 (by decide) ?_
                      refine y_imul X (z := (nI ((v9) * (10)))) dX2_readDigits_57 (pk_mul (v9) (10)) ?_
                      refine y_aload_n X dX2_readDigits_58 0 rfl ?_
                      refine y_get X (38) 2 0 (Cn := RX2) (T := TX2) (N := 6) (index := 9) (v := .ref (E.2.1 (39))) dX2_readDigits_59 (by omega) k0 rfl (by decide) inX2 (by decide +kernel : Cond.fieldLink RX2 9 "ColumnSeasons$Script" "text" "[C" ∈ wsX2_readDigits) rfl rfl ?_
                      refine y_aload_n X dX2_readDigits_62 0 rfl ?_
                      refine y_get X (38) 2 4 (Cn := RX2) (T := TX2) (N := 6) (index := 28) (v := .int (nI (p9))) dX2_readDigits_63 (by omega) k0 rfl (by decide) inX2 (by decide +kernel : Cond.fieldLink RX2 28 "ColumnSeasons$Script" "place" "I" ∈ wsX2_readDigits) rfl rfl ?_
                      refine y_cald X (39) dX2_readDigits_66 (by omega) k1 (j := p9) rfl (by omega) (by omega) (z := (nI (G (p9)))) (gX (p9) (by omega)) ?_
                      refine y_bipush X (v := (48)) dX2_readDigits_67 (by decide) ?_
                      refine y_isub X (z := (nI ((G (p9)) - (48)))) dX2_readDigits_69 (pk_sub (a := G (p9)) (b := 48) (by omega)) ?_
                      refine y_iadd X (z := (nI ((v9) * (10) + ((G (p9)) - (48))))) dX2_readDigits_70 (nI_add ((v9) * (10)) ((G (p9)) - (48))) ?_
                      refine y_iload_n X dX2_readDigits_71 1 rfl ?_
                      refine y_icmp_gt X 112 ((mo) < ((v9) * (10) + ((G (p9)) - (48)))) dX2_readDigits_72 (by decide) (nI_ltI (a := mo) (b := (v9) * (10) + ((G (p9)) - (48))) (by omega) (by omega)) (fun c_27 => ?_) (fun c_27 => ?_)
                      ·
                        refine y_aload_n X dX2_readDigits_112 0 rfl ?_
                        refine y_get X (38) 2 4 (Cn := RX2) (T := TX2) (N := 6) (index := 28) (v := .int (nI (p9))) dX2_readDigits_113 (by omega) k0 rfl (by decide) inX2 (by decide +kernel : Cond.fieldLink RX2 28 "ColumnSeasons$Script" "place" "I" ∈ wsX2_readDigits) rfl rfl ?_
                        refine y_iload_n X dX2_readDigits_116 2 rfl ?_
                        refine y_icmp_le X 124 ((p9) ≤ (u0)) dX2_readDigits_117 (by decide) (nI_leI (a := p9) (b := u0) (by omega) (by omega)) (fun c_28 => ?_) (fun c_28 => ?_)
                        ·
                          exact absurd c_28 (by omega)
                        ·
                          refine y_iconst X (v := (1)) dX2_readDigits_120 (by decide) ?_
                          refine y_goto X 125 dX2_readDigits_121 (by decide) ?_
                          exact y_zret X hr (by rfl) dX2_readDigits_125 rfl (by have g8 := gD.symm.trans (dg_end (by omega)); have g2 : ddP G ln mo u0 = p9 := (if_pos gd9).trans (by rw [g8]); have g3 : ddN G ln mo u0 = nI v9 := (if_pos gd9).trans (by rw [g8]); rw [g2, g3]; exact ⟨congrArg (fun z => some (Value.int z)) (bI_1 gd9).symm, k0, (fun i9 g9 => by rw [gF2 i9 g9])⟩)
                      ·
                        refine y_aload_n X dX2_readDigits_75 0 rfl ?_
                        refine y_aload_n X dX2_readDigits_76 0 rfl ?_
                        refine y_get X (38) 2 5 (Cn := RX2) (T := TX2) (N := 6) (index := 31) (v := .int (nI (v9))) dX2_readDigits_77 (by omega) k0 rfl (by decide) inX2 (by decide +kernel : Cond.fieldLink RX2 31 "ColumnSeasons$Script" "number" "I" ∈ wsX2_readDigits) rfl rfl ?_
                        refine y_bipush X (v := (10)) dX2_readDigits_80 (by decide) ?_
                        refine y_imul X (z := (nI ((v9) * (10)))) dX2_readDigits_82 (pk_mul (v9) (10)) ?_
                        refine y_aload_n X dX2_readDigits_83 0 rfl ?_
                        refine y_get X (38) 2 0 (Cn := RX2) (T := TX2) (N := 6) (index := 9) (v := .ref (E.2.1 (39))) dX2_readDigits_84 (by omega) k0 rfl (by decide) inX2 (by decide +kernel : Cond.fieldLink RX2 9 "ColumnSeasons$Script" "text" "[C" ∈ wsX2_readDigits) rfl rfl ?_
                        refine y_aload_n X dX2_readDigits_87 0 rfl ?_
                        refine y_get X (38) 2 4 (Cn := RX2) (T := TX2) (N := 6) (index := 28) (v := .int (nI (p9))) dX2_readDigits_88 (by omega) k0 rfl (by decide) inX2 (by decide +kernel : Cond.fieldLink RX2 28 "ColumnSeasons$Script" "place" "I" ∈ wsX2_readDigits) rfl rfl ?_
                        refine y_cald X (39) dX2_readDigits_91 (by omega) k1 (j := p9) rfl (by omega) (by omega) (z := (nI (G (p9)))) (gX (p9) (by omega)) ?_
                        refine y_bipush X (v := (48)) dX2_readDigits_92 (by decide) ?_
                        refine y_isub X (z := (nI ((G (p9)) - (48)))) dX2_readDigits_94 (pk_sub (a := G (p9)) (b := 48) (by omega)) ?_
                        refine y_iadd X (z := (nI ((v9) * (10) + ((G (p9)) - (48))))) dX2_readDigits_95 (nI_add ((v9) * (10)) ((G (p9)) - (48))) ?_
                        refine y_put X (38) 2 5 (Cn := RX2) (T := TX2) (N := 6) (index := 31) tyX2 (v := .int (nI ((v9) * (10) + ((G (p9)) - (48))))) dX2_readDigits_96 (by omega) k0 rfl (by decide) inX2 (by decide +kernel : Cond.fieldLink RX2 31 "ColumnSeasons$Script" "number" "I" ∈ wsX2_readDigits) rfl tyX2_ok nmX2 rfl rfl rfl (Nat.le_of_ble_eq_true rfl) ?_
                        refine y_mem (va_up C2 (38) (.inr (2, [.ref (E.2.1 (39)), .int (nI (ln)), .ref (E.2.1 (40)), .int cc, .int (nI (p9)), .int (nI ((v9) * (10) + ((G (p9)) - (48))))]))) rfl (fun C_29 eC_30 => ?_)
                        have h_31 : C_29 (38) = .inr (2, [.ref (E.2.1 (39)), .int (nI (ln)), .ref (E.2.1 (40)), .int cc, .int (nI (p9)), .int (nI ((v9) * (10) + ((G (p9)) - (48))))]) := by rw [eC_30, va_up, if_pos rfl]
                        have h_32 : C_29 (39) = .inl (E.2.2.1 0, 80, .inl xt) := by rw [eC_30, va_up, if_neg (by omega)]; exact k1
                        refine y_aload_n X dX2_readDigits_99 0 rfl ?_
                        refine y_dup X dX2_readDigits_100 rfl ?_
                        refine y_get X (38) 2 4 (Cn := RX2) (T := TX2) (N := 6) (index := 28) (v := .int (nI (p9))) dX2_readDigits_101 (by omega) h_31 rfl (by decide) inX2 (by decide +kernel : Cond.fieldLink RX2 28 "ColumnSeasons$Script" "place" "I" ∈ wsX2_readDigits) rfl rfl ?_
                        refine y_iconst X (v := (1)) dX2_readDigits_104 (by decide) ?_
                        refine y_iadd X (z := (nI (p9 + 1))) dX2_readDigits_105 (nI_add (p9) (1)) ?_
                        refine y_put X (38) 2 4 (Cn := RX2) (T := TX2) (N := 6) (index := 28) tyX2 (v := .int (nI (p9 + 1))) dX2_readDigits_106 (by omega) h_31 rfl (by decide) inX2 (by decide +kernel : Cond.fieldLink RX2 28 "ColumnSeasons$Script" "place" "I" ∈ wsX2_readDigits) rfl tyX2_ok nmX2 rfl rfl rfl (Nat.le_of_ble_eq_true rfl) ?_
                        refine y_mem (va_up C_29 (38) (.inr (2, [.ref (E.2.1 (39)), .int (nI (ln)), .ref (E.2.1 (40)), .int cc, .int (nI (p9 + 1)), .int (nI ((v9) * (10) + ((G (p9)) - (48))))]))) rfl (fun C_33 eC_34 => ?_)
                        have h_35 : C_33 (38) = .inr (2, [.ref (E.2.1 (39)), .int (nI (ln)), .ref (E.2.1 (40)), .int cc, .int (nI (p9 + 1)), .int (nI ((v9) * (10) + ((G (p9)) - (48))))]) := by rw [eC_34, va_up, if_pos rfl]
                        have h_36 : C_33 (39) = .inl (E.2.2.1 0, 80, .inl xt) := by rw [eC_34, va_up, if_neg (by omega)]; exact h_32
                        refine y_goto X 10 dX2_readDigits_109 (by decide) ?_
                        exact ih10 (C_33) (p9 + 1) ((v9) * (10) + ((G (p9)) - (48))) (by omega) h_35 h_36 (fun i9 g9 => by rw [eC_34, va_up, if_neg (by omega)]; rw [eC_30, va_up, if_neg (by omega)]; rw [gF2 i9 g9]) (by omega) (by omega) (by rw [← gD, dg_go (G := G) (ln := ln) (mo := mo) (p := p9) (v := v9) (by omega)]; exact congrArg (dgF G ln mo (ln - (p9 + 1)) (p9 + 1)) (by omega))
          refine y_pick [1, 2, 0] [(0, .ref (E.2.1 (38))), (1, .int (nI (mo))), (2, .int (nI (u0)))] rfl ?_
          exact L_10 _ (C_16) (u0 + 1) ((0) * (10) + ((G (u0)) - (48))) (Nat.lt_succ_self _) h_18 h_19 (fun i9 g9 => by rw [eC_17, va_up, if_neg (by omega)]; rw [eC_13, va_up, if_neg (by omega)]; rw [eC_2, va_up, if_neg (by omega)]) (by omega) (by omega) (by unfold ddD; exact congrArg (dgF G ln mo (ln - (u0 + 1)) (u0 + 1)) (by omega))
      ·
        exact absurd c_9 (by omega)

set_option maxRecDepth 100000 in
set_option maxHeartbeats 4000000 in
theorem c_X2_readOperand {l : Launch} {E : xE} {C : xC} {G : Nat → Nat} {u0 ln : Nat} {cc nu : Int32} {xt : Nat → Int32} (gp : u0 ≤ ln) (gl80 : ln ≤ 80) (gX : ∀ z : Nat, z < ln → xt z = nI (G z)) (gG : ∀ z : Nat, z < ln → G z < 65536) (s0 : C (38) = .inr (2, [.ref (E.2.1 (39)), .int (nI (ln)), .ref (E.2.1 (40)), .int cc, .int (nI (u0)), .int nu])) (s1 : C (39) = .inl (E.2.2.1 0, 80, .inl xt)) {lw : Int32} {mo : Nat} (gmo : mo ≤ 9999) (gneg : lw.toInt < 0 → -lw = nI mo) : xM E l yX2_readOperand wsX2_readOperand 2 42 [.ref (E.2.1 (38)), .int lw, .int (nI (mo))] C (fun v C1 => v = some (.int (bI (opO G ln lw mo u0))) ∧ (∃ nu2 : Int32, C1 (38) = .inr (2, [.ref (E.2.1 (39)), .int (nI (ln)), .ref (E.2.1 (40)), .int cc, .int (nI (opP G ln lw mo u0)), .int nu2]) ∧ ((opO G ln lw mo u0) → nu2 = opV G ln lw mo u0)) ∧ (∀ i : Nat, ¬ i = 38 → C1 i = C i)) := by
  refine xM_ofY (cc := cX2_readOperand) (maxL := 4) (ret := (some .boolean)) (by decide) rfl (Nat.le_of_ble_eq_true rfl) ?_
  intro p e s m args below meth c X hr
  have inX2 : ∀ w ∈ wsX20, w ∈ wsX2_readOperand := by decide +kernel
  refine y_lv [(0, .ref (E.2.1 (38))), (1, .int lw), (2, .int (nI (mo)))] rfl ?_
  refine y_aload_n X dX2_readOperand_0 0 rfl ?_
  refine y_bipush X (v := (32)) dX2_readOperand_1 (by decide) ?_
  refine y_callV X (38) 2 (av := [.int (32)]) [] 1 (c_X2_readSign (G := G) (u0 := u0) (by omega) gl80 gX gG s0 s1 (c0 := 32) (by omega)) (by omega) s0 rfl gX2_readOperand_X2_readSign rfl (by decide +kernel) rfl ⟨Nat.le_of_ble_eq_true rfl, Nat.le_of_ble_eq_true rfl⟩ ⟨Nat.zero_le _, Nat.zero_le _⟩ (Nat.le_of_ble_eq_true rfl) rfl dX2_readOperand_3 (fun v_1 C_2 hp_3 => ?_)
  obtain ⟨gv4, gM4, gF4⟩ := hp_3
  rcases Decidable.em (chA G ln (u0) (32)) with cs4 | cs4
  ·
    rw [bI_1 cs4] at gv4
    subst gv4
    rw [if_pos cs4] at gM4
    have gb4 := cs4.1
    have h_5 : C_2 (39) = .inl (E.2.2.1 0, 80, .inl xt) := (gF4 _ (by omega)).trans s1
    refine y_if_ne X 11 (¬ ((1) = (0))) dX2_readOperand_6 (by decide) (cNe (nI_eq (a := 1) (b := 0) (by omega) (by omega))) (fun c_6 => ?_) (fun c_6 => ?_)
    ·
      refine y_iload_n X dX2_readOperand_11 1 rfl ?_
      refine y_if_ge X 59 ((0 : Int) ≤ (lw).toInt) dX2_readOperand_12 (by decide) (cLe (by decide) rfl) (fun c_7 => ?_) (fun c_7 => ?_)
      ·
        refine y_aload_n X dX2_readOperand_59 0 rfl ?_
        refine y_iload_n X dX2_readOperand_60 2 rfl ?_
        refine y_callV X (38) 2 (av := [.int (nI (mo))]) [] 1 (c_X2_readDigits (G := G) (u0 := u0 + 1) (by omega) gl80 gX gG gM4 h_5 (mo := mo) (by omega)) (by omega) gM4 rfl gX2_readOperand_X2_readDigits rfl (by decide +kernel) rfl ⟨Nat.le_of_ble_eq_true rfl, Nat.le_of_ble_eq_true rfl⟩ ⟨Nat.zero_le _, Nat.zero_le _⟩ (Nat.le_of_ble_eq_true rfl) rfl dX2_readOperand_61 (fun v_8 C_9 hp_10 => ?_)
        obtain ⟨gv11, gM11, gF11⟩ := hp_10
        rcases Decidable.em (ddO G ln (mo) (u0 + 1)) with cd11 | cd11
        ·
          rw [bI_1 cd11] at gv11
          subst gv11
          have gb11 := ddP_b (G := G) (ln := ln) (mo := mo) (p := u0 + 1) (by omega)
          have h_12 : C_9 (39) = .inl (E.2.2.1 0, 80, .inl xt) := (gF11 _ (by omega)).trans h_5
          exact y_zret X hr (by rfl) dX2_readOperand_64 rfl (by have gB : ¬ nmB G ln lw (u0 + 1) := (fun z => by first | exact absurd z.1 (by omega)); have gq := nm_pos (mo := mo) gB; have g2 : opP G ln lw mo u0 = ddP G ln (mo) (u0 + 1) := (if_pos cs4).trans gq.2.1; have gO : opO G ln lw mo u0 := ⟨cs4, gq.1.mpr cd11⟩; rw [g2]; exact ⟨congrArg (fun z => some (Value.int z)) (bI_1 gO).symm, ⟨_, gM11, fun _ => (gq.2.2 cd11).symm⟩, (fun i9 g9 => by rw [gF11 i9 (by omega)]; rw [gF4 i9 (by omega)])⟩)
        ·
          rw [bI_0 cd11] at gv11
          subst gv11
          have gb11 := ddP_b (G := G) (ln := ln) (mo := mo) (p := u0 + 1) (by omega)
          have h_13 : C_9 (39) = .inl (E.2.2.1 0, 80, .inl xt) := (gF11 _ (by omega)).trans h_5
          exact y_zret X hr (by rfl) dX2_readOperand_64 rfl (by have gB : ¬ nmB G ln lw (u0 + 1) := (fun z => by first | exact absurd z.1 (by omega)); have gq := nm_pos (mo := mo) gB; have g2 : opP G ln lw mo u0 = ddP G ln (mo) (u0 + 1) := (if_pos cs4).trans gq.2.1; have gN : ¬ opO G ln lw mo u0 := (fun z => cd11 (gq.1.mp z.2)); rw [g2]; exact ⟨congrArg (fun z => some (Value.int z)) (bI_0 gN).symm, ⟨_, gM11, fun z => absurd z gN⟩, (fun i9 g9 => by rw [gF11 i9 (by omega)]; rw [gF4 i9 (by omega)])⟩)
      ·
        refine y_aload_n X dX2_readOperand_15 0 rfl ?_
        refine y_bipush X (v := (45)) dX2_readOperand_16 (by decide) ?_
        refine y_callV X (38) 2 (av := [.int (45)]) [] 1 (c_X2_readSign (G := G) (u0 := u0 + 1) (by omega) gl80 gX gG gM4 h_5 (c0 := 45) (by omega)) (by omega) gM4 rfl gX2_readOperand_X2_readSign rfl (by decide +kernel) rfl ⟨Nat.le_of_ble_eq_true rfl, Nat.le_of_ble_eq_true rfl⟩ ⟨Nat.zero_le _, Nat.zero_le _⟩ (Nat.le_of_ble_eq_true rfl) rfl dX2_readOperand_18 (fun v_14 C_15 hp_16 => ?_)
        obtain ⟨gv17, gM17, gF17⟩ := hp_16
        rcases Decidable.em (chA G ln (u0 + 1) (45)) with cs17 | cs17
        ·
          rw [bI_1 cs17] at gv17
          subst gv17
          rw [if_pos cs17] at gM17
          have gb17 := cs17.1
          have h_18 : C_15 (39) = .inl (E.2.2.1 0, 80, .inl xt) := (gF17 _ (by omega)).trans h_5
          refine y_if_eq X 59 ((1) = (0)) dX2_readOperand_21 (by decide) (nI_eq (a := 1) (b := 0) (by omega) (by omega)) (fun c_19 => ?_) (fun c_19 => ?_)
          ·
            exact absurd c_19 (by decide)
          ·
            refine y_aload_n X dX2_readOperand_24 0 rfl ?_
            refine y_bipush X (v := (48)) dX2_readOperand_25 (by decide) ?_
            refine y_callVr X (38) 2 (av := [.int (48)]) [] 1 (c_X2_isNext (G := G) (u0 := u0 + 1 + 1) (by omega) gl80 gX gG gM17 h_18 (c0 := 48) (by omega)) (by omega) gM17 rfl gX2_readOperand_X2_isNext rfl (by decide +kernel) rfl ⟨Nat.le_of_ble_eq_true rfl, Nat.le_of_ble_eq_true rfl⟩ ⟨Nat.zero_le _, Nat.zero_le _⟩ (Nat.le_of_ble_eq_true rfl) rfl dX2_readOperand_27 ?_
            refine y_if_ne X 46 (chA G ln (u0 + 1 + 1) (48)) dX2_readOperand_30 (by decide) bI_ne (fun c_20 => ?_) (fun c_20 => ?_)
            ·
              refine y_iconst X (v := (0)) dX2_readOperand_46 (by decide) ?_
              refine y_istore_n X [(3, .int (0)), (0, .ref (E.2.1 (38))), (1, .int lw), (2, .int (nI (mo)))] dX2_readOperand_47 rfl (by decide) rfl ?_
              refine y_aload_n X dX2_readOperand_48 1 rfl ?_
              refine y_aload_n X dX2_readOperand_49 1 rfl ?_
              refine y_get X (38) 2 5 (Cn := RX2) (T := TX2) (N := 6) (index := 31) (v := .int nu) dX2_readOperand_50 (by omega) gM17 rfl (by decide) inX2 (by decide +kernel : Cond.fieldLink RX2 31 "ColumnSeasons$Script" "number" "I" ∈ wsX2_readOperand) rfl rfl ?_
              refine y_ineg X (z := (-nu)) dX2_readOperand_53 rfl ?_
              refine y_put X (38) 2 5 (Cn := RX2) (T := TX2) (N := 6) (index := 31) tyX2 (v := .int (-nu)) dX2_readOperand_54 (by omega) gM17 rfl (by decide) inX2 (by decide +kernel : Cond.fieldLink RX2 31 "ColumnSeasons$Script" "number" "I" ∈ wsX2_readOperand) rfl tyX2_ok nmX2 rfl rfl rfl (Nat.le_of_ble_eq_true rfl) ?_
              refine y_mem (va_up C_15 (38) (.inr (2, [.ref (E.2.1 (39)), .int (nI (ln)), .ref (E.2.1 (40)), .int cc, .int (nI (u0 + 1 + 1)), .int (-nu)]))) rfl (fun C_21 eC_22 => ?_)
              have h_23 : C_21 (38) = .inr (2, [.ref (E.2.1 (39)), .int (nI (ln)), .ref (E.2.1 (40)), .int cc, .int (nI (u0 + 1 + 1)), .int (-nu)]) := by rw [eC_22, va_up, if_pos rfl]
              have h_24 : C_21 (39) = .inl (E.2.2.1 0, 80, .inl xt) := by rw [eC_22, va_up, if_neg (by omega)]; exact h_18
              refine y_iload_n X dX2_readOperand_57 0 rfl ?_
              exact y_zret X hr (by rfl) dX2_readOperand_58 rfl (by have gB : nmB G ln lw (u0 + 1) := ⟨by omega, cs17⟩; have gq := nm_neg0 (mo := mo) gB c_20; have g2 : opP G ln lw mo u0 = u0 + 1 + 1 := (if_pos cs4).trans gq.2; have gN : ¬ opO G ln lw mo u0 := (fun z => gq.1 z.2); rw [g2]; exact ⟨congrArg (fun z => some (Value.int z)) (bI_0 gN).symm, ⟨_, h_23, fun z => absurd z gN⟩, (fun i9 g9 => by rw [eC_22, va_up, if_neg (by omega)]; rw [gF17 i9 (by omega)]; rw [gF4 i9 (by omega)])⟩)
            ·
              refine y_aload_n X dX2_readOperand_33 0 rfl ?_
              refine y_iload_n X dX2_readOperand_34 1 rfl ?_
              refine y_ineg X (z := (nI (mo))) dX2_readOperand_35 (gneg (by omega)) ?_
              refine y_callV X (38) 2 (av := [.int (nI (mo))]) [] 1 (c_X2_readDigits (G := G) (u0 := u0 + 1 + 1) (by omega) gl80 gX gG gM17 h_18 (mo := mo) (by omega)) (by omega) gM17 rfl gX2_readOperand_X2_readDigits rfl (by decide +kernel) rfl ⟨Nat.le_of_ble_eq_true rfl, Nat.le_of_ble_eq_true rfl⟩ ⟨Nat.zero_le _, Nat.zero_le _⟩ (Nat.le_of_ble_eq_true rfl) rfl dX2_readOperand_36 (fun v_25 C_26 hp_27 => ?_)
              obtain ⟨gv28, gM28, gF28⟩ := hp_27
              rcases Decidable.em (ddO G ln (mo) (u0 + 1 + 1)) with cd28 | cd28
              ·
                rw [bI_1 cd28] at gv28
                subst gv28
                have gb28 := ddP_b (G := G) (ln := ln) (mo := mo) (p := u0 + 1 + 1) (by omega)
                have h_29 : C_26 (39) = .inl (E.2.2.1 0, 80, .inl xt) := (gF28 _ (by omega)).trans h_18
                refine y_if_eq X 46 ((1) = (0)) dX2_readOperand_39 (by decide) (nI_eq (a := 1) (b := 0) (by omega) (by omega)) (fun c_30 => ?_) (fun c_30 => ?_)
                ·
                  exact absurd c_30 (by decide)
                ·
                  refine y_iconst X (v := (1)) dX2_readOperand_42 (by decide) ?_
                  refine y_goto X 47 dX2_readOperand_43 (by decide) ?_
                  refine y_istore_n X [(3, .int (1)), (0, .ref (E.2.1 (38))), (1, .int lw), (2, .int (nI (mo)))] dX2_readOperand_47 rfl (by decide) rfl ?_
                  refine y_aload_n X dX2_readOperand_48 1 rfl ?_
                  refine y_aload_n X dX2_readOperand_49 1 rfl ?_
                  refine y_get X (38) 2 5 (Cn := RX2) (T := TX2) (N := 6) (index := 31) (v := .int (ddN G ln (mo) (u0 + 1 + 1))) dX2_readOperand_50 (by omega) gM28 rfl (by decide) inX2 (by decide +kernel : Cond.fieldLink RX2 31 "ColumnSeasons$Script" "number" "I" ∈ wsX2_readOperand) rfl rfl ?_
                  refine y_ineg X (z := (-(ddN G ln (mo) (u0 + 1 + 1)))) dX2_readOperand_53 rfl ?_
                  refine y_put X (38) 2 5 (Cn := RX2) (T := TX2) (N := 6) (index := 31) tyX2 (v := .int (-(ddN G ln (mo) (u0 + 1 + 1)))) dX2_readOperand_54 (by omega) gM28 rfl (by decide) inX2 (by decide +kernel : Cond.fieldLink RX2 31 "ColumnSeasons$Script" "number" "I" ∈ wsX2_readOperand) rfl tyX2_ok nmX2 rfl rfl rfl (Nat.le_of_ble_eq_true rfl) ?_
                  refine y_mem (va_up C_26 (38) (.inr (2, [.ref (E.2.1 (39)), .int (nI (ln)), .ref (E.2.1 (40)), .int cc, .int (nI (ddP G ln (mo) (u0 + 1 + 1))), .int (-(ddN G ln (mo) (u0 + 1 + 1)))]))) rfl (fun C_31 eC_32 => ?_)
                  have h_33 : C_31 (38) = .inr (2, [.ref (E.2.1 (39)), .int (nI (ln)), .ref (E.2.1 (40)), .int cc, .int (nI (ddP G ln (mo) (u0 + 1 + 1))), .int (-(ddN G ln (mo) (u0 + 1 + 1)))]) := by rw [eC_32, va_up, if_pos rfl]
                  have h_34 : C_31 (39) = .inl (E.2.2.1 0, 80, .inl xt) := by rw [eC_32, va_up, if_neg (by omega)]; exact h_29
                  refine y_iload_n X dX2_readOperand_57 0 rfl ?_
                  exact y_zret X hr (by rfl) dX2_readOperand_58 rfl (by have gB : nmB G ln lw (u0 + 1) := ⟨by omega, cs17⟩; have gq := nm_neg (mo := mo) gB c_20; have g2 : opP G ln lw mo u0 = ddP G ln (mo) (u0 + 1 + 1) := (if_pos cs4).trans gq.2.1; have gO : opO G ln lw mo u0 := ⟨cs4, gq.1.mpr cd28⟩; rw [g2]; exact ⟨congrArg (fun z => some (Value.int z)) (bI_1 gO).symm, ⟨_, h_33, fun _ => (gq.2.2 cd28).symm⟩, (fun i9 g9 => by rw [eC_32, va_up, if_neg (by omega)]; rw [gF28 i9 (by omega)]; rw [gF17 i9 (by omega)]; rw [gF4 i9 (by omega)])⟩)
              ·
                rw [bI_0 cd28] at gv28
                subst gv28
                have gb28 := ddP_b (G := G) (ln := ln) (mo := mo) (p := u0 + 1 + 1) (by omega)
                have h_35 : C_26 (39) = .inl (E.2.2.1 0, 80, .inl xt) := (gF28 _ (by omega)).trans h_18
                refine y_if_eq X 46 ((0) = (0)) dX2_readOperand_39 (by decide) (nI_eq (a := 0) (b := 0) (by omega) (by omega)) (fun c_36 => ?_) (fun c_36 => ?_)
                ·
                  refine y_iconst X (v := (0)) dX2_readOperand_46 (by decide) ?_
                  refine y_istore_n X [(3, .int (0)), (0, .ref (E.2.1 (38))), (1, .int lw), (2, .int (nI (mo)))] dX2_readOperand_47 rfl (by decide) rfl ?_
                  refine y_aload_n X dX2_readOperand_48 1 rfl ?_
                  refine y_aload_n X dX2_readOperand_49 1 rfl ?_
                  refine y_get X (38) 2 5 (Cn := RX2) (T := TX2) (N := 6) (index := 31) (v := .int (ddN G ln (mo) (u0 + 1 + 1))) dX2_readOperand_50 (by omega) gM28 rfl (by decide) inX2 (by decide +kernel : Cond.fieldLink RX2 31 "ColumnSeasons$Script" "number" "I" ∈ wsX2_readOperand) rfl rfl ?_
                  refine y_ineg X (z := (-(ddN G ln (mo) (u0 + 1 + 1)))) dX2_readOperand_53 rfl ?_
                  refine y_put X (38) 2 5 (Cn := RX2) (T := TX2) (N := 6) (index := 31) tyX2 (v := .int (-(ddN G ln (mo) (u0 + 1 + 1)))) dX2_readOperand_54 (by omega) gM28 rfl (by decide) inX2 (by decide +kernel : Cond.fieldLink RX2 31 "ColumnSeasons$Script" "number" "I" ∈ wsX2_readOperand) rfl tyX2_ok nmX2 rfl rfl rfl (Nat.le_of_ble_eq_true rfl) ?_
                  refine y_mem (va_up C_26 (38) (.inr (2, [.ref (E.2.1 (39)), .int (nI (ln)), .ref (E.2.1 (40)), .int cc, .int (nI (ddP G ln (mo) (u0 + 1 + 1))), .int (-(ddN G ln (mo) (u0 + 1 + 1)))]))) rfl (fun C_37 eC_38 => ?_)
                  have h_39 : C_37 (38) = .inr (2, [.ref (E.2.1 (39)), .int (nI (ln)), .ref (E.2.1 (40)), .int cc, .int (nI (ddP G ln (mo) (u0 + 1 + 1))), .int (-(ddN G ln (mo) (u0 + 1 + 1)))]) := by rw [eC_38, va_up, if_pos rfl]
                  have h_40 : C_37 (39) = .inl (E.2.2.1 0, 80, .inl xt) := by rw [eC_38, va_up, if_neg (by omega)]; exact h_35
                  refine y_iload_n X dX2_readOperand_57 0 rfl ?_
                  exact y_zret X hr (by rfl) dX2_readOperand_58 rfl (by have gB : nmB G ln lw (u0 + 1) := ⟨by omega, cs17⟩; have gq := nm_neg (mo := mo) gB c_20; have g2 : opP G ln lw mo u0 = ddP G ln (mo) (u0 + 1 + 1) := (if_pos cs4).trans gq.2.1; have gN : ¬ opO G ln lw mo u0 := (fun z => cd28 (gq.1.mp z.2)); rw [g2]; exact ⟨congrArg (fun z => some (Value.int z)) (bI_0 gN).symm, ⟨_, h_39, fun z => absurd z gN⟩, (fun i9 g9 => by rw [eC_38, va_up, if_neg (by omega)]; rw [gF28 i9 (by omega)]; rw [gF17 i9 (by omega)]; rw [gF4 i9 (by omega)])⟩)
                ·
                  exact absurd c_36 (by decide)
        ·
          rw [bI_0 cs17] at gv17
          subst gv17
          rw [if_neg cs17] at gM17
          have h_41 : C_15 (39) = .inl (E.2.2.1 0, 80, .inl xt) := (gF17 _ (by omega)).trans h_5
          refine y_if_eq X 59 ((0) = (0)) dX2_readOperand_21 (by decide) (nI_eq (a := 0) (b := 0) (by omega) (by omega)) (fun c_42 => ?_) (fun c_42 => ?_)
          ·
            refine y_aload_n X dX2_readOperand_59 0 rfl ?_
            refine y_iload_n X dX2_readOperand_60 2 rfl ?_
            refine y_callV X (38) 2 (av := [.int (nI (mo))]) [] 1 (c_X2_readDigits (G := G) (u0 := u0 + 1) (by omega) gl80 gX gG gM17 h_41 (mo := mo) (by omega)) (by omega) gM17 rfl gX2_readOperand_X2_readDigits rfl (by decide +kernel) rfl ⟨Nat.le_of_ble_eq_true rfl, Nat.le_of_ble_eq_true rfl⟩ ⟨Nat.zero_le _, Nat.zero_le _⟩ (Nat.le_of_ble_eq_true rfl) rfl dX2_readOperand_61 (fun v_43 C_44 hp_45 => ?_)
            obtain ⟨gv46, gM46, gF46⟩ := hp_45
            rcases Decidable.em (ddO G ln (mo) (u0 + 1)) with cd46 | cd46
            ·
              rw [bI_1 cd46] at gv46
              subst gv46
              have gb46 := ddP_b (G := G) (ln := ln) (mo := mo) (p := u0 + 1) (by omega)
              have h_47 : C_44 (39) = .inl (E.2.2.1 0, 80, .inl xt) := (gF46 _ (by omega)).trans h_41
              exact y_zret X hr (by rfl) dX2_readOperand_64 rfl (by have gB : ¬ nmB G ln lw (u0 + 1) := (fun z => by first | exact absurd z.1 (by omega) | exact cs17 z.2); have gq := nm_pos (mo := mo) gB; have g2 : opP G ln lw mo u0 = ddP G ln (mo) (u0 + 1) := (if_pos cs4).trans gq.2.1; have gO : opO G ln lw mo u0 := ⟨cs4, gq.1.mpr cd46⟩; rw [g2]; exact ⟨congrArg (fun z => some (Value.int z)) (bI_1 gO).symm, ⟨_, gM46, fun _ => (gq.2.2 cd46).symm⟩, (fun i9 g9 => by rw [gF46 i9 (by omega)]; rw [gF17 i9 (by omega)]; rw [gF4 i9 (by omega)])⟩)
            ·
              rw [bI_0 cd46] at gv46
              subst gv46
              have gb46 := ddP_b (G := G) (ln := ln) (mo := mo) (p := u0 + 1) (by omega)
              have h_48 : C_44 (39) = .inl (E.2.2.1 0, 80, .inl xt) := (gF46 _ (by omega)).trans h_41
              exact y_zret X hr (by rfl) dX2_readOperand_64 rfl (by have gB : ¬ nmB G ln lw (u0 + 1) := (fun z => by first | exact absurd z.1 (by omega) | exact cs17 z.2); have gq := nm_pos (mo := mo) gB; have g2 : opP G ln lw mo u0 = ddP G ln (mo) (u0 + 1) := (if_pos cs4).trans gq.2.1; have gN : ¬ opO G ln lw mo u0 := (fun z => cd46 (gq.1.mp z.2)); rw [g2]; exact ⟨congrArg (fun z => some (Value.int z)) (bI_0 gN).symm, ⟨_, gM46, fun z => absurd z gN⟩, (fun i9 g9 => by rw [gF46 i9 (by omega)]; rw [gF17 i9 (by omega)]; rw [gF4 i9 (by omega)])⟩)
          ·
            exact absurd c_42 (by decide)
    ·
      have c_6 := Decidable.of_not_not c_6
      exact absurd c_6 (by decide)
  ·
    rw [bI_0 cs4] at gv4
    subst gv4
    rw [if_neg cs4] at gM4
    have h_49 : C_2 (39) = .inl (E.2.2.1 0, 80, .inl xt) := (gF4 _ (by omega)).trans s1
    refine y_if_ne X 11 (¬ ((0) = (0))) dX2_readOperand_6 (by decide) (cNe (nI_eq (a := 0) (b := 0) (by omega) (by omega))) (fun c_50 => ?_) (fun c_50 => ?_)
    ·
      exact absurd c_50 (by decide)
    ·
      have c_50 := Decidable.of_not_not c_50
      refine y_iconst X (v := (0)) dX2_readOperand_9 (by decide) ?_
      exact y_zret X hr (by rfl) dX2_readOperand_10 rfl (by have g2 : opP G ln lw mo u0 = u0 := if_neg cs4; have gN : ¬ opO G ln lw mo u0 := (fun z => cs4 z.1); rw [g2]; exact ⟨congrArg (fun z => some (Value.int z)) (bI_0 gN).symm, ⟨_, gM4, fun z => absurd z gN⟩, (fun i9 g9 => by rw [gF4 i9 (by omega)])⟩)
