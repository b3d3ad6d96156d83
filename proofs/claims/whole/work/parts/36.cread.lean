set_option maxRecDepth 100000 in
set_option maxHeartbeats 4000000 in
theorem c_X2_readName {l : Launch} {E : xE} {C : xC} {G : Nat → Nat} {u0 ln : Nat} {cc nu : Int32} {xt : Nat → Int32} (gp : u0 ≤ ln) (gl80 : ln ≤ 80) (gX : ∀ z : Nat, z < ln → xt z = nI (G z)) (gG : ∀ z : Nat, z < ln → G z < 65536) (s0 : C (38) = .inr (2, [.ref (E.2.1 (39)), .int (nI (ln)), .ref (E.2.1 (40)), .int cc, .int (nI (u0)), .int nu])) (s1 : C (39) = .inl (E.2.2.1 0, 80, .inl xt)) {b : Nat} {vb rw0 nm0 kd0 nb0 : Int32} (gb : 41 ≤ b) (gb2 : b < 61) (sb : C (b) = .inr (0, [.int vb, .int rw0, .int nm0, .int kd0, .int nb0])) : xM E l yX2_readName wsX2_readName 3 65 [.ref (E.2.1 (38)), .ref (E.2.1 (b))] C (fun v C1 => v = some (.int (bI (opO G ln (0) 7 u0))) ∧ (∃ w2 nu2 : Int32, C1 (38) = .inr (2, [.ref (E.2.1 (39)), .int (nI (ln)), .ref (E.2.1 (40)), .int cc, .int (nI (opP G ln (0) 7 u0)), .int nu2]) ∧ C1 (b) = .inr (0, [.int vb, .int rw0, .int w2, .int kd0, .int nb0]) ∧ ((opO G ln (0) 7 u0) → w2 = opV G ln (0) 7 u0)) ∧ (∀ i : Nat, ¬ i = 38 → ¬ i = b → C1 i = C i)) := by
  refine xM_ofY (cc := cX2_readName) (maxL := 2) (ret := (some .boolean)) (by decide) rfl (Nat.le_of_ble_eq_true rfl) ?_
  intro p e s m args below meth c X hr
  have inX0 : ∀ w ∈ wsX00, w ∈ wsX2_readName := by decide +kernel
  have inX2 : ∀ w ∈ wsX20, w ∈ wsX2_readName := by decide +kernel
  refine y_lv [(0, .ref (E.2.1 (38))), (1, .ref (E.2.1 (b)))] rfl ?_
  refine y_aload_n X dX2_readName_0 0 rfl ?_
  refine y_iconst X (v := (0)) dX2_readName_1 (by decide) ?_
  refine y_bipush X (v := (7)) dX2_readName_2 (by decide) ?_
  refine y_callV X (38) 2 (av := [.int (0), .int (7)]) [] 2 (c_X2_readOperand (G := G) (u0 := u0) (by omega) gl80 gX gG s0 s1 (lw := (0)) (mo := 7) (by omega) (by decide)) (by omega) s0 rfl gX2_readName_X2_readOperand rfl (by decide +kernel) rfl ⟨Nat.le_of_ble_eq_true rfl, Nat.le_of_ble_eq_true rfl⟩ ⟨Nat.zero_le _, Nat.zero_le _⟩ (Nat.le_of_ble_eq_true rfl) rfl dX2_readName_4 (fun v_1 C_2 hp_3 => ?_)
  obtain ⟨gv4, ⟨vz4, gM4, gW4⟩, gF4⟩ := hp_3
  rcases Decidable.em (opO G ln (0) (7) (u0)) with co4 | co4
  ·
    rw [bI_1 co4] at gv4
    subst gv4
    have gY4 := gW4 co4
    subst gY4
    have gb4 := opP_b (G := G) (lw := (0)) (mo := 7) (p := u0) (ln := ln) (by omega)
    have h_5 : C_2 (39) = .inl (E.2.2.1 0, 80, .inl xt) := (gF4 _ (by omega)).trans s1
    have h_6 : C_2 (b) = .inr (0, [.int vb, .int rw0, .int nm0, .int kd0, .int nb0]) := (gF4 _ (by omega)).trans sb
    refine y_if_ne X 12 (¬ ((1) = (0))) dX2_readName_7 (by decide) (cNe (nI_eq (a := 1) (b := 0) (by omega) (by omega))) (fun c_7 => ?_) (fun c_7 => ?_)
    ·
      refine y_aload_n X dX2_readName_12 1 rfl ?_
      refine y_aload_n X dX2_readName_13 0 rfl ?_
      refine y_get X (38) 2 5 (Cn := RX2) (T := TX2) (N := 6) (index := 31) (v := .int (opV G ln (0) (7) (u0))) dX2_readName_14 (by omega) gM4 rfl (by decide) inX2 (by decide +kernel : Cond.fieldLink RX2 31 "ColumnSeasons$Script" "number" "I" ∈ wsX2_readName) rfl rfl ?_
      refine y_putN X (b) 0 2 (Cn := RX0) (T := TX0) (N := 5) (index := 82) tyX0 (v := .int (opV G ln (0) (7) (u0))) dX2_readName_17 (by omega) h_6 rfl (by decide) inX0 (by decide +kernel : Cond.fieldLinkNest RX2 82 "ColumnSeasons$Command" "name" "I" "ColumnSeasons" ∈ xnest) rfl tyX0_ok nmX0 rfl rfl rfl (Nat.le_of_ble_eq_true rfl) ?_
      refine y_mem (va_up C_2 (b) (.inr (0, [.int vb, .int rw0, .int (opV G ln (0) (7) (u0)), .int kd0, .int nb0]))) rfl (fun C_8 eC_9 => ?_)
      have h_10 : C_8 (38) = .inr (2, [.ref (E.2.1 (39)), .int (nI (ln)), .ref (E.2.1 (40)), .int cc, .int (nI (opP G ln (0) (7) (u0))), .int (opV G ln (0) (7) (u0))]) := by rw [eC_9, va_up, if_neg (by omega)]; exact gM4
      have h_11 : C_8 (39) = .inl (E.2.2.1 0, 80, .inl xt) := by rw [eC_9, va_up, if_neg (by omega)]; exact h_5
      have h_12 : C_8 (b) = .inr (0, [.int vb, .int rw0, .int (opV G ln (0) (7) (u0)), .int kd0, .int nb0]) := by rw [eC_9, va_up, if_pos rfl]
      refine y_iconst X (v := (1)) dX2_readName_20 (by decide) ?_
      exact y_zret X hr (by rfl) dX2_readName_21 rfl (by have g2 : opP G ln (0) 7 u0 = opP G ln (0) (7) (u0) := rfl; rw [g2]; have gO : opO G ln (0) 7 u0 := co4; exact ⟨congrArg (fun z => some (Value.int z)) (bI_1 gO).symm, ⟨_, _, h_10, h_12, fun _ => rfl⟩, (fun i9 g9 g8 => by rw [eC_9, va_up, if_neg (by omega)]; rw [gF4 i9 (by omega)])⟩)
    ·
      have c_7 := Decidable.of_not_not c_7
      exact absurd c_7 (by decide)
  ·
    rw [bI_0 co4] at gv4
    subst gv4
    have gb4 := opP_b (G := G) (lw := (0)) (mo := 7) (p := u0) (ln := ln) (by omega)
    have h_13 : C_2 (39) = .inl (E.2.2.1 0, 80, .inl xt) := (gF4 _ (by omega)).trans s1
    have h_14 : C_2 (b) = .inr (0, [.int vb, .int rw0, .int nm0, .int kd0, .int nb0]) := (gF4 _ (by omega)).trans sb
    refine y_if_ne X 12 (¬ ((0) = (0))) dX2_readName_7 (by decide) (cNe (nI_eq (a := 0) (b := 0) (by omega) (by omega))) (fun c_15 => ?_) (fun c_15 => ?_)
    ·
      exact absurd c_15 (by decide)
    ·
      have c_15 := Decidable.of_not_not c_15
      refine y_iconst X (v := (0)) dX2_readName_10 (by decide) ?_
      exact y_zret X hr (by rfl) dX2_readName_11 rfl (by have g2 : opP G ln (0) 7 u0 = opP G ln (0) (7) (u0) := rfl; rw [g2]; have gN : ¬ (opO G ln (0) 7 u0) := co4; exact ⟨congrArg (fun z => some (Value.int z)) (bI_0 gN).symm, ⟨_, _, gM4, h_14, fun z => absurd z gN⟩, (fun i9 g9 g8 => by rw [gF4 i9 (by omega)])⟩)

set_option maxRecDepth 100000 in
set_option maxHeartbeats 4000000 in
theorem c_X2_readRow {l : Launch} {E : xE} {C : xC} {G : Nat → Nat} {u0 ln : Nat} {cc nu : Int32} {xt : Nat → Int32} (gp : u0 ≤ ln) (gl80 : ln ≤ 80) (gX : ∀ z : Nat, z < ln → xt z = nI (G z)) (gG : ∀ z : Nat, z < ln → G z < 65536) (s0 : C (38) = .inr (2, [.ref (E.2.1 (39)), .int (nI (ln)), .ref (E.2.1 (40)), .int cc, .int (nI (u0)), .int nu])) (s1 : C (39) = .inl (E.2.2.1 0, 80, .inl xt)) {b : Nat} {vb rw0 nm0 kd0 nb0 : Int32} (gb : 41 ≤ b) (gb2 : b < 61) (sb : C (b) = .inr (0, [.int vb, .int rw0, .int nm0, .int kd0, .int nb0])) : xM E l yX2_readRow wsX2_readRow 3 65 [.ref (E.2.1 (38)), .ref (E.2.1 (b))] C (fun v C1 => v = some (.int (bI (opO G ln (0) 23 u0))) ∧ (∃ w2 nu2 : Int32, C1 (38) = .inr (2, [.ref (E.2.1 (39)), .int (nI (ln)), .ref (E.2.1 (40)), .int cc, .int (nI (opP G ln (0) 23 u0)), .int nu2]) ∧ C1 (b) = .inr (0, [.int vb, .int w2, .int nm0, .int kd0, .int nb0]) ∧ ((opO G ln (0) 23 u0) → w2 = opV G ln (0) 23 u0)) ∧ (∀ i : Nat, ¬ i = 38 → ¬ i = b → C1 i = C i)) := by
  refine xM_ofY (cc := cX2_readRow) (maxL := 2) (ret := (some .boolean)) (by decide) rfl (Nat.le_of_ble_eq_true rfl) ?_
  intro p e s m args below meth c X hr
  have inX0 : ∀ w ∈ wsX00, w ∈ wsX2_readRow := by decide +kernel
  have inX2 : ∀ w ∈ wsX20, w ∈ wsX2_readRow := by decide +kernel
  refine y_lv [(0, .ref (E.2.1 (38))), (1, .ref (E.2.1 (b)))] rfl ?_
  refine y_aload_n X dX2_readRow_0 0 rfl ?_
  refine y_iconst X (v := (0)) dX2_readRow_1 (by decide) ?_
  refine y_bipush X (v := (23)) dX2_readRow_2 (by decide) ?_
  refine y_callV X (38) 2 (av := [.int (0), .int (23)]) [] 2 (c_X2_readOperand (G := G) (u0 := u0) (by omega) gl80 gX gG s0 s1 (lw := (0)) (mo := 23) (by omega) (by decide)) (by omega) s0 rfl gX2_readRow_X2_readOperand rfl (by decide +kernel) rfl ⟨Nat.le_of_ble_eq_true rfl, Nat.le_of_ble_eq_true rfl⟩ ⟨Nat.zero_le _, Nat.zero_le _⟩ (Nat.le_of_ble_eq_true rfl) rfl dX2_readRow_4 (fun v_1 C_2 hp_3 => ?_)
  obtain ⟨gv4, ⟨vz4, gM4, gW4⟩, gF4⟩ := hp_3
  rcases Decidable.em (opO G ln (0) (23) (u0)) with co4 | co4
  ·
    rw [bI_1 co4] at gv4
    subst gv4
    have gY4 := gW4 co4
    subst gY4
    have gb4 := opP_b (G := G) (lw := (0)) (mo := 23) (p := u0) (ln := ln) (by omega)
    have h_5 : C_2 (39) = .inl (E.2.2.1 0, 80, .inl xt) := (gF4 _ (by omega)).trans s1
    have h_6 : C_2 (b) = .inr (0, [.int vb, .int rw0, .int nm0, .int kd0, .int nb0]) := (gF4 _ (by omega)).trans sb
    refine y_if_ne X 12 (¬ ((1) = (0))) dX2_readRow_7 (by decide) (cNe (nI_eq (a := 1) (b := 0) (by omega) (by omega))) (fun c_7 => ?_) (fun c_7 => ?_)
    ·
      refine y_aload_n X dX2_readRow_12 1 rfl ?_
      refine y_aload_n X dX2_readRow_13 0 rfl ?_
      refine y_get X (38) 2 5 (Cn := RX2) (T := TX2) (N := 6) (index := 31) (v := .int (opV G ln (0) (23) (u0))) dX2_readRow_14 (by omega) gM4 rfl (by decide) inX2 (by decide +kernel : Cond.fieldLink RX2 31 "ColumnSeasons$Script" "number" "I" ∈ wsX2_readRow) rfl rfl ?_
      refine y_putN X (b) 0 1 (Cn := RX0) (T := TX0) (N := 5) (index := 85) tyX0 (v := .int (opV G ln (0) (23) (u0))) dX2_readRow_17 (by omega) h_6 rfl (by decide) inX0 (by decide +kernel : Cond.fieldLinkNest RX2 85 "ColumnSeasons$Command" "row" "I" "ColumnSeasons" ∈ xnest) rfl tyX0_ok nmX0 rfl rfl rfl (Nat.le_of_ble_eq_true rfl) ?_
      refine y_mem (va_up C_2 (b) (.inr (0, [.int vb, .int (opV G ln (0) (23) (u0)), .int nm0, .int kd0, .int nb0]))) rfl (fun C_8 eC_9 => ?_)
      have h_10 : C_8 (38) = .inr (2, [.ref (E.2.1 (39)), .int (nI (ln)), .ref (E.2.1 (40)), .int cc, .int (nI (opP G ln (0) (23) (u0))), .int (opV G ln (0) (23) (u0))]) := by rw [eC_9, va_up, if_neg (by omega)]; exact gM4
      have h_11 : C_8 (39) = .inl (E.2.2.1 0, 80, .inl xt) := by rw [eC_9, va_up, if_neg (by omega)]; exact h_5
      have h_12 : C_8 (b) = .inr (0, [.int vb, .int (opV G ln (0) (23) (u0)), .int nm0, .int kd0, .int nb0]) := by rw [eC_9, va_up, if_pos rfl]
      refine y_iconst X (v := (1)) dX2_readRow_20 (by decide) ?_
      exact y_zret X hr (by rfl) dX2_readRow_21 rfl (by have g2 : opP G ln (0) 23 u0 = opP G ln (0) (23) (u0) := rfl; rw [g2]; have gO : opO G ln (0) 23 u0 := co4; exact ⟨congrArg (fun z => some (Value.int z)) (bI_1 gO).symm, ⟨_, _, h_10, h_12, fun _ => rfl⟩, (fun i9 g9 g8 => by rw [eC_9, va_up, if_neg (by omega)]; rw [gF4 i9 (by omega)])⟩)
    ·
      have c_7 := Decidable.of_not_not c_7
      exact absurd c_7 (by decide)
  ·
    rw [bI_0 co4] at gv4
    subst gv4
    have gb4 := opP_b (G := G) (lw := (0)) (mo := 23) (p := u0) (ln := ln) (by omega)
    have h_13 : C_2 (39) = .inl (E.2.2.1 0, 80, .inl xt) := (gF4 _ (by omega)).trans s1
    have h_14 : C_2 (b) = .inr (0, [.int vb, .int rw0, .int nm0, .int kd0, .int nb0]) := (gF4 _ (by omega)).trans sb
    refine y_if_ne X 12 (¬ ((0) = (0))) dX2_readRow_7 (by decide) (cNe (nI_eq (a := 0) (b := 0) (by omega) (by omega))) (fun c_15 => ?_) (fun c_15 => ?_)
    ·
      exact absurd c_15 (by decide)
    ·
      have c_15 := Decidable.of_not_not c_15
      refine y_iconst X (v := (0)) dX2_readRow_10 (by decide) ?_
      exact y_zret X hr (by rfl) dX2_readRow_11 rfl (by have g2 : opP G ln (0) 23 u0 = opP G ln (0) (23) (u0) := rfl; rw [g2]; have gN : ¬ (opO G ln (0) 23 u0) := co4; exact ⟨congrArg (fun z => some (Value.int z)) (bI_0 gN).symm, ⟨_, _, gM4, h_14, fun z => absurd z gN⟩, (fun i9 g9 g8 => by rw [gF4 i9 (by omega)])⟩)

set_option maxRecDepth 100000 in
set_option maxHeartbeats 4000000 in
theorem c_X2_readNumber {l : Launch} {E : xE} {C : xC} {G : Nat → Nat} {u0 ln : Nat} {cc nu : Int32} {xt : Nat → Int32} (gp : u0 ≤ ln) (gl80 : ln ≤ 80) (gX : ∀ z : Nat, z < ln → xt z = nI (G z)) (gG : ∀ z : Nat, z < ln → G z < 65536) (s0 : C (38) = .inr (2, [.ref (E.2.1 (39)), .int (nI (ln)), .ref (E.2.1 (40)), .int cc, .int (nI (u0)), .int nu])) (s1 : C (39) = .inl (E.2.2.1 0, 80, .inl xt)) {b : Nat} {vb rw0 nm0 kd0 nb0 : Int32} (gb : 41 ≤ b) (gb2 : b < 61) (sb : C (b) = .inr (0, [.int vb, .int rw0, .int nm0, .int kd0, .int nb0])) : xM E l yX2_readNumber wsX2_readNumber 3 65 [.ref (E.2.1 (38)), .ref (E.2.1 (b))] C (fun v C1 => v = some (.int (bI (opO G ln (-9999) 9999 u0))) ∧ (∃ w2 nu2 : Int32, C1 (38) = .inr (2, [.ref (E.2.1 (39)), .int (nI (ln)), .ref (E.2.1 (40)), .int cc, .int (nI (opP G ln (-9999) 9999 u0)), .int nu2]) ∧ C1 (b) = .inr (0, [.int vb, .int rw0, .int nm0, .int kd0, .int w2]) ∧ ((opO G ln (-9999) 9999 u0) → w2 = opV G ln (-9999) 9999 u0)) ∧ (∀ i : Nat, ¬ i = 38 → ¬ i = b → C1 i = C i)) := by
  refine xM_ofY (cc := cX2_readNumber) (maxL := 2) (ret := (some .boolean)) (by decide) rfl (Nat.le_of_ble_eq_true rfl) ?_
  intro p e s m args below meth c X hr
  have inX0 : ∀ w ∈ wsX00, w ∈ wsX2_readNumber := by decide +kernel
  have inX2 : ∀ w ∈ wsX20, w ∈ wsX2_readNumber := by decide +kernel
  refine y_lv [(0, .ref (E.2.1 (38))), (1, .ref (E.2.1 (b)))] rfl ?_
  refine y_aload_n X dX2_readNumber_0 0 rfl ?_
  refine y_sipush X (v := (-9999)) dX2_readNumber_1 (by decide) ?_
  refine y_sipush X (v := (9999)) dX2_readNumber_4 (by decide) ?_
  refine y_callV X (38) 2 (av := [.int (-9999), .int (9999)]) [] 2 (c_X2_readOperand (G := G) (u0 := u0) (by omega) gl80 gX gG s0 s1 (lw := (-9999)) (mo := 9999) (by omega) (by decide)) (by omega) s0 rfl gX2_readNumber_X2_readOperand rfl (by decide +kernel) rfl ⟨Nat.le_of_ble_eq_true rfl, Nat.le_of_ble_eq_true rfl⟩ ⟨Nat.zero_le _, Nat.zero_le _⟩ (Nat.le_of_ble_eq_true rfl) rfl dX2_readNumber_7 (fun v_1 C_2 hp_3 => ?_)
  obtain ⟨gv4, ⟨vz4, gM4, gW4⟩, gF4⟩ := hp_3
  rcases Decidable.em (opO G ln (-9999) (9999) (u0)) with co4 | co4
  ·
    rw [bI_1 co4] at gv4
    subst gv4
    have gY4 := gW4 co4
    subst gY4
    have gb4 := opP_b (G := G) (lw := (-9999)) (mo := 9999) (p := u0) (ln := ln) (by omega)
    have h_5 : C_2 (39) = .inl (E.2.2.1 0, 80, .inl xt) := (gF4 _ (by omega)).trans s1
    have h_6 : C_2 (b) = .inr (0, [.int vb, .int rw0, .int nm0, .int kd0, .int nb0]) := (gF4 _ (by omega)).trans sb
    refine y_if_ne X 15 (¬ ((1) = (0))) dX2_readNumber_10 (by decide) (cNe (nI_eq (a := 1) (b := 0) (by omega) (by omega))) (fun c_7 => ?_) (fun c_7 => ?_)
    ·
      refine y_aload_n X dX2_readNumber_15 1 rfl ?_
      refine y_aload_n X dX2_readNumber_16 0 rfl ?_
      refine y_get X (38) 2 5 (Cn := RX2) (T := TX2) (N := 6) (index := 31) (v := .int (opV G ln (-9999) (9999) (u0))) dX2_readNumber_17 (by omega) gM4 rfl (by decide) inX2 (by decide +kernel : Cond.fieldLink RX2 31 "ColumnSeasons$Script" "number" "I" ∈ wsX2_readNumber) rfl rfl ?_
      refine y_putN X (b) 0 4 (Cn := RX0) (T := TX0) (N := 5) (index := 87) tyX0 (v := .int (opV G ln (-9999) (9999) (u0))) dX2_readNumber_20 (by omega) h_6 rfl (by decide) inX0 (by decide +kernel : Cond.fieldLinkNest RX2 87 "ColumnSeasons$Command" "number" "I" "ColumnSeasons" ∈ xnest) rfl tyX0_ok nmX0 rfl rfl rfl (Nat.le_of_ble_eq_true rfl) ?_
      refine y_mem (va_up C_2 (b) (.inr (0, [.int vb, .int rw0, .int nm0, .int kd0, .int (opV G ln (-9999) (9999) (u0))]))) rfl (fun C_8 eC_9 => ?_)
      have h_10 : C_8 (38) = .inr (2, [.ref (E.2.1 (39)), .int (nI (ln)), .ref (E.2.1 (40)), .int cc, .int (nI (opP G ln (-9999) (9999) (u0))), .int (opV G ln (-9999) (9999) (u0))]) := by rw [eC_9, va_up, if_neg (by omega)]; exact gM4
      have h_11 : C_8 (39) = .inl (E.2.2.1 0, 80, .inl xt) := by rw [eC_9, va_up, if_neg (by omega)]; exact h_5
      have h_12 : C_8 (b) = .inr (0, [.int vb, .int rw0, .int nm0, .int kd0, .int (opV G ln (-9999) (9999) (u0))]) := by rw [eC_9, va_up, if_pos rfl]
      refine y_iconst X (v := (1)) dX2_readNumber_23 (by decide) ?_
      exact y_zret X hr (by rfl) dX2_readNumber_24 rfl (by have g2 : opP G ln (-9999) 9999 u0 = opP G ln (-9999) (9999) (u0) := rfl; rw [g2]; have gO : opO G ln (-9999) 9999 u0 := co4; exact ⟨congrArg (fun z => some (Value.int z)) (bI_1 gO).symm, ⟨_, _, h_10, h_12, fun _ => rfl⟩, (fun i9 g9 g8 => by rw [eC_9, va_up, if_neg (by omega)]; rw [gF4 i9 (by omega)])⟩)
    ·
      have c_7 := Decidable.of_not_not c_7
      exact absurd c_7 (by decide)
  ·
    rw [bI_0 co4] at gv4
    subst gv4
    have gb4 := opP_b (G := G) (lw := (-9999)) (mo := 9999) (p := u0) (ln := ln) (by omega)
    have h_13 : C_2 (39) = .inl (E.2.2.1 0, 80, .inl xt) := (gF4 _ (by omega)).trans s1
    have h_14 : C_2 (b) = .inr (0, [.int vb, .int rw0, .int nm0, .int kd0, .int nb0]) := (gF4 _ (by omega)).trans sb
    refine y_if_ne X 15 (¬ ((0) = (0))) dX2_readNumber_10 (by decide) (cNe (nI_eq (a := 0) (b := 0) (by omega) (by omega))) (fun c_15 => ?_) (fun c_15 => ?_)
    ·
      exact absurd c_15 (by decide)
    ·
      have c_15 := Decidable.of_not_not c_15
      refine y_iconst X (v := (0)) dX2_readNumber_13 (by decide) ?_
      exact y_zret X hr (by rfl) dX2_readNumber_14 rfl (by have g2 : opP G ln (-9999) 9999 u0 = opP G ln (-9999) (9999) (u0) := rfl; rw [g2]; have gN : ¬ (opO G ln (-9999) 9999 u0) := co4; exact ⟨congrArg (fun z => some (Value.int z)) (bI_0 gN).symm, ⟨_, _, gM4, h_14, fun z => absurd z gN⟩, (fun i9 g9 g8 => by rw [gF4 i9 (by omega)])⟩)

theorem greatest_N {l : Launch} {E : xE} {C : xC} {k : Nat} (h : k < 3) : xR E l yX4_greatestOfKind wsX4_greatestOfKind 0 0 [.int (nI k)] C (nI (hiN k)) := by
  rw [← hiK_N h]
  exact c_X4_greatestOfKind
theorem loK_neg {k : Nat} (h : k < 3) : (loK (nI k)).toInt < 0 → -(loK (nI k)) = nI (hiN k) := by
  rcases (by omega : k = 0 ∨ k = 1 ∨ k = 2) with q | q | q <;> subst q <;> decide

set_option maxRecDepth 100000 in
set_option maxHeartbeats 4000000 in
theorem c_X2_readDefault {l : Launch} {E : xE} {C : xC} {G : Nat → Nat} {u0 ln : Nat} {cc nu : Int32} {xt : Nat → Int32} (gp : u0 ≤ ln) (gl80 : ln ≤ 80) (gX : ∀ z : Nat, z < ln → xt z = nI (G z)) (gG : ∀ z : Nat, z < ln → G z < 65536) (s0 : C (38) = .inr (2, [.ref (E.2.1 (39)), .int (nI (ln)), .ref (E.2.1 (40)), .int cc, .int (nI (u0)), .int nu])) (s1 : C (39) = .inl (E.2.2.1 0, 80, .inl xt)) {b kd : Nat} {vb rw0 nm0 nb0 : Int32} (gb : 41 ≤ b) (gb2 : b < 61) (sb : C (b) = .inr (0, [.int vb, .int rw0, .int nm0, .int (nI (kd)), .int nb0])) (gkd : kd < 3) : xM E l yX2_readDefault wsX2_readDefault 3 65 [.ref (E.2.1 (38)), .ref (E.2.1 (b))] C (fun v C1 => v = some (.int (bI (dftO G ln kd u0))) ∧ (∃ w2 nu2 : Int32, C1 (38) = .inr (2, [.ref (E.2.1 (39)), .int (nI (ln)), .ref (E.2.1 (40)), .int cc, .int (nI (dftP G ln kd u0)), .int nu2]) ∧ C1 (b) = .inr (0, [.int vb, .int rw0, .int nm0, .int (nI (kd)), .int w2]) ∧ ((dftO G ln kd u0) → w2 = dftV G ln kd u0)) ∧ (∀ i : Nat, ¬ i = 38 → ¬ i = b → C1 i = C i)) := by
  refine xM_ofY (cc := cX2_readDefault) (maxL := 2) (ret := (some .boolean)) (by decide) rfl (Nat.le_of_ble_eq_true rfl) ?_
  intro p e s m args below meth c X hr
  have inX0 : ∀ w ∈ wsX00, w ∈ wsX2_readDefault := by decide +kernel
  have inX2 : ∀ w ∈ wsX20, w ∈ wsX2_readDefault := by decide +kernel
  refine y_lv [(0, .ref (E.2.1 (38))), (1, .ref (E.2.1 (b)))] rfl ?_
  have gh9 := hiN_le (k := kd)
  refine y_aload_n X dX2_readDefault_0 1 rfl ?_
  refine y_iconst X (v := (0)) dX2_readDefault_1 (by decide) ?_
  refine y_putN X (b) 0 4 (Cn := RX0) (T := TX0) (N := 5) (index := 87) tyX0 (v := .int (0)) dX2_readDefault_2 (by omega) sb rfl (by decide) inX0 (by decide +kernel : Cond.fieldLinkNest RX2 87 "ColumnSeasons$Command" "number" "I" "ColumnSeasons" ∈ xnest) rfl tyX0_ok nmX0 rfl rfl rfl (Nat.le_of_ble_eq_true rfl) ?_
  refine y_mem (va_up C (b) (.inr (0, [.int vb, .int rw0, .int nm0, .int (nI (kd)), .int (0)]))) rfl (fun C_1 eC_2 => ?_)
  have h_3 : C_1 (38) = .inr (2, [.ref (E.2.1 (39)), .int (nI (ln)), .ref (E.2.1 (40)), .int cc, .int (nI (u0)), .int nu]) := by rw [eC_2, va_up, if_neg (by omega)]; exact s0
  have h_4 : C_1 (39) = .inl (E.2.2.1 0, 80, .inl xt) := by rw [eC_2, va_up, if_neg (by omega)]; exact s1
  have h_5 : C_1 (b) = .inr (0, [.int vb, .int rw0, .int nm0, .int (nI (kd)), .int (0)]) := by rw [eC_2, va_up, if_pos rfl]
  refine y_aload_n X dX2_readDefault_5 0 rfl ?_
  refine y_bipush X (v := (32)) dX2_readDefault_6 (by decide) ?_
  refine y_callVr X (38) 2 (av := [.int (32)]) [] 1 (c_X2_isNext (G := G) (u0 := u0) (by omega) gl80 gX gG h_3 h_4 (c0 := 32) (by omega)) (by omega) h_3 rfl gX2_readDefault_X2_isNext rfl (by decide +kernel) rfl ⟨Nat.le_of_ble_eq_true rfl, Nat.le_of_ble_eq_true rfl⟩ ⟨Nat.zero_le _, Nat.zero_le _⟩ (Nat.le_of_ble_eq_true rfl) rfl dX2_readDefault_8 ?_
  refine y_if_ne X 16 (chA G ln (u0) (32)) dX2_readDefault_11 (by decide) bI_ne (fun c_6 => ?_) (fun c_6 => ?_)
  ·
    refine y_aload_n X dX2_readDefault_16 0 rfl ?_
    refine y_aload_n X dX2_readDefault_17 1 rfl ?_
    refine y_getN X (b) 0 3 (Cn := RX0) (T := TX0) (N := 5) (index := 88) (v := .int (nI (kd))) dX2_readDefault_18 (by omega) h_5 rfl (by decide) inX0 (by decide +kernel : Cond.fieldLinkNest RX2 88 "ColumnSeasons$Command" "kind" "I" "ColumnSeasons" ∈ xnest) rfl rfl ?_
    refine y_callNr X (av := [.int (nI (kd))]) [.ref (E.2.1 (38))] 1 (c_X4_leastOfKind (x := nI kd)) gX2_readDefault_X4_leastOfKind_n90 (by decide +kernel) (by decide +kernel) (by decide +kernel) rfl (by decide +kernel) rfl ⟨Nat.le_of_ble_eq_true rfl, Nat.le_of_ble_eq_true rfl⟩ ⟨Nat.zero_le _, Nat.zero_le _⟩ (Nat.le_of_ble_eq_true rfl) rfl dX2_readDefault_21 ?_
    refine y_aload_n X dX2_readDefault_24 1 rfl ?_
    refine y_getN X (b) 0 3 (Cn := RX0) (T := TX0) (N := 5) (index := 88) (v := .int (nI (kd))) dX2_readDefault_25 (by omega) h_5 rfl (by decide) inX0 (by decide +kernel : Cond.fieldLinkNest RX2 88 "ColumnSeasons$Command" "kind" "I" "ColumnSeasons" ∈ xnest) rfl rfl ?_
    refine y_callNr X (av := [.int (nI (kd))]) [.int (loK (nI kd)), .ref (E.2.1 (38))] 1 (greatest_N gkd) gX2_readDefault_X4_greatestOfKind_n94 (by decide +kernel) (by decide +kernel) (by decide +kernel) rfl (by decide +kernel) rfl ⟨Nat.le_of_ble_eq_true rfl, Nat.le_of_ble_eq_true rfl⟩ ⟨Nat.zero_le _, Nat.zero_le _⟩ (Nat.le_of_ble_eq_true rfl) rfl dX2_readDefault_28 ?_
    refine y_callV X (38) 2 (av := [.int (loK (nI kd)), .int (nI (hiN kd))]) [] 2 (c_X2_readOperand (G := G) (u0 := u0) (by omega) gl80 gX gG h_3 h_4 (lw := (loK (nI kd))) (mo := hiN kd) (by omega) (loK_neg gkd)) (by omega) h_3 rfl gX2_readDefault_X2_readOperand rfl (by decide +kernel) rfl ⟨Nat.le_of_ble_eq_true rfl, Nat.le_of_ble_eq_true rfl⟩ ⟨Nat.zero_le _, Nat.zero_le _⟩ (Nat.le_of_ble_eq_true rfl) rfl dX2_readDefault_31 (fun v_7 C_8 hp_9 => ?_)
    obtain ⟨gv10, ⟨vz10, gM10, gW10⟩, gF10⟩ := hp_9
    rcases Decidable.em (opO G ln (loK (nI kd)) (hiN kd) (u0)) with co10 | co10
    ·
      rw [bI_1 co10] at gv10
      subst gv10
      have gY10 := gW10 co10
      subst gY10
      have gb10 := opP_b (G := G) (lw := (loK (nI kd))) (mo := hiN kd) (p := u0) (ln := ln) (by omega)
      have h_11 : C_8 (39) = .inl (E.2.2.1 0, 80, .inl xt) := (gF10 _ (by omega)).trans h_4
      have h_12 : C_8 (b) = .inr (0, [.int vb, .int rw0, .int nm0, .int (nI (kd)), .int (0)]) := (gF10 _ (by omega)).trans h_5
      refine y_if_ne X 39 (¬ ((1) = (0))) dX2_readDefault_34 (by decide) (cNe (nI_eq (a := 1) (b := 0) (by omega) (by omega))) (fun c_13 => ?_) (fun c_13 => ?_)
      ·
        refine y_aload_n X dX2_readDefault_39 1 rfl ?_
        refine y_aload_n X dX2_readDefault_40 0 rfl ?_
        refine y_get X (38) 2 5 (Cn := RX2) (T := TX2) (N := 6) (index := 31) (v := .int (opV G ln (loK (nI kd)) (hiN kd) (u0))) dX2_readDefault_41 (by omega) gM10 rfl (by decide) inX2 (by decide +kernel : Cond.fieldLink RX2 31 "ColumnSeasons$Script" "number" "I" ∈ wsX2_readDefault) rfl rfl ?_
        refine y_putN X (b) 0 4 (Cn := RX0) (T := TX0) (N := 5) (index := 87) tyX0 (v := .int (opV G ln (loK (nI kd)) (hiN kd) (u0))) dX2_readDefault_44 (by omega) h_12 rfl (by decide) inX0 (by decide +kernel : Cond.fieldLinkNest RX2 87 "ColumnSeasons$Command" "number" "I" "ColumnSeasons" ∈ xnest) rfl tyX0_ok nmX0 rfl rfl rfl (Nat.le_of_ble_eq_true rfl) ?_
        refine y_mem (va_up C_8 (b) (.inr (0, [.int vb, .int rw0, .int nm0, .int (nI (kd)), .int (opV G ln (loK (nI kd)) (hiN kd) (u0))]))) rfl (fun C_14 eC_15 => ?_)
        have h_16 : C_14 (38) = .inr (2, [.ref (E.2.1 (39)), .int (nI (ln)), .ref (E.2.1 (40)), .int cc, .int (nI (opP G ln (loK (nI kd)) (hiN kd) (u0))), .int (opV G ln (loK (nI kd)) (hiN kd) (u0))]) := by rw [eC_15, va_up, if_neg (by omega)]; exact gM10
        have h_17 : C_14 (39) = .inl (E.2.2.1 0, 80, .inl xt) := by rw [eC_15, va_up, if_neg (by omega)]; exact h_11
        have h_18 : C_14 (b) = .inr (0, [.int vb, .int rw0, .int nm0, .int (nI (kd)), .int (opV G ln (loK (nI kd)) (hiN kd) (u0))]) := by rw [eC_15, va_up, if_pos rfl]
        refine y_iconst X (v := (1)) dX2_readDefault_47 (by decide) ?_
        exact y_zret X hr (by rfl) dX2_readDefault_48 rfl (by have g2 : dftP G ln kd u0 = opP G ln (loK (nI kd)) (hiN kd) (u0) := rfl; rw [g2]; have gO : dftO G ln kd u0 := (Or.inr co10); exact ⟨congrArg (fun z => some (Value.int z)) (bI_1 gO).symm, ⟨_, _, h_16, h_18, fun _ => (if_pos c_6 : dftV G ln kd u0 = _).symm⟩, (fun i9 g9 g8 => by rw [eC_15, va_up, if_neg (by omega)]; rw [gF10 i9 (by omega)]; rw [eC_2, va_up, if_neg (by omega)])⟩)
      ·
        have c_13 := Decidable.of_not_not c_13
        exact absurd c_13 (by decide)
    ·
      rw [bI_0 co10] at gv10
      subst gv10
      have gb10 := opP_b (G := G) (lw := (loK (nI kd))) (mo := hiN kd) (p := u0) (ln := ln) (by omega)
      have h_19 : C_8 (39) = .inl (E.2.2.1 0, 80, .inl xt) := (gF10 _ (by omega)).trans h_4
      have h_20 : C_8 (b) = .inr (0, [.int vb, .int rw0, .int nm0, .int (nI (kd)), .int (0)]) := (gF10 _ (by omega)).trans h_5
      refine y_if_ne X 39 (¬ ((0) = (0))) dX2_readDefault_34 (by decide) (cNe (nI_eq (a := 0) (b := 0) (by omega) (by omega))) (fun c_21 => ?_) (fun c_21 => ?_)
      ·
        exact absurd c_21 (by decide)
      ·
        have c_21 := Decidable.of_not_not c_21
        refine y_iconst X (v := (0)) dX2_readDefault_37 (by decide) ?_
        exact y_zret X hr (by rfl) dX2_readDefault_38 rfl (by have g2 : dftP G ln kd u0 = opP G ln (loK (nI kd)) (hiN kd) (u0) := rfl; rw [g2]; have gN : ¬ (dftO G ln kd u0) := (fun z => z.elim (fun z2 => z2 c_6) co10); exact ⟨congrArg (fun z => some (Value.int z)) (bI_0 gN).symm, ⟨_, _, gM10, h_20, fun z => absurd z gN⟩, (fun i9 g9 g8 => by rw [gF10 i9 (by omega)]; rw [eC_2, va_up, if_neg (by omega)])⟩)
  ·
    refine y_iconst X (v := (1)) dX2_readDefault_14 (by decide) ?_
    exact y_zret X hr (by rfl) dX2_readDefault_15 rfl (by have g2 : dftP G ln kd u0 = u0 := if_neg c_6; rw [g2]; have gO : dftO G ln kd u0 := (Or.inl c_6); exact ⟨congrArg (fun z => some (Value.int z)) (bI_1 gO).symm, ⟨_, _, h_3, h_5, fun _ => (if_neg c_6 : dftV G ln kd u0 = 0).symm⟩, (fun i9 g9 g8 => by rw [eC_2, va_up, if_neg (by omega)])⟩)
