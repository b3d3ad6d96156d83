theorem narC {n : Nat} (h : n < 128) : narrow .char (.int (nI n)) = .int (nI n) := by
  have e : ∀ k : Nat, k < 128 → (nI k).toUInt32 % 65536 = (nI k).toUInt32 := by decide +kernel
  show Value.int (vp_nar .char (nI n)) = _
  rw [vp_char ⟨by rw [nI_toInt (by omega)]; omega, by rw [nI_toInt (by omega)]; omega⟩]

set_option maxRecDepth 100000 in
set_option maxHeartbeats 4000000 in
theorem c_J0_coder_7d493 {l : Launch} {E : xE} {C : xC} {k9 : Nat} (gk9 : k9 < 8) : xR E l yJ0_coder_7d493 wsJ0_coder_7d493 0 0 [.ref (E.2.2.2.1 (k9))] C (0) := by
  refine xM_ofY (cc := cJ0_coder_7d493) (maxL := 1) (ret := (some .byte)) (by decide) rfl (Nat.le_of_ble_eq_true rfl) ?_
  intro p e s m args below meth c X hr
  refine y_lv [(0, .ref (E.2.2.2.1 (k9)))] rfl ?_
  refine y_getsC X dJ0_coder_7d493_0 (by decide +kernel : Cond.fieldLink RJ0 38 "java/lang/String" "COMPACT_STRINGS" "Z" ∈ wsJ0_coder_7d493) ?_
  refine y_if_eq X 13 ((1) = (0)) dJ0_coder_7d493_3 (by decide) (nI_eq (a := 1) (b := 0) (by omega) (by omega)) (fun c_1 => ?_) (fun c_1 => ?_)
  ·
    exact absurd c_1 (by decide)
  ·
    refine y_aload_n X dJ0_coder_7d493_6 0 rfl ?_
    refine y_getfC X (k9) gk9 dJ0_coder_7d493_7 (by decide +kernel : Cond.fieldLink RJ0 15 "java/lang/String" "coder" "B" ∈ wsJ0_coder_7d493) ?_
    refine y_goto X 14 dJ0_coder_7d493_10 (by decide) ?_
    exact y_zret X hr (by rfl) dJ0_coder_7d493_14 rfl ⟨rfl, rfl⟩

set_option maxRecDepth 100000 in
set_option maxHeartbeats 4000000 in
theorem c_J0_isLatin1_aae02 {l : Launch} {E : xE} {C : xC} {k9 : Nat} (gk9 : k9 < 8) : xR E l yJ0_isLatin1_aae02 wsJ0_isLatin1_aae02 0 0 [.ref (E.2.2.2.1 (k9))] C (1) := by
  refine xM_ofY (cc := cJ0_isLatin1_aae02) (maxL := 1) (ret := (some .boolean)) (by decide) rfl (Nat.le_of_ble_eq_true rfl) ?_
  intro p e s m args below meth c X hr
  refine y_lv [(0, .ref (E.2.2.2.1 (k9)))] rfl ?_
  refine y_getsC X dJ0_isLatin1_aae02_0 (by decide +kernel : Cond.fieldLink RJ0 38 "java/lang/String" "COMPACT_STRINGS" "Z" ∈ wsJ0_isLatin1_aae02) ?_
  refine y_if_eq X 17 ((1) = (0)) dJ0_isLatin1_aae02_3 (by decide) (nI_eq (a := 1) (b := 0) (by omega) (by omega)) (fun c_1 => ?_) (fun c_1 => ?_)
  ·
    exact absurd c_1 (by decide)
  ·
    refine y_aload_n X dJ0_isLatin1_aae02_6 0 rfl ?_
    refine y_getfC X (k9) gk9 dJ0_isLatin1_aae02_7 (by decide +kernel : Cond.fieldLink RJ0 15 "java/lang/String" "coder" "B" ∈ wsJ0_isLatin1_aae02) ?_
    refine y_if_ne X 17 (¬ ((0) = (0))) dJ0_isLatin1_aae02_10 (by decide) (cNe (nI_eq (a := 0) (b := 0) (by omega) (by omega))) (fun c_2 => ?_) (fun c_2 => ?_)
    ·
      exact absurd c_2 (by decide)
    ·
      have c_2 := Decidable.of_not_not c_2
      refine y_iconst X (v := (1)) dJ0_isLatin1_aae02_13 (by decide) ?_
      refine y_goto X 18 dJ0_isLatin1_aae02_14 (by decide) ?_
      exact y_zret X hr (by rfl) dJ0_isLatin1_aae02_18 rfl ⟨rfl, rfl⟩

set_option maxRecDepth 100000 in
set_option maxHeartbeats 4000000 in
theorem c_J0_length_8abf5 {l : Launch} {E : xE} {C : xC} {k9 : Nat} (gk9 : k9 < 8) : xR E l yJ0_length_8abf5 wsJ0_length_8abf5 1 20 [.ref (E.2.2.2.1 (k9))] C (nI (xlen.getD k9 0)) := by
  refine xM_ofY (cc := cJ0_length_8abf5) (maxL := 1) (ret := (some .int)) (by decide) rfl (Nat.le_of_ble_eq_true rfl) ?_
  intro p e s m args below meth c X hr
  refine y_lv [(0, .ref (E.2.2.2.1 (k9)))] rfl ?_
  refine y_aload_n X dJ0_length_8abf5_0 0 rfl ?_
  refine y_getfV X (k9) gk9 dJ0_length_8abf5_1 (by decide +kernel : Cond.fieldLink RJ0 9 "java/lang/String" "value" "[B" ∈ wsJ0_length_8abf5) ?_
  refine y_tlenS X (k9) gk9 dJ0_length_8abf5_4 ?_
  refine y_aload_n X dJ0_length_8abf5_5 0 rfl ?_
  refine y_callKr X (k9) gk9 (av := []) [.int (nI (xlen.getD k9 0))] 0 (c_J0_coder_7d493 gk9) gJ0_length_8abf5_J0_coder_7d493 rfl (by decide +kernel) rfl ⟨Nat.le_of_ble_eq_true rfl, Nat.le_of_ble_eq_true rfl⟩ ⟨Nat.zero_le _, Nat.zero_le _⟩ (Nat.le_of_ble_eq_true rfl) rfl dJ0_length_8abf5_6 ?_
  refine y_ishr X (z := (nI (xlen.getD k9 0))) dJ0_length_8abf5_9 (shr_0 _ (xlen_31 _ gk9)) ?_
  exact y_iret X hr dJ0_length_8abf5_10 rfl ⟨rfl, rfl⟩

set_option maxRecDepth 100000 in
set_option maxHeartbeats 4000000 in
theorem c_J3n {l : Launch} {E : xE} {C : xC} {j0 n0 : Nat} (gj : j0 < n0) (gn : n0 < 2 ^ 20) : xR E l yJ3_checkIndex_8e157 wsJ3_checkIndex_8e157 0 0 [.int (nI (j0)), .int (nI (n0)), .null] C (nI j0) := by
  refine xM_ofY (cc := cJ3_checkIndex_8e157) (maxL := 3) (ret := (some .int)) (by decide) rfl (Nat.le_of_ble_eq_true rfl) ?_
  intro p e s m args below meth c X hr
  refine y_lv [(0, .int (nI (j0))), (1, .int (nI (n0))), (2, .null)] rfl ?_
  refine y_iload_n X dJ3_checkIndex_8e157_0 0 rfl ?_
  refine y_if_lt X 9 ((j0) < (0)) dJ3_checkIndex_8e157_1 (by decide) (nI_ltI (a := j0) (b := 0) (by omega) (by omega)) (fun c_1 => ?_) (fun c_1 => ?_)
  ·
    exact absurd c_1 (by omega)
  ·
    refine y_iload_n X dJ3_checkIndex_8e157_4 0 rfl ?_
    refine y_iload_n X dJ3_checkIndex_8e157_5 1 rfl ?_
    refine y_icmp_lt X 16 ((j0) < (n0)) dJ3_checkIndex_8e157_6 (by decide) (nI_ltI (a := j0) (b := n0) (by omega) (by omega)) (fun c_2 => ?_) (fun c_2 => ?_)
    ·
      refine y_iload_n X dJ3_checkIndex_8e157_16 0 rfl ?_
      exact y_iret X hr dJ3_checkIndex_8e157_17 rfl ⟨rfl, rfl⟩
    ·
      exact absurd c_2 (by omega)

set_option maxRecDepth 100000 in
set_option maxHeartbeats 4000000 in
theorem c_J3r {l : Launch} {E : xE} {C : xC} {j0 n0 : Nat} (gj : j0 < n0) (gn : n0 < 2 ^ 20) {t9 : Nat} : xR E l yJ3_checkIndex_8e157 wsJ3_checkIndex_8e157 0 0 [.int (nI (j0)), .int (nI (n0)), (.ref t9)] C (nI j0) := by
  refine xM_ofY (cc := cJ3_checkIndex_8e157) (maxL := 3) (ret := (some .int)) (by decide) rfl (Nat.le_of_ble_eq_true rfl) ?_
  intro p e s m args below meth c X hr
  refine y_lv [(0, .int (nI (j0))), (1, .int (nI (n0))), (2, (.ref t9))] rfl ?_
  refine y_iload_n X dJ3_checkIndex_8e157_0 0 rfl ?_
  refine y_if_lt X 9 ((j0) < (0)) dJ3_checkIndex_8e157_1 (by decide) (nI_ltI (a := j0) (b := 0) (by omega) (by omega)) (fun c_1 => ?_) (fun c_1 => ?_)
  ·
    exact absurd c_1 (by omega)
  ·
    refine y_iload_n X dJ3_checkIndex_8e157_4 0 rfl ?_
    refine y_iload_n X dJ3_checkIndex_8e157_5 1 rfl ?_
    refine y_icmp_lt X 16 ((j0) < (n0)) dJ3_checkIndex_8e157_6 (by decide) (nI_ltI (a := j0) (b := n0) (by omega) (by omega)) (fun c_2 => ?_) (fun c_2 => ?_)
    ·
      refine y_iload_n X dJ3_checkIndex_8e157_16 0 rfl ?_
      exact y_iret X hr dJ3_checkIndex_8e157_17 rfl ⟨rfl, rfl⟩
    ·
      exact absurd c_2 (by omega)

set_option maxRecDepth 100000 in
set_option maxHeartbeats 4000000 in
theorem c_J0_checkIndex_df160 {l : Launch} {E : xE} {C : xC} {j0 n0 : Nat} (gj : j0 < n0) (gn : n0 < 2 ^ 20) : xM E l yJ0_checkIndex_df160 wsJ0_checkIndex_df160 1 22 [.int (nI (j0)), .int (nI (n0))] C (fun v C1 => v = none ∧ C1 = C) := by
  refine xM_ofY (cc := cJ0_checkIndex_df160) (maxL := 2) (ret := none) (by decide) rfl (Nat.le_of_ble_eq_true rfl) ?_
  intro p e s m args below meth c X hr
  refine y_lv [(0, .int (nI (j0))), (1, .int (nI (n0)))] rfl ?_
  refine y_iload_n X dJ0_checkIndex_df160_0 0 rfl ?_
  refine y_iload_n X dJ0_checkIndex_df160_1 1 rfl ?_
  refine y_getsP X dJ0_checkIndex_df160_2 (by decide +kernel : Cond.fieldLink RJ0 1053 "jdk/internal/util/Preconditions" "SIOOBE_FORMATTER" "Ljava/util/function/BiFunction;" ∈ wsJ0_checkIndex_df160) (fun v9 gv9 => ?_)
  rcases gv9 with gv9 | ⟨t9, gv9⟩
  ·
    subst gv9
    refine y_callJr X (av := [.int (nI (j0)), .int (nI (n0)), .null]) [] 3 (c_J3n gj gn) gJ0_checkIndex_df160_J3_checkIndex_8e157 rfl (by decide +kernel) rfl ⟨Nat.le_of_ble_eq_true rfl, Nat.le_of_ble_eq_true rfl⟩ ⟨Nat.zero_le _, Nat.zero_le _⟩ (Nat.le_of_ble_eq_true rfl) rfl dJ0_checkIndex_df160_5 ?_
    refine y_pop X dJ0_checkIndex_df160_8 rfl ?_
    exact y_vret X hr dJ0_checkIndex_df160_9 rfl ⟨rfl, rfl⟩
  ·
    subst gv9
    refine y_callJr X (av := [.int (nI (j0)), .int (nI (n0)), (.ref t9)]) [] 3 (c_J3r gj gn) gJ0_checkIndex_df160_J3_checkIndex_8e157 rfl (by decide +kernel) rfl ⟨Nat.le_of_ble_eq_true rfl, Nat.le_of_ble_eq_true rfl⟩ ⟨Nat.zero_le _, Nat.zero_le _⟩ (Nat.le_of_ble_eq_true rfl) rfl dJ0_checkIndex_df160_5 ?_
    refine y_pop X dJ0_checkIndex_df160_8 rfl ?_
    exact y_vret X hr dJ0_checkIndex_df160_9 rfl ⟨rfl, rfl⟩

set_option maxRecDepth 100000 in
set_option maxHeartbeats 4000000 in
theorem c_J1_charAt_3b067 {l : Launch} {E : xE} {C : xC} {k9 : Nat} (gk9 : k9 < 8) {j0 : Nat} (gj : j0 < xlen.getD k9 0) : xR E l yJ1_charAt_3b067 wsJ1_charAt_3b067 2 43 [.ref (E.2.2.2.2 (k9)), .int (nI (j0))] C (nI (chN k9 j0)) := by
  have gx9 := xlen_31 k9 gk9
  have gc9 := chN_lt k9 gk9 j0 (by omega)
  refine xM_ofY (cc := cJ1_charAt_3b067) (maxL := 2) (ret := (some .char)) (by decide) rfl (Nat.le_of_ble_eq_true rfl) ?_
  intro p e s m args below meth c X hr
  refine y_lv [(0, .ref (E.2.2.2.2 (k9))), (1, .int (nI (j0)))] rfl ?_
  refine y_iload_n X dJ1_charAt_3b067_0 1 rfl ?_
  refine y_aload_n X dJ1_charAt_3b067_1 0 rfl ?_
  refine y_tlenS X (k9) gk9 dJ1_charAt_3b067_2 ?_
  refine y_callJ X (av := [.int (nI (j0)), .int (nI (xlen.getD k9 0))]) [] 2 (c_J0_checkIndex_df160 gj (by omega)) gJ1_charAt_3b067_J0_checkIndex_df160 rfl (by decide +kernel) rfl ⟨Nat.le_of_ble_eq_true rfl, Nat.le_of_ble_eq_true rfl⟩ ⟨Nat.zero_le _, Nat.zero_le _⟩ (Nat.le_of_ble_eq_true rfl) rfl dJ1_charAt_3b067_3 (fun v9 C9 hp9 => ?_)
  obtain ⟨ev9, eC9⟩ := hp9
  subst ev9
  subst eC9
  refine y_aload_n X dJ1_charAt_3b067_6 0 rfl ?_
  refine y_iload_n X dJ1_charAt_3b067_7 1 rfl ?_
  refine y_tbS X (k9) gk9 (j := j0) dJ1_charAt_3b067_8 rfl gj (by omega) ?_
  refine y_sipush X (v := (255)) dJ1_charAt_3b067_9 (by decide) ?_
  refine y_iand X (z := (((xbyt.getD k9 []).getD (j0) 0) &&& (255))) dJ1_charAt_3b067_12 rfl ?_
  refine y_i2c X (z := (nI (chN k9 j0))) dJ1_charAt_3b067_13 (chN_is k9 gk9 j0 (by omega)) ?_
  exact y_zret X hr (narC gc9) dJ1_charAt_3b067_14 rfl ⟨rfl, rfl⟩

set_option maxRecDepth 100000 in
set_option maxHeartbeats 4000000 in
theorem c_J0_charAt_5068e {l : Launch} {E : xE} {C : xC} {k9 : Nat} (gk9 : k9 < 8) {j0 : Nat} (gj : j0 < xlen.getD k9 0) : xR E l yJ0_charAt_5068e wsJ0_charAt_5068e 3 64 [.ref (E.2.2.2.1 (k9)), .int (nI (j0))] C (nI (chN k9 j0)) := by
  have gx9 := xlen_31 k9 gk9
  have gc9 := chN_lt k9 gk9 j0 (by omega)
  refine xM_ofY (cc := cJ0_charAt_5068e) (maxL := 2) (ret := (some .char)) (by decide) rfl (Nat.le_of_ble_eq_true rfl) ?_
  intro p e s m args below meth c X hr
  refine y_lv [(0, .ref (E.2.2.2.1 (k9))), (1, .int (nI (j0)))] rfl ?_
  refine y_aload_n X dJ0_charAt_5068e_0 0 rfl ?_
  refine y_callKr X (k9) gk9 (av := []) [] 0 (c_J0_isLatin1_aae02 gk9) gJ0_charAt_5068e_J0_isLatin1_aae02 rfl (by decide +kernel) rfl ⟨Nat.le_of_ble_eq_true rfl, Nat.le_of_ble_eq_true rfl⟩ ⟨Nat.zero_le _, Nat.zero_le _⟩ (Nat.le_of_ble_eq_true rfl) rfl dJ0_charAt_5068e_1 ?_
  refine y_if_eq X 16 ((1) = (0)) dJ0_charAt_5068e_4 (by decide) (nI_eq (a := 1) (b := 0) (by omega) (by omega)) (fun c_1 => ?_) (fun c_1 => ?_)
  ·
    exact absurd c_1 (by decide)
  ·
    refine y_aload_n X dJ0_charAt_5068e_7 0 rfl ?_
    refine y_getfV X (k9) gk9 dJ0_charAt_5068e_8 (by decide +kernel : Cond.fieldLink RJ0 9 "java/lang/String" "value" "[B" ∈ wsJ0_charAt_5068e) ?_
    refine y_iload_n X dJ0_charAt_5068e_11 1 rfl ?_
    refine y_callJr X (av := [.ref (E.2.2.2.2 (k9)), .int (nI (j0))]) [] 2 (c_J1_charAt_3b067 gk9 gj) gJ0_charAt_5068e_J1_charAt_3b067 rfl (by decide +kernel) rfl ⟨Nat.le_of_ble_eq_true rfl, Nat.le_of_ble_eq_true rfl⟩ ⟨Nat.zero_le _, Nat.zero_le _⟩ (Nat.le_of_ble_eq_true rfl) rfl dJ0_charAt_5068e_12 ?_
    exact y_zret X hr (narC gc9) dJ0_charAt_5068e_15 rfl ⟨rfl, rfl⟩

set_option maxRecDepth 100000 in
set_option maxHeartbeats 4000000 in
theorem c_X2_readWord {l : Launch} {E : xE} {C : xC} {G : Nat → Nat} {u0 ln : Nat} {cc nu : Int32} {xt : Nat → Int32} (gp : u0 ≤ ln) (gl80 : ln ≤ 80) (gX : ∀ z : Nat, z < ln → xt z = nI (G z)) (gG : ∀ z : Nat, z < ln → G z < 65536) (s0 : C (38) = .inr (2, [.ref (E.2.1 (39)), .int (nI (ln)), .ref (E.2.1 (40)), .int cc, .int (nI (u0)), .int nu])) (s1 : C (39) = .inl (E.2.2.1 0, 80, .inl xt)) {k9 : Nat} (gk9 : k9 < 8) : xM E l yX2_readWord wsX2_readWord 4 85 [.ref (E.2.1 (38)), .ref (E.2.2.2.1 (k9))] C (fun v C1 => v = some (.int (bI (wdO G ln (wlk k9) u0))) ∧ C1 (38) = .inr (2, [.ref (E.2.1 (39)), .int (nI (ln)), .ref (E.2.1 (40)), .int cc, .int (nI (wdP G ln (wlk k9) u0)), .int nu]) ∧ (∀ i : Nat, ¬ i = 38 → C1 i = C i)) := by
  have gx9 := xlen_31 k9 gk9
  have gw9 := xlen_wl k9 gk9
  refine xM_ofY (cc := cX2_readWord) (maxL := 3) (ret := (some .boolean)) (by decide) rfl (Nat.le_of_ble_eq_true rfl) ?_
  intro p e s m args below meth c X hr
  refine y_lv [(0, .ref (E.2.1 (38))), (1, .ref (E.2.2.2.1 (k9)))] rfl ?_
  refine y_iconst X (v := (0)) dX2_readWord_0 (by decide) ?_
  refine y_istore_n X [(2, .int (0)), (0, .ref (E.2.1 (38))), (1, .ref (E.2.2.2.1 (k9)))] dX2_readWord_1 rfl (by decide) rfl ?_
  have L_2 : ∀ (n : Nat) (C2 : xC) (i : Nat), (wlk k9).length - i < n → (C2 (38) = .inr (2, [.ref (E.2.1 (39)), .int (nI (ln)), .ref (E.2.1 (40)), .int cc, .int (nI (u0 + i)), .int nu])) → (C2 (39) = .inl (E.2.2.1 0, 80, .inl xt)) → (∀ i9 : Nat, ¬ i9 = 38 → C2 i9 = C i9) → (i ≤ (wlk k9).length ∧ u0 + i ≤ ln) → (wdP G ln ((wlk k9).drop i) (u0 + i) = wdP G ln (wlk k9) u0) → (wdO G ln ((wlk k9).drop i) (u0 + i) ↔ wdO G ln (wlk k9) u0) → xY p l e ({ frames := 4, cells := 0, slots := 0, locals := 85 } : Room) s m args below meth c E (xA E) 3 0 0 (MQ below (xQ E (fun v C1 => v = some (.int (bI (wdO G ln (wlk k9) u0))) ∧ C1 (38) = .inr (2, [.ref (E.2.1 (39)), .int (nI (ln)), .ref (E.2.1 (40)), .int cc, .int (nI (wdP G ln (wlk k9) u0)), .int nu]) ∧ (∀ i : Nat, ¬ i = 38 → C1 i = C i))) args s 0 0 (xA E)) C2 2 [(0, .ref (E.2.1 (38))), (1, .ref (E.2.2.2.1 (k9))), (2, .int (nI (i)))] [] := by
    intro n2
    induction n2 with
    | zero => intro _ _ hm2; exact absurd hm2 (Nat.not_lt_zero _)
    | succ n2 ih2 =>
      intro C2 i hm2 k0 k1 gF2 gi gP gO
      refine y_iload_n X dX2_readWord_2 2 rfl ?_
      refine y_aload_n X dX2_readWord_3 1 rfl ?_
      refine y_callKr X (k9) gk9 (av := []) [.int (nI (i))] 0 (c_J0_length_8abf5 gk9) gX2_readWord_J0_length_8abf5 rfl (by decide +kernel) rfl ⟨Nat.le_of_ble_eq_true rfl, Nat.le_of_ble_eq_true rfl⟩ ⟨Nat.zero_le _, Nat.zero_le _⟩ (Nat.le_of_ble_eq_true rfl) rfl dX2_readWord_4 ?_
      refine y_icmp_ge X 30 ((xlen.getD k9 0) ≤ (i)) dX2_readWord_7 (by decide) (nI_leI (a := xlen.getD k9 0) (b := i) (by omega) (by omega)) (fun c_1 => ?_) (fun c_1 => ?_)
      ·
        refine y_iconst X (v := (1)) dX2_readWord_30 (by decide) ?_
        exact y_zret X hr (by rfl) dX2_readWord_31 rfl (by have ei : (wlk k9).drop i = [] := List.drop_eq_nil_iff.mpr (by omega); rw [ei] at gP gO; have g2 : wdP G ln (wlk k9) u0 = u0 + i := (by rw [← gP, wdP]); have gY : wdO G ln (wlk k9) u0 := gO.mp (wdO_nil.mpr trivial); rw [g2]; exact ⟨congrArg (fun z => some (Value.int z)) (bI_1 gY).symm, k0, (fun i9 g9 => by rw [gF2 i9 g9])⟩)
      ·
        have gc9 := chN_lt k9 gk9 i (by omega)
        refine y_aload_n X dX2_readWord_10 0 rfl ?_
        refine y_aload_n X dX2_readWord_11 1 rfl ?_
        refine y_iload_n X dX2_readWord_12 2 rfl ?_
        refine y_callKr X (k9) gk9 (av := [.int (nI (i))]) [.ref (E.2.1 (38))] 1 (c_J0_charAt_5068e gk9 (by omega)) gX2_readWord_J0_charAt_5068e rfl (by decide +kernel) rfl ⟨Nat.le_of_ble_eq_true rfl, Nat.le_of_ble_eq_true rfl⟩ ⟨Nat.zero_le _, Nat.zero_le _⟩ (Nat.le_of_ble_eq_true rfl) rfl dX2_readWord_13 ?_
        refine y_callV X (38) 2 (av := [.int (nI (chN k9 i))]) [] 1 (c_X2_readSign (G := G) (u0 := u0 + i) (by omega) gl80 gX gG k0 k1 (c0 := chN k9 i) (by omega)) (by omega) k0 rfl gX2_readWord_X2_readSign rfl (by decide +kernel) rfl ⟨Nat.le_of_ble_eq_true rfl, Nat.le_of_ble_eq_true rfl⟩ ⟨Nat.zero_le _, Nat.zero_le _⟩ (Nat.le_of_ble_eq_true rfl) rfl dX2_readWord_16 (fun v_2 C_3 hp_4 => ?_)
        obtain ⟨gv5, gM5, gF5⟩ := hp_4
        rcases Decidable.em (chA G ln (u0 + i) (chN k9 i)) with cs5 | cs5
        ·
          rw [bI_1 cs5] at gv5
          subst gv5
          rw [if_pos cs5] at gM5
          have gb5 := cs5.1
          have h_6 : C_3 (39) = .inl (E.2.2.1 0, 80, .inl xt) := (gF5 _ (by omega)).trans k1
          refine y_if_ne X 24 (¬ ((1) = (0))) dX2_readWord_19 (by decide) (cNe (nI_eq (a := 1) (b := 0) (by omega) (by omega))) (fun c_7 => ?_) (fun c_7 => ?_)
          ·
            refine y_iinc X [(2, .int (nI (i + 1))), (0, .ref (E.2.1 (38))), (1, .ref (E.2.2.2.1 (k9)))] dX2_readWord_24 2 rfl (nI_1 _) (by decide) rfl ?_
            refine y_goto X 2 dX2_readWord_27 (by decide) ?_
            refine y_pick [1, 2, 0] [(0, .ref (E.2.1 (38))), (1, .ref (E.2.2.2.1 (k9))), (2, .int (nI (i + 1)))] rfl ?_
            exact ih2 (C_3) (i + 1) (by omega) gM5 h_6 (fun i9 g9 => by rw [gF5 i9 (by omega)]; rw [gF2 i9 g9]) (by omega) (by rw [← gP, wl_step k9 gk9 i (by omega), wdP, if_pos cs5]; rfl) (by rw [← gO, wl_step k9 gk9 i (by omega), wdO_cons]; exact ⟨fun z => ⟨cs5, z⟩, fun z => z.2⟩)
          ·
            have c_7 := Decidable.of_not_not c_7
            exact absurd c_7 (by decide)
        ·
          rw [bI_0 cs5] at gv5
          subst gv5
          rw [if_neg cs5] at gM5
          have h_8 : C_3 (39) = .inl (E.2.2.1 0, 80, .inl xt) := (gF5 _ (by omega)).trans k1
          refine y_if_ne X 24 (¬ ((0) = (0))) dX2_readWord_19 (by decide) (cNe (nI_eq (a := 0) (b := 0) (by omega) (by omega))) (fun c_9 => ?_) (fun c_9 => ?_)
          ·
            exact absurd c_9 (by decide)
          ·
            have c_9 := Decidable.of_not_not c_9
            refine y_iconst X (v := (0)) dX2_readWord_22 (by decide) ?_
            exact y_zret X hr (by rfl) dX2_readWord_23 rfl (by have gst := wl_step k9 gk9 i (by omega); have g2 : wdP G ln (wlk k9) u0 = u0 + i := (by rw [← gP, gst, wdP]; exact if_neg cs5); have gN : ¬ wdO G ln (wlk k9) u0 := (fun z => by have z2 := gO.mpr z; rw [gst] at z2; exact cs5 (wdO_cons.mp z2).1); rw [g2]; exact ⟨congrArg (fun z => some (Value.int z)) (bI_0 gN).symm, gM5, (fun i9 g9 => by rw [gF5 i9 (by omega)]; rw [gF2 i9 g9])⟩)
  refine y_pick [1, 2, 0] [(0, .ref (E.2.1 (38))), (1, .ref (E.2.2.2.1 (k9))), (2, .int (0))] rfl ?_
  exact L_2 _ (C) (0) (Nat.lt_succ_self _) s0 s1 (fun _ _ => rfl) (by omega) rfl Iff.rfl
