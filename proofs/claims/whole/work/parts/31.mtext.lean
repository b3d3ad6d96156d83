set_option maxRecDepth 100000 in
set_option maxHeartbeats 4000000 in
theorem c_X5_isKind {l : Launch} {E : xE} {C : xC} {G : Nat → Nat} {u0 hn ln tl : Nat} {fl so se va : Int32} {zx : Nat → Int32} (gp : u0 ≤ ln) (gl80 : ln ≤ 80) (gX : ∀ z : Nat, z < ln → zx z = nI (G z)) (gG : ∀ z : Nat, z < ln → G z < 65536) (m0 : C (61) = .inr (5, [.ref (E.2.1 (62)), .ref (E.2.1 (63)), .ref (E.2.1 (64)), .int (nI (hn)), .ref (E.2.1 (65)), .int fl, .ref (E.2.1 (66)), .int (nI (ln)), .int (nI (u0)), .int va, .int so, .int se, .ref (E.2.1 (67)), .int (nI (tl))])) (m6 : C (66) = .inl (E.2.2.1 1, 80, .inl zx)) : xM E l yX5_isKind wsX5_isKind 4 91 [.ref (E.2.1 (61))] C (fun v C1 => v = some (.int (bI (kdO G ln u0))) ∧ (∃ va2 : Int32, C1 (61) = .inr (5, [.ref (E.2.1 (62)), .ref (E.2.1 (63)), .ref (E.2.1 (64)), .int (nI (hn)), .ref (E.2.1 (65)), .int fl, .ref (E.2.1 (66)), .int (nI (ln)), .int (nI (kdP G ln u0)), .int va2, .int so, .int se, .ref (E.2.1 (67)), .int (nI (tl))]) ∧ ((kdO G ln u0) → va2 = nI (kdK G ln (u0 + 1)))) ∧ (∀ i : Nat, ¬ i = 61 → C1 i = C i)) := by
  refine xM_ofY (cc := cX5_isKind) (maxL := 1) (ret := (some .boolean)) (by decide) rfl (Nat.le_of_ble_eq_true rfl) ?_
  intro p e s m args below meth c X hr
  have inX5 : ∀ w ∈ wsX50, w ∈ wsX5_isKind := by decide +kernel
  refine y_lv [(0, .ref (E.2.1 (61)))] rfl ?_
  refine y_aload_n X dX5_isKind_0 0 rfl ?_
  refine y_bipush X (v := (32)) dX5_isKind_1 (by decide) ?_
  refine y_callV X (61) 5 (av := [.int (32)]) [] 1 (c_X5_sign (G := G) (u0 := u0) (tl := tl) (by omega) gl80 gX gG m0 m6 (c0 := 32) (by omega)) (by omega) m0 rfl gX5_isKind_X5_sign rfl (by decide +kernel) rfl ⟨Nat.le_of_ble_eq_true rfl, Nat.le_of_ble_eq_true rfl⟩ ⟨Nat.zero_le _, Nat.zero_le _⟩ (Nat.le_of_ble_eq_true rfl) rfl dX5_isKind_3 (fun v_1 C_2 hp_3 => ?_)
  obtain ⟨gv4, gM4, gF4⟩ := hp_3
  rcases Decidable.em (chA G ln (u0) (32)) with cs4 | cs4
  ·
    rw [bI_1 cs4] at gv4
    subst gv4
    rw [if_pos cs4] at gM4
    have gb4 := cs4.1
    have h_5 : C_2 (66) = .inl (E.2.2.1 1, 80, .inl zx) := (gF4 _ (by omega)).trans m6
    refine y_if_ne X 11 (¬ ((1) = (0))) dX5_isKind_6 (by decide) (cNe (nI_eq (a := 1) (b := 0) (by omega) (by omega))) (fun c_6 => ?_) (fun c_6 => ?_)
    ·
      refine y_aload_n X dX5_isKind_11 0 rfl ?_
      refine y_aload_n X dX5_isKind_12 0 rfl ?_
      refine y_bipush X (v := (102)) dX5_isKind_13 (by decide) ?_
      refine y_bipush X (v := (102)) dX5_isKind_15 (by decide) ?_
      refine y_callVr X (61) 5 (av := [.int (102), .int (102)]) [.ref (E.2.1 (61))] 2 (c_X5_isAt (G := G) (u0 := u0 + 1) (tl := tl) (by omega) gl80 gX gG gM4 h_5 (lo0 := 102) (hi0 := 102) (by omega) (by omega)) (by omega) gM4 rfl gX5_isKind_X5_isAt rfl (by decide +kernel) rfl ⟨Nat.le_of_ble_eq_true rfl, Nat.le_of_ble_eq_true rfl⟩ ⟨Nat.zero_le _, Nat.zero_le _⟩ (Nat.le_of_ble_eq_true rfl) rfl dX5_isKind_17 ?_
      refine y_if_eq X 27 (¬ ((u0 + 1) < ln ∧ ((102) ≤ G (u0 + 1) ∧ G (u0 + 1) ≤ (102)))) dX5_isKind_20 (by decide) bI_eq (fun c_7 => ?_) (fun c_7 => ?_)
      ·
        refine y_aload_n X dX5_isKind_27 0 rfl ?_
        refine y_bipush X (v := (100)) dX5_isKind_28 (by decide) ?_
        refine y_bipush X (v := (100)) dX5_isKind_30 (by decide) ?_
        refine y_callVr X (61) 5 (av := [.int (100), .int (100)]) [.ref (E.2.1 (61))] 2 (c_X5_isAt (G := G) (u0 := u0 + 1) (tl := tl) (by omega) gl80 gX gG gM4 h_5 (lo0 := 100) (hi0 := 100) (by omega) (by omega)) (by omega) gM4 rfl gX5_isKind_X5_isAt rfl (by decide +kernel) rfl ⟨Nat.le_of_ble_eq_true rfl, Nat.le_of_ble_eq_true rfl⟩ ⟨Nat.zero_le _, Nat.zero_le _⟩ (Nat.le_of_ble_eq_true rfl) rfl dX5_isKind_32 ?_
        refine y_if_eq X 42 (¬ ((u0 + 1) < ln ∧ ((100) ≤ G (u0 + 1) ∧ G (u0 + 1) ≤ (100)))) dX5_isKind_35 (by decide) bI_eq (fun c_8 => ?_) (fun c_8 => ?_)
        ·
          refine y_iconst X (v := (2)) dX5_isKind_42 (by decide) ?_
          refine y_put X (61) 5 9 (Cn := RX5) (T := TX5) (N := 14) (index := 141) tyX5 (v := .int (2)) dX5_isKind_43 (by omega) gM4 rfl (by decide) inX5 (by decide +kernel : Cond.fieldLink RX5 141 "ColumnSeasonsModel" "value" "I" ∈ wsX5_isKind) rfl tyX5_ok nmX5 rfl rfl rfl (Nat.le_of_ble_eq_true rfl) ?_
          refine y_mem (va_up C_2 (61) (.inr (5, [.ref (E.2.1 (62)), .ref (E.2.1 (63)), .ref (E.2.1 (64)), .int (nI (hn)), .ref (E.2.1 (65)), .int fl, .ref (E.2.1 (66)), .int (nI (ln)), .int (nI (u0 + 1)), .int (2), .int so, .int se, .ref (E.2.1 (67)), .int (nI (tl))]))) rfl (fun C_9 eC_10 => ?_)
          have h_11 : C_9 (61) = .inr (5, [.ref (E.2.1 (62)), .ref (E.2.1 (63)), .ref (E.2.1 (64)), .int (nI (hn)), .ref (E.2.1 (65)), .int fl, .ref (E.2.1 (66)), .int (nI (ln)), .int (nI (u0 + 1)), .int (2), .int so, .int se, .ref (E.2.1 (67)), .int (nI (tl))]) := by rw [eC_10, va_up, if_pos rfl]
          have h_12 : C_9 (66) = .inl (E.2.2.1 1, 80, .inl zx) := by rw [eC_10, va_up, if_neg (by omega)]; exact h_5
          refine y_aload_n X dX5_isKind_46 0 rfl ?_
          refine y_get X (61) 5 9 (Cn := RX5) (T := TX5) (N := 14) (index := 141) (v := .int (2)) dX5_isKind_47 (by omega) h_11 rfl (by decide) inX5 (by decide +kernel : Cond.fieldLink RX5 141 "ColumnSeasonsModel" "value" "I" ∈ wsX5_isKind) rfl rfl ?_
          refine y_if_ne X 69 (¬ ((2) = (0))) dX5_isKind_50 (by decide) (cNe (nI_eq (a := 2) (b := 0) (by omega) (by omega))) (fun c_13 => ?_) (fun c_13 => ?_)
          ·
            refine y_aload_n X dX5_isKind_69 0 rfl ?_
            refine y_get X (61) 5 9 (Cn := RX5) (T := TX5) (N := 14) (index := 141) (v := .int (2)) dX5_isKind_70 (by omega) h_11 rfl (by decide) inX5 (by decide +kernel : Cond.fieldLink RX5 141 "ColumnSeasonsModel" "value" "I" ∈ wsX5_isKind) rfl rfl ?_
            refine y_iconst X (v := (1)) dX5_isKind_73 (by decide) ?_
            refine y_icmp_ne X 94 (¬ ((2) = (1))) dX5_isKind_74 (by decide) (cNe (nI_eq (a := 2) (b := 1) (by omega) (by omega))) (fun c_14 => ?_) (fun c_14 => ?_)
            ·
              refine y_aload_n X dX5_isKind_94 0 rfl ?_
              refine y_bipush X (v := (110)) dX5_isKind_95 (by decide) ?_
              refine y_bipush X (v := (117)) dX5_isKind_97 (by decide) ?_
              refine y_bipush X (v := (109)) dX5_isKind_99 (by decide) ?_
              refine y_bipush X (v := (98)) dX5_isKind_101 (by decide) ?_
              refine y_bipush X (v := (101)) dX5_isKind_103 (by decide) ?_
              refine y_callV X (61) 5 (av := [.int (110), .int (117), .int (109), .int (98), .int (101)]) [] 5 (c_X5_isWord (G := G) (u0 := u0 + 1) (tl := tl) (by omega) gl80 gX gG h_11 h_12 (a0 := 110) (b0 := 117) (e0 := 109) (f0 := 98) (h0 := 101) (wL := [110, 117, 109, 98, 101]) rfl (by decide)) (by omega) h_11 rfl gX5_isKind_X5_isWord rfl (by decide +kernel) rfl ⟨Nat.le_of_ble_eq_true rfl, Nat.le_of_ble_eq_true rfl⟩ ⟨Nat.zero_le _, Nat.zero_le _⟩ (Nat.le_of_ble_eq_true rfl) rfl dX5_isKind_105 (fun v_15 C_16 hp_17 => ?_)
              obtain ⟨gv18, gM18, gF18⟩ := hp_17
              rcases Decidable.em (wdO G ln [110, 117, 109, 98, 101] (u0 + 1)) with cw18 | cw18
              ·
                rw [bI_1 cw18] at gv18
                subst gv18
                have gb18 := wdP_b (G := G) (ln := ln) [110, 117, 109, 98, 101] (u0 + 1) (by omega)
                rw [gb18.2.2 cw18] at gM18
                have gb818 : u0 + 1 + 5 ≤ ln := (by have h8 := gb18.2.2 cw18; rw [h8] at gb18; exact gb18.2.1)
                have h_19 : C_16 (66) = .inl (E.2.2.1 1, 80, .inl zx) := (gF18 _ (by omega)).trans h_12
                refine y_if_eq X 124 ((1) = (0)) dX5_isKind_108 (by decide) (nI_eq (a := 1) (b := 0) (by omega) (by omega)) (fun c_20 => ?_) (fun c_20 => ?_)
                ·
                  exact absurd c_20 (by decide)
                ·
                  refine y_aload_n X dX5_isKind_111 0 rfl ?_
                  refine y_bipush X (v := (114)) dX5_isKind_112 (by decide) ?_
                  refine y_callV X (61) 5 (av := [.int (114)]) [] 1 (c_X5_sign (G := G) (u0 := u0 + 1 + 5) (tl := tl) (by omega) gl80 gX gG gM18 h_19 (c0 := 114) (by omega)) (by omega) gM18 rfl gX5_isKind_X5_sign rfl (by decide +kernel) rfl ⟨Nat.le_of_ble_eq_true rfl, Nat.le_of_ble_eq_true rfl⟩ ⟨Nat.zero_le _, Nat.zero_le _⟩ (Nat.le_of_ble_eq_true rfl) rfl dX5_isKind_114 (fun v_21 C_22 hp_23 => ?_)
                  obtain ⟨gv24, gM24, gF24⟩ := hp_23
                  rcases Decidable.em (chA G ln (u0 + 1 + 5) (114)) with cs24 | cs24
                  ·
                    rw [bI_1 cs24] at gv24
                    subst gv24
                    rw [if_pos cs24] at gM24
                    have gb24 := cs24.1
                    have h_25 : C_22 (66) = .inl (E.2.2.1 1, 80, .inl zx) := (gF24 _ (by omega)).trans h_19
                    refine y_if_eq X 124 ((1) = (0)) dX5_isKind_117 (by decide) (nI_eq (a := 1) (b := 0) (by omega) (by omega)) (fun c_26 => ?_) (fun c_26 => ?_)
                    ·
                      exact absurd c_26 (by decide)
                    ·
                      refine y_iconst X (v := (1)) dX5_isKind_120 (by decide) ?_
                      refine y_goto X 125 dX5_isKind_121 (by decide) ?_
                      exact y_zret X hr (by rfl) dX5_isKind_125 rfl (by have gk : kdK G ln (u0 + 1) = 2 := (by unfold kdK; rw [if_neg (fun z => c_7 (chA_2.mpr z))]; exact if_neg (fun z => c_8 (chA_2.mpr z))); have gb := (wdP_b (G := G) (ln := ln) [110, 117, 109, 98, 101] (u0 + 1) (by omega)).2.2; have g2 : kdP G ln u0 = u0 + 1 + 5 + 1 := (by unfold kdP; rw [if_pos cs4, gk]; refine (wd_app (G := G) (ln := ln) (d0 := 114) [110, 117, 109, 98, 101] (u0 + 1)).2.trans ((if_pos cw18).trans ?_); rw [gb cw18]; exact if_pos cs24); rw [g2]; have gO : kdO G ln u0 := ⟨cs4, (by rw [gk]; exact (wd_app (G := G) (ln := ln) (d0 := 114) [110, 117, 109, 98, 101] (u0 + 1)).1.mpr ⟨cw18, by rw [gb cw18]; exact cs24⟩)⟩; exact ⟨congrArg (fun z => some (Value.int z)) (bI_1 gO).symm, ⟨_, gM24, fun _ => (by rw [gk]; rfl)⟩, (fun i9 g9 => by rw [gF24 i9 (by omega)]; rw [gF18 i9 (by omega)]; rw [eC_10, va_up, if_neg (by omega)]; rw [gF4 i9 (by omega)])⟩)
                  ·
                    rw [bI_0 cs24] at gv24
                    subst gv24
                    rw [if_neg cs24] at gM24
                    have h_27 : C_22 (66) = .inl (E.2.2.1 1, 80, .inl zx) := (gF24 _ (by omega)).trans h_19
                    refine y_if_eq X 124 ((0) = (0)) dX5_isKind_117 (by decide) (nI_eq (a := 0) (b := 0) (by omega) (by omega)) (fun c_28 => ?_) (fun c_28 => ?_)
                    ·
                      refine y_iconst X (v := (0)) dX5_isKind_124 (by decide) ?_
                      exact y_zret X hr (by rfl) dX5_isKind_125 rfl (by have gk : kdK G ln (u0 + 1) = 2 := (by unfold kdK; rw [if_neg (fun z => c_7 (chA_2.mpr z))]; exact if_neg (fun z => c_8 (chA_2.mpr z))); have gb := (wdP_b (G := G) (ln := ln) [110, 117, 109, 98, 101] (u0 + 1) (by omega)).2.2; have g2 : kdP G ln u0 = u0 + 1 + 5 := (by unfold kdP; rw [if_pos cs4, gk]; refine (wd_app (G := G) (ln := ln) (d0 := 114) [110, 117, 109, 98, 101] (u0 + 1)).2.trans ((if_pos cw18).trans ?_); rw [gb cw18]; exact if_neg cs24); rw [g2]; have gN : ¬ kdO G ln u0 := (fun z => by have z2 := z.2; rw [gk] at z2; have z3 := ((wd_app (G := G) (ln := ln) (d0 := 114) [110, 117, 109, 98, 101] (u0 + 1)).1.mp z2).2; rw [gb cw18] at z3; exact cs24 z3); exact ⟨congrArg (fun z => some (Value.int z)) (bI_0 gN).symm, ⟨_, gM24, fun z => absurd z gN⟩, (fun i9 g9 => by rw [gF24 i9 (by omega)]; rw [gF18 i9 (by omega)]; rw [eC_10, va_up, if_neg (by omega)]; rw [gF4 i9 (by omega)])⟩)
                    ·
                      exact absurd c_28 (by decide)
              ·
                rw [bI_0 cw18] at gv18
                subst gv18
                have gb18 := wdP_b (G := G) (ln := ln) [110, 117, 109, 98, 101] (u0 + 1) (by omega)
                have h_29 : C_16 (66) = .inl (E.2.2.1 1, 80, .inl zx) := (gF18 _ (by omega)).trans h_12
                refine y_if_eq X 124 ((0) = (0)) dX5_isKind_108 (by decide) (nI_eq (a := 0) (b := 0) (by omega) (by omega)) (fun c_30 => ?_) (fun c_30 => ?_)
                ·
                  refine y_iconst X (v := (0)) dX5_isKind_124 (by decide) ?_
                  exact y_zret X hr (by rfl) dX5_isKind_125 rfl (by have gk : kdK G ln (u0 + 1) = 2 := (by unfold kdK; rw [if_neg (fun z => c_7 (chA_2.mpr z))]; exact if_neg (fun z => c_8 (chA_2.mpr z))); have gb := (wdP_b (G := G) (ln := ln) [110, 117, 109, 98, 101] (u0 + 1) (by omega)).2.2; have g2 : kdP G ln u0 = wdP G ln [110, 117, 109, 98, 101] (u0 + 1) := (by unfold kdP; rw [if_pos cs4, gk]; exact ((wd_app (G := G) (ln := ln) (d0 := 114) [110, 117, 109, 98, 101] (u0 + 1)).2.trans (if_neg cw18))); rw [g2]; have gN : ¬ kdO G ln u0 := (fun z => by have z2 := z.2; rw [gk] at z2; exact cw18 ((wd_app (G := G) (ln := ln) (d0 := 114) [110, 117, 109, 98, 101] (u0 + 1)).1.mp z2).1); exact ⟨congrArg (fun z => some (Value.int z)) (bI_0 gN).symm, ⟨_, gM18, fun z => absurd z gN⟩, (fun i9 g9 => by rw [gF18 i9 (by omega)]; rw [eC_10, va_up, if_neg (by omega)]; rw [gF4 i9 (by omega)])⟩)
                ·
                  exact absurd c_30 (by decide)
            ·
              have c_14 := Decidable.of_not_not c_14
              exact absurd c_14 (by decide)
          ·
            have c_13 := Decidable.of_not_not c_13
            exact absurd c_13 (by decide)
        ·
          have c_8 := Decidable.of_not_not c_8
          refine y_iconst X (v := (1)) dX5_isKind_38 (by decide) ?_
          refine y_goto X 43 dX5_isKind_39 (by decide) ?_
          refine y_put X (61) 5 9 (Cn := RX5) (T := TX5) (N := 14) (index := 141) tyX5 (v := .int (1)) dX5_isKind_43 (by omega) gM4 rfl (by decide) inX5 (by decide +kernel : Cond.fieldLink RX5 141 "ColumnSeasonsModel" "value" "I" ∈ wsX5_isKind) rfl tyX5_ok nmX5 rfl rfl rfl (Nat.le_of_ble_eq_true rfl) ?_
          refine y_mem (va_up C_2 (61) (.inr (5, [.ref (E.2.1 (62)), .ref (E.2.1 (63)), .ref (E.2.1 (64)), .int (nI (hn)), .ref (E.2.1 (65)), .int fl, .ref (E.2.1 (66)), .int (nI (ln)), .int (nI (u0 + 1)), .int (1), .int so, .int se, .ref (E.2.1 (67)), .int (nI (tl))]))) rfl (fun C_31 eC_32 => ?_)
          have h_33 : C_31 (61) = .inr (5, [.ref (E.2.1 (62)), .ref (E.2.1 (63)), .ref (E.2.1 (64)), .int (nI (hn)), .ref (E.2.1 (65)), .int fl, .ref (E.2.1 (66)), .int (nI (ln)), .int (nI (u0 + 1)), .int (1), .int so, .int se, .ref (E.2.1 (67)), .int (nI (tl))]) := by rw [eC_32, va_up, if_pos rfl]
          have h_34 : C_31 (66) = .inl (E.2.2.1 1, 80, .inl zx) := by rw [eC_32, va_up, if_neg (by omega)]; exact h_5
          refine y_aload_n X dX5_isKind_46 0 rfl ?_
          refine y_get X (61) 5 9 (Cn := RX5) (T := TX5) (N := 14) (index := 141) (v := .int (1)) dX5_isKind_47 (by omega) h_33 rfl (by decide) inX5 (by decide +kernel : Cond.fieldLink RX5 141 "ColumnSeasonsModel" "value" "I" ∈ wsX5_isKind) rfl rfl ?_
          refine y_if_ne X 69 (¬ ((1) = (0))) dX5_isKind_50 (by decide) (cNe (nI_eq (a := 1) (b := 0) (by omega) (by omega))) (fun c_35 => ?_) (fun c_35 => ?_)
          ·
            refine y_aload_n X dX5_isKind_69 0 rfl ?_
            refine y_get X (61) 5 9 (Cn := RX5) (T := TX5) (N := 14) (index := 141) (v := .int (1)) dX5_isKind_70 (by omega) h_33 rfl (by decide) inX5 (by decide +kernel : Cond.fieldLink RX5 141 "ColumnSeasonsModel" "value" "I" ∈ wsX5_isKind) rfl rfl ?_
            refine y_iconst X (v := (1)) dX5_isKind_73 (by decide) ?_
            refine y_icmp_ne X 94 (¬ ((1) = (1))) dX5_isKind_74 (by decide) (cNe (nI_eq (a := 1) (b := 1) (by omega) (by omega))) (fun c_36 => ?_) (fun c_36 => ?_)
            ·
              exact absurd c_36 (by decide)
            ·
              have c_36 := Decidable.of_not_not c_36
              refine y_aload_n X dX5_isKind_77 0 rfl ?_
              refine y_bipush X (v := (100)) dX5_isKind_78 (by decide) ?_
              refine y_bipush X (v := (105)) dX5_isKind_80 (by decide) ?_
              refine y_bipush X (v := (103)) dX5_isKind_82 (by decide) ?_
              refine y_bipush X (v := (105)) dX5_isKind_84 (by decide) ?_
              refine y_bipush X (v := (116)) dX5_isKind_86 (by decide) ?_
              refine y_callV X (61) 5 (av := [.int (100), .int (105), .int (103), .int (105), .int (116)]) [] 5 (c_X5_isWord (G := G) (u0 := u0 + 1) (tl := tl) (by omega) gl80 gX gG h_33 h_34 (a0 := 100) (b0 := 105) (e0 := 103) (f0 := 105) (h0 := 116) (wL := [100, 105, 103, 105, 116]) rfl (by decide)) (by omega) h_33 rfl gX5_isKind_X5_isWord rfl (by decide +kernel) rfl ⟨Nat.le_of_ble_eq_true rfl, Nat.le_of_ble_eq_true rfl⟩ ⟨Nat.zero_le _, Nat.zero_le _⟩ (Nat.le_of_ble_eq_true rfl) rfl dX5_isKind_88 (fun v_37 C_38 hp_39 => ?_)
              obtain ⟨gv40, gM40, gF40⟩ := hp_39
              rcases Decidable.em (wdO G ln [100, 105, 103, 105, 116] (u0 + 1)) with cw40 | cw40
              ·
                rw [bI_1 cw40] at gv40
                subst gv40
                have gb40 := wdP_b (G := G) (ln := ln) [100, 105, 103, 105, 116] (u0 + 1) (by omega)
                rw [gb40.2.2 cw40] at gM40
                have gb840 : u0 + 1 + 5 ≤ ln := (by have h8 := gb40.2.2 cw40; rw [h8] at gb40; exact gb40.2.1)
                have h_41 : C_38 (66) = .inl (E.2.2.1 1, 80, .inl zx) := (gF40 _ (by omega)).trans h_34
                refine y_goto X 125 dX5_isKind_91 (by decide) ?_
                exact y_zret X hr (by rfl) dX5_isKind_125 rfl (by have gk : kdK G ln (u0 + 1) = 1 := (by unfold kdK; rw [if_neg (fun z => c_7 (chA_2.mpr z))]; exact if_pos (chA_2.mp c_8)); have gb := (wdP_b (G := G) (ln := ln) [100, 105, 103, 105, 116] (u0 + 1) (by omega)).2.2; have g2 : kdP G ln u0 = u0 + 1 + 5 := (by unfold kdP; rw [if_pos cs4, gk]; exact gb cw40); rw [g2]; have gO : kdO G ln u0 := ⟨cs4, (by rw [gk]; exact cw40)⟩; exact ⟨congrArg (fun z => some (Value.int z)) (bI_1 gO).symm, ⟨_, gM40, fun _ => (by rw [gk]; rfl)⟩, (fun i9 g9 => by rw [gF40 i9 (by omega)]; rw [eC_32, va_up, if_neg (by omega)]; rw [gF4 i9 (by omega)])⟩)
              ·
                rw [bI_0 cw40] at gv40
                subst gv40
                have gb40 := wdP_b (G := G) (ln := ln) [100, 105, 103, 105, 116] (u0 + 1) (by omega)
                have h_42 : C_38 (66) = .inl (E.2.2.1 1, 80, .inl zx) := (gF40 _ (by omega)).trans h_34
                refine y_goto X 125 dX5_isKind_91 (by decide) ?_
                exact y_zret X hr (by rfl) dX5_isKind_125 rfl (by have gk : kdK G ln (u0 + 1) = 1 := (by unfold kdK; rw [if_neg (fun z => c_7 (chA_2.mpr z))]; exact if_pos (chA_2.mp c_8)); have gb := (wdP_b (G := G) (ln := ln) [100, 105, 103, 105, 116] (u0 + 1) (by omega)).2.2; have g2 : kdP G ln u0 = wdP G ln [100, 105, 103, 105, 116] (u0 + 1) := (by unfold kdP; rw [if_pos cs4, gk]; rfl); rw [g2]; have gN : ¬ kdO G ln u0 := (fun z => by have z2 := z.2; rw [gk] at z2; exact cw40 z2); exact ⟨congrArg (fun z => some (Value.int z)) (bI_0 gN).symm, ⟨_, gM40, fun z => absurd z gN⟩, (fun i9 g9 => by rw [gF40 i9 (by omega)]; rw [eC_32, va_up, if_neg (by omega)]; rw [gF4 i9 (by omega)])⟩)
          ·
            have c_35 := Decidable.of_not_not c_35
            exact absurd c_35 (by decide)
      ·
        have c_7 := Decidable.of_not_not c_7
        refine y_iconst X (v := (0)) dX5_isKind_23 (by decide) ?_
        refine y_goto X 43 dX5_isKind_24 (by decide) ?_
        refine y_put X (61) 5 9 (Cn := RX5) (T := TX5) (N := 14) (index := 141) tyX5 (v := .int (0)) dX5_isKind_43 (by omega) gM4 rfl (by decide) inX5 (by decide +kernel : Cond.fieldLink RX5 141 "ColumnSeasonsModel" "value" "I" ∈ wsX5_isKind) rfl tyX5_ok nmX5 rfl rfl rfl (Nat.le_of_ble_eq_true rfl) ?_
        refine y_mem (va_up C_2 (61) (.inr (5, [.ref (E.2.1 (62)), .ref (E.2.1 (63)), .ref (E.2.1 (64)), .int (nI (hn)), .ref (E.2.1 (65)), .int fl, .ref (E.2.1 (66)), .int (nI (ln)), .int (nI (u0 + 1)), .int (0), .int so, .int se, .ref (E.2.1 (67)), .int (nI (tl))]))) rfl (fun C_43 eC_44 => ?_)
        have h_45 : C_43 (61) = .inr (5, [.ref (E.2.1 (62)), .ref (E.2.1 (63)), .ref (E.2.1 (64)), .int (nI (hn)), .ref (E.2.1 (65)), .int fl, .ref (E.2.1 (66)), .int (nI (ln)), .int (nI (u0 + 1)), .int (0), .int so, .int se, .ref (E.2.1 (67)), .int (nI (tl))]) := by rw [eC_44, va_up, if_pos rfl]
        have h_46 : C_43 (66) = .inl (E.2.2.1 1, 80, .inl zx) := by rw [eC_44, va_up, if_neg (by omega)]; exact h_5
        refine y_aload_n X dX5_isKind_46 0 rfl ?_
        refine y_get X (61) 5 9 (Cn := RX5) (T := TX5) (N := 14) (index := 141) (v := .int (0)) dX5_isKind_47 (by omega) h_45 rfl (by decide) inX5 (by decide +kernel : Cond.fieldLink RX5 141 "ColumnSeasonsModel" "value" "I" ∈ wsX5_isKind) rfl rfl ?_
        refine y_if_ne X 69 (¬ ((0) = (0))) dX5_isKind_50 (by decide) (cNe (nI_eq (a := 0) (b := 0) (by omega) (by omega))) (fun c_47 => ?_) (fun c_47 => ?_)
        ·
          exact absurd c_47 (by decide)
        ·
          have c_47 := Decidable.of_not_not c_47
          refine y_aload_n X dX5_isKind_53 0 rfl ?_
          refine y_bipush X (v := (102)) dX5_isKind_54 (by decide) ?_
          refine y_bipush X (v := (108)) dX5_isKind_56 (by decide) ?_
          refine y_bipush X (v := (97)) dX5_isKind_58 (by decide) ?_
          refine y_bipush X (v := (103)) dX5_isKind_60 (by decide) ?_
          refine y_iconst X (v := (0)) dX5_isKind_62 (by decide) ?_
          refine y_callV X (61) 5 (av := [.int (102), .int (108), .int (97), .int (103), .int (0)]) [] 5 (c_X5_isWord (G := G) (u0 := u0 + 1) (tl := tl) (by omega) gl80 gX gG h_45 h_46 (a0 := 102) (b0 := 108) (e0 := 97) (f0 := 103) (h0 := 0) (wL := [102, 108, 97, 103]) rfl (by decide)) (by omega) h_45 rfl gX5_isKind_X5_isWord rfl (by decide +kernel) rfl ⟨Nat.le_of_ble_eq_true rfl, Nat.le_of_ble_eq_true rfl⟩ ⟨Nat.zero_le _, Nat.zero_le _⟩ (Nat.le_of_ble_eq_true rfl) rfl dX5_isKind_63 (fun v_48 C_49 hp_50 => ?_)
          obtain ⟨gv51, gM51, gF51⟩ := hp_50
          rcases Decidable.em (wdO G ln [102, 108, 97, 103] (u0 + 1)) with cw51 | cw51
          ·
            rw [bI_1 cw51] at gv51
            subst gv51
            have gb51 := wdP_b (G := G) (ln := ln) [102, 108, 97, 103] (u0 + 1) (by omega)
            rw [gb51.2.2 cw51] at gM51
            have gb851 : u0 + 1 + 4 ≤ ln := (by have h8 := gb51.2.2 cw51; rw [h8] at gb51; exact gb51.2.1)
            have h_52 : C_49 (66) = .inl (E.2.2.1 1, 80, .inl zx) := (gF51 _ (by omega)).trans h_46
            refine y_goto X 125 dX5_isKind_66 (by decide) ?_
            exact y_zret X hr (by rfl) dX5_isKind_125 rfl (by have gk : kdK G ln (u0 + 1) = 0 := (by unfold kdK; exact if_pos (chA_2.mp c_7)); have gb := (wdP_b (G := G) (ln := ln) [102, 108, 97, 103] (u0 + 1) (by omega)).2.2; have g2 : kdP G ln u0 = u0 + 1 + 4 := (by unfold kdP; rw [if_pos cs4, gk]; exact gb cw51); rw [g2]; have gO : kdO G ln u0 := ⟨cs4, (by rw [gk]; exact cw51)⟩; exact ⟨congrArg (fun z => some (Value.int z)) (bI_1 gO).symm, ⟨_, gM51, fun _ => (by rw [gk]; rfl)⟩, (fun i9 g9 => by rw [gF51 i9 (by omega)]; rw [eC_44, va_up, if_neg (by omega)]; rw [gF4 i9 (by omega)])⟩)
          ·
            rw [bI_0 cw51] at gv51
            subst gv51
            have gb51 := wdP_b (G := G) (ln := ln) [102, 108, 97, 103] (u0 + 1) (by omega)
            have h_53 : C_49 (66) = .inl (E.2.2.1 1, 80, .inl zx) := (gF51 _ (by omega)).trans h_46
            refine y_goto X 125 dX5_isKind_66 (by decide) ?_
            exact y_zret X hr (by rfl) dX5_isKind_125 rfl (by have gk : kdK G ln (u0 + 1) = 0 := (by unfold kdK; exact if_pos (chA_2.mp c_7)); have gb := (wdP_b (G := G) (ln := ln) [102, 108, 97, 103] (u0 + 1) (by omega)).2.2; have g2 : kdP G ln u0 = wdP G ln [102, 108, 97, 103] (u0 + 1) := (by unfold kdP; rw [if_pos cs4, gk]; rfl); rw [g2]; have gN : ¬ kdO G ln u0 := (fun z => by have z2 := z.2; rw [gk] at z2; exact cw51 z2); exact ⟨congrArg (fun z => some (Value.int z)) (bI_0 gN).symm, ⟨_, gM51, fun z => absurd z gN⟩, (fun i9 g9 => by rw [gF51 i9 (by omega)]; rw [eC_44, va_up, if_neg (by omega)]; rw [gF4 i9 (by omega)])⟩)
    ·
      have c_6 := Decidable.of_not_not c_6
      exact absurd c_6 (by decide)
  ·
    rw [bI_0 cs4] at gv4
    subst gv4
    rw [if_neg cs4] at gM4
    have h_54 : C_2 (66) = .inl (E.2.2.1 1, 80, .inl zx) := (gF4 _ (by omega)).trans m6
    refine y_if_ne X 11 (¬ ((0) = (0))) dX5_isKind_6 (by decide) (cNe (nI_eq (a := 0) (b := 0) (by omega) (by omega))) (fun c_55 => ?_) (fun c_55 => ?_)
    ·
      exact absurd c_55 (by decide)
    ·
      have c_55 := Decidable.of_not_not c_55
      refine y_iconst X (v := (0)) dX5_isKind_9 (by decide) ?_
      exact y_zret X hr (by rfl) dX5_isKind_10 rfl (by have gN : ¬ kdO G ln u0 := (fun z => cs4 z.1); have g2 : kdP G ln u0 = u0 := if_neg cs4; rw [g2]; exact ⟨congrArg (fun z => some (Value.int z)) (bI_0 gN).symm, ⟨_, gM4, fun z => absurd z gN⟩, (fun i9 g9 => by rw [gF4 i9 (by omega)])⟩)

set_option maxRecDepth 100000 in
set_option maxHeartbeats 4000000 in
theorem c_X5_isFirst {l : Launch} {E : xE} {C : xC} {G : Nat → Nat} {u0 hn ln tl : Nat} {fl so se va : Int32} {zl zx : Nat → Int32} (gp : u0 ≤ ln) (gl80 : ln ≤ 80) (gX : ∀ z : Nat, z < ln → zx z = nI (G z)) (gG : ∀ z : Nat, z < ln → G z < 65536) (m0 : C (61) = .inr (5, [.ref (E.2.1 (62)), .ref (E.2.1 (63)), .ref (E.2.1 (64)), .int (nI (hn)), .ref (E.2.1 (65)), .int fl, .ref (E.2.1 (66)), .int (nI (ln)), .int (nI (u0)), .int va, .int so, .int se, .ref (E.2.1 (67)), .int (nI (tl))])) (m6 : C (66) = .inl (E.2.2.1 1, 80, .inl zx)) (m7 : C (67) = .inl (E.2.2.1 1, 84, .inl zl)) {k9 mo : Nat} (gk9 : k9 ≤ 80) (gmo : mo ≤ 9999) : xM E l yX5_isFirst wsX5_isFirst 5 111 [.ref (E.2.1 (61)), .int (nI (k9)), .int (nI (mo))] C (fun v C1 => v = some (.int (bI (opO G ln 0 mo u0))) ∧ (∃ (va2 : Int32) (zl2 : Nat → Int32), C1 (61) = .inr (5, [.ref (E.2.1 (62)), .ref (E.2.1 (63)), .ref (E.2.1 (64)), .int (nI (hn)), .ref (E.2.1 (65)), .int fl, .ref (E.2.1 (66)), .int (nI (ln)), .int (nI (opP G ln 0 mo u0)), .int va2, .int so, .int se, .ref (E.2.1 (67)), .int (nI (tl))]) ∧ C1 (67) = .inl (E.2.2.1 1, 84, .inl zl2) ∧ ((opO G ln 0 mo u0) → zl2 (k9 + 1) = opV G ln 0 mo u0) ∧ (∀ z : Nat, ¬ z = k9 + 1 → zl2 z = zl z)) ∧ (∀ i : Nat, ¬ i = 61 → ¬ i = 67 → C1 i = C i)) := by
  refine xM_ofY (cc := cX5_isFirst) (maxL := 4) (ret := (some .boolean)) (by decide) rfl (Nat.le_of_ble_eq_true rfl) ?_
  intro p e s m args below meth c X hr
  have inX5 : ∀ w ∈ wsX50, w ∈ wsX5_isFirst := by decide +kernel
  refine y_lv [(0, .ref (E.2.1 (61))), (1, .int (nI (k9))), (2, .int (nI (mo)))] rfl ?_
  refine y_aload_n X dX5_isFirst_0 0 rfl ?_
  refine y_iconst X (v := (0)) dX5_isFirst_1 (by decide) ?_
  refine y_iload_n X dX5_isFirst_2 2 rfl ?_
  refine y_callV X (61) 5 (av := [.int (0), .int (nI (mo))]) [] 2 (c_X5_isNext (G := G) (u0 := u0) (tl := tl) (by omega) gl80 gX gG m0 m6 (lw := (0)) (mo := mo) (by omega)) (by omega) m0 rfl gX5_isFirst_X5_isNext rfl (by decide +kernel) rfl ⟨Nat.le_of_ble_eq_true rfl, Nat.le_of_ble_eq_true rfl⟩ ⟨Nat.zero_le _, Nat.zero_le _⟩ (Nat.le_of_ble_eq_true rfl) rfl dX5_isFirst_3 (fun v_1 C_2 hp_3 => ?_)
  obtain ⟨gv4, ⟨vz4, gM4, gW4⟩, gF4⟩ := hp_3
  rcases Decidable.em (opO G ln (0) (mo) (u0)) with co4 | co4
  ·
    rw [bI_1 co4] at gv4
    subst gv4
    have gY4 := gW4 co4
    subst gY4
    have gb4 := opP_b (G := G) (lw := (0)) (mo := mo) (p := u0) (ln := ln) (by omega)
    have h_5 : C_2 (66) = .inl (E.2.2.1 1, 80, .inl zx) := (gF4 _ (by omega)).trans m6
    have h_6 : C_2 (67) = .inl (E.2.2.1 1, 84, .inl zl) := (gF4 _ (by omega)).trans m7
    refine y_istore_n X [(3, .int (1)), (0, .ref (E.2.1 (61))), (1, .int (nI (k9))), (2, .int (nI (mo)))] dX5_isFirst_6 rfl (by decide) rfl ?_
    refine y_aload_n X dX5_isFirst_7 1 rfl ?_
    refine y_get X (61) 5 12 (Cn := RX5) (T := TX5) (N := 14) (index := 32) (v := .ref (E.2.1 (67))) dX5_isFirst_8 (by omega) gM4 rfl (by decide) inX5 (by decide +kernel : Cond.fieldLink RX5 32 "ColumnSeasonsModel" "told" "[I" ∈ wsX5_isFirst) rfl rfl ?_
    refine y_iload_n X dX5_isFirst_11 2 rfl ?_
    refine y_iconst X (v := (1)) dX5_isFirst_12 (by decide) ?_
    refine y_iadd X (z := (nI (k9 + 1))) dX5_isFirst_13 (nI_add (k9) (1)) ?_
    refine y_aload_n X dX5_isFirst_14 1 rfl ?_
    refine y_get X (61) 5 9 (Cn := RX5) (T := TX5) (N := 14) (index := 141) (v := .int (opV G ln (0) (mo) (u0))) dX5_isFirst_15 (by omega) gM4 rfl (by decide) inX5 (by decide +kernel : Cond.fieldLink RX5 141 "ColumnSeasonsModel" "value" "I" ∈ wsX5_isFirst) rfl rfl ?_
    refine y_iast X (67) dX5_isFirst_18 (by omega) h_6 (j := k9 + 1) rfl (by omega) (by omega) ?_
    refine y_mem (va_up C_2 (67) (.inl (E.2.2.1 1, 84, .inl (upd zl (k9 + 1) (opV G ln (0) (mo) (u0)))))) rfl (fun C_7 eC_8 => ?_)
    have h_9 : C_7 (61) = .inr (5, [.ref (E.2.1 (62)), .ref (E.2.1 (63)), .ref (E.2.1 (64)), .int (nI (hn)), .ref (E.2.1 (65)), .int fl, .ref (E.2.1 (66)), .int (nI (ln)), .int (nI (opP G ln (0) (mo) (u0))), .int (opV G ln (0) (mo) (u0)), .int so, .int se, .ref (E.2.1 (67)), .int (nI (tl))]) := by rw [eC_8, va_up, if_neg (by omega)]; exact gM4
    have h_10 : C_7 (66) = .inl (E.2.2.1 1, 80, .inl zx) := by rw [eC_8, va_up, if_neg (by omega)]; exact h_5
    have h_11 : C_7 (67) = .inl (E.2.2.1 1, 84, .inl (upd zl (k9 + 1) (opV G ln (0) (mo) (u0)))) := by rw [eC_8, va_up, if_pos rfl]
    refine y_iload_n X dX5_isFirst_19 0 rfl ?_
    exact y_zret X hr (by rfl) dX5_isFirst_20 rfl (by have g2 : opP G ln 0 mo u0 = opP G ln (0) (mo) (u0) := rfl; rw [g2]; have gO : opO G ln 0 mo u0 := co4; exact ⟨congrArg (fun z => some (Value.int z)) (bI_1 gO).symm, ⟨_, _, h_9, h_11, fun _ => pk_us, (fun z q1 => by rw [pk_un (by omega)])⟩, (fun i9 g9 g8 => by rw [eC_8, va_up, if_neg (by omega)]; rw [gF4 i9 (by omega)])⟩)
  ·
    rw [bI_0 co4] at gv4
    subst gv4
    have gb4 := opP_b (G := G) (lw := (0)) (mo := mo) (p := u0) (ln := ln) (by omega)
    have h_12 : C_2 (66) = .inl (E.2.2.1 1, 80, .inl zx) := (gF4 _ (by omega)).trans m6
    have h_13 : C_2 (67) = .inl (E.2.2.1 1, 84, .inl zl) := (gF4 _ (by omega)).trans m7
    refine y_istore_n X [(3, .int (0)), (0, .ref (E.2.1 (61))), (1, .int (nI (k9))), (2, .int (nI (mo)))] dX5_isFirst_6 rfl (by decide) rfl ?_
    refine y_aload_n X dX5_isFirst_7 1 rfl ?_
    refine y_get X (61) 5 12 (Cn := RX5) (T := TX5) (N := 14) (index := 32) (v := .ref (E.2.1 (67))) dX5_isFirst_8 (by omega) gM4 rfl (by decide) inX5 (by decide +kernel : Cond.fieldLink RX5 32 "ColumnSeasonsModel" "told" "[I" ∈ wsX5_isFirst) rfl rfl ?_
    refine y_iload_n X dX5_isFirst_11 2 rfl ?_
    refine y_iconst X (v := (1)) dX5_isFirst_12 (by decide) ?_
    refine y_iadd X (z := (nI (k9 + 1))) dX5_isFirst_13 (nI_add (k9) (1)) ?_
    refine y_aload_n X dX5_isFirst_14 1 rfl ?_
    refine y_get X (61) 5 9 (Cn := RX5) (T := TX5) (N := 14) (index := 141) (v := .int vz4) dX5_isFirst_15 (by omega) gM4 rfl (by decide) inX5 (by decide +kernel : Cond.fieldLink RX5 141 "ColumnSeasonsModel" "value" "I" ∈ wsX5_isFirst) rfl rfl ?_
    refine y_iast X (67) dX5_isFirst_18 (by omega) h_13 (j := k9 + 1) rfl (by omega) (by omega) ?_
    refine y_mem (va_up C_2 (67) (.inl (E.2.2.1 1, 84, .inl (upd zl (k9 + 1) vz4)))) rfl (fun C_14 eC_15 => ?_)
    have h_16 : C_14 (61) = .inr (5, [.ref (E.2.1 (62)), .ref (E.2.1 (63)), .ref (E.2.1 (64)), .int (nI (hn)), .ref (E.2.1 (65)), .int fl, .ref (E.2.1 (66)), .int (nI (ln)), .int (nI (opP G ln (0) (mo) (u0))), .int vz4, .int so, .int se, .ref (E.2.1 (67)), .int (nI (tl))]) := by rw [eC_15, va_up, if_neg (by omega)]; exact gM4
    have h_17 : C_14 (66) = .inl (E.2.2.1 1, 80, .inl zx) := by rw [eC_15, va_up, if_neg (by omega)]; exact h_12
    have h_18 : C_14 (67) = .inl (E.2.2.1 1, 84, .inl (upd zl (k9 + 1) vz4)) := by rw [eC_15, va_up, if_pos rfl]
    refine y_iload_n X dX5_isFirst_19 0 rfl ?_
    exact y_zret X hr (by rfl) dX5_isFirst_20 rfl (by have g2 : opP G ln 0 mo u0 = opP G ln (0) (mo) (u0) := rfl; rw [g2]; have gN : ¬ (opO G ln 0 mo u0) := co4; exact ⟨congrArg (fun z => some (Value.int z)) (bI_0 gN).symm, ⟨_, _, h_16, h_18, fun z => absurd z gN, (fun z q1 => by rw [pk_un (by omega)])⟩, (fun i9 g9 g8 => by rw [eC_15, va_up, if_neg (by omega)]; rw [gF4 i9 (by omega)])⟩)

set_option maxRecDepth 100000 in
set_option maxHeartbeats 4000000 in
theorem c_X5_isColumn {l : Launch} {E : xE} {C : xC} {G : Nat → Nat} {u0 hn ln tl : Nat} {fl so se va : Int32} {zl zx : Nat → Int32} (gp : u0 ≤ ln) (gl80 : ln ≤ 80) (gX : ∀ z : Nat, z < ln → zx z = nI (G z)) (gG : ∀ z : Nat, z < ln → G z < 65536) (m0 : C (61) = .inr (5, [.ref (E.2.1 (62)), .ref (E.2.1 (63)), .ref (E.2.1 (64)), .int (nI (hn)), .ref (E.2.1 (65)), .int fl, .ref (E.2.1 (66)), .int (nI (ln)), .int (nI (u0)), .int va, .int so, .int se, .ref (E.2.1 (67)), .int (nI (tl))])) (m6 : C (66) = .inl (E.2.2.1 1, 80, .inl zx)) (m7 : C (67) = .inl (E.2.2.1 1, 84, .inl zl)) {k9 : Nat} (gk9 : k9 ≤ 80) : xM E l yX5_isColumn wsX5_isColumn 6 134 [.ref (E.2.1 (61)), .int (nI (k9))] C (fun v C1 => v = some (.int (bI (colO G ln u0))) ∧ (∃ (va2 : Int32) (zl2 : Nat → Int32), C1 (61) = .inr (5, [.ref (E.2.1 (62)), .ref (E.2.1 (63)), .ref (E.2.1 (64)), .int (nI (hn)), .ref (E.2.1 (65)), .int fl, .ref (E.2.1 (66)), .int (nI (ln)), .int (nI (colP G ln u0)), .int va2, .int so, .int se, .ref (E.2.1 (67)), .int (nI (tl))]) ∧ C1 (67) = .inl (E.2.2.1 1, 84, .inl zl2) ∧ ((colO G ln u0) → zl2 (k9 + 1) = opV G ln 0 7 u0 ∧ zl2 (k9 + 2) = nI (colK G ln u0)) ∧ (∀ z : Nat, z ≤ k9 → zl2 z = zl z)) ∧ (∀ i : Nat, ¬ i = 61 → ¬ i = 67 → C1 i = C i)) := by
  refine xM_ofY (cc := cX5_isColumn) (maxL := 2) (ret := (some .boolean)) (by decide) rfl (Nat.le_of_ble_eq_true rfl) ?_
  intro p e s m args below meth c X hr
  have inX5 : ∀ w ∈ wsX50, w ∈ wsX5_isColumn := by decide +kernel
  refine y_lv [(0, .ref (E.2.1 (61))), (1, .int (nI (k9)))] rfl ?_
  refine y_aload_n X dX5_isColumn_0 0 rfl ?_
  refine y_iload_n X dX5_isColumn_1 1 rfl ?_
  refine y_bipush X (v := (7)) dX5_isColumn_2 (by decide) ?_
  refine y_callV X (61) 5 (av := [.int (nI (k9)), .int (7)]) [] 2 (c_X5_isFirst (G := G) (u0 := u0) (tl := tl) (by omega) gl80 gX gG m0 m6 m7 (k9 := k9) (mo := 7) (by omega) (by omega)) (by omega) m0 rfl gX5_isColumn_X5_isFirst rfl (by decide +kernel) rfl ⟨Nat.le_of_ble_eq_true rfl, Nat.le_of_ble_eq_true rfl⟩ ⟨Nat.zero_le _, Nat.zero_le _⟩ (Nat.le_of_ble_eq_true rfl) rfl dX5_isColumn_4 (fun v_1 C_2 hp_3 => ?_)
  obtain ⟨gv4, ⟨vz4, zz4, gM4, gZ4, gW4, gK4⟩, gF4⟩ := hp_3
  rcases Decidable.em (opO G ln 0 (7) (u0)) with cf4 | cf4
  ·
    rw [bI_1 cf4] at gv4
    subst gv4
    have gY4 := gW4 cf4
    have gb4 := opP_b (G := G) (lw := 0) (mo := 7) (p := u0) (ln := ln) (by omega)
    have h_5 : C_2 (66) = .inl (E.2.2.1 1, 80, .inl zx) := (gF4 _ (by omega) (by omega)).trans m6
    refine y_if_eq X 17 ((1) = (0)) dX5_isColumn_7 (by decide) (nI_eq (a := 1) (b := 0) (by omega) (by omega)) (fun c_6 => ?_) (fun c_6 => ?_)
    ·
      exact absurd c_6 (by decide)
    ·
      refine y_aload_n X dX5_isColumn_10 0 rfl ?_
      refine y_callV X (61) 5 (av := []) [] 0 (c_X5_isKind (G := G) (u0 := opP G ln 0 (7) (u0)) (tl := tl) (by omega) gl80 gX gG gM4 h_5) (by omega) gM4 rfl gX5_isColumn_X5_isKind rfl (by decide +kernel) rfl ⟨Nat.le_of_ble_eq_true rfl, Nat.le_of_ble_eq_true rfl⟩ ⟨Nat.zero_le _, Nat.zero_le _⟩ (Nat.le_of_ble_eq_true rfl) rfl dX5_isColumn_11 (fun v_7 C_8 hp_9 => ?_)
      obtain ⟨gv10, ⟨vz10, gM10, gW10⟩, gF10⟩ := hp_9
      rcases Decidable.em (kdO G ln (opP G ln 0 (7) (u0))) with ck10 | ck10
      ·
        rw [bI_1 ck10] at gv10
        subst gv10
        have gY10 := gW10 ck10
        subst gY10
        have gb10 := kdP_b (G := G) (p := opP G ln 0 (7) (u0)) (ln := ln) (by omega)
        have h_11 : C_8 (66) = .inl (E.2.2.1 1, 80, .inl zx) := (gF10 _ (by omega)).trans h_5
        have h_12 : C_8 (67) = .inl (E.2.2.1 1, 84, .inl zz4) := (gF10 _ (by omega)).trans gZ4
        refine y_if_ne X 19 (¬ ((1) = (0))) dX5_isColumn_14 (by decide) (cNe (nI_eq (a := 1) (b := 0) (by omega) (by omega))) (fun c_13 => ?_) (fun c_13 => ?_)
        ·
          refine y_aload_n X dX5_isColumn_19 0 rfl ?_
          refine y_get X (61) 5 12 (Cn := RX5) (T := TX5) (N := 14) (index := 32) (v := .ref (E.2.1 (67))) dX5_isColumn_20 (by omega) gM10 rfl (by decide) inX5 (by decide +kernel : Cond.fieldLink RX5 32 "ColumnSeasonsModel" "told" "[I" ∈ wsX5_isColumn) rfl rfl ?_
          refine y_iload_n X dX5_isColumn_23 1 rfl ?_
          refine y_iconst X (v := (2)) dX5_isColumn_24 (by decide) ?_
          refine y_iadd X (z := (nI (k9 + 2))) dX5_isColumn_25 (nI_add (k9) (2)) ?_
          refine y_aload_n X dX5_isColumn_26 0 rfl ?_
          refine y_get X (61) 5 9 (Cn := RX5) (T := TX5) (N := 14) (index := 141) (v := .int (nI (kdK G ln (opP G ln 0 (7) (u0) + 1)))) dX5_isColumn_27 (by omega) gM10 rfl (by decide) inX5 (by decide +kernel : Cond.fieldLink RX5 141 "ColumnSeasonsModel" "value" "I" ∈ wsX5_isColumn) rfl rfl ?_
          refine y_iast X (67) dX5_isColumn_30 (by omega) h_12 (j := k9 + 2) rfl (by omega) (by omega) ?_
          refine y_mem (va_up C_8 (67) (.inl (E.2.2.1 1, 84, .inl (upd zz4 (k9 + 2) (nI (kdK G ln (opP G ln 0 (7) (u0) + 1))))))) rfl (fun C_14 eC_15 => ?_)
          have h_16 : C_14 (61) = .inr (5, [.ref (E.2.1 (62)), .ref (E.2.1 (63)), .ref (E.2.1 (64)), .int (nI (hn)), .ref (E.2.1 (65)), .int fl, .ref (E.2.1 (66)), .int (nI (ln)), .int (nI (kdP G ln (opP G ln 0 (7) (u0)))), .int (nI (kdK G ln (opP G ln 0 (7) (u0) + 1))), .int so, .int se, .ref (E.2.1 (67)), .int (nI (tl))]) := by rw [eC_15, va_up, if_neg (by omega)]; exact gM10
          have h_17 : C_14 (66) = .inl (E.2.2.1 1, 80, .inl zx) := by rw [eC_15, va_up, if_neg (by omega)]; exact h_11
          have h_18 : C_14 (67) = .inl (E.2.2.1 1, 84, .inl (upd zz4 (k9 + 2) (nI (kdK G ln (opP G ln 0 (7) (u0) + 1))))) := by rw [eC_15, va_up, if_pos rfl]
          refine y_iconst X (v := (1)) dX5_isColumn_31 (by decide) ?_
          exact y_zret X hr (by rfl) dX5_isColumn_32 rfl (by have g2 : colP G ln u0 = kdP G ln (opP G ln 0 (7) (u0)) := if_pos cf4; rw [g2]; have gO : colO G ln u0 := ⟨cf4, ck10⟩; exact ⟨congrArg (fun z => some (Value.int z)) (bI_1 gO).symm, ⟨_, _, h_16, h_18, fun _ => ⟨(pk_un (by omega)).trans gY4, pk_us⟩, (fun z q1 => (pk_un (by omega)).trans (gK4 z (by omega)))⟩, (fun i9 g9 g8 => by rw [eC_15, va_up, if_neg (by omega)]; rw [gF10 i9 (by omega)]; rw [gF4 i9 (by omega) (by omega)])⟩)
        ·
          have c_13 := Decidable.of_not_not c_13
          exact absurd c_13 (by decide)
      ·
        rw [bI_0 ck10] at gv10
        subst gv10
        have gb10 := kdP_b (G := G) (p := opP G ln 0 (7) (u0)) (ln := ln) (by omega)
        have h_19 : C_8 (66) = .inl (E.2.2.1 1, 80, .inl zx) := (gF10 _ (by omega)).trans h_5
        have h_20 : C_8 (67) = .inl (E.2.2.1 1, 84, .inl zz4) := (gF10 _ (by omega)).trans gZ4
        refine y_if_ne X 19 (¬ ((0) = (0))) dX5_isColumn_14 (by decide) (cNe (nI_eq (a := 0) (b := 0) (by omega) (by omega))) (fun c_21 => ?_) (fun c_21 => ?_)
        ·
          exact absurd c_21 (by decide)
        ·
          have c_21 := Decidable.of_not_not c_21
          refine y_iconst X (v := (0)) dX5_isColumn_17 (by decide) ?_
          exact y_zret X hr (by rfl) dX5_isColumn_18 rfl (by have g2 : colP G ln u0 = kdP G ln (opP G ln 0 (7) (u0)) := if_pos cf4; rw [g2]; have gN : ¬ (colO G ln u0) := (fun z => ck10 z.2); exact ⟨congrArg (fun z => some (Value.int z)) (bI_0 gN).symm, ⟨_, _, gM10, h_20, fun z => absurd z gN, (fun z q1 => gK4 z (by omega))⟩, (fun i9 g9 g8 => by rw [gF10 i9 (by omega)]; rw [gF4 i9 (by omega) (by omega)])⟩)
  ·
    rw [bI_0 cf4] at gv4
    subst gv4
    have gb4 := opP_b (G := G) (lw := 0) (mo := 7) (p := u0) (ln := ln) (by omega)
    have h_22 : C_2 (66) = .inl (E.2.2.1 1, 80, .inl zx) := (gF4 _ (by omega) (by omega)).trans m6
    refine y_if_eq X 17 ((0) = (0)) dX5_isColumn_7 (by decide) (nI_eq (a := 0) (b := 0) (by omega) (by omega)) (fun c_23 => ?_) (fun c_23 => ?_)
    ·
      refine y_iconst X (v := (0)) dX5_isColumn_17 (by decide) ?_
      exact y_zret X hr (by rfl) dX5_isColumn_18 rfl (by have g2 : colP G ln u0 = opP G ln 0 (7) (u0) := if_neg cf4; rw [g2]; have gN : ¬ (colO G ln u0) := (fun z => cf4 z.1); exact ⟨congrArg (fun z => some (Value.int z)) (bI_0 gN).symm, ⟨_, _, gM4, gZ4, fun z => absurd z gN, (fun z q1 => gK4 z (by omega))⟩, (fun i9 g9 g8 => by rw [gF4 i9 (by omega) (by omega)])⟩)
    ·
      exact absurd c_23 (by decide)

theorem most_N {l : Launch} {E : xE} {C : xC} {k : Nat} (h : k < 3) : xR E l yX5_most wsX5_most 0 0 [.int (nI k)] C (nI (hiN k)) := by
  rw [← hiK_N h]
  exact c_X5_most

set_option maxRecDepth 100000 in
set_option maxHeartbeats 4000000 in
theorem c_X5_isDefault {l : Launch} {E : xE} {C : xC} {G : Nat → Nat} {u0 hn ln tl : Nat} {fl so se va : Int32} {zl zx : Nat → Int32} (gp : u0 ≤ ln) (gl80 : ln ≤ 80) (gX : ∀ z : Nat, z < ln → zx z = nI (G z)) (gG : ∀ z : Nat, z < ln → G z < 65536) (m0 : C (61) = .inr (5, [.ref (E.2.1 (62)), .ref (E.2.1 (63)), .ref (E.2.1 (64)), .int (nI (hn)), .ref (E.2.1 (65)), .int fl, .ref (E.2.1 (66)), .int (nI (ln)), .int (nI (u0)), .int va, .int so, .int se, .ref (E.2.1 (67)), .int (nI (tl))])) (m6 : C (66) = .inl (E.2.2.1 1, 80, .inl zx)) (m7 : C (67) = .inl (E.2.2.1 1, 84, .inl zl)) {k9 kd : Nat} (gk9 : k9 ≤ 80) (gkd : kd < 3) (gzk : zl (k9 + 2) = nI kd) : xM E l yX5_isDefault wsX5_isDefault 5 111 [.ref (E.2.1 (61)), .int (nI (k9))] C (fun v C1 => v = some (.int (bI (dftO G ln kd u0))) ∧ (∃ (va2 : Int32) (zl2 : Nat → Int32), C1 (61) = .inr (5, [.ref (E.2.1 (62)), .ref (E.2.1 (63)), .ref (E.2.1 (64)), .int (nI (hn)), .ref (E.2.1 (65)), .int fl, .ref (E.2.1 (66)), .int (nI (ln)), .int (nI (dftP G ln kd u0)), .int va2, .int so, .int se, .ref (E.2.1 (67)), .int (nI (tl))]) ∧ C1 (67) = .inl (E.2.2.1 1, 84, .inl zl2) ∧ ((dftO G ln kd u0) → zl2 (k9 + 3) = dftV G ln kd u0) ∧ (∀ z : Nat, z < k9 + 3 → zl2 z = zl z)) ∧ (∀ i : Nat, ¬ i = 61 → ¬ i = 67 → C1 i = C i)) := by
  refine xM_ofY (cc := cX5_isDefault) (maxL := 4) (ret := (some .boolean)) (by decide) rfl (Nat.le_of_ble_eq_true rfl) ?_
  intro p e s m args below meth c X hr
  have inX5 : ∀ w ∈ wsX50, w ∈ wsX5_isDefault := by decide +kernel
  refine y_lv [(0, .ref (E.2.1 (61))), (1, .int (nI (k9)))] rfl ?_
  have gh9 := hiN_le (k := kd)
  refine y_aload_n X dX5_isDefault_0 0 rfl ?_
  refine y_get X (61) 5 12 (Cn := RX5) (T := TX5) (N := 14) (index := 32) (v := .ref (E.2.1 (67))) dX5_isDefault_1 (by omega) m0 rfl (by decide) inX5 (by decide +kernel : Cond.fieldLink RX5 32 "ColumnSeasonsModel" "told" "[I" ∈ wsX5_isDefault) rfl rfl ?_
  refine y_iload_n X dX5_isDefault_4 1 rfl ?_
  refine y_iconst X (v := (3)) dX5_isDefault_5 (by decide) ?_
  refine y_iadd X (z := (nI (k9 + 3))) dX5_isDefault_6 (nI_add (k9) (3)) ?_
  refine y_iconst X (v := (0)) dX5_isDefault_7 (by decide) ?_
  refine y_iast X (67) dX5_isDefault_8 (by omega) m7 (j := k9 + 3) rfl (by omega) (by omega) ?_
  refine y_mem (va_up C (67) (.inl (E.2.2.1 1, 84, .inl (upd zl (k9 + 3) (0))))) rfl (fun C_1 eC_2 => ?_)
  have h_3 : C_1 (61) = .inr (5, [.ref (E.2.1 (62)), .ref (E.2.1 (63)), .ref (E.2.1 (64)), .int (nI (hn)), .ref (E.2.1 (65)), .int fl, .ref (E.2.1 (66)), .int (nI (ln)), .int (nI (u0)), .int va, .int so, .int se, .ref (E.2.1 (67)), .int (nI (tl))]) := by rw [eC_2, va_up, if_neg (by omega)]; exact m0
  have h_4 : C_1 (66) = .inl (E.2.2.1 1, 80, .inl zx) := by rw [eC_2, va_up, if_neg (by omega)]; exact m6
  have h_5 : C_1 (67) = .inl (E.2.2.1 1, 84, .inl (upd zl (k9 + 3) (0))) := by rw [eC_2, va_up, if_pos rfl]
  refine y_aload_n X dX5_isDefault_9 0 rfl ?_
  refine y_bipush X (v := (32)) dX5_isDefault_10 (by decide) ?_
  refine y_bipush X (v := (32)) dX5_isDefault_12 (by decide) ?_
  refine y_callVr X (61) 5 (av := [.int (32), .int (32)]) [] 2 (c_X5_isAt (G := G) (u0 := u0) (tl := tl) (by omega) gl80 gX gG h_3 h_4 (lo0 := 32) (hi0 := 32) (by omega) (by omega)) (by omega) h_3 rfl gX5_isDefault_X5_isAt rfl (by decide +kernel) rfl ⟨Nat.le_of_ble_eq_true rfl, Nat.le_of_ble_eq_true rfl⟩ ⟨Nat.zero_le _, Nat.zero_le _⟩ (Nat.le_of_ble_eq_true rfl) rfl dX5_isDefault_14 ?_
  refine y_if_ne X 22 ((u0) < ln ∧ ((32) ≤ G (u0) ∧ G (u0) ≤ (32))) dX5_isDefault_17 (by decide) bI_ne (fun c_6 => ?_) (fun c_6 => ?_)
  ·
    refine y_aload_n X dX5_isDefault_22 0 rfl ?_
    refine y_get X (61) 5 12 (Cn := RX5) (T := TX5) (N := 14) (index := 32) (v := .ref (E.2.1 (67))) dX5_isDefault_23 (by omega) h_3 rfl (by decide) inX5 (by decide +kernel : Cond.fieldLink RX5 32 "ColumnSeasonsModel" "told" "[I" ∈ wsX5_isDefault) rfl rfl ?_
    refine y_iload_n X dX5_isDefault_26 1 rfl ?_
    refine y_iconst X (v := (2)) dX5_isDefault_27 (by decide) ?_
    refine y_iadd X (z := (nI (k9 + 2))) dX5_isDefault_28 (nI_add (k9) (2)) ?_
    refine y_iald X (67) dX5_isDefault_29 (by omega) h_5 (j := k9 + 2) rfl (by omega) (by omega) (z := (nI (kd))) ((pk_un (by omega)).trans gzk) ?_
    refine y_istore_n X [(2, .int (nI (kd))), (0, .ref (E.2.1 (61))), (1, .int (nI (k9)))] dX5_isDefault_30 rfl (by decide) rfl ?_
    refine y_aload_n X dX5_isDefault_31 1 rfl ?_
    refine y_iload_n X dX5_isDefault_32 0 rfl ?_
    refine y_callJr X (av := [.int (nI (kd))]) [.ref (E.2.1 (61))] 1 (c_X5_least (x := nI kd)) gX5_isDefault_X5_least rfl (by decide +kernel) rfl ⟨Nat.le_of_ble_eq_true rfl, Nat.le_of_ble_eq_true rfl⟩ ⟨Nat.zero_le _, Nat.zero_le _⟩ (Nat.le_of_ble_eq_true rfl) rfl dX5_isDefault_33 ?_
    refine y_iload_n X dX5_isDefault_36 0 rfl ?_
    refine y_callJr X (av := [.int (nI (kd))]) [.int (loK (nI kd)), .ref (E.2.1 (61))] 1 (most_N gkd) gX5_isDefault_X5_most rfl (by decide +kernel) rfl ⟨Nat.le_of_ble_eq_true rfl, Nat.le_of_ble_eq_true rfl⟩ ⟨Nat.zero_le _, Nat.zero_le _⟩ (Nat.le_of_ble_eq_true rfl) rfl dX5_isDefault_37 ?_
    refine y_callV X (61) 5 (av := [.int (loK (nI kd)), .int (nI (hiN kd))]) [] 2 (c_X5_isNext (G := G) (u0 := u0) (tl := tl) (by omega) gl80 gX gG h_3 h_4 (lw := (loK (nI kd))) (mo := hiN kd) (by omega)) (by omega) h_3 rfl gX5_isDefault_X5_isNext rfl (by decide +kernel) rfl ⟨Nat.le_of_ble_eq_true rfl, Nat.le_of_ble_eq_true rfl⟩ ⟨Nat.zero_le _, Nat.zero_le _⟩ (Nat.le_of_ble_eq_true rfl) rfl dX5_isDefault_40 (fun v_7 C_8 hp_9 => ?_)
    obtain ⟨gv10, ⟨vz10, gM10, gW10⟩, gF10⟩ := hp_9
    rcases Decidable.em (opO G ln (loK (nI kd)) (hiN kd) (u0)) with co10 | co10
    ·
      rw [bI_1 co10] at gv10
      subst gv10
      have gY10 := gW10 co10
      subst gY10
      have gb10 := opP_b (G := G) (lw := (loK (nI kd))) (mo := hiN kd) (p := u0) (ln := ln) (by omega)
      have h_11 : C_8 (66) = .inl (E.2.2.1 1, 80, .inl zx) := (gF10 _ (by omega)).trans h_4
      have h_12 : C_8 (67) = .inl (E.2.2.1 1, 84, .inl (upd zl (k9 + 3) (0))) := (gF10 _ (by omega)).trans h_5
      refine y_istore_n X [(3, .int (1)), (2, .int (nI (kd))), (0, .ref (E.2.1 (61))), (1, .int (nI (k9)))] dX5_isDefault_43 rfl (by decide) rfl ?_
      refine y_aload_n X dX5_isDefault_44 2 rfl ?_
      refine y_get X (61) 5 12 (Cn := RX5) (T := TX5) (N := 14) (index := 32) (v := .ref (E.2.1 (67))) dX5_isDefault_45 (by omega) gM10 rfl (by decide) inX5 (by decide +kernel : Cond.fieldLink RX5 32 "ColumnSeasonsModel" "told" "[I" ∈ wsX5_isDefault) rfl rfl ?_
      refine y_iload_n X dX5_isDefault_48 3 rfl ?_
      refine y_iconst X (v := (3)) dX5_isDefault_49 (by decide) ?_
      refine y_iadd X (z := (nI (k9 + 3))) dX5_isDefault_50 (nI_add (k9) (3)) ?_
      refine y_aload_n X dX5_isDefault_51 2 rfl ?_
      refine y_get X (61) 5 9 (Cn := RX5) (T := TX5) (N := 14) (index := 141) (v := .int (opV G ln (loK (nI kd)) (hiN kd) (u0))) dX5_isDefault_52 (by omega) gM10 rfl (by decide) inX5 (by decide +kernel : Cond.fieldLink RX5 141 "ColumnSeasonsModel" "value" "I" ∈ wsX5_isDefault) rfl rfl ?_
      refine y_iast X (67) dX5_isDefault_55 (by omega) h_12 (j := k9 + 3) rfl (by omega) (by omega) ?_
      refine y_mem (va_up C_8 (67) (.inl (E.2.2.1 1, 84, .inl (upd (upd zl (k9 + 3) (0)) (k9 + 3) (opV G ln (loK (nI kd)) (hiN kd) (u0)))))) rfl (fun C_13 eC_14 => ?_)
      have h_15 : C_13 (61) = .inr (5, [.ref (E.2.1 (62)), .ref (E.2.1 (63)), .ref (E.2.1 (64)), .int (nI (hn)), .ref (E.2.1 (65)), .int fl, .ref (E.2.1 (66)), .int (nI (ln)), .int (nI (opP G ln (loK (nI kd)) (hiN kd) (u0))), .int (opV G ln (loK (nI kd)) (hiN kd) (u0)), .int so, .int se, .ref (E.2.1 (67)), .int (nI (tl))]) := by rw [eC_14, va_up, if_neg (by omega)]; exact gM10
      have h_16 : C_13 (66) = .inl (E.2.2.1 1, 80, .inl zx) := by rw [eC_14, va_up, if_neg (by omega)]; exact h_11
      have h_17 : C_13 (67) = .inl (E.2.2.1 1, 84, .inl (upd (upd zl (k9 + 3) (0)) (k9 + 3) (opV G ln (loK (nI kd)) (hiN kd) (u0)))) := by rw [eC_14, va_up, if_pos rfl]
      refine y_iload_n X dX5_isDefault_56 0 rfl ?_
      exact y_zret X hr (by rfl) dX5_isDefault_57 rfl (by have g2 : dftP G ln kd u0 = opP G ln (loK (nI kd)) (hiN kd) (u0) := rfl; rw [g2]; have gO : dftO G ln kd u0 := (Or.inr co10); exact ⟨congrArg (fun z => some (Value.int z)) (bI_1 gO).symm, ⟨_, _, h_15, h_17, fun _ => (pk_us.trans (if_pos (chA_2.mp c_6)).symm), (fun z q1 => (pk_un (by omega)).trans (pk_un (by omega)))⟩, (fun i9 g9 g8 => by rw [eC_14, va_up, if_neg (by omega)]; rw [gF10 i9 (by omega)]; rw [eC_2, va_up, if_neg (by omega)])⟩)
    ·
      rw [bI_0 co10] at gv10
      subst gv10
      have gb10 := opP_b (G := G) (lw := (loK (nI kd))) (mo := hiN kd) (p := u0) (ln := ln) (by omega)
      have h_18 : C_8 (66) = .inl (E.2.2.1 1, 80, .inl zx) := (gF10 _ (by omega)).trans h_4
      have h_19 : C_8 (67) = .inl (E.2.2.1 1, 84, .inl (upd zl (k9 + 3) (0))) := (gF10 _ (by omega)).trans h_5
      refine y_istore_n X [(3, .int (0)), (2, .int (nI (kd))), (0, .ref (E.2.1 (61))), (1, .int (nI (k9)))] dX5_isDefault_43 rfl (by decide) rfl ?_
      refine y_aload_n X dX5_isDefault_44 2 rfl ?_
      refine y_get X (61) 5 12 (Cn := RX5) (T := TX5) (N := 14) (index := 32) (v := .ref (E.2.1 (67))) dX5_isDefault_45 (by omega) gM10 rfl (by decide) inX5 (by decide +kernel : Cond.fieldLink RX5 32 "ColumnSeasonsModel" "told" "[I" ∈ wsX5_isDefault) rfl rfl ?_
      refine y_iload_n X dX5_isDefault_48 3 rfl ?_
      refine y_iconst X (v := (3)) dX5_isDefault_49 (by decide) ?_
      refine y_iadd X (z := (nI (k9 + 3))) dX5_isDefault_50 (nI_add (k9) (3)) ?_
      refine y_aload_n X dX5_isDefault_51 2 rfl ?_
      refine y_get X (61) 5 9 (Cn := RX5) (T := TX5) (N := 14) (index := 141) (v := .int vz10) dX5_isDefault_52 (by omega) gM10 rfl (by decide) inX5 (by decide +kernel : Cond.fieldLink RX5 141 "ColumnSeasonsModel" "value" "I" ∈ wsX5_isDefault) rfl rfl ?_
      refine y_iast X (67) dX5_isDefault_55 (by omega) h_19 (j := k9 + 3) rfl (by omega) (by omega) ?_
      refine y_mem (va_up C_8 (67) (.inl (E.2.2.1 1, 84, .inl (upd (upd zl (k9 + 3) (0)) (k9 + 3) vz10)))) rfl (fun C_20 eC_21 => ?_)
      have h_22 : C_20 (61) = .inr (5, [.ref (E.2.1 (62)), .ref (E.2.1 (63)), .ref (E.2.1 (64)), .int (nI (hn)), .ref (E.2.1 (65)), .int fl, .ref (E.2.1 (66)), .int (nI (ln)), .int (nI (opP G ln (loK (nI kd)) (hiN kd) (u0))), .int vz10, .int so, .int se, .ref (E.2.1 (67)), .int (nI (tl))]) := by rw [eC_21, va_up, if_neg (by omega)]; exact gM10
      have h_23 : C_20 (66) = .inl (E.2.2.1 1, 80, .inl zx) := by rw [eC_21, va_up, if_neg (by omega)]; exact h_18
      have h_24 : C_20 (67) = .inl (E.2.2.1 1, 84, .inl (upd (upd zl (k9 + 3) (0)) (k9 + 3) vz10)) := by rw [eC_21, va_up, if_pos rfl]
      refine y_iload_n X dX5_isDefault_56 0 rfl ?_
      exact y_zret X hr (by rfl) dX5_isDefault_57 rfl (by have g2 : dftP G ln kd u0 = opP G ln (loK (nI kd)) (hiN kd) (u0) := rfl; rw [g2]; have gN : ¬ (dftO G ln kd u0) := (fun z => z.elim (fun z2 => z2 (chA_2.mp c_6)) co10); exact ⟨congrArg (fun z => some (Value.int z)) (bI_0 gN).symm, ⟨_, _, h_22, h_24, fun z => absurd z gN, (fun z q1 => (pk_un (by omega)).trans (pk_un (by omega)))⟩, (fun i9 g9 g8 => by rw [eC_21, va_up, if_neg (by omega)]; rw [gF10 i9 (by omega)]; rw [eC_2, va_up, if_neg (by omega)])⟩)
  ·
    refine y_iconst X (v := (1)) dX5_isDefault_20 (by decide) ?_
    exact y_zret X hr (by rfl) dX5_isDefault_21 rfl (by have g2 : dftP G ln kd u0 = u0 := if_neg (fun z => c_6 (chA_2.mpr z)); rw [g2]; have gO : dftO G ln kd u0 := (Or.inl (fun z => c_6 (chA_2.mpr z))); exact ⟨congrArg (fun z => some (Value.int z)) (bI_1 gO).symm, ⟨_, _, h_3, h_5, fun _ => (pk_us.trans (if_neg (fun z => c_6 (chA_2.mpr z))).symm), (fun z q1 => pk_un (by omega))⟩, (fun i9 g9 g8 => by rw [eC_2, va_up, if_neg (by omega)])⟩)

set_option maxRecDepth 100000 in
set_option maxHeartbeats 4000000 in
theorem c_X5_isSetting {l : Launch} {E : xE} {C : xC} {G : Nat → Nat} {u0 hn ln tl : Nat} {fl so se va : Int32} {zl zx : Nat → Int32} (gp : u0 ≤ ln) (gl80 : ln ≤ 80) (gX : ∀ z : Nat, z < ln → zx z = nI (G z)) (gG : ∀ z : Nat, z < ln → G z < 65536) (m0 : C (61) = .inr (5, [.ref (E.2.1 (62)), .ref (E.2.1 (63)), .ref (E.2.1 (64)), .int (nI (hn)), .ref (E.2.1 (65)), .int fl, .ref (E.2.1 (66)), .int (nI (ln)), .int (nI (u0)), .int va, .int so, .int se, .ref (E.2.1 (67)), .int (nI (tl))])) (m6 : C (66) = .inl (E.2.2.1 1, 80, .inl zx)) (m7 : C (67) = .inl (E.2.2.1 1, 84, .inl zl)) {k9 : Nat} (gk9 : k9 ≤ 80) : xM E l yX5_isSetting wsX5_isSetting 5 111 [.ref (E.2.1 (61)), .int (nI (k9))] C (fun v C1 => v = some (.int (bI (seO G ln u0))) ∧ (∃ (va2 : Int32) (zl2 : Nat → Int32), C1 (61) = .inr (5, [.ref (E.2.1 (62)), .ref (E.2.1 (63)), .ref (E.2.1 (64)), .int (nI (hn)), .ref (E.2.1 (65)), .int fl, .ref (E.2.1 (66)), .int (nI (ln)), .int (nI (seP G ln u0)), .int va2, .int so, .int se, .ref (E.2.1 (67)), .int (nI (tl))]) ∧ C1 (67) = .inl (E.2.2.1 1, 84, .inl zl2) ∧ ((seO G ln u0) → zl2 (k9 + 2) = opV G ln 0 7 u0 ∧ zl2 (k9 + 3) = opV G ln (-9999) 9999 (opP G ln 0 7 u0)) ∧ (∀ z : Nat, z < k9 + 2 → zl2 z = zl z)) ∧ (∀ i : Nat, ¬ i = 61 → ¬ i = 67 → C1 i = C i)) := by
  refine xM_ofY (cc := cX5_isSetting) (maxL := 3) (ret := (some .boolean)) (by decide) rfl (Nat.le_of_ble_eq_true rfl) ?_
  intro p e s m args below meth c X hr
  have inX5 : ∀ w ∈ wsX50, w ∈ wsX5_isSetting := by decide +kernel
  refine y_lv [(0, .ref (E.2.1 (61))), (1, .int (nI (k9)))] rfl ?_
  refine y_aload_n X dX5_isSetting_0 0 rfl ?_
  refine y_iconst X (v := (0)) dX5_isSetting_1 (by decide) ?_
  refine y_bipush X (v := (7)) dX5_isSetting_2 (by decide) ?_
  refine y_callV X (61) 5 (av := [.int (0), .int (7)]) [] 2 (c_X5_isNext (G := G) (u0 := u0) (tl := tl) (by omega) gl80 gX gG m0 m6 (lw := (0)) (mo := 7) (by omega)) (by omega) m0 rfl gX5_isSetting_X5_isNext rfl (by decide +kernel) rfl ⟨Nat.le_of_ble_eq_true rfl, Nat.le_of_ble_eq_true rfl⟩ ⟨Nat.zero_le _, Nat.zero_le _⟩ (Nat.le_of_ble_eq_true rfl) rfl dX5_isSetting_4 (fun v_1 C_2 hp_3 => ?_)
  obtain ⟨gv4, ⟨vz4, gM4, gW4⟩, gF4⟩ := hp_3
  rcases Decidable.em (opO G ln (0) (7) (u0)) with co4 | co4
  ·
    rw [bI_1 co4] at gv4
    subst gv4
    have gY4 := gW4 co4
    subst gY4
    have gb4 := opP_b (G := G) (lw := (0)) (mo := 7) (p := u0) (ln := ln) (by omega)
    have h_5 : C_2 (66) = .inl (E.2.2.1 1, 80, .inl zx) := (gF4 _ (by omega)).trans m6
    have h_6 : C_2 (67) = .inl (E.2.2.1 1, 84, .inl zl) := (gF4 _ (by omega)).trans m7
    refine y_if_ne X 12 (¬ ((1) = (0))) dX5_isSetting_7 (by decide) (cNe (nI_eq (a := 1) (b := 0) (by omega) (by omega))) (fun c_7 => ?_) (fun c_7 => ?_)
    ·
      refine y_aload_n X dX5_isSetting_12 0 rfl ?_
      refine y_get X (61) 5 12 (Cn := RX5) (T := TX5) (N := 14) (index := 32) (v := .ref (E.2.1 (67))) dX5_isSetting_13 (by omega) gM4 rfl (by decide) inX5 (by decide +kernel : Cond.fieldLink RX5 32 "ColumnSeasonsModel" "told" "[I" ∈ wsX5_isSetting) rfl rfl ?_
      refine y_iload_n X dX5_isSetting_16 1 rfl ?_
      refine y_iconst X (v := (2)) dX5_isSetting_17 (by decide) ?_
      refine y_iadd X (z := (nI (k9 + 2))) dX5_isSetting_18 (nI_add (k9) (2)) ?_
      refine y_aload_n X dX5_isSetting_19 0 rfl ?_
      refine y_get X (61) 5 9 (Cn := RX5) (T := TX5) (N := 14) (index := 141) (v := .int (opV G ln (0) (7) (u0))) dX5_isSetting_20 (by omega) gM4 rfl (by decide) inX5 (by decide +kernel : Cond.fieldLink RX5 141 "ColumnSeasonsModel" "value" "I" ∈ wsX5_isSetting) rfl rfl ?_
      refine y_iast X (67) dX5_isSetting_23 (by omega) h_6 (j := k9 + 2) rfl (by omega) (by omega) ?_
      refine y_mem (va_up C_2 (67) (.inl (E.2.2.1 1, 84, .inl (upd zl (k9 + 2) (opV G ln (0) (7) (u0)))))) rfl (fun C_8 eC_9 => ?_)
      have h_10 : C_8 (61) = .inr (5, [.ref (E.2.1 (62)), .ref (E.2.1 (63)), .ref (E.2.1 (64)), .int (nI (hn)), .ref (E.2.1 (65)), .int fl, .ref (E.2.1 (66)), .int (nI (ln)), .int (nI (opP G ln (0) (7) (u0))), .int (opV G ln (0) (7) (u0)), .int so, .int se, .ref (E.2.1 (67)), .int (nI (tl))]) := by rw [eC_9, va_up, if_neg (by omega)]; exact gM4
      have h_11 : C_8 (66) = .inl (E.2.2.1 1, 80, .inl zx) := by rw [eC_9, va_up, if_neg (by omega)]; exact h_5
      have h_12 : C_8 (67) = .inl (E.2.2.1 1, 84, .inl (upd zl (k9 + 2) (opV G ln (0) (7) (u0)))) := by rw [eC_9, va_up, if_pos rfl]
      refine y_aload_n X dX5_isSetting_24 0 rfl ?_
      refine y_sipush X (v := (-9999)) dX5_isSetting_25 (by decide) ?_
      refine y_sipush X (v := (9999)) dX5_isSetting_28 (by decide) ?_
      refine y_callV X (61) 5 (av := [.int (-9999), .int (9999)]) [] 2 (c_X5_isNext (G := G) (u0 := opP G ln (0) (7) (u0)) (tl := tl) (by omega) gl80 gX gG h_10 h_11 (lw := (-9999)) (mo := 9999) (by omega)) (by omega) h_10 rfl gX5_isSetting_X5_isNext rfl (by decide +kernel) rfl ⟨Nat.le_of_ble_eq_true rfl, Nat.le_of_ble_eq_true rfl⟩ ⟨Nat.zero_le _, Nat.zero_le _⟩ (Nat.le_of_ble_eq_true rfl) rfl dX5_isSetting_31 (fun v_13 C_14 hp_15 => ?_)
      obtain ⟨gv16, ⟨vz16, gM16, gW16⟩, gF16⟩ := hp_15
      rcases Decidable.em (opO G ln (-9999) (9999) (opP G ln (0) (7) (u0))) with co16 | co16
      ·
        rw [bI_1 co16] at gv16
        subst gv16
        have gY16 := gW16 co16
        subst gY16
        have gb16 := opP_b (G := G) (lw := (-9999)) (mo := 9999) (p := opP G ln (0) (7) (u0)) (ln := ln) (by omega)
        have h_17 : C_14 (66) = .inl (E.2.2.1 1, 80, .inl zx) := (gF16 _ (by omega)).trans h_11
        have h_18 : C_14 (67) = .inl (E.2.2.1 1, 84, .inl (upd zl (k9 + 2) (opV G ln (0) (7) (u0)))) := (gF16 _ (by omega)).trans h_12
        refine y_istore_n X [(2, .int (1)), (0, .ref (E.2.1 (61))), (1, .int (nI (k9)))] dX5_isSetting_34 rfl (by decide) rfl ?_
        refine y_aload_n X dX5_isSetting_35 1 rfl ?_
        refine y_get X (61) 5 12 (Cn := RX5) (T := TX5) (N := 14) (index := 32) (v := .ref (E.2.1 (67))) dX5_isSetting_36 (by omega) gM16 rfl (by decide) inX5 (by decide +kernel : Cond.fieldLink RX5 32 "ColumnSeasonsModel" "told" "[I" ∈ wsX5_isSetting) rfl rfl ?_
        refine y_iload_n X dX5_isSetting_39 2 rfl ?_
        refine y_iconst X (v := (3)) dX5_isSetting_40 (by decide) ?_
        refine y_iadd X (z := (nI (k9 + 3))) dX5_isSetting_41 (nI_add (k9) (3)) ?_
        refine y_aload_n X dX5_isSetting_42 1 rfl ?_
        refine y_get X (61) 5 9 (Cn := RX5) (T := TX5) (N := 14) (index := 141) (v := .int (opV G ln (-9999) (9999) (opP G ln (0) (7) (u0)))) dX5_isSetting_43 (by omega) gM16 rfl (by decide) inX5 (by decide +kernel : Cond.fieldLink RX5 141 "ColumnSeasonsModel" "value" "I" ∈ wsX5_isSetting) rfl rfl ?_
        refine y_iast X (67) dX5_isSetting_46 (by omega) h_18 (j := k9 + 3) rfl (by omega) (by omega) ?_
        refine y_mem (va_up C_14 (67) (.inl (E.2.2.1 1, 84, .inl (upd (upd zl (k9 + 2) (opV G ln (0) (7) (u0))) (k9 + 3) (opV G ln (-9999) (9999) (opP G ln (0) (7) (u0))))))) rfl (fun C_19 eC_20 => ?_)
        have h_21 : C_19 (61) = .inr (5, [.ref (E.2.1 (62)), .ref (E.2.1 (63)), .ref (E.2.1 (64)), .int (nI (hn)), .ref (E.2.1 (65)), .int fl, .ref (E.2.1 (66)), .int (nI (ln)), .int (nI (opP G ln (-9999) (9999) (opP G ln (0) (7) (u0)))), .int (opV G ln (-9999) (9999) (opP G ln (0) (7) (u0))), .int so, .int se, .ref (E.2.1 (67)), .int (nI (tl))]) := by rw [eC_20, va_up, if_neg (by omega)]; exact gM16
        have h_22 : C_19 (66) = .inl (E.2.2.1 1, 80, .inl zx) := by rw [eC_20, va_up, if_neg (by omega)]; exact h_17
        have h_23 : C_19 (67) = .inl (E.2.2.1 1, 84, .inl (upd (upd zl (k9 + 2) (opV G ln (0) (7) (u0))) (k9 + 3) (opV G ln (-9999) (9999) (opP G ln (0) (7) (u0))))) := by rw [eC_20, va_up, if_pos rfl]
        refine y_iload_n X dX5_isSetting_47 0 rfl ?_
        exact y_zret X hr (by rfl) dX5_isSetting_48 rfl (by have g2 : seP G ln u0 = opP G ln (-9999) (9999) (opP G ln (0) (7) (u0)) := if_pos co4; rw [g2]; have gO : seO G ln u0 := ⟨co4, co16⟩; exact ⟨congrArg (fun z => some (Value.int z)) (bI_1 gO).symm, ⟨_, _, h_21, h_23, fun _ => ⟨(pk_un (by omega)).trans pk_us, pk_us⟩, (fun z q1 => (pk_un (by omega)).trans (pk_un (by omega)))⟩, (fun i9 g9 g8 => by rw [eC_20, va_up, if_neg (by omega)]; rw [gF16 i9 (by omega)]; rw [eC_9, va_up, if_neg (by omega)]; rw [gF4 i9 (by omega)])⟩)
      ·
        rw [bI_0 co16] at gv16
        subst gv16
        have gb16 := opP_b (G := G) (lw := (-9999)) (mo := 9999) (p := opP G ln (0) (7) (u0)) (ln := ln) (by omega)
        have h_24 : C_14 (66) = .inl (E.2.2.1 1, 80, .inl zx) := (gF16 _ (by omega)).trans h_11
        have h_25 : C_14 (67) = .inl (E.2.2.1 1, 84, .inl (upd zl (k9 + 2) (opV G ln (0) (7) (u0)))) := (gF16 _ (by omega)).trans h_12
        refine y_istore_n X [(2, .int (0)), (0, .ref (E.2.1 (61))), (1, .int (nI (k9)))] dX5_isSetting_34 rfl (by decide) rfl ?_
        refine y_aload_n X dX5_isSetting_35 1 rfl ?_
        refine y_get X (61) 5 12 (Cn := RX5) (T := TX5) (N := 14) (index := 32) (v := .ref (E.2.1 (67))) dX5_isSetting_36 (by omega) gM16 rfl (by decide) inX5 (by decide +kernel : Cond.fieldLink RX5 32 "ColumnSeasonsModel" "told" "[I" ∈ wsX5_isSetting) rfl rfl ?_
        refine y_iload_n X dX5_isSetting_39 2 rfl ?_
        refine y_iconst X (v := (3)) dX5_isSetting_40 (by decide) ?_
        refine y_iadd X (z := (nI (k9 + 3))) dX5_isSetting_41 (nI_add (k9) (3)) ?_
        refine y_aload_n X dX5_isSetting_42 1 rfl ?_
        refine y_get X (61) 5 9 (Cn := RX5) (T := TX5) (N := 14) (index := 141) (v := .int vz16) dX5_isSetting_43 (by omega) gM16 rfl (by decide) inX5 (by decide +kernel : Cond.fieldLink RX5 141 "ColumnSeasonsModel" "value" "I" ∈ wsX5_isSetting) rfl rfl ?_
        refine y_iast X (67) dX5_isSetting_46 (by omega) h_25 (j := k9 + 3) rfl (by omega) (by omega) ?_
        refine y_mem (va_up C_14 (67) (.inl (E.2.2.1 1, 84, .inl (upd (upd zl (k9 + 2) (opV G ln (0) (7) (u0))) (k9 + 3) vz16)))) rfl (fun C_26 eC_27 => ?_)
        have h_28 : C_26 (61) = .inr (5, [.ref (E.2.1 (62)), .ref (E.2.1 (63)), .ref (E.2.1 (64)), .int (nI (hn)), .ref (E.2.1 (65)), .int fl, .ref (E.2.1 (66)), .int (nI (ln)), .int (nI (opP G ln (-9999) (9999) (opP G ln (0) (7) (u0)))), .int vz16, .int so, .int se, .ref (E.2.1 (67)), .int (nI (tl))]) := by rw [eC_27, va_up, if_neg (by omega)]; exact gM16
        have h_29 : C_26 (66) = .inl (E.2.2.1 1, 80, .inl zx) := by rw [eC_27, va_up, if_neg (by omega)]; exact h_24
        have h_30 : C_26 (67) = .inl (E.2.2.1 1, 84, .inl (upd (upd zl (k9 + 2) (opV G ln (0) (7) (u0))) (k9 + 3) vz16)) := by rw [eC_27, va_up, if_pos rfl]
        refine y_iload_n X dX5_isSetting_47 0 rfl ?_
        exact y_zret X hr (by rfl) dX5_isSetting_48 rfl (by have g2 : seP G ln u0 = opP G ln (-9999) (9999) (opP G ln (0) (7) (u0)) := if_pos co4; rw [g2]; have gN : ¬ (seO G ln u0) := (fun z => co16 z.2); exact ⟨congrArg (fun z => some (Value.int z)) (bI_0 gN).symm, ⟨_, _, h_28, h_30, fun z => absurd z gN, (fun z q1 => (pk_un (by omega)).trans (pk_un (by omega)))⟩, (fun i9 g9 g8 => by rw [eC_27, va_up, if_neg (by omega)]; rw [gF16 i9 (by omega)]; rw [eC_9, va_up, if_neg (by omega)]; rw [gF4 i9 (by omega)])⟩)
    ·
      have c_7 := Decidable.of_not_not c_7
      exact absurd c_7 (by decide)
  ·
    rw [bI_0 co4] at gv4
    subst gv4
    have gb4 := opP_b (G := G) (lw := (0)) (mo := 7) (p := u0) (ln := ln) (by omega)
    have h_31 : C_2 (66) = .inl (E.2.2.1 1, 80, .inl zx) := (gF4 _ (by omega)).trans m6
    have h_32 : C_2 (67) = .inl (E.2.2.1 1, 84, .inl zl) := (gF4 _ (by omega)).trans m7
    refine y_if_ne X 12 (¬ ((0) = (0))) dX5_isSetting_7 (by decide) (cNe (nI_eq (a := 0) (b := 0) (by omega) (by omega))) (fun c_33 => ?_) (fun c_33 => ?_)
    ·
      exact absurd c_33 (by decide)
    ·
      have c_33 := Decidable.of_not_not c_33
      refine y_iconst X (v := (0)) dX5_isSetting_10 (by decide) ?_
      exact y_zret X hr (by rfl) dX5_isSetting_11 rfl (by have g2 : seP G ln u0 = opP G ln (0) (7) (u0) := if_neg co4; rw [g2]; have gN : ¬ (seO G ln u0) := (fun z => co4 z.1); exact ⟨congrArg (fun z => some (Value.int z)) (bI_0 gN).symm, ⟨_, _, gM4, h_32, fun z => absurd z gN, (fun _ _ => rfl)⟩, (fun i9 g9 g8 => by rw [gF4 i9 (by omega)])⟩)

set_option maxRecDepth 100000 in
set_option maxHeartbeats 4000000 in
theorem c_X5_isPart {l : Launch} {E : xE} {C : xC} {G : Nat → Nat} {u0 hn ln tl : Nat} {fl so se va : Int32} {zl zx : Nat → Int32} (gp : u0 ≤ ln) (gl80 : ln ≤ 80) (gX : ∀ z : Nat, z < ln → zx z = nI (G z)) (gG : ∀ z : Nat, z < ln → G z < 65536) (m0 : C (61) = .inr (5, [.ref (E.2.1 (62)), .ref (E.2.1 (63)), .ref (E.2.1 (64)), .int (nI (hn)), .ref (E.2.1 (65)), .int fl, .ref (E.2.1 (66)), .int (nI (ln)), .int (nI (u0)), .int va, .int so, .int se, .ref (E.2.1 (67)), .int (nI (tl))])) (m6 : C (66) = .inl (E.2.2.1 1, 80, .inl zx)) (m7 : C (67) = .inl (E.2.2.1 1, 84, .inl zl)) (gtl : tl ≤ 20) : xM E l yX5_isPart wsX5_isPart 7 155 [.ref (E.2.1 (61))] C (fun v C1 => v = some (.int (bI (cmO G ln u0))) ∧ (∃ (va2 : Int32) (zl2 : Nat → Int32), C1 (61) = .inr (5, [.ref (E.2.1 (62)), .ref (E.2.1 (63)), .ref (E.2.1 (64)), .int (nI (hn)), .ref (E.2.1 (65)), .int fl, .ref (E.2.1 (66)), .int (nI (ln)), .int (nI (cmP G ln u0)), .int va2, .int so, .int se, .ref (E.2.1 (67)), .int (nI (tl))]) ∧ C1 (67) = .inl (E.2.2.1 1, 84, .inl zl2) ∧ ((cmO G ln u0) → TD zl2 (4 * tl) G ln u0) ∧ (∀ z : Nat, z < 4 * tl → zl2 z = zl z)) ∧ (∀ i : Nat, ¬ i = 61 → ¬ i = 67 → C1 i = C i)) := by
  refine xM_ofY (cc := cX5_isPart) (maxL := 2) (ret := (some .boolean)) (by decide) rfl (Nat.le_of_ble_eq_true rfl) ?_
  intro p e s m args below meth c X hr
  have inX5 : ∀ w ∈ wsX50, w ∈ wsX5_isPart := by decide +kernel
  refine y_lv [(0, .ref (E.2.1 (61)))] rfl ?_
  refine y_iconst X (v := (4)) dX5_isPart_0 (by decide) ?_
  refine y_aload_n X dX5_isPart_1 0 rfl ?_
  refine y_get X (61) 5 13 (Cn := RX5) (T := TX5) (N := 14) (index := 151) (v := .int (nI (tl))) dX5_isPart_2 (by omega) m0 rfl (by decide) inX5 (by decide +kernel : Cond.fieldLink RX5 151 "ColumnSeasonsModel" "tolds" "I" ∈ wsX5_isPart) rfl rfl ?_
  refine y_imul X (z := (nI ((4) * (tl)))) dX5_isPart_5 (pk_mul (4) (tl)) ?_
  refine y_istore_n X [(1, .int (nI ((4) * (tl)))), (0, .ref (E.2.1 (61)))] dX5_isPart_6 rfl (by decide) rfl ?_
  refine y_aload_n X dX5_isPart_7 1 rfl ?_
  refine y_get X (61) 5 12 (Cn := RX5) (T := TX5) (N := 14) (index := 32) (v := .ref (E.2.1 (67))) dX5_isPart_8 (by omega) m0 rfl (by decide) inX5 (by decide +kernel : Cond.fieldLink RX5 32 "ColumnSeasonsModel" "told" "[I" ∈ wsX5_isPart) rfl rfl ?_
  refine y_iload_n X dX5_isPart_11 0 rfl ?_
  refine y_aload_n X dX5_isPart_12 1 rfl ?_
  refine y_get X (61) 5 8 (Cn := RX5) (T := TX5) (N := 14) (index := 131) (v := .int (nI (u0))) dX5_isPart_13 (by omega) m0 rfl (by decide) inX5 (by decide +kernel : Cond.fieldLink RX5 131 "ColumnSeasonsModel" "at" "I" ∈ wsX5_isPart) rfl rfl ?_
  refine y_aload_n X dX5_isPart_16 1 rfl ?_
  refine y_get X (61) 5 7 (Cn := RX5) (T := TX5) (N := 14) (index := 128) (v := .int (nI (ln))) dX5_isPart_17 (by omega) m0 rfl (by decide) inX5 (by decide +kernel : Cond.fieldLink RX5 128 "ColumnSeasonsModel" "typed" "I" ∈ wsX5_isPart) rfl rfl ?_
  refine y_icmp_ge X 35 ((ln) ≤ (u0)) dX5_isPart_20 (by decide) (nI_leI (a := ln) (b := u0) (by omega) (by omega)) (fun c_1 => ?_) (fun c_1 => ?_)
  ·
    refine y_iconst X (v := (0)) dX5_isPart_35 (by decide) ?_
    have gS : cmS G ln u0 = 0 := if_neg (by omega)
    refine y_iast X (67) dX5_isPart_36 (by omega) m7 (j := (4) * (tl)) rfl (by omega) (by omega) ?_
    refine y_mem (va_up C (67) (.inl (E.2.2.1 1, 84, .inl (upd zl ((4) * (tl)) (0))))) rfl (fun C_2 eC_3 => ?_)
    have h_4 : C_2 (61) = .inr (5, [.ref (E.2.1 (62)), .ref (E.2.1 (63)), .ref (E.2.1 (64)), .int (nI (hn)), .ref (E.2.1 (65)), .int fl, .ref (E.2.1 (66)), .int (nI (ln)), .int (nI (u0)), .int va, .int so, .int se, .ref (E.2.1 (67)), .int (nI (tl))]) := by rw [eC_3, va_up, if_neg (by omega)]; exact m0
    have h_5 : C_2 (66) = .inl (E.2.2.1 1, 80, .inl zx) := by rw [eC_3, va_up, if_neg (by omega)]; exact m6
    have h_6 : C_2 (67) = .inl (E.2.2.1 1, 84, .inl (upd zl ((4) * (tl)) (0))) := by rw [eC_3, va_up, if_pos rfl]
    refine y_aload_n X dX5_isPart_37 1 rfl ?_
    refine y_get X (61) 5 12 (Cn := RX5) (T := TX5) (N := 14) (index := 32) (v := .ref (E.2.1 (67))) dX5_isPart_38 (by omega) h_4 rfl (by decide) inX5 (by decide +kernel : Cond.fieldLink RX5 32 "ColumnSeasonsModel" "told" "[I" ∈ wsX5_isPart) rfl rfl ?_
    refine y_iload_n X dX5_isPart_41 0 rfl ?_
    refine y_iald X (67) dX5_isPart_42 (by omega) h_6 (j := (4) * (tl)) rfl (by omega) (by omega) (z := (0)) pk_us ?_
    refine y_lookup X 243 (off := 200) dX5_isPart_43 (by decide) (by rfl) (by decide) ?_
    refine y_iconst X (v := (0)) dX5_isPart_243 (by decide) ?_
    exact y_zret X hr (by rfl) dX5_isPart_244 rfl (by have g2 : cmP G ln u0 = u0 := (by unfold cmP; rw [if_neg (by omega), if_neg (by omega), if_neg (by omega), if_neg (by omega), if_neg (by omega)]); rw [g2]; have gN : ¬ (cmO G ln u0) := (fun z => by rcases cmO_iff.mp z with z | z | z | z | z <;> exact absurd z.1 (by omega)); exact ⟨congrArg (fun z => some (Value.int z)) (bI_0 gN).symm, ⟨_, _, h_4, h_6, fun z => absurd z gN, (fun z q1 => pk_un (by omega))⟩, (fun i9 g9 g8 => by rw [eC_3, va_up, if_neg (by omega)])⟩)
  ·
    refine y_aload_n X dX5_isPart_23 1 rfl ?_
    refine y_get X (61) 5 6 (Cn := RX5) (T := TX5) (N := 14) (index := 22) (v := .ref (E.2.1 (66))) dX5_isPart_24 (by omega) m0 rfl (by decide) inX5 (by decide +kernel : Cond.fieldLink RX5 22 "ColumnSeasonsModel" "text" "[I" ∈ wsX5_isPart) rfl rfl ?_
    refine y_aload_n X dX5_isPart_27 1 rfl ?_
    refine y_get X (61) 5 8 (Cn := RX5) (T := TX5) (N := 14) (index := 131) (v := .int (nI (u0))) dX5_isPart_28 (by omega) m0 rfl (by decide) inX5 (by decide +kernel : Cond.fieldLink RX5 131 "ColumnSeasonsModel" "at" "I" ∈ wsX5_isPart) rfl rfl ?_
    refine y_iald X (66) dX5_isPart_31 (by omega) m6 (j := u0) rfl (by omega) (by omega) (z := (nI (G (u0)))) (gX (u0) (by omega)) ?_
    refine y_goto X 36 dX5_isPart_32 (by decide) ?_
    have gS : cmS G ln u0 = G u0 := if_pos (by omega)
    have gG0 := gG u0 (by omega)
    refine y_iast X (67) dX5_isPart_36 (by omega) m7 (j := (4) * (tl)) rfl (by omega) (by omega) ?_
    refine y_mem (va_up C (67) (.inl (E.2.2.1 1, 84, .inl (upd zl ((4) * (tl)) (nI (G (u0))))))) rfl (fun C_7 eC_8 => ?_)
    have h_9 : C_7 (61) = .inr (5, [.ref (E.2.1 (62)), .ref (E.2.1 (63)), .ref (E.2.1 (64)), .int (nI (hn)), .ref (E.2.1 (65)), .int fl, .ref (E.2.1 (66)), .int (nI (ln)), .int (nI (u0)), .int va, .int so, .int se, .ref (E.2.1 (67)), .int (nI (tl))]) := by rw [eC_8, va_up, if_neg (by omega)]; exact m0
    have h_10 : C_7 (66) = .inl (E.2.2.1 1, 80, .inl zx) := by rw [eC_8, va_up, if_neg (by omega)]; exact m6
    have h_11 : C_7 (67) = .inl (E.2.2.1 1, 84, .inl (upd zl ((4) * (tl)) (nI (G (u0))))) := by rw [eC_8, va_up, if_pos rfl]
    refine y_aload_n X dX5_isPart_37 1 rfl ?_
    refine y_get X (61) 5 12 (Cn := RX5) (T := TX5) (N := 14) (index := 32) (v := .ref (E.2.1 (67))) dX5_isPart_38 (by omega) h_9 rfl (by decide) inX5 (by decide +kernel : Cond.fieldLink RX5 32 "ColumnSeasonsModel" "told" "[I" ∈ wsX5_isPart) rfl rfl ?_
    refine y_iload_n X dX5_isPart_41 0 rfl ?_
    refine y_iald X (67) dX5_isPart_42 (by omega) h_11 (j := (4) * (tl)) rfl (by omega) (by omega) (z := (nI (G (u0)))) pk_us ?_
    by_cases gq97 : G (u0) = 97
    ·
      refine y_lookup X 92 (off := 49) dX5_isPart_43 (by decide) (by rw [gq97]; rfl) (by decide) ?_
      have gs9 : cmS G ln u0 = 97 := gS.trans gq97
      refine y_aload_n X dX5_isPart_92 1 rfl ?_
      refine y_bipush X (v := (97)) dX5_isPart_93 (by decide) ?_
      refine y_bipush X (v := (100)) dX5_isPart_95 (by decide) ?_
      refine y_bipush X (v := (100)) dX5_isPart_97 (by decide) ?_
      refine y_iconst X (v := (0)) dX5_isPart_99 (by decide) ?_
      refine y_iconst X (v := (0)) dX5_isPart_100 (by decide) ?_
      refine y_callV X (61) 5 (av := [.int (97), .int (100), .int (100), .int (0), .int (0)]) [] 5 (c_X5_isWord (G := G) (u0 := u0) (tl := tl) (by omega) gl80 gX gG h_9 h_10 (a0 := 97) (b0 := 100) (e0 := 100) (f0 := 0) (h0 := 0) (wL := [97, 100, 100]) rfl (by decide)) (by omega) h_9 rfl gX5_isPart_X5_isWord rfl (by decide +kernel) rfl ⟨Nat.le_of_ble_eq_true rfl, Nat.le_of_ble_eq_true rfl⟩ ⟨Nat.zero_le _, Nat.zero_le _⟩ (Nat.le_of_ble_eq_true rfl) rfl dX5_isPart_101 (fun v_12 C_13 hp_14 => ?_)
      obtain ⟨gv15, gM15, gF15⟩ := hp_14
      rcases Decidable.em (wdO G ln [97, 100, 100] (u0)) with cw15 | cw15
      ·
        rw [bI_1 cw15] at gv15
        subst gv15
        have gb15 := wdP_b (G := G) (ln := ln) [97, 100, 100] (u0) (by omega)
        rw [gb15.2.2 cw15] at gM15
        have gb815 : u0 + 3 ≤ ln := (by have h8 := gb15.2.2 cw15; rw [h8] at gb15; exact gb15.2.1)
        have h_16 : C_13 (66) = .inl (E.2.2.1 1, 80, .inl zx) := (gF15 _ (by omega)).trans h_10
        have h_17 : C_13 (67) = .inl (E.2.2.1 1, 84, .inl (upd zl ((4) * (tl)) (nI (G (u0))))) := (gF15 _ (by omega)).trans h_11
        refine y_if_eq X 127 ((1) = (0)) dX5_isPart_104 (by decide) (nI_eq (a := 1) (b := 0) (by omega) (by omega)) (fun c_18 => ?_) (fun c_18 => ?_)
        ·
          exact absurd c_18 (by decide)
        ·
          refine y_aload_n X dX5_isPart_107 1 rfl ?_
          refine y_iload_n X dX5_isPart_108 0 rfl ?_
          refine y_callV X (61) 5 (av := [.int (nI ((4) * (tl)))]) [] 1 (c_X5_isColumn (G := G) (u0 := u0 + 3) (tl := tl) (by omega) gl80 gX gG gM15 h_16 h_17 (k9 := (4) * (tl)) (by omega)) (by omega) gM15 rfl gX5_isPart_X5_isColumn rfl (by decide +kernel) rfl ⟨Nat.le_of_ble_eq_true rfl, Nat.le_of_ble_eq_true rfl⟩ ⟨Nat.zero_le _, Nat.zero_le _⟩ (Nat.le_of_ble_eq_true rfl) rfl dX5_isPart_109 (fun v_19 C_20 hp_21 => ?_)
          obtain ⟨gv22, ⟨vz22, zz22, gM22, gZ22, gW22, gK22⟩, gF22⟩ := hp_21
          rcases Decidable.em (colO G ln (u0 + 3)) with cc22 | cc22
          ·
            rw [bI_1 cc22] at gv22
            subst gv22
            have gY22 := gW22 cc22
            have gb22 := colP_b (G := G) (p := u0 + 3) (ln := ln) (by omega)
            have h_23 : C_20 (66) = .inl (E.2.2.1 1, 80, .inl zx) := (gF22 _ (by omega) (by omega)).trans h_16
            refine y_if_eq X 127 ((1) = (0)) dX5_isPart_112 (by decide) (nI_eq (a := 1) (b := 0) (by omega) (by omega)) (fun c_24 => ?_) (fun c_24 => ?_)
            ·
              exact absurd c_24 (by decide)
            ·
              refine y_aload_n X dX5_isPart_115 1 rfl ?_
              refine y_iload_n X dX5_isPart_116 0 rfl ?_
              refine y_callV X (61) 5 (av := [.int (nI ((4) * (tl)))]) [] 1 (c_X5_isDefault (G := G) (u0 := colP G ln (u0 + 3)) (tl := tl) (by omega) gl80 gX gG gM22 h_23 gZ22 (k9 := (4) * (tl)) (kd := colK G ln (u0 + 3)) (by omega) kdK_3 gY22.2) (by omega) gM22 rfl gX5_isPart_X5_isDefault rfl (by decide +kernel) rfl ⟨Nat.le_of_ble_eq_true rfl, Nat.le_of_ble_eq_true rfl⟩ ⟨Nat.zero_le _, Nat.zero_le _⟩ (Nat.le_of_ble_eq_true rfl) rfl dX5_isPart_117 (fun v_25 C_26 hp_27 => ?_)
              obtain ⟨gv28, ⟨vz28, zz28, gM28, gZ28, gW28, gK28⟩, gF28⟩ := hp_27
              rcases Decidable.em (dftO G ln (colK G ln (u0 + 3)) (colP G ln (u0 + 3))) with cd28 | cd28
              ·
                rw [bI_1 cd28] at gv28
                subst gv28
                have gY28 := gW28 cd28
                have gb28 := dftP_b (G := G) (k := colK G ln (u0 + 3)) (p := colP G ln (u0 + 3)) (ln := ln) (by omega)
                have h_29 : C_26 (66) = .inl (E.2.2.1 1, 80, .inl zx) := (gF28 _ (by omega) (by omega)).trans h_23
                refine y_if_eq X 127 ((1) = (0)) dX5_isPart_120 (by decide) (nI_eq (a := 1) (b := 0) (by omega) (by omega)) (fun c_30 => ?_) (fun c_30 => ?_)
                ·
                  exact absurd c_30 (by decide)
                ·
                  refine y_iconst X (v := (1)) dX5_isPart_123 (by decide) ?_
                  refine y_goto X 128 dX5_isPart_124 (by decide) ?_
                  exact y_zret X hr (by rfl) dX5_isPart_128 rfl (by have g2 : cmP G ln u0 = dftP G ln (colK G ln (u0 + 3)) (colP G ln (u0 + 3)) := (by unfold cmP; rw [if_pos gs9, if_pos cw15, if_pos cc22]); rw [g2]; have gO : cmO G ln u0 := (cmO_iff.mpr (Or.inl ⟨gs9, cw15, cc22, cd28⟩)); exact ⟨congrArg (fun z => some (Value.int z)) (bI_1 gO).symm, ⟨_, _, gM28, gZ28, fun _ => ⟨(gK28 _ (by omega)).trans ((gK22 _ (by omega)).trans (pk_us.trans (congrArg nI gS.symm))), (fun _ => ⟨(gK28 _ (by omega)).trans (gY22.1), (gK28 _ (by omega)).trans (gY22.2), gY28⟩), (fun q => absurd (gs9.symm.trans q) (by decide)), (fun q => absurd (gs9.symm.trans q) (by decide)), (fun q => absurd (gs9.symm.trans q) (by decide))⟩, (fun z q1 => (gK28 z (by omega)).trans ((gK22 z (by omega)).trans (pk_un (by omega))))⟩, (fun i9 g9 g8 => by rw [gF28 i9 (by omega) (by omega)]; rw [gF22 i9 (by omega) (by omega)]; rw [gF15 i9 (by omega)]; rw [eC_8, va_up, if_neg (by omega)])⟩)
              ·
                rw [bI_0 cd28] at gv28
                subst gv28
                have gb28 := dftP_b (G := G) (k := colK G ln (u0 + 3)) (p := colP G ln (u0 + 3)) (ln := ln) (by omega)
                have h_31 : C_26 (66) = .inl (E.2.2.1 1, 80, .inl zx) := (gF28 _ (by omega) (by omega)).trans h_23
                refine y_if_eq X 127 ((0) = (0)) dX5_isPart_120 (by decide) (nI_eq (a := 0) (b := 0) (by omega) (by omega)) (fun c_32 => ?_) (fun c_32 => ?_)
                ·
                  refine y_iconst X (v := (0)) dX5_isPart_127 (by decide) ?_
                  exact y_zret X hr (by rfl) dX5_isPart_128 rfl (by have g2 : cmP G ln u0 = dftP G ln (colK G ln (u0 + 3)) (colP G ln (u0 + 3)) := (by unfold cmP; rw [if_pos gs9, if_pos cw15, if_pos cc22]); rw [g2]; have gN : ¬ (cmO G ln u0) := (fun z => by rcases cmO_iff.mp z with z | z | z | z | z <;> first | exact absurd (gs9.symm.trans z.1) (by decide) | exact absurd z.2 cd28 | exact absurd z.2.1 cd28 | exact absurd z.2.2 cd28 | exact absurd z.2.2.1 cd28 | exact absurd z.2.2.2 cd28); exact ⟨congrArg (fun z => some (Value.int z)) (bI_0 gN).symm, ⟨_, _, gM28, gZ28, fun z => absurd z gN, (fun z q1 => (gK28 z (by omega)).trans ((gK22 z (by omega)).trans (pk_un (by omega))))⟩, (fun i9 g9 g8 => by rw [gF28 i9 (by omega) (by omega)]; rw [gF22 i9 (by omega) (by omega)]; rw [gF15 i9 (by omega)]; rw [eC_8, va_up, if_neg (by omega)])⟩)
                ·
                  exact absurd c_32 (by decide)
          ·
            rw [bI_0 cc22] at gv22
            subst gv22
            have gb22 := colP_b (G := G) (p := u0 + 3) (ln := ln) (by omega)
            have h_33 : C_20 (66) = .inl (E.2.2.1 1, 80, .inl zx) := (gF22 _ (by omega) (by omega)).trans h_16
            refine y_if_eq X 127 ((0) = (0)) dX5_isPart_112 (by decide) (nI_eq (a := 0) (b := 0) (by omega) (by omega)) (fun c_34 => ?_) (fun c_34 => ?_)
            ·
              refine y_iconst X (v := (0)) dX5_isPart_127 (by decide) ?_
              exact y_zret X hr (by rfl) dX5_isPart_128 rfl (by have g2 : cmP G ln u0 = colP G ln (u0 + 3) := (by unfold cmP; rw [if_pos gs9, if_pos cw15, if_neg cc22]); rw [g2]; have gN : ¬ (cmO G ln u0) := (fun z => by rcases cmO_iff.mp z with z | z | z | z | z <;> first | exact absurd (gs9.symm.trans z.1) (by decide) | exact absurd z.2 cc22 | exact absurd z.2.1 cc22 | exact absurd z.2.2 cc22 | exact absurd z.2.2.1 cc22 | exact absurd z.2.2.2 cc22); exact ⟨congrArg (fun z => some (Value.int z)) (bI_0 gN).symm, ⟨_, _, gM22, gZ22, fun z => absurd z gN, (fun z q1 => (gK22 z (by omega)).trans (pk_un (by omega)))⟩, (fun i9 g9 g8 => by rw [gF22 i9 (by omega) (by omega)]; rw [gF15 i9 (by omega)]; rw [eC_8, va_up, if_neg (by omega)])⟩)
            ·
              exact absurd c_34 (by decide)
      ·
        rw [bI_0 cw15] at gv15
        subst gv15
        have gb15 := wdP_b (G := G) (ln := ln) [97, 100, 100] (u0) (by omega)
        have h_35 : C_13 (66) = .inl (E.2.2.1 1, 80, .inl zx) := (gF15 _ (by omega)).trans h_10
        have h_36 : C_13 (67) = .inl (E.2.2.1 1, 84, .inl (upd zl ((4) * (tl)) (nI (G (u0))))) := (gF15 _ (by omega)).trans h_11
        refine y_if_eq X 127 ((0) = (0)) dX5_isPart_104 (by decide) (nI_eq (a := 0) (b := 0) (by omega) (by omega)) (fun c_37 => ?_) (fun c_37 => ?_)
        ·
          refine y_iconst X (v := (0)) dX5_isPart_127 (by decide) ?_
          exact y_zret X hr (by rfl) dX5_isPart_128 rfl (by have g2 : cmP G ln u0 = wdP G ln [97, 100, 100] (u0) := (by unfold cmP; rw [if_pos gs9, if_neg cw15]); rw [g2]; have gN : ¬ (cmO G ln u0) := (fun z => by rcases cmO_iff.mp z with z | z | z | z | z <;> first | exact absurd (gs9.symm.trans z.1) (by decide) | exact absurd z.2 cw15 | exact absurd z.2.1 cw15 | exact absurd z.2.2 cw15 | exact absurd z.2.2.1 cw15 | exact absurd z.2.2.2 cw15); exact ⟨congrArg (fun z => some (Value.int z)) (bI_0 gN).symm, ⟨_, _, gM15, h_36, fun z => absurd z gN, (fun z q1 => pk_un (by omega))⟩, (fun i9 g9 g8 => by rw [gF15 i9 (by omega)]; rw [eC_8, va_up, if_neg (by omega)])⟩)
        ·
          exact absurd c_37 (by decide)
    by_cases gq100 : G (u0) = 100
    ·
      refine y_lookup X 159 (off := 116) dX5_isPart_43 (by decide) (by rw [gq100]; rfl) (by decide) ?_
      have gs9 : cmS G ln u0 = 100 := gS.trans gq100
      refine y_aload_n X dX5_isPart_159 1 rfl ?_
      refine y_bipush X (v := (100)) dX5_isPart_160 (by decide) ?_
      refine y_bipush X (v := (114)) dX5_isPart_162 (by decide) ?_
      refine y_bipush X (v := (111)) dX5_isPart_164 (by decide) ?_
      refine y_bipush X (v := (112)) dX5_isPart_166 (by decide) ?_
      refine y_iconst X (v := (0)) dX5_isPart_168 (by decide) ?_
      refine y_callV X (61) 5 (av := [.int (100), .int (114), .int (111), .int (112), .int (0)]) [] 5 (c_X5_isWord (G := G) (u0 := u0) (tl := tl) (by omega) gl80 gX gG h_9 h_10 (a0 := 100) (b0 := 114) (e0 := 111) (f0 := 112) (h0 := 0) (wL := [100, 114, 111, 112]) rfl (by decide)) (by omega) h_9 rfl gX5_isPart_X5_isWord rfl (by decide +kernel) rfl ⟨Nat.le_of_ble_eq_true rfl, Nat.le_of_ble_eq_true rfl⟩ ⟨Nat.zero_le _, Nat.zero_le _⟩ (Nat.le_of_ble_eq_true rfl) rfl dX5_isPart_169 (fun v_38 C_39 hp_40 => ?_)
      obtain ⟨gv41, gM41, gF41⟩ := hp_40
      rcases Decidable.em (wdO G ln [100, 114, 111, 112] (u0)) with cw41 | cw41
      ·
        rw [bI_1 cw41] at gv41
        subst gv41
        have gb41 := wdP_b (G := G) (ln := ln) [100, 114, 111, 112] (u0) (by omega)
        rw [gb41.2.2 cw41] at gM41
        have gb841 : u0 + 4 ≤ ln := (by have h8 := gb41.2.2 cw41; rw [h8] at gb41; exact gb41.2.1)
        have h_42 : C_39 (66) = .inl (E.2.2.1 1, 80, .inl zx) := (gF41 _ (by omega)).trans h_10
        have h_43 : C_39 (67) = .inl (E.2.2.1 1, 84, .inl (upd zl ((4) * (tl)) (nI (G (u0))))) := (gF41 _ (by omega)).trans h_11
        refine y_if_eq X 189 ((1) = (0)) dX5_isPart_172 (by decide) (nI_eq (a := 1) (b := 0) (by omega) (by omega)) (fun c_44 => ?_) (fun c_44 => ?_)
        ·
          exact absurd c_44 (by decide)
        ·
          refine y_aload_n X dX5_isPart_175 1 rfl ?_
          refine y_iload_n X dX5_isPart_176 0 rfl ?_
          refine y_bipush X (v := (7)) dX5_isPart_177 (by decide) ?_
          refine y_callV X (61) 5 (av := [.int (nI ((4) * (tl))), .int (7)]) [] 2 (c_X5_isFirst (G := G) (u0 := u0 + 4) (tl := tl) (by omega) gl80 gX gG gM41 h_42 h_43 (k9 := (4) * (tl)) (mo := 7) (by omega) (by omega)) (by omega) gM41 rfl gX5_isPart_X5_isFirst rfl (by decide +kernel) rfl ⟨Nat.le_of_ble_eq_true rfl, Nat.le_of_ble_eq_true rfl⟩ ⟨Nat.zero_le _, Nat.zero_le _⟩ (Nat.le_of_ble_eq_true rfl) rfl dX5_isPart_179 (fun v_45 C_46 hp_47 => ?_)
          obtain ⟨gv48, ⟨vz48, zz48, gM48, gZ48, gW48, gK48⟩, gF48⟩ := hp_47
          rcases Decidable.em (opO G ln 0 (7) (u0 + 4)) with cf48 | cf48
          ·
            rw [bI_1 cf48] at gv48
            subst gv48
            have gY48 := gW48 cf48
            have gb48 := opP_b (G := G) (lw := 0) (mo := 7) (p := u0 + 4) (ln := ln) (by omega)
            have h_49 : C_46 (66) = .inl (E.2.2.1 1, 80, .inl zx) := (gF48 _ (by omega) (by omega)).trans h_42
            refine y_if_eq X 189 ((1) = (0)) dX5_isPart_182 (by decide) (nI_eq (a := 1) (b := 0) (by omega) (by omega)) (fun c_50 => ?_) (fun c_50 => ?_)
            ·
              exact absurd c_50 (by decide)
            ·
              refine y_iconst X (v := (1)) dX5_isPart_185 (by decide) ?_
              refine y_goto X 190 dX5_isPart_186 (by decide) ?_
              exact y_zret X hr (by rfl) dX5_isPart_190 rfl (by have g2 : cmP G ln u0 = opP G ln 0 (7) (u0 + 4) := (by unfold cmP; rw [if_neg (by omega), if_neg (by omega), if_pos gs9, if_pos cw41]); rw [g2]; have gO : cmO G ln u0 := (cmO_iff.mpr (Or.inr (Or.inr (Or.inl ⟨gs9, cw41, cf48⟩)))); exact ⟨congrArg (fun z => some (Value.int z)) (bI_1 gO).symm, ⟨_, _, gM48, gZ48, fun _ => ⟨(gK48 _ (by omega)).trans (pk_us.trans (congrArg nI gS.symm)), (fun q => absurd (gs9.symm.trans q) (by decide)), (fun q => absurd (gs9.symm.trans q) (by decide)), (fun _ => gY48), (fun q => absurd (gs9.symm.trans q) (by decide))⟩, (fun z q1 => (gK48 z (by omega)).trans (pk_un (by omega)))⟩, (fun i9 g9 g8 => by rw [gF48 i9 (by omega) (by omega)]; rw [gF41 i9 (by omega)]; rw [eC_8, va_up, if_neg (by omega)])⟩)
          ·
            rw [bI_0 cf48] at gv48
            subst gv48
            have gb48 := opP_b (G := G) (lw := 0) (mo := 7) (p := u0 + 4) (ln := ln) (by omega)
            have h_51 : C_46 (66) = .inl (E.2.2.1 1, 80, .inl zx) := (gF48 _ (by omega) (by omega)).trans h_42
            refine y_if_eq X 189 ((0) = (0)) dX5_isPart_182 (by decide) (nI_eq (a := 0) (b := 0) (by omega) (by omega)) (fun c_52 => ?_) (fun c_52 => ?_)
            ·
              refine y_iconst X (v := (0)) dX5_isPart_189 (by decide) ?_
              exact y_zret X hr (by rfl) dX5_isPart_190 rfl (by have g2 : cmP G ln u0 = opP G ln 0 (7) (u0 + 4) := (by unfold cmP; rw [if_neg (by omega), if_neg (by omega), if_pos gs9, if_pos cw41]); rw [g2]; have gN : ¬ (cmO G ln u0) := (fun z => by rcases cmO_iff.mp z with z | z | z | z | z <;> first | exact absurd (gs9.symm.trans z.1) (by decide) | exact absurd z.2 cf48 | exact absurd z.2.1 cf48 | exact absurd z.2.2 cf48 | exact absurd z.2.2.1 cf48 | exact absurd z.2.2.2 cf48); exact ⟨congrArg (fun z => some (Value.int z)) (bI_0 gN).symm, ⟨_, _, gM48, gZ48, fun z => absurd z gN, (fun z q1 => (gK48 z (by omega)).trans (pk_un (by omega)))⟩, (fun i9 g9 g8 => by rw [gF48 i9 (by omega) (by omega)]; rw [gF41 i9 (by omega)]; rw [eC_8, va_up, if_neg (by omega)])⟩)
            ·
              exact absurd c_52 (by decide)
      ·
        rw [bI_0 cw41] at gv41
        subst gv41
        have gb41 := wdP_b (G := G) (ln := ln) [100, 114, 111, 112] (u0) (by omega)
        have h_53 : C_39 (66) = .inl (E.2.2.1 1, 80, .inl zx) := (gF41 _ (by omega)).trans h_10
        have h_54 : C_39 (67) = .inl (E.2.2.1 1, 84, .inl (upd zl ((4) * (tl)) (nI (G (u0))))) := (gF41 _ (by omega)).trans h_11
        refine y_if_eq X 189 ((0) = (0)) dX5_isPart_172 (by decide) (nI_eq (a := 0) (b := 0) (by omega) (by omega)) (fun c_55 => ?_) (fun c_55 => ?_)
        ·
          refine y_iconst X (v := (0)) dX5_isPart_189 (by decide) ?_
          exact y_zret X hr (by rfl) dX5_isPart_190 rfl (by have g2 : cmP G ln u0 = wdP G ln [100, 114, 111, 112] (u0) := (by unfold cmP; rw [if_neg (by omega), if_neg (by omega), if_pos gs9, if_neg cw41]); rw [g2]; have gN : ¬ (cmO G ln u0) := (fun z => by rcases cmO_iff.mp z with z | z | z | z | z <;> first | exact absurd (gs9.symm.trans z.1) (by decide) | exact absurd z.2 cw41 | exact absurd z.2.1 cw41 | exact absurd z.2.2 cw41 | exact absurd z.2.2.1 cw41 | exact absurd z.2.2.2 cw41); exact ⟨congrArg (fun z => some (Value.int z)) (bI_0 gN).symm, ⟨_, _, gM41, h_54, fun z => absurd z gN, (fun z q1 => pk_un (by omega))⟩, (fun i9 g9 g8 => by rw [gF41 i9 (by omega)]; rw [eC_8, va_up, if_neg (by omega)])⟩)
        ·
          exact absurd c_55 (by decide)
    by_cases gq107 : G (u0) = 107
    ·
      refine y_lookup X 129 (off := 86) dX5_isPart_43 (by decide) (by rw [gq107]; rfl) (by decide) ?_
      have gs9 : cmS G ln u0 = 107 := gS.trans gq107
      refine y_aload_n X dX5_isPart_129 1 rfl ?_
      refine y_bipush X (v := (107)) dX5_isPart_130 (by decide) ?_
      refine y_bipush X (v := (105)) dX5_isPart_132 (by decide) ?_
      refine y_bipush X (v := (110)) dX5_isPart_134 (by decide) ?_
      refine y_bipush X (v := (100)) dX5_isPart_136 (by decide) ?_
      refine y_iconst X (v := (0)) dX5_isPart_138 (by decide) ?_
      refine y_callV X (61) 5 (av := [.int (107), .int (105), .int (110), .int (100), .int (0)]) [] 5 (c_X5_isWord (G := G) (u0 := u0) (tl := tl) (by omega) gl80 gX gG h_9 h_10 (a0 := 107) (b0 := 105) (e0 := 110) (f0 := 100) (h0 := 0) (wL := [107, 105, 110, 100]) rfl (by decide)) (by omega) h_9 rfl gX5_isPart_X5_isWord rfl (by decide +kernel) rfl ⟨Nat.le_of_ble_eq_true rfl, Nat.le_of_ble_eq_true rfl⟩ ⟨Nat.zero_le _, Nat.zero_le _⟩ (Nat.le_of_ble_eq_true rfl) rfl dX5_isPart_139 (fun v_56 C_57 hp_58 => ?_)
      obtain ⟨gv59, gM59, gF59⟩ := hp_58
      rcases Decidable.em (wdO G ln [107, 105, 110, 100] (u0)) with cw59 | cw59
      ·
        rw [bI_1 cw59] at gv59
        subst gv59
        have gb59 := wdP_b (G := G) (ln := ln) [107, 105, 110, 100] (u0) (by omega)
        rw [gb59.2.2 cw59] at gM59
        have gb859 : u0 + 4 ≤ ln := (by have h8 := gb59.2.2 cw59; rw [h8] at gb59; exact gb59.2.1)
        have h_60 : C_57 (66) = .inl (E.2.2.1 1, 80, .inl zx) := (gF59 _ (by omega)).trans h_10
        have h_61 : C_57 (67) = .inl (E.2.2.1 1, 84, .inl (upd zl ((4) * (tl)) (nI (G (u0))))) := (gF59 _ (by omega)).trans h_11
        refine y_if_eq X 157 ((1) = (0)) dX5_isPart_142 (by decide) (nI_eq (a := 1) (b := 0) (by omega) (by omega)) (fun c_62 => ?_) (fun c_62 => ?_)
        ·
          exact absurd c_62 (by decide)
        ·
          refine y_aload_n X dX5_isPart_145 1 rfl ?_
          refine y_iload_n X dX5_isPart_146 0 rfl ?_
          refine y_callV X (61) 5 (av := [.int (nI ((4) * (tl)))]) [] 1 (c_X5_isColumn (G := G) (u0 := u0 + 4) (tl := tl) (by omega) gl80 gX gG gM59 h_60 h_61 (k9 := (4) * (tl)) (by omega)) (by omega) gM59 rfl gX5_isPart_X5_isColumn rfl (by decide +kernel) rfl ⟨Nat.le_of_ble_eq_true rfl, Nat.le_of_ble_eq_true rfl⟩ ⟨Nat.zero_le _, Nat.zero_le _⟩ (Nat.le_of_ble_eq_true rfl) rfl dX5_isPart_147 (fun v_63 C_64 hp_65 => ?_)
          obtain ⟨gv66, ⟨vz66, zz66, gM66, gZ66, gW66, gK66⟩, gF66⟩ := hp_65
          rcases Decidable.em (colO G ln (u0 + 4)) with cc66 | cc66
          ·
            rw [bI_1 cc66] at gv66
            subst gv66
            have gY66 := gW66 cc66
            have gb66 := colP_b (G := G) (p := u0 + 4) (ln := ln) (by omega)
            have h_67 : C_64 (66) = .inl (E.2.2.1 1, 80, .inl zx) := (gF66 _ (by omega) (by omega)).trans h_60
            refine y_if_eq X 157 ((1) = (0)) dX5_isPart_150 (by decide) (nI_eq (a := 1) (b := 0) (by omega) (by omega)) (fun c_68 => ?_) (fun c_68 => ?_)
            ·
              exact absurd c_68 (by decide)
            ·
              refine y_iconst X (v := (1)) dX5_isPart_153 (by decide) ?_
              refine y_goto X 158 dX5_isPart_154 (by decide) ?_
              exact y_zret X hr (by rfl) dX5_isPart_158 rfl (by have g2 : cmP G ln u0 = colP G ln (u0 + 4) := (by unfold cmP; rw [if_neg (by omega), if_pos gs9, if_pos cw59]); rw [g2]; have gO : cmO G ln u0 := (cmO_iff.mpr (Or.inr (Or.inl ⟨gs9, cw59, cc66⟩))); exact ⟨congrArg (fun z => some (Value.int z)) (bI_1 gO).symm, ⟨_, _, gM66, gZ66, fun _ => ⟨(gK66 _ (by omega)).trans (pk_us.trans (congrArg nI gS.symm)), (fun q => absurd (gs9.symm.trans q) (by decide)), (fun _ => gY66), (fun q => absurd (gs9.symm.trans q) (by decide)), (fun q => absurd (gs9.symm.trans q) (by decide))⟩, (fun z q1 => (gK66 z (by omega)).trans (pk_un (by omega)))⟩, (fun i9 g9 g8 => by rw [gF66 i9 (by omega) (by omega)]; rw [gF59 i9 (by omega)]; rw [eC_8, va_up, if_neg (by omega)])⟩)
          ·
            rw [bI_0 cc66] at gv66
            subst gv66
            have gb66 := colP_b (G := G) (p := u0 + 4) (ln := ln) (by omega)
            have h_69 : C_64 (66) = .inl (E.2.2.1 1, 80, .inl zx) := (gF66 _ (by omega) (by omega)).trans h_60
            refine y_if_eq X 157 ((0) = (0)) dX5_isPart_150 (by decide) (nI_eq (a := 0) (b := 0) (by omega) (by omega)) (fun c_70 => ?_) (fun c_70 => ?_)
            ·
              refine y_iconst X (v := (0)) dX5_isPart_157 (by decide) ?_
              exact y_zret X hr (by rfl) dX5_isPart_158 rfl (by have g2 : cmP G ln u0 = colP G ln (u0 + 4) := (by unfold cmP; rw [if_neg (by omega), if_pos gs9, if_pos cw59]); rw [g2]; have gN : ¬ (cmO G ln u0) := (fun z => by rcases cmO_iff.mp z with z | z | z | z | z <;> first | exact absurd (gs9.symm.trans z.1) (by decide) | exact absurd z.2 cc66 | exact absurd z.2.1 cc66 | exact absurd z.2.2 cc66 | exact absurd z.2.2.1 cc66 | exact absurd z.2.2.2 cc66); exact ⟨congrArg (fun z => some (Value.int z)) (bI_0 gN).symm, ⟨_, _, gM66, gZ66, fun z => absurd z gN, (fun z q1 => (gK66 z (by omega)).trans (pk_un (by omega)))⟩, (fun i9 g9 g8 => by rw [gF66 i9 (by omega) (by omega)]; rw [gF59 i9 (by omega)]; rw [eC_8, va_up, if_neg (by omega)])⟩)
            ·
              exact absurd c_70 (by decide)
      ·
        rw [bI_0 cw59] at gv59
        subst gv59
        have gb59 := wdP_b (G := G) (ln := ln) [107, 105, 110, 100] (u0) (by omega)
        have h_71 : C_57 (66) = .inl (E.2.2.1 1, 80, .inl zx) := (gF59 _ (by omega)).trans h_10
        have h_72 : C_57 (67) = .inl (E.2.2.1 1, 84, .inl (upd zl ((4) * (tl)) (nI (G (u0))))) := (gF59 _ (by omega)).trans h_11
        refine y_if_eq X 157 ((0) = (0)) dX5_isPart_142 (by decide) (nI_eq (a := 0) (b := 0) (by omega) (by omega)) (fun c_73 => ?_) (fun c_73 => ?_)
        ·
          refine y_iconst X (v := (0)) dX5_isPart_157 (by decide) ?_
          exact y_zret X hr (by rfl) dX5_isPart_158 rfl (by have g2 : cmP G ln u0 = wdP G ln [107, 105, 110, 100] (u0) := (by unfold cmP; rw [if_neg (by omega), if_pos gs9, if_neg cw59]); rw [g2]; have gN : ¬ (cmO G ln u0) := (fun z => by rcases cmO_iff.mp z with z | z | z | z | z <;> first | exact absurd (gs9.symm.trans z.1) (by decide) | exact absurd z.2 cw59 | exact absurd z.2.1 cw59 | exact absurd z.2.2 cw59 | exact absurd z.2.2.1 cw59 | exact absurd z.2.2.2 cw59); exact ⟨congrArg (fun z => some (Value.int z)) (bI_0 gN).symm, ⟨_, _, gM59, h_72, fun z => absurd z gN, (fun z q1 => pk_un (by omega))⟩, (fun i9 g9 g8 => by rw [gF59 i9 (by omega)]; rw [eC_8, va_up, if_neg (by omega)])⟩)
        ·
          exact absurd c_73 (by decide)
    by_cases gq114 : G (u0) = 114
    ·
      refine y_lookup X 191 (off := 148) dX5_isPart_43 (by decide) (by rw [gq114]; rfl) (by decide) ?_
      have gs9 : cmS G ln u0 = 114 := gS.trans gq114
      refine y_aload_n X dX5_isPart_191 1 rfl ?_
      refine y_bipush X (v := (114)) dX5_isPart_192 (by decide) ?_
      refine y_bipush X (v := (111)) dX5_isPart_194 (by decide) ?_
      refine y_bipush X (v := (119)) dX5_isPart_196 (by decide) ?_
      refine y_iconst X (v := (0)) dX5_isPart_198 (by decide) ?_
      refine y_iconst X (v := (0)) dX5_isPart_199 (by decide) ?_
      refine y_callV X (61) 5 (av := [.int (114), .int (111), .int (119), .int (0), .int (0)]) [] 5 (c_X5_isWord (G := G) (u0 := u0) (tl := tl) (by omega) gl80 gX gG h_9 h_10 (a0 := 114) (b0 := 111) (e0 := 119) (f0 := 0) (h0 := 0) (wL := [114, 111, 119]) rfl (by decide)) (by omega) h_9 rfl gX5_isPart_X5_isWord rfl (by decide +kernel) rfl ⟨Nat.le_of_ble_eq_true rfl, Nat.le_of_ble_eq_true rfl⟩ ⟨Nat.zero_le _, Nat.zero_le _⟩ (Nat.le_of_ble_eq_true rfl) rfl dX5_isPart_200 (fun v_74 C_75 hp_76 => ?_)
      obtain ⟨gv77, gM77, gF77⟩ := hp_76
      rcases Decidable.em (wdO G ln [114, 111, 119] (u0)) with cw77 | cw77
      ·
        rw [bI_1 cw77] at gv77
        subst gv77
        have gb77 := wdP_b (G := G) (ln := ln) [114, 111, 119] (u0) (by omega)
        rw [gb77.2.2 cw77] at gM77
        have gb877 : u0 + 3 ≤ ln := (by have h8 := gb77.2.2 cw77; rw [h8] at gb77; exact gb77.2.1)
        have h_78 : C_75 (66) = .inl (E.2.2.1 1, 80, .inl zx) := (gF77 _ (by omega)).trans h_10
        have h_79 : C_75 (67) = .inl (E.2.2.1 1, 84, .inl (upd zl ((4) * (tl)) (nI (G (u0))))) := (gF77 _ (by omega)).trans h_11
        exact y_zret X hr (by rfl) dX5_isPart_203 rfl (by have g2 : cmP G ln u0 = u0 + 3 := (by unfold cmP; rw [if_neg (by omega), if_neg (by omega), if_neg (by omega), if_pos gs9]; exact (wdP_b (G := G) (ln := ln) ltwR u0 gp).2.2 cw77); rw [g2]; have gO : cmO G ln u0 := (cmO_iff.mpr (Or.inr (Or.inr (Or.inr (Or.inl ⟨gs9, cw77⟩))))); exact ⟨congrArg (fun z => some (Value.int z)) (bI_1 gO).symm, ⟨_, _, gM77, h_79, fun _ => ⟨pk_us.trans (congrArg nI gS.symm), (fun q => absurd (gs9.symm.trans q) (by decide)), (fun q => absurd (gs9.symm.trans q) (by decide)), (fun q => absurd (gs9.symm.trans q) (by decide)), (fun q => absurd (gs9.symm.trans q) (by decide))⟩, (fun z q1 => pk_un (by omega))⟩, (fun i9 g9 g8 => by rw [gF77 i9 (by omega)]; rw [eC_8, va_up, if_neg (by omega)])⟩)
      ·
        rw [bI_0 cw77] at gv77
        subst gv77
        have gb77 := wdP_b (G := G) (ln := ln) [114, 111, 119] (u0) (by omega)
        have h_80 : C_75 (66) = .inl (E.2.2.1 1, 80, .inl zx) := (gF77 _ (by omega)).trans h_10
        have h_81 : C_75 (67) = .inl (E.2.2.1 1, 84, .inl (upd zl ((4) * (tl)) (nI (G (u0))))) := (gF77 _ (by omega)).trans h_11
        exact y_zret X hr (by rfl) dX5_isPart_203 rfl (by have g2 : cmP G ln u0 = wdP G ln [114, 111, 119] (u0) := (by unfold cmP; rw [if_neg (by omega), if_neg (by omega), if_neg (by omega), if_pos gs9]); rw [g2]; have gN : ¬ (cmO G ln u0) := (fun z => by rcases cmO_iff.mp z with z | z | z | z | z <;> first | exact absurd (gs9.symm.trans z.1) (by decide) | exact absurd z.2 cw77 | exact absurd z.2.1 cw77 | exact absurd z.2.2 cw77 | exact absurd z.2.2.1 cw77 | exact absurd z.2.2.2 cw77); exact ⟨congrArg (fun z => some (Value.int z)) (bI_0 gN).symm, ⟨_, _, gM77, h_81, fun z => absurd z gN, (fun z q1 => pk_un (by omega))⟩, (fun i9 g9 g8 => by rw [gF77 i9 (by omega)]; rw [eC_8, va_up, if_neg (by omega)])⟩)
    by_cases gq115 : G (u0) = 115
    ·
      refine y_lookup X 204 (off := 161) dX5_isPart_43 (by decide) (by rw [gq115]; rfl) (by decide) ?_
      have gs9 : cmS G ln u0 = 115 := gS.trans gq115
      refine y_aload_n X dX5_isPart_204 1 rfl ?_
      refine y_bipush X (v := (115)) dX5_isPart_205 (by decide) ?_
      refine y_bipush X (v := (101)) dX5_isPart_207 (by decide) ?_
      refine y_bipush X (v := (116)) dX5_isPart_209 (by decide) ?_
      refine y_iconst X (v := (0)) dX5_isPart_211 (by decide) ?_
      refine y_iconst X (v := (0)) dX5_isPart_212 (by decide) ?_
      refine y_callV X (61) 5 (av := [.int (115), .int (101), .int (116), .int (0), .int (0)]) [] 5 (c_X5_isWord (G := G) (u0 := u0) (tl := tl) (by omega) gl80 gX gG h_9 h_10 (a0 := 115) (b0 := 101) (e0 := 116) (f0 := 0) (h0 := 0) (wL := [115, 101, 116]) rfl (by decide)) (by omega) h_9 rfl gX5_isPart_X5_isWord rfl (by decide +kernel) rfl ⟨Nat.le_of_ble_eq_true rfl, Nat.le_of_ble_eq_true rfl⟩ ⟨Nat.zero_le _, Nat.zero_le _⟩ (Nat.le_of_ble_eq_true rfl) rfl dX5_isPart_213 (fun v_82 C_83 hp_84 => ?_)
      obtain ⟨gv85, gM85, gF85⟩ := hp_84
      rcases Decidable.em (wdO G ln [115, 101, 116] (u0)) with cw85 | cw85
      ·
        rw [bI_1 cw85] at gv85
        subst gv85
        have gb85 := wdP_b (G := G) (ln := ln) [115, 101, 116] (u0) (by omega)
        rw [gb85.2.2 cw85] at gM85
        have gb885 : u0 + 3 ≤ ln := (by have h8 := gb85.2.2 cw85; rw [h8] at gb85; exact gb85.2.1)
        have h_86 : C_83 (66) = .inl (E.2.2.1 1, 80, .inl zx) := (gF85 _ (by omega)).trans h_10
        have h_87 : C_83 (67) = .inl (E.2.2.1 1, 84, .inl (upd zl ((4) * (tl)) (nI (G (u0))))) := (gF85 _ (by omega)).trans h_11
        refine y_if_eq X 241 ((1) = (0)) dX5_isPart_216 (by decide) (nI_eq (a := 1) (b := 0) (by omega) (by omega)) (fun c_88 => ?_) (fun c_88 => ?_)
        ·
          exact absurd c_88 (by decide)
        ·
          refine y_aload_n X dX5_isPart_219 1 rfl ?_
          refine y_iload_n X dX5_isPart_220 0 rfl ?_
          refine y_bipush X (v := (23)) dX5_isPart_221 (by decide) ?_
          refine y_callV X (61) 5 (av := [.int (nI ((4) * (tl))), .int (23)]) [] 2 (c_X5_isFirst (G := G) (u0 := u0 + 3) (tl := tl) (by omega) gl80 gX gG gM85 h_86 h_87 (k9 := (4) * (tl)) (mo := 23) (by omega) (by omega)) (by omega) gM85 rfl gX5_isPart_X5_isFirst rfl (by decide +kernel) rfl ⟨Nat.le_of_ble_eq_true rfl, Nat.le_of_ble_eq_true rfl⟩ ⟨Nat.zero_le _, Nat.zero_le _⟩ (Nat.le_of_ble_eq_true rfl) rfl dX5_isPart_223 (fun v_89 C_90 hp_91 => ?_)
          obtain ⟨gv92, ⟨vz92, zz92, gM92, gZ92, gW92, gK92⟩, gF92⟩ := hp_91
          rcases Decidable.em (opO G ln 0 (23) (u0 + 3)) with cf92 | cf92
          ·
            rw [bI_1 cf92] at gv92
            subst gv92
            have gY92 := gW92 cf92
            have gb92 := opP_b (G := G) (lw := 0) (mo := 23) (p := u0 + 3) (ln := ln) (by omega)
            have h_93 : C_90 (66) = .inl (E.2.2.1 1, 80, .inl zx) := (gF92 _ (by omega) (by omega)).trans h_86
            refine y_if_eq X 241 ((1) = (0)) dX5_isPart_226 (by decide) (nI_eq (a := 1) (b := 0) (by omega) (by omega)) (fun c_94 => ?_) (fun c_94 => ?_)
            ·
              exact absurd c_94 (by decide)
            ·
              refine y_aload_n X dX5_isPart_229 1 rfl ?_
              refine y_iload_n X dX5_isPart_230 0 rfl ?_
              refine y_callV X (61) 5 (av := [.int (nI ((4) * (tl)))]) [] 1 (c_X5_isSetting (G := G) (u0 := opP G ln 0 (23) (u0 + 3)) (tl := tl) (by omega) gl80 gX gG gM92 h_93 gZ92 (k9 := (4) * (tl)) (by omega)) (by omega) gM92 rfl gX5_isPart_X5_isSetting rfl (by decide +kernel) rfl ⟨Nat.le_of_ble_eq_true rfl, Nat.le_of_ble_eq_true rfl⟩ ⟨Nat.zero_le _, Nat.zero_le _⟩ (Nat.le_of_ble_eq_true rfl) rfl dX5_isPart_231 (fun v_95 C_96 hp_97 => ?_)
              obtain ⟨gv98, ⟨vz98, zz98, gM98, gZ98, gW98, gK98⟩, gF98⟩ := hp_97
              rcases Decidable.em (seO G ln (opP G ln 0 (23) (u0 + 3))) with ct98 | ct98
              ·
                rw [bI_1 ct98] at gv98
                subst gv98
                have gY98 := gW98 ct98
                have gb98 := seP_b (G := G) (p := opP G ln 0 (23) (u0 + 3)) (ln := ln) (by omega)
                have h_99 : C_96 (66) = .inl (E.2.2.1 1, 80, .inl zx) := (gF98 _ (by omega) (by omega)).trans h_93
                refine y_if_eq X 241 ((1) = (0)) dX5_isPart_234 (by decide) (nI_eq (a := 1) (b := 0) (by omega) (by omega)) (fun c_100 => ?_) (fun c_100 => ?_)
                ·
                  exact absurd c_100 (by decide)
                ·
                  refine y_iconst X (v := (1)) dX5_isPart_237 (by decide) ?_
                  refine y_goto X 242 dX5_isPart_238 (by decide) ?_
                  exact y_zret X hr (by rfl) dX5_isPart_242 rfl (by have g2 : cmP G ln u0 = seP G ln (opP G ln 0 (23) (u0 + 3)) := (by unfold cmP; rw [if_neg (by omega), if_neg (by omega), if_neg (by omega), if_neg (by omega), if_pos gs9, if_pos cw85, if_pos cf92]); rw [g2]; have gO : cmO G ln u0 := (cmO_iff.mpr (Or.inr (Or.inr (Or.inr (Or.inr (⟨gs9, cw85, cf92, ct98⟩)))))); exact ⟨congrArg (fun z => some (Value.int z)) (bI_1 gO).symm, ⟨_, _, gM98, gZ98, fun _ => ⟨(gK98 _ (by omega)).trans ((gK92 _ (by omega)).trans (pk_us.trans (congrArg nI gS.symm))), (fun q => absurd (gs9.symm.trans q) (by decide)), (fun q => absurd (gs9.symm.trans q) (by decide)), (fun q => absurd (gs9.symm.trans q) (by decide)), (fun _ => ⟨(gK98 _ (by omega)).trans (gY92), gY98.1, gY98.2⟩)⟩, (fun z q1 => (gK98 z (by omega)).trans ((gK92 z (by omega)).trans (pk_un (by omega))))⟩, (fun i9 g9 g8 => by rw [gF98 i9 (by omega) (by omega)]; rw [gF92 i9 (by omega) (by omega)]; rw [gF85 i9 (by omega)]; rw [eC_8, va_up, if_neg (by omega)])⟩)
              ·
                rw [bI_0 ct98] at gv98
                subst gv98
                have gb98 := seP_b (G := G) (p := opP G ln 0 (23) (u0 + 3)) (ln := ln) (by omega)
                have h_101 : C_96 (66) = .inl (E.2.2.1 1, 80, .inl zx) := (gF98 _ (by omega) (by omega)).trans h_93
                refine y_if_eq X 241 ((0) = (0)) dX5_isPart_234 (by decide) (nI_eq (a := 0) (b := 0) (by omega) (by omega)) (fun c_102 => ?_) (fun c_102 => ?_)
                ·
                  refine y_iconst X (v := (0)) dX5_isPart_241 (by decide) ?_
                  exact y_zret X hr (by rfl) dX5_isPart_242 rfl (by have g2 : cmP G ln u0 = seP G ln (opP G ln 0 (23) (u0 + 3)) := (by unfold cmP; rw [if_neg (by omega), if_neg (by omega), if_neg (by omega), if_neg (by omega), if_pos gs9, if_pos cw85, if_pos cf92]); rw [g2]; have gN : ¬ (cmO G ln u0) := (fun z => by rcases cmO_iff.mp z with z | z | z | z | z <;> first | exact absurd (gs9.symm.trans z.1) (by decide) | exact absurd z.2 ct98 | exact absurd z.2.1 ct98 | exact absurd z.2.2 ct98 | exact absurd z.2.2.1 ct98 | exact absurd z.2.2.2 ct98); exact ⟨congrArg (fun z => some (Value.int z)) (bI_0 gN).symm, ⟨_, _, gM98, gZ98, fun z => absurd z gN, (fun z q1 => (gK98 z (by omega)).trans ((gK92 z (by omega)).trans (pk_un (by omega))))⟩, (fun i9 g9 g8 => by rw [gF98 i9 (by omega) (by omega)]; rw [gF92 i9 (by omega) (by omega)]; rw [gF85 i9 (by omega)]; rw [eC_8, va_up, if_neg (by omega)])⟩)
                ·
                  exact absurd c_102 (by decide)
          ·
            rw [bI_0 cf92] at gv92
            subst gv92
            have gb92 := opP_b (G := G) (lw := 0) (mo := 23) (p := u0 + 3) (ln := ln) (by omega)
            have h_103 : C_90 (66) = .inl (E.2.2.1 1, 80, .inl zx) := (gF92 _ (by omega) (by omega)).trans h_86
            refine y_if_eq X 241 ((0) = (0)) dX5_isPart_226 (by decide) (nI_eq (a := 0) (b := 0) (by omega) (by omega)) (fun c_104 => ?_) (fun c_104 => ?_)
            ·
              refine y_iconst X (v := (0)) dX5_isPart_241 (by decide) ?_
              exact y_zret X hr (by rfl) dX5_isPart_242 rfl (by have g2 : cmP G ln u0 = opP G ln 0 (23) (u0 + 3) := (by unfold cmP; rw [if_neg (by omega), if_neg (by omega), if_neg (by omega), if_neg (by omega), if_pos gs9, if_pos cw85, if_neg cf92]); rw [g2]; have gN : ¬ (cmO G ln u0) := (fun z => by rcases cmO_iff.mp z with z | z | z | z | z <;> first | exact absurd (gs9.symm.trans z.1) (by decide) | exact absurd z.2 cf92 | exact absurd z.2.1 cf92 | exact absurd z.2.2 cf92 | exact absurd z.2.2.1 cf92 | exact absurd z.2.2.2 cf92); exact ⟨congrArg (fun z => some (Value.int z)) (bI_0 gN).symm, ⟨_, _, gM92, gZ92, fun z => absurd z gN, (fun z q1 => (gK92 z (by omega)).trans (pk_un (by omega)))⟩, (fun i9 g9 g8 => by rw [gF92 i9 (by omega) (by omega)]; rw [gF85 i9 (by omega)]; rw [eC_8, va_up, if_neg (by omega)])⟩)
            ·
              exact absurd c_104 (by decide)
      ·
        rw [bI_0 cw85] at gv85
        subst gv85
        have gb85 := wdP_b (G := G) (ln := ln) [115, 101, 116] (u0) (by omega)
        have h_105 : C_83 (66) = .inl (E.2.2.1 1, 80, .inl zx) := (gF85 _ (by omega)).trans h_10
        have h_106 : C_83 (67) = .inl (E.2.2.1 1, 84, .inl (upd zl ((4) * (tl)) (nI (G (u0))))) := (gF85 _ (by omega)).trans h_11
        refine y_if_eq X 241 ((0) = (0)) dX5_isPart_216 (by decide) (nI_eq (a := 0) (b := 0) (by omega) (by omega)) (fun c_107 => ?_) (fun c_107 => ?_)
        ·
          refine y_iconst X (v := (0)) dX5_isPart_241 (by decide) ?_
          exact y_zret X hr (by rfl) dX5_isPart_242 rfl (by have g2 : cmP G ln u0 = wdP G ln [115, 101, 116] (u0) := (by unfold cmP; rw [if_neg (by omega), if_neg (by omega), if_neg (by omega), if_neg (by omega), if_pos gs9, if_neg cw85]); rw [g2]; have gN : ¬ (cmO G ln u0) := (fun z => by rcases cmO_iff.mp z with z | z | z | z | z <;> first | exact absurd (gs9.symm.trans z.1) (by decide) | exact absurd z.2 cw85 | exact absurd z.2.1 cw85 | exact absurd z.2.2 cw85 | exact absurd z.2.2.1 cw85 | exact absurd z.2.2.2 cw85); exact ⟨congrArg (fun z => some (Value.int z)) (bI_0 gN).symm, ⟨_, _, gM85, h_106, fun z => absurd z gN, (fun z q1 => pk_un (by omega))⟩, (fun i9 g9 g8 => by rw [gF85 i9 (by omega)]; rw [eC_8, va_up, if_neg (by omega)])⟩)
        ·
          exact absurd c_107 (by decide)
    ·
      refine y_lookup X 243 (off := 200) dX5_isPart_43 (by decide) (by rw [nI_toInt (by omega)]; show Op.lookupswitch.offset [(97, 49), (100, 116), (107, 86), (114, 148), (115, 161)] 200 _ = _; rw [Op.lookupswitch.offset_cons, if_neg (by omega), Op.lookupswitch.offset_cons, if_neg (by omega), Op.lookupswitch.offset_cons, if_neg (by omega), Op.lookupswitch.offset_cons, if_neg (by omega), Op.lookupswitch.offset_cons, if_neg (by omega)]; rfl) (by decide) ?_
      refine y_iconst X (v := (0)) dX5_isPart_243 (by decide) ?_
      exact y_zret X hr (by rfl) dX5_isPart_244 rfl (by have g2 : cmP G ln u0 = u0 := (by unfold cmP; rw [if_neg (by omega), if_neg (by omega), if_neg (by omega), if_neg (by omega), if_neg (by omega)]); rw [g2]; have gN : ¬ (cmO G ln u0) := (fun z => by rcases cmO_iff.mp z with z | z | z | z | z <;> exact absurd z.1 (by omega)); exact ⟨congrArg (fun z => some (Value.int z)) (bI_0 gN).symm, ⟨_, _, h_9, h_11, fun z => absurd z gN, (fun z q1 => pk_un (by omega))⟩, (fun i9 g9 g8 => by rw [eC_8, va_up, if_neg (by omega)])⟩)

set_option maxRecDepth 100000 in
set_option maxHeartbeats 4000000 in
theorem c_X5_isText {l : Launch} {E : xE} {C : xC} {G : Nat → Nat} {hn ln : Nat} {fl so se pa va tl0 : Int32} {zl zx : Nat → Int32} (gl80 : ln ≤ 80) (gX : ∀ z : Nat, z < ln → zx z = nI (G z)) (gG : ∀ z : Nat, z < ln → G z < 65536) (m0 : C (61) = .inr (5, [.ref (E.2.1 (62)), .ref (E.2.1 (63)), .ref (E.2.1 (64)), .int (nI (hn)), .ref (E.2.1 (65)), .int fl, .ref (E.2.1 (66)), .int (nI (ln)), .int pa, .int va, .int so, .int se, .ref (E.2.1 (67)), .int tl0])) (m6 : C (66) = .inl (E.2.2.1 1, 80, .inl zx)) (m7 : C (67) = .inl (E.2.2.1 1, 84, .inl zl)) : xM E l yX5_isText wsX5_isText 8 176 [.ref (E.2.1 (61))] C (fun v C1 => v = some (.int (bI (okT G ln))) ∧ (∃ (va2 : Int32) (tl2 : Nat) (zl2 : Nat → Int32), C1 (61) = .inr (5, [.ref (E.2.1 (62)), .ref (E.2.1 (63)), .ref (E.2.1 (64)), .int (nI (hn)), .ref (E.2.1 (65)), .int fl, .ref (E.2.1 (66)), .int (nI (ln)), .int (nI (atT G ln)), .int va2, .int so, .int se, .ref (E.2.1 (67)), .int (nI (tl2))]) ∧ C1 (67) = .inl (E.2.2.1 1, 84, .inl zl2) ∧ (okT G ln → tl2 = tcN G ln + 1 ∧ tcN G ln < 20 ∧ ∀ i : Nat, i ≤ tcN G ln → TD zl2 (4 * i) G ln (psN G ln i))) ∧ (∀ i : Nat, ¬ i = 61 → ¬ i = 67 → C1 i = C i)) := by
  refine xM_ofY (cc := cX5_isText) (maxL := 2) (ret := (some .boolean)) (by decide) rfl (Nat.le_of_ble_eq_true rfl) ?_
  intro p e s m args below meth c X hr
  have inX5 : ∀ w ∈ wsX50, w ∈ wsX5_isText := by decide +kernel
  refine y_lv [(0, .ref (E.2.1 (61)))] rfl ?_
  refine y_aload_n X dX5_isText_0 0 rfl ?_
  refine y_iconst X (v := (0)) dX5_isText_1 (by decide) ?_
  refine y_put X (61) 5 8 (Cn := RX5) (T := TX5) (N := 14) (index := 131) tyX5 (v := .int (0)) dX5_isText_2 (by omega) m0 rfl (by decide) inX5 (by decide +kernel : Cond.fieldLink RX5 131 "ColumnSeasonsModel" "at" "I" ∈ wsX5_isText) rfl tyX5_ok nmX5 rfl rfl rfl (Nat.le_of_ble_eq_true rfl) ?_
  refine y_mem (va_up C (61) (.inr (5, [.ref (E.2.1 (62)), .ref (E.2.1 (63)), .ref (E.2.1 (64)), .int (nI (hn)), .ref (E.2.1 (65)), .int fl, .ref (E.2.1 (66)), .int (nI (ln)), .int (0), .int va, .int so, .int se, .ref (E.2.1 (67)), .int tl0]))) rfl (fun C_1 eC_2 => ?_)
  have h_3 : C_1 (61) = .inr (5, [.ref (E.2.1 (62)), .ref (E.2.1 (63)), .ref (E.2.1 (64)), .int (nI (hn)), .ref (E.2.1 (65)), .int fl, .ref (E.2.1 (66)), .int (nI (ln)), .int (0), .int va, .int so, .int se, .ref (E.2.1 (67)), .int tl0]) := by rw [eC_2, va_up, if_pos rfl]
  have h_4 : C_1 (66) = .inl (E.2.2.1 1, 80, .inl zx) := by rw [eC_2, va_up, if_neg (by omega)]; exact m6
  have h_5 : C_1 (67) = .inl (E.2.2.1 1, 84, .inl zl) := by rw [eC_2, va_up, if_neg (by omega)]; exact m7
  refine y_aload_n X dX5_isText_5 0 rfl ?_
  refine y_iconst X (v := (0)) dX5_isText_6 (by decide) ?_
  refine y_put X (61) 5 13 (Cn := RX5) (T := TX5) (N := 14) (index := 151) tyX5 (v := .int (0)) dX5_isText_7 (by omega) h_3 rfl (by decide) inX5 (by decide +kernel : Cond.fieldLink RX5 151 "ColumnSeasonsModel" "tolds" "I" ∈ wsX5_isText) rfl tyX5_ok nmX5 rfl rfl rfl (Nat.le_of_ble_eq_true rfl) ?_
  refine y_mem (va_up C_1 (61) (.inr (5, [.ref (E.2.1 (62)), .ref (E.2.1 (63)), .ref (E.2.1 (64)), .int (nI (hn)), .ref (E.2.1 (65)), .int fl, .ref (E.2.1 (66)), .int (nI (ln)), .int (0), .int va, .int so, .int se, .ref (E.2.1 (67)), .int (0)]))) rfl (fun C_6 eC_7 => ?_)
  have h_8 : C_6 (61) = .inr (5, [.ref (E.2.1 (62)), .ref (E.2.1 (63)), .ref (E.2.1 (64)), .int (nI (hn)), .ref (E.2.1 (65)), .int fl, .ref (E.2.1 (66)), .int (nI (ln)), .int (0), .int va, .int so, .int se, .ref (E.2.1 (67)), .int (0)]) := by rw [eC_7, va_up, if_pos rfl]
  have h_9 : C_6 (66) = .inl (E.2.2.1 1, 80, .inl zx) := by rw [eC_7, va_up, if_neg (by omega)]; exact h_4
  have h_10 : C_6 (67) = .inl (E.2.2.1 1, 84, .inl zl) := by rw [eC_7, va_up, if_neg (by omega)]; exact h_5
  refine y_iconst X (v := (1)) dX5_isText_10 (by decide) ?_
  refine y_istore_n X [(1, .int (1)), (0, .ref (E.2.1 (61)))] dX5_isText_11 rfl (by decide) rfl ?_
  have L_12 : ∀ (n : Nat) (C2 : xC) (n9 : Nat) (vb : Int32) (zl2 : Nat → Int32), ln - psN G ln n9 < n → (C2 (61) = .inr (5, [.ref (E.2.1 (62)), .ref (E.2.1 (63)), .ref (E.2.1 (64)), .int (nI (hn)), .ref (E.2.1 (65)), .int fl, .ref (E.2.1 (66)), .int (nI (ln)), .int (nI (psN G ln n9)), .int vb, .int so, .int se, .ref (E.2.1 (67)), .int (nI (n9))])) → (C2 (66) = .inl (E.2.2.1 1, 80, .inl zx)) → (C2 (67) = .inl (E.2.2.1 1, 84, .inl zl2)) → (∀ i9 : Nat, ¬ i9 = 61 → ¬ i9 = 67 → C2 i9 = C i9) → (psN G ln n9 ≤ ln) → (4 * n9 ≤ psN G ln n9) → (∀ i : Nat, i < n9 → TD zl2 (4 * i) G ln (psN G ln i)) → (∀ i : Nat, i < n9 → goT G ln i) → xY p l e ({ frames := 8, cells := 0, slots := 0, locals := 176 } : Room) s m args below meth c E (xA E) 2 0 0 (MQ below (xQ E (fun v C1 => v = some (.int (bI (okT G ln))) ∧ (∃ (va2 : Int32) (tl2 : Nat) (zl2 : Nat → Int32), C1 (61) = .inr (5, [.ref (E.2.1 (62)), .ref (E.2.1 (63)), .ref (E.2.1 (64)), .int (nI (hn)), .ref (E.2.1 (65)), .int fl, .ref (E.2.1 (66)), .int (nI (ln)), .int (nI (atT G ln)), .int va2, .int so, .int se, .ref (E.2.1 (67)), .int (nI (tl2))]) ∧ C1 (67) = .inl (E.2.2.1 1, 84, .inl zl2) ∧ (okT G ln → tl2 = tcN G ln + 1 ∧ tcN G ln < 20 ∧ ∀ i : Nat, i ≤ tcN G ln → TD zl2 (4 * i) G ln (psN G ln i))) ∧ (∀ i : Nat, ¬ i = 61 → ¬ i = 67 → C1 i = C i))) args s 0 0 (xA E)) C2 12 [(0, .ref (E.2.1 (61))), (1, .int (1))] [] := by
    intro n12
    induction n12 with
    | zero => intro _ _ _ _ hm12; exact absurd hm12 (Nat.not_lt_zero _)
    | succ n12 ih12 =>
      intro C2 n9 vb zl2 hm12 k0 k6 k7 gF2 gul g4 gTD gGo
      refine y_iload_n X dX5_isText_12 1 rfl ?_
      refine y_if_eq X 45 ((1) = (0)) dX5_isText_13 (by decide) (nI_eq (a := 1) (b := 0) (by omega) (by omega)) (fun c_11 => ?_) (fun c_11 => ?_)
      ·
        exact absurd c_11 (by decide)
      ·
        refine y_aload_n X dX5_isText_16 0 rfl ?_
        refine y_callV X (61) 5 (av := []) [] 0 (c_X5_isPart (G := G) (u0 := psN G ln n9) (tl := n9) (by omega) gl80 gX gG k0 k6 k7 (by omega)) (by omega) k0 rfl gX5_isText_X5_isPart rfl (by decide +kernel) rfl ⟨Nat.le_of_ble_eq_true rfl, Nat.le_of_ble_eq_true rfl⟩ ⟨Nat.zero_le _, Nat.zero_le _⟩ (Nat.le_of_ble_eq_true rfl) rfl dX5_isText_17 (fun v_12 C_13 hp_14 => ?_)
        obtain ⟨gv15, ⟨vz15, zz15, gM15, gZ15, gW15, gK15⟩, gF15⟩ := hp_14
        rcases Decidable.em (cmO G ln (psN G ln n9)) with cp15 | cp15
        ·
          rw [bI_1 cp15] at gv15
          subst gv15
          have gY15 := gW15 cp15
          have gb15 := cmP_b (G := G) (p := psN G ln n9) (ln := ln) (by omega)
          have gb315 := gb15.2.2 cp15
          have h_16 : C_13 (66) = .inl (E.2.2.1 1, 80, .inl zx) := (gF15 _ (by omega) (by omega)).trans k6
          refine y_if_ne X 25 (¬ ((1) = (0))) dX5_isText_20 (by decide) (cNe (nI_eq (a := 1) (b := 0) (by omega) (by omega))) (fun c_17 => ?_) (fun c_17 => ?_)
          ·
            refine y_aload_n X dX5_isText_25 0 rfl ?_
            refine y_dup X dX5_isText_26 rfl ?_
            refine y_get X (61) 5 13 (Cn := RX5) (T := TX5) (N := 14) (index := 151) (v := .int (nI (n9))) dX5_isText_27 (by omega) gM15 rfl (by decide) inX5 (by decide +kernel : Cond.fieldLink RX5 151 "ColumnSeasonsModel" "tolds" "I" ∈ wsX5_isText) rfl rfl ?_
            refine y_iconst X (v := (1)) dX5_isText_30 (by decide) ?_
            refine y_iadd X (z := (nI (n9 + 1))) dX5_isText_31 (nI_add (n9) (1)) ?_
            refine y_put X (61) 5 13 (Cn := RX5) (T := TX5) (N := 14) (index := 151) tyX5 (v := .int (nI (n9 + 1))) dX5_isText_32 (by omega) gM15 rfl (by decide) inX5 (by decide +kernel : Cond.fieldLink RX5 151 "ColumnSeasonsModel" "tolds" "I" ∈ wsX5_isText) rfl tyX5_ok nmX5 rfl rfl rfl (Nat.le_of_ble_eq_true rfl) ?_
            refine y_mem (va_up C_13 (61) (.inr (5, [.ref (E.2.1 (62)), .ref (E.2.1 (63)), .ref (E.2.1 (64)), .int (nI (hn)), .ref (E.2.1 (65)), .int fl, .ref (E.2.1 (66)), .int (nI (ln)), .int (nI (cmP G ln (psN G ln n9))), .int vz15, .int so, .int se, .ref (E.2.1 (67)), .int (nI (n9 + 1))]))) rfl (fun C_18 eC_19 => ?_)
            have h_20 : C_18 (61) = .inr (5, [.ref (E.2.1 (62)), .ref (E.2.1 (63)), .ref (E.2.1 (64)), .int (nI (hn)), .ref (E.2.1 (65)), .int fl, .ref (E.2.1 (66)), .int (nI (ln)), .int (nI (cmP G ln (psN G ln n9))), .int vz15, .int so, .int se, .ref (E.2.1 (67)), .int (nI (n9 + 1))]) := by rw [eC_19, va_up, if_pos rfl]
            have h_21 : C_18 (66) = .inl (E.2.2.1 1, 80, .inl zx) := by rw [eC_19, va_up, if_neg (by omega)]; exact h_16
            have h_22 : C_18 (67) = .inl (E.2.2.1 1, 84, .inl zz15) := by rw [eC_19, va_up, if_neg (by omega)]; exact gZ15
            refine y_aload_n X dX5_isText_35 0 rfl ?_
            refine y_bipush X (v := (59)) dX5_isText_36 (by decide) ?_
            refine y_callV X (61) 5 (av := [.int (59)]) [] 1 (c_X5_sign (G := G) (u0 := cmP G ln (psN G ln n9)) (tl := n9 + 1) (by omega) gl80 gX gG h_20 h_21 (c0 := 59) (by omega)) (by omega) h_20 rfl gX5_isText_X5_sign rfl (by decide +kernel) rfl ⟨Nat.le_of_ble_eq_true rfl, Nat.le_of_ble_eq_true rfl⟩ ⟨Nat.zero_le _, Nat.zero_le _⟩ (Nat.le_of_ble_eq_true rfl) rfl dX5_isText_38 (fun v_23 C_24 hp_25 => ?_)
            obtain ⟨gv26, gM26, gF26⟩ := hp_25
            rcases Decidable.em (chA G ln (cmP G ln (psN G ln n9)) (59)) with cs26 | cs26
            ·
              rw [bI_1 cs26] at gv26
              subst gv26
              rw [if_pos cs26] at gM26
              have gb26 := cs26.1
              have h_27 : C_24 (66) = .inl (E.2.2.1 1, 80, .inl zx) := (gF26 _ (by omega)).trans h_21
              have h_28 : C_24 (67) = .inl (E.2.2.1 1, 84, .inl zz15) := (gF26 _ (by omega)).trans h_22
              refine y_istore_n X [(1, .int (1)), (0, .ref (E.2.1 (61)))] dX5_isText_41 rfl (by decide) rfl ?_
              refine y_goto X 12 dX5_isText_42 (by decide) ?_
              refine y_pick [1, 0] [(0, .ref (E.2.1 (61))), (1, .int (1))] rfl ?_
              exact ih12 (C_24) (n9 + 1) (vz15) (zz15) (by show ln - (cmP G ln (psN G ln n9) + 1) < _; omega) gM26 h_27 h_28 (fun i9 g9 g8 => by rw [gF26 i9 (by omega)]; rw [eC_19, va_up, if_neg (by omega)]; rw [gF15 i9 (by omega) (by omega)]; rw [gF2 i9 (by omega) (by omega)]) (by show cmP G ln (psN G ln n9) + 1 ≤ ln; omega) (by show 4 * (n9 + 1) ≤ cmP G ln (psN G ln n9) + 1; omega) (fun i q1 => by rcases Nat.lt_or_ge i n9 with q3 | q3; exact TD_same (gTD i q3) (fun z a b => gK15 z (by omega)); rw [show i = n9 by omega]; exact gY15) (fun i q1 => by rcases Nat.lt_or_ge i n9 with q3 | q3; exact gGo i q3; rw [show i = n9 by omega]; exact ⟨cp15, cs26⟩)
            ·
              rw [bI_0 cs26] at gv26
              subst gv26
              rw [if_neg cs26] at gM26
              have h_29 : C_24 (66) = .inl (E.2.2.1 1, 80, .inl zx) := (gF26 _ (by omega)).trans h_21
              have h_30 : C_24 (67) = .inl (E.2.2.1 1, 84, .inl zz15) := (gF26 _ (by omega)).trans h_22
              refine y_istore_n X [(1, .int (0)), (0, .ref (E.2.1 (61)))] dX5_isText_41 rfl (by decide) rfl ?_
              refine y_goto X 12 dX5_isText_42 (by decide) ?_
              refine y_iload_n X dX5_isText_12 0 rfl ?_
              refine y_if_eq X 45 ((0) = (0)) dX5_isText_13 (by decide) (nI_eq (a := 0) (b := 0) (by omega) (by omega)) (fun c_31 => ?_) (fun c_31 => ?_)
              ·
                refine y_aload_n X dX5_isText_45 1 rfl ?_
                refine y_get X (61) 5 8 (Cn := RX5) (T := TX5) (N := 14) (index := 131) (v := .int (nI (cmP G ln (psN G ln n9)))) dX5_isText_46 (by omega) gM26 rfl (by decide) inX5 (by decide +kernel : Cond.fieldLink RX5 131 "ColumnSeasonsModel" "at" "I" ∈ wsX5_isText) rfl rfl ?_
                refine y_aload_n X dX5_isText_49 1 rfl ?_
                refine y_get X (61) 5 7 (Cn := RX5) (T := TX5) (N := 14) (index := 128) (v := .int (nI (ln))) dX5_isText_50 (by omega) gM26 rfl (by decide) inX5 (by decide +kernel : Cond.fieldLink RX5 128 "ColumnSeasonsModel" "typed" "I" ∈ wsX5_isText) rfl rfl ?_
                refine y_icmp_ne X 60 (¬ ((cmP G ln (psN G ln n9)) = (ln))) dX5_isText_53 (by decide) (cNe (nI_eq (a := cmP G ln (psN G ln n9)) (b := ln) (by omega) (by omega))) (fun c_32 => ?_) (fun c_32 => ?_)
                ·
                  refine y_iconst X (v := (0)) dX5_isText_60 (by decide) ?_
                  exact y_zret X hr (by rfl) dX5_isText_61 rfl (by have eN : tcN G ln = n9 := cnT_is 21 0 (by omega) (by omega) gGo (fun z => cs26 z.2); have g2 : atT G ln = cmP G ln (psN G ln n9) := (by unfold atT; rw [eN]); rw [g2]; have gN : ¬ okT G ln := (fun z => by have z1 : cmP G ln (psN G ln (tcN G ln)) = ln := z.2; rw [eN] at z1; omega); exact ⟨congrArg (fun z => some (Value.int z)) (bI_0 gN).symm, ⟨_, _, _, gM26, h_30, fun z => absurd z gN⟩, (fun i9 g9 g8 => by rw [gF26 i9 (by omega)]; rw [eC_19, va_up, if_neg (by omega)]; rw [gF15 i9 (by omega) (by omega)]; rw [gF2 i9 (by omega) (by omega)])⟩)
                ·
                  have c_32 := Decidable.of_not_not c_32
                  refine y_iconst X (v := (1)) dX5_isText_56 (by decide) ?_
                  refine y_goto X 61 dX5_isText_57 (by decide) ?_
                  exact y_zret X hr (by rfl) dX5_isText_61 rfl (by have eN : tcN G ln = n9 := cnT_is 21 0 (by omega) (by omega) gGo (fun z => cs26 z.2); have g2 : atT G ln = cmP G ln (psN G ln n9) := (by unfold atT; rw [eN]); rw [g2]; have gO : okT G ln := (by have z1 : cmO G ln (psN G ln (tcN G ln)) := (by rw [eN]; exact cp15); have z2 : cmP G ln (psN G ln (tcN G ln)) = ln := (by rw [eN]; omega); exact ⟨z1, z2⟩); exact ⟨congrArg (fun z => some (Value.int z)) (bI_1 gO).symm, ⟨_, _, _, gM26, h_30, fun _ => ⟨(by rw [eN]), (by omega), fun i q1 => by rw [eN] at q1; rcases Nat.lt_or_ge i n9 with q3 | q3; exact TD_same (gTD i q3) (fun z a b => gK15 z (by omega)); rw [show i = n9 by omega]; exact gY15⟩⟩, (fun i9 g9 g8 => by rw [gF26 i9 (by omega)]; rw [eC_19, va_up, if_neg (by omega)]; rw [gF15 i9 (by omega) (by omega)]; rw [gF2 i9 (by omega) (by omega)])⟩)
              ·
                exact absurd c_31 (by decide)
          ·
            have c_17 := Decidable.of_not_not c_17
            exact absurd c_17 (by decide)
        ·
          rw [bI_0 cp15] at gv15
          subst gv15
          have gb15 := cmP_b (G := G) (p := psN G ln n9) (ln := ln) (by omega)
          have h_33 : C_13 (66) = .inl (E.2.2.1 1, 80, .inl zx) := (gF15 _ (by omega) (by omega)).trans k6
          refine y_if_ne X 25 (¬ ((0) = (0))) dX5_isText_20 (by decide) (cNe (nI_eq (a := 0) (b := 0) (by omega) (by omega))) (fun c_34 => ?_) (fun c_34 => ?_)
          ·
            exact absurd c_34 (by decide)
          ·
            have c_34 := Decidable.of_not_not c_34
            refine y_iconst X (v := (0)) dX5_isText_23 (by decide) ?_
            exact y_zret X hr (by rfl) dX5_isText_24 rfl (by have eN : tcN G ln = n9 := cnT_is 21 0 (by omega) (by omega) gGo (fun z => cp15 z.1); have g2 : atT G ln = cmP G ln (psN G ln n9) := (by unfold atT; rw [eN]); rw [g2]; have gN : ¬ okT G ln := (fun z => by have z1 : cmO G ln (psN G ln (tcN G ln)) := z.1; rw [eN] at z1; exact cp15 z1); exact ⟨congrArg (fun z => some (Value.int z)) (bI_0 gN).symm, ⟨_, _, _, gM15, gZ15, fun z => absurd z gN⟩, (fun i9 g9 g8 => by rw [gF15 i9 (by omega) (by omega)]; rw [gF2 i9 (by omega) (by omega)])⟩)
  refine y_pick [1, 0] [(0, .ref (E.2.1 (61))), (1, .int (1))] rfl ?_
  exact L_12 _ (C_6) (0) (va) (zl) (Nat.lt_succ_self _) h_8 h_9 h_10 (fun i9 g9 g8 => by rw [eC_7, va_up, if_neg (by omega)]; rw [eC_2, va_up, if_neg (by omega)]) (Nat.zero_le _) (Nat.le_refl _) (fun _ q1 => absurd q1 (Nat.not_lt_zero _)) (fun _ q1 => absurd q1 (Nat.not_lt_zero _))
