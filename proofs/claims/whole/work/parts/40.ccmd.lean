set_option maxRecDepth 100000 in
set_option maxHeartbeats 4000000 in
theorem c_X2_readKind {l : Launch} {E : xE} {C : xC} {G : Nat → Nat} {u0 ln : Nat} {cc nu : Int32} {xt : Nat → Int32} (gp : u0 ≤ ln) (gl80 : ln ≤ 80) (gX : ∀ z : Nat, z < ln → xt z = nI (G z)) (gG : ∀ z : Nat, z < ln → G z < 65536) (s0 : C (38) = .inr (2, [.ref (E.2.1 (39)), .int (nI (ln)), .ref (E.2.1 (40)), .int cc, .int (nI (u0)), .int nu])) (s1 : C (39) = .inl (E.2.2.1 0, 80, .inl xt)) {b : Nat} {vb rw0 nm0 kd0 nb0 : Int32} (gb : 41 ≤ b) (gb2 : b < 61) (sb : C (b) = .inr (0, [.int vb, .int rw0, .int nm0, .int kd0, .int nb0])) : xM E l yX2_readKind wsX2_readKind 5 107 [.ref (E.2.1 (38)), .ref (E.2.1 (b))] C (fun v C1 => v = some (.int (bI (kdO G ln u0))) ∧ (∃ w2 nu2 : Int32, C1 (38) = .inr (2, [.ref (E.2.1 (39)), .int (nI (ln)), .ref (E.2.1 (40)), .int cc, .int (nI (kdP G ln u0)), .int nu2]) ∧ C1 (b) = .inr (0, [.int vb, .int rw0, .int nm0, .int w2, .int nb0]) ∧ ((kdO G ln u0) → w2 = nI (kdK G ln (u0 + 1)))) ∧ (∀ i : Nat, ¬ i = 38 → ¬ i = b → C1 i = C i)) := by
  refine xM_ofY (cc := cX2_readKind) (maxL := 2) (ret := (some .boolean)) (by decide) rfl (Nat.le_of_ble_eq_true rfl) ?_
  intro p e s m args below meth c X hr
  have inX0 : ∀ w ∈ wsX00, w ∈ wsX2_readKind := by decide +kernel
  refine y_lv [(0, .ref (E.2.1 (38))), (1, .ref (E.2.1 (b)))] rfl ?_
  refine y_aload_n X dX2_readKind_0 0 rfl ?_
  refine y_bipush X (v := (32)) dX2_readKind_1 (by decide) ?_
  refine y_callV X (38) 2 (av := [.int (32)]) [] 1 (c_X2_readSign (G := G) (u0 := u0) (by omega) gl80 gX gG s0 s1 (c0 := 32) (by omega)) (by omega) s0 rfl gX2_readKind_X2_readSign rfl (by decide +kernel) rfl ⟨Nat.le_of_ble_eq_true rfl, Nat.le_of_ble_eq_true rfl⟩ ⟨Nat.zero_le _, Nat.zero_le _⟩ (Nat.le_of_ble_eq_true rfl) rfl dX2_readKind_3 (fun v_1 C_2 hp_3 => ?_)
  obtain ⟨gv4, gM4, gF4⟩ := hp_3
  rcases Decidable.em (chA G ln (u0) (32)) with cs4 | cs4
  ·
    rw [bI_1 cs4] at gv4
    subst gv4
    rw [if_pos cs4] at gM4
    have gb4 := cs4.1
    have h_5 : C_2 (39) = .inl (E.2.2.1 0, 80, .inl xt) := (gF4 _ (by omega)).trans s1
    have h_6 : C_2 (b) = .inr (0, [.int vb, .int rw0, .int nm0, .int kd0, .int nb0]) := (gF4 _ (by omega)).trans sb
    refine y_if_ne X 11 (¬ ((1) = (0))) dX2_readKind_6 (by decide) (cNe (nI_eq (a := 1) (b := 0) (by omega) (by omega))) (fun c_7 => ?_) (fun c_7 => ?_)
    ·
      refine y_aload_n X dX2_readKind_11 0 rfl ?_
      refine y_bipush X (v := (102)) dX2_readKind_12 (by decide) ?_
      refine y_callVr X (38) 2 (av := [.int (102)]) [] 1 (c_X2_isNext (G := G) (u0 := u0 + 1) (by omega) gl80 gX gG gM4 h_5 (c0 := 102) (by omega)) (by omega) gM4 rfl gX2_readKind_X2_isNext rfl (by decide +kernel) rfl ⟨Nat.le_of_ble_eq_true rfl, Nat.le_of_ble_eq_true rfl⟩ ⟨Nat.zero_le _, Nat.zero_le _⟩ (Nat.le_of_ble_eq_true rfl) rfl dX2_readKind_14 ?_
      refine y_if_eq X 32 (¬ (chA G ln (u0 + 1) (102))) dX2_readKind_17 (by decide) bI_eq (fun c_8 => ?_) (fun c_8 => ?_)
      ·
        refine y_aload_n X dX2_readKind_32 0 rfl ?_
        refine y_bipush X (v := (100)) dX2_readKind_33 (by decide) ?_
        refine y_callVr X (38) 2 (av := [.int (100)]) [] 1 (c_X2_isNext (G := G) (u0 := u0 + 1) (by omega) gl80 gX gG gM4 h_5 (c0 := 100) (by omega)) (by omega) gM4 rfl gX2_readKind_X2_isNext rfl (by decide +kernel) rfl ⟨Nat.le_of_ble_eq_true rfl, Nat.le_of_ble_eq_true rfl⟩ ⟨Nat.zero_le _, Nat.zero_le _⟩ (Nat.le_of_ble_eq_true rfl) rfl dX2_readKind_35 ?_
        refine y_if_eq X 53 (¬ (chA G ln (u0 + 1) (100))) dX2_readKind_38 (by decide) bI_eq (fun c_9 => ?_) (fun c_9 => ?_)
        ·
          refine y_aload_n X dX2_readKind_53 1 rfl ?_
          refine y_iconst X (v := (2)) dX2_readKind_54 (by decide) ?_
          refine y_putN X (b) 0 3 (Cn := RX0) (T := TX0) (N := 5) (index := 88) tyX0 (v := .int (2)) dX2_readKind_55 (by omega) h_6 rfl (by decide) inX0 (by decide +kernel : Cond.fieldLinkNest RX2 88 "ColumnSeasons$Command" "kind" "I" "ColumnSeasons" ∈ xnest) rfl tyX0_ok nmX0 rfl rfl rfl (Nat.le_of_ble_eq_true rfl) ?_
          refine y_mem (va_up C_2 (b) (.inr (0, [.int vb, .int rw0, .int nm0, .int (2), .int nb0]))) rfl (fun C_10 eC_11 => ?_)
          have h_12 : C_10 (38) = .inr (2, [.ref (E.2.1 (39)), .int (nI (ln)), .ref (E.2.1 (40)), .int cc, .int (nI (u0 + 1)), .int nu]) := by rw [eC_11, va_up, if_neg (by omega)]; exact gM4
          have h_13 : C_10 (39) = .inl (E.2.2.1 0, 80, .inl xt) := by rw [eC_11, va_up, if_neg (by omega)]; exact h_5
          have h_14 : C_10 (b) = .inr (0, [.int vb, .int rw0, .int nm0, .int (2), .int nb0]) := by rw [eC_11, va_up, if_pos rfl]
          refine y_aload_n X dX2_readKind_58 0 rfl ?_
          refine y_ldcS X (3) (by decide) rfl dX2_readKind_59 rfl ?_
          refine y_callV X (38) 2 (av := [.ref (E.2.2.2.1 (3))]) [] 1 (c_X2_readWord (G := G) (u0 := u0 + 1) (by omega) gl80 gX gG h_12 h_13 (k9 := 3) (by decide)) (by omega) h_12 rfl gX2_readKind_X2_readWord rfl (by decide +kernel) rfl ⟨Nat.le_of_ble_eq_true rfl, Nat.le_of_ble_eq_true rfl⟩ ⟨Nat.zero_le _, Nat.zero_le _⟩ (Nat.le_of_ble_eq_true rfl) rfl dX2_readKind_61 (fun v_15 C_16 hp_17 => ?_)
          obtain ⟨gv18, gM18, gF18⟩ := hp_17
          rcases Decidable.em (wdO G ln (wlk 3) (u0 + 1)) with cw18 | cw18
          ·
            rw [bI_1 cw18] at gv18
            subst gv18
            have gb18 := wdP_b (G := G) (ln := ln) (wlk 3) (u0 + 1) (by omega)
            have gz18 : wdP G ln (wlk 3) (u0 + 1) = u0 + 1 + 6 := gb18.2.2 cw18
            rw [gz18] at gM18
            have gb818 : u0 + 1 + 6 ≤ ln := (by rw [gz18] at gb18; exact gb18.2.1)
            have h_19 : C_16 (39) = .inl (E.2.2.1 0, 80, .inl xt) := (gF18 _ (by omega)).trans h_13
            have h_20 : C_16 (b) = .inr (0, [.int vb, .int rw0, .int nm0, .int (2), .int nb0]) := (gF18 _ (by omega)).trans h_14
            exact y_zret X hr (by rfl) dX2_readKind_64 rfl (by have gk : kdK G ln (u0 + 1) = 2 := (by unfold kdK; rw [if_neg c_8]; exact if_neg c_9); exact (by have g2 : kdP G ln u0 = u0 + 1 + 6 := (by unfold kdP; rw [if_pos cs4, gk]; exact (wdP_b (G := G) (ln := ln) (wlk 3) (u0 + 1) (by omega)).2.2 cw18); rw [g2]; have gO : kdO G ln u0 := ⟨cs4, (by rw [gk]; exact cw18)⟩; exact ⟨congrArg (fun z => some (Value.int z)) (bI_1 gO).symm, ⟨_, _, gM18, h_20, fun _ => (by rw [gk]; rfl)⟩, (fun i9 g9 g8 => by rw [gF18 i9 (by omega)]; rw [eC_11, va_up, if_neg (by omega)]; rw [gF4 i9 (by omega)])⟩))
          ·
            rw [bI_0 cw18] at gv18
            subst gv18
            have gb18 := wdP_b (G := G) (ln := ln) (wlk 3) (u0 + 1) (by omega)
            have h_21 : C_16 (39) = .inl (E.2.2.1 0, 80, .inl xt) := (gF18 _ (by omega)).trans h_13
            have h_22 : C_16 (b) = .inr (0, [.int vb, .int rw0, .int nm0, .int (2), .int nb0]) := (gF18 _ (by omega)).trans h_14
            exact y_zret X hr (by rfl) dX2_readKind_64 rfl (by have gk : kdK G ln (u0 + 1) = 2 := (by unfold kdK; rw [if_neg c_8]; exact if_neg c_9); exact (by have g2 : kdP G ln u0 = wdP G ln (wlk 3) (u0 + 1) := (by unfold kdP; rw [if_pos cs4, gk]; rfl); rw [g2]; have gN : ¬ (kdO G ln u0) := (fun z => by have z2 := z.2; rw [gk] at z2; exact cw18 z2); exact ⟨congrArg (fun z => some (Value.int z)) (bI_0 gN).symm, ⟨_, _, gM18, h_22, fun z => absurd z gN⟩, (fun i9 g9 g8 => by rw [gF18 i9 (by omega)]; rw [eC_11, va_up, if_neg (by omega)]; rw [gF4 i9 (by omega)])⟩))
        ·
          have c_9 := Decidable.of_not_not c_9
          refine y_aload_n X dX2_readKind_41 1 rfl ?_
          refine y_iconst X (v := (1)) dX2_readKind_42 (by decide) ?_
          refine y_putN X (b) 0 3 (Cn := RX0) (T := TX0) (N := 5) (index := 88) tyX0 (v := .int (1)) dX2_readKind_43 (by omega) h_6 rfl (by decide) inX0 (by decide +kernel : Cond.fieldLinkNest RX2 88 "ColumnSeasons$Command" "kind" "I" "ColumnSeasons" ∈ xnest) rfl tyX0_ok nmX0 rfl rfl rfl (Nat.le_of_ble_eq_true rfl) ?_
          refine y_mem (va_up C_2 (b) (.inr (0, [.int vb, .int rw0, .int nm0, .int (1), .int nb0]))) rfl (fun C_23 eC_24 => ?_)
          have h_25 : C_23 (38) = .inr (2, [.ref (E.2.1 (39)), .int (nI (ln)), .ref (E.2.1 (40)), .int cc, .int (nI (u0 + 1)), .int nu]) := by rw [eC_24, va_up, if_neg (by omega)]; exact gM4
          have h_26 : C_23 (39) = .inl (E.2.2.1 0, 80, .inl xt) := by rw [eC_24, va_up, if_neg (by omega)]; exact h_5
          have h_27 : C_23 (b) = .inr (0, [.int vb, .int rw0, .int nm0, .int (1), .int nb0]) := by rw [eC_24, va_up, if_pos rfl]
          refine y_aload_n X dX2_readKind_46 0 rfl ?_
          refine y_ldcS X (2) (by decide) rfl dX2_readKind_47 rfl ?_
          refine y_callV X (38) 2 (av := [.ref (E.2.2.2.1 (2))]) [] 1 (c_X2_readWord (G := G) (u0 := u0 + 1) (by omega) gl80 gX gG h_25 h_26 (k9 := 2) (by decide)) (by omega) h_25 rfl gX2_readKind_X2_readWord rfl (by decide +kernel) rfl ⟨Nat.le_of_ble_eq_true rfl, Nat.le_of_ble_eq_true rfl⟩ ⟨Nat.zero_le _, Nat.zero_le _⟩ (Nat.le_of_ble_eq_true rfl) rfl dX2_readKind_49 (fun v_28 C_29 hp_30 => ?_)
          obtain ⟨gv31, gM31, gF31⟩ := hp_30
          rcases Decidable.em (wdO G ln (wlk 2) (u0 + 1)) with cw31 | cw31
          ·
            rw [bI_1 cw31] at gv31
            subst gv31
            have gb31 := wdP_b (G := G) (ln := ln) (wlk 2) (u0 + 1) (by omega)
            have gz31 : wdP G ln (wlk 2) (u0 + 1) = u0 + 1 + 5 := gb31.2.2 cw31
            rw [gz31] at gM31
            have gb831 : u0 + 1 + 5 ≤ ln := (by rw [gz31] at gb31; exact gb31.2.1)
            have h_32 : C_29 (39) = .inl (E.2.2.1 0, 80, .inl xt) := (gF31 _ (by omega)).trans h_26
            have h_33 : C_29 (b) = .inr (0, [.int vb, .int rw0, .int nm0, .int (1), .int nb0]) := (gF31 _ (by omega)).trans h_27
            exact y_zret X hr (by rfl) dX2_readKind_52 rfl (by have gk : kdK G ln (u0 + 1) = 1 := (by unfold kdK; rw [if_neg c_8]; exact if_pos c_9); exact (by have g2 : kdP G ln u0 = u0 + 1 + 5 := (by unfold kdP; rw [if_pos cs4, gk]; exact (wdP_b (G := G) (ln := ln) (wlk 2) (u0 + 1) (by omega)).2.2 cw31); rw [g2]; have gO : kdO G ln u0 := ⟨cs4, (by rw [gk]; exact cw31)⟩; exact ⟨congrArg (fun z => some (Value.int z)) (bI_1 gO).symm, ⟨_, _, gM31, h_33, fun _ => (by rw [gk]; rfl)⟩, (fun i9 g9 g8 => by rw [gF31 i9 (by omega)]; rw [eC_24, va_up, if_neg (by omega)]; rw [gF4 i9 (by omega)])⟩))
          ·
            rw [bI_0 cw31] at gv31
            subst gv31
            have gb31 := wdP_b (G := G) (ln := ln) (wlk 2) (u0 + 1) (by omega)
            have h_34 : C_29 (39) = .inl (E.2.2.1 0, 80, .inl xt) := (gF31 _ (by omega)).trans h_26
            have h_35 : C_29 (b) = .inr (0, [.int vb, .int rw0, .int nm0, .int (1), .int nb0]) := (gF31 _ (by omega)).trans h_27
            exact y_zret X hr (by rfl) dX2_readKind_52 rfl (by have gk : kdK G ln (u0 + 1) = 1 := (by unfold kdK; rw [if_neg c_8]; exact if_pos c_9); exact (by have g2 : kdP G ln u0 = wdP G ln (wlk 2) (u0 + 1) := (by unfold kdP; rw [if_pos cs4, gk]; rfl); rw [g2]; have gN : ¬ (kdO G ln u0) := (fun z => by have z2 := z.2; rw [gk] at z2; exact cw31 z2); exact ⟨congrArg (fun z => some (Value.int z)) (bI_0 gN).symm, ⟨_, _, gM31, h_35, fun z => absurd z gN⟩, (fun i9 g9 g8 => by rw [gF31 i9 (by omega)]; rw [eC_24, va_up, if_neg (by omega)]; rw [gF4 i9 (by omega)])⟩))
      ·
        have c_8 := Decidable.of_not_not c_8
        refine y_aload_n X dX2_readKind_20 1 rfl ?_
        refine y_iconst X (v := (0)) dX2_readKind_21 (by decide) ?_
        refine y_putN X (b) 0 3 (Cn := RX0) (T := TX0) (N := 5) (index := 88) tyX0 (v := .int (0)) dX2_readKind_22 (by omega) h_6 rfl (by decide) inX0 (by decide +kernel : Cond.fieldLinkNest RX2 88 "ColumnSeasons$Command" "kind" "I" "ColumnSeasons" ∈ xnest) rfl tyX0_ok nmX0 rfl rfl rfl (Nat.le_of_ble_eq_true rfl) ?_
        refine y_mem (va_up C_2 (b) (.inr (0, [.int vb, .int rw0, .int nm0, .int (0), .int nb0]))) rfl (fun C_36 eC_37 => ?_)
        have h_38 : C_36 (38) = .inr (2, [.ref (E.2.1 (39)), .int (nI (ln)), .ref (E.2.1 (40)), .int cc, .int (nI (u0 + 1)), .int nu]) := by rw [eC_37, va_up, if_neg (by omega)]; exact gM4
        have h_39 : C_36 (39) = .inl (E.2.2.1 0, 80, .inl xt) := by rw [eC_37, va_up, if_neg (by omega)]; exact h_5
        have h_40 : C_36 (b) = .inr (0, [.int vb, .int rw0, .int nm0, .int (0), .int nb0]) := by rw [eC_37, va_up, if_pos rfl]
        refine y_aload_n X dX2_readKind_25 0 rfl ?_
        refine y_ldcS X (1) (by decide) rfl dX2_readKind_26 rfl ?_
        refine y_callV X (38) 2 (av := [.ref (E.2.2.2.1 (1))]) [] 1 (c_X2_readWord (G := G) (u0 := u0 + 1) (by omega) gl80 gX gG h_38 h_39 (k9 := 1) (by decide)) (by omega) h_38 rfl gX2_readKind_X2_readWord rfl (by decide +kernel) rfl ⟨Nat.le_of_ble_eq_true rfl, Nat.le_of_ble_eq_true rfl⟩ ⟨Nat.zero_le _, Nat.zero_le _⟩ (Nat.le_of_ble_eq_true rfl) rfl dX2_readKind_28 (fun v_41 C_42 hp_43 => ?_)
        obtain ⟨gv44, gM44, gF44⟩ := hp_43
        rcases Decidable.em (wdO G ln (wlk 1) (u0 + 1)) with cw44 | cw44
        ·
          rw [bI_1 cw44] at gv44
          subst gv44
          have gb44 := wdP_b (G := G) (ln := ln) (wlk 1) (u0 + 1) (by omega)
          have gz44 : wdP G ln (wlk 1) (u0 + 1) = u0 + 1 + 4 := gb44.2.2 cw44
          rw [gz44] at gM44
          have gb844 : u0 + 1 + 4 ≤ ln := (by rw [gz44] at gb44; exact gb44.2.1)
          have h_45 : C_42 (39) = .inl (E.2.2.1 0, 80, .inl xt) := (gF44 _ (by omega)).trans h_39
          have h_46 : C_42 (b) = .inr (0, [.int vb, .int rw0, .int nm0, .int (0), .int nb0]) := (gF44 _ (by omega)).trans h_40
          exact y_zret X hr (by rfl) dX2_readKind_31 rfl (by have gk : kdK G ln (u0 + 1) = 0 := (by unfold kdK; exact if_pos c_8); exact (by have g2 : kdP G ln u0 = u0 + 1 + 4 := (by unfold kdP; rw [if_pos cs4, gk]; exact (wdP_b (G := G) (ln := ln) (wlk 1) (u0 + 1) (by omega)).2.2 cw44); rw [g2]; have gO : kdO G ln u0 := ⟨cs4, (by rw [gk]; exact cw44)⟩; exact ⟨congrArg (fun z => some (Value.int z)) (bI_1 gO).symm, ⟨_, _, gM44, h_46, fun _ => (by rw [gk]; rfl)⟩, (fun i9 g9 g8 => by rw [gF44 i9 (by omega)]; rw [eC_37, va_up, if_neg (by omega)]; rw [gF4 i9 (by omega)])⟩))
        ·
          rw [bI_0 cw44] at gv44
          subst gv44
          have gb44 := wdP_b (G := G) (ln := ln) (wlk 1) (u0 + 1) (by omega)
          have h_47 : C_42 (39) = .inl (E.2.2.1 0, 80, .inl xt) := (gF44 _ (by omega)).trans h_39
          have h_48 : C_42 (b) = .inr (0, [.int vb, .int rw0, .int nm0, .int (0), .int nb0]) := (gF44 _ (by omega)).trans h_40
          exact y_zret X hr (by rfl) dX2_readKind_31 rfl (by have gk : kdK G ln (u0 + 1) = 0 := (by unfold kdK; exact if_pos c_8); exact (by have g2 : kdP G ln u0 = wdP G ln (wlk 1) (u0 + 1) := (by unfold kdP; rw [if_pos cs4, gk]; rfl); rw [g2]; have gN : ¬ (kdO G ln u0) := (fun z => by have z2 := z.2; rw [gk] at z2; exact cw44 z2); exact ⟨congrArg (fun z => some (Value.int z)) (bI_0 gN).symm, ⟨_, _, gM44, h_48, fun z => absurd z gN⟩, (fun i9 g9 g8 => by rw [gF44 i9 (by omega)]; rw [eC_37, va_up, if_neg (by omega)]; rw [gF4 i9 (by omega)])⟩))
    ·
      have c_7 := Decidable.of_not_not c_7
      exact absurd c_7 (by decide)
  ·
    rw [bI_0 cs4] at gv4
    subst gv4
    rw [if_neg cs4] at gM4
    have h_49 : C_2 (39) = .inl (E.2.2.1 0, 80, .inl xt) := (gF4 _ (by omega)).trans s1
    have h_50 : C_2 (b) = .inr (0, [.int vb, .int rw0, .int nm0, .int kd0, .int nb0]) := (gF4 _ (by omega)).trans sb
    refine y_if_ne X 11 (¬ ((0) = (0))) dX2_readKind_6 (by decide) (cNe (nI_eq (a := 0) (b := 0) (by omega) (by omega))) (fun c_51 => ?_) (fun c_51 => ?_)
    ·
      exact absurd c_51 (by decide)
    ·
      have c_51 := Decidable.of_not_not c_51
      refine y_iconst X (v := (0)) dX2_readKind_9 (by decide) ?_
      exact y_zret X hr (by rfl) dX2_readKind_10 rfl (by have g2 : kdP G ln u0 = u0 := if_neg cs4; rw [g2]; have gN : ¬ (kdO G ln u0) := (fun z => cs4 z.1); exact ⟨congrArg (fun z => some (Value.int z)) (bI_0 gN).symm, ⟨_, _, gM4, h_50, fun z => absurd z gN⟩, (fun i9 g9 g8 => by rw [gF4 i9 (by omega)])⟩)

set_option maxRecDepth 100000 in
set_option maxHeartbeats 4000000 in
theorem c_X2_readCommand {l : Launch} {E : xE} {C : xC} {G : Nat → Nat} {u0 ln : Nat} {cc nu : Int32} {xt : Nat → Int32} (gp : u0 ≤ ln) (gl80 : ln ≤ 80) (gX : ∀ z : Nat, z < ln → xt z = nI (G z)) (gG : ∀ z : Nat, z < ln → G z < 65536) (s0 : C (38) = .inr (2, [.ref (E.2.1 (39)), .int (nI (ln)), .ref (E.2.1 (40)), .int cc, .int (nI (u0)), .int nu])) (s1 : C (39) = .inl (E.2.2.1 0, 80, .inl xt)) {b : Nat} {vb rw0 nm0 kd0 nb0 : Int32} (gb : 41 ≤ b) (gb2 : b < 61) (sb : C (b) = .inr (0, [.int vb, .int rw0, .int nm0, .int kd0, .int nb0])) : xM E l yX2_readCommand wsX2_readCommand 6 128 [.ref (E.2.1 (38)), .ref (E.2.1 (b))] C (fun v C1 => v = some (.int (bI (cmO G ln u0))) ∧ (∃ a9 b9 c9 d9 e9 nu2 : Int32, C1 (38) = .inr (2, [.ref (E.2.1 (39)), .int (nI (ln)), .ref (E.2.1 (40)), .int cc, .int (nI (cmP G ln u0)), .int nu2]) ∧ C1 (b) = .inr (0, [.int a9, .int b9, .int c9, .int d9, .int e9]) ∧ ((cmO G ln u0) → CD G ln u0 a9 b9 c9 d9 e9)) ∧ (∀ i : Nat, ¬ i = 38 → ¬ i = b → C1 i = C i)) := by
  refine xM_ofY (cc := cX2_readCommand) (maxL := 2) (ret := (some .boolean)) (by decide) rfl (Nat.le_of_ble_eq_true rfl) ?_
  intro p e s m args below meth c X hr
  have inX0 : ∀ w ∈ wsX00, w ∈ wsX2_readCommand := by decide +kernel
  refine y_lv [(0, .ref (E.2.1 (38))), (1, .ref (E.2.1 (b)))] rfl ?_
  refine y_aload_n X dX2_readCommand_0 0 rfl ?_
  refine y_bipush X (v := (97)) dX2_readCommand_1 (by decide) ?_
  refine y_callVr X (38) 2 (av := [.int (97)]) [] 1 (c_X2_isNext (G := G) (u0 := u0) (by omega) gl80 gX gG s0 s1 (c0 := 97) (by omega)) (by omega) s0 rfl gX2_readCommand_X2_isNext rfl (by decide +kernel) rfl ⟨Nat.le_of_ble_eq_true rfl, Nat.le_of_ble_eq_true rfl⟩ ⟨Nat.zero_le _, Nat.zero_le _⟩ (Nat.le_of_ble_eq_true rfl) rfl dX2_readCommand_3 ?_
  refine y_if_eq X 53 (¬ (chA G ln (u0) (97))) dX2_readCommand_6 (by decide) bI_eq (fun c_1 => ?_) (fun c_1 => ?_)
  ·
    have gn97 : ¬ cmS G ln u0 = 97 := fun z => c_1 ((cmS_iff (by decide)).mp z)
    refine y_aload_n X dX2_readCommand_53 0 rfl ?_
    refine y_bipush X (v := (100)) dX2_readCommand_54 (by decide) ?_
    refine y_callVr X (38) 2 (av := [.int (100)]) [] 1 (c_X2_isNext (G := G) (u0 := u0) (by omega) gl80 gX gG s0 s1 (c0 := 100) (by omega)) (by omega) s0 rfl gX2_readCommand_X2_isNext rfl (by decide +kernel) rfl ⟨Nat.le_of_ble_eq_true rfl, Nat.le_of_ble_eq_true rfl⟩ ⟨Nat.zero_le _, Nat.zero_le _⟩ (Nat.le_of_ble_eq_true rfl) rfl dX2_readCommand_56 ?_
    refine y_if_eq X 90 (¬ (chA G ln (u0) (100))) dX2_readCommand_59 (by decide) bI_eq (fun c_2 => ?_) (fun c_2 => ?_)
    ·
      have gn100 : ¬ cmS G ln u0 = 100 := fun z => c_2 ((cmS_iff (by decide)).mp z)
      refine y_aload_n X dX2_readCommand_90 0 rfl ?_
      refine y_bipush X (v := (107)) dX2_readCommand_91 (by decide) ?_
      refine y_callVr X (38) 2 (av := [.int (107)]) [] 1 (c_X2_isNext (G := G) (u0 := u0) (by omega) gl80 gX gG s0 s1 (c0 := 107) (by omega)) (by omega) s0 rfl gX2_readCommand_X2_isNext rfl (by decide +kernel) rfl ⟨Nat.le_of_ble_eq_true rfl, Nat.le_of_ble_eq_true rfl⟩ ⟨Nat.zero_le _, Nat.zero_le _⟩ (Nat.le_of_ble_eq_true rfl) rfl dX2_readCommand_93 ?_
      refine y_if_eq X 135 (¬ (chA G ln (u0) (107))) dX2_readCommand_96 (by decide) bI_eq (fun c_3 => ?_) (fun c_3 => ?_)
      ·
        have gn107 : ¬ cmS G ln u0 = 107 := fun z => c_3 ((cmS_iff (by decide)).mp z)
        refine y_aload_n X dX2_readCommand_135 0 rfl ?_
        refine y_bipush X (v := (114)) dX2_readCommand_136 (by decide) ?_
        refine y_callVr X (38) 2 (av := [.int (114)]) [] 1 (c_X2_isNext (G := G) (u0 := u0) (by omega) gl80 gX gG s0 s1 (c0 := 114) (by omega)) (by omega) s0 rfl gX2_readCommand_X2_isNext rfl (by decide +kernel) rfl ⟨Nat.le_of_ble_eq_true rfl, Nat.le_of_ble_eq_true rfl⟩ ⟨Nat.zero_le _, Nat.zero_le _⟩ (Nat.le_of_ble_eq_true rfl) rfl dX2_readCommand_138 ?_
        refine y_if_eq X 156 (¬ (chA G ln (u0) (114))) dX2_readCommand_141 (by decide) bI_eq (fun c_4 => ?_) (fun c_4 => ?_)
        ·
          have gn114 : ¬ cmS G ln u0 = 114 := fun z => c_4 ((cmS_iff (by decide)).mp z)
          refine y_aload_n X dX2_readCommand_156 1 rfl ?_
          refine y_iconst X (v := (4)) dX2_readCommand_157 (by decide) ?_
          refine y_putN X (b) 0 0 (Cn := RX0) (T := TX0) (N := 5) (index := 46) tyX0 (v := .int (4)) dX2_readCommand_158 (by omega) sb rfl (by decide) inX0 (by decide +kernel : Cond.fieldLinkNest RX2 46 "ColumnSeasons$Command" "verb" "I" "ColumnSeasons" ∈ xnest) rfl tyX0_ok nmX0 rfl rfl rfl (Nat.le_of_ble_eq_true rfl) ?_
          refine y_mem (va_up C (b) (.inr (0, [.int (4), .int rw0, .int nm0, .int kd0, .int nb0]))) rfl (fun C_5 eC_6 => ?_)
          have h_7 : C_5 (38) = .inr (2, [.ref (E.2.1 (39)), .int (nI (ln)), .ref (E.2.1 (40)), .int cc, .int (nI (u0)), .int nu]) := by rw [eC_6, va_up, if_neg (by omega)]; exact s0
          have h_8 : C_5 (39) = .inl (E.2.2.1 0, 80, .inl xt) := by rw [eC_6, va_up, if_neg (by omega)]; exact s1
          have h_9 : C_5 (b) = .inr (0, [.int (4), .int rw0, .int nm0, .int kd0, .int nb0]) := by rw [eC_6, va_up, if_pos rfl]
          refine y_aload_n X dX2_readCommand_161 0 rfl ?_
          refine y_ldcS X (7) (by decide) rfl dX2_readCommand_162 rfl ?_
          refine y_callV X (38) 2 (av := [.ref (E.2.2.2.1 (7))]) [] 1 (c_X2_readWord (G := G) (u0 := u0) (by omega) gl80 gX gG h_7 h_8 (k9 := 7) (by decide)) (by omega) h_7 rfl gX2_readCommand_X2_readWord rfl (by decide +kernel) rfl ⟨Nat.le_of_ble_eq_true rfl, Nat.le_of_ble_eq_true rfl⟩ ⟨Nat.zero_le _, Nat.zero_le _⟩ (Nat.le_of_ble_eq_true rfl) rfl dX2_readCommand_164 (fun v_10 C_11 hp_12 => ?_)
          obtain ⟨gv13, gM13, gF13⟩ := hp_12
          rcases Decidable.em (wdO G ln (wlk 7) (u0)) with cw13 | cw13
          ·
            rw [bI_1 cw13] at gv13
            subst gv13
            have gb13 := wdP_b (G := G) (ln := ln) (wlk 7) (u0) (by omega)
            have gz13 : wdP G ln (wlk 7) (u0) = u0 + 3 := gb13.2.2 cw13
            rw [gz13] at gM13
            have gb813 : u0 + 3 ≤ ln := (by rw [gz13] at gb13; exact gb13.2.1)
            have h_14 : C_11 (39) = .inl (E.2.2.1 0, 80, .inl xt) := (gF13 _ (by omega)).trans h_8
            have h_15 : C_11 (b) = .inr (0, [.int (4), .int rw0, .int nm0, .int kd0, .int nb0]) := (gF13 _ (by omega)).trans h_9
            refine y_if_eq X 198 ((1) = (0)) dX2_readCommand_167 (by decide) (nI_eq (a := 1) (b := 0) (by omega) (by omega)) (fun c_16 => ?_) (fun c_16 => ?_)
            ·
              exact absurd c_16 (by decide)
            ·
              refine y_aload_n X dX2_readCommand_170 0 rfl ?_
              refine y_aload_n X dX2_readCommand_171 1 rfl ?_
              refine y_callV X (38) 2 (av := [.ref (E.2.1 (b))]) [] 1 (c_X2_readRow (G := G) (u0 := u0 + 3) (by omega) gl80 gX gG gM13 h_14 (b := b) gb gb2 h_15) (by omega) gM13 rfl gX2_readCommand_X2_readRow rfl (by decide +kernel) rfl ⟨Nat.le_of_ble_eq_true rfl, Nat.le_of_ble_eq_true rfl⟩ ⟨Nat.zero_le _, Nat.zero_le _⟩ (Nat.le_of_ble_eq_true rfl) rfl dX2_readCommand_172 (fun v_17 C_18 hp_19 => ?_)
              obtain ⟨gv20, ⟨wz20, vz20, gM20, gB20, gW20⟩, gF20⟩ := hp_19
              rcases Decidable.em (opO G ln (0) (23) (u0 + 3)) with co20 | co20
              ·
                rw [bI_1 co20] at gv20
                subst gv20
                have gY20 := gW20 co20
                subst gY20
                have gb20 := opP_b (G := G) (lw := (0)) (mo := 23) (p := u0 + 3) (ln := ln) (by omega)
                have h_21 : C_18 (39) = .inl (E.2.2.1 0, 80, .inl xt) := (gF20 _ (by omega) (by omega)).trans h_14
                refine y_if_eq X 198 ((1) = (0)) dX2_readCommand_175 (by decide) (nI_eq (a := 1) (b := 0) (by omega) (by omega)) (fun c_22 => ?_) (fun c_22 => ?_)
                ·
                  exact absurd c_22 (by decide)
                ·
                  refine y_aload_n X dX2_readCommand_178 0 rfl ?_
                  refine y_aload_n X dX2_readCommand_179 1 rfl ?_
                  refine y_callV X (38) 2 (av := [.ref (E.2.1 (b))]) [] 1 (c_X2_readName (G := G) (u0 := opP G ln (0) (23) (u0 + 3)) (by omega) gl80 gX gG gM20 h_21 (b := b) gb gb2 gB20) (by omega) gM20 rfl gX2_readCommand_X2_readName rfl (by decide +kernel) rfl ⟨Nat.le_of_ble_eq_true rfl, Nat.le_of_ble_eq_true rfl⟩ ⟨Nat.zero_le _, Nat.zero_le _⟩ (Nat.le_of_ble_eq_true rfl) rfl dX2_readCommand_180 (fun v_23 C_24 hp_25 => ?_)
                  obtain ⟨gv26, ⟨wz26, vz26, gM26, gB26, gW26⟩, gF26⟩ := hp_25
                  rcases Decidable.em (opO G ln (0) (7) (opP G ln (0) (23) (u0 + 3))) with co26 | co26
                  ·
                    rw [bI_1 co26] at gv26
                    subst gv26
                    have gY26 := gW26 co26
                    subst gY26
                    have gb26 := opP_b (G := G) (lw := (0)) (mo := 7) (p := opP G ln (0) (23) (u0 + 3)) (ln := ln) (by omega)
                    have h_27 : C_24 (39) = .inl (E.2.2.1 0, 80, .inl xt) := (gF26 _ (by omega) (by omega)).trans h_21
                    refine y_if_eq X 198 ((1) = (0)) dX2_readCommand_183 (by decide) (nI_eq (a := 1) (b := 0) (by omega) (by omega)) (fun c_28 => ?_) (fun c_28 => ?_)
                    ·
                      exact absurd c_28 (by decide)
                    ·
                      refine y_aload_n X dX2_readCommand_186 0 rfl ?_
                      refine y_aload_n X dX2_readCommand_187 1 rfl ?_
                      refine y_callV X (38) 2 (av := [.ref (E.2.1 (b))]) [] 1 (c_X2_readNumber (G := G) (u0 := opP G ln (0) (7) (opP G ln (0) (23) (u0 + 3))) (by omega) gl80 gX gG gM26 h_27 (b := b) gb gb2 gB26) (by omega) gM26 rfl gX2_readCommand_X2_readNumber rfl (by decide +kernel) rfl ⟨Nat.le_of_ble_eq_true rfl, Nat.le_of_ble_eq_true rfl⟩ ⟨Nat.zero_le _, Nat.zero_le _⟩ (Nat.le_of_ble_eq_true rfl) rfl dX2_readCommand_188 (fun v_29 C_30 hp_31 => ?_)
                      obtain ⟨gv32, ⟨wz32, vz32, gM32, gB32, gW32⟩, gF32⟩ := hp_31
                      rcases Decidable.em (opO G ln (-9999) (9999) (opP G ln (0) (7) (opP G ln (0) (23) (u0 + 3)))) with co32 | co32
                      ·
                        rw [bI_1 co32] at gv32
                        subst gv32
                        have gY32 := gW32 co32
                        subst gY32
                        have gb32 := opP_b (G := G) (lw := (-9999)) (mo := 9999) (p := opP G ln (0) (7) (opP G ln (0) (23) (u0 + 3))) (ln := ln) (by omega)
                        have h_33 : C_30 (39) = .inl (E.2.2.1 0, 80, .inl xt) := (gF32 _ (by omega) (by omega)).trans h_27
                        refine y_if_eq X 198 ((1) = (0)) dX2_readCommand_191 (by decide) (nI_eq (a := 1) (b := 0) (by omega) (by omega)) (fun c_34 => ?_) (fun c_34 => ?_)
                        ·
                          exact absurd c_34 (by decide)
                        ·
                          refine y_iconst X (v := (1)) dX2_readCommand_194 (by decide) ?_
                          refine y_goto X 199 dX2_readCommand_195 (by decide) ?_
                          exact y_zret X hr (by rfl) dX2_readCommand_199 rfl (by have k1 : wdO G ln ltwS u0 := cw13; have gs9 : cmS G ln u0 = 115 := (cmS_iff (by decide)).mpr (wdO_cons.mp k1).1; exact (by have g2 : cmP G ln u0 = opP G ln (-9999) (9999) (opP G ln (0) (7) (opP G ln (0) (23) (u0 + 3))) := ((cmP_else gn97 gn107 gn100 gn114).trans ((if_pos k1).trans ((if_pos co20).trans (if_pos co26)))); rw [g2]; have gO : cmO G ln u0 := ((cmO_else gn97 gn107 gn100 gn114).mpr ⟨k1, co20, co26, co32⟩); exact ⟨congrArg (fun z => some (Value.int z)) (bI_1 gO).symm, ⟨_, _, _, _, _, _, gM32, gB32, fun _ => ⟨(fun q => absurd (gs9.symm.trans q) (by decide)), (fun q => absurd (gs9.symm.trans q) (by decide)), (fun q => absurd (gs9.symm.trans q) (by decide)), (fun q => absurd (gs9.symm.trans q) (by decide)), (fun _ => ⟨rfl, rfl, rfl, rfl⟩)⟩⟩, (fun i9 g9 g8 => by rw [gF32 i9 (by omega) (by omega)]; rw [gF26 i9 (by omega) (by omega)]; rw [gF20 i9 (by omega) (by omega)]; rw [gF13 i9 (by omega)]; rw [eC_6, va_up, if_neg (by omega)])⟩))
                      ·
                        rw [bI_0 co32] at gv32
                        subst gv32
                        have gb32 := opP_b (G := G) (lw := (-9999)) (mo := 9999) (p := opP G ln (0) (7) (opP G ln (0) (23) (u0 + 3))) (ln := ln) (by omega)
                        have h_35 : C_30 (39) = .inl (E.2.2.1 0, 80, .inl xt) := (gF32 _ (by omega) (by omega)).trans h_27
                        refine y_if_eq X 198 ((0) = (0)) dX2_readCommand_191 (by decide) (nI_eq (a := 0) (b := 0) (by omega) (by omega)) (fun c_36 => ?_) (fun c_36 => ?_)
                        ·
                          refine y_iconst X (v := (0)) dX2_readCommand_198 (by decide) ?_
                          exact y_zret X hr (by rfl) dX2_readCommand_199 rfl (by have k1 : wdO G ln ltwS u0 := cw13; exact (by have g2 : cmP G ln u0 = opP G ln (-9999) (9999) (opP G ln (0) (7) (opP G ln (0) (23) (u0 + 3))) := ((cmP_else gn97 gn107 gn100 gn114).trans ((if_pos k1).trans ((if_pos co20).trans (if_pos co26)))); rw [g2]; have gN : ¬ (cmO G ln u0) := (fun z => by have z2 := (cmO_else gn97 gn107 gn100 gn114).mp z; first | exact k1 z2.1 | exact co32 z2.2.1 | exact co32 z2.2.2.1 | exact co32 z2.2.2.2); exact ⟨congrArg (fun z => some (Value.int z)) (bI_0 gN).symm, ⟨_, _, _, _, _, _, gM32, gB32, fun z => absurd z gN⟩, (fun i9 g9 g8 => by rw [gF32 i9 (by omega) (by omega)]; rw [gF26 i9 (by omega) (by omega)]; rw [gF20 i9 (by omega) (by omega)]; rw [gF13 i9 (by omega)]; rw [eC_6, va_up, if_neg (by omega)])⟩))
                        ·
                          exact absurd c_36 (by decide)
                  ·
                    rw [bI_0 co26] at gv26
                    subst gv26
                    have gb26 := opP_b (G := G) (lw := (0)) (mo := 7) (p := opP G ln (0) (23) (u0 + 3)) (ln := ln) (by omega)
                    have h_37 : C_24 (39) = .inl (E.2.2.1 0, 80, .inl xt) := (gF26 _ (by omega) (by omega)).trans h_21
                    refine y_if_eq X 198 ((0) = (0)) dX2_readCommand_183 (by decide) (nI_eq (a := 0) (b := 0) (by omega) (by omega)) (fun c_38 => ?_) (fun c_38 => ?_)
                    ·
                      refine y_iconst X (v := (0)) dX2_readCommand_198 (by decide) ?_
                      exact y_zret X hr (by rfl) dX2_readCommand_199 rfl (by have k1 : wdO G ln ltwS u0 := cw13; exact (by have g2 : cmP G ln u0 = opP G ln (0) (7) (opP G ln (0) (23) (u0 + 3)) := ((cmP_else gn97 gn107 gn100 gn114).trans ((if_pos k1).trans ((if_pos co20).trans (if_neg co26)))); rw [g2]; have gN : ¬ (cmO G ln u0) := (fun z => by have z2 := (cmO_else gn97 gn107 gn100 gn114).mp z; first | exact k1 z2.1 | exact co26 z2.2.1 | exact co26 z2.2.2.1 | exact co26 z2.2.2.2); exact ⟨congrArg (fun z => some (Value.int z)) (bI_0 gN).symm, ⟨_, _, _, _, _, _, gM26, gB26, fun z => absurd z gN⟩, (fun i9 g9 g8 => by rw [gF26 i9 (by omega) (by omega)]; rw [gF20 i9 (by omega) (by omega)]; rw [gF13 i9 (by omega)]; rw [eC_6, va_up, if_neg (by omega)])⟩))
                    ·
                      exact absurd c_38 (by decide)
              ·
                rw [bI_0 co20] at gv20
                subst gv20
                have gb20 := opP_b (G := G) (lw := (0)) (mo := 23) (p := u0 + 3) (ln := ln) (by omega)
                have h_39 : C_18 (39) = .inl (E.2.2.1 0, 80, .inl xt) := (gF20 _ (by omega) (by omega)).trans h_14
                refine y_if_eq X 198 ((0) = (0)) dX2_readCommand_175 (by decide) (nI_eq (a := 0) (b := 0) (by omega) (by omega)) (fun c_40 => ?_) (fun c_40 => ?_)
                ·
                  refine y_iconst X (v := (0)) dX2_readCommand_198 (by decide) ?_
                  exact y_zret X hr (by rfl) dX2_readCommand_199 rfl (by have k1 : wdO G ln ltwS u0 := cw13; exact (by have g2 : cmP G ln u0 = opP G ln (0) (23) (u0 + 3) := ((cmP_else gn97 gn107 gn100 gn114).trans ((if_pos k1).trans (if_neg co20))); rw [g2]; have gN : ¬ (cmO G ln u0) := (fun z => by have z2 := (cmO_else gn97 gn107 gn100 gn114).mp z; first | exact k1 z2.1 | exact co20 z2.2.1 | exact co20 z2.2.2.1 | exact co20 z2.2.2.2); exact ⟨congrArg (fun z => some (Value.int z)) (bI_0 gN).symm, ⟨_, _, _, _, _, _, gM20, gB20, fun z => absurd z gN⟩, (fun i9 g9 g8 => by rw [gF20 i9 (by omega) (by omega)]; rw [gF13 i9 (by omega)]; rw [eC_6, va_up, if_neg (by omega)])⟩))
                ·
                  exact absurd c_40 (by decide)
          ·
            rw [bI_0 cw13] at gv13
            subst gv13
            have gb13 := wdP_b (G := G) (ln := ln) (wlk 7) (u0) (by omega)
            have h_41 : C_11 (39) = .inl (E.2.2.1 0, 80, .inl xt) := (gF13 _ (by omega)).trans h_8
            have h_42 : C_11 (b) = .inr (0, [.int (4), .int rw0, .int nm0, .int kd0, .int nb0]) := (gF13 _ (by omega)).trans h_9
            refine y_if_eq X 198 ((0) = (0)) dX2_readCommand_167 (by decide) (nI_eq (a := 0) (b := 0) (by omega) (by omega)) (fun c_43 => ?_) (fun c_43 => ?_)
            ·
              refine y_iconst X (v := (0)) dX2_readCommand_198 (by decide) ?_
              exact y_zret X hr (by rfl) dX2_readCommand_199 rfl (by have k1 : ¬ wdO G ln ltwS u0 := cw13; exact (by have g2 : cmP G ln u0 = wdP G ln (wlk 7) (u0) := ((cmP_else gn97 gn107 gn100 gn114).trans (if_neg k1)); rw [g2]; have gN : ¬ (cmO G ln u0) := (fun z => by have z2 := (cmO_else gn97 gn107 gn100 gn114).mp z; first | exact k1 z2.1 | exact cw13 z2.2.1 | exact cw13 z2.2.2.1 | exact cw13 z2.2.2.2); exact ⟨congrArg (fun z => some (Value.int z)) (bI_0 gN).symm, ⟨_, _, _, _, _, _, gM13, h_42, fun z => absurd z gN⟩, (fun i9 g9 g8 => by rw [gF13 i9 (by omega)]; rw [eC_6, va_up, if_neg (by omega)])⟩))
            ·
              exact absurd c_43 (by decide)
        ·
          have c_4 := Decidable.of_not_not c_4
          have gs9 : cmS G ln u0 = 114 := (cmS_iff (by decide)).mpr c_4
          refine y_aload_n X dX2_readCommand_144 1 rfl ?_
          refine y_iconst X (v := (3)) dX2_readCommand_145 (by decide) ?_
          refine y_putN X (b) 0 0 (Cn := RX0) (T := TX0) (N := 5) (index := 46) tyX0 (v := .int (3)) dX2_readCommand_146 (by omega) sb rfl (by decide) inX0 (by decide +kernel : Cond.fieldLinkNest RX2 46 "ColumnSeasons$Command" "verb" "I" "ColumnSeasons" ∈ xnest) rfl tyX0_ok nmX0 rfl rfl rfl (Nat.le_of_ble_eq_true rfl) ?_
          refine y_mem (va_up C (b) (.inr (0, [.int (3), .int rw0, .int nm0, .int kd0, .int nb0]))) rfl (fun C_44 eC_45 => ?_)
          have h_46 : C_44 (38) = .inr (2, [.ref (E.2.1 (39)), .int (nI (ln)), .ref (E.2.1 (40)), .int cc, .int (nI (u0)), .int nu]) := by rw [eC_45, va_up, if_neg (by omega)]; exact s0
          have h_47 : C_44 (39) = .inl (E.2.2.1 0, 80, .inl xt) := by rw [eC_45, va_up, if_neg (by omega)]; exact s1
          have h_48 : C_44 (b) = .inr (0, [.int (3), .int rw0, .int nm0, .int kd0, .int nb0]) := by rw [eC_45, va_up, if_pos rfl]
          refine y_aload_n X dX2_readCommand_149 0 rfl ?_
          refine y_ldcS X (6) (by decide) rfl dX2_readCommand_150 rfl ?_
          refine y_callV X (38) 2 (av := [.ref (E.2.2.2.1 (6))]) [] 1 (c_X2_readWord (G := G) (u0 := u0) (by omega) gl80 gX gG h_46 h_47 (k9 := 6) (by decide)) (by omega) h_46 rfl gX2_readCommand_X2_readWord rfl (by decide +kernel) rfl ⟨Nat.le_of_ble_eq_true rfl, Nat.le_of_ble_eq_true rfl⟩ ⟨Nat.zero_le _, Nat.zero_le _⟩ (Nat.le_of_ble_eq_true rfl) rfl dX2_readCommand_152 (fun v_49 C_50 hp_51 => ?_)
          obtain ⟨gv52, gM52, gF52⟩ := hp_51
          rcases Decidable.em (wdO G ln (wlk 6) (u0)) with cw52 | cw52
          ·
            rw [bI_1 cw52] at gv52
            subst gv52
            have gb52 := wdP_b (G := G) (ln := ln) (wlk 6) (u0) (by omega)
            have gz52 : wdP G ln (wlk 6) (u0) = u0 + 3 := gb52.2.2 cw52
            rw [gz52] at gM52
            have gb852 : u0 + 3 ≤ ln := (by rw [gz52] at gb52; exact gb52.2.1)
            have h_53 : C_50 (39) = .inl (E.2.2.1 0, 80, .inl xt) := (gF52 _ (by omega)).trans h_47
            have h_54 : C_50 (b) = .inr (0, [.int (3), .int rw0, .int nm0, .int kd0, .int nb0]) := (gF52 _ (by omega)).trans h_48
            exact y_zret X hr (by rfl) dX2_readCommand_155 rfl (by have k1 : wdO G ln ltwR u0 := cw52; exact (by have g2 : cmP G ln u0 = u0 + 3 := (by unfold cmP; rw [if_neg (by omega), if_neg (by omega), if_neg (by omega), if_pos gs9]; exact (wdP_b (G := G) (ln := ln) ltwR u0 gp).2.2 k1); rw [g2]; have gO : cmO G ln u0 := (cmO_iff.mpr (Or.inr (Or.inr (Or.inr (Or.inl ⟨gs9, k1⟩))))); exact ⟨congrArg (fun z => some (Value.int z)) (bI_1 gO).symm, ⟨_, _, _, _, _, _, gM52, h_54, fun _ => ⟨(fun q => absurd (gs9.symm.trans q) (by decide)), (fun q => absurd (gs9.symm.trans q) (by decide)), (fun q => absurd (gs9.symm.trans q) (by decide)), (fun _ => rfl), (fun q => absurd (gs9.symm.trans q) (by decide))⟩⟩, (fun i9 g9 g8 => by rw [gF52 i9 (by omega)]; rw [eC_45, va_up, if_neg (by omega)])⟩))
          ·
            rw [bI_0 cw52] at gv52
            subst gv52
            have gb52 := wdP_b (G := G) (ln := ln) (wlk 6) (u0) (by omega)
            have h_55 : C_50 (39) = .inl (E.2.2.1 0, 80, .inl xt) := (gF52 _ (by omega)).trans h_47
            have h_56 : C_50 (b) = .inr (0, [.int (3), .int rw0, .int nm0, .int kd0, .int nb0]) := (gF52 _ (by omega)).trans h_48
            exact y_zret X hr (by rfl) dX2_readCommand_155 rfl (by have k1 : ¬ wdO G ln ltwR u0 := cw52; exact (by have g2 : cmP G ln u0 = wdP G ln (wlk 6) (u0) := (by unfold cmP; rw [if_neg (by omega), if_neg (by omega), if_neg (by omega), if_pos gs9]; first | done | rfl); rw [g2]; have gN : ¬ (cmO G ln u0) := (fun z => by rcases cmO_iff.mp z with z | z | z | z | z <;> first | exact absurd (gs9.symm.trans z.1) (by decide) | exact k1 z.2.1 | exact k1 z.2 | exact cw52 z.2.2 | exact cw52 z.2.2.1 | exact cw52 z.2.2.1.1 | exact cw52 z.2.2.1.2 | exact cw52 z.2.2.2 | exact cw52 z.2.2.1); exact ⟨congrArg (fun z => some (Value.int z)) (bI_0 gN).symm, ⟨_, _, _, _, _, _, gM52, h_56, fun z => absurd z gN⟩, (fun i9 g9 g8 => by rw [gF52 i9 (by omega)]; rw [eC_45, va_up, if_neg (by omega)])⟩))
      ·
        have c_3 := Decidable.of_not_not c_3
        have gs9 : cmS G ln u0 = 107 := (cmS_iff (by decide)).mpr c_3
        refine y_aload_n X dX2_readCommand_99 1 rfl ?_
        refine y_iconst X (v := (2)) dX2_readCommand_100 (by decide) ?_
        refine y_putN X (b) 0 0 (Cn := RX0) (T := TX0) (N := 5) (index := 46) tyX0 (v := .int (2)) dX2_readCommand_101 (by omega) sb rfl (by decide) inX0 (by decide +kernel : Cond.fieldLinkNest RX2 46 "ColumnSeasons$Command" "verb" "I" "ColumnSeasons" ∈ xnest) rfl tyX0_ok nmX0 rfl rfl rfl (Nat.le_of_ble_eq_true rfl) ?_
        refine y_mem (va_up C (b) (.inr (0, [.int (2), .int rw0, .int nm0, .int kd0, .int nb0]))) rfl (fun C_57 eC_58 => ?_)
        have h_59 : C_57 (38) = .inr (2, [.ref (E.2.1 (39)), .int (nI (ln)), .ref (E.2.1 (40)), .int cc, .int (nI (u0)), .int nu]) := by rw [eC_58, va_up, if_neg (by omega)]; exact s0
        have h_60 : C_57 (39) = .inl (E.2.2.1 0, 80, .inl xt) := by rw [eC_58, va_up, if_neg (by omega)]; exact s1
        have h_61 : C_57 (b) = .inr (0, [.int (2), .int rw0, .int nm0, .int kd0, .int nb0]) := by rw [eC_58, va_up, if_pos rfl]
        refine y_aload_n X dX2_readCommand_104 0 rfl ?_
        refine y_ldcS X (5) (by decide) rfl dX2_readCommand_105 rfl ?_
        refine y_callV X (38) 2 (av := [.ref (E.2.2.2.1 (5))]) [] 1 (c_X2_readWord (G := G) (u0 := u0) (by omega) gl80 gX gG h_59 h_60 (k9 := 5) (by decide)) (by omega) h_59 rfl gX2_readCommand_X2_readWord rfl (by decide +kernel) rfl ⟨Nat.le_of_ble_eq_true rfl, Nat.le_of_ble_eq_true rfl⟩ ⟨Nat.zero_le _, Nat.zero_le _⟩ (Nat.le_of_ble_eq_true rfl) rfl dX2_readCommand_107 (fun v_62 C_63 hp_64 => ?_)
        obtain ⟨gv65, gM65, gF65⟩ := hp_64
        rcases Decidable.em (wdO G ln (wlk 5) (u0)) with cw65 | cw65
        ·
          rw [bI_1 cw65] at gv65
          subst gv65
          have gb65 := wdP_b (G := G) (ln := ln) (wlk 5) (u0) (by omega)
          have gz65 : wdP G ln (wlk 5) (u0) = u0 + 4 := gb65.2.2 cw65
          rw [gz65] at gM65
          have gb865 : u0 + 4 ≤ ln := (by rw [gz65] at gb65; exact gb65.2.1)
          have h_66 : C_63 (39) = .inl (E.2.2.1 0, 80, .inl xt) := (gF65 _ (by omega)).trans h_60
          have h_67 : C_63 (b) = .inr (0, [.int (2), .int rw0, .int nm0, .int kd0, .int nb0]) := (gF65 _ (by omega)).trans h_61
          refine y_if_eq X 133 ((1) = (0)) dX2_readCommand_110 (by decide) (nI_eq (a := 1) (b := 0) (by omega) (by omega)) (fun c_68 => ?_) (fun c_68 => ?_)
          ·
            exact absurd c_68 (by decide)
          ·
            refine y_aload_n X dX2_readCommand_113 0 rfl ?_
            refine y_aload_n X dX2_readCommand_114 1 rfl ?_
            refine y_callV X (38) 2 (av := [.ref (E.2.1 (b))]) [] 1 (c_X2_readName (G := G) (u0 := u0 + 4) (by omega) gl80 gX gG gM65 h_66 (b := b) gb gb2 h_67) (by omega) gM65 rfl gX2_readCommand_X2_readName rfl (by decide +kernel) rfl ⟨Nat.le_of_ble_eq_true rfl, Nat.le_of_ble_eq_true rfl⟩ ⟨Nat.zero_le _, Nat.zero_le _⟩ (Nat.le_of_ble_eq_true rfl) rfl dX2_readCommand_115 (fun v_69 C_70 hp_71 => ?_)
            obtain ⟨gv72, ⟨wz72, vz72, gM72, gB72, gW72⟩, gF72⟩ := hp_71
            rcases Decidable.em (opO G ln (0) (7) (u0 + 4)) with co72 | co72
            ·
              rw [bI_1 co72] at gv72
              subst gv72
              have gY72 := gW72 co72
              subst gY72
              have gb72 := opP_b (G := G) (lw := (0)) (mo := 7) (p := u0 + 4) (ln := ln) (by omega)
              have h_73 : C_70 (39) = .inl (E.2.2.1 0, 80, .inl xt) := (gF72 _ (by omega) (by omega)).trans h_66
              refine y_if_eq X 133 ((1) = (0)) dX2_readCommand_118 (by decide) (nI_eq (a := 1) (b := 0) (by omega) (by omega)) (fun c_74 => ?_) (fun c_74 => ?_)
              ·
                exact absurd c_74 (by decide)
              ·
                refine y_aload_n X dX2_readCommand_121 0 rfl ?_
                refine y_aload_n X dX2_readCommand_122 1 rfl ?_
                refine y_callV X (38) 2 (av := [.ref (E.2.1 (b))]) [] 1 (c_X2_readKind (G := G) (u0 := opP G ln (0) (7) (u0 + 4)) (by omega) gl80 gX gG gM72 h_73 (b := b) gb gb2 gB72) (by omega) gM72 rfl gX2_readCommand_X2_readKind rfl (by decide +kernel) rfl ⟨Nat.le_of_ble_eq_true rfl, Nat.le_of_ble_eq_true rfl⟩ ⟨Nat.zero_le _, Nat.zero_le _⟩ (Nat.le_of_ble_eq_true rfl) rfl dX2_readCommand_123 (fun v_75 C_76 hp_77 => ?_)
                obtain ⟨gv78, ⟨wz78, vz78, gM78, gB78, gW78⟩, gF78⟩ := hp_77
                rcases Decidable.em (kdO G ln (opP G ln (0) (7) (u0 + 4))) with ck78 | ck78
                ·
                  rw [bI_1 ck78] at gv78
                  subst gv78
                  have gY78 := gW78 ck78
                  subst gY78
                  have gb78 := kdP_b (G := G) (p := opP G ln (0) (7) (u0 + 4)) (ln := ln) (by omega)
                  have h_79 : C_76 (39) = .inl (E.2.2.1 0, 80, .inl xt) := (gF78 _ (by omega) (by omega)).trans h_73
                  refine y_if_eq X 133 ((1) = (0)) dX2_readCommand_126 (by decide) (nI_eq (a := 1) (b := 0) (by omega) (by omega)) (fun c_80 => ?_) (fun c_80 => ?_)
                  ·
                    exact absurd c_80 (by decide)
                  ·
                    refine y_iconst X (v := (1)) dX2_readCommand_129 (by decide) ?_
                    refine y_goto X 134 dX2_readCommand_130 (by decide) ?_
                    exact y_zret X hr (by rfl) dX2_readCommand_134 rfl (by have k1 : wdO G ln ltwK u0 := cw65; exact (by have g2 : cmP G ln u0 = kdP G ln (opP G ln (0) (7) (u0 + 4)) := (by unfold cmP; rw [if_neg (by omega), if_pos gs9]; exact (if_pos k1).trans (if_pos co72)); rw [g2]; have gO : cmO G ln u0 := (cmO_iff.mpr (Or.inr (Or.inl ⟨gs9, k1, co72, ck78⟩))); exact ⟨congrArg (fun z => some (Value.int z)) (bI_1 gO).symm, ⟨_, _, _, _, _, _, gM78, gB78, fun _ => ⟨(fun q => absurd (gs9.symm.trans q) (by decide)), (fun _ => ⟨rfl, rfl, rfl⟩), (fun q => absurd (gs9.symm.trans q) (by decide)), (fun q => absurd (gs9.symm.trans q) (by decide)), (fun q => absurd (gs9.symm.trans q) (by decide))⟩⟩, (fun i9 g9 g8 => by rw [gF78 i9 (by omega) (by omega)]; rw [gF72 i9 (by omega) (by omega)]; rw [gF65 i9 (by omega)]; rw [eC_58, va_up, if_neg (by omega)])⟩))
                ·
                  rw [bI_0 ck78] at gv78
                  subst gv78
                  have gb78 := kdP_b (G := G) (p := opP G ln (0) (7) (u0 + 4)) (ln := ln) (by omega)
                  have h_81 : C_76 (39) = .inl (E.2.2.1 0, 80, .inl xt) := (gF78 _ (by omega) (by omega)).trans h_73
                  refine y_if_eq X 133 ((0) = (0)) dX2_readCommand_126 (by decide) (nI_eq (a := 0) (b := 0) (by omega) (by omega)) (fun c_82 => ?_) (fun c_82 => ?_)
                  ·
                    refine y_iconst X (v := (0)) dX2_readCommand_133 (by decide) ?_
                    exact y_zret X hr (by rfl) dX2_readCommand_134 rfl (by have k1 : wdO G ln ltwK u0 := cw65; exact (by have g2 : cmP G ln u0 = kdP G ln (opP G ln (0) (7) (u0 + 4)) := (by unfold cmP; rw [if_neg (by omega), if_pos gs9]; exact (if_pos k1).trans (if_pos co72)); rw [g2]; have gN : ¬ (cmO G ln u0) := (fun z => by rcases cmO_iff.mp z with z | z | z | z | z <;> first | exact absurd (gs9.symm.trans z.1) (by decide) | exact k1 z.2.1 | exact ck78 z.2.2.1 | exact ck78 z.2.2.2); exact ⟨congrArg (fun z => some (Value.int z)) (bI_0 gN).symm, ⟨_, _, _, _, _, _, gM78, gB78, fun z => absurd z gN⟩, (fun i9 g9 g8 => by rw [gF78 i9 (by omega) (by omega)]; rw [gF72 i9 (by omega) (by omega)]; rw [gF65 i9 (by omega)]; rw [eC_58, va_up, if_neg (by omega)])⟩))
                  ·
                    exact absurd c_82 (by decide)
            ·
              rw [bI_0 co72] at gv72
              subst gv72
              have gb72 := opP_b (G := G) (lw := (0)) (mo := 7) (p := u0 + 4) (ln := ln) (by omega)
              have h_83 : C_70 (39) = .inl (E.2.2.1 0, 80, .inl xt) := (gF72 _ (by omega) (by omega)).trans h_66
              refine y_if_eq X 133 ((0) = (0)) dX2_readCommand_118 (by decide) (nI_eq (a := 0) (b := 0) (by omega) (by omega)) (fun c_84 => ?_) (fun c_84 => ?_)
              ·
                refine y_iconst X (v := (0)) dX2_readCommand_133 (by decide) ?_
                exact y_zret X hr (by rfl) dX2_readCommand_134 rfl (by have k1 : wdO G ln ltwK u0 := cw65; exact (by have g2 : cmP G ln u0 = opP G ln (0) (7) (u0 + 4) := (by unfold cmP; rw [if_neg (by omega), if_pos gs9]; exact (if_pos k1).trans (if_neg co72)); rw [g2]; have gN : ¬ (cmO G ln u0) := (fun z => by rcases cmO_iff.mp z with z | z | z | z | z <;> first | exact absurd (gs9.symm.trans z.1) (by decide) | exact k1 z.2.1 | exact co72 z.2.2.1 | exact co72 z.2.2.2); exact ⟨congrArg (fun z => some (Value.int z)) (bI_0 gN).symm, ⟨_, _, _, _, _, _, gM72, gB72, fun z => absurd z gN⟩, (fun i9 g9 g8 => by rw [gF72 i9 (by omega) (by omega)]; rw [gF65 i9 (by omega)]; rw [eC_58, va_up, if_neg (by omega)])⟩))
              ·
                exact absurd c_84 (by decide)
        ·
          rw [bI_0 cw65] at gv65
          subst gv65
          have gb65 := wdP_b (G := G) (ln := ln) (wlk 5) (u0) (by omega)
          have h_85 : C_63 (39) = .inl (E.2.2.1 0, 80, .inl xt) := (gF65 _ (by omega)).trans h_60
          have h_86 : C_63 (b) = .inr (0, [.int (2), .int rw0, .int nm0, .int kd0, .int nb0]) := (gF65 _ (by omega)).trans h_61
          refine y_if_eq X 133 ((0) = (0)) dX2_readCommand_110 (by decide) (nI_eq (a := 0) (b := 0) (by omega) (by omega)) (fun c_87 => ?_) (fun c_87 => ?_)
          ·
            refine y_iconst X (v := (0)) dX2_readCommand_133 (by decide) ?_
            exact y_zret X hr (by rfl) dX2_readCommand_134 rfl (by have k1 : ¬ wdO G ln ltwK u0 := cw65; exact (by have g2 : cmP G ln u0 = wdP G ln (wlk 5) (u0) := (by unfold cmP; rw [if_neg (by omega), if_pos gs9]; exact if_neg k1); rw [g2]; have gN : ¬ (cmO G ln u0) := (fun z => by rcases cmO_iff.mp z with z | z | z | z | z <;> first | exact absurd (gs9.symm.trans z.1) (by decide) | exact k1 z.2.1 | exact cw65 z.2.2.1 | exact cw65 z.2.2.2); exact ⟨congrArg (fun z => some (Value.int z)) (bI_0 gN).symm, ⟨_, _, _, _, _, _, gM65, h_86, fun z => absurd z gN⟩, (fun i9 g9 g8 => by rw [gF65 i9 (by omega)]; rw [eC_58, va_up, if_neg (by omega)])⟩))
          ·
            exact absurd c_87 (by decide)
    ·
      have c_2 := Decidable.of_not_not c_2
      have gs9 : cmS G ln u0 = 100 := (cmS_iff (by decide)).mpr c_2
      refine y_aload_n X dX2_readCommand_62 1 rfl ?_
      refine y_iconst X (v := (1)) dX2_readCommand_63 (by decide) ?_
      refine y_putN X (b) 0 0 (Cn := RX0) (T := TX0) (N := 5) (index := 46) tyX0 (v := .int (1)) dX2_readCommand_64 (by omega) sb rfl (by decide) inX0 (by decide +kernel : Cond.fieldLinkNest RX2 46 "ColumnSeasons$Command" "verb" "I" "ColumnSeasons" ∈ xnest) rfl tyX0_ok nmX0 rfl rfl rfl (Nat.le_of_ble_eq_true rfl) ?_
      refine y_mem (va_up C (b) (.inr (0, [.int (1), .int rw0, .int nm0, .int kd0, .int nb0]))) rfl (fun C_88 eC_89 => ?_)
      have h_90 : C_88 (38) = .inr (2, [.ref (E.2.1 (39)), .int (nI (ln)), .ref (E.2.1 (40)), .int cc, .int (nI (u0)), .int nu]) := by rw [eC_89, va_up, if_neg (by omega)]; exact s0
      have h_91 : C_88 (39) = .inl (E.2.2.1 0, 80, .inl xt) := by rw [eC_89, va_up, if_neg (by omega)]; exact s1
      have h_92 : C_88 (b) = .inr (0, [.int (1), .int rw0, .int nm0, .int kd0, .int nb0]) := by rw [eC_89, va_up, if_pos rfl]
      refine y_aload_n X dX2_readCommand_67 0 rfl ?_
      refine y_ldcS X (4) (by decide) rfl dX2_readCommand_68 rfl ?_
      refine y_callV X (38) 2 (av := [.ref (E.2.2.2.1 (4))]) [] 1 (c_X2_readWord (G := G) (u0 := u0) (by omega) gl80 gX gG h_90 h_91 (k9 := 4) (by decide)) (by omega) h_90 rfl gX2_readCommand_X2_readWord rfl (by decide +kernel) rfl ⟨Nat.le_of_ble_eq_true rfl, Nat.le_of_ble_eq_true rfl⟩ ⟨Nat.zero_le _, Nat.zero_le _⟩ (Nat.le_of_ble_eq_true rfl) rfl dX2_readCommand_70 (fun v_93 C_94 hp_95 => ?_)
      obtain ⟨gv96, gM96, gF96⟩ := hp_95
      rcases Decidable.em (wdO G ln (wlk 4) (u0)) with cw96 | cw96
      ·
        rw [bI_1 cw96] at gv96
        subst gv96
        have gb96 := wdP_b (G := G) (ln := ln) (wlk 4) (u0) (by omega)
        have gz96 : wdP G ln (wlk 4) (u0) = u0 + 4 := gb96.2.2 cw96
        rw [gz96] at gM96
        have gb896 : u0 + 4 ≤ ln := (by rw [gz96] at gb96; exact gb96.2.1)
        have h_97 : C_94 (39) = .inl (E.2.2.1 0, 80, .inl xt) := (gF96 _ (by omega)).trans h_91
        have h_98 : C_94 (b) = .inr (0, [.int (1), .int rw0, .int nm0, .int kd0, .int nb0]) := (gF96 _ (by omega)).trans h_92
        refine y_if_eq X 88 ((1) = (0)) dX2_readCommand_73 (by decide) (nI_eq (a := 1) (b := 0) (by omega) (by omega)) (fun c_99 => ?_) (fun c_99 => ?_)
        ·
          exact absurd c_99 (by decide)
        ·
          refine y_aload_n X dX2_readCommand_76 0 rfl ?_
          refine y_aload_n X dX2_readCommand_77 1 rfl ?_
          refine y_callV X (38) 2 (av := [.ref (E.2.1 (b))]) [] 1 (c_X2_readName (G := G) (u0 := u0 + 4) (by omega) gl80 gX gG gM96 h_97 (b := b) gb gb2 h_98) (by omega) gM96 rfl gX2_readCommand_X2_readName rfl (by decide +kernel) rfl ⟨Nat.le_of_ble_eq_true rfl, Nat.le_of_ble_eq_true rfl⟩ ⟨Nat.zero_le _, Nat.zero_le _⟩ (Nat.le_of_ble_eq_true rfl) rfl dX2_readCommand_78 (fun v_100 C_101 hp_102 => ?_)
          obtain ⟨gv103, ⟨wz103, vz103, gM103, gB103, gW103⟩, gF103⟩ := hp_102
          rcases Decidable.em (opO G ln (0) (7) (u0 + 4)) with co103 | co103
          ·
            rw [bI_1 co103] at gv103
            subst gv103
            have gY103 := gW103 co103
            subst gY103
            have gb103 := opP_b (G := G) (lw := (0)) (mo := 7) (p := u0 + 4) (ln := ln) (by omega)
            have h_104 : C_101 (39) = .inl (E.2.2.1 0, 80, .inl xt) := (gF103 _ (by omega) (by omega)).trans h_97
            refine y_if_eq X 88 ((1) = (0)) dX2_readCommand_81 (by decide) (nI_eq (a := 1) (b := 0) (by omega) (by omega)) (fun c_105 => ?_) (fun c_105 => ?_)
            ·
              exact absurd c_105 (by decide)
            ·
              refine y_iconst X (v := (1)) dX2_readCommand_84 (by decide) ?_
              refine y_goto X 89 dX2_readCommand_85 (by decide) ?_
              exact y_zret X hr (by rfl) dX2_readCommand_89 rfl (by have k1 : wdO G ln ltwD u0 := cw96; exact (by have g2 : cmP G ln u0 = opP G ln (0) (7) (u0 + 4) := (by unfold cmP; rw [if_neg (by omega), if_neg (by omega), if_pos gs9]; exact (if_pos k1)); rw [g2]; have gO : cmO G ln u0 := (cmO_iff.mpr (Or.inr (Or.inr (Or.inl ⟨gs9, k1, co103⟩)))); exact ⟨congrArg (fun z => some (Value.int z)) (bI_1 gO).symm, ⟨_, _, _, _, _, _, gM103, gB103, fun _ => ⟨(fun q => absurd (gs9.symm.trans q) (by decide)), (fun q => absurd (gs9.symm.trans q) (by decide)), (fun _ => ⟨rfl, rfl⟩), (fun q => absurd (gs9.symm.trans q) (by decide)), (fun q => absurd (gs9.symm.trans q) (by decide))⟩⟩, (fun i9 g9 g8 => by rw [gF103 i9 (by omega) (by omega)]; rw [gF96 i9 (by omega)]; rw [eC_89, va_up, if_neg (by omega)])⟩))
          ·
            rw [bI_0 co103] at gv103
            subst gv103
            have gb103 := opP_b (G := G) (lw := (0)) (mo := 7) (p := u0 + 4) (ln := ln) (by omega)
            have h_106 : C_101 (39) = .inl (E.2.2.1 0, 80, .inl xt) := (gF103 _ (by omega) (by omega)).trans h_97
            refine y_if_eq X 88 ((0) = (0)) dX2_readCommand_81 (by decide) (nI_eq (a := 0) (b := 0) (by omega) (by omega)) (fun c_107 => ?_) (fun c_107 => ?_)
            ·
              refine y_iconst X (v := (0)) dX2_readCommand_88 (by decide) ?_
              exact y_zret X hr (by rfl) dX2_readCommand_89 rfl (by have k1 : wdO G ln ltwD u0 := cw96; exact (by have g2 : cmP G ln u0 = opP G ln (0) (7) (u0 + 4) := (by unfold cmP; rw [if_neg (by omega), if_neg (by omega), if_pos gs9]; exact (if_pos k1)); rw [g2]; have gN : ¬ (cmO G ln u0) := (fun z => by rcases cmO_iff.mp z with z | z | z | z | z <;> first | exact absurd (gs9.symm.trans z.1) (by decide) | exact k1 z.2.1 | exact k1 z.2 | exact co103 z.2.2 | exact co103 z.2.2.1 | exact co103 z.2.2.1.1 | exact co103 z.2.2.1.2 | exact co103 z.2.2.2 | exact co103 z.2.2.1); exact ⟨congrArg (fun z => some (Value.int z)) (bI_0 gN).symm, ⟨_, _, _, _, _, _, gM103, gB103, fun z => absurd z gN⟩, (fun i9 g9 g8 => by rw [gF103 i9 (by omega) (by omega)]; rw [gF96 i9 (by omega)]; rw [eC_89, va_up, if_neg (by omega)])⟩))
            ·
              exact absurd c_107 (by decide)
      ·
        rw [bI_0 cw96] at gv96
        subst gv96
        have gb96 := wdP_b (G := G) (ln := ln) (wlk 4) (u0) (by omega)
        have h_108 : C_94 (39) = .inl (E.2.2.1 0, 80, .inl xt) := (gF96 _ (by omega)).trans h_91
        have h_109 : C_94 (b) = .inr (0, [.int (1), .int rw0, .int nm0, .int kd0, .int nb0]) := (gF96 _ (by omega)).trans h_92
        refine y_if_eq X 88 ((0) = (0)) dX2_readCommand_73 (by decide) (nI_eq (a := 0) (b := 0) (by omega) (by omega)) (fun c_110 => ?_) (fun c_110 => ?_)
        ·
          refine y_iconst X (v := (0)) dX2_readCommand_88 (by decide) ?_
          exact y_zret X hr (by rfl) dX2_readCommand_89 rfl (by have k1 : ¬ wdO G ln ltwD u0 := cw96; exact (by have g2 : cmP G ln u0 = wdP G ln (wlk 4) (u0) := (by unfold cmP; rw [if_neg (by omega), if_neg (by omega), if_pos gs9]; exact if_neg k1); rw [g2]; have gN : ¬ (cmO G ln u0) := (fun z => by rcases cmO_iff.mp z with z | z | z | z | z <;> first | exact absurd (gs9.symm.trans z.1) (by decide) | exact k1 z.2.1 | exact k1 z.2 | exact cw96 z.2.2 | exact cw96 z.2.2.1 | exact cw96 z.2.2.1.1 | exact cw96 z.2.2.1.2 | exact cw96 z.2.2.2 | exact cw96 z.2.2.1); exact ⟨congrArg (fun z => some (Value.int z)) (bI_0 gN).symm, ⟨_, _, _, _, _, _, gM96, h_109, fun z => absurd z gN⟩, (fun i9 g9 g8 => by rw [gF96 i9 (by omega)]; rw [eC_89, va_up, if_neg (by omega)])⟩))
        ·
          exact absurd c_110 (by decide)
  ·
    have c_1 := Decidable.of_not_not c_1
    have gs9 : cmS G ln u0 = 97 := (cmS_iff (by decide)).mpr c_1
    refine y_aload_n X dX2_readCommand_9 1 rfl ?_
    refine y_iconst X (v := (0)) dX2_readCommand_10 (by decide) ?_
    refine y_putN X (b) 0 0 (Cn := RX0) (T := TX0) (N := 5) (index := 46) tyX0 (v := .int (0)) dX2_readCommand_11 (by omega) sb rfl (by decide) inX0 (by decide +kernel : Cond.fieldLinkNest RX2 46 "ColumnSeasons$Command" "verb" "I" "ColumnSeasons" ∈ xnest) rfl tyX0_ok nmX0 rfl rfl rfl (Nat.le_of_ble_eq_true rfl) ?_
    refine y_mem (va_up C (b) (.inr (0, [.int (0), .int rw0, .int nm0, .int kd0, .int nb0]))) rfl (fun C_111 eC_112 => ?_)
    have h_113 : C_111 (38) = .inr (2, [.ref (E.2.1 (39)), .int (nI (ln)), .ref (E.2.1 (40)), .int cc, .int (nI (u0)), .int nu]) := by rw [eC_112, va_up, if_neg (by omega)]; exact s0
    have h_114 : C_111 (39) = .inl (E.2.2.1 0, 80, .inl xt) := by rw [eC_112, va_up, if_neg (by omega)]; exact s1
    have h_115 : C_111 (b) = .inr (0, [.int (0), .int rw0, .int nm0, .int kd0, .int nb0]) := by rw [eC_112, va_up, if_pos rfl]
    refine y_aload_n X dX2_readCommand_14 0 rfl ?_
    refine y_ldcS X (0) (by decide) rfl dX2_readCommand_15 rfl ?_
    refine y_callV X (38) 2 (av := [.ref (E.2.2.2.1 (0))]) [] 1 (c_X2_readWord (G := G) (u0 := u0) (by omega) gl80 gX gG h_113 h_114 (k9 := 0) (by decide)) (by omega) h_113 rfl gX2_readCommand_X2_readWord rfl (by decide +kernel) rfl ⟨Nat.le_of_ble_eq_true rfl, Nat.le_of_ble_eq_true rfl⟩ ⟨Nat.zero_le _, Nat.zero_le _⟩ (Nat.le_of_ble_eq_true rfl) rfl dX2_readCommand_17 (fun v_116 C_117 hp_118 => ?_)
    obtain ⟨gv119, gM119, gF119⟩ := hp_118
    rcases Decidable.em (wdO G ln (wlk 0) (u0)) with cw119 | cw119
    ·
      rw [bI_1 cw119] at gv119
      subst gv119
      have gb119 := wdP_b (G := G) (ln := ln) (wlk 0) (u0) (by omega)
      have gz119 : wdP G ln (wlk 0) (u0) = u0 + 3 := gb119.2.2 cw119
      rw [gz119] at gM119
      have gb8119 : u0 + 3 ≤ ln := (by rw [gz119] at gb119; exact gb119.2.1)
      have h_120 : C_117 (39) = .inl (E.2.2.1 0, 80, .inl xt) := (gF119 _ (by omega)).trans h_114
      have h_121 : C_117 (b) = .inr (0, [.int (0), .int rw0, .int nm0, .int kd0, .int nb0]) := (gF119 _ (by omega)).trans h_115
      refine y_if_eq X 51 ((1) = (0)) dX2_readCommand_20 (by decide) (nI_eq (a := 1) (b := 0) (by omega) (by omega)) (fun c_122 => ?_) (fun c_122 => ?_)
      ·
        exact absurd c_122 (by decide)
      ·
        refine y_aload_n X dX2_readCommand_23 0 rfl ?_
        refine y_aload_n X dX2_readCommand_24 1 rfl ?_
        refine y_callV X (38) 2 (av := [.ref (E.2.1 (b))]) [] 1 (c_X2_readName (G := G) (u0 := u0 + 3) (by omega) gl80 gX gG gM119 h_120 (b := b) gb gb2 h_121) (by omega) gM119 rfl gX2_readCommand_X2_readName rfl (by decide +kernel) rfl ⟨Nat.le_of_ble_eq_true rfl, Nat.le_of_ble_eq_true rfl⟩ ⟨Nat.zero_le _, Nat.zero_le _⟩ (Nat.le_of_ble_eq_true rfl) rfl dX2_readCommand_25 (fun v_123 C_124 hp_125 => ?_)
        obtain ⟨gv126, ⟨wz126, vz126, gM126, gB126, gW126⟩, gF126⟩ := hp_125
        rcases Decidable.em (opO G ln (0) (7) (u0 + 3)) with co126 | co126
        ·
          rw [bI_1 co126] at gv126
          subst gv126
          have gY126 := gW126 co126
          subst gY126
          have gb126 := opP_b (G := G) (lw := (0)) (mo := 7) (p := u0 + 3) (ln := ln) (by omega)
          have h_127 : C_124 (39) = .inl (E.2.2.1 0, 80, .inl xt) := (gF126 _ (by omega) (by omega)).trans h_120
          refine y_if_eq X 51 ((1) = (0)) dX2_readCommand_28 (by decide) (nI_eq (a := 1) (b := 0) (by omega) (by omega)) (fun c_128 => ?_) (fun c_128 => ?_)
          ·
            exact absurd c_128 (by decide)
          ·
            refine y_aload_n X dX2_readCommand_31 0 rfl ?_
            refine y_aload_n X dX2_readCommand_32 1 rfl ?_
            refine y_callV X (38) 2 (av := [.ref (E.2.1 (b))]) [] 1 (c_X2_readKind (G := G) (u0 := opP G ln (0) (7) (u0 + 3)) (by omega) gl80 gX gG gM126 h_127 (b := b) gb gb2 gB126) (by omega) gM126 rfl gX2_readCommand_X2_readKind rfl (by decide +kernel) rfl ⟨Nat.le_of_ble_eq_true rfl, Nat.le_of_ble_eq_true rfl⟩ ⟨Nat.zero_le _, Nat.zero_le _⟩ (Nat.le_of_ble_eq_true rfl) rfl dX2_readCommand_33 (fun v_129 C_130 hp_131 => ?_)
            obtain ⟨gv132, ⟨wz132, vz132, gM132, gB132, gW132⟩, gF132⟩ := hp_131
            rcases Decidable.em (kdO G ln (opP G ln (0) (7) (u0 + 3))) with ck132 | ck132
            ·
              rw [bI_1 ck132] at gv132
              subst gv132
              have gY132 := gW132 ck132
              subst gY132
              have gb132 := kdP_b (G := G) (p := opP G ln (0) (7) (u0 + 3)) (ln := ln) (by omega)
              have h_133 : C_130 (39) = .inl (E.2.2.1 0, 80, .inl xt) := (gF132 _ (by omega) (by omega)).trans h_127
              refine y_if_eq X 51 ((1) = (0)) dX2_readCommand_36 (by decide) (nI_eq (a := 1) (b := 0) (by omega) (by omega)) (fun c_134 => ?_) (fun c_134 => ?_)
              ·
                exact absurd c_134 (by decide)
              ·
                refine y_aload_n X dX2_readCommand_39 0 rfl ?_
                refine y_aload_n X dX2_readCommand_40 1 rfl ?_
                refine y_callV X (38) 2 (av := [.ref (E.2.1 (b))]) [] 1 (c_X2_readDefault (G := G) (u0 := kdP G ln (opP G ln (0) (7) (u0 + 3))) (by omega) gl80 gX gG gM132 h_133 (b := b) (kd := kdK G ln (opP G ln (0) (7) (u0 + 3) + 1)) gb gb2 gB132 kdK_3) (by omega) gM132 rfl gX2_readCommand_X2_readDefault rfl (by decide +kernel) rfl ⟨Nat.le_of_ble_eq_true rfl, Nat.le_of_ble_eq_true rfl⟩ ⟨Nat.zero_le _, Nat.zero_le _⟩ (Nat.le_of_ble_eq_true rfl) rfl dX2_readCommand_41 (fun v_135 C_136 hp_137 => ?_)
                obtain ⟨gv138, ⟨wz138, vz138, gM138, gB138, gW138⟩, gF138⟩ := hp_137
                rcases Decidable.em (dftO G ln (kdK G ln (opP G ln (0) (7) (u0 + 3) + 1)) (kdP G ln (opP G ln (0) (7) (u0 + 3)))) with cd138 | cd138
                ·
                  rw [bI_1 cd138] at gv138
                  subst gv138
                  have gY138 := gW138 cd138
                  subst gY138
                  have gb138 := dftP_b (G := G) (k := kdK G ln (opP G ln (0) (7) (u0 + 3) + 1)) (p := kdP G ln (opP G ln (0) (7) (u0 + 3))) (ln := ln) (by omega)
                  have h_139 : C_136 (39) = .inl (E.2.2.1 0, 80, .inl xt) := (gF138 _ (by omega) (by omega)).trans h_133
                  refine y_if_eq X 51 ((1) = (0)) dX2_readCommand_44 (by decide) (nI_eq (a := 1) (b := 0) (by omega) (by omega)) (fun c_140 => ?_) (fun c_140 => ?_)
                  ·
                    exact absurd c_140 (by decide)
                  ·
                    refine y_iconst X (v := (1)) dX2_readCommand_47 (by decide) ?_
                    refine y_goto X 52 dX2_readCommand_48 (by decide) ?_
                    exact y_zret X hr (by rfl) dX2_readCommand_52 rfl (by have k1 : wdO G ln ltwA u0 := cw119; have kc : colO G ln (u0 + 3) := ⟨co126, ck132⟩; have kp : colP G ln (u0 + 3) = kdP G ln (opP G ln 0 7 (u0 + 3)) := if_pos co126; exact (by have g2 : cmP G ln u0 = dftP G ln (kdK G ln (opP G ln (0) (7) (u0 + 3) + 1)) (kdP G ln (opP G ln (0) (7) (u0 + 3))) := (by unfold cmP; rw [if_pos gs9]; exact (if_pos k1).trans ((if_pos kc).trans (by rw [kp]; rfl))); rw [g2]; have gO : cmO G ln u0 := (cmO_iff.mpr (Or.inl ⟨gs9, k1, kc, (by rw [kp]; exact cd138)⟩)); exact ⟨congrArg (fun z => some (Value.int z)) (bI_1 gO).symm, ⟨_, _, _, _, _, _, gM138, gB138, fun _ => ⟨(fun _ => ⟨rfl, rfl, rfl, (by rw [kp]; rfl)⟩), (fun q => absurd (gs9.symm.trans q) (by decide)), (fun q => absurd (gs9.symm.trans q) (by decide)), (fun q => absurd (gs9.symm.trans q) (by decide)), (fun q => absurd (gs9.symm.trans q) (by decide))⟩⟩, (fun i9 g9 g8 => by rw [gF138 i9 (by omega) (by omega)]; rw [gF132 i9 (by omega) (by omega)]; rw [gF126 i9 (by omega) (by omega)]; rw [gF119 i9 (by omega)]; rw [eC_112, va_up, if_neg (by omega)])⟩))
                ·
                  rw [bI_0 cd138] at gv138
                  subst gv138
                  have gb138 := dftP_b (G := G) (k := kdK G ln (opP G ln (0) (7) (u0 + 3) + 1)) (p := kdP G ln (opP G ln (0) (7) (u0 + 3))) (ln := ln) (by omega)
                  have h_141 : C_136 (39) = .inl (E.2.2.1 0, 80, .inl xt) := (gF138 _ (by omega) (by omega)).trans h_133
                  refine y_if_eq X 51 ((0) = (0)) dX2_readCommand_44 (by decide) (nI_eq (a := 0) (b := 0) (by omega) (by omega)) (fun c_142 => ?_) (fun c_142 => ?_)
                  ·
                    refine y_iconst X (v := (0)) dX2_readCommand_51 (by decide) ?_
                    exact y_zret X hr (by rfl) dX2_readCommand_52 rfl (by have k1 : wdO G ln ltwA u0 := cw119; have kc : colO G ln (u0 + 3) := ⟨co126, ck132⟩; have kp : colP G ln (u0 + 3) = kdP G ln (opP G ln 0 7 (u0 + 3)) := if_pos co126; exact (by have g2 : cmP G ln u0 = dftP G ln (kdK G ln (opP G ln (0) (7) (u0 + 3) + 1)) (kdP G ln (opP G ln (0) (7) (u0 + 3))) := (by unfold cmP; rw [if_pos gs9]; exact (if_pos k1).trans ((if_pos kc).trans (by rw [kp]; rfl))); rw [g2]; have gN : ¬ (cmO G ln u0) := (fun z => by rcases cmO_iff.mp z with z | z | z | z | z <;> first | exact absurd (gs9.symm.trans z.1) (by decide) | exact k1 z.2.1 | exact k1 z.2 | exact cd138 z.2.2 | exact cd138 z.2.2.1 | exact cd138 z.2.2.1.1 | exact cd138 z.2.2.1.2 | exact cd138 z.2.2.2 | exact cd138 (by have z9 := z.2.2.2; rw [kp] at z9; exact z9) | exact cd138 z.2.2.1); exact ⟨congrArg (fun z => some (Value.int z)) (bI_0 gN).symm, ⟨_, _, _, _, _, _, gM138, gB138, fun z => absurd z gN⟩, (fun i9 g9 g8 => by rw [gF138 i9 (by omega) (by omega)]; rw [gF132 i9 (by omega) (by omega)]; rw [gF126 i9 (by omega) (by omega)]; rw [gF119 i9 (by omega)]; rw [eC_112, va_up, if_neg (by omega)])⟩))
                  ·
                    exact absurd c_142 (by decide)
            ·
              rw [bI_0 ck132] at gv132
              subst gv132
              have gb132 := kdP_b (G := G) (p := opP G ln (0) (7) (u0 + 3)) (ln := ln) (by omega)
              have h_143 : C_130 (39) = .inl (E.2.2.1 0, 80, .inl xt) := (gF132 _ (by omega) (by omega)).trans h_127
              refine y_if_eq X 51 ((0) = (0)) dX2_readCommand_36 (by decide) (nI_eq (a := 0) (b := 0) (by omega) (by omega)) (fun c_144 => ?_) (fun c_144 => ?_)
              ·
                refine y_iconst X (v := (0)) dX2_readCommand_51 (by decide) ?_
                exact y_zret X hr (by rfl) dX2_readCommand_52 rfl (by have k1 : wdO G ln ltwA u0 := cw119; exact (by have g2 : cmP G ln u0 = kdP G ln (opP G ln (0) (7) (u0 + 3)) := (by unfold cmP; rw [if_pos gs9]; exact (if_pos k1).trans ((if_neg (fun z => ck132 z.2)).trans (if_pos co126))); rw [g2]; have gN : ¬ (cmO G ln u0) := (fun z => by rcases cmO_iff.mp z with z | z | z | z | z <;> first | exact absurd (gs9.symm.trans z.1) (by decide) | exact k1 z.2.1 | exact k1 z.2 | exact ck132 z.2.2 | exact ck132 z.2.2.1 | exact ck132 z.2.2.1.1 | exact ck132 z.2.2.1.2 | exact ck132 z.2.2.2 | exact ck132 z.2.2.1); exact ⟨congrArg (fun z => some (Value.int z)) (bI_0 gN).symm, ⟨_, _, _, _, _, _, gM132, gB132, fun z => absurd z gN⟩, (fun i9 g9 g8 => by rw [gF132 i9 (by omega) (by omega)]; rw [gF126 i9 (by omega) (by omega)]; rw [gF119 i9 (by omega)]; rw [eC_112, va_up, if_neg (by omega)])⟩))
              ·
                exact absurd c_144 (by decide)
        ·
          rw [bI_0 co126] at gv126
          subst gv126
          have gb126 := opP_b (G := G) (lw := (0)) (mo := 7) (p := u0 + 3) (ln := ln) (by omega)
          have h_145 : C_124 (39) = .inl (E.2.2.1 0, 80, .inl xt) := (gF126 _ (by omega) (by omega)).trans h_120
          refine y_if_eq X 51 ((0) = (0)) dX2_readCommand_28 (by decide) (nI_eq (a := 0) (b := 0) (by omega) (by omega)) (fun c_146 => ?_) (fun c_146 => ?_)
          ·
            refine y_iconst X (v := (0)) dX2_readCommand_51 (by decide) ?_
            exact y_zret X hr (by rfl) dX2_readCommand_52 rfl (by have k1 : wdO G ln ltwA u0 := cw119; exact (by have g2 : cmP G ln u0 = opP G ln (0) (7) (u0 + 3) := (by unfold cmP; rw [if_pos gs9]; exact (if_pos k1).trans ((if_neg (fun z => co126 z.1)).trans (if_neg co126))); rw [g2]; have gN : ¬ (cmO G ln u0) := (fun z => by rcases cmO_iff.mp z with z | z | z | z | z <;> first | exact absurd (gs9.symm.trans z.1) (by decide) | exact k1 z.2.1 | exact k1 z.2 | exact co126 z.2.2 | exact co126 z.2.2.1 | exact co126 z.2.2.1.1 | exact co126 z.2.2.1.2 | exact co126 z.2.2.2 | exact co126 z.2.2.1); exact ⟨congrArg (fun z => some (Value.int z)) (bI_0 gN).symm, ⟨_, _, _, _, _, _, gM126, gB126, fun z => absurd z gN⟩, (fun i9 g9 g8 => by rw [gF126 i9 (by omega) (by omega)]; rw [gF119 i9 (by omega)]; rw [eC_112, va_up, if_neg (by omega)])⟩))
          ·
            exact absurd c_146 (by decide)
    ·
      rw [bI_0 cw119] at gv119
      subst gv119
      have gb119 := wdP_b (G := G) (ln := ln) (wlk 0) (u0) (by omega)
      have h_147 : C_117 (39) = .inl (E.2.2.1 0, 80, .inl xt) := (gF119 _ (by omega)).trans h_114
      have h_148 : C_117 (b) = .inr (0, [.int (0), .int rw0, .int nm0, .int kd0, .int nb0]) := (gF119 _ (by omega)).trans h_115
      refine y_if_eq X 51 ((0) = (0)) dX2_readCommand_20 (by decide) (nI_eq (a := 0) (b := 0) (by omega) (by omega)) (fun c_149 => ?_) (fun c_149 => ?_)
      ·
        refine y_iconst X (v := (0)) dX2_readCommand_51 (by decide) ?_
        exact y_zret X hr (by rfl) dX2_readCommand_52 rfl (by have k1 : ¬ wdO G ln ltwA u0 := cw119; exact (by have g2 : cmP G ln u0 = wdP G ln (wlk 0) (u0) := (by unfold cmP; rw [if_pos gs9]; exact if_neg k1); rw [g2]; have gN : ¬ (cmO G ln u0) := (fun z => by rcases cmO_iff.mp z with z | z | z | z | z <;> first | exact absurd (gs9.symm.trans z.1) (by decide) | exact k1 z.2.1 | exact k1 z.2 | exact cw119 z.2.2 | exact cw119 z.2.2.1 | exact cw119 z.2.2.1.1 | exact cw119 z.2.2.1.2 | exact cw119 z.2.2.2 | exact cw119 z.2.2.1); exact ⟨congrArg (fun z => some (Value.int z)) (bI_0 gN).symm, ⟨_, _, _, _, _, _, gM119, h_148, fun z => absurd z gN⟩, (fun i9 g9 g8 => by rw [gF119 i9 (by omega)]; rw [eC_112, va_up, if_neg (by omega)])⟩))
      ·
        exact absurd c_149 (by decide)
