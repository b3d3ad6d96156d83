set_option maxRecDepth 100000 in
set_option maxHeartbeats 4000000 in
theorem c_X2_findFault {l : Launch} {E : xE} {C : xC} {G : Nat → Nat} {ln : Nat} {cc pl nu : Int32} {xt : Nat → Int32} {cm : Nat → Option Nat} (gl80 : ln ≤ 80) (gX : ∀ z : Nat, z < ln → xt z = nI (G z)) (gG : ∀ z : Nat, z < ln → G z < 65536) (s0 : C (38) = .inr (2, [.ref (E.2.1 (39)), .int (nI (ln)), .ref (E.2.1 (40)), .int cc, .int pl, .int nu])) (s1 : C (39) = .inl (E.2.2.1 0, 80, .inl xt)) (s2 : C (40) = .inl (E.2.2.1 2, 20, .inr (.inr (.inr (.inr cm))))) (gCM : ∀ i : Nat, i < 20 → cm i = some (E.2.1 (41 + i))) (gCD : cmd C) : xM E l yX2_findFault wsX2_findFault 7 149 [.ref (E.2.1 (38))] C (fun v C1 => v = some (.int (if okT G ln then -1 else nI (atT G ln))) ∧ (∃ cc2 pl2 nu2 : Int32, C1 (38) = .inr (2, [.ref (E.2.1 (39)), .int (nI (ln)), .ref (E.2.1 (40)), .int cc2, .int pl2, .int nu2]) ∧ cmd C1 ∧ (okT G ln → cc2 = nI (tcN G ln + 1) ∧ tcN G ln < 20 ∧ ∀ i : Nat, i ≤ tcN G ln → CDC C1 G ln i)) ∧ (∀ i : Nat, ¬ i = 38 → ¬ (41 ≤ i ∧ i < 61) → C1 i = C i)) := by
  refine xM_ofY (cc := cX2_findFault) (maxL := 1) (ret := (some .int)) (by decide) rfl (Nat.le_of_ble_eq_true rfl) ?_
  intro p e s m args below meth c X hr
  have inX2 : ∀ w ∈ wsX20, w ∈ wsX2_findFault := by decide +kernel
  refine y_lv [(0, .ref (E.2.1 (38)))] rfl ?_
  refine y_aload_n X dX2_findFault_0 0 rfl ?_
  refine y_iconst X (v := (0)) dX2_findFault_1 (by decide) ?_
  refine y_put X (38) 2 4 (Cn := RX2) (T := TX2) (N := 6) (index := 28) tyX2 (v := .int (0)) dX2_findFault_2 (by omega) s0 rfl (by decide) inX2 (by decide +kernel : Cond.fieldLink RX2 28 "ColumnSeasons$Script" "place" "I" ∈ wsX2_findFault) rfl tyX2_ok nmX2 rfl rfl rfl (Nat.le_of_ble_eq_true rfl) ?_
  refine y_mem (va_up C (38) (.inr (2, [.ref (E.2.1 (39)), .int (nI (ln)), .ref (E.2.1 (40)), .int cc, .int (0), .int nu]))) rfl (fun C_1 eC_2 => ?_)
  have h_3 : C_1 (38) = .inr (2, [.ref (E.2.1 (39)), .int (nI (ln)), .ref (E.2.1 (40)), .int cc, .int (0), .int nu]) := by rw [eC_2, va_up, if_pos rfl]
  have h_4 : C_1 (39) = .inl (E.2.2.1 0, 80, .inl xt) := by rw [eC_2, va_up, if_neg (by omega)]; exact s1
  have h_5 : C_1 (40) = .inl (E.2.2.1 2, 20, .inr (.inr (.inr (.inr cm)))) := by rw [eC_2, va_up, if_neg (by omega)]; exact s2
  refine y_aload_n X dX2_findFault_5 0 rfl ?_
  refine y_iconst X (v := (0)) dX2_findFault_6 (by decide) ?_
  refine y_put X (38) 2 3 (Cn := RX2) (T := TX2) (N := 6) (index := 25) tyX2 (v := .int (0)) dX2_findFault_7 (by omega) h_3 rfl (by decide) inX2 (by decide +kernel : Cond.fieldLink RX2 25 "ColumnSeasons$Script" "commandCount" "I" ∈ wsX2_findFault) rfl tyX2_ok nmX2 rfl rfl rfl (Nat.le_of_ble_eq_true rfl) ?_
  refine y_mem (va_up C_1 (38) (.inr (2, [.ref (E.2.1 (39)), .int (nI (ln)), .ref (E.2.1 (40)), .int (0), .int (0), .int nu]))) rfl (fun C_6 eC_7 => ?_)
  have h_8 : C_6 (38) = .inr (2, [.ref (E.2.1 (39)), .int (nI (ln)), .ref (E.2.1 (40)), .int (0), .int (0), .int nu]) := by rw [eC_7, va_up, if_pos rfl]
  have h_9 : C_6 (39) = .inl (E.2.2.1 0, 80, .inl xt) := by rw [eC_7, va_up, if_neg (by omega)]; exact h_4
  have h_10 : C_6 (40) = .inl (E.2.2.1 2, 20, .inr (.inr (.inr (.inr cm)))) := by rw [eC_7, va_up, if_neg (by omega)]; exact h_5
  have L_10 : ∀ (n : Nat) (C2 : xC) (n9 : Nat) (nz : Int32), ln - psN G ln n9 < n → (C2 (38) = .inr (2, [.ref (E.2.1 (39)), .int (nI (ln)), .ref (E.2.1 (40)), .int (nI (n9)), .int (nI (psN G ln n9)), .int nz])) → (C2 (39) = .inl (E.2.2.1 0, 80, .inl xt)) → (C2 (40) = .inl (E.2.2.1 2, 20, .inr (.inr (.inr (.inr cm))))) → (∀ i9 : Nat, ¬ i9 = 38 → ¬ (41 ≤ i9 ∧ i9 < 61) → C2 i9 = C i9) → (psN G ln n9 ≤ ln) → (4 * n9 ≤ psN G ln n9) → (cmd C2) → (∀ i : Nat, i < n9 → CDC C2 G ln i) → (∀ i : Nat, i < n9 → goT G ln i) → xY p l e ({ frames := 7, cells := 0, slots := 0, locals := 149 } : Room) s m args below meth c E (xA E) 1 0 0 (MQ below (xQ E (fun v C1 => v = some (.int (if okT G ln then -1 else nI (atT G ln))) ∧ (∃ cc2 pl2 nu2 : Int32, C1 (38) = .inr (2, [.ref (E.2.1 (39)), .int (nI (ln)), .ref (E.2.1 (40)), .int cc2, .int pl2, .int nu2]) ∧ cmd C1 ∧ (okT G ln → cc2 = nI (tcN G ln + 1) ∧ tcN G ln < 20 ∧ ∀ i : Nat, i ≤ tcN G ln → CDC C1 G ln i)) ∧ (∀ i : Nat, ¬ i = 38 → ¬ (41 ≤ i ∧ i < 61) → C1 i = C i))) args s 0 0 (xA E)) C2 10 [(0, .ref (E.2.1 (38)))] [] := by
    intro n10
    induction n10 with
    | zero => intro _ _ _ hm10; exact absurd hm10 (Nat.not_lt_zero _)
    | succ n10 ih10 =>
      intro C2 n9 nz hm10 k0 k1 k2 gF2 gul g4 gC2 gDC gGo
      refine y_aload_n X dX2_findFault_10 0 rfl ?_
      refine y_get X (38) 2 3 (Cn := RX2) (T := TX2) (N := 6) (index := 25) (v := .int (nI (n9))) dX2_findFault_11 (by omega) k0 rfl (by decide) inX2 (by decide +kernel : Cond.fieldLink RX2 25 "ColumnSeasons$Script" "commandCount" "I" ∈ wsX2_findFault) rfl rfl ?_
      refine y_bipush X (v := (20)) dX2_findFault_14 (by decide) ?_
      refine y_icmp_ge X 72 ((20) ≤ (n9)) dX2_findFault_16 (by decide) (nI_leI (a := 20) (b := n9) (by omega) (by omega)) (fun c_11 => ?_) (fun c_11 => ?_)
      ·
        refine y_aload_n X dX2_findFault_72 0 rfl ?_
        refine y_get X (38) 2 4 (Cn := RX2) (T := TX2) (N := 6) (index := 28) (v := .int (nI (psN G ln n9))) dX2_findFault_73 (by omega) k0 rfl (by decide) inX2 (by decide +kernel : Cond.fieldLink RX2 28 "ColumnSeasons$Script" "place" "I" ∈ wsX2_findFault) rfl rfl ?_
        exact y_iret X hr dX2_findFault_76 rfl (by obtain ⟨eN, nO, eA⟩ := tc_end gl80 gul g4 (by omega) gGo; rw [if_neg nO, eA]; exact ⟨rfl, ⟨_, _, _, k0, gC2, fun z => absurd z nO⟩, (fun i9 g9 g8 => by rw [gF2 i9 g9 g8])⟩)
      ·
        refine y_aload_n X dX2_findFault_19 0 rfl ?_
        refine y_aload_n X dX2_findFault_20 0 rfl ?_
        refine y_get X (38) 2 2 (Cn := RX2) (T := TX2) (N := 6) (index := 21) (v := .ref (E.2.1 (40))) dX2_findFault_21 (by omega) k0 rfl (by decide) inX2 (by decide +kernel : Cond.fieldLink RX2 21 "ColumnSeasons$Script" "commands" "[LColumnSeasons$Command;" ∈ wsX2_findFault) rfl rfl ?_
        refine y_aload_n X dX2_findFault_24 0 rfl ?_
        refine y_get X (38) 2 3 (Cn := RX2) (T := TX2) (N := 6) (index := 25) (v := .int (nI (n9))) dX2_findFault_25 (by omega) k0 rfl (by decide) inX2 (by decide +kernel : Cond.fieldLink RX2 25 "ColumnSeasons$Script" "commandCount" "I" ∈ wsX2_findFault) rfl rfl ?_
        obtain ⟨qa, qb, qd, qf, qg, gcl⟩ := gC2 n9 (by omega)
        refine y_aald X (40) 2 dX2_findFault_28 (by omega) rfl k2 (j := n9) rfl (by omega) (by omega) (gCM _ (by omega)) ?_
        refine y_callV X (38) 2 (av := [.ref (E.2.1 (41 + n9))]) [] 1 (c_X2_readCommand (G := G) (u0 := psN G ln n9) (by omega) gl80 gX gG k0 k1 (b := 41 + n9) (by omega) (by omega) gcl) (by omega) k0 rfl gX2_findFault_X2_readCommand rfl (by decide +kernel) rfl ⟨Nat.le_of_ble_eq_true rfl, Nat.le_of_ble_eq_true rfl⟩ ⟨Nat.zero_le _, Nat.zero_le _⟩ (Nat.le_of_ble_eq_true rfl) rfl dX2_findFault_29 (fun v_12 C_13 hp_14 => ?_)
        obtain ⟨gv15, ⟨ya, yb, yd, yf, yg, vz15, gM15, gB15, gW15⟩, gF15⟩ := hp_14
        have gb15 := cmP_b (G := G) (p := psN G ln n9) (ln := ln) (by omega)
        rcases Decidable.em (cmO G ln (psN G ln n9)) with cp15 | cp15
        ·
          rw [bI_1 cp15] at gv15
          subst gv15
          have gY15 := gW15 cp15
          have gb3 := gb15.2.2 cp15
          have h_16 : C_13 (39) = .inl (E.2.2.1 0, 80, .inl xt) := (gF15 _ (by omega) (by omega)).trans k1
          have h_17 : C_13 (40) = .inl (E.2.2.1 2, 20, .inr (.inr (.inr (.inr cm)))) := (gF15 _ (by omega) (by omega)).trans k2
          refine y_if_eq X 72 ((1) = (0)) dX2_findFault_32 (by decide) (nI_eq (a := 1) (b := 0) (by omega) (by omega)) (fun c_18 => ?_) (fun c_18 => ?_)
          ·
            exact absurd c_18 (by decide)
          ·
            refine y_aload_n X dX2_findFault_35 0 rfl ?_
            refine y_dup X dX2_findFault_36 rfl ?_
            refine y_get X (38) 2 3 (Cn := RX2) (T := TX2) (N := 6) (index := 25) (v := .int (nI (n9))) dX2_findFault_37 (by omega) gM15 rfl (by decide) inX2 (by decide +kernel : Cond.fieldLink RX2 25 "ColumnSeasons$Script" "commandCount" "I" ∈ wsX2_findFault) rfl rfl ?_
            refine y_iconst X (v := (1)) dX2_findFault_40 (by decide) ?_
            refine y_iadd X (z := (nI (n9 + 1))) dX2_findFault_41 (nI_add (n9) (1)) ?_
            refine y_put X (38) 2 3 (Cn := RX2) (T := TX2) (N := 6) (index := 25) tyX2 (v := .int (nI (n9 + 1))) dX2_findFault_42 (by omega) gM15 rfl (by decide) inX2 (by decide +kernel : Cond.fieldLink RX2 25 "ColumnSeasons$Script" "commandCount" "I" ∈ wsX2_findFault) rfl tyX2_ok nmX2 rfl rfl rfl (Nat.le_of_ble_eq_true rfl) ?_
            refine y_mem (va_up C_13 (38) (.inr (2, [.ref (E.2.1 (39)), .int (nI (ln)), .ref (E.2.1 (40)), .int (nI (n9 + 1)), .int (nI (cmP G ln (psN G ln n9))), .int vz15]))) rfl (fun C_19 eC_20 => ?_)
            have h_21 : C_19 (38) = .inr (2, [.ref (E.2.1 (39)), .int (nI (ln)), .ref (E.2.1 (40)), .int (nI (n9 + 1)), .int (nI (cmP G ln (psN G ln n9))), .int vz15]) := by rw [eC_20, va_up, if_pos rfl]
            have h_22 : C_19 (39) = .inl (E.2.2.1 0, 80, .inl xt) := by rw [eC_20, va_up, if_neg (by omega)]; exact h_16
            have h_23 : C_19 (40) = .inl (E.2.2.1 2, 20, .inr (.inr (.inr (.inr cm)))) := by rw [eC_20, va_up, if_neg (by omega)]; exact h_17
            have h_24 : C_19 (41 + n9) = .inr (0, [.int ya, .int yb, .int yd, .int yf, .int yg]) := by rw [eC_20, va_up, if_neg (by omega)]; exact gB15
            refine y_aload_n X dX2_findFault_45 0 rfl ?_
            refine y_get X (38) 2 4 (Cn := RX2) (T := TX2) (N := 6) (index := 28) (v := .int (nI (cmP G ln (psN G ln n9)))) dX2_findFault_46 (by omega) h_21 rfl (by decide) inX2 (by decide +kernel : Cond.fieldLink RX2 28 "ColumnSeasons$Script" "place" "I" ∈ wsX2_findFault) rfl rfl ?_
            refine y_aload_n X dX2_findFault_49 0 rfl ?_
            refine y_get X (38) 2 1 (Cn := RX2) (T := TX2) (N := 6) (index := 15) (v := .int (nI (ln))) dX2_findFault_50 (by omega) h_21 rfl (by decide) inX2 (by decide +kernel : Cond.fieldLink RX2 15 "ColumnSeasons$Script" "length" "I" ∈ wsX2_findFault) rfl rfl ?_
            refine y_icmp_ne X 58 (¬ ((cmP G ln (psN G ln n9)) = (ln))) dX2_findFault_53 (by decide) (cNe (nI_eq (a := cmP G ln (psN G ln n9)) (b := ln) (by omega) (by omega))) (fun c_25 => ?_) (fun c_25 => ?_)
            ·
              refine y_aload_n X dX2_findFault_58 0 rfl ?_
              refine y_bipush X (v := (59)) dX2_findFault_59 (by decide) ?_
              refine y_callV X (38) 2 (av := [.int (59)]) [] 1 (c_X2_readSign (G := G) (u0 := cmP G ln (psN G ln n9)) (by omega) gl80 gX gG h_21 h_22 (c0 := 59) (by omega)) (by omega) h_21 rfl gX2_findFault_X2_readSign rfl (by decide +kernel) rfl ⟨Nat.le_of_ble_eq_true rfl, Nat.le_of_ble_eq_true rfl⟩ ⟨Nat.zero_le _, Nat.zero_le _⟩ (Nat.le_of_ble_eq_true rfl) rfl dX2_findFault_61 (fun v_26 C_27 hp_28 => ?_)
              obtain ⟨gv29, gM29, gF29⟩ := hp_28
              rcases Decidable.em (chA G ln (cmP G ln (psN G ln n9)) (59)) with cs29 | cs29
              ·
                rw [bI_1 cs29] at gv29
                subst gv29
                rw [if_pos cs29] at gM29
                have gb29 := cs29.1
                have h_30 : C_27 (39) = .inl (E.2.2.1 0, 80, .inl xt) := (gF29 _ (by omega)).trans h_22
                have h_31 : C_27 (40) = .inl (E.2.2.1 2, 20, .inr (.inr (.inr (.inr cm)))) := (gF29 _ (by omega)).trans h_23
                have h_32 : C_27 (41 + n9) = .inr (0, [.int ya, .int yb, .int yd, .int yf, .int yg]) := (gF29 _ (by omega)).trans h_24
                refine y_if_ne X 10 (¬ ((1) = (0))) dX2_findFault_64 (by decide) (cNe (nI_eq (a := 1) (b := 0) (by omega) (by omega))) (fun c_33 => ?_) (fun c_33 => ?_)
                ·
                  exact ih10 (C_27) (n9 + 1) (vz15) (by show ln - (cmP G ln (psN G ln n9) + 1) < _; omega) gM29 h_30 h_31 (fun i9 g9 g8 => by rw [gF29 i9 (by omega)]; rw [eC_20, va_up, if_neg (by omega)]; rw [gF15 i9 (by omega) (by omega)]; rw [gF2 i9 g9 g8]) (by show cmP G ln (psN G ln n9) + 1 ≤ ln; omega) (by show 4 * (n9 + 1) ≤ cmP G ln (psN G ln n9) + 1; omega) (fun i q1 => by by_cases q2 : i = n9; subst q2; exact ⟨_, _, _, _, _, h_32⟩; rw [show C_27 (41 + i) = C2 (41 + i) from (by rw [gF29 (41 + i) (by omega)]; rw [eC_20, va_up, if_neg (by omega)]; rw [gF15 (41 + i) (by omega) (by omega)])]; exact gC2 i q1) (fun i q1 => by rcases Nat.lt_or_ge i n9 with q3 | q3; exact CDC_same (gDC i q3) (by rw [gF29 (41 + i) (by omega)]; rw [eC_20, va_up, if_neg (by omega)]; rw [gF15 (41 + i) (by omega) (by omega)]); rw [show i = n9 by omega]; exact ⟨_, _, _, _, _, h_32, gY15⟩) (fun i q1 => by rcases Nat.lt_or_ge i n9 with q3 | q3; exact gGo i q3; rw [show i = n9 by omega]; exact ⟨cp15, cs29⟩)
                ·
                  have c_33 := Decidable.of_not_not c_33
                  exact absurd c_33 (by decide)
              ·
                rw [bI_0 cs29] at gv29
                subst gv29
                rw [if_neg cs29] at gM29
                have h_34 : C_27 (39) = .inl (E.2.2.1 0, 80, .inl xt) := (gF29 _ (by omega)).trans h_22
                have h_35 : C_27 (40) = .inl (E.2.2.1 2, 20, .inr (.inr (.inr (.inr cm)))) := (gF29 _ (by omega)).trans h_23
                have h_36 : C_27 (41 + n9) = .inr (0, [.int ya, .int yb, .int yd, .int yf, .int yg]) := (gF29 _ (by omega)).trans h_24
                refine y_if_ne X 10 (¬ ((0) = (0))) dX2_findFault_64 (by decide) (cNe (nI_eq (a := 0) (b := 0) (by omega) (by omega))) (fun c_37 => ?_) (fun c_37 => ?_)
                ·
                  exact absurd c_37 (by decide)
                ·
                  have c_37 := Decidable.of_not_not c_37
                  refine y_aload_n X dX2_findFault_67 0 rfl ?_
                  refine y_get X (38) 2 4 (Cn := RX2) (T := TX2) (N := 6) (index := 28) (v := .int (nI (cmP G ln (psN G ln n9)))) dX2_findFault_68 (by omega) gM29 rfl (by decide) inX2 (by decide +kernel : Cond.fieldLink RX2 28 "ColumnSeasons$Script" "place" "I" ∈ wsX2_findFault) rfl rfl ?_
                  exact y_iret X hr dX2_findFault_71 rfl (by have eN : tcN G ln = n9 := cnT_is 21 0 (by omega) (by omega) gGo (fun z => cs29 z.2); have nO : ¬ okT G ln := (fun z => by have z1 : cmP G ln (psN G ln (tcN G ln)) = ln := z.2; rw [eN] at z1; omega); have eA : atT G ln = cmP G ln (psN G ln n9) := (by unfold atT; rw [eN]); rw [if_neg nO, eA]; exact ⟨rfl, ⟨_, _, _, gM29, (fun i q1 => by by_cases q2 : i = n9; subst q2; exact ⟨_, _, _, _, _, h_36⟩; rw [show C_27 (41 + i) = C2 (41 + i) from (by rw [gF29 (41 + i) (by omega)]; rw [eC_20, va_up, if_neg (by omega)]; rw [gF15 (41 + i) (by omega) (by omega)])]; exact gC2 i q1), fun z => absurd z nO⟩, (fun i9 g9 g8 => by rw [gF29 i9 (by omega)]; rw [eC_20, va_up, if_neg (by omega)]; rw [gF15 i9 (by omega) (by omega)]; rw [gF2 i9 g9 g8])⟩)
            ·
              have c_25 := Decidable.of_not_not c_25
              refine y_iconst X (v := (-1)) dX2_findFault_56 (by decide) ?_
              exact y_iret X hr dX2_findFault_57 rfl (by have eN : tcN G ln = n9 := cnT_is 21 0 (by omega) (by omega) gGo (fun z => by have := z.2.1; omega); have yO : okT G ln := (by have z1 : cmO G ln (psN G ln (tcN G ln)) := (by rw [eN]; exact cp15); have z2 : cmP G ln (psN G ln (tcN G ln)) = ln := (by rw [eN]; omega); exact ⟨z1, z2⟩); rw [if_pos yO]; exact ⟨rfl, ⟨_, _, _, h_21, (fun i q1 => by by_cases q2 : i = n9; subst q2; exact ⟨_, _, _, _, _, h_24⟩; rw [show C_19 (41 + i) = C2 (41 + i) from (by rw [eC_20, va_up, if_neg (by omega)]; rw [gF15 (41 + i) (by omega) (by omega)])]; exact gC2 i q1), fun _ => ⟨(by rw [eN]), (by omega), (fun i q1 => by rw [eN] at q1; rcases Nat.lt_or_ge i n9 with q3 | q3; exact CDC_same (gDC i q3) (by rw [eC_20, va_up, if_neg (by omega)]; rw [gF15 (41 + i) (by omega) (by omega)]); rw [show i = n9 by omega]; exact ⟨_, _, _, _, _, h_24, gY15⟩)⟩⟩, (fun i9 g9 g8 => by rw [eC_20, va_up, if_neg (by omega)]; rw [gF15 i9 (by omega) (by omega)]; rw [gF2 i9 g9 g8])⟩)
        ·
          rw [bI_0 cp15] at gv15
          subst gv15
          have h_38 : C_13 (39) = .inl (E.2.2.1 0, 80, .inl xt) := (gF15 _ (by omega) (by omega)).trans k1
          have h_39 : C_13 (40) = .inl (E.2.2.1 2, 20, .inr (.inr (.inr (.inr cm)))) := (gF15 _ (by omega) (by omega)).trans k2
          refine y_if_eq X 72 ((0) = (0)) dX2_findFault_32 (by decide) (nI_eq (a := 0) (b := 0) (by omega) (by omega)) (fun c_40 => ?_) (fun c_40 => ?_)
          ·
            refine y_aload_n X dX2_findFault_72 0 rfl ?_
            refine y_get X (38) 2 4 (Cn := RX2) (T := TX2) (N := 6) (index := 28) (v := .int (nI (cmP G ln (psN G ln n9)))) dX2_findFault_73 (by omega) gM15 rfl (by decide) inX2 (by decide +kernel : Cond.fieldLink RX2 28 "ColumnSeasons$Script" "place" "I" ∈ wsX2_findFault) rfl rfl ?_
            exact y_iret X hr dX2_findFault_76 rfl (by have eN : tcN G ln = n9 := cnT_is 21 0 (by omega) (by omega) gGo (fun z => cp15 z.1); have nO : ¬ okT G ln := (fun z => by have z1 : cmO G ln (psN G ln (tcN G ln)) := z.1; rw [eN] at z1; exact cp15 z1); have eA : atT G ln = cmP G ln (psN G ln n9) := (by unfold atT; rw [eN]); rw [if_neg nO, eA]; exact ⟨rfl, ⟨_, _, _, gM15, (fun i q1 => by by_cases q2 : i = n9; subst q2; exact ⟨_, _, _, _, _, gB15⟩; rw [show C_13 (41 + i) = C2 (41 + i) from (by rw [gF15 (41 + i) (by omega) (by omega)])]; exact gC2 i q1), fun z => absurd z nO⟩, (fun i9 g9 g8 => by rw [gF15 i9 (by omega) (by omega)]; rw [gF2 i9 g9 g8])⟩)
          ·
            exact absurd c_40 (by decide)
  exact L_10 _ (C_6) (0) (nu) (Nat.lt_succ_self _) h_8 h_9 h_10 (fun i9 g9 g8 => by rw [eC_7, va_up, if_neg (by omega)]; rw [eC_2, va_up, if_neg (by omega)]) (Nat.zero_le _) (Nat.le_refl _) (fun i q1 => by obtain ⟨a, b, d, f, g, q2⟩ := gCD i q1; exact ⟨a, b, d, f, g, by rw [eC_7, va_up, if_neg (by omega)]; rw [eC_2, va_up, if_neg (by omega)]; exact q2⟩) (fun _ q1 => absurd q1 (Nat.not_lt_zero _)) (fun _ q1 => absurd q1 (Nat.not_lt_zero _))
