set_option maxRecDepth 100000 in
set_option maxHeartbeats 4000000 in
theorem c_X5_begins {l : Launch} {E : xE} {C : xC} {a : Nat} {T : Tb} (ga : a < 68) (gT : RM E C a T) (gv : WF T) {j : Nat} {kd d0 : Int32} (gj : j < 8) (gm : tn T < 30) : xM E l yX5_begins wsX5_begins 0 0 [.ref (E.2.1 (a)), .int (nI (j)), .int kd, .int d0] C (fun v C1 => v = some (.int (nI (tn T))) ∧ RM E C1 a (bgn T j kd d0) ∧ (∀ i : Nat, ¬ i = a → C1 i = C i)) := by
  obtain ⟨zf, h0, g0, g1, gK, gD, gS, gV⟩ := id gT
  obtain ⟨gw1, gw2, gw3, gw4⟩ := id gv.1
  refine xM_ofY (cc := cX5_begins) (maxL := 6) (ret := (some .int)) (by decide) rfl (Nat.le_of_ble_eq_true rfl) ?_
  intro p e s m args below meth c X hr
  refine y_lv [(0, .ref (E.2.1 (a))), (1, .int (nI (j))), (2, .int kd), (3, .int d0)] rfl ?_
  refine y_iconst X (v := (2)) dX5_begins_0 (by decide) ?_
  refine y_bipush X (v := (16)) dX5_begins_1 (by decide) ?_
  refine y_aload_n X dX5_begins_3 0 rfl ?_
  refine y_iconst X (v := (0)) dX5_begins_4 (by decide) ?_
  refine y_iald X (a) dX5_begins_5 (by omega) h0 (j := 0) rfl (by omega) (by omega) (z := (nI (tn T))) g0 ?_
  refine y_imul X (z := (nI ((16) * (tn T)))) dX5_begins_6 (pk_mul (16) (tn T)) ?_
  refine y_iadd X (z := (nI (2 + (16) * (tn T)))) dX5_begins_7 (nI_add (2) ((16) * (tn T))) ?_
  refine y_istore X [(4, .int (nI (2 + (16) * (tn T)))), (0, .ref (E.2.1 (a))), (1, .int (nI (j))), (2, .int kd), (3, .int d0)] dX5_begins_8 (by decide) rfl ?_
  refine y_iconst X (v := (0)) dX5_begins_10 (by decide) ?_
  refine y_istore X [(5, .int (0)), (4, .int (nI (2 + (16) * (tn T)))), (0, .ref (E.2.1 (a))), (1, .int (nI (j))), (2, .int kd), (3, .int d0)] dX5_begins_11 (by decide) rfl ?_
  have L_13 : ∀ (n : Nat) (C2 : xC) (zf2 : Nat → Int32) (n9 : Nat), 16 - n9 < n → (C2 (a) = .inl (E.2.2.1 1, 698, .inl zf2)) → ((∀ i9 : Nat, ¬ i9 = a → C2 i9 = C i9)) → (∀ z : Nat, z < 2 + 16 * tn T ∨ 2 + 16 * tn T + n9 ≤ z → zf2 z = zf z) → (∀ z : Nat, z < n9 → zf2 (2 + 16 * tn T + z) = zf (2 + 16 * tn T + z - 16)) → (n9 ≤ 16) → xY p l e ({ frames := 0, cells := 0, slots := 0, locals := 0 } : Room) s m args below meth c E (xA E) 6 0 0 (MQ below (xQ E (fun v C1 => v = some (.int (nI (tn T))) ∧ RM E C1 a (bgn T j kd d0) ∧ (∀ i : Nat, ¬ i = a → C1 i = C i))) args s 0 0 (xA E)) C2 13 [(0, .ref (E.2.1 (a))), (1, .int (nI (j))), (2, .int kd), (3, .int d0), (4, .int (nI (2 + (16) * (tn T)))), (5, .int (nI (n9)))] [] := by
    intro n13
    induction n13 with
    | zero => intro _ _ _ hm13; exact absurd hm13 (Nat.not_lt_zero _)
    | succ n13 ih13 =>
      intro C2 zf2 n9 hm13 k0 gF2 gA gB gn
      refine y_iload X dX5_begins_13 5 rfl ?_
      refine y_bipush X (v := (16)) dX5_begins_15 (by decide) ?_
      refine y_icmp_ge X 43 ((16) ≤ (n9)) dX5_begins_17 (by decide) (nI_leI (a := 16) (b := n9) (by omega) (by omega)) (fun c_1 => ?_) (fun c_1 => ?_)
      ·
        refine y_aload_n X dX5_begins_43 0 rfl ?_
        refine y_iload X dX5_begins_44 4 rfl ?_
        refine y_iload_n X dX5_begins_46 1 rfl ?_
        refine y_iadd X (z := (nI (2 + (16) * (tn T) + j))) dX5_begins_47 (nI_add (2 + (16) * (tn T)) (j)) ?_
        refine y_iload_n X dX5_begins_48 2 rfl ?_
        refine y_iconst X (v := (1)) dX5_begins_49 (by decide) ?_
        refine y_iadd X (z := (kd + (1))) dX5_begins_50 rfl ?_
        refine y_iast X (a) dX5_begins_51 (by omega) k0 (j := 2 + (16) * (tn T) + j) rfl (by omega) (by omega) ?_
        refine y_mem (va_up C2 (a) (.inl (E.2.2.1 1, 698, .inl (upd zf2 (2 + (16) * (tn T) + j) (kd + (1)))))) rfl (fun C_2 eC_3 => ?_)
        have h_4 : C_2 (a) = .inl (E.2.2.1 1, 698, .inl (upd zf2 (2 + (16) * (tn T) + j) (kd + (1)))) := by rw [eC_3, va_up, if_pos rfl]
        refine y_aload_n X dX5_begins_52 0 rfl ?_
        refine y_iload X dX5_begins_53 4 rfl ?_
        refine y_bipush X (v := (8)) dX5_begins_55 (by decide) ?_
        refine y_iadd X (z := (nI (2 + (16) * (tn T) + 8))) dX5_begins_57 (nI_add (2 + (16) * (tn T)) (8)) ?_
        refine y_iload_n X dX5_begins_58 1 rfl ?_
        refine y_iadd X (z := (nI (2 + (16) * (tn T) + 8 + j))) dX5_begins_59 (nI_add (2 + (16) * (tn T) + 8) (j)) ?_
        refine y_iload_n X dX5_begins_60 3 rfl ?_
        refine y_iast X (a) dX5_begins_61 (by omega) h_4 (j := 2 + (16) * (tn T) + 8 + j) rfl (by omega) (by omega) ?_
        refine y_mem (va_up C_2 (a) (.inl (E.2.2.1 1, 698, .inl (upd (upd zf2 (2 + (16) * (tn T) + j) (kd + (1))) (2 + (16) * (tn T) + 8 + j) d0)))) rfl (fun C_5 eC_6 => ?_)
        have h_7 : C_5 (a) = .inl (E.2.2.1 1, 698, .inl (upd (upd zf2 (2 + (16) * (tn T) + j) (kd + (1))) (2 + (16) * (tn T) + 8 + j) d0)) := by rw [eC_6, va_up, if_pos rfl]
        refine y_aload_n X dX5_begins_62 0 rfl ?_
        refine y_iconst X (v := (0)) dX5_begins_63 (by decide) ?_
        refine y_dup2 X dX5_begins_64 rfl rfl ?_
        refine y_iald X (a) dX5_begins_65 (by omega) h_7 (j := 0) rfl (by omega) (by omega) (z := (nI (tn T))) (by rw [pk_un (by omega), pk_un (by omega), gA 0 (by omega)]; exact g0) ?_
        refine y_iconst X (v := (1)) dX5_begins_66 (by decide) ?_
        refine y_iadd X (z := (nI (tn T + 1))) dX5_begins_67 (nI_add (tn T) (1)) ?_
        refine y_iast X (a) dX5_begins_68 (by omega) h_7 (j := 0) rfl (by omega) (by omega) ?_
        refine y_mem (va_up C_5 (a) (.inl (E.2.2.1 1, 698, .inl (upd (upd (upd zf2 (2 + (16) * (tn T) + j) (kd + (1))) (2 + (16) * (tn T) + 8 + j) d0) (0) (nI (tn T + 1)))))) rfl (fun C_8 eC_9 => ?_)
        have h_10 : C_8 (a) = .inl (E.2.2.1 1, 698, .inl (upd (upd (upd zf2 (2 + (16) * (tn T) + j) (kd + (1))) (2 + (16) * (tn T) + 8 + j) d0) (0) (nI (tn T + 1)))) := by rw [eC_9, va_up, if_pos rfl]
        refine y_aload_n X dX5_begins_69 0 rfl ?_
        refine y_iconst X (v := (0)) dX5_begins_70 (by decide) ?_
        refine y_iald X (a) dX5_begins_71 (by omega) h_10 (j := 0) rfl (by omega) (by omega) (z := (nI (tn T + 1))) pk_us ?_
        refine y_iconst X (v := (1)) dX5_begins_72 (by decide) ?_
        refine y_isub X (z := (nI ((tn T + 1) - (1)))) dX5_begins_73 (pk_sub (a := tn T + 1) (b := 1) (by omega)) ?_
        exact y_iret X hr dX5_begins_74 rfl ⟨rfl, ⟨_, h_10, bgnM ⟨g0, g1, gK, gD, gS, gV⟩ gv.1 gm gj pk_us (fun z q1 q2 => by rw [pk_un (by omega), pk_un (by omega), pk_un (by omega)]; exact gA z (by omega)) (fun z q1 q2 q3 => by rw [pk_un (by omega), pk_un (by omega), pk_un (by omega)]; exact gB z (by omega)) (by rw [pk_un (by omega), pk_un (by omega), pk_us]) (by rw [pk_un (by omega), pk_us]) (fun z q1 => by rw [pk_un (by omega), pk_un (by omega), pk_un (by omega)]; exact gA z (by omega))⟩, (fun i9 g9 => by rw [eC_9, va_up, if_neg (by omega)]; rw [eC_6, va_up, if_neg (by omega)]; rw [eC_3, va_up, if_neg (by omega)]; rw [gF2 i9 g9])⟩
      ·
        refine y_aload_n X dX5_begins_20 0 rfl ?_
        refine y_iload X dX5_begins_21 4 rfl ?_
        refine y_iload X dX5_begins_23 5 rfl ?_
        refine y_iadd X (z := (nI (2 + (16) * (tn T) + n9))) dX5_begins_25 (nI_add (2 + (16) * (tn T)) (n9)) ?_
        refine y_aload_n X dX5_begins_26 0 rfl ?_
        refine y_iload X dX5_begins_27 4 rfl ?_
        refine y_iload X dX5_begins_29 5 rfl ?_
        refine y_iadd X (z := (nI (2 + (16) * (tn T) + n9))) dX5_begins_31 (nI_add (2 + (16) * (tn T)) (n9)) ?_
        refine y_bipush X (v := (16)) dX5_begins_32 (by decide) ?_
        refine y_isub X (z := (nI ((2 + (16) * (tn T) + n9) - (16)))) dX5_begins_34 (pk_sub (a := 2 + (16) * (tn T) + n9) (b := 16) (by omega)) ?_
        refine y_iald X (a) dX5_begins_35 (by omega) k0 (j := (2 + (16) * (tn T) + n9) - (16)) rfl (by omega) (by omega) (z := (zf2 ((2 + (16) * (tn T) + n9) - (16)))) rfl ?_
        refine y_iast X (a) dX5_begins_36 (by omega) k0 (j := 2 + (16) * (tn T) + n9) rfl (by omega) (by omega) ?_
        refine y_mem (va_up C2 (a) (.inl (E.2.2.1 1, 698, .inl (upd zf2 (2 + (16) * (tn T) + n9) (zf2 ((2 + (16) * (tn T) + n9) - (16))))))) rfl (fun C_11 eC_12 => ?_)
        have h_13 : C_11 (a) = .inl (E.2.2.1 1, 698, .inl (upd zf2 (2 + (16) * (tn T) + n9) (zf2 ((2 + (16) * (tn T) + n9) - (16))))) := by rw [eC_12, va_up, if_pos rfl]
        refine y_iinc X [(5, .int (nI (n9 + 1))), (0, .ref (E.2.1 (a))), (1, .int (nI (j))), (2, .int kd), (3, .int d0), (4, .int (nI (2 + (16) * (tn T))))] dX5_begins_37 5 rfl (nI_1 _) (by decide) rfl ?_
        refine y_goto X 13 dX5_begins_40 (by decide) ?_
        refine y_pick [1, 2, 3, 4, 5, 0] [(0, .ref (E.2.1 (a))), (1, .int (nI (j))), (2, .int kd), (3, .int d0), (4, .int (nI (2 + (16) * (tn T)))), (5, .int (nI (n9 + 1)))] rfl ?_
        exact ih13 (C_11) ((upd zf2 (2 + (16) * (tn T) + n9) (zf2 ((2 + (16) * (tn T) + n9) - (16))))) (n9 + 1) (by omega) h_13 (fun i9 g9 => by rw [eC_12, va_up, if_neg (by omega)]; rw [gF2 i9 g9]) (fun z q1 => by rw [pk_un (by omega)]; exact gA z (by omega)) (fun z q1 => by rcases Nat.lt_or_ge z n9 with q3 | q3; rw [pk_un (by omega)]; exact gB z q3; rw [show z = n9 by omega, pk_us]; exact gA _ (by omega)) (by omega)
  refine y_pick [2, 3, 4, 5, 1, 0] [(0, .ref (E.2.1 (a))), (1, .int (nI (j))), (2, .int kd), (3, .int d0), (4, .int (nI (2 + (16) * (tn T)))), (5, .int (0))] rfl ?_
  exact L_13 _ (C) (zf) (0) (Nat.lt_succ_self _) h0 (fun _ _ => rfl) (fun _ _ => rfl) (fun _ q1 => absurd q1 (Nat.not_lt_zero _)) (by omega)

set_option maxRecDepth 100000 in
set_option maxHeartbeats 4000000 in
theorem c_X5_adds {l : Launch} {E : xE} {C : xC} {a : Nat} {T : Tb} (ga : a < 68) (gT : RM E C a T) (gv : WF T) {j : Nat} {kd d0 : Int32} (gj : j < 8) : xM E l yX5_adds wsX5_adds 1 25 [.ref (E.2.1 (a)), .int (nI (j)), .int kd, .int d0] C (fun v C1 => v = some (.int (aAdd T j kd d0).1) ∧ RM E C1 a (aAdd T j kd d0).2 ∧ (∀ i : Nat, ¬ i = a → C1 i = C i)) := by
  obtain ⟨zf, h0, g0, g1, gK, gD, gS, gV⟩ := id gT
  obtain ⟨gw1, gw2, gw3, gw4⟩ := id gv.1
  refine xM_ofY (cc := cX5_adds) (maxL := 4) (ret := (some .int)) (by decide) rfl (Nat.le_of_ble_eq_true rfl) ?_
  intro p e s m args below meth c X hr
  refine y_lv [(0, .ref (E.2.1 (a))), (1, .int (nI (j))), (2, .int kd), (3, .int d0)] rfl ?_
  have gk2 := WF_k gv (show tn T - 1 < tn T by omega) gj
  refine y_aload_n X dX5_adds_0 0 rfl ?_
  refine y_aload_n X dX5_adds_1 0 rfl ?_
  refine y_iconst X (v := (0)) dX5_adds_2 (by decide) ?_
  refine y_iald X (a) dX5_adds_3 (by omega) h0 (j := 0) rfl (by omega) (by omega) (z := (nI (tn T))) g0 ?_
  refine y_iconst X (v := (1)) dX5_adds_4 (by decide) ?_
  refine y_isub X (z := (nI ((tn T) - (1)))) dX5_adds_5 (pk_sub (a := tn T) (b := 1) (by omega)) ?_
  refine y_iload_n X dX5_adds_6 1 rfl ?_
  refine y_callJr X (av := [.ref (E.2.1 (a)), .int (nI ((tn T) - (1))), .int (nI (j))]) [] 3 (c_X5_kindOf (a := a) (by omega) gT gv (q := (tn T) - (1)) (j := j) (by omega) (by omega)) gX5_adds_X5_kindOf rfl (by decide +kernel) rfl ⟨Nat.le_of_ble_eq_true rfl, Nat.le_of_ble_eq_true rfl⟩ ⟨Nat.zero_le _, Nat.zero_le _⟩ (Nat.le_of_ble_eq_true rfl) rfl dX5_adds_7 ?_
  refine y_if_lt X 17 ((tk T ((tn T) - (1)) (j)) = -1) dX5_adds_10 (by decide) (kltI (by first | exact gk1 | exact gk2)) (fun c_1 => ?_) (fun c_1 => ?_)
  ·
    refine y_aload_n X dX5_adds_17 0 rfl ?_
    refine y_iconst X (v := (0)) dX5_adds_18 (by decide) ?_
    refine y_iald X (a) dX5_adds_19 (by omega) h0 (j := 0) rfl (by omega) (by omega) (z := (nI (tn T))) g0 ?_
    refine y_bipush X (v := (30)) dX5_adds_20 (by decide) ?_
    refine y_icmp_ne X 31 (¬ ((tn T) = (30))) dX5_adds_22 (by decide) (cNe (nI_eq (a := tn T) (b := 30) (by omega) (by omega))) (fun c_2 => ?_) (fun c_2 => ?_)
    ·
      refine y_aload_n X dX5_adds_31 0 rfl ?_
      refine y_iload_n X dX5_adds_32 1 rfl ?_
      refine y_iload_n X dX5_adds_33 2 rfl ?_
      refine y_iload_n X dX5_adds_34 3 rfl ?_
      refine y_callJ X (av := [.ref (E.2.1 (a)), .int (nI (j)), .int kd, .int d0]) [] 4 (c_X5_begins (a := a) (T := T) (j := j) (kd := kd) (d0 := d0) (by omega) gT gv (by omega) (by omega)) gX5_adds_X5_begins rfl (by decide +kernel) rfl ⟨Nat.le_of_ble_eq_true rfl, Nat.le_of_ble_eq_true rfl⟩ ⟨Nat.zero_le _, Nat.zero_le _⟩ (Nat.le_of_ble_eq_true rfl) rfl dX5_adds_35 (fun v_3 C_4 hp_5 => ?_)
      obtain ⟨gv9, gR, gF⟩ := hp_5
      subst gv9
      exact y_iret X hr dX5_adds_38 rfl (by have ez : aAdd T j kd d0 = ((nI (tn T)), bgn T j kd d0) := (by rw [aAdd, if_pos c_1, if_pos (by omega)]); rw [ez]; exact ⟨rfl, gR, (fun i9 g9 => by rw [gF i9 g9])⟩)
    ·
      have c_2 := Decidable.of_not_not c_2
      refine y_sipush X (v := (-10003)) dX5_adds_25 (by decide) ?_
      refine y_goto X 38 dX5_adds_28 (by decide) ?_
      exact y_iret X hr dX5_adds_38 rfl (by have ez : aAdd T j kd d0 = ((-10003), T) := (by rw [aAdd, if_pos c_1, if_neg (by omega)]); rw [ez]; exact ⟨rfl, gT, fun _ _ => rfl⟩)
  ·
    refine y_sipush X (v := (-10004)) dX5_adds_13 (by decide) ?_
    exact y_iret X hr dX5_adds_16 rfl (by have ez : aAdd T j kd d0 = ((-10004), T) := (by rw [aAdd, if_neg c_1]); rw [ez]; exact ⟨rfl, gT, fun _ _ => rfl⟩)

set_option maxRecDepth 100000 in
set_option maxHeartbeats 4000000 in
theorem c_X5_drops {l : Launch} {E : xE} {C : xC} {a : Nat} {T : Tb} (ga : a < 68) (gT : RM E C a T) (gv : WF T) {j : Nat} (gj : j < 8) : xM E l yX5_drops wsX5_drops 1 25 [.ref (E.2.1 (a)), .int (nI (j))] C (fun v C1 => v = some (.int (aDrop T j).1) ∧ RM E C1 a (aDrop T j).2 ∧ (∀ i : Nat, ¬ i = a → C1 i = C i)) := by
  obtain ⟨zf, h0, g0, g1, gK, gD, gS, gV⟩ := id gT
  obtain ⟨gw1, gw2, gw3, gw4⟩ := id gv.1
  refine xM_ofY (cc := cX5_drops) (maxL := 2) (ret := (some .int)) (by decide) rfl (Nat.le_of_ble_eq_true rfl) ?_
  intro p e s m args below meth c X hr
  refine y_lv [(0, .ref (E.2.1 (a))), (1, .int (nI (j)))] rfl ?_
  have gk2 := WF_k gv (show tn T - 1 < tn T by omega) gj
  refine y_aload_n X dX5_drops_0 0 rfl ?_
  refine y_aload_n X dX5_drops_1 0 rfl ?_
  refine y_iconst X (v := (0)) dX5_drops_2 (by decide) ?_
  refine y_iald X (a) dX5_drops_3 (by omega) h0 (j := 0) rfl (by omega) (by omega) (z := (nI (tn T))) g0 ?_
  refine y_iconst X (v := (1)) dX5_drops_4 (by decide) ?_
  refine y_isub X (z := (nI ((tn T) - (1)))) dX5_drops_5 (pk_sub (a := tn T) (b := 1) (by omega)) ?_
  refine y_iload_n X dX5_drops_6 1 rfl ?_
  refine y_callJr X (av := [.ref (E.2.1 (a)), .int (nI ((tn T) - (1))), .int (nI (j))]) [] 3 (c_X5_kindOf (a := a) (by omega) gT gv (q := (tn T) - (1)) (j := j) (by omega) (by omega)) gX5_drops_X5_kindOf rfl (by decide +kernel) rfl ⟨Nat.le_of_ble_eq_true rfl, Nat.le_of_ble_eq_true rfl⟩ ⟨Nat.zero_le _, Nat.zero_le _⟩ (Nat.le_of_ble_eq_true rfl) rfl dX5_drops_7 ?_
  refine y_if_ge X 17 (¬ (tk T ((tn T) - (1)) (j)) = -1) dX5_drops_10 (by decide) (kgeI (by first | exact gk1 | exact gk2)) (fun c_1 => ?_) (fun c_1 => ?_)
  ·
    refine y_aload_n X dX5_drops_17 0 rfl ?_
    refine y_iconst X (v := (0)) dX5_drops_18 (by decide) ?_
    refine y_iald X (a) dX5_drops_19 (by omega) h0 (j := 0) rfl (by omega) (by omega) (z := (nI (tn T))) g0 ?_
    refine y_bipush X (v := (30)) dX5_drops_20 (by decide) ?_
    refine y_icmp_ne X 31 (¬ ((tn T) = (30))) dX5_drops_22 (by decide) (cNe (nI_eq (a := tn T) (b := 30) (by omega) (by omega))) (fun c_2 => ?_) (fun c_2 => ?_)
    ·
      refine y_aload_n X dX5_drops_31 0 rfl ?_
      refine y_iload_n X dX5_drops_32 1 rfl ?_
      refine y_iconst X (v := (-1)) dX5_drops_33 (by decide) ?_
      refine y_iconst X (v := (0)) dX5_drops_34 (by decide) ?_
      refine y_callJ X (av := [.ref (E.2.1 (a)), .int (nI (j)), .int (-1), .int (0)]) [] 4 (c_X5_begins (a := a) (T := T) (j := j) (kd := (-1)) (d0 := (0)) (by omega) gT gv (by omega) (by omega)) gX5_drops_X5_begins rfl (by decide +kernel) rfl ⟨Nat.le_of_ble_eq_true rfl, Nat.le_of_ble_eq_true rfl⟩ ⟨Nat.zero_le _, Nat.zero_le _⟩ (Nat.le_of_ble_eq_true rfl) rfl dX5_drops_35 (fun v_3 C_4 hp_5 => ?_)
      obtain ⟨gv9, gR, gF⟩ := hp_5
      subst gv9
      exact y_iret X hr dX5_drops_38 rfl (by have ez : aDrop T j = ((nI (tn T)), bgn T j (-1) 0) := (by rw [aDrop, if_pos c_1, if_pos (by omega)]); rw [ez]; exact ⟨rfl, gR, (fun i9 g9 => by rw [gF i9 g9])⟩)
    ·
      have c_2 := Decidable.of_not_not c_2
      refine y_sipush X (v := (-10003)) dX5_drops_25 (by decide) ?_
      refine y_goto X 38 dX5_drops_28 (by decide) ?_
      exact y_iret X hr dX5_drops_38 rfl (by have ez : aDrop T j = ((-10003), T) := (by rw [aDrop, if_pos c_1, if_neg (by omega)]); rw [ez]; exact ⟨rfl, gT, fun _ _ => rfl⟩)
  ·
    have c_1 := Decidable.of_not_not c_1
    refine y_sipush X (v := (-10001)) dX5_drops_13 (by decide) ?_
    exact y_iret X hr dX5_drops_16 rfl (by have ez : aDrop T j = ((-10001), T) := (by rw [aDrop, if_neg (fun z => z (by first | exact c_1 | exact Decidable.of_not_not c_1))]); rw [ez]; exact ⟨rfl, gT, fun _ _ => rfl⟩)

set_option maxRecDepth 100000 in
set_option maxHeartbeats 4000000 in
theorem c_X5_turns {l : Launch} {E : xE} {C : xC} {a : Nat} {T : Tb} (ga : a < 68) (gT : RM E C a T) (gv : WF T) {j : Nat} {kd : Int32} (gj : j < 8) (gkd : xin kd 3) : xM E l yX5_turns wsX5_turns 1 25 [.ref (E.2.1 (a)), .int (nI (j)), .int kd] C (fun v C1 => v = some (.int (aKind T j kd).1) ∧ RM E C1 a (aKind T j kd).2 ∧ (∀ i : Nat, ¬ i = a → C1 i = C i)) := by
  obtain ⟨zf, h0, g0, g1, gK, gD, gS, gV⟩ := id gT
  obtain ⟨gw1, gw2, gw3, gw4⟩ := id gv.1
  refine xM_ofY (cc := cX5_turns) (maxL := 4) (ret := (some .int)) (by decide) rfl (Nat.le_of_ble_eq_true rfl) ?_
  intro p e s m args below meth c X hr
  refine y_lv [(0, .ref (E.2.1 (a))), (1, .int (nI (j))), (2, .int kd)] rfl ?_
  have gk2 := WF_k gv (show tn T - 1 < tn T by omega) gj
  refine y_aload_n X dX5_turns_0 0 rfl ?_
  refine y_iconst X (v := (0)) dX5_turns_1 (by decide) ?_
  refine y_iald X (a) dX5_turns_2 (by omega) h0 (j := 0) rfl (by omega) (by omega) (z := (nI (tn T))) g0 ?_
  refine y_iconst X (v := (1)) dX5_turns_3 (by decide) ?_
  refine y_isub X (z := (nI ((tn T) - (1)))) dX5_turns_4 (pk_sub (a := tn T) (b := 1) (by omega)) ?_
  refine y_istore_n X [(3, .int (nI ((tn T) - (1)))), (0, .ref (E.2.1 (a))), (1, .int (nI (j))), (2, .int kd)] dX5_turns_5 rfl (by decide) rfl ?_
  refine y_aload_n X dX5_turns_6 1 rfl ?_
  refine y_iload_n X dX5_turns_7 0 rfl ?_
  refine y_iload_n X dX5_turns_8 2 rfl ?_
  refine y_callJr X (av := [.ref (E.2.1 (a)), .int (nI ((tn T) - (1))), .int (nI (j))]) [] 3 (c_X5_kindOf (a := a) (by omega) gT gv (q := (tn T) - (1)) (j := j) (by omega) (by omega)) gX5_turns_X5_kindOf rfl (by decide +kernel) rfl ⟨Nat.le_of_ble_eq_true rfl, Nat.le_of_ble_eq_true rfl⟩ ⟨Nat.zero_le _, Nat.zero_le _⟩ (Nat.le_of_ble_eq_true rfl) rfl dX5_turns_9 ?_
  refine y_if_ge X 19 (¬ (tk T ((tn T) - (1)) (j)) = -1) dX5_turns_12 (by decide) (kgeI (by first | exact gk1 | exact gk2)) (fun c_1 => ?_) (fun c_1 => ?_)
  ·
    refine y_aload_n X dX5_turns_19 1 rfl ?_
    refine y_iconst X (v := (0)) dX5_turns_20 (by decide) ?_
    refine y_iald X (a) dX5_turns_21 (by omega) h0 (j := 0) rfl (by omega) (by omega) (z := (nI (tn T))) g0 ?_
    refine y_bipush X (v := (30)) dX5_turns_22 (by decide) ?_
    refine y_icmp_ne X 31 (¬ ((tn T) = (30))) dX5_turns_24 (by decide) (cNe (nI_eq (a := tn T) (b := 30) (by omega) (by omega))) (fun c_2 => ?_) (fun c_2 => ?_)
    ·
      refine y_aload_n X dX5_turns_31 1 rfl ?_
      refine y_iload_n X dX5_turns_32 0 rfl ?_
      refine y_iload_n X dX5_turns_33 2 rfl ?_
      refine y_callJr X (av := [.ref (E.2.1 (a)), .int (nI ((tn T) - (1))), .int (nI (j))]) [] 3 (c_X5_kindOf (a := a) (by omega) gT gv (q := (tn T) - (1)) (j := j) (by omega) (by omega)) gX5_turns_X5_kindOf rfl (by decide +kernel) rfl ⟨Nat.le_of_ble_eq_true rfl, Nat.le_of_ble_eq_true rfl⟩ ⟨Nat.zero_le _, Nat.zero_le _⟩ (Nat.le_of_ble_eq_true rfl) rfl dX5_turns_34 ?_
      refine y_iload_n X dX5_turns_37 3 rfl ?_
      refine y_icmp_ne X 47 (¬ ((tk T ((tn T) - (1)) (j)) = kd)) dX5_turns_38 (by decide) Iff.rfl (fun c_3 => ?_) (fun c_3 => ?_)
      ·
        refine y_aload_n X dX5_turns_47 1 rfl ?_
        refine y_iload_n X dX5_turns_48 2 rfl ?_
        refine y_iload_n X dX5_turns_49 3 rfl ?_
        refine y_aload_n X dX5_turns_50 1 rfl ?_
        refine y_iload_n X dX5_turns_51 0 rfl ?_
        refine y_iload_n X dX5_turns_52 2 rfl ?_
        refine y_callJr X (av := [.ref (E.2.1 (a)), .int (nI ((tn T) - (1))), .int (nI (j))]) [.int kd, .int (nI (j)), .ref (E.2.1 (a))] 3 (c_X5_standard (a := a) (by omega) gT gv (q := (tn T) - (1)) (j := j) (by omega) (by omega)) gX5_turns_X5_standard rfl (by decide +kernel) rfl ⟨Nat.le_of_ble_eq_true rfl, Nat.le_of_ble_eq_true rfl⟩ ⟨Nat.zero_le _, Nat.zero_le _⟩ (Nat.le_of_ble_eq_true rfl) rfl dX5_turns_53 ?_
        refine y_iload_n X dX5_turns_56 3 rfl ?_
        refine y_callJr X (av := [.int (td T ((tn T) - (1)) (j)), .int kd]) [.int kd, .int (nI (j)), .ref (E.2.1 (a))] 2 (cast_std gv (show tn T - 1 < tn T by omega) gj c_1 gkd) gX5_turns_X5_cast rfl (by decide +kernel) rfl ⟨Nat.le_of_ble_eq_true rfl, Nat.le_of_ble_eq_true rfl⟩ ⟨Nat.zero_le _, Nat.zero_le _⟩ (Nat.le_of_ble_eq_true rfl) rfl dX5_turns_57 ?_
        refine y_callJ X (av := [.ref (E.2.1 (a)), .int (nI (j)), .int kd, .int (cstC kd (td T (tn T - 1) j))]) [] 4 (c_X5_begins (a := a) (T := T) (j := j) (kd := kd) (d0 := (cstC kd (td T (tn T - 1) j))) (by omega) gT gv (by omega) (by omega)) gX5_turns_X5_begins rfl (by decide +kernel) rfl ⟨Nat.le_of_ble_eq_true rfl, Nat.le_of_ble_eq_true rfl⟩ ⟨Nat.zero_le _, Nat.zero_le _⟩ (Nat.le_of_ble_eq_true rfl) rfl dX5_turns_60 (fun v_4 C_5 hp_6 => ?_)
        obtain ⟨gv9, gR, gF⟩ := hp_6
        subst gv9
        exact y_iret X hr dX5_turns_63 rfl (by have ez : aKind T j kd = ((nI (tn T)), bgn T j kd (cstC kd (td T (tn T - 1) j))) := (by rw [aKind, if_pos c_1, if_pos (by omega), if_neg c_3]); rw [ez]; exact ⟨rfl, gR, (fun i9 g9 => by rw [gF i9 g9])⟩)
      ·
        have c_3 := Decidable.of_not_not c_3
        refine y_sipush X (v := (-10005)) dX5_turns_41 (by decide) ?_
        refine y_goto X 63 dX5_turns_44 (by decide) ?_
        exact y_iret X hr dX5_turns_63 rfl (by have ez : aKind T j kd = ((-10005), T) := (by rw [aKind, if_pos c_1, if_pos (by omega), if_pos c_3]); rw [ez]; exact ⟨rfl, gT, fun _ _ => rfl⟩)
    ·
      have c_2 := Decidable.of_not_not c_2
      refine y_sipush X (v := (-10003)) dX5_turns_27 (by decide) ?_
      exact y_iret X hr dX5_turns_30 rfl (by have ez : aKind T j kd = ((-10003), T) := (by rw [aKind, if_pos c_1, if_neg (by omega)]); rw [ez]; exact ⟨rfl, gT, fun _ _ => rfl⟩)
  ·
    have c_1 := Decidable.of_not_not c_1
    refine y_sipush X (v := (-10001)) dX5_turns_15 (by decide) ?_
    exact y_iret X hr dX5_turns_18 rfl (by have ez : aKind T j kd = ((-10001), T) := (by rw [aKind, if_neg (fun z => z (by first | exact c_1 | exact Decidable.of_not_not c_1))]); rw [ez]; exact ⟨rfl, gT, fun _ _ => rfl⟩)

set_option maxRecDepth 100000 in
set_option maxHeartbeats 4000000 in
theorem c_X5_writes {l : Launch} {E : xE} {C : xC} {a : Nat} {T : Tb} (ga : a < 68) (gT : RM E C a T) (gv : WF T) : xM E l yX5_writes wsX5_writes 1 22 [.ref (E.2.1 (a))] C (fun v C1 => v = some (.int (sRow T).1) ∧ RM E C1 a (sRow T).2 ∧ (∀ i : Nat, ¬ i = a → C1 i = C i)) := by
  obtain ⟨zf, h0, g0, g1, gK, gD, gS, gV⟩ := id gT
  obtain ⟨gw1, gw2, gw3, gw4⟩ := id gv.1
  refine xM_ofY (cc := cX5_writes) (maxL := 3) (ret := (some .int)) (by decide) rfl (Nat.le_of_ble_eq_true rfl) ?_
  intro p e s m args below meth c X hr
  refine y_lv [(0, .ref (E.2.1 (a)))] rfl ?_
  refine y_aload_n X dX5_writes_0 0 rfl ?_
  refine y_iconst X (v := (1)) dX5_writes_1 (by decide) ?_
  refine y_iald X (a) dX5_writes_2 (by omega) h0 (j := 1) rfl (by omega) (by omega) (z := (nI (tr T))) g1 ?_
  refine y_bipush X (v := (24)) dX5_writes_3 (by decide) ?_
  refine y_icmp_ne X 12 (¬ ((tr T) = (24))) dX5_writes_5 (by decide) (cNe (nI_eq (a := tr T) (b := 24) (by omega) (by omega))) (fun c_1 => ?_) (fun c_1 => ?_)
  ·
    refine y_sipush X (v := (482)) dX5_writes_12 (by decide) ?_
    refine y_bipush X (v := (9)) dX5_writes_15 (by decide) ?_
    refine y_aload_n X dX5_writes_17 0 rfl ?_
    refine y_iconst X (v := (1)) dX5_writes_18 (by decide) ?_
    refine y_iald X (a) dX5_writes_19 (by omega) h0 (j := 1) rfl (by omega) (by omega) (z := (nI (tr T))) g1 ?_
    refine y_imul X (z := (nI ((9) * (tr T)))) dX5_writes_20 (pk_mul (9) (tr T)) ?_
    refine y_iadd X (z := (nI (482 + (9) * (tr T)))) dX5_writes_21 (nI_add (482) ((9) * (tr T))) ?_
    refine y_istore_n X [(1, .int (nI (482 + (9) * (tr T)))), (0, .ref (E.2.1 (a)))] dX5_writes_22 rfl (by decide) rfl ?_
    refine y_aload_n X dX5_writes_23 1 rfl ?_
    refine y_iload_n X dX5_writes_24 0 rfl ?_
    refine y_aload_n X dX5_writes_25 1 rfl ?_
    refine y_iconst X (v := (0)) dX5_writes_26 (by decide) ?_
    refine y_iald X (a) dX5_writes_27 (by omega) h0 (j := 0) rfl (by omega) (by omega) (z := (nI (tn T))) g0 ?_
    refine y_iconst X (v := (1)) dX5_writes_28 (by decide) ?_
    refine y_isub X (z := (nI ((tn T) - (1)))) dX5_writes_29 (pk_sub (a := tn T) (b := 1) (by omega)) ?_
    refine y_iast X (a) dX5_writes_30 (by omega) h0 (j := 482 + (9) * (tr T)) rfl (by omega) (by omega) ?_
    refine y_mem (va_up C (a) (.inl (E.2.2.1 1, 698, .inl (upd zf (482 + (9) * (tr T)) (nI ((tn T) - (1))))))) rfl (fun C_2 eC_3 => ?_)
    have h_4 : C_2 (a) = .inl (E.2.2.1 1, 698, .inl (upd zf (482 + (9) * (tr T)) (nI ((tn T) - (1))))) := by rw [eC_3, va_up, if_pos rfl]
    refine y_iconst X (v := (0)) dX5_writes_31 (by decide) ?_
    refine y_istore_n X [(2, .int (0)), (1, .int (nI (482 + (9) * (tr T)))), (0, .ref (E.2.1 (a)))] dX5_writes_32 rfl (by decide) rfl ?_
    have L_33 : ∀ (n : Nat) (C2 : xC) (zf2 : Nat → Int32) (n9 : Nat), 8 - n9 < n → (C2 (a) = .inl (E.2.2.1 1, 698, .inl zf2)) → ((∀ i9 : Nat, ¬ i9 = a → C2 i9 = C i9)) → (∀ z : Nat, z < 482 + 9 * tr T → zf2 z = zf z) → (zf2 (482 + 9 * tr T) = nI (tn T - 1)) → (∀ z : Nat, z < n9 → ¬ tk T (tn T - 1) z = -1 → zf2 (482 + 9 * tr T + 1 + z) = td T (tn T - 1) z) → (n9 ≤ 8) → xY p l e ({ frames := 1, cells := 0, slots := 0, locals := 22 } : Room) s m args below meth c E (xA E) 3 0 0 (MQ below (xQ E (fun v C1 => v = some (.int (sRow T).1) ∧ RM E C1 a (sRow T).2 ∧ (∀ i : Nat, ¬ i = a → C1 i = C i))) args s 0 0 (xA E)) C2 33 [(0, .ref (E.2.1 (a))), (1, .int (nI (482 + (9) * (tr T)))), (2, .int (nI (n9)))] [] := by
      intro n33
      induction n33 with
      | zero => intro _ _ _ hm33; exact absurd hm33 (Nat.not_lt_zero _)
      | succ n33 ih33 =>
        intro C2 zf2 n9 hm33 k0 gF2 gA gE gB gn
        refine y_iload_n X dX5_writes_33 2 rfl ?_
        refine y_bipush X (v := (8)) dX5_writes_34 (by decide) ?_
        refine y_icmp_ge X 79 ((8) ≤ (n9)) dX5_writes_36 (by decide) (nI_leI (a := 8) (b := n9) (by omega) (by omega)) (fun c_5 => ?_) (fun c_5 => ?_)
        ·
          refine y_aload_n X dX5_writes_79 0 rfl ?_
          refine y_iconst X (v := (1)) dX5_writes_80 (by decide) ?_
          refine y_dup2 X dX5_writes_81 rfl rfl ?_
          refine y_iald X (a) dX5_writes_82 (by omega) k0 (j := 1) rfl (by omega) (by omega) (z := (nI (tr T))) ((gA 1 (by omega)).trans g1) ?_
          refine y_iconst X (v := (1)) dX5_writes_83 (by decide) ?_
          refine y_iadd X (z := (nI (tr T + 1))) dX5_writes_84 (nI_add (tr T) (1)) ?_
          refine y_iast X (a) dX5_writes_85 (by omega) k0 (j := 1) rfl (by omega) (by omega) ?_
          refine y_mem (va_up C2 (a) (.inl (E.2.2.1 1, 698, .inl (upd zf2 (1) (nI (tr T + 1)))))) rfl (fun C_6 eC_7 => ?_)
          have h_8 : C_6 (a) = .inl (E.2.2.1 1, 698, .inl (upd zf2 (1) (nI (tr T + 1)))) := by rw [eC_7, va_up, if_pos rfl]
          refine y_aload_n X dX5_writes_86 0 rfl ?_
          refine y_iconst X (v := (1)) dX5_writes_87 (by decide) ?_
          refine y_iald X (a) dX5_writes_88 (by omega) h_8 (j := 1) rfl (by omega) (by omega) (z := (nI (tr T + 1))) pk_us ?_
          refine y_iconst X (v := (1)) dX5_writes_89 (by decide) ?_
          refine y_isub X (z := (nI ((tr T + 1) - (1)))) dX5_writes_90 (pk_sub (a := tr T + 1) (b := 1) (by omega)) ?_
          exact y_iret X hr dX5_writes_91 rfl (by have ez : sRow T = (nI (tr T), wrt T) := (by rw [sRow, if_pos (by omega)]); rw [ez]; exact ⟨rfl, ⟨_, h_8, wrtM ⟨g0, g1, gK, gD, gS, gV⟩ gv.1 (by omega) pk_us (fun z q1 q2 => by rw [pk_un q1]; exact gA z q2) (by rw [pk_un (by omega)]; exact gE) (fun z q1 q2 => by rw [pk_un (by omega)]; exact gB z (by omega) q2)⟩, (fun i9 g9 => by rw [eC_7, va_up, if_neg (by omega)]; rw [gF2 i9 g9])⟩)
        ·
          have gT2 : RM E C2 a T := ⟨zf2, k0, RTm_pre gv.1 ⟨g0, g1, gK, gD, gS, gV⟩ (fun z q1 => gA z q1)⟩
          have gk2 := WF_k gv (show tn T - 1 < tn T by omega) (show n9 < 8 by omega)
          refine y_aload_n X dX5_writes_39 0 rfl ?_
          refine y_iload_n X dX5_writes_40 1 rfl ?_
          refine y_iconst X (v := (1)) dX5_writes_41 (by decide) ?_
          refine y_iadd X (z := (nI (482 + (9) * (tr T) + 1))) dX5_writes_42 (nI_add (482 + (9) * (tr T)) (1)) ?_
          refine y_iload_n X dX5_writes_43 2 rfl ?_
          refine y_iadd X (z := (nI (482 + (9) * (tr T) + 1 + n9))) dX5_writes_44 (nI_add (482 + (9) * (tr T) + 1) (n9)) ?_
          refine y_aload_n X dX5_writes_45 0 rfl ?_
          refine y_aload_n X dX5_writes_46 0 rfl ?_
          refine y_iconst X (v := (0)) dX5_writes_47 (by decide) ?_
          refine y_iald X (a) dX5_writes_48 (by omega) k0 (j := 0) rfl (by omega) (by omega) (z := (nI (tn T))) ((gA 0 (by omega)).trans g0) ?_
          refine y_iconst X (v := (1)) dX5_writes_49 (by decide) ?_
          refine y_isub X (z := (nI ((tn T) - (1)))) dX5_writes_50 (pk_sub (a := tn T) (b := 1) (by omega)) ?_
          refine y_iload_n X dX5_writes_51 2 rfl ?_
          refine y_callJr X (av := [.ref (E.2.1 (a)), .int (nI ((tn T) - (1))), .int (nI (n9))]) [.int (nI (482 + (9) * (tr T) + 1 + n9)), .ref (E.2.1 (a))] 3 (c_X5_kindOf (a := a) (by omega) gT2 gv (q := (tn T) - (1)) (j := n9) (by omega) (by omega)) gX5_writes_X5_kindOf rfl (by decide +kernel) rfl ⟨Nat.le_of_ble_eq_true rfl, Nat.le_of_ble_eq_true rfl⟩ ⟨Nat.zero_le _, Nat.zero_le _⟩ (Nat.le_of_ble_eq_true rfl) rfl dX5_writes_52 ?_
          refine y_if_ge X 62 (¬ (tk T ((tn T) - (1)) (n9)) = -1) dX5_writes_55 (by decide) (kgeI (by first | exact gk1 | exact gk2)) (fun c_9 => ?_) (fun c_9 => ?_)
          ·
            refine y_aload_n X dX5_writes_62 0 rfl ?_
            refine y_aload_n X dX5_writes_63 0 rfl ?_
            refine y_iconst X (v := (0)) dX5_writes_64 (by decide) ?_
            refine y_iald X (a) dX5_writes_65 (by omega) k0 (j := 0) rfl (by omega) (by omega) (z := (nI (tn T))) ((gA 0 (by omega)).trans g0) ?_
            refine y_iconst X (v := (1)) dX5_writes_66 (by decide) ?_
            refine y_isub X (z := (nI ((tn T) - (1)))) dX5_writes_67 (pk_sub (a := tn T) (b := 1) (by omega)) ?_
            refine y_iload_n X dX5_writes_68 2 rfl ?_
            refine y_callJr X (av := [.ref (E.2.1 (a)), .int (nI ((tn T) - (1))), .int (nI (n9))]) [.int (nI (482 + (9) * (tr T) + 1 + n9)), .ref (E.2.1 (a))] 3 (c_X5_standard (a := a) (by omega) gT2 gv (q := (tn T) - (1)) (j := n9) (by omega) (by omega)) gX5_writes_X5_standard rfl (by decide +kernel) rfl ⟨Nat.le_of_ble_eq_true rfl, Nat.le_of_ble_eq_true rfl⟩ ⟨Nat.zero_le _, Nat.zero_le _⟩ (Nat.le_of_ble_eq_true rfl) rfl dX5_writes_69 ?_
            refine y_iast X (a) dX5_writes_72 (by omega) k0 (j := 482 + (9) * (tr T) + 1 + n9) rfl (by omega) (by omega) ?_
            refine y_mem (va_up C2 (a) (.inl (E.2.2.1 1, 698, .inl (upd zf2 (482 + (9) * (tr T) + 1 + n9) (td T ((tn T) - (1)) (n9)))))) rfl (fun C_10 eC_11 => ?_)
            have h_12 : C_10 (a) = .inl (E.2.2.1 1, 698, .inl (upd zf2 (482 + (9) * (tr T) + 1 + n9) (td T ((tn T) - (1)) (n9)))) := by rw [eC_11, va_up, if_pos rfl]
            refine y_iinc X [(2, .int (nI (n9 + 1))), (0, .ref (E.2.1 (a))), (1, .int (nI (482 + (9) * (tr T))))] dX5_writes_73 2 rfl (nI_1 _) (by decide) rfl ?_
            refine y_goto X 33 dX5_writes_76 (by decide) ?_
            refine y_pick [1, 2, 0] [(0, .ref (E.2.1 (a))), (1, .int (nI (482 + (9) * (tr T)))), (2, .int (nI (n9 + 1)))] rfl ?_
            exact ih33 (C_10) ((upd zf2 (482 + (9) * (tr T) + 1 + n9) (td T ((tn T) - (1)) (n9)))) (n9 + 1) (by omega) h_12 (fun i9 g9 => by rw [eC_11, va_up, if_neg (by omega)]; rw [gF2 i9 g9]) (fun z q1 => by rw [pk_un (by omega)]; exact gA z q1) (by rw [pk_un (by omega)]; exact gE) (fun z q1 q2 => by rcases Nat.lt_or_ge z n9 with q3 | q3; rw [pk_un (by omega)]; exact gB z q3 q2; rw [show z = n9 by omega]; exact pk_us) (by omega)
          ·
            have c_9 := Decidable.of_not_not c_9
            refine y_iconst X (v := (0)) dX5_writes_58 (by decide) ?_
            refine y_goto X 72 dX5_writes_59 (by decide) ?_
            refine y_iast X (a) dX5_writes_72 (by omega) k0 (j := 482 + (9) * (tr T) + 1 + n9) rfl (by omega) (by omega) ?_
            refine y_mem (va_up C2 (a) (.inl (E.2.2.1 1, 698, .inl (upd zf2 (482 + (9) * (tr T) + 1 + n9) (0))))) rfl (fun C_13 eC_14 => ?_)
            have h_15 : C_13 (a) = .inl (E.2.2.1 1, 698, .inl (upd zf2 (482 + (9) * (tr T) + 1 + n9) (0))) := by rw [eC_14, va_up, if_pos rfl]
            refine y_iinc X [(2, .int (nI (n9 + 1))), (0, .ref (E.2.1 (a))), (1, .int (nI (482 + (9) * (tr T))))] dX5_writes_73 2 rfl (nI_1 _) (by decide) rfl ?_
            refine y_goto X 33 dX5_writes_76 (by decide) ?_
            refine y_pick [1, 2, 0] [(0, .ref (E.2.1 (a))), (1, .int (nI (482 + (9) * (tr T)))), (2, .int (nI (n9 + 1)))] rfl ?_
            exact ih33 (C_13) ((upd zf2 (482 + (9) * (tr T) + 1 + n9) (0))) (n9 + 1) (by omega) h_15 (fun i9 g9 => by rw [eC_14, va_up, if_neg (by omega)]; rw [gF2 i9 g9]) (fun z q1 => by rw [pk_un (by omega)]; exact gA z q1) (by rw [pk_un (by omega)]; exact gE) (fun z q1 q2 => by rcases Nat.lt_or_ge z n9 with q3 | q3; rw [pk_un (by omega)]; exact gB z q3 q2; rw [show z = n9 by omega]; exact absurd (by rw [show z = n9 by omega]; exact c_9) q2) (by omega)
    refine y_pick [2, 1, 0] [(0, .ref (E.2.1 (a))), (1, .int (nI (482 + (9) * (tr T)))), (2, .int (0))] rfl ?_
    exact L_33 _ (C_2) ((upd zf (482 + (9) * (tr T)) (nI ((tn T) - (1))))) (0) (Nat.lt_succ_self _) h_4 (fun i9 g9 => by rw [eC_3, va_up, if_neg (by omega)]) (fun z q1 => pk_un (by omega)) pk_us (fun _ q1 _ => absurd q1 (Nat.not_lt_zero _)) (by omega)
  ·
    have c_1 := Decidable.of_not_not c_1
    refine y_sipush X (v := (-10003)) dX5_writes_8 (by decide) ?_
    exact y_iret X hr dX5_writes_11 rfl (by have ez : sRow T = ((-10003), T) := (by rw [sRow, if_neg (by omega)]); rw [ez]; exact ⟨rfl, gT, fun _ _ => rfl⟩)

set_option maxRecDepth 100000 in
set_option maxHeartbeats 4000000 in
theorem c_X5_sets {l : Launch} {E : xE} {C : xC} {a : Nat} {T : Tb} (ga : a < 68) (gT : RM E C a T) (gv : WF T) {x y v0 : Int32} : xM E l yX5_sets wsX5_sets 2 44 [.ref (E.2.1 (a)), .int x, .int y, .int v0] C (fun v C1 => v = some (.int (sSet T x y v0).1) ∧ RM E C1 a (sSet T x y v0).2 ∧ (∀ i : Nat, ¬ i = a → C1 i = C i)) := by
  obtain ⟨zf, h0, g0, g1, gK, gD, gS, gV⟩ := id gT
  obtain ⟨gw1, gw2, gw3, gw4⟩ := id gv.1
  refine xM_ofY (cc := cX5_sets) (maxL := 6) (ret := (some .int)) (by decide) rfl (Nat.le_of_ble_eq_true rfl) ?_
  intro p e s m args below meth c X hr
  refine y_lv [(0, .ref (E.2.1 (a))), (1, .int x), (2, .int y), (3, .int v0)] rfl ?_
  refine y_aload_n X dX5_sets_0 0 rfl ?_
  refine y_iload_n X dX5_sets_1 1 rfl ?_
  refine y_callJr X (av := [.ref (E.2.1 (a)), .int x]) [] 2 (c_X5_isRow (a := a) (by omega) gT gv (x := x)) gX5_sets_X5_isRow rfl (by decide +kernel) rfl ⟨Nat.le_of_ble_eq_true rfl, Nat.le_of_ble_eq_true rfl⟩ ⟨Nat.zero_le _, Nat.zero_le _⟩ (Nat.le_of_ble_eq_true rfl) rfl dX5_sets_2 ?_
  refine y_if_eq X 24 (¬ (xin x (tr T))) dX5_sets_5 (by decide) bI_eq (fun c_1 => ?_) (fun c_1 => ?_)
  ·
    refine y_iconst X (v := (-1)) dX5_sets_24 (by decide) ?_
    refine y_istore X [(4, .int (-1)), (0, .ref (E.2.1 (a))), (1, .int x), (2, .int y), (3, .int v0)] dX5_sets_25 (by decide) rfl ?_
    refine y_iload X dX5_sets_27 0 rfl ?_
    refine y_if_ge X 36 ((0 : Int32) ≤ -1) dX5_sets_29 (by decide) Iff.rfl (fun c_2 => ?_) (fun c_2 => ?_)
    ·
      exact absurd c_2 (by decide)
    ·
      refine y_sipush X (v := (-10001)) dX5_sets_32 (by decide) ?_
      exact y_iret X hr dX5_sets_35 rfl (by have ez : sSet T x y v0 = ((-10001), T) := (by rw [sSet, if_neg (fun z => c_1 z.1.1)]); rw [ez]; exact ⟨rfl, gT, fun _ _ => rfl⟩)
  ·
    have c_1 := Decidable.of_not_not c_1
    obtain ⟨i, gi, gei⟩ := xin_of c_1 (by omega)
    subst gei
    refine y_iload_n X dX5_sets_8 2 rfl ?_
    refine y_callJr X (av := [.int y]) [] 1 (c_X5_isName (x := y)) gX5_sets_X5_isName rfl (by decide +kernel) rfl ⟨Nat.le_of_ble_eq_true rfl, Nat.le_of_ble_eq_true rfl⟩ ⟨Nat.zero_le _, Nat.zero_le _⟩ (Nat.le_of_ble_eq_true rfl) rfl dX5_sets_9 ?_
    refine y_if_eq X 24 (¬ (xin y 8)) dX5_sets_12 (by decide) bI_eq (fun c_3 => ?_) (fun c_3 => ?_)
    ·
      refine y_iconst X (v := (-1)) dX5_sets_24 (by decide) ?_
      refine y_istore X [(4, .int (-1)), (0, .ref (E.2.1 (a))), (1, .int (nI (i))), (2, .int y), (3, .int v0)] dX5_sets_25 (by decide) rfl ?_
      refine y_iload X dX5_sets_27 0 rfl ?_
      refine y_if_ge X 36 ((0 : Int32) ≤ -1) dX5_sets_29 (by decide) Iff.rfl (fun c_4 => ?_) (fun c_4 => ?_)
      ·
        exact absurd c_4 (by decide)
      ·
        refine y_sipush X (v := (-10001)) dX5_sets_32 (by decide) ?_
        exact y_iret X hr dX5_sets_35 rfl (by have ez : sSet T (nI i) y v0 = ((-10001), T) := (by rw [sSet, if_neg (fun z => c_3 z.1.2)]); rw [ez]; exact ⟨rfl, gT, fun _ _ => rfl⟩)
    ·
      have c_3 := Decidable.of_not_not c_3
      obtain ⟨j, gj, gej⟩ := xin_of c_3 (by decide)
      subst gej
      have gk1 := WF_k gv (gw4 i gi) gj
      refine y_aload_n X dX5_sets_15 0 rfl ?_
      refine y_iload_n X dX5_sets_16 1 rfl ?_
      refine y_iload_n X dX5_sets_17 2 rfl ?_
      refine y_callJr X (av := [.ref (E.2.1 (a)), .int (nI (i)), .int (nI (j))]) [] 3 (c_X5_kindIn (a := a) (by omega) gT gv (i := i) (j := j) (by omega) (by omega)) gX5_sets_X5_kindIn rfl (by decide +kernel) rfl ⟨Nat.le_of_ble_eq_true rfl, Nat.le_of_ble_eq_true rfl⟩ ⟨Nat.zero_le _, Nat.zero_le _⟩ (Nat.le_of_ble_eq_true rfl) rfl dX5_sets_18 ?_
      refine y_goto X 25 dX5_sets_21 (by decide) ?_
      refine y_istore X [(4, .int (tk T (ts T (i)) (j))), (0, .ref (E.2.1 (a))), (1, .int (nI (i))), (2, .int (nI (j))), (3, .int v0)] dX5_sets_25 (by decide) rfl ?_
      refine y_iload X dX5_sets_27 0 rfl ?_
      refine y_if_ge X 36 (¬ (tk T (ts T (i)) (j)) = -1) dX5_sets_29 (by decide) (kgeI gk1) (fun c_5 => ?_) (fun c_5 => ?_)
      ·
        refine y_iload_n X dX5_sets_36 4 rfl ?_
        refine y_iload X dX5_sets_37 0 rfl ?_
        refine y_callJr X (av := [.int (tk T (ts T (i)) (j))]) [.int v0] 1 (c_X5_least (x := (tk T (ts T (i)) (j)))) gX5_sets_X5_least rfl (by decide +kernel) rfl ⟨Nat.le_of_ble_eq_true rfl, Nat.le_of_ble_eq_true rfl⟩ ⟨Nat.zero_le _, Nat.zero_le _⟩ (Nat.le_of_ble_eq_true rfl) rfl dX5_sets_39 ?_
        refine y_iload X dX5_sets_42 0 rfl ?_
        refine y_callJr X (av := [.int (tk T (ts T (i)) (j))]) [.int (loK (tk T (ts T (i)) (j))), .int v0] 1 (c_X5_most (x := (tk T (ts T (i)) (j)))) gX5_sets_X5_most rfl (by decide +kernel) rfl ⟨Nat.le_of_ble_eq_true rfl, Nat.le_of_ble_eq_true rfl⟩ ⟨Nat.zero_le _, Nat.zero_le _⟩ (Nat.le_of_ble_eq_true rfl) rfl dX5_sets_44 ?_
        refine y_callJr X (av := [.int v0, .int (loK (tk T (ts T (i)) (j))), .int (hiK (tk T (ts T (i)) (j)))]) [] 3 (c_X5_in (x := v0) (y := (loK (tk T (ts T (i)) (j)))) (z := (hiK (tk T (ts T (i)) (j)))) rfl rfl rfl) gX5_sets_X5_in rfl (by decide +kernel) rfl ⟨Nat.le_of_ble_eq_true rfl, Nat.le_of_ble_eq_true rfl⟩ ⟨Nat.zero_le _, Nat.zero_le _⟩ (Nat.le_of_ble_eq_true rfl) rfl dX5_sets_47 ?_
        refine y_if_ne X 57 (okv v0 (tk T (ts T i) j)) dX5_sets_50 (by decide) bI_ne (fun c_6 => ?_) (fun c_6 => ?_)
        ·
          refine y_aload_n X dX5_sets_57 1 rfl ?_
          refine y_iload_n X dX5_sets_58 2 rfl ?_
          refine y_iload_n X dX5_sets_59 3 rfl ?_
          refine y_callJr X (av := [.ref (E.2.1 (a)), .int (nI (i)), .int (nI (j))]) [] 3 (c_X5_valueOf (a := a) (by omega) gT gv (i := i) (j := j) (by omega) (by omega) (by assumption)) gX5_sets_X5_valueOf rfl (by decide +kernel) rfl ⟨Nat.le_of_ble_eq_true rfl, Nat.le_of_ble_eq_true rfl⟩ ⟨Nat.zero_le _, Nat.zero_le _⟩ (Nat.le_of_ble_eq_true rfl) rfl dX5_sets_60 ?_
          refine y_istore X [(5, .int (tv T (i) (j))), (4, .int (tk T (ts T (i)) (j))), (0, .ref (E.2.1 (a))), (1, .int (nI (i))), (2, .int (nI (j))), (3, .int v0)] dX5_sets_63 (by decide) rfl ?_
          refine y_aload_n X dX5_sets_65 2 rfl ?_
          refine y_sipush X (v := (482)) dX5_sets_66 (by decide) ?_
          refine y_bipush X (v := (9)) dX5_sets_69 (by decide) ?_
          refine y_iload_n X dX5_sets_71 3 rfl ?_
          refine y_imul X (z := (nI ((9) * (i)))) dX5_sets_72 (pk_mul (9) (i)) ?_
          refine y_iadd X (z := (nI (482 + (9) * (i)))) dX5_sets_73 (nI_add (482) ((9) * (i))) ?_
          refine y_iconst X (v := (1)) dX5_sets_74 (by decide) ?_
          refine y_iadd X (z := (nI (482 + (9) * (i) + 1))) dX5_sets_75 (nI_add (482 + (9) * (i)) (1)) ?_
          refine y_iload_n X dX5_sets_76 4 rfl ?_
          refine y_iadd X (z := (nI (482 + (9) * (i) + 1 + j))) dX5_sets_77 (nI_add (482 + (9) * (i) + 1) (j)) ?_
          refine y_iload_n X dX5_sets_78 5 rfl ?_
          refine y_iast X (a) dX5_sets_79 (by omega) h0 (j := 482 + (9) * (i) + 1 + j) rfl (by omega) (by omega) ?_
          refine y_mem (va_up C (a) (.inl (E.2.2.1 1, 698, .inl (upd zf (482 + (9) * (i) + 1 + j) v0)))) rfl (fun C_7 eC_8 => ?_)
          have h_9 : C_7 (a) = .inl (E.2.2.1 1, 698, .inl (upd zf (482 + (9) * (i) + 1 + j) v0)) := by rw [eC_8, va_up, if_pos rfl]
          refine y_iload X dX5_sets_80 0 rfl ?_
          refine y_iload_n X dX5_sets_82 5 rfl ?_
          refine y_icmp_ne X 92 (¬ ((tv T (i) (j)) = v0)) dX5_sets_83 (by decide) Iff.rfl (fun c_10 => ?_) (fun c_10 => ?_)
          ·
            refine y_iload X dX5_sets_92 0 rfl ?_
            exact y_iret X hr dX5_sets_94 rfl (by have ez : sSet T (nI i) (nI j) v0 = (tv T i j, setv T i j v0) := (by rw [sSet, if_pos ⟨⟨c_1, c_3⟩, by rw [ix_nI (by omega), ix_nI (by omega)]; exact c_5⟩, ix_nI (by omega), ix_nI (by omega), if_pos c_6, if_neg c_10]); rw [ez]; exact ⟨rfl, ⟨_, h_9, setM ⟨g0, g1, gK, gD, gS, gV⟩ gv.1 gj⟩, (fun i9 g9 => by rw [eC_8, va_up, if_neg (by omega)])⟩)
          ·
            have c_10 := Decidable.of_not_not c_10
            refine y_sipush X (v := (-10005)) dX5_sets_86 (by decide) ?_
            refine y_goto X 94 dX5_sets_89 (by decide) ?_
            exact y_iret X hr dX5_sets_94 rfl (by have ez : sSet T (nI i) (nI j) v0 = ((-10005), T) := (by rw [sSet, if_pos ⟨⟨c_1, c_3⟩, by rw [ix_nI (by omega), ix_nI (by omega)]; exact c_5⟩, ix_nI (by omega), ix_nI (by omega), if_pos c_6, if_pos c_10]); rw [ez]; exact ⟨rfl, ⟨_, h_9, setM_same ⟨g0, g1, gK, gD, gS, gV⟩ gv.1 gi gj c_5 c_10⟩, (fun i9 g9 => by rw [eC_8, va_up, if_neg (by omega)])⟩)
        ·
          refine y_sipush X (v := (-10002)) dX5_sets_53 (by decide) ?_
          exact y_iret X hr dX5_sets_56 rfl (by have ez : sSet T (nI i) (nI j) v0 = ((-10002), T) := (by rw [sSet, if_pos ⟨⟨c_1, c_3⟩, by rw [ix_nI (by omega), ix_nI (by omega)]; exact c_5⟩, ix_nI (by omega), ix_nI (by omega), if_neg c_6]); rw [ez]; exact ⟨rfl, gT, fun _ _ => rfl⟩)
      ·
        have c_5 := Decidable.of_not_not c_5
        refine y_sipush X (v := (-10001)) dX5_sets_32 (by decide) ?_
        exact y_iret X hr dX5_sets_35 rfl (by have ez : sSet T (nI i) (nI j) v0 = ((-10001), T) := (by rw [sSet, if_neg (fun z => z.2 (by rw [ix_nI (by omega), ix_nI (by omega)]; exact c_5))]); rw [ez]; exact ⟨rfl, gT, fun _ _ => rfl⟩)

set_option maxRecDepth 100000 in
set_option maxHeartbeats 4000000 in
theorem c_X5_copies {l : Launch} {E : xE} {C : xC} {a b2 x y n1 n2 : Nat} {zf zg : Nat → Int32} (ga : a < 68) (gb : b2 < 68) (gd : ¬ a = b2) (gx : x + 698 ≤ n1) (gy : y + 698 ≤ n2) (gn1 : n1 ≤ 3000) (gn2 : n2 ≤ 3000) (h0 : C (a) = .inl (E.2.2.1 1, n1, .inl zf)) (h1 : C (b2) = .inl (E.2.2.1 1, n2, .inl zg)) : xM E l yX5_copies wsX5_copies 0 0 [.ref (E.2.1 (a)), .int (nI (x)), .ref (E.2.1 (b2)), .int (nI (y))] C (fun v C1 => v = none ∧ (∃ zg2 : Nat → Int32, C1 (b2) = .inl (E.2.2.1 1, n2, .inl zg2) ∧ (∀ z : Nat, y ≤ z → z < y + 698 → zg2 z = zf (x + (z - y))) ∧ (∀ z : Nat, z < y ∨ y + 698 ≤ z → zg2 z = zg z)) ∧ (∀ i : Nat, ¬ i = b2 → C1 i = C i)) := by
  refine xM_ofY (cc := cX5_copies) (maxL := 5) (ret := none) (by decide) rfl (Nat.le_of_ble_eq_true rfl) ?_
  intro p e s m args below meth c X hr
  refine y_lv [(0, .ref (E.2.1 (a))), (1, .int (nI (x))), (2, .ref (E.2.1 (b2))), (3, .int (nI (y)))] rfl ?_
  refine y_iconst X (v := (0)) dX5_copies_0 (by decide) ?_
  refine y_istore X [(4, .int (0)), (0, .ref (E.2.1 (a))), (1, .int (nI (x))), (2, .ref (E.2.1 (b2))), (3, .int (nI (y)))] dX5_copies_1 (by decide) rfl ?_
  have L_3 : ∀ (n : Nat) (C2 : xC) (zg2 : Nat → Int32) (n9 : Nat), 698 - n9 < n → (C2 (a) = .inl (E.2.2.1 1, n1, .inl zf)) → (C2 (b2) = .inl (E.2.2.1 1, n2, .inl zg2)) → ((∀ i9 : Nat, ¬ i9 = b2 → C2 i9 = C i9)) → (∀ z : Nat, y ≤ z → z < y + n9 → zg2 z = zf (x + (z - y))) → (∀ z : Nat, z < y ∨ y + n9 ≤ z → zg2 z = zg z) → (n9 ≤ 698) → xY p l e ({ frames := 0, cells := 0, slots := 0, locals := 0 } : Room) s m args below meth c E (xA E) 5 0 0 (MQ below (xQ E (fun v C1 => v = none ∧ (∃ zg2 : Nat → Int32, C1 (b2) = .inl (E.2.2.1 1, n2, .inl zg2) ∧ (∀ z : Nat, y ≤ z → z < y + 698 → zg2 z = zf (x + (z - y))) ∧ (∀ z : Nat, z < y ∨ y + 698 ≤ z → zg2 z = zg z)) ∧ (∀ i : Nat, ¬ i = b2 → C1 i = C i))) args s 0 0 (xA E)) C2 3 [(0, .ref (E.2.1 (a))), (1, .int (nI (x))), (2, .ref (E.2.1 (b2))), (3, .int (nI (y))), (4, .int (nI (n9)))] [] := by
    intro n3
    induction n3 with
    | zero => intro _ _ _ hm3; exact absurd hm3 (Nat.not_lt_zero _)
    | succ n3 ih3 =>
      intro C2 zg2 n9 hm3 k0 k1 gF2 gA gB gn
      refine y_iload X dX5_copies_3 4 rfl ?_
      refine y_sipush X (v := (698)) dX5_copies_5 (by decide) ?_
      refine y_icmp_ge X 29 ((698) ≤ (n9)) dX5_copies_8 (by decide) (nI_leI (a := 698) (b := n9) (by omega) (by omega)) (fun c_1 => ?_) (fun c_1 => ?_)
      ·
        exact y_vret X hr dX5_copies_29 rfl ⟨rfl, ⟨zg2, k1, fun z q1 q2 => gA z q1 (by omega), fun z q1 => gB z (by omega)⟩, gF2⟩
      ·
        refine y_aload_n X dX5_copies_11 2 rfl ?_
        refine y_iload_n X dX5_copies_12 3 rfl ?_
        refine y_iload X dX5_copies_13 4 rfl ?_
        refine y_iadd X (z := (nI (y + n9))) dX5_copies_15 (nI_add (y) (n9)) ?_
        refine y_aload_n X dX5_copies_16 0 rfl ?_
        refine y_iload_n X dX5_copies_17 1 rfl ?_
        refine y_iload X dX5_copies_18 4 rfl ?_
        refine y_iadd X (z := (nI (x + n9))) dX5_copies_20 (nI_add (x) (n9)) ?_
        refine y_iald X (a) dX5_copies_21 (by omega) k0 (j := x + n9) rfl (by omega) (by omega) (z := (zf (x + n9))) rfl ?_
        refine y_iast X (b2) dX5_copies_22 (by omega) k1 (j := y + n9) rfl (by omega) (by omega) ?_
        refine y_mem (va_up C2 (b2) (.inl (E.2.2.1 1, n2, .inl (upd zg2 (y + n9) (zf (x + n9)))))) rfl (fun C_2 eC_3 => ?_)
        have h_4 : C_2 (a) = .inl (E.2.2.1 1, n1, .inl zf) := by rw [eC_3, va_up, if_neg (by omega)]; exact k0
        have h_5 : C_2 (b2) = .inl (E.2.2.1 1, n2, .inl (upd zg2 (y + n9) (zf (x + n9)))) := by rw [eC_3, va_up, if_pos rfl]
        refine y_iinc X [(4, .int (nI (n9 + 1))), (0, .ref (E.2.1 (a))), (1, .int (nI (x))), (2, .ref (E.2.1 (b2))), (3, .int (nI (y)))] dX5_copies_23 4 rfl (nI_1 _) (by decide) rfl ?_
        refine y_goto X 3 dX5_copies_26 (by decide) ?_
        refine y_pick [1, 2, 3, 4, 0] [(0, .ref (E.2.1 (a))), (1, .int (nI (x))), (2, .ref (E.2.1 (b2))), (3, .int (nI (y))), (4, .int (nI (n9 + 1)))] rfl ?_
        exact ih3 (C_2) ((upd zg2 (y + n9) (zf (x + n9)))) (n9 + 1) (by omega) h_4 h_5 (fun i9 g9 => by rw [eC_3, va_up, if_neg (by omega)]; rw [gF2 i9 g9]) (fun z q1 q2 => by rcases Nat.lt_or_ge z (y + n9) with q3 | q3; rw [pk_un (by omega)]; exact gA z q1 q3; rw [show z = y + n9 by omega, pk_us, show y + n9 - y = n9 by omega]) (fun z q1 => by rw [pk_un (by omega)]; exact gB z (by omega)) (by omega)
  refine y_pick [1, 2, 3, 4, 0] [(0, .ref (E.2.1 (a))), (1, .int (nI (x))), (2, .ref (E.2.1 (b2))), (3, .int (nI (y))), (4, .int (0))] rfl ?_
  exact L_3 _ (C) (zg) (0) (Nat.lt_succ_self _) h0 h1 (fun _ _ => rfl) (fun z q1 q2 => absurd q2 (by omega)) (fun _ _ => rfl) (by omega)
