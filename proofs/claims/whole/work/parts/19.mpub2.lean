set_option maxRecDepth 100000 in
set_option maxHeartbeats 4000000 in
theorem c_X5_remove {l : Launch} {E : xE} {C : xC} {T : Tb} {hh : Nat → Tb} {hn : Nat} {sn : Option Tb} {tx : Nat → Int32} {ln : Nat} {sp : Option (Nat × Int32)} (gM : MX E C T hh hn sn tx ln sp) (gW : WX T hh hn sn tx ln sp) {x : Int32} : xM E l yX5_remove wsX5_remove 2 45 [.ref (E.2.1 (61)), .int x] C (fun v C1 => v = some (.int ((sRem T x).1)) ∧ MX E C1 (acT (sRem T x) T) (acH (sRem T x) T hh hn) (acN (sRem T x) hn) (sn) (tx) (ln) (sp) ∧ (∀ i : Nat, i < 61 → C1 i = C i)) := by
  obtain ⟨zf, zt, zp, zs, zx, zl, pa, va, tl, m0, h2, h3, h4, h5, h6, h7, gRT, gPH, gSN, gTX⟩ := id gM
  obtain ⟨gv, gn4, gWH, gWS, gl80, gch, gsp⟩ := id gW
  have gT : RM E C 62 T := ⟨zf, h2, gRT⟩
  obtain ⟨gw1, gw2, gw3, gw4⟩ := id gv.1
  refine xM_ofY (cc := cX5_remove) (maxL := 3) (ret := (some .int)) (by decide) rfl (Nat.le_of_ble_eq_true rfl) ?_
  intro p e s m args below meth c X hr
  have inX5 : ∀ w ∈ wsX50, w ∈ wsX5_remove := by decide +kernel
  refine y_lv [(0, .ref (E.2.1 (61))), (1, .int x)] rfl ?_
  refine y_aload_n X dX5_remove_0 0 rfl ?_
  refine y_get X (61) 5 0 (Cn := RX5) (T := TX5) (N := 14) (index := 7) (v := .ref (E.2.1 (62))) dX5_remove_1 (by omega) m0 rfl (by decide) inX5 (by decide +kernel : Cond.fieldLink RX5 7 "ColumnSeasonsModel" "now" "[I" ∈ wsX5_remove) rfl rfl ?_
  refine y_iload_n X dX5_remove_4 1 rfl ?_
  refine y_callJr X (av := [.ref (E.2.1 (62)), .int x]) [] 2 (c_X5_isRow (a := 62) (by omega) gT gv (x := x)) gX5_remove_X5_isRow rfl (by decide +kernel) rfl ⟨Nat.le_of_ble_eq_true rfl, Nat.le_of_ble_eq_true rfl⟩ ⟨Nat.zero_le _, Nat.zero_le _⟩ (Nat.le_of_ble_eq_true rfl) rfl dX5_remove_5 ?_
  refine y_if_ne X 15 (xin x (tr T)) dX5_remove_8 (by decide) bI_ne (fun c_1 => ?_) (fun c_1 => ?_)
  ·
    obtain ⟨i, gi, gei⟩ := xin_of c_1 (by omega)
    subst gei
    refine y_aload_n X dX5_remove_15 0 rfl ?_
    refine y_callV X (61) 5 (av := []) [] 0 (c_X5_records gv gWH gn4 m0 h2 h4 gRT gPH) (by omega) m0 rfl gX5_remove_X5_records rfl (by decide +kernel) rfl ⟨Nat.le_of_ble_eq_true rfl, Nat.le_of_ble_eq_true rfl⟩ ⟨Nat.zero_le _, Nat.zero_le _⟩ (Nat.le_of_ble_eq_true rfl) rfl dX5_remove_16 (fun v_2 C_3 hp_4 => ?_)
    obtain ⟨gv9, hr5, ⟨zq5, hq5, gP5⟩, gF5⟩ := hp_4
    subst gv9
    have h_6 : C_3 (61) = .inr (5, [.ref (E.2.1 (62)), .ref (E.2.1 (63)), .ref (E.2.1 (64)), .int (nI (recN hn)), .ref (E.2.1 (65)), .int (flg sn), .ref (E.2.1 (66)), .int (nI (ln)), .int pa, .int va, .int (soM sp), .int (seM sp), .ref (E.2.1 (67)), .int tl]) := hr5
    have h_7 : C_3 (62) = .inl (E.2.2.1 1, 698, .inl zf) := (gF5 _ (by omega) (by omega)).trans h2
    have h_8 : C_3 (63) = .inl (E.2.2.1 1, 698, .inl zt) := (gF5 _ (by omega) (by omega)).trans h3
    have h_9 : C_3 (64) = .inl (E.2.2.1 1, 2792, .inl zq5) := hq5
    have h_10 : C_3 (65) = .inl (E.2.2.1 1, 698, .inl zs) := (gF5 _ (by omega) (by omega)).trans h5
    have h_11 : C_3 (66) = .inl (E.2.2.1 1, 80, .inl zx) := (gF5 _ (by omega) (by omega)).trans h6
    have h_12 : C_3 (67) = .inl (E.2.2.1 1, 84, .inl zl) := (gF5 _ (by omega) (by omega)).trans h7
    refine y_aload_n X dX5_remove_19 0 rfl ?_
    refine y_get X (61) 5 0 (Cn := RX5) (T := TX5) (N := 14) (index := 7) (v := .ref (E.2.1 (62))) dX5_remove_20 (by omega) h_6 rfl (by decide) inX5 (by decide +kernel : Cond.fieldLink RX5 7 "ColumnSeasonsModel" "now" "[I" ∈ wsX5_remove) rfl rfl ?_
    refine y_iconst X (v := (1)) dX5_remove_23 (by decide) ?_
    refine y_dup2 X dX5_remove_24 rfl rfl ?_
    refine y_iald X (62) dX5_remove_25 (by omega) h_7 (j := 1) rfl (by omega) (by omega) (z := (nI (tr T))) gRT.2.1 ?_
    refine y_iconst X (v := (1)) dX5_remove_26 (by decide) ?_
    refine y_isub X (z := (nI ((tr T) - (1)))) dX5_remove_27 (pk_sub (a := tr T) (b := 1) (by omega)) ?_
    refine y_iast X (62) dX5_remove_28 (by omega) h_7 (j := 1) rfl (by omega) (by omega) ?_
    refine y_mem (va_up C_3 (62) (.inl (E.2.2.1 1, 698, .inl (upd zf (1) (nI ((tr T) - (1))))))) rfl (fun C_13 eC_14 => ?_)
    have h_15 : C_13 (61) = .inr (5, [.ref (E.2.1 (62)), .ref (E.2.1 (63)), .ref (E.2.1 (64)), .int (nI (recN hn)), .ref (E.2.1 (65)), .int (flg sn), .ref (E.2.1 (66)), .int (nI (ln)), .int pa, .int va, .int (soM sp), .int (seM sp), .ref (E.2.1 (67)), .int tl]) := by rw [eC_14, va_up, if_neg (by omega)]; exact h_6
    have h_16 : C_13 (62) = .inl (E.2.2.1 1, 698, .inl (upd zf (1) (nI ((tr T) - (1))))) := by rw [eC_14, va_up, if_pos rfl]
    have h_17 : C_13 (63) = .inl (E.2.2.1 1, 698, .inl zt) := by rw [eC_14, va_up, if_neg (by omega)]; exact h_8
    have h_18 : C_13 (64) = .inl (E.2.2.1 1, 2792, .inl zq5) := by rw [eC_14, va_up, if_neg (by omega)]; exact h_9
    have h_19 : C_13 (65) = .inl (E.2.2.1 1, 698, .inl zs) := by rw [eC_14, va_up, if_neg (by omega)]; exact h_10
    have h_20 : C_13 (66) = .inl (E.2.2.1 1, 80, .inl zx) := by rw [eC_14, va_up, if_neg (by omega)]; exact h_11
    have h_21 : C_13 (67) = .inl (E.2.2.1 1, 84, .inl zl) := by rw [eC_14, va_up, if_neg (by omega)]; exact h_12
    refine y_sipush X (v := (482)) dX5_remove_29 (by decide) ?_
    refine y_bipush X (v := (9)) dX5_remove_32 (by decide) ?_
    refine y_iload_n X dX5_remove_34 1 rfl ?_
    refine y_imul X (z := (nI ((9) * (i)))) dX5_remove_35 (pk_mul (9) (i)) ?_
    refine y_iadd X (z := (nI (482 + (9) * (i)))) dX5_remove_36 (nI_add (482) ((9) * (i))) ?_
    refine y_istore_n X [(2, .int (nI (482 + (9) * (i)))), (0, .ref (E.2.1 (61))), (1, .int (nI (i)))] dX5_remove_37 rfl (by decide) rfl ?_
    have L_38 : ∀ (n : Nat) (C2 : xC) (zq2 : Nat → Int32) (n9 : Nat), 9 * (tr T - 1) - 9 * i - n9 < n → (C2 (61) = .inr (5, [.ref (E.2.1 (62)), .ref (E.2.1 (63)), .ref (E.2.1 (64)), .int (nI (recN hn)), .ref (E.2.1 (65)), .int (flg sn), .ref (E.2.1 (66)), .int (nI (ln)), .int pa, .int va, .int (soM sp), .int (seM sp), .ref (E.2.1 (67)), .int tl])) → (C2 (62) = .inl (E.2.2.1 1, 698, .inl zq2)) → (C2 (63) = .inl (E.2.2.1 1, 698, .inl zt)) → (C2 (64) = .inl (E.2.2.1 1, 2792, .inl zq5)) → (C2 (65) = .inl (E.2.2.1 1, 698, .inl zs)) → (C2 (66) = .inl (E.2.2.1 1, 80, .inl zx)) → (C2 (67) = .inl (E.2.2.1 1, 84, .inl zl)) → ((∀ i9 : Nat, i9 < 61 → C2 i9 = C i9)) → (zq2 1 = nI (tr T - 1)) → (∀ z : Nat, ¬ z = 1 → z < 482 + 9 * i → zq2 z = zf z) → (∀ z : Nat, 482 + 9 * i ≤ z → z < 482 + 9 * i + n9 → zq2 z = zf (z + 9)) → (∀ z : Nat, 482 + 9 * i + n9 ≤ z → zq2 z = zf z) → (n9 ≤ 9 * (tr T - 1) - 9 * i) → xY p l e ({ frames := 2, cells := 0, slots := 0, locals := 45 } : Room) s m args below meth c E (xA E) 3 0 0 (MQ below (xQ E (fun v C1 => v = some (.int ((sRem T (nI i)).1)) ∧ MX E C1 (acT (sRem T (nI i)) T) (acH (sRem T (nI i)) T hh hn) (acN (sRem T (nI i)) hn) (sn) (tx) (ln) (sp) ∧ (∀ i : Nat, i < 61 → C1 i = C i))) args s 0 0 (xA E)) C2 38 [(0, .ref (E.2.1 (61))), (1, .int (nI (i))), (2, .int (nI (482 + 9 * i + n9)))] [] := by
      intro n38
      induction n38 with
      | zero => intro _ _ _ hm38; exact absurd hm38 (Nat.not_lt_zero _)
      | succ n38 ih38 =>
        intro C2 zq2 n9 hm38 k0 k2 k3 k4 k5 k6 k7 gF2 gE gA gB gC gn
        refine y_iload_n X dX5_remove_38 2 rfl ?_
        refine y_sipush X (v := (482)) dX5_remove_39 (by decide) ?_
        refine y_bipush X (v := (9)) dX5_remove_42 (by decide) ?_
        refine y_aload_n X dX5_remove_44 0 rfl ?_
        refine y_get X (61) 5 0 (Cn := RX5) (T := TX5) (N := 14) (index := 7) (v := .ref (E.2.1 (62))) dX5_remove_45 (by omega) k0 rfl (by decide) inX5 (by decide +kernel : Cond.fieldLink RX5 7 "ColumnSeasonsModel" "now" "[I" ∈ wsX5_remove) rfl rfl ?_
        refine y_iconst X (v := (1)) dX5_remove_48 (by decide) ?_
        refine y_iald X (62) dX5_remove_49 (by omega) k2 (j := 1) rfl (by omega) (by omega) (z := (nI (tr T - 1))) gE ?_
        refine y_imul X (z := (nI ((9) * (tr T - 1)))) dX5_remove_50 (pk_mul (9) (tr T - 1)) ?_
        refine y_iadd X (z := (nI (482 + (9) * (tr T - 1)))) dX5_remove_51 (nI_add (482) ((9) * (tr T - 1))) ?_
        refine y_icmp_ge X 76 ((482 + (9) * (tr T - 1)) ≤ (482 + 9 * i + n9)) dX5_remove_52 (by decide) (nI_leI (a := 482 + (9) * (tr T - 1)) (b := 482 + 9 * i + n9) (by omega) (by omega)) (fun c_22 => ?_) (fun c_22 => ?_)
        ·
          refine y_aload_n X dX5_remove_76 0 rfl ?_
          refine y_get X (61) 5 0 (Cn := RX5) (T := TX5) (N := 14) (index := 7) (v := .ref (E.2.1 (62))) dX5_remove_77 (by omega) k0 rfl (by decide) inX5 (by decide +kernel : Cond.fieldLink RX5 7 "ColumnSeasonsModel" "now" "[I" ∈ wsX5_remove) rfl rfl ?_
          refine y_iconst X (v := (1)) dX5_remove_80 (by decide) ?_
          refine y_iald X (62) dX5_remove_81 (by omega) k2 (j := 1) rfl (by omega) (by omega) (z := (nI (tr T - 1))) gE ?_
          exact y_iret X hr dX5_remove_82 rfl (by have ez : sRem T (nI i) = (nI (tr T - 1), rmv T i) := (by rw [sRem, if_pos c_1, ix_nI (by omega)]); rw [ez]; exact ⟨rfl, MX_ok (act_pos (by omega)) ⟨_, _, _, _, _, _, _, _, _, k0, k2, k3, k4, k5, k6, k7, (rmvM gRT gv.1 gi gE gA (fun z q1 q2 => gB z q1 (by omega))), gP5, gSN, gTX⟩, gF2⟩)
        ·
          refine y_aload_n X dX5_remove_55 0 rfl ?_
          refine y_get X (61) 5 0 (Cn := RX5) (T := TX5) (N := 14) (index := 7) (v := .ref (E.2.1 (62))) dX5_remove_56 (by omega) k0 rfl (by decide) inX5 (by decide +kernel : Cond.fieldLink RX5 7 "ColumnSeasonsModel" "now" "[I" ∈ wsX5_remove) rfl rfl ?_
          refine y_iload_n X dX5_remove_59 2 rfl ?_
          refine y_aload_n X dX5_remove_60 0 rfl ?_
          refine y_get X (61) 5 0 (Cn := RX5) (T := TX5) (N := 14) (index := 7) (v := .ref (E.2.1 (62))) dX5_remove_61 (by omega) k0 rfl (by decide) inX5 (by decide +kernel : Cond.fieldLink RX5 7 "ColumnSeasonsModel" "now" "[I" ∈ wsX5_remove) rfl rfl ?_
          refine y_iload_n X dX5_remove_64 2 rfl ?_
          refine y_bipush X (v := (9)) dX5_remove_65 (by decide) ?_
          refine y_iadd X (z := (nI (482 + 9 * i + n9 + 9))) dX5_remove_67 (nI_add (482 + 9 * i + n9) (9)) ?_
          refine y_iald X (62) dX5_remove_68 (by omega) k2 (j := 482 + 9 * i + n9 + 9) rfl (by omega) (by omega) (z := (zq2 (482 + 9 * i + n9 + 9))) rfl ?_
          refine y_iast X (62) dX5_remove_69 (by omega) k2 (j := 482 + 9 * i + n9) rfl (by omega) (by omega) ?_
          refine y_mem (va_up C2 (62) (.inl (E.2.2.1 1, 698, .inl (upd zq2 (482 + 9 * i + n9) (zq2 (482 + 9 * i + n9 + 9)))))) rfl (fun C_23 eC_24 => ?_)
          have h_25 : C_23 (61) = .inr (5, [.ref (E.2.1 (62)), .ref (E.2.1 (63)), .ref (E.2.1 (64)), .int (nI (recN hn)), .ref (E.2.1 (65)), .int (flg sn), .ref (E.2.1 (66)), .int (nI (ln)), .int pa, .int va, .int (soM sp), .int (seM sp), .ref (E.2.1 (67)), .int tl]) := by rw [eC_24, va_up, if_neg (by omega)]; exact k0
          have h_26 : C_23 (62) = .inl (E.2.2.1 1, 698, .inl (upd zq2 (482 + 9 * i + n9) (zq2 (482 + 9 * i + n9 + 9)))) := by rw [eC_24, va_up, if_pos rfl]
          have h_27 : C_23 (63) = .inl (E.2.2.1 1, 698, .inl zt) := by rw [eC_24, va_up, if_neg (by omega)]; exact k3
          have h_28 : C_23 (64) = .inl (E.2.2.1 1, 2792, .inl zq5) := by rw [eC_24, va_up, if_neg (by omega)]; exact k4
          have h_29 : C_23 (65) = .inl (E.2.2.1 1, 698, .inl zs) := by rw [eC_24, va_up, if_neg (by omega)]; exact k5
          have h_30 : C_23 (66) = .inl (E.2.2.1 1, 80, .inl zx) := by rw [eC_24, va_up, if_neg (by omega)]; exact k6
          have h_31 : C_23 (67) = .inl (E.2.2.1 1, 84, .inl zl) := by rw [eC_24, va_up, if_neg (by omega)]; exact k7
          refine y_iinc X [(2, .int (nI (482 + 9 * i + n9 + 1))), (0, .ref (E.2.1 (61))), (1, .int (nI (i)))] dX5_remove_70 2 rfl (nI_1 _) (by decide) rfl ?_
          refine y_goto X 38 dX5_remove_73 (by decide) ?_
          refine y_pick [1, 2, 0] [(0, .ref (E.2.1 (61))), (1, .int (nI (i))), (2, .int (nI (482 + 9 * i + n9 + 1)))] rfl ?_
          exact ih38 (C_23) ((upd zq2 (482 + 9 * i + n9) (zq2 (482 + 9 * i + n9 + 9)))) (n9 + 1) (by omega) h_25 h_26 h_27 h_28 h_29 h_30 h_31 (fun i9 g9 => by rw [eC_24, va_up, if_neg (by omega)]; rw [gF2 i9 g9]) (by rw [pk_un (by omega)]; exact gE) (fun z q1 q2 => by rw [pk_un (by omega)]; exact gA z q1 q2) (fun z q1 q2 => by rcases Nat.lt_or_ge z (482 + 9 * i + n9) with q3 | q3; rw [pk_un (by omega)]; exact gB z q1 q3; rw [show z = 482 + 9 * i + n9 by omega, pk_us]; exact gC _ (by omega)) (fun z q1 => by rw [pk_un (by omega)]; exact gC z (by omega)) (by omega)
    refine y_pick [1, 2, 0] [(0, .ref (E.2.1 (61))), (1, .int (nI (i))), (2, .int (nI (482 + (9) * (i))))] rfl ?_
    exact L_38 _ (C_13) ((upd zf (1) (nI ((tr T) - (1))))) (0) (Nat.lt_succ_self _) h_15 h_16 h_17 h_18 h_19 h_20 h_21 (fun i9 g9 => by rw [eC_14, va_up, if_neg (by omega)]; rw [gF5 i9 (by omega) (by omega)]) pk_us (fun z q1 q2 => pk_un q1) (fun z q1 q2 => absurd q2 (by omega)) (fun z q1 => pk_un (by omega)) (by omega)
  ·
    refine y_sipush X (v := (-10001)) dX5_remove_11 (by decide) ?_
    exact y_iret X hr dX5_remove_14 rfl (by have ez : sRem T x = ((-10001), T) := (by rw [sRem, if_neg c_1]); rw [ez]; exact ⟨rfl, MX_err (by decide) gM, (fun _ _ => rfl)⟩)

set_option maxRecDepth 100000 in
set_option maxHeartbeats 4000000 in
theorem c_X5_makeOver {l : Launch} {E : xE} {C : xC} {T : Tb} {hh : Nat → Tb} {hn : Nat} {sn : Option Tb} {tx : Nat → Int32} {ln : Nat} {sp : Option (Nat × Int32)} (gM : MX E C T hh hn sn tx ln sp) (gW : WX T hh hn sn tx ln sp) {x y : Int32} : xM E l yX5_makeOver wsX5_makeOver 4 93 [.ref (E.2.1 (61)), .int x, .int y] C (fun v C1 => v = some (.int ((sMk T x y).1)) ∧ MX E C1 (acT (sMk T x y) T) (acH (sMk T x y) T hh hn) (acN (sMk T x y) hn) (sn) (tx) (ln) (sp) ∧ (∀ i : Nat, i < 61 → C1 i = C i)) := by
  obtain ⟨zf, zt, zp, zs, zx, zl, pa, va, tl, m0, h2, h3, h4, h5, h6, h7, gRT, gPH, gSN, gTX⟩ := id gM
  obtain ⟨gv, gn4, gWH, gWS, gl80, gch, gsp⟩ := id gW
  have gT : RM E C 62 T := ⟨zf, h2, gRT⟩
  obtain ⟨gw1, gw2, gw3, gw4⟩ := id gv.1
  refine xM_ofY (cc := cX5_makeOver) (maxL := 9) (ret := (some .int)) (by decide) rfl (Nat.le_of_ble_eq_true rfl) ?_
  intro p e s m args below meth c X hr
  have inX5 : ∀ w ∈ wsX50, w ∈ wsX5_makeOver := by decide +kernel
  refine y_lv [(0, .ref (E.2.1 (61))), (1, .int x), (2, .int y)] rfl ?_
  refine y_aload_n X dX5_makeOver_0 0 rfl ?_
  refine y_get X (61) 5 0 (Cn := RX5) (T := TX5) (N := 14) (index := 7) (v := .ref (E.2.1 (62))) dX5_makeOver_1 (by omega) m0 rfl (by decide) inX5 (by decide +kernel : Cond.fieldLink RX5 7 "ColumnSeasonsModel" "now" "[I" ∈ wsX5_makeOver) rfl rfl ?_
  refine y_iload_n X dX5_makeOver_4 1 rfl ?_
  refine y_callJr X (av := [.ref (E.2.1 (62)), .int x]) [] 2 (c_X5_isRow (a := 62) (by omega) gT gv (x := x)) gX5_makeOver_X5_isRow rfl (by decide +kernel) rfl ⟨Nat.le_of_ble_eq_true rfl, Nat.le_of_ble_eq_true rfl⟩ ⟨Nat.zero_le _, Nat.zero_le _⟩ (Nat.le_of_ble_eq_true rfl) rfl dX5_makeOver_5 ?_
  refine y_if_eq X 22 (¬ (xin x (tr T))) dX5_makeOver_8 (by decide) bI_eq (fun c_1 => ?_) (fun c_1 => ?_)
  ·
    refine y_sipush X (v := (-10001)) dX5_makeOver_22 (by decide) ?_
    exact y_iret X hr dX5_makeOver_25 rfl (by have ez : sMk T x y = ((-10001), T) := (by rw [sMk, if_neg (fun z => c_1 z.1)]); rw [ez]; exact ⟨rfl, MX_err (by decide) gM, (fun _ _ => rfl)⟩)
  ·
    have c_1 := Decidable.of_not_not c_1
    obtain ⟨a, ga, gea⟩ := xin_of c_1 (by omega)
    subst gea
    refine y_aload_n X dX5_makeOver_11 0 rfl ?_
    refine y_get X (61) 5 0 (Cn := RX5) (T := TX5) (N := 14) (index := 7) (v := .ref (E.2.1 (62))) dX5_makeOver_12 (by omega) m0 rfl (by decide) inX5 (by decide +kernel : Cond.fieldLink RX5 7 "ColumnSeasonsModel" "now" "[I" ∈ wsX5_makeOver) rfl rfl ?_
    refine y_iload_n X dX5_makeOver_15 2 rfl ?_
    refine y_callJr X (av := [.ref (E.2.1 (62)), .int y]) [] 2 (c_X5_isRow (a := 62) (by omega) gT gv (x := y)) gX5_makeOver_X5_isRow rfl (by decide +kernel) rfl ⟨Nat.le_of_ble_eq_true rfl, Nat.le_of_ble_eq_true rfl⟩ ⟨Nat.zero_le _, Nat.zero_le _⟩ (Nat.le_of_ble_eq_true rfl) rfl dX5_makeOver_16 ?_
    refine y_if_ne X 26 (xin y (tr T)) dX5_makeOver_19 (by decide) bI_ne (fun c_2 => ?_) (fun c_2 => ?_)
    ·
      obtain ⟨b0, gb0, geb0⟩ := xin_of c_2 (by omega)
      subst geb0
      refine y_iload_n X dX5_makeOver_26 2 rfl ?_
      refine y_iload_n X dX5_makeOver_27 1 rfl ?_
      refine y_icmp_ge X 35 ((a) ≤ (b0)) dX5_makeOver_28 (by decide) (nI_leI (a := a) (b := b0) (by omega) (by omega)) (fun c_3 => ?_) (fun c_3 => ?_)
      ·
        refine y_aload_n X dX5_makeOver_35 0 rfl ?_
        refine y_get X (61) 5 0 (Cn := RX5) (T := TX5) (N := 14) (index := 7) (v := .ref (E.2.1 (62))) dX5_makeOver_36 (by omega) m0 rfl (by decide) inX5 (by decide +kernel : Cond.fieldLink RX5 7 "ColumnSeasonsModel" "now" "[I" ∈ wsX5_makeOver) rfl rfl ?_
        refine y_iconst X (v := (0)) dX5_makeOver_39 (by decide) ?_
        refine y_iald X (62) dX5_makeOver_40 (by omega) h2 (j := 0) rfl (by omega) (by omega) (z := (nI (tn T))) gRT.1 ?_
        refine y_iconst X (v := (1)) dX5_makeOver_41 (by decide) ?_
        refine y_isub X (z := (nI ((tn T) - (1)))) dX5_makeOver_42 (pk_sub (a := tn T) (b := 1) (by omega)) ?_
        refine y_istore_n X [(3, .int (nI ((tn T) - (1)))), (0, .ref (E.2.1 (61))), (1, .int (nI (a))), (2, .int (nI (b0)))] dX5_makeOver_43 rfl (by decide) rfl ?_
        refine y_iconst X (v := (1)) dX5_makeOver_44 (by decide) ?_
        refine y_istore X [(4, .int (1)), (3, .int (nI ((tn T) - (1)))), (0, .ref (E.2.1 (61))), (1, .int (nI (a))), (2, .int (nI (b0)))] dX5_makeOver_45 (by decide) rfl ?_
        refine y_iconst X (v := (0)) dX5_makeOver_47 (by decide) ?_
        refine y_istore X [(5, .int (0)), (4, .int (1)), (3, .int (nI ((tn T) - (1)))), (0, .ref (E.2.1 (61))), (1, .int (nI (a))), (2, .int (nI (b0)))] dX5_makeOver_48 (by decide) rfl ?_
        refine y_iload_n X dX5_makeOver_50 4 rfl ?_
        refine y_istore X [(6, .int (nI (a))), (5, .int (0)), (4, .int (1)), (3, .int (nI ((tn T) - (1)))), (0, .ref (E.2.1 (61))), (1, .int (nI (a))), (2, .int (nI (b0)))] dX5_makeOver_51 (by decide) rfl ?_
        have L_53 : ∀ (n : Nat) (k : Nat) (x4 : Int32) (x5 : Int32), b0 + 1 - a - k < n → (k ≤ b0 + 1 - a) → (x4 = bI (mkN T a k)) → (x5 = sm (fun k => lsR T (tn T - 1) (a + k)) k) → xY p l e ({ frames := 4, cells := 0, slots := 0, locals := 93 } : Room) s m args below meth c E (xA E) 9 0 0 (MQ below (xQ E (fun v C1 => v = some (.int ((sMk T (nI a) (nI b0)).1)) ∧ MX E C1 (acT (sMk T (nI a) (nI b0)) T) (acH (sMk T (nI a) (nI b0)) T hh hn) (acN (sMk T (nI a) (nI b0)) hn) (sn) (tx) (ln) (sp) ∧ (∀ i : Nat, i < 61 → C1 i = C i))) args s 0 0 (xA E)) C 53 [(0, .ref (E.2.1 (61))), (1, .int (nI (a))), (2, .int (nI (b0))), (3, .int (nI ((tn T) - (1)))), (4, .int x4), (5, .int x5), (6, .int (nI (a + k)))] [] := by
          intro n53
          induction n53 with
          | zero => intro _ _ _ hm53; exact absurd hm53 (Nat.not_lt_zero _)
          | succ n53 ih53 =>
            intro k x4 x5 hm53 gk gf gx
            refine y_iload X dX5_makeOver_53 6 rfl ?_
            refine y_iload_n X dX5_makeOver_55 2 rfl ?_
            refine y_icmp_gt X 105 ((b0) < (a + k)) dX5_makeOver_56 (by decide) (nI_ltI (a := b0) (b := a + k) (by omega) (by omega)) (fun c_4 => ?_) (fun c_4 => ?_)
            ·
              have gk7 : k = b0 + 1 - a := by omega
              refine y_iload X dX5_makeOver_105 4 rfl ?_
              refine y_if_eq X 114 (¬ mkN T a (b0 + 1 - a)) dX5_makeOver_107 (by decide) (by rw [gf, gk7]; exact bI_eq) (fun c_5 => ?_) (fun c_5 => ?_)
              ·
                refine y_aload_n X dX5_makeOver_114 0 rfl ?_
                refine y_callV X (61) 5 (av := []) [] 0 (c_X5_records gv gWH gn4 m0 h2 h4 gRT gPH) (by omega) m0 rfl gX5_makeOver_X5_records rfl (by decide +kernel) rfl ⟨Nat.le_of_ble_eq_true rfl, Nat.le_of_ble_eq_true rfl⟩ ⟨Nat.zero_le _, Nat.zero_le _⟩ (Nat.le_of_ble_eq_true rfl) rfl dX5_makeOver_115 (fun v_6 C_7 hp_8 => ?_)
                obtain ⟨gv9, hr9, ⟨zq9, hq9, gP9⟩, gF9⟩ := hp_8
                subst gv9
                have h_10 : C_7 (61) = .inr (5, [.ref (E.2.1 (62)), .ref (E.2.1 (63)), .ref (E.2.1 (64)), .int (nI (recN hn)), .ref (E.2.1 (65)), .int (flg sn), .ref (E.2.1 (66)), .int (nI (ln)), .int pa, .int va, .int (soM sp), .int (seM sp), .ref (E.2.1 (67)), .int tl]) := hr9
                have h_11 : C_7 (62) = .inl (E.2.2.1 1, 698, .inl zf) := (gF9 _ (by omega) (by omega)).trans h2
                have h_12 : C_7 (63) = .inl (E.2.2.1 1, 698, .inl zt) := (gF9 _ (by omega) (by omega)).trans h3
                have h_13 : C_7 (64) = .inl (E.2.2.1 1, 2792, .inl zq9) := hq9
                have h_14 : C_7 (65) = .inl (E.2.2.1 1, 698, .inl zs) := (gF9 _ (by omega) (by omega)).trans h5
                have h_15 : C_7 (66) = .inl (E.2.2.1 1, 80, .inl zx) := (gF9 _ (by omega) (by omega)).trans h6
                have h_16 : C_7 (67) = .inl (E.2.2.1 1, 84, .inl zl) := (gF9 _ (by omega) (by omega)).trans h7
                refine y_aload_n X dX5_makeOver_118 0 rfl ?_
                refine y_get X (61) 5 0 (Cn := RX5) (T := TX5) (N := 14) (index := 7) (v := .ref (E.2.1 (62))) dX5_makeOver_119 (by omega) h_10 rfl (by decide) inX5 (by decide +kernel : Cond.fieldLink RX5 7 "ColumnSeasonsModel" "now" "[I" ∈ wsX5_makeOver) rfl rfl ?_
                refine y_iconst X (v := (0)) dX5_makeOver_122 (by decide) ?_
                refine y_aload_n X dX5_makeOver_123 0 rfl ?_
                refine y_get X (61) 5 1 (Cn := RX5) (T := TX5) (N := 14) (index := 13) (v := .ref (E.2.1 (63))) dX5_makeOver_124 (by omega) h_10 rfl (by decide) inX5 (by decide +kernel : Cond.fieldLink RX5 13 "ColumnSeasonsModel" "then" "[I" ∈ wsX5_makeOver) rfl rfl ?_
                refine y_iconst X (v := (0)) dX5_makeOver_127 (by decide) ?_
                refine y_callJ X (av := [.ref (E.2.1 (62)), .int (0), .ref (E.2.1 (63)), .int (0)]) [] 4 (c_X5_copies (a := 62) (b2 := 63) (x := 0) (y := 0) (by omega) (by omega) (by omega) (by omega) (by omega) (by omega) (by omega) h_11 h_12) gX5_makeOver_X5_copies rfl (by decide +kernel) rfl ⟨Nat.le_of_ble_eq_true rfl, Nat.le_of_ble_eq_true rfl⟩ ⟨Nat.zero_le _, Nat.zero_le _⟩ (Nat.le_of_ble_eq_true rfl) rfl dX5_makeOver_128 (fun v_17 C_18 hp_19 => ?_)
                obtain ⟨gv9, ⟨zq20, hq20, gA20, gB20⟩, gF20⟩ := hp_19
                subst gv9
                have h_21 : C_18 (61) = .inr (5, [.ref (E.2.1 (62)), .ref (E.2.1 (63)), .ref (E.2.1 (64)), .int (nI (recN hn)), .ref (E.2.1 (65)), .int (flg sn), .ref (E.2.1 (66)), .int (nI (ln)), .int pa, .int va, .int (soM sp), .int (seM sp), .ref (E.2.1 (67)), .int tl]) := (gF20 _ (by omega)).trans h_10
                have h_22 : C_18 (62) = .inl (E.2.2.1 1, 698, .inl zf) := (gF20 _ (by omega)).trans h_11
                have h_23 : C_18 (63) = .inl (E.2.2.1 1, 698, .inl zq20) := hq20
                have h_24 : C_18 (64) = .inl (E.2.2.1 1, 2792, .inl zq9) := (gF20 _ (by omega)).trans h_13
                have h_25 : C_18 (65) = .inl (E.2.2.1 1, 698, .inl zs) := (gF20 _ (by omega)).trans h_14
                have h_26 : C_18 (66) = .inl (E.2.2.1 1, 80, .inl zx) := (gF20 _ (by omega)).trans h_15
                have h_27 : C_18 (67) = .inl (E.2.2.1 1, 84, .inl zl) := (gF20 _ (by omega)).trans h_16
                have gpos : (-10001 : Int32) < mkL T a (b0 + 1 - a) := mkL_pos (by omega)
                refine y_iload_n X dX5_makeOver_131 1 rfl ?_
                refine y_istore X [(6, .int (nI (a))), (0, .ref (E.2.1 (61))), (1, .int (nI (a))), (2, .int (nI (b0))), (3, .int (nI ((tn T) - (1)))), (4, .int x4), (5, .int x5)] dX5_makeOver_132 (by decide) rfl ?_
                have L_134 : ∀ (n : Nat) (C2 : xC) (zq2 : Nat → Int32) (k : Nat), b0 + 1 - a - k < n → (C2 (61) = .inr (5, [.ref (E.2.1 (62)), .ref (E.2.1 (63)), .ref (E.2.1 (64)), .int (nI (recN hn)), .ref (E.2.1 (65)), .int (flg sn), .ref (E.2.1 (66)), .int (nI (ln)), .int pa, .int va, .int (soM sp), .int (seM sp), .ref (E.2.1 (67)), .int tl])) → (C2 (62) = .inl (E.2.2.1 1, 698, .inl zq2)) → (C2 (63) = .inl (E.2.2.1 1, 698, .inl zq20)) → (C2 (64) = .inl (E.2.2.1 1, 2792, .inl zq9)) → (C2 (65) = .inl (E.2.2.1 1, 698, .inl zs)) → (C2 (66) = .inl (E.2.2.1 1, 80, .inl zx)) → (C2 (67) = .inl (E.2.2.1 1, 84, .inl zl)) → ((∀ i9 : Nat, i9 < 61 → C2 i9 = C i9)) → (∀ z : Nat, z < 482 + 9 * a ∨ 482 + 9 * (a + k) ≤ z → zq2 z = zf z) → (∀ k2 : Nat, k2 < k → zq2 (482 + 9 * (a + k2)) = nI (tn T - 1)) → (∀ k2 j2 : Nat, k2 < k → j2 < 8 → ¬ tk T (tn T - 1) j2 = -1 → zq2 (482 + 9 * (a + k2) + 1 + j2) = rdC T (tn T - 1) (a + k2) j2) → (k ≤ b0 + 1 - a) → xY p l e ({ frames := 4, cells := 0, slots := 0, locals := 93 } : Room) s m args below meth c E (xA E) 9 0 0 (MQ below (xQ E (fun v C1 => v = some (.int ((sMk T (nI a) (nI b0)).1)) ∧ MX E C1 (acT (sMk T (nI a) (nI b0)) T) (acH (sMk T (nI a) (nI b0)) T hh hn) (acN (sMk T (nI a) (nI b0)) hn) (sn) (tx) (ln) (sp) ∧ (∀ i : Nat, i < 61 → C1 i = C i))) args s 0 0 (xA E)) C2 134 [(0, .ref (E.2.1 (61))), (1, .int (nI (a))), (2, .int (nI (b0))), (3, .int (nI ((tn T) - (1)))), (5, .int x5), (6, .int (nI (a + k)))] [] := by
                  intro n134
                  induction n134 with
                  | zero => intro _ _ _ hm134; exact absurd hm134 (Nat.not_lt_zero _)
                  | succ n134 ih134 =>
                    intro C2 zq2 k hm134 k0 k2 k3 k4 k5 k6 k7 gF2 gA gB gC gk
                    refine y_iload X dX5_makeOver_134 5 rfl ?_
                    refine y_iload_n X dX5_makeOver_136 2 rfl ?_
                    refine y_icmp_gt X 222 ((b0) < (a + k)) dX5_makeOver_137 (by decide) (nI_ltI (a := b0) (b := a + k) (by omega) (by omega)) (fun c_28 => ?_) (fun c_28 => ?_)
                    ·
                      have gk8 : k = b0 + 1 - a := by omega
                      refine y_iload X dX5_makeOver_222 4 rfl ?_
                      exact y_iret X hr dX5_makeOver_224 rfl (by have ez : sMk T (nI a) (nI b0) = (mkL T a (b0 + 1 - a), mkP T a (b0 + 1 - a)) := (by rw [sMk, if_pos ⟨c_1, c_2⟩, ix_nI (by omega), ix_nI (by omega), if_neg (by omega), if_neg c_5]); rw [ez]; exact ⟨by rw [gx, gk7, mkL_eq gv _ (by omega)], MX_ok (gpos) ⟨_, _, _, _, _, _, _, _, _, k0, k2, k3, k4, k5, k6, k7, (by rw [← gk8]; exact mkM gRT gv (by omega) gA gB gC), gP9, gSN, gTX⟩, gF2⟩)
                    ·
                      refine y_sipush X (v := (482)) dX5_makeOver_140 (by decide) ?_
                      refine y_bipush X (v := (9)) dX5_makeOver_143 (by decide) ?_
                      refine y_iload X dX5_makeOver_145 5 rfl ?_
                      refine y_imul X (z := (nI ((9) * (a + k)))) dX5_makeOver_147 (pk_mul (9) (a + k)) ?_
                      refine y_iadd X (z := (nI (482 + (9) * (a + k)))) dX5_makeOver_148 (nI_add (482) ((9) * (a + k))) ?_
                      refine y_istore X [(7, .int (nI (482 + (9) * (a + k)))), (0, .ref (E.2.1 (61))), (1, .int (nI (a))), (2, .int (nI (b0))), (3, .int (nI ((tn T) - (1)))), (5, .int x5), (6, .int (nI (a + k)))] dX5_makeOver_149 (by decide) rfl ?_
                      refine y_aload_n X dX5_makeOver_151 1 rfl ?_
                      refine y_get X (61) 5 0 (Cn := RX5) (T := TX5) (N := 14) (index := 7) (v := .ref (E.2.1 (62))) dX5_makeOver_152 (by omega) k0 rfl (by decide) inX5 (by decide +kernel : Cond.fieldLink RX5 7 "ColumnSeasonsModel" "now" "[I" ∈ wsX5_makeOver) rfl rfl ?_
                      refine y_iload X dX5_makeOver_155 0 rfl ?_
                      refine y_iload_n X dX5_makeOver_157 4 rfl ?_
                      refine y_iast X (62) dX5_makeOver_158 (by omega) k2 (j := 482 + (9) * (a + k)) rfl (by omega) (by omega) ?_
                      refine y_mem (va_up C2 (62) (.inl (E.2.2.1 1, 698, .inl (upd zq2 (482 + (9) * (a + k)) (nI ((tn T) - (1))))))) rfl (fun C_29 eC_30 => ?_)
                      have h_31 : C_29 (61) = .inr (5, [.ref (E.2.1 (62)), .ref (E.2.1 (63)), .ref (E.2.1 (64)), .int (nI (recN hn)), .ref (E.2.1 (65)), .int (flg sn), .ref (E.2.1 (66)), .int (nI (ln)), .int pa, .int va, .int (soM sp), .int (seM sp), .ref (E.2.1 (67)), .int tl]) := by rw [eC_30, va_up, if_neg (by omega)]; exact k0
                      have h_32 : C_29 (62) = .inl (E.2.2.1 1, 698, .inl (upd zq2 (482 + (9) * (a + k)) (nI ((tn T) - (1))))) := by rw [eC_30, va_up, if_pos rfl]
                      have h_33 : C_29 (63) = .inl (E.2.2.1 1, 698, .inl zq20) := by rw [eC_30, va_up, if_neg (by omega)]; exact k3
                      have h_34 : C_29 (64) = .inl (E.2.2.1 1, 2792, .inl zq9) := by rw [eC_30, va_up, if_neg (by omega)]; exact k4
                      have h_35 : C_29 (65) = .inl (E.2.2.1 1, 698, .inl zs) := by rw [eC_30, va_up, if_neg (by omega)]; exact k5
                      have h_36 : C_29 (66) = .inl (E.2.2.1 1, 80, .inl zx) := by rw [eC_30, va_up, if_neg (by omega)]; exact k6
                      have h_37 : C_29 (67) = .inl (E.2.2.1 1, 84, .inl zl) := by rw [eC_30, va_up, if_neg (by omega)]; exact k7
                      refine y_iconst X (v := (0)) dX5_makeOver_159 (by decide) ?_
                      refine y_istore X [(8, .int (0)), (7, .int (nI (482 + (9) * (a + k)))), (0, .ref (E.2.1 (61))), (1, .int (nI (a))), (2, .int (nI (b0))), (3, .int (nI ((tn T) - (1)))), (5, .int x5), (6, .int (nI (a + k)))] dX5_makeOver_160 (by decide) rfl ?_
                      have L_162 : ∀ (n : Nat) (C3 : xC) (zq3 : Nat → Int32) (j : Nat), 8 - j < n → (C3 (61) = .inr (5, [.ref (E.2.1 (62)), .ref (E.2.1 (63)), .ref (E.2.1 (64)), .int (nI (recN hn)), .ref (E.2.1 (65)), .int (flg sn), .ref (E.2.1 (66)), .int (nI (ln)), .int pa, .int va, .int (soM sp), .int (seM sp), .ref (E.2.1 (67)), .int tl])) → (C3 (62) = .inl (E.2.2.1 1, 698, .inl zq3)) → (C3 (63) = .inl (E.2.2.1 1, 698, .inl zq20)) → (C3 (64) = .inl (E.2.2.1 1, 2792, .inl zq9)) → (C3 (65) = .inl (E.2.2.1 1, 698, .inl zs)) → (C3 (66) = .inl (E.2.2.1 1, 80, .inl zx)) → (C3 (67) = .inl (E.2.2.1 1, 84, .inl zl)) → ((∀ i9 : Nat, i9 < 61 → C3 i9 = C i9)) → (∀ z : Nat, z < 482 + 9 * a ∨ 482 + 9 * (a + (k + 1)) ≤ z → zq3 z = zf z) → (∀ z : Nat, z < 482 + 9 * (a + k) → zq3 z = zq2 z) → (zq3 (482 + 9 * (a + k)) = nI (tn T - 1)) → (∀ j2 : Nat, j2 < j → ¬ tk T (tn T - 1) j2 = -1 → zq3 (482 + 9 * (a + k) + 1 + j2) = rdC T (tn T - 1) (a + k) j2) → (j ≤ 8) → xY p l e ({ frames := 4, cells := 0, slots := 0, locals := 93 } : Room) s m args below meth c E (xA E) 9 0 0 (MQ below (xQ E (fun v C1 => v = some (.int ((sMk T (nI a) (nI b0)).1)) ∧ MX E C1 (acT (sMk T (nI a) (nI b0)) T) (acH (sMk T (nI a) (nI b0)) T hh hn) (acN (sMk T (nI a) (nI b0)) hn) (sn) (tx) (ln) (sp) ∧ (∀ i : Nat, i < 61 → C1 i = C i))) args s 0 0 (xA E)) C3 162 [(0, .ref (E.2.1 (61))), (1, .int (nI (a))), (2, .int (nI (b0))), (3, .int (nI ((tn T) - (1)))), (5, .int x5), (6, .int (nI (a + k))), (7, .int (nI (482 + (9) * (a + k)))), (8, .int (nI (j)))] [] := by
                        intro n162
                        induction n162 with
                        | zero => intro _ _ _ hm162; exact absurd hm162 (Nat.not_lt_zero _)
                        | succ n162 ih162 =>
                          intro C3 zq3 j hm162 l0 l2 l3 l4 l5 l6 l7 gF3 gA3 gA4 gE3 gC3 gj
                          refine y_iload X dX5_makeOver_162 7 rfl ?_
                          refine y_bipush X (v := (8)) dX5_makeOver_164 (by decide) ?_
                          refine y_icmp_ge X 216 ((8) ≤ (j)) dX5_makeOver_166 (by decide) (nI_leI (a := 8) (b := j) (by omega) (by omega)) (fun c_38 => ?_) (fun c_38 => ?_)
                          ·
                            refine y_iinc X [(6, .int (nI (a + k + 1))), (0, .ref (E.2.1 (61))), (1, .int (nI (a))), (2, .int (nI (b0))), (3, .int (nI ((tn T) - (1)))), (5, .int x5), (7, .int (nI (482 + (9) * (a + k)))), (8, .int (nI (j)))] dX5_makeOver_216 5 rfl (nI_1 _) (by decide) rfl ?_
                            refine y_goto X 134 dX5_makeOver_219 (by decide) ?_
                            refine y_pick [1, 2, 3, 4, 5, 0] [(0, .ref (E.2.1 (61))), (1, .int (nI (a))), (2, .int (nI (b0))), (3, .int (nI ((tn T) - (1)))), (5, .int x5), (6, .int (nI (a + k + 1)))] rfl ?_
                            exact ih134 (C3) (zq3) (k + 1) (by omega) l0 l2 l3 l4 l5 l6 l7 gF3 (fun z q1 => gA3 z (by omega)) (fun k2 q1 => by rcases Nat.lt_or_ge k2 k with q3 | q3; rw [gA4 _ (by omega)]; exact gB k2 q3; rw [show k2 = k by omega]; exact gE3) (fun k2 j2 q1 q2 q4 => by rcases Nat.lt_or_ge k2 k with q3 | q3; rw [gA4 _ (by omega)]; exact gC k2 j2 q3 q2 q4; rw [show k2 = k by omega]; exact gC3 j2 (by omega) q4) (by omega)
                          ·
                            have gT2 : RM E C3 63 T := ⟨_, l3, RTm_ext gv.1 gRT (fun z q1 => by rw [gA20 z (by omega) (by omega)]; exact congrArg zf (by omega))⟩
                            have gk2 := WF_k gv (show tn T - 1 < tn T by omega) (show j < 8 by omega)
                            refine y_aload_n X dX5_makeOver_169 0 rfl ?_
                            refine y_get X (61) 5 0 (Cn := RX5) (T := TX5) (N := 14) (index := 7) (v := .ref (E.2.1 (62))) dX5_makeOver_170 (by omega) l0 rfl (by decide) inX5 (by decide +kernel : Cond.fieldLink RX5 7 "ColumnSeasonsModel" "now" "[I" ∈ wsX5_makeOver) rfl rfl ?_
                            refine y_iload X dX5_makeOver_173 6 rfl ?_
                            refine y_iconst X (v := (1)) dX5_makeOver_175 (by decide) ?_
                            refine y_iadd X (z := (nI (482 + (9) * (a + k) + 1))) dX5_makeOver_176 (nI_add (482 + (9) * (a + k)) (1)) ?_
                            refine y_iload X dX5_makeOver_177 7 rfl ?_
                            refine y_iadd X (z := (nI (482 + (9) * (a + k) + 1 + j))) dX5_makeOver_179 (nI_add (482 + (9) * (a + k) + 1) (j)) ?_
                            refine y_aload_n X dX5_makeOver_180 0 rfl ?_
                            refine y_get X (61) 5 1 (Cn := RX5) (T := TX5) (N := 14) (index := 13) (v := .ref (E.2.1 (63))) dX5_makeOver_181 (by omega) l0 rfl (by decide) inX5 (by decide +kernel : Cond.fieldLink RX5 13 "ColumnSeasonsModel" "then" "[I" ∈ wsX5_makeOver) rfl rfl ?_
                            refine y_iload_n X dX5_makeOver_184 3 rfl ?_
                            refine y_iload X dX5_makeOver_185 7 rfl ?_
                            refine y_callJr X (av := [.ref (E.2.1 (63)), .int (nI ((tn T) - (1))), .int (nI (j))]) [.int (nI (482 + (9) * (a + k) + 1 + j)), .ref (E.2.1 (62))] 3 (c_X5_kindOf (a := 63) (by omega) gT2 gv (q := (tn T) - (1)) (j := j) (by omega) (by omega)) gX5_makeOver_X5_kindOf rfl (by decide +kernel) rfl ⟨Nat.le_of_ble_eq_true rfl, Nat.le_of_ble_eq_true rfl⟩ ⟨Nat.zero_le _, Nat.zero_le _⟩ (Nat.le_of_ble_eq_true rfl) rfl dX5_makeOver_187 ?_
                            refine y_if_ge X 197 (¬ (tk T ((tn T) - (1)) (j)) = -1) dX5_makeOver_190 (by decide) (kgeI (by first | exact gk1 | exact gk2)) (fun c_39 => ?_) (fun c_39 => ?_)
                            ·
                              refine y_aload_n X dX5_makeOver_197 0 rfl ?_
                              refine y_get X (61) 5 1 (Cn := RX5) (T := TX5) (N := 14) (index := 13) (v := .ref (E.2.1 (63))) dX5_makeOver_198 (by omega) l0 rfl (by decide) inX5 (by decide +kernel : Cond.fieldLink RX5 13 "ColumnSeasonsModel" "then" "[I" ∈ wsX5_makeOver) rfl rfl ?_
                              refine y_iload X dX5_makeOver_201 5 rfl ?_
                              refine y_iload_n X dX5_makeOver_203 3 rfl ?_
                              refine y_iload X dX5_makeOver_204 7 rfl ?_
                              refine y_callJr X (av := [.ref (E.2.1 (63)), .int (nI (a + k)), .int (nI ((tn T) - (1))), .int (nI (j))]) [.int (nI (482 + (9) * (a + k) + 1 + j)), .ref (E.2.1 (62))] 4 (c_X5_reads (a := 63) (by omega) gT2 gv (i := a + k) (q := (tn T) - (1)) (j := j) (by omega) (by omega) (by omega) (by assumption)) gX5_makeOver_X5_reads rfl (by decide +kernel) rfl ⟨Nat.le_of_ble_eq_true rfl, Nat.le_of_ble_eq_true rfl⟩ ⟨Nat.zero_le _, Nat.zero_le _⟩ (Nat.le_of_ble_eq_true rfl) rfl dX5_makeOver_206 ?_
                              refine y_iast X (62) dX5_makeOver_209 (by omega) l2 (j := 482 + (9) * (a + k) + 1 + j) rfl (by omega) (by omega) ?_
                              refine y_mem (va_up C3 (62) (.inl (E.2.2.1 1, 698, .inl (upd zq3 (482 + (9) * (a + k) + 1 + j) (rdC T ((tn T) - (1)) (a + k) (j)))))) rfl (fun C_40 eC_41 => ?_)
                              have h_42 : C_40 (61) = .inr (5, [.ref (E.2.1 (62)), .ref (E.2.1 (63)), .ref (E.2.1 (64)), .int (nI (recN hn)), .ref (E.2.1 (65)), .int (flg sn), .ref (E.2.1 (66)), .int (nI (ln)), .int pa, .int va, .int (soM sp), .int (seM sp), .ref (E.2.1 (67)), .int tl]) := by rw [eC_41, va_up, if_neg (by omega)]; exact l0
                              have h_43 : C_40 (62) = .inl (E.2.2.1 1, 698, .inl (upd zq3 (482 + (9) * (a + k) + 1 + j) (rdC T ((tn T) - (1)) (a + k) (j)))) := by rw [eC_41, va_up, if_pos rfl]
                              have h_44 : C_40 (63) = .inl (E.2.2.1 1, 698, .inl zq20) := by rw [eC_41, va_up, if_neg (by omega)]; exact l3
                              have h_45 : C_40 (64) = .inl (E.2.2.1 1, 2792, .inl zq9) := by rw [eC_41, va_up, if_neg (by omega)]; exact l4
                              have h_46 : C_40 (65) = .inl (E.2.2.1 1, 698, .inl zs) := by rw [eC_41, va_up, if_neg (by omega)]; exact l5
                              have h_47 : C_40 (66) = .inl (E.2.2.1 1, 80, .inl zx) := by rw [eC_41, va_up, if_neg (by omega)]; exact l6
                              have h_48 : C_40 (67) = .inl (E.2.2.1 1, 84, .inl zl) := by rw [eC_41, va_up, if_neg (by omega)]; exact l7
                              refine y_iinc X [(8, .int (nI (j + 1))), (0, .ref (E.2.1 (61))), (1, .int (nI (a))), (2, .int (nI (b0))), (3, .int (nI ((tn T) - (1)))), (5, .int x5), (6, .int (nI (a + k))), (7, .int (nI (482 + (9) * (a + k))))] dX5_makeOver_210 7 rfl (nI_1 _) (by decide) rfl ?_
                              refine y_goto X 162 dX5_makeOver_213 (by decide) ?_
                              refine y_pick [1, 2, 3, 4, 5, 6, 7, 0] [(0, .ref (E.2.1 (61))), (1, .int (nI (a))), (2, .int (nI (b0))), (3, .int (nI ((tn T) - (1)))), (5, .int x5), (6, .int (nI (a + k))), (7, .int (nI (482 + (9) * (a + k)))), (8, .int (nI (j + 1)))] rfl ?_
                              exact ih162 (C_40) ((upd zq3 (482 + (9) * (a + k) + 1 + j) (rdC T ((tn T) - (1)) (a + k) (j)))) (j + 1) (by omega) h_42 h_43 h_44 h_45 h_46 h_47 h_48 (fun i9 g9 => by rw [eC_41, va_up, if_neg (by omega)]; rw [gF3 i9 g9]) (fun z q1 => by rw [pk_un (by omega)]; exact gA3 z q1) (fun z q1 => by rw [pk_un (by omega)]; exact gA4 z q1) (by rw [pk_un (by omega)]; exact gE3) (fun j2 q1 q2 => by rcases Nat.lt_or_ge j2 j with q3 | q3; rw [pk_un (by omega)]; exact gC3 j2 q3 q2; rw [show j2 = j by omega]; exact pk_us) (by omega)
                            ·
                              have c_39 := Decidable.of_not_not c_39
                              refine y_iconst X (v := (0)) dX5_makeOver_193 (by decide) ?_
                              refine y_goto X 209 dX5_makeOver_194 (by decide) ?_
                              refine y_iast X (62) dX5_makeOver_209 (by omega) l2 (j := 482 + (9) * (a + k) + 1 + j) rfl (by omega) (by omega) ?_
                              refine y_mem (va_up C3 (62) (.inl (E.2.2.1 1, 698, .inl (upd zq3 (482 + (9) * (a + k) + 1 + j) (0))))) rfl (fun C_49 eC_50 => ?_)
                              have h_51 : C_49 (61) = .inr (5, [.ref (E.2.1 (62)), .ref (E.2.1 (63)), .ref (E.2.1 (64)), .int (nI (recN hn)), .ref (E.2.1 (65)), .int (flg sn), .ref (E.2.1 (66)), .int (nI (ln)), .int pa, .int va, .int (soM sp), .int (seM sp), .ref (E.2.1 (67)), .int tl]) := by rw [eC_50, va_up, if_neg (by omega)]; exact l0
                              have h_52 : C_49 (62) = .inl (E.2.2.1 1, 698, .inl (upd zq3 (482 + (9) * (a + k) + 1 + j) (0))) := by rw [eC_50, va_up, if_pos rfl]
                              have h_53 : C_49 (63) = .inl (E.2.2.1 1, 698, .inl zq20) := by rw [eC_50, va_up, if_neg (by omega)]; exact l3
                              have h_54 : C_49 (64) = .inl (E.2.2.1 1, 2792, .inl zq9) := by rw [eC_50, va_up, if_neg (by omega)]; exact l4
                              have h_55 : C_49 (65) = .inl (E.2.2.1 1, 698, .inl zs) := by rw [eC_50, va_up, if_neg (by omega)]; exact l5
                              have h_56 : C_49 (66) = .inl (E.2.2.1 1, 80, .inl zx) := by rw [eC_50, va_up, if_neg (by omega)]; exact l6
                              have h_57 : C_49 (67) = .inl (E.2.2.1 1, 84, .inl zl) := by rw [eC_50, va_up, if_neg (by omega)]; exact l7
                              refine y_iinc X [(8, .int (nI (j + 1))), (0, .ref (E.2.1 (61))), (1, .int (nI (a))), (2, .int (nI (b0))), (3, .int (nI ((tn T) - (1)))), (5, .int x5), (6, .int (nI (a + k))), (7, .int (nI (482 + (9) * (a + k))))] dX5_makeOver_210 7 rfl (nI_1 _) (by decide) rfl ?_
                              refine y_goto X 162 dX5_makeOver_213 (by decide) ?_
                              refine y_pick [1, 2, 3, 4, 5, 6, 7, 0] [(0, .ref (E.2.1 (61))), (1, .int (nI (a))), (2, .int (nI (b0))), (3, .int (nI ((tn T) - (1)))), (5, .int x5), (6, .int (nI (a + k))), (7, .int (nI (482 + (9) * (a + k)))), (8, .int (nI (j + 1)))] rfl ?_
                              exact ih162 (C_49) ((upd zq3 (482 + (9) * (a + k) + 1 + j) (0))) (j + 1) (by omega) h_51 h_52 h_53 h_54 h_55 h_56 h_57 (fun i9 g9 => by rw [eC_50, va_up, if_neg (by omega)]; rw [gF3 i9 g9]) (fun z q1 => by rw [pk_un (by omega)]; exact gA3 z q1) (fun z q1 => by rw [pk_un (by omega)]; exact gA4 z q1) (by rw [pk_un (by omega)]; exact gE3) (fun j2 q1 q2 => by rcases Nat.lt_or_ge j2 j with q3 | q3; rw [pk_un (by omega)]; exact gC3 j2 q3 q2; rw [show j2 = j by omega]; exact absurd (by rw [show j2 = j by omega]; exact c_39) q2) (by omega)
                      refine y_pick [2, 3, 4, 5, 6, 7, 1, 0] [(0, .ref (E.2.1 (61))), (1, .int (nI (a))), (2, .int (nI (b0))), (3, .int (nI ((tn T) - (1)))), (5, .int x5), (6, .int (nI (a + k))), (7, .int (nI (482 + (9) * (a + k)))), (8, .int (0))] rfl ?_
                      exact L_162 _ (C_29) ((upd zq2 (482 + (9) * (a + k)) (nI ((tn T) - (1))))) (0) (Nat.lt_succ_self _) h_31 h_32 h_33 h_34 h_35 h_36 h_37 (fun i9 g9 => by rw [eC_30, va_up, if_neg (by omega)]; rw [gF2 i9 g9]) (fun z q1 => by rw [pk_un (by omega)]; exact gA z (by omega)) (fun z q1 => pk_un (by omega)) pk_us (fun _ q1 _ => absurd q1 (Nat.not_lt_zero _)) (by omega)
                refine y_pick [1, 2, 3, 4, 6, 0] [(0, .ref (E.2.1 (61))), (1, .int (nI (a))), (2, .int (nI (b0))), (3, .int (nI ((tn T) - (1)))), (5, .int x5), (6, .int (nI (a)))] rfl ?_
                exact L_134 _ (C_18) (zf) (0) (Nat.lt_succ_self _) h_21 h_22 h_23 h_24 h_25 h_26 h_27 (fun i9 g9 => by rw [gF20 i9 (by omega)]; rw [gF9 i9 (by omega) (by omega)]) (fun _ _ => rfl) (fun _ q1 => absurd q1 (Nat.not_lt_zero _)) (fun _ _ q1 => absurd q1 (Nat.not_lt_zero _)) (by omega)
              ·
                have c_5 := Decidable.of_not_not c_5
                refine y_sipush X (v := (-10005)) dX5_makeOver_110 (by decide) ?_
                exact y_iret X hr dX5_makeOver_113 rfl (by have ez : sMk T (nI a) (nI b0) = ((-10005), T) := (by rw [sMk, if_pos ⟨c_1, c_2⟩, ix_nI (by omega), ix_nI (by omega), if_neg (by omega), if_pos c_5]); rw [ez]; exact ⟨rfl, MX_err (by decide) gM, (fun _ _ => rfl)⟩)
            ·
              refine y_iload X dX5_makeOver_59 4 rfl ?_
              refine y_if_eq X 81 (¬ mkN T a k) dX5_makeOver_61 (by decide) (by rw [gf]; exact bI_eq) (fun c_58 => ?_) (fun c_58 => ?_)
              ·
                refine y_iconst X (v := (0)) dX5_makeOver_81 (by decide) ?_
                refine y_istore X [(4, .int (0)), (0, .ref (E.2.1 (61))), (1, .int (nI (a))), (2, .int (nI (b0))), (3, .int (nI ((tn T) - (1)))), (5, .int x5), (6, .int (nI (a + k)))] dX5_makeOver_82 (by decide) rfl ?_
                refine y_iload X dX5_makeOver_84 5 rfl ?_
                refine y_aload_n X dX5_makeOver_86 1 rfl ?_
                refine y_get X (61) 5 0 (Cn := RX5) (T := TX5) (N := 14) (index := 7) (v := .ref (E.2.1 (62))) dX5_makeOver_87 (by omega) m0 rfl (by decide) inX5 (by decide +kernel : Cond.fieldLink RX5 7 "ColumnSeasonsModel" "now" "[I" ∈ wsX5_makeOver) rfl rfl ?_
                refine y_iload X dX5_makeOver_90 6 rfl ?_
                refine y_iload_n X dX5_makeOver_92 4 rfl ?_
                refine y_callJr X (av := [.ref (E.2.1 (62)), .int (nI (a + k)), .int (nI ((tn T) - (1)))]) [.int x5] 3 (c_X5_losses (a := 62) (by omega) gT gv (i := a + k) (q := (tn T) - (1)) (by omega) (by omega)) gX5_makeOver_X5_losses rfl (by decide +kernel) rfl ⟨Nat.le_of_ble_eq_true rfl, Nat.le_of_ble_eq_true rfl⟩ ⟨Nat.zero_le _, Nat.zero_le _⟩ (Nat.le_of_ble_eq_true rfl) rfl dX5_makeOver_93 ?_
                refine y_iadd X (z := (x5 + (lsR T ((tn T) - (1)) (a + k)))) dX5_makeOver_96 rfl ?_
                refine y_istore X [(5, .int (x5 + (lsR T ((tn T) - (1)) (a + k)))), (4, .int (0)), (0, .ref (E.2.1 (61))), (1, .int (nI (a))), (2, .int (nI (b0))), (3, .int (nI ((tn T) - (1)))), (6, .int (nI (a + k)))] dX5_makeOver_97 (by decide) rfl ?_
                refine y_iinc X [(6, .int (nI (a + k + 1))), (5, .int (x5 + (lsR T ((tn T) - (1)) (a + k)))), (4, .int (0)), (0, .ref (E.2.1 (61))), (1, .int (nI (a))), (2, .int (nI (b0))), (3, .int (nI ((tn T) - (1))))] dX5_makeOver_99 6 rfl (nI_1 _) (by decide) rfl ?_
                refine y_goto X 53 dX5_makeOver_102 (by decide) ?_
                refine y_pick [3, 4, 5, 6, 2, 1, 0] [(0, .ref (E.2.1 (61))), (1, .int (nI (a))), (2, .int (nI (b0))), (3, .int (nI ((tn T) - (1)))), (4, .int (0)), (5, .int (x5 + (lsR T ((tn T) - (1)) (a + k)))), (6, .int (nI (a + k + 1)))] rfl ?_
                exact ih53 (k + 1) ((0)) ((x5 + (lsR T ((tn T) - (1)) (a + k)))) (by omega) (by omega) (bI_0 (P := mkN T a (k + 1)) (fun z => c_58 (fun z1 q1 => z z1 (by omega)))).symm (by rw [gx]; rfl)
              ·
                have c_58 := Decidable.of_not_not c_58
                have gts := gw4 (a + k) (by omega)
                refine y_aload_n X dX5_makeOver_64 0 rfl ?_
                refine y_get X (61) 5 0 (Cn := RX5) (T := TX5) (N := 14) (index := 7) (v := .ref (E.2.1 (62))) dX5_makeOver_65 (by omega) m0 rfl (by decide) inX5 (by decide +kernel : Cond.fieldLink RX5 7 "ColumnSeasonsModel" "now" "[I" ∈ wsX5_makeOver) rfl rfl ?_
                refine y_iload X dX5_makeOver_68 6 rfl ?_
                refine y_callJr X (av := [.ref (E.2.1 (62)), .int (nI (a + k))]) [] 2 (c_X5_seasonOfRow (a := 62) (by omega) gT gv (i := a + k) (by omega)) gX5_makeOver_X5_seasonOfRow rfl (by decide +kernel) rfl ⟨Nat.le_of_ble_eq_true rfl, Nat.le_of_ble_eq_true rfl⟩ ⟨Nat.zero_le _, Nat.zero_le _⟩ (Nat.le_of_ble_eq_true rfl) rfl dX5_makeOver_70 ?_
                refine y_iload_n X dX5_makeOver_73 3 rfl ?_
                refine y_icmp_ne X 81 (¬ ((ts T (a + k)) = ((tn T) - (1)))) dX5_makeOver_74 (by decide) (cNe (nI_eq (a := ts T (a + k)) (b := (tn T) - (1)) (by omega) (by omega))) (fun c_59 => ?_) (fun c_59 => ?_)
                ·
                  refine y_iconst X (v := (0)) dX5_makeOver_81 (by decide) ?_
                  refine y_istore X [(4, .int (0)), (0, .ref (E.2.1 (61))), (1, .int (nI (a))), (2, .int (nI (b0))), (3, .int (nI ((tn T) - (1)))), (5, .int x5), (6, .int (nI (a + k)))] dX5_makeOver_82 (by decide) rfl ?_
                  refine y_iload X dX5_makeOver_84 5 rfl ?_
                  refine y_aload_n X dX5_makeOver_86 1 rfl ?_
                  refine y_get X (61) 5 0 (Cn := RX5) (T := TX5) (N := 14) (index := 7) (v := .ref (E.2.1 (62))) dX5_makeOver_87 (by omega) m0 rfl (by decide) inX5 (by decide +kernel : Cond.fieldLink RX5 7 "ColumnSeasonsModel" "now" "[I" ∈ wsX5_makeOver) rfl rfl ?_
                  refine y_iload X dX5_makeOver_90 6 rfl ?_
                  refine y_iload_n X dX5_makeOver_92 4 rfl ?_
                  refine y_callJr X (av := [.ref (E.2.1 (62)), .int (nI (a + k)), .int (nI ((tn T) - (1)))]) [.int x5] 3 (c_X5_losses (a := 62) (by omega) gT gv (i := a + k) (q := (tn T) - (1)) (by omega) (by omega)) gX5_makeOver_X5_losses rfl (by decide +kernel) rfl ⟨Nat.le_of_ble_eq_true rfl, Nat.le_of_ble_eq_true rfl⟩ ⟨Nat.zero_le _, Nat.zero_le _⟩ (Nat.le_of_ble_eq_true rfl) rfl dX5_makeOver_93 ?_
                  refine y_iadd X (z := (x5 + (lsR T ((tn T) - (1)) (a + k)))) dX5_makeOver_96 rfl ?_
                  refine y_istore X [(5, .int (x5 + (lsR T ((tn T) - (1)) (a + k)))), (4, .int (0)), (0, .ref (E.2.1 (61))), (1, .int (nI (a))), (2, .int (nI (b0))), (3, .int (nI ((tn T) - (1)))), (6, .int (nI (a + k)))] dX5_makeOver_97 (by decide) rfl ?_
                  refine y_iinc X [(6, .int (nI (a + k + 1))), (5, .int (x5 + (lsR T ((tn T) - (1)) (a + k)))), (4, .int (0)), (0, .ref (E.2.1 (61))), (1, .int (nI (a))), (2, .int (nI (b0))), (3, .int (nI ((tn T) - (1))))] dX5_makeOver_99 6 rfl (nI_1 _) (by decide) rfl ?_
                  refine y_goto X 53 dX5_makeOver_102 (by decide) ?_
                  refine y_pick [3, 4, 5, 6, 2, 1, 0] [(0, .ref (E.2.1 (61))), (1, .int (nI (a))), (2, .int (nI (b0))), (3, .int (nI ((tn T) - (1)))), (4, .int (0)), (5, .int (x5 + (lsR T ((tn T) - (1)) (a + k)))), (6, .int (nI (a + k + 1)))] rfl ?_
                  exact ih53 (k + 1) ((0)) ((x5 + (lsR T ((tn T) - (1)) (a + k)))) (by omega) (by omega) (bI_0 (P := mkN T a (k + 1)) (fun z => c_59 (z k (by omega)))).symm (by rw [gx]; rfl)
                ·
                  have c_59 := Decidable.of_not_not c_59
                  refine y_iconst X (v := (1)) dX5_makeOver_77 (by decide) ?_
                  refine y_goto X 82 dX5_makeOver_78 (by decide) ?_
                  refine y_istore X [(4, .int (1)), (0, .ref (E.2.1 (61))), (1, .int (nI (a))), (2, .int (nI (b0))), (3, .int (nI ((tn T) - (1)))), (5, .int x5), (6, .int (nI (a + k)))] dX5_makeOver_82 (by decide) rfl ?_
                  refine y_iload X dX5_makeOver_84 5 rfl ?_
                  refine y_aload_n X dX5_makeOver_86 1 rfl ?_
                  refine y_get X (61) 5 0 (Cn := RX5) (T := TX5) (N := 14) (index := 7) (v := .ref (E.2.1 (62))) dX5_makeOver_87 (by omega) m0 rfl (by decide) inX5 (by decide +kernel : Cond.fieldLink RX5 7 "ColumnSeasonsModel" "now" "[I" ∈ wsX5_makeOver) rfl rfl ?_
                  refine y_iload X dX5_makeOver_90 6 rfl ?_
                  refine y_iload_n X dX5_makeOver_92 4 rfl ?_
                  refine y_callJr X (av := [.ref (E.2.1 (62)), .int (nI (a + k)), .int (nI ((tn T) - (1)))]) [.int x5] 3 (c_X5_losses (a := 62) (by omega) gT gv (i := a + k) (q := (tn T) - (1)) (by omega) (by omega)) gX5_makeOver_X5_losses rfl (by decide +kernel) rfl ⟨Nat.le_of_ble_eq_true rfl, Nat.le_of_ble_eq_true rfl⟩ ⟨Nat.zero_le _, Nat.zero_le _⟩ (Nat.le_of_ble_eq_true rfl) rfl dX5_makeOver_93 ?_
                  refine y_iadd X (z := (x5 + (lsR T ((tn T) - (1)) (a + k)))) dX5_makeOver_96 rfl ?_
                  refine y_istore X [(5, .int (x5 + (lsR T ((tn T) - (1)) (a + k)))), (4, .int (1)), (0, .ref (E.2.1 (61))), (1, .int (nI (a))), (2, .int (nI (b0))), (3, .int (nI ((tn T) - (1)))), (6, .int (nI (a + k)))] dX5_makeOver_97 (by decide) rfl ?_
                  refine y_iinc X [(6, .int (nI (a + k + 1))), (5, .int (x5 + (lsR T ((tn T) - (1)) (a + k)))), (4, .int (1)), (0, .ref (E.2.1 (61))), (1, .int (nI (a))), (2, .int (nI (b0))), (3, .int (nI ((tn T) - (1))))] dX5_makeOver_99 6 rfl (nI_1 _) (by decide) rfl ?_
                  refine y_goto X 53 dX5_makeOver_102 (by decide) ?_
                  refine y_pick [3, 4, 5, 6, 2, 1, 0] [(0, .ref (E.2.1 (61))), (1, .int (nI (a))), (2, .int (nI (b0))), (3, .int (nI ((tn T) - (1)))), (4, .int (1)), (5, .int (x5 + (lsR T ((tn T) - (1)) (a + k)))), (6, .int (nI (a + k + 1)))] rfl ?_
                  exact ih53 (k + 1) ((1)) ((x5 + (lsR T ((tn T) - (1)) (a + k)))) (by omega) (by omega) (bI_1 (P := mkN T a (k + 1)) (fun z q1 => by rcases Nat.lt_or_ge z k with q3 | q3; exact c_58 z q3; rw [show z = k by omega]; exact c_59)).symm (by rw [gx]; rfl)
        refine y_pick [4, 5, 6, 3, 2, 1, 0] [(0, .ref (E.2.1 (61))), (1, .int (nI (a))), (2, .int (nI (b0))), (3, .int (nI ((tn T) - (1)))), (4, .int (1)), (5, .int (0)), (6, .int (nI (a)))] rfl ?_
        exact L_53 _ (0) (1) (0) (Nat.lt_succ_self _) (by omega) (bI_1 (P := mkN T a 0) (fun _ q => absurd q (Nat.not_lt_zero _))).symm rfl
      ·
        refine y_sipush X (v := (-10002)) dX5_makeOver_31 (by decide) ?_
        exact y_iret X hr dX5_makeOver_34 rfl (by have ez : sMk T (nI a) (nI b0) = ((-10002), T) := (by rw [sMk, if_pos ⟨c_1, c_2⟩, ix_nI (by omega), ix_nI (by omega), if_pos (by omega)]); rw [ez]; exact ⟨rfl, MX_err (by decide) gM, (fun _ _ => rfl)⟩)
    ·
      refine y_sipush X (v := (-10001)) dX5_makeOver_22 (by decide) ?_
      exact y_iret X hr dX5_makeOver_25 rfl (by have ez : sMk T (nI a) y = ((-10001), T) := (by rw [sMk, if_neg (fun z => c_2 z.2)]); rw [ez]; exact ⟨rfl, MX_err (by decide) gM, (fun _ _ => rfl)⟩)

set_option maxRecDepth 100000 in
set_option maxHeartbeats 4000000 in
theorem c_X5_forget {l : Launch} {E : xE} {C : xC} {T : Tb} {hh : Nat → Tb} {hn : Nat} {sn : Option Tb} {tx : Nat → Int32} {ln : Nat} {sp : Option (Nat × Int32)} (gM : MX E C T hh hn sn tx ln sp) (gW : WX T hh hn sn tx ln sp) : xM E l yX5_forget wsX5_forget 2 45 [.ref (E.2.1 (61))] C (fun v C1 => v = some (.int ((sFor T).1)) ∧ MX E C1 (acT (sFor T) T) (acH (sFor T) T hh hn) (acN (sFor T) hn) (sn) (tx) (ln) (sp) ∧ (∀ i : Nat, i < 61 → C1 i = C i)) := by
  obtain ⟨zf, zt, zp, zs, zx, zl, pa, va, tl, m0, h2, h3, h4, h5, h6, h7, gRT, gPH, gSN, gTX⟩ := id gM
  obtain ⟨gv, gn4, gWH, gWS, gl80, gch, gsp⟩ := id gW
  have gT : RM E C 62 T := ⟨zf, h2, gRT⟩
  obtain ⟨gw1, gw2, gw3, gw4⟩ := id gv.1
  refine xM_ofY (cc := cX5_forget) (maxL := 3) (ret := (some .int)) (by decide) rfl (Nat.le_of_ble_eq_true rfl) ?_
  intro p e s m args below meth c X hr
  have inX5 : ∀ w ∈ wsX50, w ∈ wsX5_forget := by decide +kernel
  refine y_lv [(0, .ref (E.2.1 (61)))] rfl ?_
  refine y_iconst X (v := (0)) dX5_forget_0 (by decide) ?_
  refine y_istore_n X [(1, .int (0)), (0, .ref (E.2.1 (61)))] dX5_forget_1 rfl (by decide) rfl ?_
  have L_2 : ∀ (n : Nat) (n1 : Nat), tn T - 1 - n1 < n → (n1 ≤ tn T - 1) → (∀ q : Nat, q < n1 → ∀ i : Nat, i < tr T → ¬ ts T i = q) → xY p l e ({ frames := 2, cells := 0, slots := 0, locals := 45 } : Room) s m args below meth c E (xA E) 3 0 0 (MQ below (xQ E (fun v C1 => v = some (.int ((sFor T).1)) ∧ MX E C1 (acT (sFor T) T) (acH (sFor T) T hh hn) (acN (sFor T) hn) (sn) (tx) (ln) (sp) ∧ (∀ i : Nat, i < 61 → C1 i = C i))) args s 0 0 (xA E)) C 2 [(0, .ref (E.2.1 (61))), (1, .int (nI (n1)))] [] := by
    intro n2
    induction n2 with
    | zero => intro _ hm2; exact absurd hm2 (Nat.not_lt_zero _)
    | succ n2 ih2 =>
      intro n1 hm2 gn1 gno
      refine y_iload_n X dX5_forget_2 1 rfl ?_
      refine y_aload_n X dX5_forget_3 0 rfl ?_
      refine y_get X (61) 5 0 (Cn := RX5) (T := TX5) (N := 14) (index := 7) (v := .ref (E.2.1 (62))) dX5_forget_4 (by omega) m0 rfl (by decide) inX5 (by decide +kernel : Cond.fieldLink RX5 7 "ColumnSeasonsModel" "now" "[I" ∈ wsX5_forget) rfl rfl ?_
      refine y_iconst X (v := (0)) dX5_forget_7 (by decide) ?_
      refine y_iald X (62) dX5_forget_8 (by omega) h2 (j := 0) rfl (by omega) (by omega) (z := (nI (tn T))) gRT.1 ?_
      refine y_iconst X (v := (1)) dX5_forget_9 (by decide) ?_
      refine y_isub X (z := (nI ((tn T) - (1)))) dX5_forget_10 (pk_sub (a := tn T) (b := 1) (by omega)) ?_
      refine y_icmp_ge X 28 (((tn T) - (1)) ≤ (n1)) dX5_forget_11 (by decide) (nI_leI (a := (tn T) - (1)) (b := n1) (by omega) (by omega)) (fun c_1 => ?_) (fun c_1 => ?_)
      ·
        have gfm : fgm T = n1 := fgm_is gn1 (fun q q1 i q2 => gno q q1 i q2) (Or.inl (by omega))
        have gle : ∀ i : Nat, i < tr T → n1 ≤ ts T i := by rw [← gfm]; exact (fgF_le (T := T) (tr T)).2
        refine y_iload_n X dX5_forget_28 1 rfl ?_
        refine y_if_ne X 36 (¬ ((n1) = (0))) dX5_forget_29 (by decide) (cNe (nI_eq (a := n1) (b := 0) (by omega) (by omega))) (fun c_2 => ?_) (fun c_2 => ?_)
        ·
          refine y_aload_n X dX5_forget_36 0 rfl ?_
          refine y_callV X (61) 5 (av := []) [] 0 (c_X5_records gv gWH gn4 m0 h2 h4 gRT gPH) (by omega) m0 rfl gX5_forget_X5_records rfl (by decide +kernel) rfl ⟨Nat.le_of_ble_eq_true rfl, Nat.le_of_ble_eq_true rfl⟩ ⟨Nat.zero_le _, Nat.zero_le _⟩ (Nat.le_of_ble_eq_true rfl) rfl dX5_forget_37 (fun v_3 C_4 hp_5 => ?_)
          obtain ⟨gv9, hr6, ⟨zq6, hq6, gP6⟩, gF6⟩ := hp_5
          subst gv9
          have h_7 : C_4 (61) = .inr (5, [.ref (E.2.1 (62)), .ref (E.2.1 (63)), .ref (E.2.1 (64)), .int (nI (recN hn)), .ref (E.2.1 (65)), .int (flg sn), .ref (E.2.1 (66)), .int (nI (ln)), .int pa, .int va, .int (soM sp), .int (seM sp), .ref (E.2.1 (67)), .int tl]) := hr6
          have h_8 : C_4 (62) = .inl (E.2.2.1 1, 698, .inl zf) := (gF6 _ (by omega) (by omega)).trans h2
          have h_9 : C_4 (63) = .inl (E.2.2.1 1, 698, .inl zt) := (gF6 _ (by omega) (by omega)).trans h3
          have h_10 : C_4 (64) = .inl (E.2.2.1 1, 2792, .inl zq6) := hq6
          have h_11 : C_4 (65) = .inl (E.2.2.1 1, 698, .inl zs) := (gF6 _ (by omega) (by omega)).trans h5
          have h_12 : C_4 (66) = .inl (E.2.2.1 1, 80, .inl zx) := (gF6 _ (by omega) (by omega)).trans h6
          have h_13 : C_4 (67) = .inl (E.2.2.1 1, 84, .inl zl) := (gF6 _ (by omega) (by omega)).trans h7
          refine y_aload_n X dX5_forget_40 0 rfl ?_
          refine y_get X (61) 5 0 (Cn := RX5) (T := TX5) (N := 14) (index := 7) (v := .ref (E.2.1 (62))) dX5_forget_41 (by omega) h_7 rfl (by decide) inX5 (by decide +kernel : Cond.fieldLink RX5 7 "ColumnSeasonsModel" "now" "[I" ∈ wsX5_forget) rfl rfl ?_
          refine y_iconst X (v := (0)) dX5_forget_44 (by decide) ?_
          refine y_dup2 X dX5_forget_45 rfl rfl ?_
          refine y_iald X (62) dX5_forget_46 (by omega) h_8 (j := 0) rfl (by omega) (by omega) (z := (nI (tn T))) gRT.1 ?_
          refine y_iload_n X dX5_forget_47 1 rfl ?_
          refine y_isub X (z := (nI ((tn T) - (n1)))) dX5_forget_48 (pk_sub (a := tn T) (b := n1) (by omega)) ?_
          refine y_iast X (62) dX5_forget_49 (by omega) h_8 (j := 0) rfl (by omega) (by omega) ?_
          refine y_mem (va_up C_4 (62) (.inl (E.2.2.1 1, 698, .inl (upd zf (0) (nI ((tn T) - (n1))))))) rfl (fun C_14 eC_15 => ?_)
          have h_16 : C_14 (61) = .inr (5, [.ref (E.2.1 (62)), .ref (E.2.1 (63)), .ref (E.2.1 (64)), .int (nI (recN hn)), .ref (E.2.1 (65)), .int (flg sn), .ref (E.2.1 (66)), .int (nI (ln)), .int pa, .int va, .int (soM sp), .int (seM sp), .ref (E.2.1 (67)), .int tl]) := by rw [eC_15, va_up, if_neg (by omega)]; exact h_7
          have h_17 : C_14 (62) = .inl (E.2.2.1 1, 698, .inl (upd zf (0) (nI ((tn T) - (n1))))) := by rw [eC_15, va_up, if_pos rfl]
          have h_18 : C_14 (63) = .inl (E.2.2.1 1, 698, .inl zt) := by rw [eC_15, va_up, if_neg (by omega)]; exact h_9
          have h_19 : C_14 (64) = .inl (E.2.2.1 1, 2792, .inl zq6) := by rw [eC_15, va_up, if_neg (by omega)]; exact h_10
          have h_20 : C_14 (65) = .inl (E.2.2.1 1, 698, .inl zs) := by rw [eC_15, va_up, if_neg (by omega)]; exact h_11
          have h_21 : C_14 (66) = .inl (E.2.2.1 1, 80, .inl zx) := by rw [eC_15, va_up, if_neg (by omega)]; exact h_12
          have h_22 : C_14 (67) = .inl (E.2.2.1 1, 84, .inl zl) := by rw [eC_15, va_up, if_neg (by omega)]; exact h_13
          refine y_iconst X (v := (2)) dX5_forget_50 (by decide) ?_
          refine y_istore_n X [(2, .int (2)), (0, .ref (E.2.1 (61))), (1, .int (nI (n1)))] dX5_forget_51 rfl (by decide) rfl ?_
          have L_52 : ∀ (n : Nat) (C2 : xC) (zq2 : Nat → Int32) (k : Nat), 16 * (tn T - n1) - k < n → (C2 (61) = .inr (5, [.ref (E.2.1 (62)), .ref (E.2.1 (63)), .ref (E.2.1 (64)), .int (nI (recN hn)), .ref (E.2.1 (65)), .int (flg sn), .ref (E.2.1 (66)), .int (nI (ln)), .int pa, .int va, .int (soM sp), .int (seM sp), .ref (E.2.1 (67)), .int tl])) → (C2 (62) = .inl (E.2.2.1 1, 698, .inl zq2)) → (C2 (63) = .inl (E.2.2.1 1, 698, .inl zt)) → (C2 (64) = .inl (E.2.2.1 1, 2792, .inl zq6)) → (C2 (65) = .inl (E.2.2.1 1, 698, .inl zs)) → (C2 (66) = .inl (E.2.2.1 1, 80, .inl zx)) → (C2 (67) = .inl (E.2.2.1 1, 84, .inl zl)) → ((∀ i9 : Nat, i9 < 61 → C2 i9 = C i9)) → (zq2 0 = nI (tn T - n1)) → (∀ z : Nat, 2 ≤ z → z < 2 + k → zq2 z = zf (z + 16 * n1)) → (∀ z : Nat, (z = 1 ∨ 2 + k ≤ z) → zq2 z = zf z) → (k ≤ 16 * (tn T - n1)) → xY p l e ({ frames := 2, cells := 0, slots := 0, locals := 45 } : Room) s m args below meth c E (xA E) 3 0 0 (MQ below (xQ E (fun v C1 => v = some (.int ((sFor T).1)) ∧ MX E C1 (acT (sFor T) T) (acH (sFor T) T hh hn) (acN (sFor T) hn) (sn) (tx) (ln) (sp) ∧ (∀ i : Nat, i < 61 → C1 i = C i))) args s 0 0 (xA E)) C2 52 [(0, .ref (E.2.1 (61))), (1, .int (nI (n1))), (2, .int (nI (2 + k)))] [] := by
            intro n52
            induction n52 with
            | zero => intro _ _ _ hm52; exact absurd hm52 (Nat.not_lt_zero _)
            | succ n52 ih52 =>
              intro C2 zq2 k hm52 k0 k2 k3 k4 k5 k6 k7 gF2 gE gA gB gk
              refine y_iload_n X dX5_forget_52 2 rfl ?_
              refine y_iconst X (v := (2)) dX5_forget_53 (by decide) ?_
              refine y_bipush X (v := (16)) dX5_forget_54 (by decide) ?_
              refine y_aload_n X dX5_forget_56 0 rfl ?_
              refine y_get X (61) 5 0 (Cn := RX5) (T := TX5) (N := 14) (index := 7) (v := .ref (E.2.1 (62))) dX5_forget_57 (by omega) k0 rfl (by decide) inX5 (by decide +kernel : Cond.fieldLink RX5 7 "ColumnSeasonsModel" "now" "[I" ∈ wsX5_forget) rfl rfl ?_
              refine y_iconst X (v := (0)) dX5_forget_60 (by decide) ?_
              refine y_iald X (62) dX5_forget_61 (by omega) k2 (j := 0) rfl (by omega) (by omega) (z := (nI (tn T - n1))) gE ?_
              refine y_imul X (z := (nI ((16) * (tn T - n1)))) dX5_forget_62 (pk_mul (16) (tn T - n1)) ?_
              refine y_iadd X (z := (nI (2 + (16) * (tn T - n1)))) dX5_forget_63 (nI_add (2) ((16) * (tn T - n1))) ?_
              refine y_icmp_ge X 90 ((2 + (16) * (tn T - n1)) ≤ (2 + k)) dX5_forget_64 (by decide) (nI_leI (a := 2 + (16) * (tn T - n1)) (b := 2 + k) (by omega) (by omega)) (fun c_23 => ?_) (fun c_23 => ?_)
              ·
                refine y_iconst X (v := (0)) dX5_forget_90 (by decide) ?_
                refine y_istore_n X [(2, .int (0)), (0, .ref (E.2.1 (61))), (1, .int (nI (n1)))] dX5_forget_91 rfl (by decide) rfl ?_
                have L_92 : ∀ (n : Nat) (C3 : xC) (zq3 : Nat → Int32) (k : Nat), tr T - k < n → (C3 (61) = .inr (5, [.ref (E.2.1 (62)), .ref (E.2.1 (63)), .ref (E.2.1 (64)), .int (nI (recN hn)), .ref (E.2.1 (65)), .int (flg sn), .ref (E.2.1 (66)), .int (nI (ln)), .int pa, .int va, .int (soM sp), .int (seM sp), .ref (E.2.1 (67)), .int tl])) → (C3 (62) = .inl (E.2.2.1 1, 698, .inl zq3)) → (C3 (63) = .inl (E.2.2.1 1, 698, .inl zt)) → (C3 (64) = .inl (E.2.2.1 1, 2792, .inl zq6)) → (C3 (65) = .inl (E.2.2.1 1, 698, .inl zs)) → (C3 (66) = .inl (E.2.2.1 1, 80, .inl zx)) → (C3 (67) = .inl (E.2.2.1 1, 84, .inl zl)) → ((∀ i9 : Nat, i9 < 61 → C3 i9 = C i9)) → (∀ z : Nat, z < 482 → zq3 z = zq2 z) → (∀ i2 : Nat, i2 < k → zq3 (482 + 9 * i2) = nI (ts T i2 - n1)) → (∀ i2 : Nat, k ≤ i2 → zq3 (482 + 9 * i2) = zq2 (482 + 9 * i2)) → (∀ i2 j2 : Nat, j2 < 8 → zq3 (482 + 9 * i2 + 1 + j2) = zq2 (482 + 9 * i2 + 1 + j2)) → (k ≤ tr T) → xY p l e ({ frames := 2, cells := 0, slots := 0, locals := 45 } : Room) s m args below meth c E (xA E) 3 0 0 (MQ below (xQ E (fun v C1 => v = some (.int ((sFor T).1)) ∧ MX E C1 (acT (sFor T) T) (acH (sFor T) T hh hn) (acN (sFor T) hn) (sn) (tx) (ln) (sp) ∧ (∀ i : Nat, i < 61 → C1 i = C i))) args s 0 0 (xA E)) C3 92 [(0, .ref (E.2.1 (61))), (1, .int (nI (n1))), (2, .int (nI (k)))] [] := by
                  intro n92
                  induction n92 with
                  | zero => intro _ _ _ hm92; exact absurd hm92 (Nat.not_lt_zero _)
                  | succ n92 ih92 =>
                    intro C3 zq3 k hm92 l0 l2 l3 l4 l5 l6 l7 gF3 gE3 gA3 gB3 gC3 gk3
                    refine y_iload_n X dX5_forget_92 2 rfl ?_
                    refine y_aload_n X dX5_forget_93 0 rfl ?_
                    refine y_get X (61) 5 0 (Cn := RX5) (T := TX5) (N := 14) (index := 7) (v := .ref (E.2.1 (62))) dX5_forget_94 (by omega) l0 rfl (by decide) inX5 (by decide +kernel : Cond.fieldLink RX5 7 "ColumnSeasonsModel" "now" "[I" ∈ wsX5_forget) rfl rfl ?_
                    refine y_iconst X (v := (1)) dX5_forget_97 (by decide) ?_
                    refine y_iald X (62) dX5_forget_98 (by omega) l2 (j := 1) rfl (by omega) (by omega) (z := (nI (tr T))) ((gE3 1 (by omega)).trans ((gB 1 (by omega)).trans gRT.2.1)) ?_
                    refine y_icmp_ge X 125 ((tr T) ≤ (k)) dX5_forget_99 (by decide) (nI_leI (a := tr T) (b := k) (by omega) (by omega)) (fun c_24 => ?_) (fun c_24 => ?_)
                    ·
                      refine y_iload_n X dX5_forget_125 1 rfl ?_
                      exact y_iret X hr dX5_forget_126 rfl (by have ez : sFor T = (nI n1, fgt T n1) := (by rw [sFor, gfm, if_neg (by omega)]); rw [ez]; exact ⟨rfl, MX_ok (act_pos (by omega)) ⟨_, _, _, _, _, _, _, _, _, l0, l2, l3, l4, l5, l6, l7, (fgtM gRT gv.1 (by omega) gle ((gE3 0 (by omega)).trans gE) ((gE3 1 (by omega)).trans (gB 1 (by omega))) (fun z q1 q2 => by rw [gE3 z (by omega)]; exact gA z q1 (by omega)) (fun i q1 => gA3 i (by omega)) (fun i j q1 q2 => by rw [gC3 i j q2]; exact gB _ (by omega))), gP6, gSN, gTX⟩, gF3⟩)
                    ·
                      have gts := gw4 k (by omega)
                      have gts2 := gle k (by omega)
                      refine y_aload_n X dX5_forget_102 0 rfl ?_
                      refine y_get X (61) 5 0 (Cn := RX5) (T := TX5) (N := 14) (index := 7) (v := .ref (E.2.1 (62))) dX5_forget_103 (by omega) l0 rfl (by decide) inX5 (by decide +kernel : Cond.fieldLink RX5 7 "ColumnSeasonsModel" "now" "[I" ∈ wsX5_forget) rfl rfl ?_
                      refine y_sipush X (v := (482)) dX5_forget_106 (by decide) ?_
                      refine y_bipush X (v := (9)) dX5_forget_109 (by decide) ?_
                      refine y_iload_n X dX5_forget_111 2 rfl ?_
                      refine y_imul X (z := (nI ((9) * (k)))) dX5_forget_112 (pk_mul (9) (k)) ?_
                      refine y_iadd X (z := (nI (482 + (9) * (k)))) dX5_forget_113 (nI_add (482) ((9) * (k))) ?_
                      refine y_dup2 X dX5_forget_114 rfl rfl ?_
                      refine y_iald X (62) dX5_forget_115 (by omega) l2 (j := 482 + (9) * (k)) rfl (by omega) (by omega) (z := (nI (ts T k))) (by rw [gB3 k (Nat.le_refl _), gB _ (by omega)]; exact gRT.2.2.2.2.1 k (by omega)) ?_
                      refine y_iload_n X dX5_forget_116 1 rfl ?_
                      refine y_isub X (z := (nI ((ts T k) - (n1)))) dX5_forget_117 (pk_sub (a := ts T k) (b := n1) (by omega)) ?_
                      refine y_iast X (62) dX5_forget_118 (by omega) l2 (j := 482 + (9) * (k)) rfl (by omega) (by omega) ?_
                      refine y_mem (va_up C3 (62) (.inl (E.2.2.1 1, 698, .inl (upd zq3 (482 + (9) * (k)) (nI ((ts T k) - (n1))))))) rfl (fun C_25 eC_26 => ?_)
                      have h_27 : C_25 (61) = .inr (5, [.ref (E.2.1 (62)), .ref (E.2.1 (63)), .ref (E.2.1 (64)), .int (nI (recN hn)), .ref (E.2.1 (65)), .int (flg sn), .ref (E.2.1 (66)), .int (nI (ln)), .int pa, .int va, .int (soM sp), .int (seM sp), .ref (E.2.1 (67)), .int tl]) := by rw [eC_26, va_up, if_neg (by omega)]; exact l0
                      have h_28 : C_25 (62) = .inl (E.2.2.1 1, 698, .inl (upd zq3 (482 + (9) * (k)) (nI ((ts T k) - (n1))))) := by rw [eC_26, va_up, if_pos rfl]
                      have h_29 : C_25 (63) = .inl (E.2.2.1 1, 698, .inl zt) := by rw [eC_26, va_up, if_neg (by omega)]; exact l3
                      have h_30 : C_25 (64) = .inl (E.2.2.1 1, 2792, .inl zq6) := by rw [eC_26, va_up, if_neg (by omega)]; exact l4
                      have h_31 : C_25 (65) = .inl (E.2.2.1 1, 698, .inl zs) := by rw [eC_26, va_up, if_neg (by omega)]; exact l5
                      have h_32 : C_25 (66) = .inl (E.2.2.1 1, 80, .inl zx) := by rw [eC_26, va_up, if_neg (by omega)]; exact l6
                      have h_33 : C_25 (67) = .inl (E.2.2.1 1, 84, .inl zl) := by rw [eC_26, va_up, if_neg (by omega)]; exact l7
                      refine y_iinc X [(2, .int (nI (k + 1))), (0, .ref (E.2.1 (61))), (1, .int (nI (n1)))] dX5_forget_119 2 rfl (nI_1 _) (by decide) rfl ?_
                      refine y_goto X 92 dX5_forget_122 (by decide) ?_
                      refine y_pick [1, 2, 0] [(0, .ref (E.2.1 (61))), (1, .int (nI (n1))), (2, .int (nI (k + 1)))] rfl ?_
                      exact ih92 (C_25) ((upd zq3 (482 + (9) * (k)) (nI ((ts T k) - (n1))))) (k + 1) (by omega) h_27 h_28 h_29 h_30 h_31 h_32 h_33 (fun i9 g9 => by rw [eC_26, va_up, if_neg (by omega)]; rw [gF3 i9 g9]) (fun z q1 => by rw [pk_un (by omega)]; exact gE3 z q1) (fun i2 q1 => by rcases Nat.lt_or_ge i2 k with q3 | q3; rw [pk_un (by omega)]; exact gA3 i2 q3; rw [show i2 = k by omega, pk_us]) (fun i2 q1 => by rw [pk_un (by omega)]; exact gB3 i2 (by omega)) (fun i2 j2 q1 => by rw [pk_un (by omega)]; exact gC3 i2 j2 q1) (by omega)
                refine y_pick [1, 2, 0] [(0, .ref (E.2.1 (61))), (1, .int (nI (n1))), (2, .int (0))] rfl ?_
                exact L_92 _ (C2) (zq2) (0) (Nat.lt_succ_self _) k0 k2 k3 k4 k5 k6 k7 (fun i9 g9 => by rw [gF2 i9 g9]) (fun _ _ => rfl) (fun _ q1 => absurd q1 (Nat.not_lt_zero _)) (fun _ _ => rfl) (fun _ _ _ => rfl) (by omega)
              ·
                refine y_aload_n X dX5_forget_67 0 rfl ?_
                refine y_get X (61) 5 0 (Cn := RX5) (T := TX5) (N := 14) (index := 7) (v := .ref (E.2.1 (62))) dX5_forget_68 (by omega) k0 rfl (by decide) inX5 (by decide +kernel : Cond.fieldLink RX5 7 "ColumnSeasonsModel" "now" "[I" ∈ wsX5_forget) rfl rfl ?_
                refine y_iload_n X dX5_forget_71 2 rfl ?_
                refine y_aload_n X dX5_forget_72 0 rfl ?_
                refine y_get X (61) 5 0 (Cn := RX5) (T := TX5) (N := 14) (index := 7) (v := .ref (E.2.1 (62))) dX5_forget_73 (by omega) k0 rfl (by decide) inX5 (by decide +kernel : Cond.fieldLink RX5 7 "ColumnSeasonsModel" "now" "[I" ∈ wsX5_forget) rfl rfl ?_
                refine y_iload_n X dX5_forget_76 2 rfl ?_
                refine y_bipush X (v := (16)) dX5_forget_77 (by decide) ?_
                refine y_iload_n X dX5_forget_79 1 rfl ?_
                refine y_imul X (z := (nI ((16) * (n1)))) dX5_forget_80 (pk_mul (16) (n1)) ?_
                refine y_iadd X (z := (nI (2 + k + (16) * (n1)))) dX5_forget_81 (nI_add (2 + k) ((16) * (n1))) ?_
                refine y_iald X (62) dX5_forget_82 (by omega) k2 (j := 2 + k + (16) * (n1)) rfl (by omega) (by omega) (z := (zq2 (2 + k + (16) * (n1)))) rfl ?_
                refine y_iast X (62) dX5_forget_83 (by omega) k2 (j := 2 + k) rfl (by omega) (by omega) ?_
                refine y_mem (va_up C2 (62) (.inl (E.2.2.1 1, 698, .inl (upd zq2 (2 + k) (zq2 (2 + k + (16) * (n1))))))) rfl (fun C_34 eC_35 => ?_)
                have h_36 : C_34 (61) = .inr (5, [.ref (E.2.1 (62)), .ref (E.2.1 (63)), .ref (E.2.1 (64)), .int (nI (recN hn)), .ref (E.2.1 (65)), .int (flg sn), .ref (E.2.1 (66)), .int (nI (ln)), .int pa, .int va, .int (soM sp), .int (seM sp), .ref (E.2.1 (67)), .int tl]) := by rw [eC_35, va_up, if_neg (by omega)]; exact k0
                have h_37 : C_34 (62) = .inl (E.2.2.1 1, 698, .inl (upd zq2 (2 + k) (zq2 (2 + k + (16) * (n1))))) := by rw [eC_35, va_up, if_pos rfl]
                have h_38 : C_34 (63) = .inl (E.2.2.1 1, 698, .inl zt) := by rw [eC_35, va_up, if_neg (by omega)]; exact k3
                have h_39 : C_34 (64) = .inl (E.2.2.1 1, 2792, .inl zq6) := by rw [eC_35, va_up, if_neg (by omega)]; exact k4
                have h_40 : C_34 (65) = .inl (E.2.2.1 1, 698, .inl zs) := by rw [eC_35, va_up, if_neg (by omega)]; exact k5
                have h_41 : C_34 (66) = .inl (E.2.2.1 1, 80, .inl zx) := by rw [eC_35, va_up, if_neg (by omega)]; exact k6
                have h_42 : C_34 (67) = .inl (E.2.2.1 1, 84, .inl zl) := by rw [eC_35, va_up, if_neg (by omega)]; exact k7
                refine y_iinc X [(2, .int (nI (2 + k + 1))), (0, .ref (E.2.1 (61))), (1, .int (nI (n1)))] dX5_forget_84 2 rfl (nI_1 _) (by decide) rfl ?_
                refine y_goto X 52 dX5_forget_87 (by decide) ?_
                refine y_pick [1, 2, 0] [(0, .ref (E.2.1 (61))), (1, .int (nI (n1))), (2, .int (nI (2 + k + 1)))] rfl ?_
                exact ih52 (C_34) ((upd zq2 (2 + k) (zq2 (2 + k + (16) * (n1))))) (k + 1) (by omega) h_36 h_37 h_38 h_39 h_40 h_41 h_42 (fun i9 g9 => by rw [eC_35, va_up, if_neg (by omega)]; rw [gF2 i9 g9]) (by rw [pk_un (by omega)]; exact gE) (fun z q1 q2 => by rcases Nat.lt_or_ge z (2 + k) with q3 | q3; rw [pk_un (by omega)]; exact gA z q1 q3; rw [show z = 2 + k by omega, pk_us]; exact gB _ (by omega)) (fun z q1 => by rw [pk_un (by omega)]; exact gB z (by omega)) (by omega)
          refine y_pick [1, 2, 0] [(0, .ref (E.2.1 (61))), (1, .int (nI (n1))), (2, .int (2))] rfl ?_
          exact L_52 _ (C_14) ((upd zf (0) (nI ((tn T) - (n1))))) (0) (Nat.lt_succ_self _) h_16 h_17 h_18 h_19 h_20 h_21 h_22 (fun i9 g9 => by rw [eC_15, va_up, if_neg (by omega)]; rw [gF6 i9 (by omega) (by omega)]) pk_us (fun z q1 q2 => absurd q2 (by omega)) (fun z q1 => pk_un (by omega)) (by omega)
        ·
          have c_2 := Decidable.of_not_not c_2
          refine y_sipush X (v := (-10005)) dX5_forget_32 (by decide) ?_
          exact y_iret X hr dX5_forget_35 rfl (by have ez : sFor T = ((-10005), T) := (by rw [sFor, gfm, if_pos (by omega)]); rw [ez]; exact ⟨rfl, MX_err (by decide) gM, (fun _ _ => rfl)⟩)
      ·
        refine y_aload_n X dX5_forget_14 0 rfl ?_
        refine y_iload_n X dX5_forget_15 1 rfl ?_
        refine y_callVr X (61) 5 (av := [.int (nI (n1))]) [] 1 (c_X5_wearers m0 gT gv (q := n1)) (by omega) m0 rfl gX5_forget_X5_wearers rfl (by decide +kernel) rfl ⟨Nat.le_of_ble_eq_true rfl, Nat.le_of_ble_eq_true rfl⟩ ⟨Nat.zero_le _, Nat.zero_le _⟩ (Nat.le_of_ble_eq_true rfl) rfl dX5_forget_16 ?_
        refine y_if_ne X 28 (¬ ((wear T (n1)) = (0))) dX5_forget_19 (by decide) Iff.rfl (fun c_43 => ?_) (fun c_43 => ?_)
        ·
          have gfm : fgm T = n1 := fgm_is gn1 (fun q q1 i q2 => gno q q1 i q2) (Or.inr (Decidable.by_contra (fun z => c_43 ((wear_0 gv.1 (by omega)).mpr (fun i q1 q2 => z ⟨i, q1, q2⟩)))))
          have gle : ∀ i : Nat, i < tr T → n1 ≤ ts T i := by rw [← gfm]; exact (fgF_le (T := T) (tr T)).2
          refine y_iload_n X dX5_forget_28 1 rfl ?_
          refine y_if_ne X 36 (¬ ((n1) = (0))) dX5_forget_29 (by decide) (cNe (nI_eq (a := n1) (b := 0) (by omega) (by omega))) (fun c_44 => ?_) (fun c_44 => ?_)
          ·
            refine y_aload_n X dX5_forget_36 0 rfl ?_
            refine y_callV X (61) 5 (av := []) [] 0 (c_X5_records gv gWH gn4 m0 h2 h4 gRT gPH) (by omega) m0 rfl gX5_forget_X5_records rfl (by decide +kernel) rfl ⟨Nat.le_of_ble_eq_true rfl, Nat.le_of_ble_eq_true rfl⟩ ⟨Nat.zero_le _, Nat.zero_le _⟩ (Nat.le_of_ble_eq_true rfl) rfl dX5_forget_37 (fun v_45 C_46 hp_47 => ?_)
            obtain ⟨gv9, hr48, ⟨zq48, hq48, gP48⟩, gF48⟩ := hp_47
            subst gv9
            have h_49 : C_46 (61) = .inr (5, [.ref (E.2.1 (62)), .ref (E.2.1 (63)), .ref (E.2.1 (64)), .int (nI (recN hn)), .ref (E.2.1 (65)), .int (flg sn), .ref (E.2.1 (66)), .int (nI (ln)), .int pa, .int va, .int (soM sp), .int (seM sp), .ref (E.2.1 (67)), .int tl]) := hr48
            have h_50 : C_46 (62) = .inl (E.2.2.1 1, 698, .inl zf) := (gF48 _ (by omega) (by omega)).trans h2
            have h_51 : C_46 (63) = .inl (E.2.2.1 1, 698, .inl zt) := (gF48 _ (by omega) (by omega)).trans h3
            have h_52 : C_46 (64) = .inl (E.2.2.1 1, 2792, .inl zq48) := hq48
            have h_53 : C_46 (65) = .inl (E.2.2.1 1, 698, .inl zs) := (gF48 _ (by omega) (by omega)).trans h5
            have h_54 : C_46 (66) = .inl (E.2.2.1 1, 80, .inl zx) := (gF48 _ (by omega) (by omega)).trans h6
            have h_55 : C_46 (67) = .inl (E.2.2.1 1, 84, .inl zl) := (gF48 _ (by omega) (by omega)).trans h7
            refine y_aload_n X dX5_forget_40 0 rfl ?_
            refine y_get X (61) 5 0 (Cn := RX5) (T := TX5) (N := 14) (index := 7) (v := .ref (E.2.1 (62))) dX5_forget_41 (by omega) h_49 rfl (by decide) inX5 (by decide +kernel : Cond.fieldLink RX5 7 "ColumnSeasonsModel" "now" "[I" ∈ wsX5_forget) rfl rfl ?_
            refine y_iconst X (v := (0)) dX5_forget_44 (by decide) ?_
            refine y_dup2 X dX5_forget_45 rfl rfl ?_
            refine y_iald X (62) dX5_forget_46 (by omega) h_50 (j := 0) rfl (by omega) (by omega) (z := (nI (tn T))) gRT.1 ?_
            refine y_iload_n X dX5_forget_47 1 rfl ?_
            refine y_isub X (z := (nI ((tn T) - (n1)))) dX5_forget_48 (pk_sub (a := tn T) (b := n1) (by omega)) ?_
            refine y_iast X (62) dX5_forget_49 (by omega) h_50 (j := 0) rfl (by omega) (by omega) ?_
            refine y_mem (va_up C_46 (62) (.inl (E.2.2.1 1, 698, .inl (upd zf (0) (nI ((tn T) - (n1))))))) rfl (fun C_56 eC_57 => ?_)
            have h_58 : C_56 (61) = .inr (5, [.ref (E.2.1 (62)), .ref (E.2.1 (63)), .ref (E.2.1 (64)), .int (nI (recN hn)), .ref (E.2.1 (65)), .int (flg sn), .ref (E.2.1 (66)), .int (nI (ln)), .int pa, .int va, .int (soM sp), .int (seM sp), .ref (E.2.1 (67)), .int tl]) := by rw [eC_57, va_up, if_neg (by omega)]; exact h_49
            have h_59 : C_56 (62) = .inl (E.2.2.1 1, 698, .inl (upd zf (0) (nI ((tn T) - (n1))))) := by rw [eC_57, va_up, if_pos rfl]
            have h_60 : C_56 (63) = .inl (E.2.2.1 1, 698, .inl zt) := by rw [eC_57, va_up, if_neg (by omega)]; exact h_51
            have h_61 : C_56 (64) = .inl (E.2.2.1 1, 2792, .inl zq48) := by rw [eC_57, va_up, if_neg (by omega)]; exact h_52
            have h_62 : C_56 (65) = .inl (E.2.2.1 1, 698, .inl zs) := by rw [eC_57, va_up, if_neg (by omega)]; exact h_53
            have h_63 : C_56 (66) = .inl (E.2.2.1 1, 80, .inl zx) := by rw [eC_57, va_up, if_neg (by omega)]; exact h_54
            have h_64 : C_56 (67) = .inl (E.2.2.1 1, 84, .inl zl) := by rw [eC_57, va_up, if_neg (by omega)]; exact h_55
            refine y_iconst X (v := (2)) dX5_forget_50 (by decide) ?_
            refine y_istore_n X [(2, .int (2)), (0, .ref (E.2.1 (61))), (1, .int (nI (n1)))] dX5_forget_51 rfl (by decide) rfl ?_
            have L_52 : ∀ (n : Nat) (C2 : xC) (zq2 : Nat → Int32) (k : Nat), 16 * (tn T - n1) - k < n → (C2 (61) = .inr (5, [.ref (E.2.1 (62)), .ref (E.2.1 (63)), .ref (E.2.1 (64)), .int (nI (recN hn)), .ref (E.2.1 (65)), .int (flg sn), .ref (E.2.1 (66)), .int (nI (ln)), .int pa, .int va, .int (soM sp), .int (seM sp), .ref (E.2.1 (67)), .int tl])) → (C2 (62) = .inl (E.2.2.1 1, 698, .inl zq2)) → (C2 (63) = .inl (E.2.2.1 1, 698, .inl zt)) → (C2 (64) = .inl (E.2.2.1 1, 2792, .inl zq48)) → (C2 (65) = .inl (E.2.2.1 1, 698, .inl zs)) → (C2 (66) = .inl (E.2.2.1 1, 80, .inl zx)) → (C2 (67) = .inl (E.2.2.1 1, 84, .inl zl)) → ((∀ i9 : Nat, i9 < 61 → C2 i9 = C i9)) → (zq2 0 = nI (tn T - n1)) → (∀ z : Nat, 2 ≤ z → z < 2 + k → zq2 z = zf (z + 16 * n1)) → (∀ z : Nat, (z = 1 ∨ 2 + k ≤ z) → zq2 z = zf z) → (k ≤ 16 * (tn T - n1)) → xY p l e ({ frames := 2, cells := 0, slots := 0, locals := 45 } : Room) s m args below meth c E (xA E) 3 0 0 (MQ below (xQ E (fun v C1 => v = some (.int ((sFor T).1)) ∧ MX E C1 (acT (sFor T) T) (acH (sFor T) T hh hn) (acN (sFor T) hn) (sn) (tx) (ln) (sp) ∧ (∀ i : Nat, i < 61 → C1 i = C i))) args s 0 0 (xA E)) C2 52 [(0, .ref (E.2.1 (61))), (1, .int (nI (n1))), (2, .int (nI (2 + k)))] [] := by
              intro n52
              induction n52 with
              | zero => intro _ _ _ hm52; exact absurd hm52 (Nat.not_lt_zero _)
              | succ n52 ih52 =>
                intro C2 zq2 k hm52 k0 k2 k3 k4 k5 k6 k7 gF2 gE gA gB gk
                refine y_iload_n X dX5_forget_52 2 rfl ?_
                refine y_iconst X (v := (2)) dX5_forget_53 (by decide) ?_
                refine y_bipush X (v := (16)) dX5_forget_54 (by decide) ?_
                refine y_aload_n X dX5_forget_56 0 rfl ?_
                refine y_get X (61) 5 0 (Cn := RX5) (T := TX5) (N := 14) (index := 7) (v := .ref (E.2.1 (62))) dX5_forget_57 (by omega) k0 rfl (by decide) inX5 (by decide +kernel : Cond.fieldLink RX5 7 "ColumnSeasonsModel" "now" "[I" ∈ wsX5_forget) rfl rfl ?_
                refine y_iconst X (v := (0)) dX5_forget_60 (by decide) ?_
                refine y_iald X (62) dX5_forget_61 (by omega) k2 (j := 0) rfl (by omega) (by omega) (z := (nI (tn T - n1))) gE ?_
                refine y_imul X (z := (nI ((16) * (tn T - n1)))) dX5_forget_62 (pk_mul (16) (tn T - n1)) ?_
                refine y_iadd X (z := (nI (2 + (16) * (tn T - n1)))) dX5_forget_63 (nI_add (2) ((16) * (tn T - n1))) ?_
                refine y_icmp_ge X 90 ((2 + (16) * (tn T - n1)) ≤ (2 + k)) dX5_forget_64 (by decide) (nI_leI (a := 2 + (16) * (tn T - n1)) (b := 2 + k) (by omega) (by omega)) (fun c_65 => ?_) (fun c_65 => ?_)
                ·
                  refine y_iconst X (v := (0)) dX5_forget_90 (by decide) ?_
                  refine y_istore_n X [(2, .int (0)), (0, .ref (E.2.1 (61))), (1, .int (nI (n1)))] dX5_forget_91 rfl (by decide) rfl ?_
                  have L_92 : ∀ (n : Nat) (C3 : xC) (zq3 : Nat → Int32) (k : Nat), tr T - k < n → (C3 (61) = .inr (5, [.ref (E.2.1 (62)), .ref (E.2.1 (63)), .ref (E.2.1 (64)), .int (nI (recN hn)), .ref (E.2.1 (65)), .int (flg sn), .ref (E.2.1 (66)), .int (nI (ln)), .int pa, .int va, .int (soM sp), .int (seM sp), .ref (E.2.1 (67)), .int tl])) → (C3 (62) = .inl (E.2.2.1 1, 698, .inl zq3)) → (C3 (63) = .inl (E.2.2.1 1, 698, .inl zt)) → (C3 (64) = .inl (E.2.2.1 1, 2792, .inl zq48)) → (C3 (65) = .inl (E.2.2.1 1, 698, .inl zs)) → (C3 (66) = .inl (E.2.2.1 1, 80, .inl zx)) → (C3 (67) = .inl (E.2.2.1 1, 84, .inl zl)) → ((∀ i9 : Nat, i9 < 61 → C3 i9 = C i9)) → (∀ z : Nat, z < 482 → zq3 z = zq2 z) → (∀ i2 : Nat, i2 < k → zq3 (482 + 9 * i2) = nI (ts T i2 - n1)) → (∀ i2 : Nat, k ≤ i2 → zq3 (482 + 9 * i2) = zq2 (482 + 9 * i2)) → (∀ i2 j2 : Nat, j2 < 8 → zq3 (482 + 9 * i2 + 1 + j2) = zq2 (482 + 9 * i2 + 1 + j2)) → (k ≤ tr T) → xY p l e ({ frames := 2, cells := 0, slots := 0, locals := 45 } : Room) s m args below meth c E (xA E) 3 0 0 (MQ below (xQ E (fun v C1 => v = some (.int ((sFor T).1)) ∧ MX E C1 (acT (sFor T) T) (acH (sFor T) T hh hn) (acN (sFor T) hn) (sn) (tx) (ln) (sp) ∧ (∀ i : Nat, i < 61 → C1 i = C i))) args s 0 0 (xA E)) C3 92 [(0, .ref (E.2.1 (61))), (1, .int (nI (n1))), (2, .int (nI (k)))] [] := by
                    intro n92
                    induction n92 with
                    | zero => intro _ _ _ hm92; exact absurd hm92 (Nat.not_lt_zero _)
                    | succ n92 ih92 =>
                      intro C3 zq3 k hm92 l0 l2 l3 l4 l5 l6 l7 gF3 gE3 gA3 gB3 gC3 gk3
                      refine y_iload_n X dX5_forget_92 2 rfl ?_
                      refine y_aload_n X dX5_forget_93 0 rfl ?_
                      refine y_get X (61) 5 0 (Cn := RX5) (T := TX5) (N := 14) (index := 7) (v := .ref (E.2.1 (62))) dX5_forget_94 (by omega) l0 rfl (by decide) inX5 (by decide +kernel : Cond.fieldLink RX5 7 "ColumnSeasonsModel" "now" "[I" ∈ wsX5_forget) rfl rfl ?_
                      refine y_iconst X (v := (1)) dX5_forget_97 (by decide) ?_
                      refine y_iald X (62) dX5_forget_98 (by omega) l2 (j := 1) rfl (by omega) (by omega) (z := (nI (tr T))) ((gE3 1 (by omega)).trans ((gB 1 (by omega)).trans gRT.2.1)) ?_
                      refine y_icmp_ge X 125 ((tr T) ≤ (k)) dX5_forget_99 (by decide) (nI_leI (a := tr T) (b := k) (by omega) (by omega)) (fun c_66 => ?_) (fun c_66 => ?_)
                      ·
                        refine y_iload_n X dX5_forget_125 1 rfl ?_
                        exact y_iret X hr dX5_forget_126 rfl (by have ez : sFor T = (nI n1, fgt T n1) := (by rw [sFor, gfm, if_neg (by omega)]); rw [ez]; exact ⟨rfl, MX_ok (act_pos (by omega)) ⟨_, _, _, _, _, _, _, _, _, l0, l2, l3, l4, l5, l6, l7, (fgtM gRT gv.1 (by omega) gle ((gE3 0 (by omega)).trans gE) ((gE3 1 (by omega)).trans (gB 1 (by omega))) (fun z q1 q2 => by rw [gE3 z (by omega)]; exact gA z q1 (by omega)) (fun i q1 => gA3 i (by omega)) (fun i j q1 q2 => by rw [gC3 i j q2]; exact gB _ (by omega))), gP48, gSN, gTX⟩, gF3⟩)
                      ·
                        have gts := gw4 k (by omega)
                        have gts2 := gle k (by omega)
                        refine y_aload_n X dX5_forget_102 0 rfl ?_
                        refine y_get X (61) 5 0 (Cn := RX5) (T := TX5) (N := 14) (index := 7) (v := .ref (E.2.1 (62))) dX5_forget_103 (by omega) l0 rfl (by decide) inX5 (by decide +kernel : Cond.fieldLink RX5 7 "ColumnSeasonsModel" "now" "[I" ∈ wsX5_forget) rfl rfl ?_
                        refine y_sipush X (v := (482)) dX5_forget_106 (by decide) ?_
                        refine y_bipush X (v := (9)) dX5_forget_109 (by decide) ?_
                        refine y_iload_n X dX5_forget_111 2 rfl ?_
                        refine y_imul X (z := (nI ((9) * (k)))) dX5_forget_112 (pk_mul (9) (k)) ?_
                        refine y_iadd X (z := (nI (482 + (9) * (k)))) dX5_forget_113 (nI_add (482) ((9) * (k))) ?_
                        refine y_dup2 X dX5_forget_114 rfl rfl ?_
                        refine y_iald X (62) dX5_forget_115 (by omega) l2 (j := 482 + (9) * (k)) rfl (by omega) (by omega) (z := (nI (ts T k))) (by rw [gB3 k (Nat.le_refl _), gB _ (by omega)]; exact gRT.2.2.2.2.1 k (by omega)) ?_
                        refine y_iload_n X dX5_forget_116 1 rfl ?_
                        refine y_isub X (z := (nI ((ts T k) - (n1)))) dX5_forget_117 (pk_sub (a := ts T k) (b := n1) (by omega)) ?_
                        refine y_iast X (62) dX5_forget_118 (by omega) l2 (j := 482 + (9) * (k)) rfl (by omega) (by omega) ?_
                        refine y_mem (va_up C3 (62) (.inl (E.2.2.1 1, 698, .inl (upd zq3 (482 + (9) * (k)) (nI ((ts T k) - (n1))))))) rfl (fun C_67 eC_68 => ?_)
                        have h_69 : C_67 (61) = .inr (5, [.ref (E.2.1 (62)), .ref (E.2.1 (63)), .ref (E.2.1 (64)), .int (nI (recN hn)), .ref (E.2.1 (65)), .int (flg sn), .ref (E.2.1 (66)), .int (nI (ln)), .int pa, .int va, .int (soM sp), .int (seM sp), .ref (E.2.1 (67)), .int tl]) := by rw [eC_68, va_up, if_neg (by omega)]; exact l0
                        have h_70 : C_67 (62) = .inl (E.2.2.1 1, 698, .inl (upd zq3 (482 + (9) * (k)) (nI ((ts T k) - (n1))))) := by rw [eC_68, va_up, if_pos rfl]
                        have h_71 : C_67 (63) = .inl (E.2.2.1 1, 698, .inl zt) := by rw [eC_68, va_up, if_neg (by omega)]; exact l3
                        have h_72 : C_67 (64) = .inl (E.2.2.1 1, 2792, .inl zq48) := by rw [eC_68, va_up, if_neg (by omega)]; exact l4
                        have h_73 : C_67 (65) = .inl (E.2.2.1 1, 698, .inl zs) := by rw [eC_68, va_up, if_neg (by omega)]; exact l5
                        have h_74 : C_67 (66) = .inl (E.2.2.1 1, 80, .inl zx) := by rw [eC_68, va_up, if_neg (by omega)]; exact l6
                        have h_75 : C_67 (67) = .inl (E.2.2.1 1, 84, .inl zl) := by rw [eC_68, va_up, if_neg (by omega)]; exact l7
                        refine y_iinc X [(2, .int (nI (k + 1))), (0, .ref (E.2.1 (61))), (1, .int (nI (n1)))] dX5_forget_119 2 rfl (nI_1 _) (by decide) rfl ?_
                        refine y_goto X 92 dX5_forget_122 (by decide) ?_
                        refine y_pick [1, 2, 0] [(0, .ref (E.2.1 (61))), (1, .int (nI (n1))), (2, .int (nI (k + 1)))] rfl ?_
                        exact ih92 (C_67) ((upd zq3 (482 + (9) * (k)) (nI ((ts T k) - (n1))))) (k + 1) (by omega) h_69 h_70 h_71 h_72 h_73 h_74 h_75 (fun i9 g9 => by rw [eC_68, va_up, if_neg (by omega)]; rw [gF3 i9 g9]) (fun z q1 => by rw [pk_un (by omega)]; exact gE3 z q1) (fun i2 q1 => by rcases Nat.lt_or_ge i2 k with q3 | q3; rw [pk_un (by omega)]; exact gA3 i2 q3; rw [show i2 = k by omega, pk_us]) (fun i2 q1 => by rw [pk_un (by omega)]; exact gB3 i2 (by omega)) (fun i2 j2 q1 => by rw [pk_un (by omega)]; exact gC3 i2 j2 q1) (by omega)
                  refine y_pick [1, 2, 0] [(0, .ref (E.2.1 (61))), (1, .int (nI (n1))), (2, .int (0))] rfl ?_
                  exact L_92 _ (C2) (zq2) (0) (Nat.lt_succ_self _) k0 k2 k3 k4 k5 k6 k7 (fun i9 g9 => by rw [gF2 i9 g9]) (fun _ _ => rfl) (fun _ q1 => absurd q1 (Nat.not_lt_zero _)) (fun _ _ => rfl) (fun _ _ _ => rfl) (by omega)
                ·
                  refine y_aload_n X dX5_forget_67 0 rfl ?_
                  refine y_get X (61) 5 0 (Cn := RX5) (T := TX5) (N := 14) (index := 7) (v := .ref (E.2.1 (62))) dX5_forget_68 (by omega) k0 rfl (by decide) inX5 (by decide +kernel : Cond.fieldLink RX5 7 "ColumnSeasonsModel" "now" "[I" ∈ wsX5_forget) rfl rfl ?_
                  refine y_iload_n X dX5_forget_71 2 rfl ?_
                  refine y_aload_n X dX5_forget_72 0 rfl ?_
                  refine y_get X (61) 5 0 (Cn := RX5) (T := TX5) (N := 14) (index := 7) (v := .ref (E.2.1 (62))) dX5_forget_73 (by omega) k0 rfl (by decide) inX5 (by decide +kernel : Cond.fieldLink RX5 7 "ColumnSeasonsModel" "now" "[I" ∈ wsX5_forget) rfl rfl ?_
                  refine y_iload_n X dX5_forget_76 2 rfl ?_
                  refine y_bipush X (v := (16)) dX5_forget_77 (by decide) ?_
                  refine y_iload_n X dX5_forget_79 1 rfl ?_
                  refine y_imul X (z := (nI ((16) * (n1)))) dX5_forget_80 (pk_mul (16) (n1)) ?_
                  refine y_iadd X (z := (nI (2 + k + (16) * (n1)))) dX5_forget_81 (nI_add (2 + k) ((16) * (n1))) ?_
                  refine y_iald X (62) dX5_forget_82 (by omega) k2 (j := 2 + k + (16) * (n1)) rfl (by omega) (by omega) (z := (zq2 (2 + k + (16) * (n1)))) rfl ?_
                  refine y_iast X (62) dX5_forget_83 (by omega) k2 (j := 2 + k) rfl (by omega) (by omega) ?_
                  refine y_mem (va_up C2 (62) (.inl (E.2.2.1 1, 698, .inl (upd zq2 (2 + k) (zq2 (2 + k + (16) * (n1))))))) rfl (fun C_76 eC_77 => ?_)
                  have h_78 : C_76 (61) = .inr (5, [.ref (E.2.1 (62)), .ref (E.2.1 (63)), .ref (E.2.1 (64)), .int (nI (recN hn)), .ref (E.2.1 (65)), .int (flg sn), .ref (E.2.1 (66)), .int (nI (ln)), .int pa, .int va, .int (soM sp), .int (seM sp), .ref (E.2.1 (67)), .int tl]) := by rw [eC_77, va_up, if_neg (by omega)]; exact k0
                  have h_79 : C_76 (62) = .inl (E.2.2.1 1, 698, .inl (upd zq2 (2 + k) (zq2 (2 + k + (16) * (n1))))) := by rw [eC_77, va_up, if_pos rfl]
                  have h_80 : C_76 (63) = .inl (E.2.2.1 1, 698, .inl zt) := by rw [eC_77, va_up, if_neg (by omega)]; exact k3
                  have h_81 : C_76 (64) = .inl (E.2.2.1 1, 2792, .inl zq48) := by rw [eC_77, va_up, if_neg (by omega)]; exact k4
                  have h_82 : C_76 (65) = .inl (E.2.2.1 1, 698, .inl zs) := by rw [eC_77, va_up, if_neg (by omega)]; exact k5
                  have h_83 : C_76 (66) = .inl (E.2.2.1 1, 80, .inl zx) := by rw [eC_77, va_up, if_neg (by omega)]; exact k6
                  have h_84 : C_76 (67) = .inl (E.2.2.1 1, 84, .inl zl) := by rw [eC_77, va_up, if_neg (by omega)]; exact k7
                  refine y_iinc X [(2, .int (nI (2 + k + 1))), (0, .ref (E.2.1 (61))), (1, .int (nI (n1)))] dX5_forget_84 2 rfl (nI_1 _) (by decide) rfl ?_
                  refine y_goto X 52 dX5_forget_87 (by decide) ?_
                  refine y_pick [1, 2, 0] [(0, .ref (E.2.1 (61))), (1, .int (nI (n1))), (2, .int (nI (2 + k + 1)))] rfl ?_
                  exact ih52 (C_76) ((upd zq2 (2 + k) (zq2 (2 + k + (16) * (n1))))) (k + 1) (by omega) h_78 h_79 h_80 h_81 h_82 h_83 h_84 (fun i9 g9 => by rw [eC_77, va_up, if_neg (by omega)]; rw [gF2 i9 g9]) (by rw [pk_un (by omega)]; exact gE) (fun z q1 q2 => by rcases Nat.lt_or_ge z (2 + k) with q3 | q3; rw [pk_un (by omega)]; exact gA z q1 q3; rw [show z = 2 + k by omega, pk_us]; exact gB _ (by omega)) (fun z q1 => by rw [pk_un (by omega)]; exact gB z (by omega)) (by omega)
            refine y_pick [1, 2, 0] [(0, .ref (E.2.1 (61))), (1, .int (nI (n1))), (2, .int (2))] rfl ?_
            exact L_52 _ (C_56) ((upd zf (0) (nI ((tn T) - (n1))))) (0) (Nat.lt_succ_self _) h_58 h_59 h_60 h_61 h_62 h_63 h_64 (fun i9 g9 => by rw [eC_57, va_up, if_neg (by omega)]; rw [gF48 i9 (by omega) (by omega)]) pk_us (fun z q1 q2 => absurd q2 (by omega)) (fun z q1 => pk_un (by omega)) (by omega)
          ·
            have c_44 := Decidable.of_not_not c_44
            refine y_sipush X (v := (-10005)) dX5_forget_32 (by decide) ?_
            exact y_iret X hr dX5_forget_35 rfl (by have ez : sFor T = ((-10005), T) := (by rw [sFor, gfm, if_pos (by omega)]); rw [ez]; exact ⟨rfl, MX_err (by decide) gM, (fun _ _ => rfl)⟩)
        ·
          have c_43 := Decidable.of_not_not c_43
          refine y_iinc X [(1, .int (nI (n1 + 1))), (0, .ref (E.2.1 (61)))] dX5_forget_22 1 rfl (nI_1 _) (by decide) rfl ?_
          refine y_goto X 2 dX5_forget_25 (by decide) ?_
          refine y_pick [1, 0] [(0, .ref (E.2.1 (61))), (1, .int (nI (n1 + 1)))] rfl ?_
          exact ih2 (n1 + 1) (by omega) (by omega) (fun q q1 i q2 => by rcases Nat.lt_or_ge q n1 with q3 | q3; exact gno q q3 i q2; rw [show q = n1 by omega]; exact (wear_0 gv.1 (by omega)).mp c_43 i q2)
  refine y_pick [1, 0] [(0, .ref (E.2.1 (61))), (1, .int (0))] rfl ?_
  exact L_2 _ (0) (Nat.lt_succ_self _) (by omega) (fun _ q1 => absurd q1 (Nat.not_lt_zero _))

set_option maxRecDepth 100000 in
set_option maxHeartbeats 4000000 in
theorem c_X5_type {l : Launch} {E : xE} {C : xC} {T : Tb} {hh : Nat → Tb} {hn : Nat} {sn : Option Tb} {tx : Nat → Int32} {ln : Nat} {sp : Option (Nat × Int32)} (gM : MX E C T hh hn sn tx ln sp) (gW : WX T hh hn sn tx ln sp) {x : Int32} : xM E l yX5_type wsX5_type 0 0 [.ref (E.2.1 (61)), .int x] C (fun v C1 => v = some (.int (if ln = 80 then -10003 else nI (ln + 1))) ∧ MX E C1 (T) (hh) (hn) (sn) (if ln = 80 then tx else upd tx ln x) (if ln = 80 then ln else ln + 1) (sp) ∧ (∀ i : Nat, i < 61 → C1 i = C i)) := by
  obtain ⟨zf, zt, zp, zs, zx, zl, pa, va, tl, m0, h2, h3, h4, h5, h6, h7, gRT, gPH, gSN, gTX⟩ := id gM
  obtain ⟨gv, gn4, gWH, gWS, gl80, gch, gsp⟩ := id gW
  have gT : RM E C 62 T := ⟨zf, h2, gRT⟩
  obtain ⟨gw1, gw2, gw3, gw4⟩ := id gv.1
  refine xM_ofY (cc := cX5_type) (maxL := 2) (ret := (some .int)) (by decide) rfl (Nat.le_of_ble_eq_true rfl) ?_
  intro p e s m args below meth c X hr
  have inX5 : ∀ w ∈ wsX50, w ∈ wsX5_type := by decide +kernel
  refine y_lv [(0, .ref (E.2.1 (61))), (1, .int x)] rfl ?_
  refine y_aload_n X dX5_type_0 0 rfl ?_
  refine y_get X (61) 5 7 (Cn := RX5) (T := TX5) (N := 14) (index := 128) (v := .int (nI (ln))) dX5_type_1 (by omega) m0 rfl (by decide) inX5 (by decide +kernel : Cond.fieldLink RX5 128 "ColumnSeasonsModel" "typed" "I" ∈ wsX5_type) rfl rfl ?_
  refine y_bipush X (v := (80)) dX5_type_4 (by decide) ?_
  refine y_icmp_ne X 13 (¬ ((ln) = (80))) dX5_type_6 (by decide) (cNe (nI_eq (a := ln) (b := 80) (by omega) (by omega))) (fun c_1 => ?_) (fun c_1 => ?_)
  ·
    refine y_aload_n X dX5_type_13 0 rfl ?_
    refine y_get X (61) 5 6 (Cn := RX5) (T := TX5) (N := 14) (index := 22) (v := .ref (E.2.1 (66))) dX5_type_14 (by omega) m0 rfl (by decide) inX5 (by decide +kernel : Cond.fieldLink RX5 22 "ColumnSeasonsModel" "text" "[I" ∈ wsX5_type) rfl rfl ?_
    refine y_aload_n X dX5_type_17 0 rfl ?_
    refine y_get X (61) 5 7 (Cn := RX5) (T := TX5) (N := 14) (index := 128) (v := .int (nI (ln))) dX5_type_18 (by omega) m0 rfl (by decide) inX5 (by decide +kernel : Cond.fieldLink RX5 128 "ColumnSeasonsModel" "typed" "I" ∈ wsX5_type) rfl rfl ?_
    refine y_iload_n X dX5_type_21 1 rfl ?_
    refine y_iast X (66) dX5_type_22 (by omega) h6 (j := ln) rfl (by omega) (by omega) ?_
    refine y_mem (va_up C (66) (.inl (E.2.2.1 1, 80, .inl (upd zx (ln) x)))) rfl (fun C_2 eC_3 => ?_)
    have h_4 : C_2 (61) = .inr (5, [.ref (E.2.1 (62)), .ref (E.2.1 (63)), .ref (E.2.1 (64)), .int (nI (hn)), .ref (E.2.1 (65)), .int (flg sn), .ref (E.2.1 (66)), .int (nI (ln)), .int pa, .int va, .int (soM sp), .int (seM sp), .ref (E.2.1 (67)), .int tl]) := by rw [eC_3, va_up, if_neg (by omega)]; exact m0
    have h_5 : C_2 (62) = .inl (E.2.2.1 1, 698, .inl zf) := by rw [eC_3, va_up, if_neg (by omega)]; exact h2
    have h_6 : C_2 (63) = .inl (E.2.2.1 1, 698, .inl zt) := by rw [eC_3, va_up, if_neg (by omega)]; exact h3
    have h_7 : C_2 (64) = .inl (E.2.2.1 1, 2792, .inl zp) := by rw [eC_3, va_up, if_neg (by omega)]; exact h4
    have h_8 : C_2 (65) = .inl (E.2.2.1 1, 698, .inl zs) := by rw [eC_3, va_up, if_neg (by omega)]; exact h5
    have h_9 : C_2 (66) = .inl (E.2.2.1 1, 80, .inl (upd zx (ln) x)) := by rw [eC_3, va_up, if_pos rfl]
    have h_10 : C_2 (67) = .inl (E.2.2.1 1, 84, .inl zl) := by rw [eC_3, va_up, if_neg (by omega)]; exact h7
    refine y_aload_n X dX5_type_23 0 rfl ?_
    refine y_dup X dX5_type_24 rfl ?_
    refine y_get X (61) 5 7 (Cn := RX5) (T := TX5) (N := 14) (index := 128) (v := .int (nI (ln))) dX5_type_25 (by omega) h_4 rfl (by decide) inX5 (by decide +kernel : Cond.fieldLink RX5 128 "ColumnSeasonsModel" "typed" "I" ∈ wsX5_type) rfl rfl ?_
    refine y_iconst X (v := (1)) dX5_type_28 (by decide) ?_
    refine y_iadd X (z := (nI (ln + 1))) dX5_type_29 (nI_add (ln) (1)) ?_
    refine y_put X (61) 5 7 (Cn := RX5) (T := TX5) (N := 14) (index := 128) tyX5 (v := .int (nI (ln + 1))) dX5_type_30 (by omega) h_4 rfl (by decide) inX5 (by decide +kernel : Cond.fieldLink RX5 128 "ColumnSeasonsModel" "typed" "I" ∈ wsX5_type) rfl tyX5_ok nmX5 rfl rfl rfl (Nat.le_of_ble_eq_true rfl) ?_
    refine y_mem (va_up C_2 (61) (.inr (5, [.ref (E.2.1 (62)), .ref (E.2.1 (63)), .ref (E.2.1 (64)), .int (nI (hn)), .ref (E.2.1 (65)), .int (flg sn), .ref (E.2.1 (66)), .int (nI (ln + 1)), .int pa, .int va, .int (soM sp), .int (seM sp), .ref (E.2.1 (67)), .int tl]))) rfl (fun C_11 eC_12 => ?_)
    have h_13 : C_11 (61) = .inr (5, [.ref (E.2.1 (62)), .ref (E.2.1 (63)), .ref (E.2.1 (64)), .int (nI (hn)), .ref (E.2.1 (65)), .int (flg sn), .ref (E.2.1 (66)), .int (nI (ln + 1)), .int pa, .int va, .int (soM sp), .int (seM sp), .ref (E.2.1 (67)), .int tl]) := by rw [eC_12, va_up, if_pos rfl]
    have h_14 : C_11 (62) = .inl (E.2.2.1 1, 698, .inl zf) := by rw [eC_12, va_up, if_neg (by omega)]; exact h_5
    have h_15 : C_11 (63) = .inl (E.2.2.1 1, 698, .inl zt) := by rw [eC_12, va_up, if_neg (by omega)]; exact h_6
    have h_16 : C_11 (64) = .inl (E.2.2.1 1, 2792, .inl zp) := by rw [eC_12, va_up, if_neg (by omega)]; exact h_7
    have h_17 : C_11 (65) = .inl (E.2.2.1 1, 698, .inl zs) := by rw [eC_12, va_up, if_neg (by omega)]; exact h_8
    have h_18 : C_11 (66) = .inl (E.2.2.1 1, 80, .inl (upd zx (ln) x)) := by rw [eC_12, va_up, if_neg (by omega)]; exact h_9
    have h_19 : C_11 (67) = .inl (E.2.2.1 1, 84, .inl zl) := by rw [eC_12, va_up, if_neg (by omega)]; exact h_10
    refine y_aload_n X dX5_type_33 0 rfl ?_
    refine y_get X (61) 5 7 (Cn := RX5) (T := TX5) (N := 14) (index := 128) (v := .int (nI (ln + 1))) dX5_type_34 (by omega) h_13 rfl (by decide) inX5 (by decide +kernel : Cond.fieldLink RX5 128 "ColumnSeasonsModel" "typed" "I" ∈ wsX5_type) rfl rfl ?_
    exact y_iret X hr dX5_type_37 rfl (by rw [if_neg (by omega), if_neg (by omega), if_neg (by omega)]; exact ⟨rfl, ⟨_, _, _, _, _, _, _, _, _, h_13, h_14, h_15, h_16, h_17, h_18, h_19, gRT, gPH, gSN, (fun z q1 => by rcases Nat.lt_or_ge z ln with q3 | q3; rw [pk_un (by omega), pk_un (by omega)]; exact gTX z q3; rw [show z = ln by omega, pk_us, pk_us])⟩, (fun i9 g9 => by rw [eC_12, va_up, if_neg (by omega)]; rw [eC_3, va_up, if_neg (by omega)])⟩)
  ·
    have c_1 := Decidable.of_not_not c_1
    refine y_sipush X (v := (-10003)) dX5_type_9 (by decide) ?_
    exact y_iret X hr dX5_type_12 rfl (by rw [if_pos (by omega), if_pos (by omega), if_pos (by omega)]; exact ⟨rfl, gM, (fun _ _ => rfl)⟩)

set_option maxRecDepth 100000 in
set_option maxHeartbeats 4000000 in
theorem c_X5_clearText {l : Launch} {E : xE} {C : xC} {T : Tb} {hh : Nat → Tb} {hn : Nat} {sn : Option Tb} {tx : Nat → Int32} {ln : Nat} {sp : Option (Nat × Int32)} (gM : MX E C T hh hn sn tx ln sp) (gW : WX T hh hn sn tx ln sp) : xM E l yX5_clearText wsX5_clearText 0 0 [.ref (E.2.1 (61))] C (fun v C1 => v = some (.int (nI ln)) ∧ MX E C1 (T) (hh) (hn) (sn) (tx) (0) (sp) ∧ (∀ i : Nat, i < 61 → C1 i = C i)) := by
  obtain ⟨zf, zt, zp, zs, zx, zl, pa, va, tl, m0, h2, h3, h4, h5, h6, h7, gRT, gPH, gSN, gTX⟩ := id gM
  obtain ⟨gv, gn4, gWH, gWS, gl80, gch, gsp⟩ := id gW
  have gT : RM E C 62 T := ⟨zf, h2, gRT⟩
  obtain ⟨gw1, gw2, gw3, gw4⟩ := id gv.1
  refine xM_ofY (cc := cX5_clearText) (maxL := 2) (ret := (some .int)) (by decide) rfl (Nat.le_of_ble_eq_true rfl) ?_
  intro p e s m args below meth c X hr
  have inX5 : ∀ w ∈ wsX50, w ∈ wsX5_clearText := by decide +kernel
  refine y_lv [(0, .ref (E.2.1 (61)))] rfl ?_
  refine y_aload_n X dX5_clearText_0 0 rfl ?_
  refine y_get X (61) 5 7 (Cn := RX5) (T := TX5) (N := 14) (index := 128) (v := .int (nI (ln))) dX5_clearText_1 (by omega) m0 rfl (by decide) inX5 (by decide +kernel : Cond.fieldLink RX5 128 "ColumnSeasonsModel" "typed" "I" ∈ wsX5_clearText) rfl rfl ?_
  refine y_istore_n X [(1, .int (nI (ln))), (0, .ref (E.2.1 (61)))] dX5_clearText_4 rfl (by decide) rfl ?_
  refine y_aload_n X dX5_clearText_5 1 rfl ?_
  refine y_iconst X (v := (0)) dX5_clearText_6 (by decide) ?_
  refine y_put X (61) 5 7 (Cn := RX5) (T := TX5) (N := 14) (index := 128) tyX5 (v := .int (0)) dX5_clearText_7 (by omega) m0 rfl (by decide) inX5 (by decide +kernel : Cond.fieldLink RX5 128 "ColumnSeasonsModel" "typed" "I" ∈ wsX5_clearText) rfl tyX5_ok nmX5 rfl rfl rfl (Nat.le_of_ble_eq_true rfl) ?_
  refine y_mem (va_up C (61) (.inr (5, [.ref (E.2.1 (62)), .ref (E.2.1 (63)), .ref (E.2.1 (64)), .int (nI (hn)), .ref (E.2.1 (65)), .int (flg sn), .ref (E.2.1 (66)), .int (0), .int pa, .int va, .int (soM sp), .int (seM sp), .ref (E.2.1 (67)), .int tl]))) rfl (fun C_1 eC_2 => ?_)
  have h_3 : C_1 (61) = .inr (5, [.ref (E.2.1 (62)), .ref (E.2.1 (63)), .ref (E.2.1 (64)), .int (nI (hn)), .ref (E.2.1 (65)), .int (flg sn), .ref (E.2.1 (66)), .int (0), .int pa, .int va, .int (soM sp), .int (seM sp), .ref (E.2.1 (67)), .int tl]) := by rw [eC_2, va_up, if_pos rfl]
  have h_4 : C_1 (62) = .inl (E.2.2.1 1, 698, .inl zf) := by rw [eC_2, va_up, if_neg (by omega)]; exact h2
  have h_5 : C_1 (63) = .inl (E.2.2.1 1, 698, .inl zt) := by rw [eC_2, va_up, if_neg (by omega)]; exact h3
  have h_6 : C_1 (64) = .inl (E.2.2.1 1, 2792, .inl zp) := by rw [eC_2, va_up, if_neg (by omega)]; exact h4
  have h_7 : C_1 (65) = .inl (E.2.2.1 1, 698, .inl zs) := by rw [eC_2, va_up, if_neg (by omega)]; exact h5
  have h_8 : C_1 (66) = .inl (E.2.2.1 1, 80, .inl zx) := by rw [eC_2, va_up, if_neg (by omega)]; exact h6
  have h_9 : C_1 (67) = .inl (E.2.2.1 1, 84, .inl zl) := by rw [eC_2, va_up, if_neg (by omega)]; exact h7
  refine y_iload_n X dX5_clearText_10 0 rfl ?_
  exact y_iret X hr dX5_clearText_11 rfl ⟨rfl, ⟨_, _, _, _, _, _, _, _, _, h_3, h_4, h_5, h_6, h_7, h_8, h_9, gRT, gPH, gSN, (fun z q1 => absurd q1 (Nat.not_lt_zero _))⟩, (fun i9 g9 => by rw [eC_2, va_up, if_neg (by omega)])⟩

set_option maxRecDepth 100000 in
set_option maxHeartbeats 4000000 in
theorem c_X5_stopped {l : Launch} {E : xE} {C : xC} {T : Tb} {hh : Nat → Tb} {hn : Nat} {sn : Option Tb} {tx : Nat → Int32} {ln : Nat} {sp : Option (Nat × Int32)} (gM : MX E C T hh hn sn tx ln sp) (gW : WX T hh hn sn tx ln sp) {x : Int32} : xM E l yX5_stopped wsX5_stopped 0 0 [.ref (E.2.1 (61)), .int x] C (fun v C1 => v = some (.int (if x = 0 then soM sp else if x = 1 then seM sp else -10002)) ∧ MX E C1 (T) (hh) (hn) (sn) (tx) (ln) (sp) ∧ (∀ i : Nat, i < 61 → C1 i = C i)) := by
  obtain ⟨zf, zt, zp, zs, zx, zl, pa, va, tl, m0, h2, h3, h4, h5, h6, h7, gRT, gPH, gSN, gTX⟩ := id gM
  obtain ⟨gv, gn4, gWH, gWS, gl80, gch, gsp⟩ := id gW
  have gT : RM E C 62 T := ⟨zf, h2, gRT⟩
  obtain ⟨gw1, gw2, gw3, gw4⟩ := id gv.1
  refine xM_ofY (cc := cX5_stopped) (maxL := 2) (ret := (some .int)) (by decide) rfl (Nat.le_of_ble_eq_true rfl) ?_
  intro p e s m args below meth c X hr
  have inX5 : ∀ w ∈ wsX50, w ∈ wsX5_stopped := by decide +kernel
  refine y_lv [(0, .ref (E.2.1 (61))), (1, .int x)] rfl ?_
  refine y_iload_n X dX5_stopped_0 1 rfl ?_
  refine y_if_ne X 11 (¬ (x = (0))) dX5_stopped_1 (by decide) Iff.rfl (fun c_1 => ?_) (fun c_1 => ?_)
  ·
    refine y_iload_n X dX5_stopped_11 1 rfl ?_
    refine y_iconst X (v := (1)) dX5_stopped_12 (by decide) ?_
    refine y_icmp_ne X 23 (¬ (x = (1))) dX5_stopped_13 (by decide) Iff.rfl (fun c_2 => ?_) (fun c_2 => ?_)
    ·
      refine y_sipush X (v := (-10002)) dX5_stopped_23 (by decide) ?_
      exact y_iret X hr dX5_stopped_26 rfl (by rw [if_neg c_1, if_neg c_2]; exact ⟨rfl, gM, (fun _ _ => rfl)⟩)
    ·
      have c_2 := Decidable.of_not_not c_2
      refine y_aload_n X dX5_stopped_16 0 rfl ?_
      refine y_get X (61) 5 11 (Cn := RX5) (T := TX5) (N := 14) (index := 29) (v := .int (seM sp)) dX5_stopped_17 (by omega) m0 rfl (by decide) inX5 (by decide +kernel : Cond.fieldLink RX5 29 "ColumnSeasonsModel" "stopError" "I" ∈ wsX5_stopped) rfl rfl ?_
      refine y_goto X 26 dX5_stopped_20 (by decide) ?_
      exact y_iret X hr dX5_stopped_26 rfl (by rw [if_neg c_1, if_pos c_2]; exact ⟨rfl, gM, (fun _ _ => rfl)⟩)
  ·
    have c_1 := Decidable.of_not_not c_1
    refine y_aload_n X dX5_stopped_4 0 rfl ?_
    refine y_get X (61) 5 10 (Cn := RX5) (T := TX5) (N := 14) (index := 25) (v := .int (soM sp)) dX5_stopped_5 (by omega) m0 rfl (by decide) inX5 (by decide +kernel : Cond.fieldLink RX5 25 "ColumnSeasonsModel" "stop" "I" ∈ wsX5_stopped) rfl rfl ?_
    refine y_goto X 26 dX5_stopped_8 (by decide) ?_
    exact y_iret X hr dX5_stopped_26 rfl (by rw [if_pos c_1]; exact ⟨rfl, gM, (fun _ _ => rfl)⟩)
