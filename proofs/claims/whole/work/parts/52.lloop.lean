set_option maxRecDepth 100000 in
set_option maxHeartbeats 4000000 in
theorem l_loop {p : Program} {l : Launch} {e : Env} {s : State} {m : MethodId} {b L : Nat} {below : List Frame} {meth : Method} {c : Code} {xs : Nat → Int32} {E : xE} (hH : lH p s m meth c b L xs E) (hL : L ≤ 2560) : ∀ (n j : Nat) (C : xC) (T : Tb) (hh : Nat → Tb) (hn : Nat) (sn : Option Tb) (tx : Nat → Int32) (ln : Nat) (sp : Option (Nat × Int32)), L < j + 5 * n → j ≤ L + 5 → CX E C T hh hn sn tx ln sp → MX E C T hh hn sn tx ln sp → WX T hh hn sn tx ln sp → lY p l e s m b below meth c E C j 18 [] := by
  intro n
  have hH0 := hH
  obtain ⟨X, hX, hbl, hr⟩ := hH
  have hbA : ¬ lA s b := Nat.not_le.mpr hbl
  induction n with
  | zero =>
    intro j C T hh hn sn tx ln sp hm hj gC gM gW
    refine y_iload_n X dL_law_18 0 rfl ?_
    refine y_aload_n X dL_law_19 1 rfl ?_
    refine y_slen X hX hbl hbA dL_law_20 ?_
    refine y_iconst X (v := 5) dL_law_21 (by decide) ?_
    refine y_isub X (z := (nI L - 5)) dL_law_22 rfl ?_
    refine y_icmp_gt X 831 (L < j + 5) dL_law_23 (by decide) (l_gt (by omega) (by omega)) (fun c_1 => ?_) (fun c_1 => ?_)
    · exact l_end hH0
    · exact absurd (show L < j + 5 by omega) c_1
  | succ n ihn =>
    intro j C T hh hn sn tx ln sp hm hj gC gM gW
    refine y_iload_n X dL_law_18 0 rfl ?_
    refine y_aload_n X dL_law_19 1 rfl ?_
    refine y_slen X hX hbl hbA dL_law_20 ?_
    refine y_iconst X (v := 5) dL_law_21 (by decide) ?_
    refine y_isub X (z := (nI L - 5)) dL_law_22 rfl ?_
    refine y_icmp_gt X 831 (L < j + 5) dL_law_23 (by decide) (l_gt (by omega) (by omega)) (fun c_1 => ?_) (fun c_1 => ?_)
    · exact l_end hH0
    · have hk : lawN p l e s m b below meth c E j := by
        intro C2 T2 hh2 hn2 sn2 tx2 ln2 sp2 gC2 gM2 gW2
        refine y_iinc X [(3, .int (nI (j + 5))), (0, .ref b), (1, .ref (E.2.1 (0))), (2, .ref (E.2.1 (61)))] dL_law_825 0 rfl (nI_add _ 5) (by decide) rfl ?_
        refine y_goto X 18 dL_law_828 (by decide) ?_
        exact ihn (j + 5) C2 T2 hh2 hn2 sn2 tx2 ln2 sp2 (by omega) (by omega) gC2 gM2 gW2
      refine y_aload_n X dL_law_26 1 rfl ?_
      refine y_iload_n X dL_law_27 0 rfl ?_
      refine y_sld X (j := j) hX hbl hbA dL_law_28 rfl (by omega) (by omega) ?_
      refine y_bipush X (v := 31) dL_law_29 (by decide) ?_
      obtain ⟨kk, hk1, hk2⟩ := and31 (xs j)
      refine y_iand X (z := (nI kk)) dL_law_31 hk2 ?_
      rcases (show kk = 0 ∨ kk = 1 ∨ kk = 2 ∨ kk = 3 ∨ kk = 4 ∨ kk = 5 ∨ kk = 6 ∨ kk = 7 ∨ kk = 8 ∨ kk = 9 ∨ kk = 10 ∨ kk = 11 ∨ kk = 12 ∨ kk = 13 ∨ kk = 14 ∨ kk = 15 ∨ kk = 16 ∨ kk = 17 ∨ kk = 18 ∨ kk = 19 ∨ kk = 20 ∨ kk = 21 ∨ kk = 22 ∨ kk = 23 ∨ kk = 24 ∨ 25 ≤ kk by omega) with rfl | rfl | rfl | rfl | rfl | rfl | rfl | rfl | rfl | rfl | rfl | rfl | rfl | rfl | rfl | rfl | rfl | rfl | rfl | rfl | rfl | rfl | rfl | rfl | rfl | hk3
      · refine y_tableIn X 148 dL_law_32 (by decide) (by decide) (off := 116) (by decide) (by decide) ?_
        exact lc_0 hH0 (by omega) hL gC gM gW hk
      · refine y_tableIn X 191 dL_law_32 (by decide) (by decide) (off := 159) (by decide) (by decide) ?_
        exact lc_1 hH0 (by omega) hL gC gM gW hk
      · refine y_tableIn X 214 dL_law_32 (by decide) (by decide) (off := 182) (by decide) (by decide) ?_
        exact lc_2 hH0 (by omega) hL gC gM gW hk
      · refine y_tableIn X 247 dL_law_32 (by decide) (by decide) (off := 215) (by decide) (by decide) ?_
        exact lc_3 hH0 (by omega) hL gC gM gW hk
      · refine y_tableIn X 260 dL_law_32 (by decide) (by decide) (off := 228) (by decide) (by decide) ?_
        exact lc_4 hH0 (by omega) hL gC gM gW hk
      · refine y_tableIn X 303 dL_law_32 (by decide) (by decide) (off := 271) (by decide) (by decide) ?_
        exact lc_5 hH0 (by omega) hL gC gM gW hk
      · refine y_tableIn X 326 dL_law_32 (by decide) (by decide) (off := 294) (by decide) (by decide) ?_
        exact lc_6 hH0 (by omega) hL gC gM gW hk
      · refine y_tableIn X 359 dL_law_32 (by decide) (by decide) (off := 327) (by decide) (by decide) ?_
        exact lc_7 hH0 (by omega) hL gC gM gW hk
      · refine y_tableIn X 372 dL_law_32 (by decide) (by decide) (off := 340) (by decide) (by decide) ?_
        exact lc_8 hH0 (by omega) hL gC gM gW hk
      · refine y_tableIn X 397 dL_law_32 (by decide) (by decide) (off := 365) (by decide) (by decide) ?_
        exact lc_9 hH0 (by omega) hL gC gM gW hk
      · refine y_tableIn X 410 dL_law_32 (by decide) (by decide) (off := 378) (by decide) (by decide) ?_
        exact lc_10 hH0 (by omega) hL gC gM gW hk
      · refine y_tableIn X 423 dL_law_32 (by decide) (by decide) (off := 391) (by decide) (by decide) ?_
        exact lc_11 hH0 (by omega) hL gC gM gW hk
      · refine y_tableIn X 446 dL_law_32 (by decide) (by decide) (off := 414) (by decide) (by decide) ?_
        exact lc_12 hH0 (by omega) hL gC gM gW hk
      · refine y_tableIn X 459 dL_law_32 (by decide) (by decide) (off := 427) (by decide) (by decide) ?_
        exact lc_13 hH0 (by omega) hL gC gM gW hk
      · refine y_tableIn X 472 dL_law_32 (by decide) (by decide) (off := 440) (by decide) (by decide) ?_
        exact lc_14 hH0 (by omega) hL gC gM gW hk
      · refine y_tableIn X 485 dL_law_32 (by decide) (by decide) (off := 453) (by decide) (by decide) ?_
        exact lc_15 hH0 (by omega) hL gC gM gW hk
      · refine y_tableIn X 528 dL_law_32 (by decide) (by decide) (off := 496) (by decide) (by decide) ?_
        exact lc_16 hH0 (by omega) hL gC gM gW hk
      · refine y_tableIn X 561 dL_law_32 (by decide) (by decide) (off := 529) (by decide) (by decide) ?_
        exact lc_17 hH0 (by omega) hL gC gM gW hk
      · refine y_tableIn X 594 dL_law_32 (by decide) (by decide) (off := 562) (by decide) (by decide) ?_
        exact lc_18 hH0 (by omega) hL gC gM gW hk
      · refine y_tableIn X 647 dL_law_32 (by decide) (by decide) (off := 615) (by decide) (by decide) ?_
        exact lc_19 hH0 (by omega) hL gC gM gW hk
      · refine y_tableIn X 670 dL_law_32 (by decide) (by decide) (off := 638) (by decide) (by decide) ?_
        exact lc_20 hH0 (by omega) hL gC gM gW hk
      · refine y_tableIn X 713 dL_law_32 (by decide) (by decide) (off := 681) (by decide) (by decide) ?_
        exact lc_21 hH0 (by omega) hL gC gM gW hk
      · refine y_tableIn X 766 dL_law_32 (by decide) (by decide) (off := 734) (by decide) (by decide) ?_
        exact lc_22 hH0 (by omega) hL gC gM gW hk
      · refine y_tableIn X 779 dL_law_32 (by decide) (by decide) (off := 747) (by decide) (by decide) ?_
        exact lc_23 hH0 (by omega) hL gC gM gW hk
      · refine y_tableIn X 802 dL_law_32 (by decide) (by decide) (off := 770) (by decide) (by decide) ?_
        exact lc_24 hH0 (by omega) hL gC gM gW hk
      · refine y_tableOut X 825 dL_law_32 (Or.inr (by rw [nI_toInt (by omega)]; omega)) (by decide) ?_
        exact hk C T hh hn sn tx ln sp gC gM gW
