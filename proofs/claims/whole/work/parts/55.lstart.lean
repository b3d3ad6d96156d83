theorem zM_len {w1 w2 : va_W} (h1 : w1.length = 61) (h2 : w2.length = 7) : (w1 ++ w2).length = 68 := by
  rw [List.length_append, h1, h2]
set_option maxRecDepth 100000 in
set_option maxHeartbeats 4000000 in
theorem whole_start {p : Program} {e : Env} {s : State} {m : MethodId} {below : List Frame} {meth : Method} {c : Code} (l : Launch) (hflags : l.flags = flags0) {b L : Nat} {xs : Nat → Int32} (hL : L ≤ 2560) (C0 : lw_At p s m meth c b L xs) : W p l e room_1 s m #[Value.ref b] below meth c s.heap [] 0 0 (lw_Z below #[Value.ref b] s) (entryFrame m ([Value.ref b] : List Value).toArray 4) := by
  obtain ⟨hx, hb, hr, hml, hown, hts, hX, hbl, hlocks, hgv⟩ := C0
  have htt : ∀ w ∈ tables_1, w.before #[Value.ref b] s = true := fun w hw => hts w (List.mem_append_right _ hw)
  have hll : ∀ w ∈ wsL_law, w.before #[Value.ref b] s = true := fun w hw => hts w (wsL_law_in w hw)
  have hg := flat_of_before _ hgv
  obtain ⟨D, I, hK⟩ := l_K hll htt
  obtain ⟨gK, gV, hZ⟩ := l_Z htt hg
  have CF : CallFix p m c cL_law 4 s #[Value.ref b] wsL_law RL := ⟨hx, hb, hml, hown, hll⟩
  have X : zS p s m #[Value.ref b] meth c cL_law 4 wsL_law RL D I (lA s) := ⟨CF, hlocks, hK, fun _ h => h⟩
  have hin4 := inlX4
  have hin5 := inlX5
  have hgo : zY p l e room_1 s m #[Value.ref b] below meth c D I (lA s) 4 0 0 (lw_Z below #[Value.ref b] s) [] 0 [(0, .ref b)] [] := by
    refine z_new X 4 (Cn := RX4) (T := TX4) (N := 7) [.null, .null, .null, .int 0, .null, .int 0, .int 0] tyX4 dL_law_0 rfl hin4 tyX4_ok (by decide +kernel : Cond.classLink RL 7 RX4 ∈ wsL_law) (by decide +kernel : Cond.instantiable RX4 7 ∈ wsL_law) (by decide +kernel : Cond.initialized RX4 ∈ wsL_law) (fun j hj => by rcases (show j = 0 ∨ j = 1 ∨ j = 2 ∨ j = 3 ∨ j = 4 ∨ j = 5 ∨ j = 6 by omega) with rfl | rfl | rfl | rfl | rfl | rfl | rfl <;> rfl) (Nat.le_of_ble_eq_true rfl) (Nat.le_of_ble_eq_true rfl) (fun q1 => ?_)
    refine z_dup X dL_law_3 rfl ?_
    refine z_callI X [] [(q1, .inr (4, [.null, .null, .null, .int 0, .null, .int 0, .int 0]))] zX4_init gL_law_X4_init rfl rfl (by decide +kernel : Cond.initialized RX4 ∈ wsL_law) (by decide +kernel : Cond.methodLink RL 9 yX4_init ∈ wsL_law) (by decide +kernel : Cond.instanceMethod yX4_init ∈ wsL_law) ⟨by decide, by decide, by decide +kernel⟩ ⟨Nat.le_of_ble_eq_true rfl, Nat.le_of_ble_eq_true rfl⟩ (Nat.le_of_ble_eq_true rfl) dL_law_4 ⟨Nat.le_of_ble_eq_true rfl, Nat.le_of_ble_eq_true rfl⟩ rfl (fun w1 hw1 => ?_)
    obtain ⟨hl1, hs1⟩ := hw1
    refine z_w w1 rfl ?_
    refine z_astore_n X [(1, .ref q1), (0, .ref b)] dL_law_7 rfl (by decide) rfl ?_
    refine z_new X 5 (Cn := RX5) (T := TX5) (N := 14) [.null, .null, .null, .int 0, .null, .int 0, .null, .int 0, .int 0, .int 0, .int 0, .int 0, .null, .int 0] tyX5 dL_law_8 rfl hin5 tyX5_ok (by decide +kernel : Cond.classLink RL 10 RX5 ∈ wsL_law) (by decide +kernel : Cond.instantiable RX5 14 ∈ wsL_law) (by decide +kernel : Cond.initialized RX5 ∈ wsL_law) (fun j hj => by rcases (show j = 0 ∨ j = 1 ∨ j = 2 ∨ j = 3 ∨ j = 4 ∨ j = 5 ∨ j = 6 ∨ j = 7 ∨ j = 8 ∨ j = 9 ∨ j = 10 ∨ j = 11 ∨ j = 12 ∨ j = 13 by omega) with rfl | rfl | rfl | rfl | rfl | rfl | rfl | rfl | rfl | rfl | rfl | rfl | rfl | rfl <;> rfl) (Nat.le_of_ble_eq_true rfl) (Nat.le_of_ble_eq_true rfl) (fun q2 => ?_)
    refine z_dup X dL_law_11 rfl ?_
    refine z_callI X w1 [(q2, .inr (5, [.null, .null, .null, .int 0, .null, .int 0, .null, .int 0, .int 0, .int 0, .int 0, .int 0, .null, .int 0]))] zX5_init gL_law_X5_init rfl rfl (by decide +kernel : Cond.initialized RX5 ∈ wsL_law) (by decide +kernel : Cond.methodLink RL 12 yX5_init ∈ wsL_law) (by decide +kernel : Cond.instanceMethod yX5_init ∈ wsL_law) ⟨by decide, by decide, by decide +kernel⟩ ⟨Nat.le_of_ble_eq_true rfl, Nat.le_of_ble_eq_true rfl⟩ (Nat.le_of_ble_eq_true rfl) dL_law_12 ⟨Nat.le_of_ble_eq_true rfl, Nat.le_of_ble_eq_true rfl⟩ rfl (fun w2 hw2 => ?_)
    obtain ⟨hl2, hs2⟩ := hw2
    refine z_astore_n X [(2, .ref q2), (1, .ref q1), (0, .ref b)] dL_law_15 rfl (by decide) rfl ?_
    refine z_iconst X (v := 0) dL_law_16 (by decide) ?_
    refine z_istore_n X [(3, .int 0), (2, .ref q2), (1, .ref q1), (0, .ref b)] dL_law_17 rfl (by decide) rfl ?_
    refine z_pick [0, 3, 2, 1] [(3, .int (nI 0)), (0, .ref b), (1, .ref q1), (2, .ref q2)] rfl ?_
    refine z_n 68 10199 (Nat.le_of_ble_eq_true rfl) (Nat.le_of_ble_eq_true rfl) ?_
    have hE : ((D, zadr (w1 ++ w2), I, gK, gV) : xE).2.1 = zadr (w1 ++ w2) := rfl
    obtain ⟨gC, a1⟩ := CX_first (E := (D, zadr (w1 ++ w2), I, gK, gV)) (hs1.l (v := w2)) hE
    obtain ⟨gM, a2⟩ := MX_first (E := (D, zadr (w1 ++ w2), I, gK, gV)) (hs2.r hl1 rfl) hE
    have hH : lH p s m meth c b L xs (D, zadr (w1 ++ w2), I, gK, gV) := ⟨⟨CF, hlocks, hK.1, hZ D _ I⟩, hX, hbl, hr⟩
    have hW := l_loop (l := l) (e := e) (below := below) hH hL (L + 1) 0 (zcon (w1 ++ w2)) T00 (fun _ => T00) 0 none (fun _ => 0) 0 none (by omega) (by omega) gC gM WX_T00
    have hxw := z_xw (E := (D, zadr (w1 ++ w2), I, gK, gV)) (zM_len hl1 hl2) hE
    subst a1
    subst a2
    intro H locs ls hP hD hS h
    exact hW H locs ls (by rw [hxw]; exact hP) (by rw [hxw]; exact hD) hS h
  have hl := lv_entry ([.ref b]) (n := 4) (Nat.le_of_ble_eq_true rfl)
  rw [lg_entry_eq]
  exact hgo s.heap [] _ (fun k q h => by simp at h) ⟨fun i j p q h => by simp at h, fun k q h => by simp at h⟩ va_S.rf hl
