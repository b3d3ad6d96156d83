set_option maxRecDepth 100000 in
set_option maxHeartbeats 4000000 in
theorem whole_start {p : Program} {e : Env} {s : State} {m : MethodId} {below : List Frame} {meth : Method} {c : Code} (l : Launch) (hflags : l.flags = flags0) {b L : Nat} {xs : Nat → Int32} (hL : L ≤ 260) (C0 : lw_At p s m meth c b L xs) : W p l e room_1 s m #[Value.ref b] below meth c s.heap [] 0 0 (lw_Z below #[Value.ref b] s) (entryFrame m ([Value.ref b] : List Value).toArray 12) := by
  obtain ⟨hx, hb, hr, hml, hown, hts, hX, hbl, hlocks, hgv⟩ := C0
  have htt : ∀ w ∈ tables_1, w.before #[Value.ref b] s = true := fun w hw => hts w (List.mem_append_right _ hw)
  have hll : ∀ w ∈ wsL_law, w.before #[Value.ref b] s = true := fun w hw => hts w (wsL_law_in w hw)
  obtain ⟨D, I, hK⟩ := l_K hll htt
  have CF : CallFix p m c cL_law 12 s #[Value.ref b] wsL_law RL := ⟨hx, hb, hml, hown, hll⟩
  have X : zS p s m #[Value.ref b] meth c cL_law 12 wsL_law RL D I (lA s) := ⟨CF, hlocks, hK, fun _ h => h⟩
  have hin4 := inlX4
  have hgo : zY p l e room_1 s m #[Value.ref b] below meth c D I (lA s) 12 0 0 (lw_Z below #[Value.ref b] s) [] 0 [(0, .ref b)] [] := by
    refine z_new X 4 (Cn := RX4) (T := TX4) (N := 7) [.null, .null, .null, .int 0, .null, .int 0, .int 0] tyX4 dL_law_0 rfl hin4 tyX4_ok (by decide +kernel : Cond.classLink RL 23 RX4 ∈ wsL_law) (by decide +kernel : Cond.instantiable RX4 7 ∈ wsL_law) (by decide +kernel : Cond.initialized RX4 ∈ wsL_law) (fun j hj => by rcases (show j = 0 ∨ j = 1 ∨ j = 2 ∨ j = 3 ∨ j = 4 ∨ j = 5 ∨ j = 6 by omega) with rfl | rfl | rfl | rfl | rfl | rfl | rfl <;> rfl) (Nat.le_of_ble_eq_true rfl) (Nat.le_of_ble_eq_true rfl) (fun q1 => ?_)
    refine z_dup X dL_law_3 rfl ?_
    refine z_callI X [] [(q1, .inr (4, [.null, .null, .null, .int 0, .null, .int 0, .int 0]))] zX4_init gL_law_X4_init rfl rfl (by decide +kernel : Cond.initialized RX4 ∈ wsL_law) (by decide +kernel : Cond.methodLink RL 88 yX4_init ∈ wsL_law) (by decide +kernel : Cond.instanceMethod yX4_init ∈ wsL_law) ⟨by decide, by decide, by decide +kernel⟩ ⟨Nat.le_of_ble_eq_true rfl, Nat.le_of_ble_eq_true rfl⟩ (Nat.le_of_ble_eq_true rfl) dL_law_4 ⟨Nat.le_of_ble_eq_true rfl, Nat.le_of_ble_eq_true rfl⟩ rfl (fun w1 hw1 => ?_)
    obtain ⟨hl1, hs1⟩ := hw1
    refine z_w w1 rfl ?_
    refine z_astore_n X [(1, .ref q1), (0, .ref b)] dL_law_7 rfl (by decide) rfl ?_
    refine z_n 61 5135 (Nat.le_of_ble_eq_true rfl) (Nat.le_of_ble_eq_true rfl) ?_
    have hE : ((D, zadr w1, I, b, L, xs) : xE).2.1 = zadr w1 := rfl
    obtain ⟨gC, a1⟩ := CX_first (E := (D, zadr w1, I, b, L, xs)) hs1 hE
    have hZ : xZ (D, zadr w1, I, b, L, xs) (lA s) s s.heap := ⟨l_nest htt, hX, Nat.not_le.mpr hbl⟩
    have hH : lH p s m meth c (D, zadr w1, I, b, L, xs) := ⟨⟨CF, hlocks, hK.1, hZ⟩, hr⟩
    have hW := l_body (l := l) (e := e) (below := below) gC WX_T00 DIF_T00 hH hL
    have hxw := z_xw (E := (D, zadr w1, I, b, L, xs)) hl1 hE
    subst a1
    intro H locs ls hP hD hS h
    exact hW H locs ls (by rw [hxw]; exact hP) (by rw [hxw]; exact hD) hS h
  have hl := lv_entry ([.ref b]) (n := 12) (Nat.le_of_ble_eq_true rfl)
  rw [lg_entry_eq]
  exact hgo s.heap [] _ (fun k q h => by simp at h) ⟨fun i j p q h => by simp at h, fun k q h => by simp at h⟩ va_S.rf hl
