section JR
variable {p : Program} {l : Launch} {e : Env} {R : Room} {s : State} {m : MethodId} {args : Array Value} {below : List Frame} {meth : Method} {c : Code} {cc : ByteArray} {nL : Nat} {Ts : List Cond} {own : String} {E : xE} {A : Nat → Prop} {cells slots : Nat} {Q : State → Prop} {C : xC} {pc : Nat} {lv : List (Nat × Value)} {st : List Value}
theorem y_ldcS (X : xS p s m args meth c cc nL Ts own E A) (i : Nat) (hi : i < 8) (ho : own = "ColumnSeasons$Script") {index : Nat} (d : decode cc pc = .ok (.ldc index, 2)) (hx : xsk i = index) (k : xY p l e R s m args below meth c E A nL cells slots Q (C) (pc + 2) (lv) (.ref (E.2.2.2.1 i) :: st)) : xY p l e R s m args below meth c E A nL cells slots Q (C) (pc) (lv) (st) := by
  intro H locs ls hP hD hS h
  subst ho
  subst hx
  exact va_ldcS X.1.1 X.1.2.1 X.1.2.2.2.1 (X.2.2.2.2.1 i hi) d (k H locs ls hP hD hS h)
theorem y_getsC (X : xS p s m args meth c cc nL Ts own E A) {index : Nat} (d : decode cc pc = .ok (.getstatic index, 3)) (hlink : Cond.fieldLink own index "java/lang/String" "COMPACT_STRINGS" "Z" ∈ Ts) (k : xY p l e R s m args below meth c E A nL cells slots Q (C) (pc + 3) (lv) (.int 1 :: st)) : xY p l e R s m args below meth c E A nL cells slots Q (C) (pc) (lv) (st) := by
  intro H locs ls hP hD hS h
  exact va_gets X.1.1 X.1.2.1 X.2.2.2.2.2.2.1 hS X.1.2.2.2.1 (X.1.2.2.2.2 _ hlink) (fun _ h9 => h9) d (k H locs ls hP hD hS h)
theorem y_getsP (X : xS p s m args meth c cc nL Ts own E A) {index : Nat} (d : decode cc pc = .ok (.getstatic index, 3)) (hlink : Cond.fieldLink own index "jdk/internal/util/Preconditions" "SIOOBE_FORMATTER" "Ljava/util/function/BiFunction;" ∈ Ts) (k : ∀ v : Value, (v = .null ∨ ∃ t : Nat, v = .ref t) → xY p l e R s m args below meth c E A nL cells slots Q (C) (pc + 3) (lv) (v :: st)) : xY p l e R s m args below meth c E A nL cells slots Q (C) (pc) (lv) (st) := by
  intro H locs ls hP hD hS h
  rcases X.2.2.2.2.2.2.2 with hZ | ⟨t, hZ⟩
  · exact va_gets X.1.1 X.1.2.1 hZ hS X.1.2.2.2.1 (X.1.2.2.2.2 _ hlink) (fun _ h9 => h9) d (k .null (Or.inl rfl) H locs ls hP hD hS h)
  · exact va_gets X.1.1 X.1.2.1 hZ hS X.1.2.2.2.1 (X.1.2.2.2.2 _ hlink) (fun _ h9 => h9) d (k (.ref t) (Or.inr ⟨t, rfl⟩) H locs ls hP hD hS h)
theorem y_getfV (X : xS p s m args meth c cc nL Ts own E A) (i : Nat) (hi : i < 8) {index : Nat} (d : decode cc pc = .ok (.getfield index, 3)) (hlink : Cond.fieldLink own index "java/lang/String" "value" "[B" ∈ Ts) (k : xY p l e R s m args below meth c E A nL cells slots Q (C) (pc + 3) (lv) (.ref (E.2.2.2.2 i) :: st)) : xY p l e R s m args below meth c E A nL cells slots Q (C) (pc) (lv) (.ref (E.2.2.2.1 i) :: st) := by
  intro H locs ls hP hD hS h
  exact vk_getf X.1.1 X.1.2.1 (X.2.2.2.2.2.1.1 i hi).2.2.1 hS X.1.2.2.2.1 (X.1.2.2.2.2 _ hlink) (fun _ h9 => h9) d (k H locs ls hP hD hS h)
theorem y_getfC (X : xS p s m args meth c cc nL Ts own E A) (i : Nat) (hi : i < 8) {index : Nat} (d : decode cc pc = .ok (.getfield index, 3)) (hlink : Cond.fieldLink own index "java/lang/String" "coder" "B" ∈ Ts) (k : xY p l e R s m args below meth c E A nL cells slots Q (C) (pc + 3) (lv) (.int 0 :: st)) : xY p l e R s m args below meth c E A nL cells slots Q (C) (pc) (lv) (.ref (E.2.2.2.1 i) :: st) := by
  intro H locs ls hP hD hS h
  exact vk_getf X.1.1 X.1.2.1 (X.2.2.2.2.2.1.1 i hi).2.1 hS X.1.2.2.2.1 (X.1.2.2.2.2 _ hlink) (fun _ h9 => h9) d (k H locs ls hP hD hS h)
theorem y_tlenS (X : xS p s m args meth c cc nL Ts own E A) (i : Nat) (hi : i < 8) (d : decode cc pc = .ok (.arraylength, 1)) (k : xY p l e R s m args below meth c E A nL cells slots Q (C) (pc + 1) (lv) (.int (nI (xlen.getD i 0)) :: st)) : xY p l e R s m args below meth c E A nL cells slots Q (C) (pc) (lv) (.ref (E.2.2.2.2 i) :: st) := by
  intro H locs ls hP hD hS h
  exact va_tlen X.1.1 X.1.2.1 (X.2.2.2.2.2.1.1 i hi).2.2.2 hS rfl d (k H locs ls hP hD hS h)
theorem y_tbS (X : xS p s m args meth c cc nL Ts own E A) (i : Nat) (hi : i < 8) {j : Nat} {x : Int32} (d : decode cc pc = .ok (.baload, 1)) (hx : x = nI j) (hj : j < xlen.getD i 0) (hn : xlen.getD i 0 < 2 ^ 31) (k : xY p l e R s m args below meth c E A nL cells slots Q (C) (pc + 1) (lv) (.int ((xbyt.getD i []).getD j 0) :: st)) : xY p l e R s m args below meth c E A nL cells slots Q (C) (pc) (lv) (.int x :: .ref (E.2.2.2.2 i) :: st) := by
  intro H locs ls hP hD hS h
  subst hx
  exact va_tb X.1.1 X.1.2.1 (X.2.2.2.2.2.1.1 i hi).2.2.2 hS (vp_in_nI hj hn) rfl d (by rw [nI_clamp (Nat.lt_trans hj hn)]; exact k H locs ls hP hD hS h)
theorem y_pop (X : xS p s m args meth c cc nL Ts own E A) {v : Value} (d : decode cc pc = .ok (.pop, 1)) (hv : v.category = 1) (k : xY p l e R s m args below meth c E A nL cells slots Q (C) (pc + 1) (lv) (st)) : xY p l e R s m args below meth c E A nL cells slots Q (C) (pc) (lv) (v :: st) := by
  intro H locs ls hP hD hS h
  exact lv_pop X.1.1 X.1.2.1 d hv (k H locs ls hP hD hS h)
theorem y_callKr (X : xS p s m args meth c cc nL Ts own E A) (i : Nat) (hi : i < 8) {r : Int32} {y : MethodName} {bytes : ByteArray} {maxL fr lo index : Nat} {ret : Option FieldType} {ws ws2 : List Cond} {av : List Value} {stk : List Value} (st : List Value) (n : Nat) (hM : xM E l y ws fr lo (.ref (E.2.2.2.1 i) :: av) C (fun v C1 => v = some (.int r) ∧ C1 = C)) (g : GoodIn Ts (wsV own index "java/lang/String" y ws)) (hw : ws = Cond.code y bytes maxL ret :: ws2) (hd : y.cls = "java/lang/String" ∧ y.cls ≠ "java/lang/invoke/MethodHandle" ∧ y.cls ≠ "java/lang/invoke/VarHandle" ∧ (parseMethodDescriptor y.desc).map (fun d => d.parameters.length) = some n) (hn : av.length = n) (hR : fr + 1 ≤ R.frames ∧ 8 + (maxL + 11) + lo ≤ R.locals) (hf : cells ≤ R.cells ∧ slots ≤ R.slots) (hW : (st.map fun v => v.category).sum ≤ 8) (hs : stk = av.reverse ++ .ref (E.2.2.2.1 i) :: st) (d : decode cc pc = .ok (.invokevirtual index, 3)) (k : xY p l e R s m args below meth c E A nL cells slots Q (C) (pc + 3) (lv) (.int r :: st)) : xY p l e R s m args below meth c E A nL cells slots Q (C) (pc) (lv) (stk) := by
  intro H locs ls hP hD hS h
  subst hs
  exact x_call (C := C) (va_runV (As := av) (rest := st) X.1 hM (cwV n X.1.2.2.2.2 g hw rfl rfl hd hR) ⟨xW_blind, vk_recv X.2.2.2.2.2.1 hi hS, fun U hU hW2 => ⟨rfl, xW_at X hP hD hS hU hW2⟩⟩ rfl hn h.1 rfl (lv_room hW) d hf) hS hD (fun v C1 hp H1 locs1 hP1 hD1 hS1 => by obtain ⟨rfl, rfl⟩ := hp; exact k H1 locs1 ls hP1 hD1 hS1 h)
end JR
/-- the words, by their characters -/
def wlk (k : Nat) : List Nat := ([[97, 100, 100], [102, 108, 97, 103], [100, 105, 103, 105, 116], [110, 117, 109, 98, 101, 114], [100, 114, 111, 112], [107, 105, 110, 100], [114, 111, 119], [115, 101, 116]] : List (List Nat)).getD k []
def chN (k j : Nat) : Nat := (wlk k).getD j 0
theorem xlen_31 : ∀ k : Nat, k < 8 → xlen.getD k 0 < 16 := by decide
theorem xlen_wl : ∀ k : Nat, k < 8 → xlen.getD k 0 = (wlk k).length := by decide
theorem chN_is : ∀ k : Nat, k < 8 → ∀ j : Nat, j < 16 → ((((xbyt.getD k []).getD j 0) &&& 255).toUInt32 % 65536).toInt32 = nI (chN k j) := by decide +kernel
theorem chN_lt : ∀ k : Nat, k < 8 → ∀ j : Nat, j < 16 → chN k j < 128 := by decide +kernel
theorem wl_step : ∀ k : Nat, k < 8 → ∀ j : Nat, j < (wlk k).length → (wlk k).drop j = chN k j :: (wlk k).drop (j + 1) := by decide +kernel
theorem shr_0 (n : Nat) (h : n < 16) : nI n >>> ((0 : Int32) &&& 31) = nI n := by
  have e : ∀ k : Nat, k < 16 → nI k >>> ((0 : Int32) &&& 31) = nI k := by decide +kernel
  exact e n h
