set_option maxRecDepth 100000 in
set_option maxHeartbeats 4000000 in
theorem lc_0 {p : Program} {l : Launch} {e : Env} {s : State} {m : MethodId} {b L : Nat} {below : List Frame} {meth : Method} {c : Code} {xs : Nat → Int32} {E : xE} {C : xC} {j : Nat} {T : Tb} {hh : Nat → Tb} {hn : Nat} {sn : Option Tb} {tx : Nat → Int32} {ln : Nat} {sp : Option (Nat × Int32)} (h : lH p s m meth c b L xs E) (hj : j + 5 ≤ L) (hL : L ≤ 2560) (gC : CX E C T hh hn sn tx ln sp) (gM : MX E C T hh hn sn tx ln sp) (gW : WX T hh hn sn tx ln sp) (k : lawN p l e s m b below meth c E j) : lY p l e s m b below meth c E C j 148 [] := by
  obtain ⟨X, hX, hbl, hr⟩ := h
  have hbA : ¬ lA s b := Nat.not_le.mpr hbl
  obtain ⟨f0, e0⟩ := CX_0 gC
  obtain ⟨f61, e61⟩ := MX_61 gM
  refine y_aload_n X dL_law_148 2 rfl ?_
  refine y_aload_n X dL_law_149 1 rfl ?_
  refine y_iload_n X dL_law_150 0 rfl ?_
  refine y_iconst X (v := 1) dL_law_151 (by decide) ?_
  refine y_iadd X (z := (nI (j + 1))) dL_law_152 (nI_add (j) (1)) ?_
  refine y_sld X (j := j + 1) hX hbl hbA dL_law_153 rfl (by omega) (by omega) ?_
  refine y_aload_n X dL_law_154 1 rfl ?_
  refine y_iload_n X dL_law_155 0 rfl ?_
  refine y_iconst X (v := 2) dL_law_156 (by decide) ?_
  refine y_iadd X (z := (nI (j + 2))) dL_law_157 (nI_add (j) (2)) ?_
  refine y_sld X (j := j + 2) hX hbl hbA dL_law_158 rfl (by omega) (by omega) ?_
  refine y_aload_n X dL_law_159 1 rfl ?_
  refine y_iload_n X dL_law_160 0 rfl ?_
  refine y_iconst X (v := 3) dL_law_161 (by decide) ?_
  refine y_iadd X (z := (nI (j + 3))) dL_law_162 (nI_add (j) (3)) ?_
  refine y_sld X (j := j + 3) hX hbl hbA dL_law_163 rfl (by omega) (by omega) ?_
  refine y_callV X (0) 4 (av := [.int (xs (j + 1)), .int (xs (j + 2)), .int (xs (j + 3))]) [] 3 (c_X4_add gC gW) (by decide) e0 rfl gL_law_X4_add rfl (by decide +kernel) rfl ⟨Nat.le_of_ble_eq_true rfl, Nat.le_of_ble_eq_true rfl⟩ ⟨Nat.le_of_ble_eq_true rfl, Nat.le_of_ble_eq_true rfl⟩ (Nat.le_of_ble_eq_true rfl) rfl dL_law_164 (fun v1 C1 hp1 => ?_)
  obtain ⟨rfl, gC1, f1⟩ := hp1
  have gM1 := MX_far gM f1
  refine y_aload_n X dL_law_167 3 rfl ?_
  refine y_aload_n X dL_law_168 1 rfl ?_
  refine y_iload_n X dL_law_169 0 rfl ?_
  refine y_iconst X (v := 1) dL_law_170 (by decide) ?_
  refine y_iadd X (z := (nI (j + 1))) dL_law_171 (nI_add (j) (1)) ?_
  refine y_sld X (j := j + 1) hX hbl hbA dL_law_172 rfl (by omega) (by omega) ?_
  refine y_aload_n X dL_law_173 1 rfl ?_
  refine y_iload_n X dL_law_174 0 rfl ?_
  refine y_iconst X (v := 2) dL_law_175 (by decide) ?_
  refine y_iadd X (z := (nI (j + 2))) dL_law_176 (nI_add (j) (2)) ?_
  refine y_sld X (j := j + 2) hX hbl hbA dL_law_177 rfl (by omega) (by omega) ?_
  refine y_aload_n X dL_law_178 1 rfl ?_
  refine y_iload_n X dL_law_179 0 rfl ?_
  refine y_iconst X (v := 3) dL_law_180 (by decide) ?_
  refine y_iadd X (z := (nI (j + 3))) dL_law_181 (nI_add (j) (3)) ?_
  refine y_sld X (j := j + 3) hX hbl hbA dL_law_182 rfl (by omega) (by omega) ?_
  obtain ⟨f61b, e61b⟩ := MX_61 gM1
  refine y_callV X (61) 5 (av := [.int (xs (j + 1)), .int (xs (j + 2)), .int (xs (j + 3))]) [.int (_)] 3 (c_X5_add gM1 gW) (by decide) e61b rfl gL_law_X5_add rfl (by decide +kernel) rfl ⟨Nat.le_of_ble_eq_true rfl, Nat.le_of_ble_eq_true rfl⟩ ⟨Nat.le_of_ble_eq_true rfl, Nat.le_of_ble_eq_true rfl⟩ (Nat.le_of_ble_eq_true rfl) rfl dL_law_183 (fun v2 C2 hp2 => ?_)
  obtain ⟨rfl, gM2, f2⟩ := hp2
  have gC2 := CX_far gC1 f2
  refine y_st [_, _] rfl ?_
  refine y_icmp_eq X 825 True dL_law_186 (by decide) (iff_of_true rfl trivial) (fun _ => ?_) (fun c1 => absurd trivial c1)
  exact k C2 _ _ _ _ _ _ _ gC2 gM2 (WX_act gW (WF_sAdd gW.1))
set_option maxRecDepth 100000 in
set_option maxHeartbeats 4000000 in
theorem lc_1 {p : Program} {l : Launch} {e : Env} {s : State} {m : MethodId} {b L : Nat} {below : List Frame} {meth : Method} {c : Code} {xs : Nat → Int32} {E : xE} {C : xC} {j : Nat} {T : Tb} {hh : Nat → Tb} {hn : Nat} {sn : Option Tb} {tx : Nat → Int32} {ln : Nat} {sp : Option (Nat × Int32)} (h : lH p s m meth c b L xs E) (hj : j + 5 ≤ L) (hL : L ≤ 2560) (gC : CX E C T hh hn sn tx ln sp) (gM : MX E C T hh hn sn tx ln sp) (gW : WX T hh hn sn tx ln sp) (k : lawN p l e s m b below meth c E j) : lY p l e s m b below meth c E C j 191 [] := by
  obtain ⟨X, hX, hbl, hr⟩ := h
  have hbA : ¬ lA s b := Nat.not_le.mpr hbl
  obtain ⟨f0, e0⟩ := CX_0 gC
  obtain ⟨f61, e61⟩ := MX_61 gM
  refine y_aload_n X dL_law_191 2 rfl ?_
  refine y_aload_n X dL_law_192 1 rfl ?_
  refine y_iload_n X dL_law_193 0 rfl ?_
  refine y_iconst X (v := 1) dL_law_194 (by decide) ?_
  refine y_iadd X (z := (nI (j + 1))) dL_law_195 (nI_add (j) (1)) ?_
  refine y_sld X (j := j + 1) hX hbl hbA dL_law_196 rfl (by omega) (by omega) ?_
  refine y_callV X (0) 4 (av := [.int (xs (j + 1))]) [] 1 (c_X4_drop gC gW) (by decide) e0 rfl gL_law_X4_drop rfl (by decide +kernel) rfl ⟨Nat.le_of_ble_eq_true rfl, Nat.le_of_ble_eq_true rfl⟩ ⟨Nat.le_of_ble_eq_true rfl, Nat.le_of_ble_eq_true rfl⟩ (Nat.le_of_ble_eq_true rfl) rfl dL_law_197 (fun v1 C1 hp1 => ?_)
  obtain ⟨rfl, gC1, f1⟩ := hp1
  have gM1 := MX_far gM f1
  refine y_aload_n X dL_law_200 3 rfl ?_
  refine y_aload_n X dL_law_201 1 rfl ?_
  refine y_iload_n X dL_law_202 0 rfl ?_
  refine y_iconst X (v := 1) dL_law_203 (by decide) ?_
  refine y_iadd X (z := (nI (j + 1))) dL_law_204 (nI_add (j) (1)) ?_
  refine y_sld X (j := j + 1) hX hbl hbA dL_law_205 rfl (by omega) (by omega) ?_
  obtain ⟨f61b, e61b⟩ := MX_61 gM1
  refine y_callV X (61) 5 (av := [.int (xs (j + 1))]) [.int (_)] 1 (c_X5_drop gM1 gW) (by decide) e61b rfl gL_law_X5_drop rfl (by decide +kernel) rfl ⟨Nat.le_of_ble_eq_true rfl, Nat.le_of_ble_eq_true rfl⟩ ⟨Nat.le_of_ble_eq_true rfl, Nat.le_of_ble_eq_true rfl⟩ (Nat.le_of_ble_eq_true rfl) rfl dL_law_206 (fun v2 C2 hp2 => ?_)
  obtain ⟨rfl, gM2, f2⟩ := hp2
  have gC2 := CX_far gC1 f2
  refine y_st [_, _] rfl ?_
  refine y_icmp_eq X 825 True dL_law_209 (by decide) (iff_of_true rfl trivial) (fun _ => ?_) (fun c1 => absurd trivial c1)
  exact k C2 _ _ _ _ _ _ _ gC2 gM2 (WX_act gW (WF_sDrop gW.1))
set_option maxRecDepth 100000 in
set_option maxHeartbeats 4000000 in
theorem lc_2 {p : Program} {l : Launch} {e : Env} {s : State} {m : MethodId} {b L : Nat} {below : List Frame} {meth : Method} {c : Code} {xs : Nat → Int32} {E : xE} {C : xC} {j : Nat} {T : Tb} {hh : Nat → Tb} {hn : Nat} {sn : Option Tb} {tx : Nat → Int32} {ln : Nat} {sp : Option (Nat × Int32)} (h : lH p s m meth c b L xs E) (hj : j + 5 ≤ L) (hL : L ≤ 2560) (gC : CX E C T hh hn sn tx ln sp) (gM : MX E C T hh hn sn tx ln sp) (gW : WX T hh hn sn tx ln sp) (k : lawN p l e s m b below meth c E j) : lY p l e s m b below meth c E C j 214 [] := by
  obtain ⟨X, hX, hbl, hr⟩ := h
  have hbA : ¬ lA s b := Nat.not_le.mpr hbl
  obtain ⟨f0, e0⟩ := CX_0 gC
  obtain ⟨f61, e61⟩ := MX_61 gM
  refine y_aload_n X dL_law_214 2 rfl ?_
  refine y_aload_n X dL_law_215 1 rfl ?_
  refine y_iload_n X dL_law_216 0 rfl ?_
  refine y_iconst X (v := 1) dL_law_217 (by decide) ?_
  refine y_iadd X (z := (nI (j + 1))) dL_law_218 (nI_add (j) (1)) ?_
  refine y_sld X (j := j + 1) hX hbl hbA dL_law_219 rfl (by omega) (by omega) ?_
  refine y_aload_n X dL_law_220 1 rfl ?_
  refine y_iload_n X dL_law_221 0 rfl ?_
  refine y_iconst X (v := 2) dL_law_222 (by decide) ?_
  refine y_iadd X (z := (nI (j + 2))) dL_law_223 (nI_add (j) (2)) ?_
  refine y_sld X (j := j + 2) hX hbl hbA dL_law_224 rfl (by omega) (by omega) ?_
  refine y_callV X (0) 4 (av := [.int (xs (j + 1)), .int (xs (j + 2))]) [] 2 (c_X4_kind gC gW) (by decide) e0 rfl gL_law_X4_kind rfl (by decide +kernel) rfl ⟨Nat.le_of_ble_eq_true rfl, Nat.le_of_ble_eq_true rfl⟩ ⟨Nat.le_of_ble_eq_true rfl, Nat.le_of_ble_eq_true rfl⟩ (Nat.le_of_ble_eq_true rfl) rfl dL_law_225 (fun v1 C1 hp1 => ?_)
  obtain ⟨rfl, gC1, f1⟩ := hp1
  have gM1 := MX_far gM f1
  refine y_aload_n X dL_law_228 3 rfl ?_
  refine y_aload_n X dL_law_229 1 rfl ?_
  refine y_iload_n X dL_law_230 0 rfl ?_
  refine y_iconst X (v := 1) dL_law_231 (by decide) ?_
  refine y_iadd X (z := (nI (j + 1))) dL_law_232 (nI_add (j) (1)) ?_
  refine y_sld X (j := j + 1) hX hbl hbA dL_law_233 rfl (by omega) (by omega) ?_
  refine y_aload_n X dL_law_234 1 rfl ?_
  refine y_iload_n X dL_law_235 0 rfl ?_
  refine y_iconst X (v := 2) dL_law_236 (by decide) ?_
  refine y_iadd X (z := (nI (j + 2))) dL_law_237 (nI_add (j) (2)) ?_
  refine y_sld X (j := j + 2) hX hbl hbA dL_law_238 rfl (by omega) (by omega) ?_
  obtain ⟨f61b, e61b⟩ := MX_61 gM1
  refine y_callV X (61) 5 (av := [.int (xs (j + 1)), .int (xs (j + 2))]) [.int (_)] 2 (c_X5_kind gM1 gW) (by decide) e61b rfl gL_law_X5_kind rfl (by decide +kernel) rfl ⟨Nat.le_of_ble_eq_true rfl, Nat.le_of_ble_eq_true rfl⟩ ⟨Nat.le_of_ble_eq_true rfl, Nat.le_of_ble_eq_true rfl⟩ (Nat.le_of_ble_eq_true rfl) rfl dL_law_239 (fun v2 C2 hp2 => ?_)
  obtain ⟨rfl, gM2, f2⟩ := hp2
  have gC2 := CX_far gC1 f2
  refine y_st [_, _] rfl ?_
  refine y_icmp_eq X 825 True dL_law_242 (by decide) (iff_of_true rfl trivial) (fun _ => ?_) (fun c1 => absurd trivial c1)
  exact k C2 _ _ _ _ _ _ _ gC2 gM2 (WX_act gW (WF_sKind gW.1))
set_option maxRecDepth 100000 in
set_option maxHeartbeats 4000000 in
theorem lc_3 {p : Program} {l : Launch} {e : Env} {s : State} {m : MethodId} {b L : Nat} {below : List Frame} {meth : Method} {c : Code} {xs : Nat → Int32} {E : xE} {C : xC} {j : Nat} {T : Tb} {hh : Nat → Tb} {hn : Nat} {sn : Option Tb} {tx : Nat → Int32} {ln : Nat} {sp : Option (Nat × Int32)} (h : lH p s m meth c b L xs E) (hj : j + 5 ≤ L) (hL : L ≤ 2560) (gC : CX E C T hh hn sn tx ln sp) (gM : MX E C T hh hn sn tx ln sp) (gW : WX T hh hn sn tx ln sp) (k : lawN p l e s m b below meth c E j) : lY p l e s m b below meth c E C j 247 [] := by
  obtain ⟨X, hX, hbl, hr⟩ := h
  have hbA : ¬ lA s b := Nat.not_le.mpr hbl
  obtain ⟨f0, e0⟩ := CX_0 gC
  obtain ⟨f61, e61⟩ := MX_61 gM
  refine y_aload_n X dL_law_247 2 rfl ?_
  refine y_callV X (0) 4 (av := []) [] 0 (c_X4_row gC gW) (by decide) e0 rfl gL_law_X4_row rfl (by decide +kernel) rfl ⟨Nat.le_of_ble_eq_true rfl, Nat.le_of_ble_eq_true rfl⟩ ⟨Nat.le_of_ble_eq_true rfl, Nat.le_of_ble_eq_true rfl⟩ (Nat.le_of_ble_eq_true rfl) rfl dL_law_248 (fun v1 C1 hp1 => ?_)
  obtain ⟨rfl, gC1, f1⟩ := hp1
  have gM1 := MX_far gM f1
  refine y_aload_n X dL_law_251 3 rfl ?_
  obtain ⟨f61b, e61b⟩ := MX_61 gM1
  refine y_callV X (61) 5 (av := []) [.int (_)] 0 (c_X5_row gM1 gW) (by decide) e61b rfl gL_law_X5_row rfl (by decide +kernel) rfl ⟨Nat.le_of_ble_eq_true rfl, Nat.le_of_ble_eq_true rfl⟩ ⟨Nat.le_of_ble_eq_true rfl, Nat.le_of_ble_eq_true rfl⟩ (Nat.le_of_ble_eq_true rfl) rfl dL_law_252 (fun v2 C2 hp2 => ?_)
  obtain ⟨rfl, gM2, f2⟩ := hp2
  have gC2 := CX_far gC1 f2
  refine y_st [_, _] rfl ?_
  refine y_icmp_eq X 825 True dL_law_255 (by decide) (iff_of_true rfl trivial) (fun _ => ?_) (fun c1 => absurd trivial c1)
  exact k C2 _ _ _ _ _ _ _ gC2 gM2 (WX_act gW (WF_sRow gW.1))
set_option maxRecDepth 100000 in
set_option maxHeartbeats 4000000 in
theorem lc_4 {p : Program} {l : Launch} {e : Env} {s : State} {m : MethodId} {b L : Nat} {below : List Frame} {meth : Method} {c : Code} {xs : Nat → Int32} {E : xE} {C : xC} {j : Nat} {T : Tb} {hh : Nat → Tb} {hn : Nat} {sn : Option Tb} {tx : Nat → Int32} {ln : Nat} {sp : Option (Nat × Int32)} (h : lH p s m meth c b L xs E) (hj : j + 5 ≤ L) (hL : L ≤ 2560) (gC : CX E C T hh hn sn tx ln sp) (gM : MX E C T hh hn sn tx ln sp) (gW : WX T hh hn sn tx ln sp) (k : lawN p l e s m b below meth c E j) : lY p l e s m b below meth c E C j 260 [] := by
  obtain ⟨X, hX, hbl, hr⟩ := h
  have hbA : ¬ lA s b := Nat.not_le.mpr hbl
  obtain ⟨f0, e0⟩ := CX_0 gC
  obtain ⟨f61, e61⟩ := MX_61 gM
  refine y_aload_n X dL_law_260 2 rfl ?_
  refine y_aload_n X dL_law_261 1 rfl ?_
  refine y_iload_n X dL_law_262 0 rfl ?_
  refine y_iconst X (v := 1) dL_law_263 (by decide) ?_
  refine y_iadd X (z := (nI (j + 1))) dL_law_264 (nI_add (j) (1)) ?_
  refine y_sld X (j := j + 1) hX hbl hbA dL_law_265 rfl (by omega) (by omega) ?_
  refine y_aload_n X dL_law_266 1 rfl ?_
  refine y_iload_n X dL_law_267 0 rfl ?_
  refine y_iconst X (v := 2) dL_law_268 (by decide) ?_
  refine y_iadd X (z := (nI (j + 2))) dL_law_269 (nI_add (j) (2)) ?_
  refine y_sld X (j := j + 2) hX hbl hbA dL_law_270 rfl (by omega) (by omega) ?_
  refine y_aload_n X dL_law_271 1 rfl ?_
  refine y_iload_n X dL_law_272 0 rfl ?_
  refine y_iconst X (v := 3) dL_law_273 (by decide) ?_
  refine y_iadd X (z := (nI (j + 3))) dL_law_274 (nI_add (j) (3)) ?_
  refine y_sld X (j := j + 3) hX hbl hbA dL_law_275 rfl (by omega) (by omega) ?_
  refine y_callV X (0) 4 (av := [.int (xs (j + 1)), .int (xs (j + 2)), .int (xs (j + 3))]) [] 3 (c_X4_set gC gW) (by decide) e0 rfl gL_law_X4_set rfl (by decide +kernel) rfl ⟨Nat.le_of_ble_eq_true rfl, Nat.le_of_ble_eq_true rfl⟩ ⟨Nat.le_of_ble_eq_true rfl, Nat.le_of_ble_eq_true rfl⟩ (Nat.le_of_ble_eq_true rfl) rfl dL_law_276 (fun v1 C1 hp1 => ?_)
  obtain ⟨rfl, gC1, f1⟩ := hp1
  have gM1 := MX_far gM f1
  refine y_aload_n X dL_law_279 3 rfl ?_
  refine y_aload_n X dL_law_280 1 rfl ?_
  refine y_iload_n X dL_law_281 0 rfl ?_
  refine y_iconst X (v := 1) dL_law_282 (by decide) ?_
  refine y_iadd X (z := (nI (j + 1))) dL_law_283 (nI_add (j) (1)) ?_
  refine y_sld X (j := j + 1) hX hbl hbA dL_law_284 rfl (by omega) (by omega) ?_
  refine y_aload_n X dL_law_285 1 rfl ?_
  refine y_iload_n X dL_law_286 0 rfl ?_
  refine y_iconst X (v := 2) dL_law_287 (by decide) ?_
  refine y_iadd X (z := (nI (j + 2))) dL_law_288 (nI_add (j) (2)) ?_
  refine y_sld X (j := j + 2) hX hbl hbA dL_law_289 rfl (by omega) (by omega) ?_
  refine y_aload_n X dL_law_290 1 rfl ?_
  refine y_iload_n X dL_law_291 0 rfl ?_
  refine y_iconst X (v := 3) dL_law_292 (by decide) ?_
  refine y_iadd X (z := (nI (j + 3))) dL_law_293 (nI_add (j) (3)) ?_
  refine y_sld X (j := j + 3) hX hbl hbA dL_law_294 rfl (by omega) (by omega) ?_
  obtain ⟨f61b, e61b⟩ := MX_61 gM1
  refine y_callV X (61) 5 (av := [.int (xs (j + 1)), .int (xs (j + 2)), .int (xs (j + 3))]) [.int (_)] 3 (c_X5_set gM1 gW) (by decide) e61b rfl gL_law_X5_set rfl (by decide +kernel) rfl ⟨Nat.le_of_ble_eq_true rfl, Nat.le_of_ble_eq_true rfl⟩ ⟨Nat.le_of_ble_eq_true rfl, Nat.le_of_ble_eq_true rfl⟩ (Nat.le_of_ble_eq_true rfl) rfl dL_law_295 (fun v2 C2 hp2 => ?_)
  obtain ⟨rfl, gM2, f2⟩ := hp2
  have gC2 := CX_far gC1 f2
  refine y_st [_, _] rfl ?_
  refine y_icmp_eq X 825 True dL_law_298 (by decide) (iff_of_true rfl trivial) (fun _ => ?_) (fun c1 => absurd trivial c1)
  exact k C2 _ _ _ _ _ _ _ gC2 gM2 (WX_act gW (WF_sSet gW.1))
set_option maxRecDepth 100000 in
set_option maxHeartbeats 4000000 in
theorem lc_5 {p : Program} {l : Launch} {e : Env} {s : State} {m : MethodId} {b L : Nat} {below : List Frame} {meth : Method} {c : Code} {xs : Nat → Int32} {E : xE} {C : xC} {j : Nat} {T : Tb} {hh : Nat → Tb} {hn : Nat} {sn : Option Tb} {tx : Nat → Int32} {ln : Nat} {sp : Option (Nat × Int32)} (h : lH p s m meth c b L xs E) (hj : j + 5 ≤ L) (hL : L ≤ 2560) (gC : CX E C T hh hn sn tx ln sp) (gM : MX E C T hh hn sn tx ln sp) (gW : WX T hh hn sn tx ln sp) (k : lawN p l e s m b below meth c E j) : lY p l e s m b below meth c E C j 303 [] := by
  obtain ⟨X, hX, hbl, hr⟩ := h
  have hbA : ¬ lA s b := Nat.not_le.mpr hbl
  obtain ⟨f0, e0⟩ := CX_0 gC
  obtain ⟨f61, e61⟩ := MX_61 gM
  refine y_aload_n X dL_law_303 2 rfl ?_
  refine y_aload_n X dL_law_304 1 rfl ?_
  refine y_iload_n X dL_law_305 0 rfl ?_
  refine y_iconst X (v := 1) dL_law_306 (by decide) ?_
  refine y_iadd X (z := (nI (j + 1))) dL_law_307 (nI_add (j) (1)) ?_
  refine y_sld X (j := j + 1) hX hbl hbA dL_law_308 rfl (by omega) (by omega) ?_
  refine y_callV X (0) 4 (av := [.int (xs (j + 1))]) [] 1 (c_X4_remove gC gW) (by decide) e0 rfl gL_law_X4_remove rfl (by decide +kernel) rfl ⟨Nat.le_of_ble_eq_true rfl, Nat.le_of_ble_eq_true rfl⟩ ⟨Nat.le_of_ble_eq_true rfl, Nat.le_of_ble_eq_true rfl⟩ (Nat.le_of_ble_eq_true rfl) rfl dL_law_309 (fun v1 C1 hp1 => ?_)
  obtain ⟨rfl, gC1, f1⟩ := hp1
  have gM1 := MX_far gM f1
  refine y_aload_n X dL_law_312 3 rfl ?_
  refine y_aload_n X dL_law_313 1 rfl ?_
  refine y_iload_n X dL_law_314 0 rfl ?_
  refine y_iconst X (v := 1) dL_law_315 (by decide) ?_
  refine y_iadd X (z := (nI (j + 1))) dL_law_316 (nI_add (j) (1)) ?_
  refine y_sld X (j := j + 1) hX hbl hbA dL_law_317 rfl (by omega) (by omega) ?_
  obtain ⟨f61b, e61b⟩ := MX_61 gM1
  refine y_callV X (61) 5 (av := [.int (xs (j + 1))]) [.int (_)] 1 (c_X5_remove gM1 gW) (by decide) e61b rfl gL_law_X5_remove rfl (by decide +kernel) rfl ⟨Nat.le_of_ble_eq_true rfl, Nat.le_of_ble_eq_true rfl⟩ ⟨Nat.le_of_ble_eq_true rfl, Nat.le_of_ble_eq_true rfl⟩ (Nat.le_of_ble_eq_true rfl) rfl dL_law_318 (fun v2 C2 hp2 => ?_)
  obtain ⟨rfl, gM2, f2⟩ := hp2
  have gC2 := CX_far gC1 f2
  refine y_st [_, _] rfl ?_
  refine y_icmp_eq X 825 True dL_law_321 (by decide) (iff_of_true rfl trivial) (fun _ => ?_) (fun c1 => absurd trivial c1)
  exact k C2 _ _ _ _ _ _ _ gC2 gM2 (WX_act gW (WF_sRem gW.1))
set_option maxRecDepth 100000 in
set_option maxHeartbeats 4000000 in
theorem lc_6 {p : Program} {l : Launch} {e : Env} {s : State} {m : MethodId} {b L : Nat} {below : List Frame} {meth : Method} {c : Code} {xs : Nat → Int32} {E : xE} {C : xC} {j : Nat} {T : Tb} {hh : Nat → Tb} {hn : Nat} {sn : Option Tb} {tx : Nat → Int32} {ln : Nat} {sp : Option (Nat × Int32)} (h : lH p s m meth c b L xs E) (hj : j + 5 ≤ L) (hL : L ≤ 2560) (gC : CX E C T hh hn sn tx ln sp) (gM : MX E C T hh hn sn tx ln sp) (gW : WX T hh hn sn tx ln sp) (k : lawN p l e s m b below meth c E j) : lY p l e s m b below meth c E C j 326 [] := by
  obtain ⟨X, hX, hbl, hr⟩ := h
  have hbA : ¬ lA s b := Nat.not_le.mpr hbl
  obtain ⟨f0, e0⟩ := CX_0 gC
  obtain ⟨f61, e61⟩ := MX_61 gM
  refine y_aload_n X dL_law_326 2 rfl ?_
  refine y_aload_n X dL_law_327 1 rfl ?_
  refine y_iload_n X dL_law_328 0 rfl ?_
  refine y_iconst X (v := 1) dL_law_329 (by decide) ?_
  refine y_iadd X (z := (nI (j + 1))) dL_law_330 (nI_add (j) (1)) ?_
  refine y_sld X (j := j + 1) hX hbl hbA dL_law_331 rfl (by omega) (by omega) ?_
  refine y_aload_n X dL_law_332 1 rfl ?_
  refine y_iload_n X dL_law_333 0 rfl ?_
  refine y_iconst X (v := 2) dL_law_334 (by decide) ?_
  refine y_iadd X (z := (nI (j + 2))) dL_law_335 (nI_add (j) (2)) ?_
  refine y_sld X (j := j + 2) hX hbl hbA dL_law_336 rfl (by omega) (by omega) ?_
  refine y_callV X (0) 4 (av := [.int (xs (j + 1)), .int (xs (j + 2))]) [] 2 (c_X4_makeOver gC gW) (by decide) e0 rfl gL_law_X4_makeOver rfl (by decide +kernel) rfl ⟨Nat.le_of_ble_eq_true rfl, Nat.le_of_ble_eq_true rfl⟩ ⟨Nat.le_of_ble_eq_true rfl, Nat.le_of_ble_eq_true rfl⟩ (Nat.le_of_ble_eq_true rfl) rfl dL_law_337 (fun v1 C1 hp1 => ?_)
  obtain ⟨rfl, gC1, f1⟩ := hp1
  have gM1 := MX_far gM f1
  refine y_aload_n X dL_law_340 3 rfl ?_
  refine y_aload_n X dL_law_341 1 rfl ?_
  refine y_iload_n X dL_law_342 0 rfl ?_
  refine y_iconst X (v := 1) dL_law_343 (by decide) ?_
  refine y_iadd X (z := (nI (j + 1))) dL_law_344 (nI_add (j) (1)) ?_
  refine y_sld X (j := j + 1) hX hbl hbA dL_law_345 rfl (by omega) (by omega) ?_
  refine y_aload_n X dL_law_346 1 rfl ?_
  refine y_iload_n X dL_law_347 0 rfl ?_
  refine y_iconst X (v := 2) dL_law_348 (by decide) ?_
  refine y_iadd X (z := (nI (j + 2))) dL_law_349 (nI_add (j) (2)) ?_
  refine y_sld X (j := j + 2) hX hbl hbA dL_law_350 rfl (by omega) (by omega) ?_
  obtain ⟨f61b, e61b⟩ := MX_61 gM1
  refine y_callV X (61) 5 (av := [.int (xs (j + 1)), .int (xs (j + 2))]) [.int (_)] 2 (c_X5_makeOver gM1 gW) (by decide) e61b rfl gL_law_X5_makeOver rfl (by decide +kernel) rfl ⟨Nat.le_of_ble_eq_true rfl, Nat.le_of_ble_eq_true rfl⟩ ⟨Nat.le_of_ble_eq_true rfl, Nat.le_of_ble_eq_true rfl⟩ (Nat.le_of_ble_eq_true rfl) rfl dL_law_351 (fun v2 C2 hp2 => ?_)
  obtain ⟨rfl, gM2, f2⟩ := hp2
  have gC2 := CX_far gC1 f2
  refine y_st [_, _] rfl ?_
  refine y_icmp_eq X 825 True dL_law_354 (by decide) (iff_of_true rfl trivial) (fun _ => ?_) (fun c1 => absurd trivial c1)
  exact k C2 _ _ _ _ _ _ _ gC2 gM2 (WX_act gW (WF_sMk gW.1))
set_option maxRecDepth 100000 in
set_option maxHeartbeats 4000000 in
theorem lc_7 {p : Program} {l : Launch} {e : Env} {s : State} {m : MethodId} {b L : Nat} {below : List Frame} {meth : Method} {c : Code} {xs : Nat → Int32} {E : xE} {C : xC} {j : Nat} {T : Tb} {hh : Nat → Tb} {hn : Nat} {sn : Option Tb} {tx : Nat → Int32} {ln : Nat} {sp : Option (Nat × Int32)} (h : lH p s m meth c b L xs E) (hj : j + 5 ≤ L) (hL : L ≤ 2560) (gC : CX E C T hh hn sn tx ln sp) (gM : MX E C T hh hn sn tx ln sp) (gW : WX T hh hn sn tx ln sp) (k : lawN p l e s m b below meth c E j) : lY p l e s m b below meth c E C j 359 [] := by
  obtain ⟨X, hX, hbl, hr⟩ := h
  have hbA : ¬ lA s b := Nat.not_le.mpr hbl
  obtain ⟨f0, e0⟩ := CX_0 gC
  obtain ⟨f61, e61⟩ := MX_61 gM
  refine y_aload_n X dL_law_359 2 rfl ?_
  refine y_callV X (0) 4 (av := []) [] 0 (c_X4_forget gC gW) (by decide) e0 rfl gL_law_X4_forget rfl (by decide +kernel) rfl ⟨Nat.le_of_ble_eq_true rfl, Nat.le_of_ble_eq_true rfl⟩ ⟨Nat.le_of_ble_eq_true rfl, Nat.le_of_ble_eq_true rfl⟩ (Nat.le_of_ble_eq_true rfl) rfl dL_law_360 (fun v1 C1 hp1 => ?_)
  obtain ⟨rfl, gC1, f1⟩ := hp1
  have gM1 := MX_far gM f1
  refine y_aload_n X dL_law_363 3 rfl ?_
  obtain ⟨f61b, e61b⟩ := MX_61 gM1
  refine y_callV X (61) 5 (av := []) [.int (_)] 0 (c_X5_forget gM1 gW) (by decide) e61b rfl gL_law_X5_forget rfl (by decide +kernel) rfl ⟨Nat.le_of_ble_eq_true rfl, Nat.le_of_ble_eq_true rfl⟩ ⟨Nat.le_of_ble_eq_true rfl, Nat.le_of_ble_eq_true rfl⟩ (Nat.le_of_ble_eq_true rfl) rfl dL_law_364 (fun v2 C2 hp2 => ?_)
  obtain ⟨rfl, gM2, f2⟩ := hp2
  have gC2 := CX_far gC1 f2
  refine y_st [_, _] rfl ?_
  refine y_icmp_eq X 825 True dL_law_367 (by decide) (iff_of_true rfl trivial) (fun _ => ?_) (fun c1 => absurd trivial c1)
  exact k C2 _ _ _ _ _ _ _ gC2 gM2 (WX_act gW (WF_sFor gW.1))
set_option maxRecDepth 100000 in
set_option maxHeartbeats 4000000 in
theorem lc_8 {p : Program} {l : Launch} {e : Env} {s : State} {m : MethodId} {b L : Nat} {below : List Frame} {meth : Method} {c : Code} {xs : Nat → Int32} {E : xE} {C : xC} {j : Nat} {T : Tb} {hh : Nat → Tb} {hn : Nat} {sn : Option Tb} {tx : Nat → Int32} {ln : Nat} {sp : Option (Nat × Int32)} (h : lH p s m meth c b L xs E) (hj : j + 5 ≤ L) (hL : L ≤ 2560) (gC : CX E C T hh hn sn tx ln sp) (gM : MX E C T hh hn sn tx ln sp) (gW : WX T hh hn sn tx ln sp) (k : lawN p l e s m b below meth c E j) : lY p l e s m b below meth c E C j 372 [] := by
  obtain ⟨X, hX, hbl, hr⟩ := h
  have hbA : ¬ lA s b := Nat.not_le.mpr hbl
  obtain ⟨f0, e0⟩ := CX_0 gC
  obtain ⟨f61, e61⟩ := MX_61 gM
  refine y_aload_n X dL_law_372 2 rfl ?_
  refine y_aload_n X dL_law_373 1 rfl ?_
  refine y_iload_n X dL_law_374 0 rfl ?_
  refine y_iconst X (v := 1) dL_law_375 (by decide) ?_
  refine y_iadd X (z := (nI (j + 1))) dL_law_376 (nI_add (j) (1)) ?_
  refine y_sld X (j := j + 1) hX hbl hbA dL_law_377 rfl (by omega) (by omega) ?_
  refine y_i2c X (z := (((xs (j + 1)).toUInt32 % 65536).toInt32)) dL_law_378 rfl ?_
  refine y_callV X (0) 4 (av := [.int (((xs (j + 1)).toUInt32 % 65536).toInt32)]) [] 1 (c_X4_type gC gW (i2c_in _)) (by decide) e0 rfl gL_law_X4_type rfl (by decide +kernel) rfl ⟨Nat.le_of_ble_eq_true rfl, Nat.le_of_ble_eq_true rfl⟩ ⟨Nat.le_of_ble_eq_true rfl, Nat.le_of_ble_eq_true rfl⟩ (Nat.le_of_ble_eq_true rfl) rfl dL_law_379 (fun v1 C1 hp1 => ?_)
  obtain ⟨rfl, gC1, f1⟩ := hp1
  have gM1 := MX_far gM f1
  refine y_aload_n X dL_law_382 3 rfl ?_
  refine y_aload_n X dL_law_383 1 rfl ?_
  refine y_iload_n X dL_law_384 0 rfl ?_
  refine y_iconst X (v := 1) dL_law_385 (by decide) ?_
  refine y_iadd X (z := (nI (j + 1))) dL_law_386 (nI_add (j) (1)) ?_
  refine y_sld X (j := j + 1) hX hbl hbA dL_law_387 rfl (by omega) (by omega) ?_
  refine y_i2c X (z := (((xs (j + 1)).toUInt32 % 65536).toInt32)) dL_law_388 rfl ?_
  obtain ⟨f61b, e61b⟩ := MX_61 gM1
  refine y_callV X (61) 5 (av := [.int (((xs (j + 1)).toUInt32 % 65536).toInt32)]) [.int (_)] 1 (c_X5_type gM1 gW) (by decide) e61b rfl gL_law_X5_type rfl (by decide +kernel) rfl ⟨Nat.le_of_ble_eq_true rfl, Nat.le_of_ble_eq_true rfl⟩ ⟨Nat.le_of_ble_eq_true rfl, Nat.le_of_ble_eq_true rfl⟩ (Nat.le_of_ble_eq_true rfl) rfl dL_law_389 (fun v2 C2 hp2 => ?_)
  obtain ⟨rfl, gM2, f2⟩ := hp2
  have gC2 := CX_far gC1 f2
  refine y_st [_, _] rfl ?_
  refine y_icmp_eq X 825 True dL_law_392 (by decide) (iff_of_true rfl trivial) (fun _ => ?_) (fun c1 => absurd trivial c1)
  exact k C2 _ _ _ _ _ _ _ gC2 gM2 (WX_type gW (i2c_in _))
set_option maxRecDepth 100000 in
set_option maxHeartbeats 4000000 in
theorem lc_9 {p : Program} {l : Launch} {e : Env} {s : State} {m : MethodId} {b L : Nat} {below : List Frame} {meth : Method} {c : Code} {xs : Nat → Int32} {E : xE} {C : xC} {j : Nat} {T : Tb} {hh : Nat → Tb} {hn : Nat} {sn : Option Tb} {tx : Nat → Int32} {ln : Nat} {sp : Option (Nat × Int32)} (h : lH p s m meth c b L xs E) (hj : j + 5 ≤ L) (hL : L ≤ 2560) (gC : CX E C T hh hn sn tx ln sp) (gM : MX E C T hh hn sn tx ln sp) (gW : WX T hh hn sn tx ln sp) (k : lawN p l e s m b below meth c E j) : lY p l e s m b below meth c E C j 397 [] := by
  obtain ⟨X, hX, hbl, hr⟩ := h
  have hbA : ¬ lA s b := Nat.not_le.mpr hbl
  obtain ⟨f0, e0⟩ := CX_0 gC
  obtain ⟨f61, e61⟩ := MX_61 gM
  refine y_aload_n X dL_law_397 2 rfl ?_
  refine y_callV X (0) 4 (av := []) [] 0 (c_X4_clearText gC gW) (by decide) e0 rfl gL_law_X4_clearText rfl (by decide +kernel) rfl ⟨Nat.le_of_ble_eq_true rfl, Nat.le_of_ble_eq_true rfl⟩ ⟨Nat.le_of_ble_eq_true rfl, Nat.le_of_ble_eq_true rfl⟩ (Nat.le_of_ble_eq_true rfl) rfl dL_law_398 (fun v1 C1 hp1 => ?_)
  obtain ⟨rfl, gC1, f1⟩ := hp1
  have gM1 := MX_far gM f1
  refine y_aload_n X dL_law_401 3 rfl ?_
  obtain ⟨f61b, e61b⟩ := MX_61 gM1
  refine y_callV X (61) 5 (av := []) [.int (_)] 0 (c_X5_clearText gM1 gW) (by decide) e61b rfl gL_law_X5_clearText rfl (by decide +kernel) rfl ⟨Nat.le_of_ble_eq_true rfl, Nat.le_of_ble_eq_true rfl⟩ ⟨Nat.le_of_ble_eq_true rfl, Nat.le_of_ble_eq_true rfl⟩ (Nat.le_of_ble_eq_true rfl) rfl dL_law_402 (fun v2 C2 hp2 => ?_)
  obtain ⟨rfl, gM2, f2⟩ := hp2
  have gC2 := CX_far gC1 f2
  refine y_st [_, _] rfl ?_
  refine y_icmp_eq X 825 True dL_law_405 (by decide) (iff_of_true rfl trivial) (fun _ => ?_) (fun c1 => absurd trivial c1)
  exact k C2 _ _ _ _ _ _ _ gC2 gM2 (WX_clear gW)
set_option maxRecDepth 100000 in
set_option maxHeartbeats 4000000 in
theorem lc_10 {p : Program} {l : Launch} {e : Env} {s : State} {m : MethodId} {b L : Nat} {below : List Frame} {meth : Method} {c : Code} {xs : Nat → Int32} {E : xE} {C : xC} {j : Nat} {T : Tb} {hh : Nat → Tb} {hn : Nat} {sn : Option Tb} {tx : Nat → Int32} {ln : Nat} {sp : Option (Nat × Int32)} (h : lH p s m meth c b L xs E) (hj : j + 5 ≤ L) (hL : L ≤ 2560) (gC : CX E C T hh hn sn tx ln sp) (gM : MX E C T hh hn sn tx ln sp) (gW : WX T hh hn sn tx ln sp) (k : lawN p l e s m b below meth c E j) : lY p l e s m b below meth c E C j 410 [] := by
  obtain ⟨X, hX, hbl, hr⟩ := h
  have hbA : ¬ lA s b := Nat.not_le.mpr hbl
  obtain ⟨f0, e0⟩ := CX_0 gC
  obtain ⟨f61, e61⟩ := MX_61 gM
  refine y_aload_n X dL_law_410 2 rfl ?_
  refine y_callV X (0) 4 (av := []) [] 0 (c_X4_perform gC gW) (by decide) e0 rfl gL_law_X4_perform rfl (by decide +kernel) rfl ⟨Nat.le_of_ble_eq_true rfl, Nat.le_of_ble_eq_true rfl⟩ ⟨Nat.le_of_ble_eq_true rfl, Nat.le_of_ble_eq_true rfl⟩ (Nat.le_of_ble_eq_true rfl) rfl dL_law_411 (fun v1 C1 hp1 => ?_)
  obtain ⟨rfl, gC1, f1⟩ := hp1
  have gM1 := MX_far gM f1
  refine y_aload_n X dL_law_414 3 rfl ?_
  obtain ⟨f61b, e61b⟩ := MX_61 gM1
  refine y_callV X (61) 5 (av := []) [.int (_)] 0 (c_X5_perform gM1 gW) (by decide) e61b rfl gL_law_X5_perform rfl (by decide +kernel) rfl ⟨Nat.le_of_ble_eq_true rfl, Nat.le_of_ble_eq_true rfl⟩ ⟨Nat.le_of_ble_eq_true rfl, Nat.le_of_ble_eq_true rfl⟩ (Nat.le_of_ble_eq_true rfl) rfl dL_law_415 (fun v2 C2 hp2 => ?_)
  obtain ⟨rfl, gM2, f2⟩ := hp2
  have gC2 := CX_far gC1 f2
  refine y_st [_, _] rfl ?_
  refine y_icmp_eq X 825 True dL_law_418 (by decide) (iff_of_true rfl trivial) (fun _ => ?_) (fun c1 => absurd trivial c1)
  exact k C2 _ _ _ _ _ _ _ gC2 gM2 (WX_perform gW)
set_option maxRecDepth 100000 in
set_option maxHeartbeats 4000000 in
theorem lc_11 {p : Program} {l : Launch} {e : Env} {s : State} {m : MethodId} {b L : Nat} {below : List Frame} {meth : Method} {c : Code} {xs : Nat → Int32} {E : xE} {C : xC} {j : Nat} {T : Tb} {hh : Nat → Tb} {hn : Nat} {sn : Option Tb} {tx : Nat → Int32} {ln : Nat} {sp : Option (Nat × Int32)} (h : lH p s m meth c b L xs E) (hj : j + 5 ≤ L) (hL : L ≤ 2560) (gC : CX E C T hh hn sn tx ln sp) (gM : MX E C T hh hn sn tx ln sp) (gW : WX T hh hn sn tx ln sp) (k : lawN p l e s m b below meth c E j) : lY p l e s m b below meth c E C j 423 [] := by
  obtain ⟨X, hX, hbl, hr⟩ := h
  have hbA : ¬ lA s b := Nat.not_le.mpr hbl
  obtain ⟨f0, e0⟩ := CX_0 gC
  obtain ⟨f61, e61⟩ := MX_61 gM
  refine y_aload_n X dL_law_423 2 rfl ?_
  refine y_aload_n X dL_law_424 1 rfl ?_
  refine y_iload_n X dL_law_425 0 rfl ?_
  refine y_iconst X (v := 1) dL_law_426 (by decide) ?_
  refine y_iadd X (z := (nI (j + 1))) dL_law_427 (nI_add (j) (1)) ?_
  refine y_sld X (j := j + 1) hX hbl hbA dL_law_428 rfl (by omega) (by omega) ?_
  refine y_callVr X (0) 4 (av := [.int (xs (j + 1))]) [] 1 (c_X4_stopped gC gW) (by decide) e0 rfl gL_law_X4_stopped rfl (by decide +kernel) rfl ⟨Nat.le_of_ble_eq_true rfl, Nat.le_of_ble_eq_true rfl⟩ ⟨Nat.le_of_ble_eq_true rfl, Nat.le_of_ble_eq_true rfl⟩ (Nat.le_of_ble_eq_true rfl) rfl dL_law_429 ?_
  refine y_aload_n X dL_law_432 3 rfl ?_
  refine y_aload_n X dL_law_433 1 rfl ?_
  refine y_iload_n X dL_law_434 0 rfl ?_
  refine y_iconst X (v := 1) dL_law_435 (by decide) ?_
  refine y_iadd X (z := (nI (j + 1))) dL_law_436 (nI_add (j) (1)) ?_
  refine y_sld X (j := j + 1) hX hbl hbA dL_law_437 rfl (by omega) (by omega) ?_
  refine y_callV X (61) 5 (av := [.int (xs (j + 1))]) [.int (_)] 1 (c_X5_stopped gM gW) (by decide) e61 rfl gL_law_X5_stopped rfl (by decide +kernel) rfl ⟨Nat.le_of_ble_eq_true rfl, Nat.le_of_ble_eq_true rfl⟩ ⟨Nat.le_of_ble_eq_true rfl, Nat.le_of_ble_eq_true rfl⟩ (Nat.le_of_ble_eq_true rfl) rfl dL_law_438 (fun v1 C1 hp1 => ?_)
  obtain ⟨rfl, gM1, f1⟩ := hp1
  have gC1 := CX_far gC f1
  refine y_st [_, _] rfl ?_
  refine y_icmp_eq X 825 True dL_law_441 (by decide) (iff_of_true rfl trivial) (fun _ => ?_) (fun c1 => absurd trivial c1)
  exact k C1 _ _ _ _ _ _ _ gC1 gM1 (gW)
set_option maxRecDepth 100000 in
set_option maxHeartbeats 4000000 in
theorem lc_12 {p : Program} {l : Launch} {e : Env} {s : State} {m : MethodId} {b L : Nat} {below : List Frame} {meth : Method} {c : Code} {xs : Nat → Int32} {E : xE} {C : xC} {j : Nat} {T : Tb} {hh : Nat → Tb} {hn : Nat} {sn : Option Tb} {tx : Nat → Int32} {ln : Nat} {sp : Option (Nat × Int32)} (h : lH p s m meth c b L xs E) (hj : j + 5 ≤ L) (hL : L ≤ 2560) (gC : CX E C T hh hn sn tx ln sp) (gM : MX E C T hh hn sn tx ln sp) (gW : WX T hh hn sn tx ln sp) (k : lawN p l e s m b below meth c E j) : lY p l e s m b below meth c E C j 446 [] := by
  obtain ⟨X, hX, hbl, hr⟩ := h
  have hbA : ¬ lA s b := Nat.not_le.mpr hbl
  obtain ⟨f0, e0⟩ := CX_0 gC
  obtain ⟨f61, e61⟩ := MX_61 gM
  refine y_aload_n X dL_law_446 2 rfl ?_
  refine y_callV X (0) 4 (av := []) [] 0 (c_X4_undo gC gW) (by decide) e0 rfl gL_law_X4_undo rfl (by decide +kernel) rfl ⟨Nat.le_of_ble_eq_true rfl, Nat.le_of_ble_eq_true rfl⟩ ⟨Nat.le_of_ble_eq_true rfl, Nat.le_of_ble_eq_true rfl⟩ (Nat.le_of_ble_eq_true rfl) rfl dL_law_447 (fun v1 C1 hp1 => ?_)
  obtain ⟨rfl, gC1, f1⟩ := hp1
  have gM1 := MX_far gM f1
  refine y_aload_n X dL_law_450 3 rfl ?_
  obtain ⟨f61b, e61b⟩ := MX_61 gM1
  refine y_callV X (61) 5 (av := []) [.int (_)] 0 (c_X5_undo gM1 gW) (by decide) e61b rfl gL_law_X5_undo rfl (by decide +kernel) rfl ⟨Nat.le_of_ble_eq_true rfl, Nat.le_of_ble_eq_true rfl⟩ ⟨Nat.le_of_ble_eq_true rfl, Nat.le_of_ble_eq_true rfl⟩ (Nat.le_of_ble_eq_true rfl) rfl dL_law_451 (fun v2 C2 hp2 => ?_)
  obtain ⟨rfl, gM2, f2⟩ := hp2
  have gC2 := CX_far gC1 f2
  refine y_st [_, _] rfl ?_
  refine y_icmp_eq X 825 True dL_law_454 (by decide) (iff_of_true rfl trivial) (fun _ => ?_) (fun c1 => absurd trivial c1)
  exact k C2 _ _ _ _ _ _ _ gC2 gM2 (WX_undo gW)
set_option maxRecDepth 100000 in
set_option maxHeartbeats 4000000 in
theorem lc_13 {p : Program} {l : Launch} {e : Env} {s : State} {m : MethodId} {b L : Nat} {below : List Frame} {meth : Method} {c : Code} {xs : Nat → Int32} {E : xE} {C : xC} {j : Nat} {T : Tb} {hh : Nat → Tb} {hn : Nat} {sn : Option Tb} {tx : Nat → Int32} {ln : Nat} {sp : Option (Nat × Int32)} (h : lH p s m meth c b L xs E) (hj : j + 5 ≤ L) (hL : L ≤ 2560) (gC : CX E C T hh hn sn tx ln sp) (gM : MX E C T hh hn sn tx ln sp) (gW : WX T hh hn sn tx ln sp) (k : lawN p l e s m b below meth c E j) : lY p l e s m b below meth c E C j 459 [] := by
  obtain ⟨X, hX, hbl, hr⟩ := h
  have hbA : ¬ lA s b := Nat.not_le.mpr hbl
  obtain ⟨f0, e0⟩ := CX_0 gC
  obtain ⟨f61, e61⟩ := MX_61 gM
  refine y_aload_n X dL_law_459 2 rfl ?_
  refine y_callV X (0) 4 (av := []) [] 0 (c_X4_keep gC gW) (by decide) e0 rfl gL_law_X4_keep rfl (by decide +kernel) rfl ⟨Nat.le_of_ble_eq_true rfl, Nat.le_of_ble_eq_true rfl⟩ ⟨Nat.le_of_ble_eq_true rfl, Nat.le_of_ble_eq_true rfl⟩ (Nat.le_of_ble_eq_true rfl) rfl dL_law_460 (fun v1 C1 hp1 => ?_)
  obtain ⟨rfl, gC1, f1⟩ := hp1
  have gM1 := MX_far gM f1
  refine y_aload_n X dL_law_463 3 rfl ?_
  obtain ⟨f61b, e61b⟩ := MX_61 gM1
  refine y_callV X (61) 5 (av := []) [.int (_)] 0 (c_X5_keep gM1 gW) (by decide) e61b rfl gL_law_X5_keep rfl (by decide +kernel) rfl ⟨Nat.le_of_ble_eq_true rfl, Nat.le_of_ble_eq_true rfl⟩ ⟨Nat.le_of_ble_eq_true rfl, Nat.le_of_ble_eq_true rfl⟩ (Nat.le_of_ble_eq_true rfl) rfl dL_law_464 (fun v2 C2 hp2 => ?_)
  obtain ⟨rfl, gM2, f2⟩ := hp2
  have gC2 := CX_far gC1 f2
  refine y_st [_, _] rfl ?_
  refine y_icmp_eq X 825 True dL_law_467 (by decide) (iff_of_true rfl trivial) (fun _ => ?_) (fun c1 => absurd trivial c1)
  exact k C2 _ _ _ _ _ _ _ gC2 gM2 (WX_keep gW)
set_option maxRecDepth 100000 in
set_option maxHeartbeats 4000000 in
theorem lc_14 {p : Program} {l : Launch} {e : Env} {s : State} {m : MethodId} {b L : Nat} {below : List Frame} {meth : Method} {c : Code} {xs : Nat → Int32} {E : xE} {C : xC} {j : Nat} {T : Tb} {hh : Nat → Tb} {hn : Nat} {sn : Option Tb} {tx : Nat → Int32} {ln : Nat} {sp : Option (Nat × Int32)} (h : lH p s m meth c b L xs E) (hj : j + 5 ≤ L) (hL : L ≤ 2560) (gC : CX E C T hh hn sn tx ln sp) (gM : MX E C T hh hn sn tx ln sp) (gW : WX T hh hn sn tx ln sp) (k : lawN p l e s m b below meth c E j) : lY p l e s m b below meth c E C j 472 [] := by
  obtain ⟨X, hX, hbl, hr⟩ := h
  have hbA : ¬ lA s b := Nat.not_le.mpr hbl
  obtain ⟨f0, e0⟩ := CX_0 gC
  obtain ⟨f61, e61⟩ := MX_61 gM
  refine y_aload_n X dL_law_472 2 rfl ?_
  refine y_callV X (0) 4 (av := []) [] 0 (c_X4_restore gC gW) (by decide) e0 rfl gL_law_X4_restore rfl (by decide +kernel) rfl ⟨Nat.le_of_ble_eq_true rfl, Nat.le_of_ble_eq_true rfl⟩ ⟨Nat.le_of_ble_eq_true rfl, Nat.le_of_ble_eq_true rfl⟩ (Nat.le_of_ble_eq_true rfl) rfl dL_law_473 (fun v1 C1 hp1 => ?_)
  obtain ⟨rfl, gC1, f1⟩ := hp1
  have gM1 := MX_far gM f1
  refine y_aload_n X dL_law_476 3 rfl ?_
  obtain ⟨f61b, e61b⟩ := MX_61 gM1
  refine y_callV X (61) 5 (av := []) [.int (_)] 0 (c_X5_restore gM1 gW) (by decide) e61b rfl gL_law_X5_restore rfl (by decide +kernel) rfl ⟨Nat.le_of_ble_eq_true rfl, Nat.le_of_ble_eq_true rfl⟩ ⟨Nat.le_of_ble_eq_true rfl, Nat.le_of_ble_eq_true rfl⟩ (Nat.le_of_ble_eq_true rfl) rfl dL_law_477 (fun v2 C2 hp2 => ?_)
  obtain ⟨rfl, gM2, f2⟩ := hp2
  have gC2 := CX_far gC1 f2
  refine y_st [_, _] rfl ?_
  refine y_icmp_eq X 825 True dL_law_480 (by decide) (iff_of_true rfl trivial) (fun _ => ?_) (fun c1 => absurd trivial c1)
  exact k C2 _ _ _ _ _ _ _ gC2 gM2 (WX_restore gW)
set_option maxRecDepth 100000 in
set_option maxHeartbeats 4000000 in
theorem lc_15 {p : Program} {l : Launch} {e : Env} {s : State} {m : MethodId} {b L : Nat} {below : List Frame} {meth : Method} {c : Code} {xs : Nat → Int32} {E : xE} {C : xC} {j : Nat} {T : Tb} {hh : Nat → Tb} {hn : Nat} {sn : Option Tb} {tx : Nat → Int32} {ln : Nat} {sp : Option (Nat × Int32)} (h : lH p s m meth c b L xs E) (hj : j + 5 ≤ L) (hL : L ≤ 2560) (gC : CX E C T hh hn sn tx ln sp) (gM : MX E C T hh hn sn tx ln sp) (gW : WX T hh hn sn tx ln sp) (k : lawN p l e s m b below meth c E j) : lY p l e s m b below meth c E C j 485 [] := by
  obtain ⟨X, hX, hbl, hr⟩ := h
  have hbA : ¬ lA s b := Nat.not_le.mpr hbl
  obtain ⟨f0, e0⟩ := CX_0 gC
  obtain ⟨f61, e61⟩ := MX_61 gM
  refine y_aload_n X dL_law_485 2 rfl ?_
  refine y_aload_n X dL_law_486 1 rfl ?_
  refine y_iload_n X dL_law_487 0 rfl ?_
  refine y_iconst X (v := 1) dL_law_488 (by decide) ?_
  refine y_iadd X (z := (nI (j + 1))) dL_law_489 (nI_add (j) (1)) ?_
  refine y_sld X (j := j + 1) hX hbl hbA dL_law_490 rfl (by omega) (by omega) ?_
  refine y_aload_n X dL_law_491 1 rfl ?_
  refine y_iload_n X dL_law_492 0 rfl ?_
  refine y_iconst X (v := 2) dL_law_493 (by decide) ?_
  refine y_iadd X (z := (nI (j + 2))) dL_law_494 (nI_add (j) (2)) ?_
  refine y_sld X (j := j + 2) hX hbl hbA dL_law_495 rfl (by omega) (by omega) ?_
  refine y_aload_n X dL_law_496 1 rfl ?_
  refine y_iload_n X dL_law_497 0 rfl ?_
  refine y_iconst X (v := 3) dL_law_498 (by decide) ?_
  refine y_iadd X (z := (nI (j + 3))) dL_law_499 (nI_add (j) (3)) ?_
  refine y_sld X (j := j + 3) hX hbl hbA dL_law_500 rfl (by omega) (by omega) ?_
  refine y_callVr X (0) 4 (av := [.int (xs (j + 1)), .int (xs (j + 2)), .int (xs (j + 3))]) [] 3 (c_X4_column gC gW) (by decide) e0 rfl gL_law_X4_column rfl (by decide +kernel) rfl ⟨Nat.le_of_ble_eq_true rfl, Nat.le_of_ble_eq_true rfl⟩ ⟨Nat.le_of_ble_eq_true rfl, Nat.le_of_ble_eq_true rfl⟩ (Nat.le_of_ble_eq_true rfl) rfl dL_law_501 ?_
  refine y_aload_n X dL_law_504 3 rfl ?_
  refine y_aload_n X dL_law_505 1 rfl ?_
  refine y_iload_n X dL_law_506 0 rfl ?_
  refine y_iconst X (v := 1) dL_law_507 (by decide) ?_
  refine y_iadd X (z := (nI (j + 1))) dL_law_508 (nI_add (j) (1)) ?_
  refine y_sld X (j := j + 1) hX hbl hbA dL_law_509 rfl (by omega) (by omega) ?_
  refine y_aload_n X dL_law_510 1 rfl ?_
  refine y_iload_n X dL_law_511 0 rfl ?_
  refine y_iconst X (v := 2) dL_law_512 (by decide) ?_
  refine y_iadd X (z := (nI (j + 2))) dL_law_513 (nI_add (j) (2)) ?_
  refine y_sld X (j := j + 2) hX hbl hbA dL_law_514 rfl (by omega) (by omega) ?_
  refine y_aload_n X dL_law_515 1 rfl ?_
  refine y_iload_n X dL_law_516 0 rfl ?_
  refine y_iconst X (v := 3) dL_law_517 (by decide) ?_
  refine y_iadd X (z := (nI (j + 3))) dL_law_518 (nI_add (j) (3)) ?_
  refine y_sld X (j := j + 3) hX hbl hbA dL_law_519 rfl (by omega) (by omega) ?_
  refine y_callVr X (61) 5 (av := [.int (xs (j + 1)), .int (xs (j + 2)), .int (xs (j + 3))]) [.int (_)] 3 (c_X5_column gM gW) (by decide) e61 rfl gL_law_X5_column rfl (by decide +kernel) rfl ⟨Nat.le_of_ble_eq_true rfl, Nat.le_of_ble_eq_true rfl⟩ ⟨Nat.le_of_ble_eq_true rfl, Nat.le_of_ble_eq_true rfl⟩ (Nat.le_of_ble_eq_true rfl) rfl dL_law_520 ?_
  refine y_st [_, _] rfl ?_
  refine y_icmp_eq X 825 True dL_law_523 (by decide) (iff_of_true rfl trivial) (fun _ => ?_) (fun c1 => absurd trivial c1)
  exact k C _ _ _ _ _ _ _ gC gM (gW)
set_option maxRecDepth 100000 in
set_option maxHeartbeats 4000000 in
theorem lc_16 {p : Program} {l : Launch} {e : Env} {s : State} {m : MethodId} {b L : Nat} {below : List Frame} {meth : Method} {c : Code} {xs : Nat → Int32} {E : xE} {C : xC} {j : Nat} {T : Tb} {hh : Nat → Tb} {hn : Nat} {sn : Option Tb} {tx : Nat → Int32} {ln : Nat} {sp : Option (Nat × Int32)} (h : lH p s m meth c b L xs E) (hj : j + 5 ≤ L) (hL : L ≤ 2560) (gC : CX E C T hh hn sn tx ln sp) (gM : MX E C T hh hn sn tx ln sp) (gW : WX T hh hn sn tx ln sp) (k : lawN p l e s m b below meth c E j) : lY p l e s m b below meth c E C j 528 [] := by
  obtain ⟨X, hX, hbl, hr⟩ := h
  have hbA : ¬ lA s b := Nat.not_le.mpr hbl
  obtain ⟨f0, e0⟩ := CX_0 gC
  obtain ⟨f61, e61⟩ := MX_61 gM
  refine y_aload_n X dL_law_528 2 rfl ?_
  refine y_aload_n X dL_law_529 1 rfl ?_
  refine y_iload_n X dL_law_530 0 rfl ?_
  refine y_iconst X (v := 1) dL_law_531 (by decide) ?_
  refine y_iadd X (z := (nI (j + 1))) dL_law_532 (nI_add (j) (1)) ?_
  refine y_sld X (j := j + 1) hX hbl hbA dL_law_533 rfl (by omega) (by omega) ?_
  refine y_aload_n X dL_law_534 1 rfl ?_
  refine y_iload_n X dL_law_535 0 rfl ?_
  refine y_iconst X (v := 2) dL_law_536 (by decide) ?_
  refine y_iadd X (z := (nI (j + 2))) dL_law_537 (nI_add (j) (2)) ?_
  refine y_sld X (j := j + 2) hX hbl hbA dL_law_538 rfl (by omega) (by omega) ?_
  refine y_callVr X (0) 4 (av := [.int (xs (j + 1)), .int (xs (j + 2))]) [] 2 (c_X4_season gC gW) (by decide) e0 rfl gL_law_X4_season rfl (by decide +kernel) rfl ⟨Nat.le_of_ble_eq_true rfl, Nat.le_of_ble_eq_true rfl⟩ ⟨Nat.le_of_ble_eq_true rfl, Nat.le_of_ble_eq_true rfl⟩ (Nat.le_of_ble_eq_true rfl) rfl dL_law_539 ?_
  refine y_aload_n X dL_law_542 3 rfl ?_
  refine y_aload_n X dL_law_543 1 rfl ?_
  refine y_iload_n X dL_law_544 0 rfl ?_
  refine y_iconst X (v := 1) dL_law_545 (by decide) ?_
  refine y_iadd X (z := (nI (j + 1))) dL_law_546 (nI_add (j) (1)) ?_
  refine y_sld X (j := j + 1) hX hbl hbA dL_law_547 rfl (by omega) (by omega) ?_
  refine y_aload_n X dL_law_548 1 rfl ?_
  refine y_iload_n X dL_law_549 0 rfl ?_
  refine y_iconst X (v := 2) dL_law_550 (by decide) ?_
  refine y_iadd X (z := (nI (j + 2))) dL_law_551 (nI_add (j) (2)) ?_
  refine y_sld X (j := j + 2) hX hbl hbA dL_law_552 rfl (by omega) (by omega) ?_
  refine y_callVr X (61) 5 (av := [.int (xs (j + 1)), .int (xs (j + 2))]) [.int (_)] 2 (c_X5_season gM gW) (by decide) e61 rfl gL_law_X5_season rfl (by decide +kernel) rfl ⟨Nat.le_of_ble_eq_true rfl, Nat.le_of_ble_eq_true rfl⟩ ⟨Nat.le_of_ble_eq_true rfl, Nat.le_of_ble_eq_true rfl⟩ (Nat.le_of_ble_eq_true rfl) rfl dL_law_553 ?_
  refine y_st [_, _] rfl ?_
  refine y_icmp_eq X 825 True dL_law_556 (by decide) (iff_of_true rfl trivial) (fun _ => ?_) (fun c1 => absurd trivial c1)
  exact k C _ _ _ _ _ _ _ gC gM (gW)
set_option maxRecDepth 100000 in
set_option maxHeartbeats 4000000 in
theorem lc_17 {p : Program} {l : Launch} {e : Env} {s : State} {m : MethodId} {b L : Nat} {below : List Frame} {meth : Method} {c : Code} {xs : Nat → Int32} {E : xE} {C : xC} {j : Nat} {T : Tb} {hh : Nat → Tb} {hn : Nat} {sn : Option Tb} {tx : Nat → Int32} {ln : Nat} {sp : Option (Nat × Int32)} (h : lH p s m meth c b L xs E) (hj : j + 5 ≤ L) (hL : L ≤ 2560) (gC : CX E C T hh hn sn tx ln sp) (gM : MX E C T hh hn sn tx ln sp) (gW : WX T hh hn sn tx ln sp) (k : lawN p l e s m b below meth c E j) : lY p l e s m b below meth c E C j 561 [] := by
  obtain ⟨X, hX, hbl, hr⟩ := h
  have hbA : ¬ lA s b := Nat.not_le.mpr hbl
  obtain ⟨f0, e0⟩ := CX_0 gC
  obtain ⟨f61, e61⟩ := MX_61 gM
  refine y_aload_n X dL_law_561 2 rfl ?_
  refine y_aload_n X dL_law_562 1 rfl ?_
  refine y_iload_n X dL_law_563 0 rfl ?_
  refine y_iconst X (v := 1) dL_law_564 (by decide) ?_
  refine y_iadd X (z := (nI (j + 1))) dL_law_565 (nI_add (j) (1)) ?_
  refine y_sld X (j := j + 1) hX hbl hbA dL_law_566 rfl (by omega) (by omega) ?_
  refine y_aload_n X dL_law_567 1 rfl ?_
  refine y_iload_n X dL_law_568 0 rfl ?_
  refine y_iconst X (v := 2) dL_law_569 (by decide) ?_
  refine y_iadd X (z := (nI (j + 2))) dL_law_570 (nI_add (j) (2)) ?_
  refine y_sld X (j := j + 2) hX hbl hbA dL_law_571 rfl (by omega) (by omega) ?_
  refine y_callVr X (0) 4 (av := [.int (xs (j + 1)), .int (xs (j + 2))]) [] 2 (c_X4_value gC gW) (by decide) e0 rfl gL_law_X4_value rfl (by decide +kernel) rfl ⟨Nat.le_of_ble_eq_true rfl, Nat.le_of_ble_eq_true rfl⟩ ⟨Nat.le_of_ble_eq_true rfl, Nat.le_of_ble_eq_true rfl⟩ (Nat.le_of_ble_eq_true rfl) rfl dL_law_572 ?_
  refine y_aload_n X dL_law_575 3 rfl ?_
  refine y_aload_n X dL_law_576 1 rfl ?_
  refine y_iload_n X dL_law_577 0 rfl ?_
  refine y_iconst X (v := 1) dL_law_578 (by decide) ?_
  refine y_iadd X (z := (nI (j + 1))) dL_law_579 (nI_add (j) (1)) ?_
  refine y_sld X (j := j + 1) hX hbl hbA dL_law_580 rfl (by omega) (by omega) ?_
  refine y_aload_n X dL_law_581 1 rfl ?_
  refine y_iload_n X dL_law_582 0 rfl ?_
  refine y_iconst X (v := 2) dL_law_583 (by decide) ?_
  refine y_iadd X (z := (nI (j + 2))) dL_law_584 (nI_add (j) (2)) ?_
  refine y_sld X (j := j + 2) hX hbl hbA dL_law_585 rfl (by omega) (by omega) ?_
  refine y_callVr X (61) 5 (av := [.int (xs (j + 1)), .int (xs (j + 2))]) [.int (_)] 2 (c_X5_value gM gW) (by decide) e61 rfl gL_law_X5_value rfl (by decide +kernel) rfl ⟨Nat.le_of_ble_eq_true rfl, Nat.le_of_ble_eq_true rfl⟩ ⟨Nat.le_of_ble_eq_true rfl, Nat.le_of_ble_eq_true rfl⟩ (Nat.le_of_ble_eq_true rfl) rfl dL_law_586 ?_
  refine y_st [_, _] rfl ?_
  refine y_icmp_eq X 825 True dL_law_589 (by decide) (iff_of_true rfl trivial) (fun _ => ?_) (fun c1 => absurd trivial c1)
  exact k C _ _ _ _ _ _ _ gC gM (gW)
set_option maxRecDepth 100000 in
set_option maxHeartbeats 4000000 in
theorem lc_18 {p : Program} {l : Launch} {e : Env} {s : State} {m : MethodId} {b L : Nat} {below : List Frame} {meth : Method} {c : Code} {xs : Nat → Int32} {E : xE} {C : xC} {j : Nat} {T : Tb} {hh : Nat → Tb} {hn : Nat} {sn : Option Tb} {tx : Nat → Int32} {ln : Nat} {sp : Option (Nat × Int32)} (h : lH p s m meth c b L xs E) (hj : j + 5 ≤ L) (hL : L ≤ 2560) (gC : CX E C T hh hn sn tx ln sp) (gM : MX E C T hh hn sn tx ln sp) (gW : WX T hh hn sn tx ln sp) (k : lawN p l e s m b below meth c E j) : lY p l e s m b below meth c E C j 594 [] := by
  obtain ⟨X, hX, hbl, hr⟩ := h
  have hbA : ¬ lA s b := Nat.not_le.mpr hbl
  obtain ⟨f0, e0⟩ := CX_0 gC
  obtain ⟨f61, e61⟩ := MX_61 gM
  refine y_aload_n X dL_law_594 2 rfl ?_
  refine y_aload_n X dL_law_595 1 rfl ?_
  refine y_iload_n X dL_law_596 0 rfl ?_
  refine y_iconst X (v := 1) dL_law_597 (by decide) ?_
  refine y_iadd X (z := (nI (j + 1))) dL_law_598 (nI_add (j) (1)) ?_
  refine y_sld X (j := j + 1) hX hbl hbA dL_law_599 rfl (by omega) (by omega) ?_
  refine y_aload_n X dL_law_600 1 rfl ?_
  refine y_iload_n X dL_law_601 0 rfl ?_
  refine y_iconst X (v := 2) dL_law_602 (by decide) ?_
  refine y_iadd X (z := (nI (j + 2))) dL_law_603 (nI_add (j) (2)) ?_
  refine y_sld X (j := j + 2) hX hbl hbA dL_law_604 rfl (by omega) (by omega) ?_
  refine y_aload_n X dL_law_605 1 rfl ?_
  refine y_iload_n X dL_law_606 0 rfl ?_
  refine y_iconst X (v := 3) dL_law_607 (by decide) ?_
  refine y_iadd X (z := (nI (j + 3))) dL_law_608 (nI_add (j) (3)) ?_
  refine y_sld X (j := j + 3) hX hbl hbA dL_law_609 rfl (by omega) (by omega) ?_
  refine y_aload_n X dL_law_610 1 rfl ?_
  refine y_iload_n X dL_law_611 0 rfl ?_
  refine y_iconst X (v := 4) dL_law_612 (by decide) ?_
  refine y_iadd X (z := (nI (j + 4))) dL_law_613 (nI_add (j) (4)) ?_
  refine y_sld X (j := j + 4) hX hbl hbA dL_law_614 rfl (by omega) (by omega) ?_
  refine y_callVr X (0) 4 (av := [.int (xs (j + 1)), .int (xs (j + 2)), .int (xs (j + 3)), .int (xs (j + 4))]) [] 4 (c_X4_read gC gW) (by decide) e0 rfl gL_law_X4_read rfl (by decide +kernel) rfl ⟨Nat.le_of_ble_eq_true rfl, Nat.le_of_ble_eq_true rfl⟩ ⟨Nat.le_of_ble_eq_true rfl, Nat.le_of_ble_eq_true rfl⟩ (Nat.le_of_ble_eq_true rfl) rfl dL_law_615 ?_
  refine y_aload_n X dL_law_618 3 rfl ?_
  refine y_aload_n X dL_law_619 1 rfl ?_
  refine y_iload_n X dL_law_620 0 rfl ?_
  refine y_iconst X (v := 1) dL_law_621 (by decide) ?_
  refine y_iadd X (z := (nI (j + 1))) dL_law_622 (nI_add (j) (1)) ?_
  refine y_sld X (j := j + 1) hX hbl hbA dL_law_623 rfl (by omega) (by omega) ?_
  refine y_aload_n X dL_law_624 1 rfl ?_
  refine y_iload_n X dL_law_625 0 rfl ?_
  refine y_iconst X (v := 2) dL_law_626 (by decide) ?_
  refine y_iadd X (z := (nI (j + 2))) dL_law_627 (nI_add (j) (2)) ?_
  refine y_sld X (j := j + 2) hX hbl hbA dL_law_628 rfl (by omega) (by omega) ?_
  refine y_aload_n X dL_law_629 1 rfl ?_
  refine y_iload_n X dL_law_630 0 rfl ?_
  refine y_iconst X (v := 3) dL_law_631 (by decide) ?_
  refine y_iadd X (z := (nI (j + 3))) dL_law_632 (nI_add (j) (3)) ?_
  refine y_sld X (j := j + 3) hX hbl hbA dL_law_633 rfl (by omega) (by omega) ?_
  refine y_aload_n X dL_law_634 1 rfl ?_
  refine y_iload_n X dL_law_635 0 rfl ?_
  refine y_iconst X (v := 4) dL_law_636 (by decide) ?_
  refine y_iadd X (z := (nI (j + 4))) dL_law_637 (nI_add (j) (4)) ?_
  refine y_sld X (j := j + 4) hX hbl hbA dL_law_638 rfl (by omega) (by omega) ?_
  refine y_callVr X (61) 5 (av := [.int (xs (j + 1)), .int (xs (j + 2)), .int (xs (j + 3)), .int (xs (j + 4))]) [.int (_)] 4 (c_X5_read gM gW) (by decide) e61 rfl gL_law_X5_read rfl (by decide +kernel) rfl ⟨Nat.le_of_ble_eq_true rfl, Nat.le_of_ble_eq_true rfl⟩ ⟨Nat.le_of_ble_eq_true rfl, Nat.le_of_ble_eq_true rfl⟩ (Nat.le_of_ble_eq_true rfl) rfl dL_law_639 ?_
  refine y_st [_, _] rfl ?_
  refine y_icmp_eq X 825 True dL_law_642 (by decide) (iff_of_true rfl trivial) (fun _ => ?_) (fun c1 => absurd trivial c1)
  exact k C _ _ _ _ _ _ _ gC gM (gW)
set_option maxRecDepth 100000 in
set_option maxHeartbeats 4000000 in
theorem lc_19 {p : Program} {l : Launch} {e : Env} {s : State} {m : MethodId} {b L : Nat} {below : List Frame} {meth : Method} {c : Code} {xs : Nat → Int32} {E : xE} {C : xC} {j : Nat} {T : Tb} {hh : Nat → Tb} {hn : Nat} {sn : Option Tb} {tx : Nat → Int32} {ln : Nat} {sp : Option (Nat × Int32)} (h : lH p s m meth c b L xs E) (hj : j + 5 ≤ L) (hL : L ≤ 2560) (gC : CX E C T hh hn sn tx ln sp) (gM : MX E C T hh hn sn tx ln sp) (gW : WX T hh hn sn tx ln sp) (k : lawN p l e s m b below meth c E j) : lY p l e s m b below meth c E C j 647 [] := by
  obtain ⟨X, hX, hbl, hr⟩ := h
  have hbA : ¬ lA s b := Nat.not_le.mpr hbl
  obtain ⟨f0, e0⟩ := CX_0 gC
  obtain ⟨f61, e61⟩ := MX_61 gM
  refine y_aload_n X dL_law_647 2 rfl ?_
  refine y_aload_n X dL_law_648 1 rfl ?_
  refine y_iload_n X dL_law_649 0 rfl ?_
  refine y_iconst X (v := 1) dL_law_650 (by decide) ?_
  refine y_iadd X (z := (nI (j + 1))) dL_law_651 (nI_add (j) (1)) ?_
  refine y_sld X (j := j + 1) hX hbl hbA dL_law_652 rfl (by omega) (by omega) ?_
  refine y_callVr X (0) 4 (av := [.int (xs (j + 1))]) [] 1 (c_X4_seasonOf gC gW) (by decide) e0 rfl gL_law_X4_seasonOf rfl (by decide +kernel) rfl ⟨Nat.le_of_ble_eq_true rfl, Nat.le_of_ble_eq_true rfl⟩ ⟨Nat.le_of_ble_eq_true rfl, Nat.le_of_ble_eq_true rfl⟩ (Nat.le_of_ble_eq_true rfl) rfl dL_law_653 ?_
  refine y_aload_n X dL_law_656 3 rfl ?_
  refine y_aload_n X dL_law_657 1 rfl ?_
  refine y_iload_n X dL_law_658 0 rfl ?_
  refine y_iconst X (v := 1) dL_law_659 (by decide) ?_
  refine y_iadd X (z := (nI (j + 1))) dL_law_660 (nI_add (j) (1)) ?_
  refine y_sld X (j := j + 1) hX hbl hbA dL_law_661 rfl (by omega) (by omega) ?_
  refine y_callVr X (61) 5 (av := [.int (xs (j + 1))]) [.int (_)] 1 (c_X5_seasonOf gM gW) (by decide) e61 rfl gL_law_X5_seasonOf rfl (by decide +kernel) rfl ⟨Nat.le_of_ble_eq_true rfl, Nat.le_of_ble_eq_true rfl⟩ ⟨Nat.le_of_ble_eq_true rfl, Nat.le_of_ble_eq_true rfl⟩ (Nat.le_of_ble_eq_true rfl) rfl dL_law_662 ?_
  refine y_st [_, _] rfl ?_
  refine y_icmp_eq X 825 True dL_law_665 (by decide) (iff_of_true rfl trivial) (fun _ => ?_) (fun c1 => absurd trivial c1)
  exact k C _ _ _ _ _ _ _ gC gM (gW)
set_option maxRecDepth 100000 in
set_option maxHeartbeats 4000000 in
theorem lc_20 {p : Program} {l : Launch} {e : Env} {s : State} {m : MethodId} {b L : Nat} {below : List Frame} {meth : Method} {c : Code} {xs : Nat → Int32} {E : xE} {C : xC} {j : Nat} {T : Tb} {hh : Nat → Tb} {hn : Nat} {sn : Option Tb} {tx : Nat → Int32} {ln : Nat} {sp : Option (Nat × Int32)} (h : lH p s m meth c b L xs E) (hj : j + 5 ≤ L) (hL : L ≤ 2560) (gC : CX E C T hh hn sn tx ln sp) (gM : MX E C T hh hn sn tx ln sp) (gW : WX T hh hn sn tx ln sp) (k : lawN p l e s m b below meth c E j) : lY p l e s m b below meth c E C j 670 [] := by
  obtain ⟨X, hX, hbl, hr⟩ := h
  have hbA : ¬ lA s b := Nat.not_le.mpr hbl
  obtain ⟨f0, e0⟩ := CX_0 gC
  obtain ⟨f61, e61⟩ := MX_61 gM
  refine y_aload_n X dL_law_670 2 rfl ?_
  refine y_aload_n X dL_law_671 1 rfl ?_
  refine y_iload_n X dL_law_672 0 rfl ?_
  refine y_iconst X (v := 1) dL_law_673 (by decide) ?_
  refine y_iadd X (z := (nI (j + 1))) dL_law_674 (nI_add (j) (1)) ?_
  refine y_sld X (j := j + 1) hX hbl hbA dL_law_675 rfl (by omega) (by omega) ?_
  refine y_aload_n X dL_law_676 1 rfl ?_
  refine y_iload_n X dL_law_677 0 rfl ?_
  refine y_iconst X (v := 2) dL_law_678 (by decide) ?_
  refine y_iadd X (z := (nI (j + 2))) dL_law_679 (nI_add (j) (2)) ?_
  refine y_sld X (j := j + 2) hX hbl hbA dL_law_680 rfl (by omega) (by omega) ?_
  refine y_aload_n X dL_law_681 1 rfl ?_
  refine y_iload_n X dL_law_682 0 rfl ?_
  refine y_iconst X (v := 3) dL_law_683 (by decide) ?_
  refine y_iadd X (z := (nI (j + 3))) dL_law_684 (nI_add (j) (3)) ?_
  refine y_sld X (j := j + 3) hX hbl hbA dL_law_685 rfl (by omega) (by omega) ?_
  refine y_callVr X (0) 4 (av := [.int (xs (j + 1)), .int (xs (j + 2)), .int (xs (j + 3))]) [] 3 (c_X4_view gC gW) (by decide) e0 rfl gL_law_X4_view rfl (by decide +kernel) rfl ⟨Nat.le_of_ble_eq_true rfl, Nat.le_of_ble_eq_true rfl⟩ ⟨Nat.le_of_ble_eq_true rfl, Nat.le_of_ble_eq_true rfl⟩ (Nat.le_of_ble_eq_true rfl) rfl dL_law_686 ?_
  refine y_aload_n X dL_law_689 3 rfl ?_
  refine y_aload_n X dL_law_690 1 rfl ?_
  refine y_iload_n X dL_law_691 0 rfl ?_
  refine y_iconst X (v := 1) dL_law_692 (by decide) ?_
  refine y_iadd X (z := (nI (j + 1))) dL_law_693 (nI_add (j) (1)) ?_
  refine y_sld X (j := j + 1) hX hbl hbA dL_law_694 rfl (by omega) (by omega) ?_
  refine y_aload_n X dL_law_695 1 rfl ?_
  refine y_iload_n X dL_law_696 0 rfl ?_
  refine y_iconst X (v := 2) dL_law_697 (by decide) ?_
  refine y_iadd X (z := (nI (j + 2))) dL_law_698 (nI_add (j) (2)) ?_
  refine y_sld X (j := j + 2) hX hbl hbA dL_law_699 rfl (by omega) (by omega) ?_
  refine y_aload_n X dL_law_700 1 rfl ?_
  refine y_iload_n X dL_law_701 0 rfl ?_
  refine y_iconst X (v := 3) dL_law_702 (by decide) ?_
  refine y_iadd X (z := (nI (j + 3))) dL_law_703 (nI_add (j) (3)) ?_
  refine y_sld X (j := j + 3) hX hbl hbA dL_law_704 rfl (by omega) (by omega) ?_
  refine y_callVr X (61) 5 (av := [.int (xs (j + 1)), .int (xs (j + 2)), .int (xs (j + 3))]) [.int (_)] 3 (c_X5_view gM gW) (by decide) e61 rfl gL_law_X5_view rfl (by decide +kernel) rfl ⟨Nat.le_of_ble_eq_true rfl, Nat.le_of_ble_eq_true rfl⟩ ⟨Nat.le_of_ble_eq_true rfl, Nat.le_of_ble_eq_true rfl⟩ (Nat.le_of_ble_eq_true rfl) rfl dL_law_705 ?_
  refine y_st [_, _] rfl ?_
  refine y_icmp_eq X 825 True dL_law_708 (by decide) (iff_of_true rfl trivial) (fun _ => ?_) (fun c1 => absurd trivial c1)
  exact k C _ _ _ _ _ _ _ gC gM (gW)
set_option maxRecDepth 100000 in
set_option maxHeartbeats 4000000 in
theorem lc_21 {p : Program} {l : Launch} {e : Env} {s : State} {m : MethodId} {b L : Nat} {below : List Frame} {meth : Method} {c : Code} {xs : Nat → Int32} {E : xE} {C : xC} {j : Nat} {T : Tb} {hh : Nat → Tb} {hn : Nat} {sn : Option Tb} {tx : Nat → Int32} {ln : Nat} {sp : Option (Nat × Int32)} (h : lH p s m meth c b L xs E) (hj : j + 5 ≤ L) (hL : L ≤ 2560) (gC : CX E C T hh hn sn tx ln sp) (gM : MX E C T hh hn sn tx ln sp) (gW : WX T hh hn sn tx ln sp) (k : lawN p l e s m b below meth c E j) : lY p l e s m b below meth c E C j 713 [] := by
  obtain ⟨X, hX, hbl, hr⟩ := h
  have hbA : ¬ lA s b := Nat.not_le.mpr hbl
  obtain ⟨f0, e0⟩ := CX_0 gC
  obtain ⟨f61, e61⟩ := MX_61 gM
  refine y_aload_n X dL_law_713 2 rfl ?_
  refine y_aload_n X dL_law_714 1 rfl ?_
  refine y_iload_n X dL_law_715 0 rfl ?_
  refine y_iconst X (v := 1) dL_law_716 (by decide) ?_
  refine y_iadd X (z := (nI (j + 1))) dL_law_717 (nI_add (j) (1)) ?_
  refine y_sld X (j := j + 1) hX hbl hbA dL_law_718 rfl (by omega) (by omega) ?_
  refine y_aload_n X dL_law_719 1 rfl ?_
  refine y_iload_n X dL_law_720 0 rfl ?_
  refine y_iconst X (v := 2) dL_law_721 (by decide) ?_
  refine y_iadd X (z := (nI (j + 2))) dL_law_722 (nI_add (j) (2)) ?_
  refine y_sld X (j := j + 2) hX hbl hbA dL_law_723 rfl (by omega) (by omega) ?_
  refine y_aload_n X dL_law_724 1 rfl ?_
  refine y_iload_n X dL_law_725 0 rfl ?_
  refine y_iconst X (v := 3) dL_law_726 (by decide) ?_
  refine y_iadd X (z := (nI (j + 3))) dL_law_727 (nI_add (j) (3)) ?_
  refine y_sld X (j := j + 3) hX hbl hbA dL_law_728 rfl (by omega) (by omega) ?_
  refine y_aload_n X dL_law_729 1 rfl ?_
  refine y_iload_n X dL_law_730 0 rfl ?_
  refine y_iconst X (v := 4) dL_law_731 (by decide) ?_
  refine y_iadd X (z := (nI (j + 4))) dL_law_732 (nI_add (j) (4)) ?_
  refine y_sld X (j := j + 4) hX hbl hbA dL_law_733 rfl (by omega) (by omega) ?_
  refine y_callVr X (0) 4 (av := [.int (xs (j + 1)), .int (xs (j + 2)), .int (xs (j + 3)), .int (xs (j + 4))]) [] 4 (c_X4_viewColumn gC gW) (by decide) e0 rfl gL_law_X4_viewColumn rfl (by decide +kernel) rfl ⟨Nat.le_of_ble_eq_true rfl, Nat.le_of_ble_eq_true rfl⟩ ⟨Nat.le_of_ble_eq_true rfl, Nat.le_of_ble_eq_true rfl⟩ (Nat.le_of_ble_eq_true rfl) rfl dL_law_734 ?_
  refine y_aload_n X dL_law_737 3 rfl ?_
  refine y_aload_n X dL_law_738 1 rfl ?_
  refine y_iload_n X dL_law_739 0 rfl ?_
  refine y_iconst X (v := 1) dL_law_740 (by decide) ?_
  refine y_iadd X (z := (nI (j + 1))) dL_law_741 (nI_add (j) (1)) ?_
  refine y_sld X (j := j + 1) hX hbl hbA dL_law_742 rfl (by omega) (by omega) ?_
  refine y_aload_n X dL_law_743 1 rfl ?_
  refine y_iload_n X dL_law_744 0 rfl ?_
  refine y_iconst X (v := 2) dL_law_745 (by decide) ?_
  refine y_iadd X (z := (nI (j + 2))) dL_law_746 (nI_add (j) (2)) ?_
  refine y_sld X (j := j + 2) hX hbl hbA dL_law_747 rfl (by omega) (by omega) ?_
  refine y_aload_n X dL_law_748 1 rfl ?_
  refine y_iload_n X dL_law_749 0 rfl ?_
  refine y_iconst X (v := 3) dL_law_750 (by decide) ?_
  refine y_iadd X (z := (nI (j + 3))) dL_law_751 (nI_add (j) (3)) ?_
  refine y_sld X (j := j + 3) hX hbl hbA dL_law_752 rfl (by omega) (by omega) ?_
  refine y_aload_n X dL_law_753 1 rfl ?_
  refine y_iload_n X dL_law_754 0 rfl ?_
  refine y_iconst X (v := 4) dL_law_755 (by decide) ?_
  refine y_iadd X (z := (nI (j + 4))) dL_law_756 (nI_add (j) (4)) ?_
  refine y_sld X (j := j + 4) hX hbl hbA dL_law_757 rfl (by omega) (by omega) ?_
  refine y_callVr X (61) 5 (av := [.int (xs (j + 1)), .int (xs (j + 2)), .int (xs (j + 3)), .int (xs (j + 4))]) [.int (_)] 4 (c_X5_viewColumn gM gW) (by decide) e61 rfl gL_law_X5_viewColumn rfl (by decide +kernel) rfl ⟨Nat.le_of_ble_eq_true rfl, Nat.le_of_ble_eq_true rfl⟩ ⟨Nat.le_of_ble_eq_true rfl, Nat.le_of_ble_eq_true rfl⟩ (Nat.le_of_ble_eq_true rfl) rfl dL_law_758 ?_
  refine y_st [_, _] rfl ?_
  refine y_icmp_eq X 825 True dL_law_761 (by decide) (iff_of_true rfl trivial) (fun _ => ?_) (fun c1 => absurd trivial c1)
  exact k C _ _ _ _ _ _ _ gC gM (gW)
set_option maxRecDepth 100000 in
set_option maxHeartbeats 4000000 in
theorem lc_22 {p : Program} {l : Launch} {e : Env} {s : State} {m : MethodId} {b L : Nat} {below : List Frame} {meth : Method} {c : Code} {xs : Nat → Int32} {E : xE} {C : xC} {j : Nat} {T : Tb} {hh : Nat → Tb} {hn : Nat} {sn : Option Tb} {tx : Nat → Int32} {ln : Nat} {sp : Option (Nat × Int32)} (h : lH p s m meth c b L xs E) (hj : j + 5 ≤ L) (hL : L ≤ 2560) (gC : CX E C T hh hn sn tx ln sp) (gM : MX E C T hh hn sn tx ln sp) (gW : WX T hh hn sn tx ln sp) (k : lawN p l e s m b below meth c E j) : lY p l e s m b below meth c E C j 766 [] := by
  obtain ⟨X, hX, hbl, hr⟩ := h
  have hbA : ¬ lA s b := Nat.not_le.mpr hbl
  obtain ⟨f0, e0⟩ := CX_0 gC
  obtain ⟨f61, e61⟩ := MX_61 gM
  refine y_aload_n X dL_law_766 2 rfl ?_
  refine y_callVr X (0) 4 (av := []) [] 0 (c_X4_bestFrom gC gW) (by decide) e0 rfl gL_law_X4_bestFrom rfl (by decide +kernel) rfl ⟨Nat.le_of_ble_eq_true rfl, Nat.le_of_ble_eq_true rfl⟩ ⟨Nat.le_of_ble_eq_true rfl, Nat.le_of_ble_eq_true rfl⟩ (Nat.le_of_ble_eq_true rfl) rfl dL_law_767 ?_
  refine y_aload_n X dL_law_770 3 rfl ?_
  refine y_callVr X (61) 5 (av := []) [.int (_)] 0 (c_X5_bestFrom gM gW) (by decide) e61 rfl gL_law_X5_bestFrom rfl (by decide +kernel) rfl ⟨Nat.le_of_ble_eq_true rfl, Nat.le_of_ble_eq_true rfl⟩ ⟨Nat.le_of_ble_eq_true rfl, Nat.le_of_ble_eq_true rfl⟩ (Nat.le_of_ble_eq_true rfl) rfl dL_law_771 ?_
  refine y_st [_, _] rfl ?_
  refine y_icmp_eq X 825 True dL_law_774 (by decide) (iff_of_true rfl trivial) (fun _ => ?_) (fun c1 => absurd trivial c1)
  exact k C _ _ _ _ _ _ _ gC gM (gW)
set_option maxRecDepth 100000 in
set_option maxHeartbeats 4000000 in
theorem lc_23 {p : Program} {l : Launch} {e : Env} {s : State} {m : MethodId} {b L : Nat} {below : List Frame} {meth : Method} {c : Code} {xs : Nat → Int32} {E : xE} {C : xC} {j : Nat} {T : Tb} {hh : Nat → Tb} {hn : Nat} {sn : Option Tb} {tx : Nat → Int32} {ln : Nat} {sp : Option (Nat × Int32)} (h : lH p s m meth c b L xs E) (hj : j + 5 ≤ L) (hL : L ≤ 2560) (gC : CX E C T hh hn sn tx ln sp) (gM : MX E C T hh hn sn tx ln sp) (gW : WX T hh hn sn tx ln sp) (k : lawN p l e s m b below meth c E j) : lY p l e s m b below meth c E C j 779 [] := by
  obtain ⟨X, hX, hbl, hr⟩ := h
  have hbA : ¬ lA s b := Nat.not_le.mpr hbl
  obtain ⟨f0, e0⟩ := CX_0 gC
  obtain ⟨f61, e61⟩ := MX_61 gM
  refine y_aload_n X dL_law_779 2 rfl ?_
  refine y_aload_n X dL_law_780 1 rfl ?_
  refine y_iload_n X dL_law_781 0 rfl ?_
  refine y_iconst X (v := 1) dL_law_782 (by decide) ?_
  refine y_iadd X (z := (nI (j + 1))) dL_law_783 (nI_add (j) (1)) ?_
  refine y_sld X (j := j + 1) hX hbl hbA dL_law_784 rfl (by omega) (by omega) ?_
  refine y_callVr X (0) 4 (av := [.int (xs (j + 1))]) [] 1 (c_X4_bestSeason gC gW) (by decide) e0 rfl gL_law_X4_bestSeason rfl (by decide +kernel) rfl ⟨Nat.le_of_ble_eq_true rfl, Nat.le_of_ble_eq_true rfl⟩ ⟨Nat.le_of_ble_eq_true rfl, Nat.le_of_ble_eq_true rfl⟩ (Nat.le_of_ble_eq_true rfl) rfl dL_law_785 ?_
  refine y_aload_n X dL_law_788 3 rfl ?_
  refine y_aload_n X dL_law_789 1 rfl ?_
  refine y_iload_n X dL_law_790 0 rfl ?_
  refine y_iconst X (v := 1) dL_law_791 (by decide) ?_
  refine y_iadd X (z := (nI (j + 1))) dL_law_792 (nI_add (j) (1)) ?_
  refine y_sld X (j := j + 1) hX hbl hbA dL_law_793 rfl (by omega) (by omega) ?_
  refine y_callVr X (61) 5 (av := [.int (xs (j + 1))]) [.int (_)] 1 (c_X5_bestSeason gM gW) (by decide) e61 rfl gL_law_X5_bestSeason rfl (by decide +kernel) rfl ⟨Nat.le_of_ble_eq_true rfl, Nat.le_of_ble_eq_true rfl⟩ ⟨Nat.le_of_ble_eq_true rfl, Nat.le_of_ble_eq_true rfl⟩ (Nat.le_of_ble_eq_true rfl) rfl dL_law_794 ?_
  refine y_st [_, _] rfl ?_
  refine y_icmp_eq X 825 True dL_law_797 (by decide) (iff_of_true rfl trivial) (fun _ => ?_) (fun c1 => absurd trivial c1)
  exact k C _ _ _ _ _ _ _ gC gM (gW)
set_option maxRecDepth 100000 in
set_option maxHeartbeats 4000000 in
theorem lc_24 {p : Program} {l : Launch} {e : Env} {s : State} {m : MethodId} {b L : Nat} {below : List Frame} {meth : Method} {c : Code} {xs : Nat → Int32} {E : xE} {C : xC} {j : Nat} {T : Tb} {hh : Nat → Tb} {hn : Nat} {sn : Option Tb} {tx : Nat → Int32} {ln : Nat} {sp : Option (Nat × Int32)} (h : lH p s m meth c b L xs E) (hj : j + 5 ≤ L) (hL : L ≤ 2560) (gC : CX E C T hh hn sn tx ln sp) (gM : MX E C T hh hn sn tx ln sp) (gW : WX T hh hn sn tx ln sp) (k : lawN p l e s m b below meth c E j) : lY p l e s m b below meth c E C j 802 [] := by
  obtain ⟨X, hX, hbl, hr⟩ := h
  have hbA : ¬ lA s b := Nat.not_le.mpr hbl
  obtain ⟨f0, e0⟩ := CX_0 gC
  obtain ⟨f61, e61⟩ := MX_61 gM
  refine y_aload_n X dL_law_802 2 rfl ?_
  refine y_aload_n X dL_law_803 1 rfl ?_
  refine y_iload_n X dL_law_804 0 rfl ?_
  refine y_iconst X (v := 1) dL_law_805 (by decide) ?_
  refine y_iadd X (z := (nI (j + 1))) dL_law_806 (nI_add (j) (1)) ?_
  refine y_sld X (j := j + 1) hX hbl hbA dL_law_807 rfl (by omega) (by omega) ?_
  refine y_callVr X (0) 4 (av := [.int (xs (j + 1))]) [] 1 (c_X4_count gC gW) (by decide) e0 rfl gL_law_X4_count rfl (by decide +kernel) rfl ⟨Nat.le_of_ble_eq_true rfl, Nat.le_of_ble_eq_true rfl⟩ ⟨Nat.le_of_ble_eq_true rfl, Nat.le_of_ble_eq_true rfl⟩ (Nat.le_of_ble_eq_true rfl) rfl dL_law_808 ?_
  refine y_aload_n X dL_law_811 3 rfl ?_
  refine y_aload_n X dL_law_812 1 rfl ?_
  refine y_iload_n X dL_law_813 0 rfl ?_
  refine y_iconst X (v := 1) dL_law_814 (by decide) ?_
  refine y_iadd X (z := (nI (j + 1))) dL_law_815 (nI_add (j) (1)) ?_
  refine y_sld X (j := j + 1) hX hbl hbA dL_law_816 rfl (by omega) (by omega) ?_
  refine y_callVr X (61) 5 (av := [.int (xs (j + 1))]) [.int (_)] 1 (c_X5_count gM gW) (by decide) e61 rfl gL_law_X5_count rfl (by decide +kernel) rfl ⟨Nat.le_of_ble_eq_true rfl, Nat.le_of_ble_eq_true rfl⟩ ⟨Nat.le_of_ble_eq_true rfl, Nat.le_of_ble_eq_true rfl⟩ (Nat.le_of_ble_eq_true rfl) rfl dL_law_817 ?_
  refine y_st [_, _] rfl ?_
  refine y_icmp_eq X 825 True dL_law_820 (by decide) (iff_of_true rfl trivial) (fun _ => ?_) (fun c1 => absurd trivial c1)
  exact k C _ _ _ _ _ _ _ gC gM (gW)
