def R_law : String := "ColumnSeasonsLaw"
def lw_P (b : Addr) (xs : List Int32) (args : Array Value) (s : State) : Prop := args = #[.ref b] ∧ s.IntsAt b xs ∧ xs.length ≤ 2560 ∧ (Jvm.Cond.and given_1 narrow_1).before args s = true
def lw_Q (_ : Array Value) (s : State) (o : Outcome) (t : State) : Prop := o = .returned (some (.int 1)) ∧ Framed s o t [] 600000 7302250
def lw_Z (below : List Frame) (a : Array Value) (s : State) : State → Prop := fun t => ∃ o, t.status = .running ∧ Ended t below o ∧ lw_Q a s o t
/-- the law's own end, with 1 on the stack, nothing written that was there before, its room as the claim has it -/
theorem lw_ret {p : Program} {l : Launch} {e : Env} {s : State} {m : MethodId} {below : List Frame} {meth : Method} {c : Code} {b : Nat} (hx : p.tables.exec = Jvm.exec) (hb : c.code = code) (hr : meth.sig.returnType = ret) (hlocks : meth.locks = false) {pc : Nat} {H : Heap} {ls : Array Slot} (hdg : decode code pc = .ok (.ireturn, 1)) : W p l e room_1 s m #[Value.ref b] below meth c H [] 600000 7302250 (lw_Z below #[Value.ref b] s) (F0 m pc ls [.int 1]) := by
  intro T hT X
  obtain ⟨fs, hret, hrun, hended, hW, hframe⟩ := X.leave (v := some (.int 1)) (hlocks := hlocks) (fun h => by rw [hr] at h; cases h)
  have hmeth' : T.vm.method? m = some meth := X.method'
  refine ⟨T.setFrames fs, ?_, .returned (some (.int 1)), hrun, hended, rfl, ⟨_, rfl⟩, hW, hframe⟩
  jvm_step X.here [X.here.top, hx, hb, hdg, hmeth', hr, ret, narrow_b1]
  (try refine ⟨rfl, ?_⟩); (try refine ⟨rfl, ?_⟩)
  first | (intro acts; rw [hret _ acts rfl rfl rfl]) | rw [hret _ _ rfl rfl rfl]
  exact Steps.refl _
/-- what holds at the law's entry: the machine, the code, the tables' words (any of lw_tbl by 'hts w (by decide +kernel)'), the script of L ints xs at the cell b, what the Statement gives of the start (any of its parts by flat_of_before) -/
def lw_At (p : Program) (s : State) (m : MethodId) (meth : Method) (c : Code) (b L : Nat) (xs : Nat → Int32) : Prop :=
  p.tables.exec = Jvm.exec ∧ c.code = code ∧ meth.sig.returnType = ret ∧ c.maxLocals = 4 ∧ s.vm.findClass R_law = some m.cls ∧ (∀ w ∈ lw_tbl, w.before #[Value.ref b] s = true) ∧ va_X b L xs s s.heap ∧ b < s.heap.size ∧ meth.locks = false ∧ (Jvm.Cond.and given_1 narrow_1).before #[Value.ref b] s = true
theorem CX_far {E : xE} {C C1 : xC} {T : Tb} {hh : Nat → Tb} {hn : Nat} {sn : Option Tb} {tx : Nat → Int32} {ln : Nat} {sp : Option (Nat × Int32)} (h : CX E C T hh hn sn tx ln sp) (hf : ∀ i : Nat, i < 61 → C1 i = C i) : CX E C1 T hh hn sn tx ln sp := by
  obtain ⟨o, sl, cm, xt, cc, pl, nu, c0, c6, c7, c38, c39, c40, ho, hsl, hcm, hT, hR, hS, hsn, htx, hcmd⟩ := h
  refine ⟨o, sl, cm, xt, cc, pl, nu, by rw [hf _ (by omega)]; exact c0, by rw [hf _ (by omega)]; exact c6, by rw [hf _ (by omega)]; exact c7, by rw [hf _ (by omega)]; exact c38, by rw [hf _ (by omega)]; exact c39, by rw [hf _ (by omega)]; exact c40, ho, hsl, hcm, RC_same hT (fun i _ h2 => hf i (by omega)), ⟨fun i hi => ?_, fun k hk => ?_⟩, ?_, fun S g => ?_, htx, fun i hi => ?_⟩
  · obtain ⟨S, hS1⟩ := hR.1 i hi
    exact ⟨S, RC_same hS1 (fun i2 _ h2 => hf i2 (by omega))⟩
  · exact RC_same (hR.2 k hk) (fun i2 _ h2 => hf i2 (by omega))
  · obtain ⟨S, hS1⟩ := hS
    exact ⟨S, RC_same hS1 (fun i2 _ h2 => hf i2 (by omega))⟩
  · exact RC_same (hsn S g) (fun i2 _ h2 => hf i2 (by omega))
  · obtain ⟨a1, a2, a3, a4, a5, h1⟩ := hcmd i hi
    exact ⟨a1, a2, a3, a4, a5, by rw [hf _ (by omega)]; exact h1⟩
theorem MX_far {E : xE} {C C1 : xC} {T : Tb} {hh : Nat → Tb} {hn : Nat} {sn : Option Tb} {tx : Nat → Int32} {ln : Nat} {sp : Option (Nat × Int32)} (h : MX E C T hh hn sn tx ln sp) (hf : ∀ i : Nat, 61 ≤ i → C1 i = C i) : MX E C1 T hh hn sn tx ln sp := by
  obtain ⟨zf, zt, zp, zs, zx, zl, pa, va, tl, m1, m2, m3, m4, m5, m6, m7, hr⟩ := h
  exact ⟨zf, zt, zp, zs, zx, zl, pa, va, tl, by rw [hf _ (by omega)]; exact m1, by rw [hf _ (by omega)]; exact m2, by rw [hf _ (by omega)]; exact m3, by rw [hf _ (by omega)]; exact m4, by rw [hf _ (by omega)]; exact m5, by rw [hf _ (by omega)]; exact m6, by rw [hf _ (by omega)]; exact m7, hr⟩
theorem CX_0 {E : xE} {C : xC} {T : Tb} {hh : Nat → Tb} {hn : Nat} {sn : Option Tb} {tx : Nat → Int32} {ln : Nat} {sp : Option (Nat × Int32)} (h : CX E C T hh hn sn tx ln sp) : ∃ fs : List Value, C 0 = .inr (4, fs) := by
  obtain ⟨o, sl, cm, xt, cc, pl, nu, c0, hr⟩ := h
  exact ⟨_, c0⟩
theorem MX_61 {E : xE} {C : xC} {T : Tb} {hh : Nat → Tb} {hn : Nat} {sn : Option Tb} {tx : Nat → Int32} {ln : Nat} {sp : Option (Nat × Int32)} (h : MX E C T hh hn sn tx ln sp) : ∃ fs : List Value, C 61 = .inr (5, fs) := by
  obtain ⟨zf, zt, zp, zs, zx, zl, pa, va, tl, m1, hr⟩ := h
  exact ⟨_, m1⟩
theorem u32_nI (u : UInt32) : u.toInt32 = nI u.toNat := (congrArg UInt32.toInt32 (UInt32.ofNat_toNat (x := u)).symm)
theorem i2c_in (x : Int32) : xin ((x.toUInt32 % 65536).toInt32) 65536 := by
  have h1 : (x.toUInt32 % 65536).toNat < 65536 := by
    rw [UInt32.toNat_mod]; exact Nat.mod_lt _ (by decide)
  rw [u32_nI]
  exact xin_nI h1 (by decide)
theorem and31 (x : Int32) : ∃ k : Nat, k < 32 ∧ x &&& 31 = nI k := by
  refine ⟨(x.toUInt32 &&& 31).toNat, ?_, ?_⟩
  · rw [UInt32.toNat_and]
    exact Nat.lt_of_le_of_lt Nat.and_le_right (by decide)
  · rw [← u32_nI]
    rfl
theorem l_gt {L j : Nat} (h1 : L < 2 ^ 30) (h2 : j < 2 ^ 30) : (nI L - 5 < nI j) ↔ L < j + 5 := by
  have g1 : (nI L - nI 5).toInt = (L : Int) - (5 : Nat) := pk_sub_toInt (a := L) (b := 5) (by omega) (by omega)
  rw [Int32.lt_iff_toInt_lt, show (nI L - 5 : Int32) = nI L - nI 5 from rfl, g1, nI_toInt (by omega)]
  omega
section XL
variable {p : Program} {l : Launch} {e : Env} {R : Room} {s : State} {m : MethodId} {args : Array Value} {below : List Frame} {meth : Method} {c : Code} {cc : ByteArray} {nL : Nat} {Ts : List Cond} {own : String} {E : xE} {A : Nat → Prop} {cells slots : Nat} {Q : State → Prop} {C : xC} {pc : Nat} {lv : List (Nat × Value)} {st : List Value}
theorem y_sld (X : xS p s m args meth c cc nL Ts own E A) {b L j : Nat} {xs : Nat → Int32} {x : Int32} (hX : va_X b L xs s s.heap) (hbl : b < s.heap.size) (hbA : ¬ A b) (d : decode cc pc = .ok (.iaload, 1)) (hx : x = nI j) (hj : j < L) (hL : L < 2 ^ 31) (k : xY p l e R s m args below meth c E A nL cells slots Q C (pc + 1) lv (.int (xs j) :: st)) : xY p l e R s m args below meth c E A nL cells slots Q C pc lv (.int x :: .ref b :: st) := by
  intro H locs ls hP hD hS h
  subst hx
  exact va_sld X.1.1 X.1.2.1 hX hbl hbA hS (vp_in_nI hj hL) d (by rw [nI_clamp (by omega)]; exact k H locs ls hP hD hS h)
theorem y_slen (X : xS p s m args meth c cc nL Ts own E A) {b L : Nat} {xs : Nat → Int32} (hX : va_X b L xs s s.heap) (hbl : b < s.heap.size) (hbA : ¬ A b) (d : decode cc pc = .ok (.arraylength, 1)) (k : xY p l e R s m args below meth c E A nL cells slots Q C (pc + 1) lv (.int (nI L) :: st)) : xY p l e R s m args below meth c E A nL cells slots Q C pc lv (.ref b :: st) := by
  intro H locs ls hP hD hS h
  exact va_slen X.1.1 X.1.2.1 hX hbl hbA hS d (k H locs ls hP hD hS h)
theorem y_st (st2 : List Value) (hs : st = st2) (k : xY p l e R s m args below meth c E A nL cells slots Q C pc lv st2) : xY p l e R s m args below meth c E A nL cells slots Q C pc lv st := by
  subst hs
  exact k
end XL
abbrev lA (s : State) : Nat → Prop := fun q => s.heap.size ≤ q
/-- the law's own start, kept over its loop -/
def lH (p : Program) (s : State) (m : MethodId) (meth : Method) (c : Code) (b L : Nat) (xs : Nat → Int32) (E : xE) : Prop := xS p s m #[Value.ref b] meth c cL_law 4 wsL_law RL E (lA s) ∧ va_X b L xs s s.heap ∧ b < s.heap.size ∧ meth.sig.returnType = ret
abbrev lY (p : Program) (l : Launch) (e : Env) (s : State) (m : MethodId) (b : Nat) (below : List Frame) (meth : Method) (c : Code) (E : xE) (C : xC) (j pc : Nat) (st : List Value) : Prop := xY p l e room_1 s m #[Value.ref b] below meth c E (lA s) 4 68 10199 (lw_Z below #[Value.ref b] s) C pc [(3, .int (nI j)), (0, .ref b), (1, .ref (E.2.1 (0))), (2, .ref (E.2.1 (61)))] st
/-- the way on behind a case -/
def lawN (p : Program) (l : Launch) (e : Env) (s : State) (m : MethodId) (b : Nat) (below : List Frame) (meth : Method) (c : Code) (E : xE) (j : Nat) : Prop := ∀ (C2 : xC) (T2 : Tb) (hh2 : Nat → Tb) (hn2 : Nat) (sn2 : Option Tb) (tx2 : Nat → Int32) (ln2 : Nat) (sp2 : Option (Nat × Int32)), CX E C2 T2 hh2 hn2 sn2 tx2 ln2 sp2 → MX E C2 T2 hh2 hn2 sn2 tx2 ln2 sp2 → WX T2 hh2 hn2 sn2 tx2 ln2 sp2 → lY p l e s m b below meth c E C2 j 825 []
theorem l_end {p : Program} {l : Launch} {e : Env} {s : State} {m : MethodId} {b L : Nat} {below : List Frame} {meth : Method} {c : Code} {xs : Nat → Int32} {E : xE} {C : xC} {j : Nat} (h : lH p s m meth c b L xs E) : lY p l e s m b below meth c E C j 831 [] := by
  obtain ⟨X, hX, hbl, hr⟩ := h
  refine y_iconst X (v := 1) dL_law_831 (by decide) ?_
  intro H locs ls hP hD hS h
  refine va_forget (fun q hq => hS.2.2 q hq) ?_
  exact W.widen (Nat.le_of_ble_eq_true rfl) (Nat.le_of_ble_eq_true rfl) (lw_ret X.1.1 X.1.2.1 hr X.2.1 dL_law_832)
