def zty (I : Nat → ClassId) : List (ClassId × FieldType) := [(I 0, .char), (I 1, .int), (I 2, .object "ColumnSeasons$Command"), (I 3, .object "ColumnSeasons$Table")]
def zK (D : va_G) (I : Nat → ClassId) (U : State) : Prop := va_K D vwCl (zty I) U ∧ va_AO RX0 U ∧ va_AO RX3 U
theorem zK.moved {D : va_G} {I : Nat → ClassId} {u U : State} (hvm : u.vm.Alike U.vm) (h : zK D I u) : zK D I U := ⟨va_K.moved hvm h.1, va_AO.moved hvm h.2.1, va_AO.moved hvm h.2.2⟩
/-- the start and the end of a method over a list of cells -/
def zP (D : va_G) (I : Nat → ClassId) (sz : Nat) (w0 : va_W) (U : State) : Prop := U.heap.size = sz ∧ va_P D vwCl w0 U.heap ∧ zK D I U ∧ va_D (fun _ => True) w0
def zE (D : va_G) (I : Nat → ClassId) (A : Nat → Prop) (w : va_W) (t : State) : Prop := va_P D vwCl w t.heap ∧ zK D I t ∧ va_D A w
def zM (D : va_G) (I : Nat → ClassId) (l : Launch) (y : MethodName) (ws : List Cond) (fr lo mc ms : Nat) (av : List Value) (w0 : va_W) (post : va_W → Prop) : Prop :=
  ∀ sz : Nat, Met l y ws { frames := fr, cells := mc, slots := ms, locals := lo } (va_Pc av (zP D I sz w0)) (va_Qv post (zE D I (va_A w0 sz)) (va_A w0 sz)) mc ms (va_A w0 sz)
def zS (p : Program) (s : State) (m : MethodId) (args : Array Value) (meth : Method) (c : Code) (cc : ByteArray) (nL : Nat) (Ts : List Cond) (own : String) (D : va_G) (I : Nat → ClassId) (A : Nat → Prop) : Prop :=
  CallFix p m c cc nL s args Ts own ∧ meth.locks = false ∧ zK D I s ∧ (∀ q : Nat, s.heap.size ≤ q → A q)
def zY (p : Program) (l : Launch) (e : Env) (R : Room) (s : State) (m : MethodId) (args : Array Value) (below : List Frame) (meth : Method) (c : Code) (D : va_G) (I : Nat → ClassId) (A : Nat → Prop) (nL cells slots : Nat) (Q : State → Prop) (w : va_W) (pc : Nat) (lv : List (Nat × Value)) (st : List Value) : Prop :=
  ∀ (H : Heap) (locs : List Loc) (ls : Array Slot), va_P D vwCl w H → va_D A w → va_S A s.heap H locs → lv_has ls nL lv → W p l e R s m args below meth c H locs cells slots Q (F0 m pc ls st)
theorem zM_ofY {D : va_G} {I : Nat → ClassId} {l : Launch} {y : MethodName} {ws ws' : List Cond} {fr lo mc ms : Nat} {av : List Value} {w0 : va_W} {post : va_W → Prop} {cc : ByteArray} {maxL : Nat} {ret : Option FieldType} (hy : plainName y.cls = true) (hw : ws = Cond.code y cc maxL ret :: ws') (hn : (lg_sl av).length ≤ maxL)
    (body : ∀ (p : Program) (e : Env) (s : State) (m : MethodId) (args : Array Value) (below : List Frame) (meth : Method) (c : Code) (A : Nat → Prop), A = va_A w0 s.heap.size → zS p s m args meth c cc maxL ws y.cls D I A → meth.sig.returnType = ret → meth.name = y.name → zY p l e { frames := fr, cells := mc, slots := ms, locals := lo } s m args below meth c D I A maxL 0 0 (MQ below (va_Qv post (zE D I A) A) args s mc ms A) w0 0 (lv_args 0 av) []) : zM D I l y ws fr lo mc ms av w0 post := by
  intro sz
  refine Met.ofW (cc := cc) (maxL := maxL) (ret := ret) hy hw ?_
  intro p e s m args below meth c s₁ B hml hv
  obtain ⟨rfl, hsz, hP, hK, hD⟩ := hv
  subst hsz
  have hts := atoms_spec (ws := ws) B.pre
  have hown : s.vm.findClass y.cls = some m.cls := findClass_of_methodNamed B.named
  rw [lg_entry_eq]
  have hl := lv_entry av (n := maxL) hn
  exact body p e s m av.toArray below meth c (va_A w0 s.heap.size) rfl ⟨⟨B.exec, B.bytes, hml, hown, hts⟩, B.notSynchronized, hK, fun q h => Or.inr h⟩ B.returns (name_of_methodNamed B.named B.method).1 s.heap [] _ hP hD.self va_S.rf hl
theorem z_join {A0 : Nat → Prop} {D : va_G} {cl : List vw_C} {wr wc w1 : va_W} {H H1 : Heap} (hP : va_P D cl (wr ++ wc) H) (hD : va_D A0 (wr ++ wc)) (hk : ∀ q : Nat, q < H.size → ¬ va_A wc H.size q → H1[q]? = H[q]?) (hF : ∀ q, va_A wc H.size q → A0 q) (hP1 : va_P D cl w1 H1) (hD1 : va_D (va_A wc H.size) w1) : va_P D cl (wr ++ w1) H1 ∧ va_D A0 (wr ++ w1) := by
  have hr : ∀ (k : Nat) (q : Nat × va_E), wr[k]? = some q → (wr ++ wc)[k]? = some q := fun k q h => by rw [List.getElem?_append_left (List.getElem?_eq_some_iff.mp h).1]; exact h
  have hc : ∀ (k : Nat) (q : Nat × va_E), wc[k]? = some q → (wr ++ wc)[wr.length + k]? = some q := fun k q h => by rw [List.getElem?_append_right (by omega), show wr.length + k - wr.length = k by omega]; exact h
  have apart : ∀ (k : Nat) (q : Nat × va_E), wr[k]? = some q → q.1 < H.size ∧ ¬ va_A wc H.size q.1 := by
    intro k q hq
    have hl := (hP k q (hr k q hq)).lt
    refine ⟨hl, fun h => ?_⟩
    rcases h with ⟨k2, e, h⟩ | h
    · have z1 := hD.1 k (wr.length + k2) q (q.1, e) (hr k q hq) (hc k2 _ h) rfl
      have z2 := (List.getElem?_eq_some_iff.mp hq).1
      omega
    · omega
  refine ⟨va_P.app (fun k q hq => (hP k q (hr k q hq)).kept (hk q.1 (apart k q hq).1 (apart k q hq).2)) hP1, va_D.app ⟨fun i j p q hi hj e => hD.1 i j p q (hr i p hi) (hr j q hj) e, fun k q hq => hD.2 k q (hr k q hq)⟩ (hD1.weaken (fun k q _ h => hF q.1 h)) (fun i j x y hx hy hxy => ?_)⟩
  exact (apart i x hx).2 (by rw [hxy]; exact hD1.2 j y hy)
theorem z_cut {A0 : Nat → Prop} {D : va_G} {cl : List vw_C} {wr wc : va_W} {H : Heap} (hP : va_P D cl (wr ++ wc) H) (hD : va_D A0 (wr ++ wc)) : va_P D cl wc H ∧ va_D (fun _ => True) wc ∧ ∀ q : Nat, (∃ (k : Nat) (e : va_E), wc[k]? = some (q, e)) → A0 q := by
  have hc : ∀ (k : Nat) (q : Nat × va_E), wc[k]? = some q → (wr ++ wc)[wr.length + k]? = some q := fun k q h => by rw [List.getElem?_append_right (by omega), show wr.length + k - wr.length = k by omega]; exact h
  refine ⟨fun k q hq => hP _ q (hc k q hq), ⟨fun i j p q hi hj e => ?_, fun _ _ _ => trivial⟩, fun q h => ?_⟩
  · have z1 := hD.1 _ _ p q (hc i p hi) (hc j q hj) e
    omega
  · obtain ⟨k, e, h⟩ := h
    exact hD.2 _ (q, e) (hc k _ h)
theorem zP_blind {D : va_G} {I : Nat → ClassId} {sz : Nat} {w0 : va_W} {av : List Value} : FrameBlind (va_Pc av (zP D I sz w0)) := by
  intro a U g mk h
  obtain ⟨h0, h1, h2, h3, h4⟩ := h
  exact ⟨h0, h1, h2, zK.moved (u := U) (U := U.calling g mk a) (Vm.Alike.refl U.vm) h3, h4⟩
section ZR
variable {p : Program} {l : Launch} {e : Env} {R : Room} {s : State} {m : MethodId} {args : Array Value} {below : List Frame} {meth : Method} {c : Code} {cc : ByteArray} {nL : Nat} {Ts : List Cond} {own : String} {D : va_G} {I : Nat → ClassId} {A : Nat → Prop} {cells slots : Nat} {Q : State → Prop} {w : va_W} {pc : Nat} {lv : List (Nat × Value)} {st : List Value}
theorem z_iconst (X : zS p s m args meth c cc nL Ts own D I A) {n : Int} {v : Int32} (d : decode cc pc = .ok (.iconst n, 1)) (hv : Int32.ofInt n = v) (k : zY p l e R s m args below meth c D I A nL cells slots Q (w) (pc + 1) (lv) (.int v :: st)) : zY p l e R s m args below meth c D I A nL cells slots Q (w) (pc) (lv) (st) := by
  intro H locs ls hP hD hS h
  exact lv_iconst X.1.1 X.1.2.1 d hv (k H locs ls hP hD hS h)
theorem z_bipush (X : zS p s m args meth c cc nL Ts own D I A) {n : Int} {v : Int32} (d : decode cc pc = .ok (.bipush n, 2)) (hv : (Int8.ofInt n).toInt32 = v) (k : zY p l e R s m args below meth c D I A nL cells slots Q (w) (pc + 2) (lv) (.int v :: st)) : zY p l e R s m args below meth c D I A nL cells slots Q (w) (pc) (lv) (st) := by
  intro H locs ls hP hD hS h
  exact lv_bipush X.1.1 X.1.2.1 d hv (k H locs ls hP hD hS h)
theorem z_sipush (X : zS p s m args meth c cc nL Ts own D I A) {n : Int} {v : Int32} (d : decode cc pc = .ok (.sipush n, 3)) (hv : (Int16.ofInt n).toInt32 = v) (k : zY p l e R s m args below meth c D I A nL cells slots Q (w) (pc + 3) (lv) (.int v :: st)) : zY p l e R s m args below meth c D I A nL cells slots Q (w) (pc) (lv) (st) := by
  intro H locs ls hP hD hS h
  exact lv_sipush X.1.1 X.1.2.1 d hv (k H locs ls hP hD hS h)
theorem z_iload_n (X : zS p s m args meth c cc nL Ts own D I A) {f : Fin 4} {x : Int32} (d : decode cc pc = .ok (.iload_n f, 1)) (j : Nat) (hl : lv[j]? = some ((f : Nat), .int x)) (k : zY p l e R s m args below meth c D I A nL cells slots Q (w) (pc + 1) (lv) (.int x :: st)) : zY p l e R s m args below meth c D I A nL cells slots Q (w) (pc) (lv) (st) := by
  intro H locs ls hP hD hS h
  exact lv_iload_n X.1.1 X.1.2.1 d rfl (lv_at h j hl) (k H locs ls hP hD hS h)
theorem z_aload_n (X : zS p s m args meth c cc nL Ts own D I A) {f : Fin 4} {x : Nat} (d : decode cc pc = .ok (.aload_n f, 1)) (j : Nat) (hl : lv[j]? = some ((f : Nat), .ref x)) (k : zY p l e R s m args below meth c D I A nL cells slots Q (w) (pc + 1) (lv) (.ref x :: st)) : zY p l e R s m args below meth c D I A nL cells slots Q (w) (pc) (lv) (st) := by
  intro H locs ls hP hD hS h
  exact lv_aload_n X.1.1 X.1.2.1 d rfl (lv_at h j hl) (k H locs ls hP hD hS h)
theorem z_istore_n (X : zS p s m args meth c cc nL Ts own D I A) (lv2 : List (Nat × Value)) {f : Fin 4} {i : Nat} {x : Int32} (d : decode cc pc = .ok (.istore_n f, 1)) (hi : (f : Nat) = i) (hn : i < nL) (hl : (i, Value.int x) :: lv.filter (fun q => !(q.1 == i) && !(q.1 + 1 == i && q.2.category == 2)) = lv2) (k : zY p l e R s m args below meth c D I A nL cells slots Q (w) (pc + 1) (lv2) (st)) : zY p l e R s m args below meth c D I A nL cells slots Q (w) (pc) (lv) (.int x :: st) := by
  intro H locs ls hP hD hS h
  exact lv_istore_n X.1.1 X.1.2.1 d hi h hn hl (fun ls2 h2 => k H locs ls2 hP hD hS h2)
theorem z_astore_n (X : zS p s m args meth c cc nL Ts own D I A) (lv2 : List (Nat × Value)) {f : Fin 4} {i : Nat} {x : Nat} (d : decode cc pc = .ok (.astore_n f, 1)) (hi : (f : Nat) = i) (hn : i < nL) (hl : (i, Value.ref x) :: lv.filter (fun q => !(q.1 == i) && !(q.1 + 1 == i && q.2.category == 2)) = lv2) (k : zY p l e R s m args below meth c D I A nL cells slots Q (w) (pc + 1) (lv2) (st)) : zY p l e R s m args below meth c D I A nL cells slots Q (w) (pc) (lv) (.ref x :: st) := by
  intro H locs ls hP hD hS h
  exact lv_astore_n X.1.1 X.1.2.1 d hi h hn hl (fun ls2 h2 => k H locs ls2 hP hD hS h2)
theorem z_iinc (X : zS p s m args meth c cc nL Ts own D I A) (lv2 : List (Nat × Value)) {i : Nat} {n : Int} {y x : Int32} (d : decode cc pc = .ok (.iinc i n, 3)) (j : Nat) (hk : lv[j]? = some (i, .int y)) (hv : y + Int32.ofInt n = x) (hn : i < nL) (hl : (i, Value.int x) :: lv.filter (fun q => !(q.1 == i) && !(q.1 + 1 == i && q.2.category == 2)) = lv2) (k : zY p l e R s m args below meth c D I A nL cells slots Q (w) (pc + 3) (lv2) (st)) : zY p l e R s m args below meth c D I A nL cells slots Q (w) (pc) (lv) (st) := by
  intro H locs ls hP hD hS h
  exact lv_iinc X.1.1 X.1.2.1 d h hk hv hn hl (fun ls2 h2 => k H locs ls2 hP hD hS h2)
theorem z_dup (X : zS p s m args meth c cc nL Ts own D I A) {v : Value} (d : decode cc pc = .ok (.dup, 1)) (hv : v.category = 1) (k : zY p l e R s m args below meth c D I A nL cells slots Q (w) (pc + 1) (lv) (v :: v :: st)) : zY p l e R s m args below meth c D I A nL cells slots Q (w) (pc) (lv) (v :: st) := by
  intro H locs ls hP hD hS h
  exact lv_dup X.1.1 X.1.2.1 d hv (k H locs ls hP hD hS h)
theorem z_goto (X : zS p s m args meth c cc nL Ts own D I A) (tgt : Nat) {off : Int} (d : decode cc pc = .ok (.goto off, 3)) (ht : (pc : Int) + off = (tgt : Int)) (k : zY p l e R s m args below meth c D I A nL cells slots Q (w) (tgt) (lv) (st)) : zY p l e R s m args below meth c D I A nL cells slots Q (w) (pc) (lv) (st) := by
  intro H locs ls hP hD hS h
  exact lv_goto X.1.1 X.1.2.1 d ht (k H locs ls hP hD hS h)
theorem z_icmp_ge (X : zS p s m args meth c cc nL Ts own D I A) (tgt : Nat) {x y : Int32} {off : Int} (P : Prop) (d : decode cc pc = .ok (.if_icmp .ge off, 3)) (ht : (pc : Int) + off = (tgt : Int)) (he : (y ≤ x) ↔ P) (kt : P → zY p l e R s m args below meth c D I A nL cells slots Q (w) (tgt) (lv) (st)) (kf : ¬ P → zY p l e R s m args below meth c D I A nL cells slots Q (w) (pc + 3) (lv) (st)) : zY p l e R s m args below meth c D I A nL cells slots Q (w) (pc) (lv) (.int y :: .int x :: st) := by
  intro H locs ls hP hD hS h
  exact lv_icmp_ge X.1.1 X.1.2.1 d ht (fun c => kt (he.mp c) H locs ls hP hD hS h) (fun c => kf (fun z => c (he.mpr z)) H locs ls hP hD hS h)
theorem z_lv (lv2 : List (Nat × Value)) (hl : lv = lv2) (k : zY p l e R s m args below meth c D I A nL cells slots Q (w) (pc) (lv2) (st)) : zY p l e R s m args below meth c D I A nL cells slots Q (w) (pc) (lv) (st) := by
  subst hl
  exact k
theorem z_pick (ks : List Nat) (lv2 : List (Nat × Value)) (hl : lv_pick lv ks = lv2) (k : zY p l e R s m args below meth c D I A nL cells slots Q (w) (pc) (lv2) (st)) : zY p l e R s m args below meth c D I A nL cells slots Q (w) (pc) (lv) (st) := by
  intro H locs ls hP hD hS h
  exact k H locs ls hP hD hS (lv_sub h ks hl)
theorem z_w (w2 : va_W) (hw : w = w2) (k : zY p l e R s m args below meth c D I A nL cells slots Q w2 pc lv st) : zY p l e R s m args below meth c D I A nL cells slots Q w pc lv st := by
  subst hw
  exact k
theorem z_n (k2 n2 : Nat) (h1 : cells ≤ k2) (h2 : slots ≤ n2) (k : zY p l e R s m args below meth c D I A nL k2 n2 Q w pc lv st) : zY p l e R s m args below meth c D I A nL cells slots Q w pc lv st := by
  intro H locs ls hP hD hS h
  exact W.widen h1 h2 (k H locs ls hP hD hS h)
theorem z_sub (w2 : va_W) (gis : List Nat) (hn : va_nd gis = true) (hp : gis.filterMap (fun i => w[i]?) = w2) (hs : gis.map (fun i => w[i]?) = w2.map some) (k : zY p l e R s m args below meth c D I A nL cells slots Q w2 pc lv st) : zY p l e R s m args below meth c D I A nL cells slots Q w pc lv st := by
  intro H locs ls hP hD hS h
  exact k H locs ls (hP.sub gis hp) (hD.sub gis hn hs) hS h
theorem z_newI (X : zS p s m args meth c cc nL Ts own D I A) {x : Int32} {n : Nat} (harr : Cond.arrayClass .int ∈ Ts) (d : decode cc pc = .ok (.newarray .int, 2)) (hx : x = nI n) (hn : n < 2 ^ 27) (hc : cells + 1 ≤ R.cells) (hs : slots + n ≤ R.slots) (k : ∀ a : Nat, zY p l e R s m args below meth c D I A nL (cells + 1) (slots + n) Q (w ++ [(a, .inl (I 1, n, .inl (fun _ => 0)))]) (pc + 2) lv (.ref a :: st)) : zY p l e R s m args below meth c D I A nL cells slots Q w pc lv (.int x :: st) := by
  intro H locs ls hP hD hS h
  subst hx
  refine va_newa (atype := .int) (ty := .int) (a0 := (n, .inl (fun _ => 0))) X.1.1 X.1.2.1 (X.1.2.2.2.2 _ harr) rfl X.2.2.1.1 hP hD hS X.2.2.2 (fun cA => rfl) (nI_pos (by omega)) (nI_clamp (by omega)) (by show n * 4 ≤ 536870912; omega) hc hs d (fun a cA H1 hK1 hP1 hD1 hS1 => ?_)
  have g1 : s.vm.findClass ("[" ++ (FieldType.int).toString) = some cA := (hK1.2 4 (cA, .int) rfl).2
  have g2 : s.vm.findClass ("[" ++ (FieldType.int).toString) = some (I 1) := (X.2.2.1.1.2 1 (I 1, .int) rfl).2
  have g3 : cA = I 1 := Option.some.inj (g1.symm.trans g2)
  subst g3
  exact k a H1 locs ls hP1 hD1 hS1 h
theorem z_newC (X : zS p s m args meth c cc nL Ts own D I A) {x : Int32} {n : Nat} (harr : Cond.arrayClass .char ∈ Ts) (d : decode cc pc = .ok (.newarray .char, 2)) (hx : x = nI n) (hn : n < 2 ^ 27) (hc : cells + 1 ≤ R.cells) (hs : slots + n ≤ R.slots) (k : ∀ a : Nat, zY p l e R s m args below meth c D I A nL (cells + 1) (slots + n) Q (w ++ [(a, .inl (I 0, n, .inl (fun _ => 0)))]) (pc + 2) lv (.ref a :: st)) : zY p l e R s m args below meth c D I A nL cells slots Q w pc lv (.int x :: st) := by
  intro H locs ls hP hD hS h
  subst hx
  refine va_newa (atype := .char) (ty := .char) (a0 := (n, .inl (fun _ => 0))) X.1.1 X.1.2.1 (X.1.2.2.2.2 _ harr) rfl X.2.2.1.1 hP hD hS X.2.2.2 (fun cA => rfl) (nI_pos (by omega)) (nI_clamp (by omega)) (by show n * 2 ≤ 536870912; omega) hc hs d (fun a cA H1 hK1 hP1 hD1 hS1 => ?_)
  have g1 : s.vm.findClass ("[" ++ (FieldType.char).toString) = some cA := (hK1.2 4 (cA, .char) rfl).2
  have g2 : s.vm.findClass ("[" ++ (FieldType.char).toString) = some (I 0) := (X.2.2.1.1.2 0 (I 0, .char) rfl).2
  have g3 : cA = I 0 := Option.some.inj (g1.symm.trans g2)
  subst g3
  exact k a H1 locs ls hP1 hD1 hS1 h
theorem z_newq (X : zS p s m args meth c cc nL Ts own D I A) (t0 : Nat) {Cn : String} {x : Int32} {n index : Nat} (ht : (zty I)[t0]? = some (I t0, .object Cn)) (hao : va_AO Cn s) (hcl : Cond.classLink own index Cn ∈ Ts) (d : decode cc pc = .ok (.anewarray index, 3)) (hx : x = nI n) (hn : n < 2 ^ 27) (hc : cells + 1 ≤ R.cells) (hs : slots + n ≤ R.slots) (k : ∀ a : Nat, zY p l e R s m args below meth c D I A nL (cells + 1) (slots + n) Q (w ++ [(a, .inl (I t0, n, .inr (.inr (.inr (.inr (fun _ => none))))))]) (pc + 3) lv (.ref a :: st)) : zY p l e R s m args below meth c D I A nL cells slots Q w pc lv (.int x :: st) := by
  intro H locs ls hP hD hS h
  subst hx
  refine va_newq X.1.1 X.1.2.1 X.1.2.2.2.1 (X.1.2.2.2.2 _ hcl) hao X.2.2.1.1 hP hD hS X.2.2.2 (nI_pos (by omega)) (nI_clamp (by omega)) (by omega) hc hs d (fun a cA H1 hK1 hP1 hD1 hS1 => ?_)
  have g1 : va_RA s cA (.object Cn) := (hK1.2 4 (cA, .object Cn) rfl).2
  have g2 : va_RA s (I t0) (.object Cn) := (X.2.2.1.1.2 t0 _ ht).2
  obtain ⟨u1, u2, u3, u4, u5, u6⟩ := g1
  obtain ⟨v1, v2, v3, v4, v5, v6⟩ := g2
  have g3 : cA = I t0 := Option.some.inj (u6.symm.trans v6)
  subst g3
  exact k a H1 locs ls hP1 hD1 hS1 h
theorem z_new (X : zS p s m args meth c cc nL Ts own D I A) (ci : Nat) {Cn : String} {T : u_T} {N index : Nat} (fs : List Value) (ty0 : Nat → FieldType) (d : decode cc pc = .ok (.new index, 3)) (hci : vwCl[ci]? = some (Cn, T, N)) (hin : ∀ w ∈ u_ws Cn T N, w ∈ Ts) (hty : ∀ k, k < N → parseFieldDescriptor (T k).2.2.1 = some (ty0 k)) (hcl : Cond.classLink own index Cn ∈ Ts) (hinst : Cond.instantiable Cn N ∈ Ts) (hini : Cond.initialized Cn ∈ Ts) (hfs : ∀ j, j < N → defaultValue (ty0 j) = vp_V fs j) (hc : cells + 1 ≤ R.cells) (hs : slots + N ≤ R.slots) (k : ∀ a : Nat, zY p l e R s m args below meth c D I A nL (cells + 1) (slots + N) Q (w ++ [(a, .inr (ci, fs))]) (pc + 3) lv (.ref a :: st)) : zY p l e R s m args below meth c D I A nL cells slots Q w pc lv st := by
  intro H locs ls hP hD hS h
  exact va_new X.1.1 X.1.2.1 X.1.2.2.2.2 hin ty0 hty X.1.2.2.2.1 (X.1.2.2.2.2 _ hcl) (X.1.2.2.2.2 _ hinst) (X.1.2.2.2.2 _ hini) X.2.2.1.1 hP hD hS X.2.2.2 hci hfs hc hs d (fun a H1 hP1 hD1 hS1 => k a H1 locs ls hP1 hD1 hS1 h)
theorem z_objInit (X : zS p s m args meth c cc nL Ts own D I A) {idx a : Nat} (hlk : Cond.methodLink own idx Lib.objectInit ∈ Ts) (hins : Cond.instanceMethod Lib.objectInit ∈ Ts) (hcode : Cond.code Lib.objectInit ⟨#[0xb1]⟩ 1 none ∈ Ts) (d : decode cc pc = .ok (.invokespecial idx, 3)) (hfr : 1 ≤ R.frames) (hlo : (st.map fun v => v.category).sum + 12 ≤ R.locals) (k : zY p l e R s m args below meth c D I A nL cells slots Q w (pc + 3) lv st) : zY p l e R s m args below meth c D I A nL cells slots Q w pc lv (.ref a :: st) := by
  intro H locs ls hP hD hS h
  refine W.objInit X.1.1 X.1.2.1 X.1.2.2.2.1 (X.1.2.2.2.2 _ hlk) (X.1.2.2.2.2 _ hins) (X.1.2.2.2.2 _ hcode) rfl (by rw [X.1.2.2.1]; exact h.1) rfl d hfr (by show 2 * 0 + _ + 12 ≤ _; omega) ?_
  exact W.eq (g2 := F0 m (pc + 3) ls st) rfl (k H locs ls hP hD hS h)
theorem z_get (X : zS p s m args meth c cc nL Ts own D I A) (i ci k : Nat) {a : Nat} {fs : List Value} {ref Cn : String} {T : u_T} {N index : Nat} {v : Value} (d : decode cc pc = .ok (.getfield index, 3)) (hC : w[i]? = some (a, .inr (ci, fs))) (hc : vwCl[ci]? = some (Cn, T, N)) (hk : k < N) (hin : ∀ w ∈ u_ws Cn T N, w ∈ Ts) (hlink : Cond.fieldLink own index ref (T k).2.1 (T k).2.2.1 ∈ Ts) (href : (T k).1 = ref) (hv : fs[k]? = some v) (kk : zY p l e R s m args below meth c D I A nL cells slots Q w (pc + 3) lv (v :: st)) : zY p l e R s m args below meth c D I A nL cells slots Q w pc lv (.ref a :: st) := by
  intro H locs ls hP hD hS h
  subst href; exact va_get X.1.1 X.1.2.1 X.1.2.2.2.2 hin X.1.2.2.2.1 X.2.2.1.1 hP i hC hc k hk (X.1.2.2.2.2 _ hlink) (fun _ h9 => h9) hv d (kk H locs ls hP hD hS h)
theorem z_put (X : zS p s m args meth c cc nL Ts own D I A) (i ci k : Nat) {a : Nat} {fs : List Value} {ref Cn : String} {T : u_T} {N index : Nat} (ty0 : Nat → FieldType) {v : Value} (d : decode cc pc = .ok (.putfield index, 3)) (hC : w[i]? = some (a, .inr (ci, fs))) (hc : vwCl[ci]? = some (Cn, T, N)) (hk : k < N) (hin : ∀ w ∈ u_ws Cn T N, w ∈ Ts) (hlink : Cond.fieldLink own index ref (T k).2.1 (T k).2.2.1 ∈ Ts) (href : (T k).1 = ref) (hty : ∀ k, k < N → parseFieldDescriptor (T k).2.2.1 = some (ty0 k)) (hnm : ∀ a, a < N → ∀ b, b < N → a ≠ b → (T a).2.1 ≠ (T b).2.1) (hfin : (T k).2.2.2 = false) (hn : narrow (ty0 k) v = v) (hfit : fits (ty0 k) v = true) (hl : k < fs.length) (kk : zY p l e R s m args below meth c D I A nL cells slots Q (w.set i (a, .inr (ci, fs.set k v))) (pc + 3) lv st) : zY p l e R s m args below meth c D I A nL cells slots Q w pc lv (v :: .ref a :: st) := by
  intro H locs ls hP hD hS h
  subst href; exact va_put X.1.1 X.1.2.1 X.1.2.2.2.2 hin ty0 hty hnm X.1.2.2.2.1 X.2.2.1.1 hP hD hS i hC hc k hk (X.1.2.2.2.2 _ hlink) (fun _ h9 => h9) hfin (hty k hk) hn hfit hl d (fun H1 locs1 hP1 hD1 hS1 => kk H1 locs1 ls hP1 hD1 hS1 h)
theorem z_putF (X : zS p s m args meth c cc nL Ts own D I A) (hin2 : meth.name = "<init>") (i ci k : Nat) {a : Nat} {fs : List Value} {Cn : String} {T : u_T} {N index : Nat} (ty0 : Nat → FieldType) {v : Value} (d : decode cc pc = .ok (.putfield index, 3)) (hC : w[i]? = some (a, .inr (ci, fs))) (hc : vwCl[ci]? = some (Cn, T, N)) (hk : k < N) (hin : ∀ w ∈ u_ws Cn T N, w ∈ Ts) (hlink : Cond.fieldLink own index own (T k).2.1 (T k).2.2.1 ∈ Ts) (href : (T k).1 = own) (hty : ∀ k, k < N → parseFieldDescriptor (T k).2.2.1 = some (ty0 k)) (hnm : ∀ a, a < N → ∀ b, b < N → a ≠ b → (T a).2.1 ≠ (T b).2.1) (hfin : (T k).2.2.2 = true) (hn : narrow (ty0 k) v = v) (hfit : fits (ty0 k) v = true) (hl : k < fs.length) (kk : zY p l e R s m args below meth c D I A nL cells slots Q (w.set i (a, .inr (ci, fs.set k v))) (pc + 3) lv st) : zY p l e R s m args below meth c D I A nL cells slots Q w pc lv (v :: .ref a :: st) := by
  intro H locs ls hP hD hS h
  exact va_putF X.1.1 X.1.2.1 X.1.2.2.2.2 hin ty0 hty hnm X.1.2.2.2.1 X.2.2.1.1 hP hD hS i hC hc k hk (X.1.2.2.2.2 _ hlink) (fun _ h9 => by rw [href] at h9; exact h9) hfin hin2 href (hty k hk) hn hfit hl d (fun H1 locs1 hP1 hD1 hS1 => kk H1 locs1 ls hP1 hD1 hS1 h)
theorem z_iast (X : zS p s m args meth c cc nL Ts own D I A) (i : Nat) {a n j : Nat} {f : Nat → Int32} {x v : Int32} (d : decode cc pc = .ok (.iastore, 1)) (hC : w[i]? = some (a, .inl (I 1, n, .inl f))) (hx : x = nI j) (hj : j < n) (hn : n < 2 ^ 31) (k : zY p l e R s m args below meth c D I A nL cells slots Q (w.set i (a, .inl (I 1, n, .inl (upd f j v)))) (pc + 1) lv st) : zY p l e R s m args below meth c D I A nL cells slots Q w pc lv (.int v :: .int x :: .ref a :: st) := by
  intro H locs ls hP hD hS h
  subst hx; exact va_iast X.1.1 X.1.2.1 X.2.2.1.1 hP hD hS i 1 hC rfl (vp_in_nI hj hn) d (fun H1 locs1 hP1 hD1 hS1 => by rw [nI_clamp (Nat.lt_trans hj hn)] at hP1 hD1; exact k H1 locs1 ls hP1 hD1 hS1 h)
theorem z_alen (X : zS p s m args meth c cc nL Ts own D I A) (i t0 : Nat) {a n : Nat} {v : Int32} {ty : FieldType} {x} (d : decode cc pc = .ok (.arraylength, 1)) (ht : (zty I)[t0]? = some (I t0, ty)) (hC : w[i]? = some (a, .inl (I t0, n, x))) (hv : nI n = v) (k : zY p l e R s m args below meth c D I A nL cells slots Q w (pc + 1) lv (.int v :: st)) : zY p l e R s m args below meth c D I A nL cells slots Q w pc lv (.ref a :: st) := by
  intro H locs ls hP hD hS h
  exact va_alen X.1.1 X.1.2.1 X.2.2.1.1 hP i t0 (x := (n, x)) hC ht hv d (k H locs ls hP hD hS h)
theorem z_aast (X : zS p s m args meth c cc nL Ts own D I A) (q0 t0 qk ci : Nat) {a n j v : Nat} {q : vw_C} {vs : List Value} {f : Nat → Option Nat} {x : Int32} (d : decode cc pc = .ok (.aastore, 1)) (hC : w[q0]? = some (a, .inl (I t0, n, .inr (.inr (.inr (.inr f)))))) (ht : (zty I)[t0]? = some (I t0, .object q.1)) (hv : w[qk]? = some (v, .inr (ci, vs))) (hc : vwCl[ci]? = some q) (hx : x = nI j) (hj : j < n) (hn : n < 2 ^ 31) (k : zY p l e R s m args below meth c D I A nL cells slots Q (w.set q0 (a, .inl (I t0, n, .inr (.inr (.inr (.inr (va_up f j (some v)))))))) (pc + 1) lv st) : zY p l e R s m args below meth c D I A nL cells slots Q w pc lv (.ref v :: .int x :: .ref a :: st) := by
  intro H locs ls hP hD hS h
  subst hx; exact va_astq X.1.1 X.1.2.1 X.2.2.1.1 hP hD hS q0 t0 qk ci hC ht hv hc (vp_in_nI hj hn) d (fun H1 locs1 hP1 hD1 hS1 => by rw [nI_clamp (Nat.lt_trans hj hn)] at hP1 hD1; exact k H1 locs1 ls hP1 hD1 hS1 h)
theorem z_free (X : zS p s m args meth c cc nL Ts own D I A) {wc : va_W} {H : Heap} {locs : List Loc} (hS : va_S A s.heap H locs) (hA : ∀ q : Nat, (∃ (k : Nat) (e : va_E), wc[k]? = some (q, e)) → A q) : ∀ q : Nat, va_A wc H.size q → A q := by
  intro q h
  rcases h with h | h
  · exact hA q h
  · exact X.2.2.2 q (Nat.le_trans hS.1 h)
theorem z_callI (X : zS p s m args meth c cc nL Ts own D I A) {post : va_W → Prop} {y : MethodName} {bytes : ByteArray} {maxL fr lo mc ms index : Nat} {ws ws2 : List Cond} {a : Nat} (wr wc : va_W) (hM : zM D I l y ws fr lo mc ms [.ref a] wc post) (g : GoodIn Ts ws) (hw : ws = Cond.code y bytes maxL none :: ws2) (hy1 : y.name = "<init>") (hini : Cond.initialized y.cls ∈ Ts) (hlk : Cond.methodLink own index y ∈ Ts) (hins : Cond.instanceMethod y ∈ Ts) (hd : y.cls ≠ "java/lang/invoke/MethodHandle" ∧ y.cls ≠ "java/lang/invoke/VarHandle" ∧ (parseMethodDescriptor y.desc).map (fun d => d.parameters.length) = some 0) (hR : fr + 1 ≤ R.frames ∧ 8 + (maxL + 11) + lo ≤ R.locals) (hW : (st.map fun v => v.category).sum ≤ 8) (d : decode cc pc = .ok (.invokespecial index, 3)) (hf : cells + mc ≤ R.cells ∧ slots + ms ≤ R.slots) (hwc : w = wr ++ wc) (k : ∀ w1 : va_W, post w1 → zY p l e R s m args below meth c D I A nL (cells + mc) (slots + ms) Q (wr ++ w1) (pc + 3) lv st) : zY p l e R s m args below meth c D I A nL cells slots Q w pc lv (.ref a :: st) := by
  subst hwc
  intro H locs ls hP hD hS h
  obtain ⟨hPc, hDc, hAc⟩ := z_cut hP hD
  have hFc := z_free X hS hAc
  refine va_callv (va_runI (As := []) (rest := st) X.1 (hM H.size) (cwI 0 X.1.2.2.2.2 g hw rfl rfl (X.1.2.2.2.2 _ hini) (X.1.2.2.2.2 _ hlk) (X.1.2.2.2.2 _ hins) hy1 hd hR) ⟨zP_blind, fun U hU hW2 => ⟨rfl, by rw [hU], by rw [hU]; exact hPc, X.2.2.1.moved hW2.alike, hDc⟩⟩ rfl rfl h.1 rfl (lv_room hW) d hf) hS (fun q _ h => hFc q h) hFc (fun u t H1 locs1 ht hvm hpo hB hz1 hk1 hS1 => ?_)
  obtain ⟨hP1, hK1, hD1⟩ := hB
  rw [ht] at hP1
  obtain ⟨hP2, hD2⟩ := z_join hP hD hk1 hFc hP1 hD1
  exact k u hpo H1 locs1 ls hP2 hD2 hS1 h
theorem z_callS (X : zS p s m args meth c cc nL Ts own D I A) {post : va_W → Prop} {y : MethodName} {bytes : ByteArray} {maxL fr lo mc ms index : Nat} {ws ws2 : List Cond} {av : List Value} {stk : List Value} (st : List Value) (n : Nat) (wr wc : va_W) (hM : zM D I l y ws fr lo mc ms av wc post) (g : GoodIn Ts (va_wsS own index y ws)) (hw : ws = Cond.code y bytes maxL none :: ws2) (hd : y.cls ≠ "java/lang/invoke/MethodHandle" ∧ y.cls ≠ "java/lang/invoke/VarHandle" ∧ (parseMethodDescriptor y.desc).map (fun d => d.parameters.length) = some n) (hn : av.length = n) (hR : fr + 1 ≤ R.frames ∧ 8 + (maxL + 11) + lo ≤ R.locals) (hW : (st.map fun v => v.category).sum ≤ 8) (hs : stk = av.reverse ++ st) (d : decode cc pc = .ok (.invokestatic index, 3)) (hf : cells + mc ≤ R.cells ∧ slots + ms ≤ R.slots) (hwc : w = wr ++ wc) (k : ∀ w1 : va_W, post w1 → zY p l e R s m args below meth c D I A nL (cells + mc) (slots + ms) Q (wr ++ w1) (pc + 3) lv st) : zY p l e R s m args below meth c D I A nL cells slots Q w pc lv stk := by
  subst hwc
  subst hs
  intro H locs ls hP hD hS h
  obtain ⟨hPc, hDc, hAc⟩ := z_cut hP hD
  have hFc := z_free X hS hAc
  refine va_callv (va_runS (As := av) (rest := st) X.1 (hM H.size) (va_cwS n X.1.2.2.2.2 g hw rfl rfl hd hR) ⟨zP_blind, fun U hU hW2 => ⟨rfl, by rw [hU], by rw [hU]; exact hPc, X.2.2.1.moved hW2.alike, hDc⟩⟩ rfl hn h.1 rfl (lv_room hW) d hf) hS (fun q _ h => hFc q h) hFc (fun u t H1 locs1 ht hvm hpo hB hz1 hk1 hS1 => ?_)
  obtain ⟨hP1, hK1, hD1⟩ := hB
  rw [ht] at hP1
  obtain ⟨hP2, hD2⟩ := z_join hP hD hk1 hFc hP1 hD1
  exact k u hpo H1 locs1 ls hP2 hD2 hS1 h
theorem z_vret (X : zS p s m args meth c cc nL Ts own D I A) (hr : meth.sig.returnType = none) {post : va_W → Prop} (d : decode cc pc = .ok (.return_, 1)) (hp : post w) : zY p l e R s m args below meth c D I A nL cells slots (MQ below (va_Qv post (zE D I A) A) args s cells slots A) w pc lv [] := by
  intro H locs ls hP hD hS h
  exact W.vret X.1.1 X.1.2.1 hr (fun t ht hW => ⟨⟨w, rfl, hp, by rw [ht]; exact hP, X.2.2.1.moved hW.alike, hD⟩, hS.F ht⟩) hS.2.2 d X.2.1
end ZR
