def bI (P : Prop) [Decidable P] : Int32 := if P then 1 else 0
theorem bI_1 {P : Prop} [Decidable P] (h : P) : bI P = 1 := if_pos h
theorem bI_0 {P : Prop} [Decidable P] (h : ¬ P) : bI P = 0 := if_neg h
theorem bI_eq {P : Prop} [Decidable P] : bI P = 0 ↔ ¬ P := by
  by_cases h : P
  · rw [bI_1 h]; exact ⟨fun z => absurd z (by decide), fun z => absurd h z⟩
  · rw [bI_0 h]; exact ⟨fun _ => h, fun _ => rfl⟩
theorem bI_ne {P : Prop} [Decidable P] : ¬ bI P = 0 ↔ P := by
  by_cases h : P
  · rw [bI_1 h]; exact ⟨fun _ => h, fun _ => by decide⟩
  · rw [bI_0 h]; exact ⟨fun z => absurd rfl z, fun z => absurd z h⟩
theorem bI_nar {P : Prop} [Decidable P] : narrow .boolean (.int (bI P)) = .int (bI P) := by
  by_cases h : P
  · rw [bI_1 h]; rfl
  · rw [bI_0 h]; rfl
theorem bI_congr {P Q : Prop} [Decidable P] [Decidable Q] (h : P ↔ Q) : bI P = bI Q := by
  by_cases hq : Q
  · rw [bI_1 hq, bI_1 (h.mpr hq)]
  · rw [bI_0 hq, bI_0 (fun z => hq (h.mp z))]
theorem cLt {x y : Int32} {a b : Int} (hx : x.toInt = a) (hy : y.toInt = b) : x < y ↔ a < b := by rw [Int32.lt_iff_toInt_lt, hx, hy]
theorem cLe {x y : Int32} {a b : Int} (hx : x.toInt = a) (hy : y.toInt = b) : x ≤ y ↔ a ≤ b := by rw [Int32.le_iff_toInt_le, hx, hy]
theorem cEq {x y : Int32} {a b : Int} (hx : x.toInt = a) (hy : y.toInt = b) : x = y ↔ a = b := by rw [← hx, ← hy, Int32.toInt_inj]
theorem cNe {x y : Int32} {P : Prop} (h : x = y ↔ P) : (¬ x = y) ↔ ¬ P := not_congr h
/-- a number that is an index below n -/
abbrev xin (x : Int32) (n : Nat) : Prop := 0 ≤ x.toInt ∧ x.toInt < (n : Int)
theorem xin_of {x : Int32} {n : Nat} (h : xin x n) (hn : n < 2 ^ 31) : ∃ j : Nat, j < n ∧ x = nI j := vp_in_of (vp_in_iff.mpr h) hn
theorem xin_nI {j n : Nat} (h : j < n) (hn : n < 2 ^ 31) : xin (nI j) n := vp_in_iff.mp (vp_in_nI h hn)
abbrev xC : Type := Nat → va_E
/-- the classes, the cells' addresses, the array classes; the script: its address, its length, its numbers -/
abbrev xE : Type := va_G × (Nat → Nat) × (Nat → ClassId) × (Nat × Nat × (Nat → Int32))
abbrev xsb (E : xE) : Nat := E.2.2.2.1
abbrev xsl (E : xE) : Nat := E.2.2.2.2.1
abbrev xsx (E : xE) : Nat → Int32 := E.2.2.2.2.2
def xty (E : xE) : List (ClassId × FieldType) := [(E.2.2.1 0, .char), (E.2.2.1 1, .int), (E.2.2.1 2, .object "ColumnSeasons$Command"), (E.2.2.1 3, .object "ColumnSeasons$Table")]
def xnest : List Cond := [.fieldLinkNest "ColumnSeasons" 118 "ColumnSeasons$Table" "rows" "I" "ColumnSeasons", .fieldLinkNest "ColumnSeasons" 114 "ColumnSeasons$History" "length" "I" "ColumnSeasons", .fieldLinkNest "ColumnSeasons" 83 "ColumnSeasons$Script" "length" "I" "ColumnSeasons", .methodLinkNest "ColumnSeasons$Table" 43 ⟨"ColumnSeasons", "isName", "(I)Z"⟩ "ColumnSeasons", .methodLinkNest "ColumnSeasons$Table" 47 ⟨"ColumnSeasons", "isKind", "(I)Z"⟩ "ColumnSeasons", .methodLinkNest "ColumnSeasons$Table" 50 ⟨"ColumnSeasons", "isOfKind", "(II)Z"⟩ "ColumnSeasons", .methodLinkNest "ColumnSeasons$Table" 69 ⟨"ColumnSeasons", "castTo", "(II)I"⟩ "ColumnSeasons", .methodLinkNest "ColumnSeasons$Table" 105 ⟨"ColumnSeasons", "castLoses", "(III)Z"⟩ "ColumnSeasons", .methodLinkNest "ColumnSeasons$Table" 115 ⟨"ColumnSeasons", "hasName", "(II)Z"⟩ "ColumnSeasons"]
theorem xnest_form : ∀ w ∈ xnest, (∃ a i x h, w = Cond.methodLinkNest a i x h) ∨ (∃ a i b n d h, w = Cond.fieldLinkNest a i b n d h) :=
  List.forall_mem_cons.mpr ⟨Or.inr ⟨_, _, _, _, _, _, rfl⟩, List.forall_mem_cons.mpr ⟨Or.inr ⟨_, _, _, _, _, _, rfl⟩, List.forall_mem_cons.mpr ⟨Or.inr ⟨_, _, _, _, _, _, rfl⟩, List.forall_mem_cons.mpr ⟨Or.inl ⟨_, _, _, _, rfl⟩, List.forall_mem_cons.mpr ⟨Or.inl ⟨_, _, _, _, rfl⟩, List.forall_mem_cons.mpr ⟨Or.inl ⟨_, _, _, _, rfl⟩, List.forall_mem_cons.mpr ⟨Or.inl ⟨_, _, _, _, rfl⟩, List.forall_mem_cons.mpr ⟨Or.inl ⟨_, _, _, _, rfl⟩, List.forall_mem_cons.mpr ⟨Or.inl ⟨_, _, _, _, rfl⟩, fun _ h => absurd h List.not_mem_nil⟩⟩⟩⟩⟩⟩⟩⟩⟩
def xZ (E : xE) (A : Nat → Prop) (U : State) (H : Heap) : Prop := (∀ w ∈ xnest, va_Nw w U) ∧ va_X (xsb E) (xsl E) (xsx E) U H ∧ ¬ A (xsb E)
theorem va_X_lt {b L : Nat} {xs : Nat → Int32} {U : State} {H : Heap} (h : va_X b L xs U H) : b < H.size := by
  obtain ⟨scr, h1, hr⟩ := h
  exact (Array.getElem?_eq_some_iff.mp h1).1
theorem xZ_moved {E : xE} {A B : Nat → Prop} {s U : State} {H : Heap} (h : xZ E A s s.heap) (hq : ∀ a : Nat, a < s.heap.size → ¬ A a → H[a]? = s.heap[a]?) (hBA : ∀ q, B q → A q) (hU : U.heap = H) (hW : s.WarmedH U.vm) : xZ E B U U.heap := by
  obtain ⟨h1, h2, h3⟩ := h
  rw [hU]
  refine ⟨fun w hw => ?_, (h2.kept (hq _ (va_X_lt h2) h3)).moved hW.alike, fun z => h3 (hBA _ z)⟩
  rcases xnest_form w hw with ⟨a, i, x, hh, rfl⟩ | ⟨a, i, b, n, d, hh, rfl⟩
  · exact va_Nw.warmM hW (h1 _ hw)
  · exact va_Nw.warmF hW (h1 _ hw)
theorem xZ_calling {E : xE} {A : Nat → Prop} {U : State} {g : JFrame} {mk : MethodId} {a : Array Value} (h : xZ E A U U.heap) : xZ E A (U.calling g mk a) (U.calling g mk a).heap := by
  obtain ⟨h1, h2, h3⟩ := h
  refine ⟨fun w hw => ?_, va_X.moved (u := U) (U := U.calling g mk a) (Vm.Alike.refl U.vm) h2, h3⟩
  rcases xnest_form w hw with ⟨a, i, x, hh, rfl⟩ | ⟨a, i, b, n, d, hh, rfl⟩
  · exact va_Nw.same rfl rfl (h1 _ hw)
  · exact va_Nw.same rfl rfl (h1 _ hw)
def xw (E : xE) (C : xC) : va_W := (List.range 61).map (fun i => (E.2.1 i, C i))
def xA (E : xE) : Nat → Prop := fun q => ∃ i : Nat, i < 61 ∧ q = E.2.1 i
def xW (E : xE) (C : xC) (U : State) : Prop := va_P E.1 vwCl (xw E C) U.heap ∧ va_K E.1 vwCl (xty E) U ∧ va_D (fun _ => True) (xw E C) ∧ xZ E (xA E) U U.heap
theorem xw_get {E : xE} {C : xC} {i : Nat} (h : i < 61) : (xw E C)[i]? = some (E.2.1 i, C i) := by
  unfold xw
  rw [List.getElem?_map, List.getElem?_range h]
  rfl
theorem xw_len {E : xE} {C : xC} : (xw E C).length = 61 := by
  unfold xw
  rw [List.length_map, List.length_range]
theorem xw_set {E : xE} {C : xC} {i : Nat} (e : va_E) : (xw E C).set i (E.2.1 i, e) = xw E (va_up C i e) := by
  apply List.ext_getElem?
  intro j
  by_cases hij : j = i
  · subst hij
    by_cases hj : j < 61
    · rw [List.getElem?_set_self (by rw [xw_len]; exact hj), xw_get hj, va_up, if_pos rfl]
    · rw [List.getElem?_eq_none (by rw [List.length_set, xw_len]; omega), List.getElem?_eq_none (by rw [xw_len]; omega)]
  · rw [List.getElem?_set_ne (Ne.symm hij)]
    by_cases hj : j < 61
    · rw [xw_get hj, xw_get hj, va_up, if_neg hij]
    · rw [List.getElem?_eq_none (by rw [xw_len]; omega), List.getElem?_eq_none (by rw [xw_len]; omega)]
theorem xw_in {E : xE} {C : xC} {k : Nat} {q : Nat × va_E} (h : (xw E C)[k]? = some q) : k < 61 ∧ q = (E.2.1 k, C k) := by
  have hk : k < 61 := by
    have := (List.getElem?_eq_some_iff.mp h).1
    rw [xw_len] at this
    exact this
  exact ⟨hk, (Option.some.inj ((xw_get hk).symm.trans h)).symm⟩
theorem xw_D {E : xE} {C C' : xC} {A B : Nat → Prop} (h : va_D A (xw E C)) (hB : ∀ i : Nat, i < 61 → B (E.2.1 i)) : va_D B (xw E C') := by
  refine ⟨fun i j p q hi hj hpq => ?_, fun k q hk => ?_⟩
  · obtain ⟨hi1, rfl⟩ := xw_in hi
    obtain ⟨hj1, rfl⟩ := xw_in hj
    exact h.1 i j _ _ (xw_get hi1) (xw_get hj1) hpq
  · obtain ⟨hk1, rfl⟩ := xw_in hk
    exact hB k hk1
def xQ (E : xE) (post : Option Value → xC → Prop) : Array Value → State → Outcome → State → Prop := fun _ st oc t => (∃ (v : Option Value) (C' : xC), oc = .returned v ∧ post v C' ∧ xW E C' t) ∧ va_F (xA E) st t
/-- a contract: over the whole pool of cells -/
def xM (E : xE) (l : Launch) (y : MethodName) (ws : List Cond) (fr lo : Nat) (av : List Value) (C : xC) (post : Option Value → xC → Prop) : Prop :=
  Met l y ws { frames := fr, cells := 0, slots := 0, locals := lo } (va_Pc av (xW E C)) (xQ E post) 0 0 (xA E)
/-- a contract of a method that reads alone -/
abbrev xR (E : xE) (l : Launch) (y : MethodName) (ws : List Cond) (fr lo : Nat) (av : List Value) (C : xC) (r : Int32) : Prop := xM E l y ws fr lo av C (fun v C' => v = some (.int r) ∧ C' = C)
def xS (p : Program) (s : State) (m : MethodId) (args : Array Value) (meth : Method) (c : Code) (cc : ByteArray) (nL : Nat) (Ts : List Cond) (own : String) (E : xE) (A : Nat → Prop) : Prop :=
  CallFix p m c cc nL s args Ts own ∧ meth.locks = false ∧ va_K E.1 vwCl (xty E) s ∧ xZ E A s s.heap
def xY (p : Program) (l : Launch) (e : Env) (R : Room) (s : State) (m : MethodId) (args : Array Value) (below : List Frame) (meth : Method) (c : Code) (E : xE) (A : Nat → Prop) (nL cells slots : Nat) (Q : State → Prop) (C : xC) (pc : Nat) (lv : List (Nat × Value)) (st : List Value) : Prop :=
  ∀ (H : Heap) (locs : List Loc) (ls : Array Slot), va_P E.1 vwCl (xw E C) H → va_D A (xw E C) → va_S A s.heap H locs → lv_has ls nL lv → W p l e R s m args below meth c H locs cells slots Q (F0 m pc ls st)
theorem xM.weaken {E : xE} {l : Launch} {y : MethodName} {ws : List Cond} {fr lo : Nat} {av : List Value} {C : xC} {post post' : Option Value → xC → Prop} (h : xM E l y ws fr lo av C post) (hp : ∀ v C', post v C' → post' v C') : xM E l y ws fr lo av C post' := by
  intro p e ha hc hk s m args below hf hpre happ hh
  obtain ⟨k, o, h1, h2, h3, h4, h5⟩ := h p e ha hc hk s m args below hf hpre happ hh
  obtain ⟨⟨v, C', g1, g2, g3⟩, g4⟩ := h4
  exact ⟨k, o, h1, h2, h3, ⟨⟨v, C', g1, hp v C' g2, g3⟩, g4⟩, h5⟩
theorem xM_ofY {E : xE} {l : Launch} {y : MethodName} {ws ws' : List Cond} {fr lo : Nat} {av : List Value} {C : xC} {post : Option Value → xC → Prop} {cc : ByteArray} {maxL : Nat} {ret : Option FieldType} (hy : plainName y.cls = true) (hw : ws = Cond.code y cc maxL ret :: ws') (hn : (lg_sl av).length ≤ maxL)
    (body : ∀ (p : Program) (e : Env) (s : State) (m : MethodId) (args : Array Value) (below : List Frame) (meth : Method) (c : Code), xS p s m args meth c cc maxL ws y.cls E (xA E) → meth.sig.returnType = ret → xY p l e { frames := fr, cells := 0, slots := 0, locals := lo } s m args below meth c E (xA E) maxL 0 0 (MQ below (xQ E post) args s 0 0 (xA E)) C 0 (lv_args 0 av) []) : xM E l y ws fr lo av C post := by
  refine Met.ofW (cc := cc) (maxL := maxL) (ret := ret) hy hw ?_
  intro p e s m args below meth c s₁ B hml hv
  obtain ⟨rfl, hP, hK, hD, hZ⟩ := hv
  have hts := atoms_spec (ws := ws) B.pre
  have hown : s.vm.findClass y.cls = some m.cls := findClass_of_methodNamed B.named
  rw [lg_entry_eq]
  have hl := lv_entry av (n := maxL) hn
  exact body p e s m av.toArray below meth c ⟨⟨B.exec, B.bytes, hml, hown, hts⟩, B.notSynchronized, hK, hZ⟩ B.returns s.heap [] _ hP (xw_D hD (fun i hi => ⟨i, hi, rfl⟩)) va_S.rf hl
section XR
variable {p : Program} {l : Launch} {e : Env} {R : Room} {s : State} {m : MethodId} {args : Array Value} {below : List Frame} {meth : Method} {c : Code} {cc : ByteArray} {nL : Nat} {Ts : List Cond} {own : String} {E : xE} {A : Nat → Prop} {cells slots : Nat} {Q : State → Prop} {C : xC} {pc : Nat} {lv : List (Nat × Value)} {st : List Value}
theorem y_iconst (X : xS p s m args meth c cc nL Ts own E A) {n : Int} {v : Int32} (d : decode cc pc = .ok (.iconst n, 1)) (hv : Int32.ofInt n = v) (k : xY p l e R s m args below meth c E A nL cells slots Q (C) (pc + 1) (lv) (.int v :: st)) : xY p l e R s m args below meth c E A nL cells slots Q (C) (pc) (lv) (st) := by
  intro H locs ls hP hD hS h
  exact lv_iconst X.1.1 X.1.2.1 d hv (k H locs ls hP hD hS h)
theorem y_bipush (X : xS p s m args meth c cc nL Ts own E A) {n : Int} {v : Int32} (d : decode cc pc = .ok (.bipush n, 2)) (hv : (Int8.ofInt n).toInt32 = v) (k : xY p l e R s m args below meth c E A nL cells slots Q (C) (pc + 2) (lv) (.int v :: st)) : xY p l e R s m args below meth c E A nL cells slots Q (C) (pc) (lv) (st) := by
  intro H locs ls hP hD hS h
  exact lv_bipush X.1.1 X.1.2.1 d hv (k H locs ls hP hD hS h)
theorem y_sipush (X : xS p s m args meth c cc nL Ts own E A) {n : Int} {v : Int32} (d : decode cc pc = .ok (.sipush n, 3)) (hv : (Int16.ofInt n).toInt32 = v) (k : xY p l e R s m args below meth c E A nL cells slots Q (C) (pc + 3) (lv) (.int v :: st)) : xY p l e R s m args below meth c E A nL cells slots Q (C) (pc) (lv) (st) := by
  intro H locs ls hP hD hS h
  exact lv_sipush X.1.1 X.1.2.1 d hv (k H locs ls hP hD hS h)
theorem y_iload_n (X : xS p s m args meth c cc nL Ts own E A) {f : Fin 4} {x : Int32} (d : decode cc pc = .ok (.iload_n f, 1)) (j : Nat) (hl : lv[j]? = some ((f : Nat), .int x)) (k : xY p l e R s m args below meth c E A nL cells slots Q (C) (pc + 1) (lv) (.int x :: st)) : xY p l e R s m args below meth c E A nL cells slots Q (C) (pc) (lv) (st) := by
  intro H locs ls hP hD hS h
  exact lv_iload_n X.1.1 X.1.2.1 d rfl (lv_at h j hl) (k H locs ls hP hD hS h)
theorem y_iload (X : xS p s m args meth c cc nL Ts own E A) {i : Nat} {x : Int32} (d : decode cc pc = .ok (.iload i, 2)) (j : Nat) (hl : lv[j]? = some (i, .int x)) (k : xY p l e R s m args below meth c E A nL cells slots Q (C) (pc + 2) (lv) (.int x :: st)) : xY p l e R s m args below meth c E A nL cells slots Q (C) (pc) (lv) (st) := by
  intro H locs ls hP hD hS h
  exact lv_iload X.1.1 X.1.2.1 d (lv_at h j hl) (k H locs ls hP hD hS h)
theorem y_aload_n (X : xS p s m args meth c cc nL Ts own E A) {f : Fin 4} {x : Nat} (d : decode cc pc = .ok (.aload_n f, 1)) (j : Nat) (hl : lv[j]? = some ((f : Nat), .ref x)) (k : xY p l e R s m args below meth c E A nL cells slots Q (C) (pc + 1) (lv) (.ref x :: st)) : xY p l e R s m args below meth c E A nL cells slots Q (C) (pc) (lv) (st) := by
  intro H locs ls hP hD hS h
  exact lv_aload_n X.1.1 X.1.2.1 d rfl (lv_at h j hl) (k H locs ls hP hD hS h)
theorem y_istore_n (X : xS p s m args meth c cc nL Ts own E A) (lv2 : List (Nat × Value)) {f : Fin 4} {i : Nat} {x : Int32} (d : decode cc pc = .ok (.istore_n f, 1)) (hi : (f : Nat) = i) (hn : i < nL) (hl : (i, Value.int x) :: lv.filter (fun q => !(q.1 == i) && !(q.1 + 1 == i && q.2.category == 2)) = lv2) (k : xY p l e R s m args below meth c E A nL cells slots Q (C) (pc + 1) (lv2) (st)) : xY p l e R s m args below meth c E A nL cells slots Q (C) (pc) (lv) (.int x :: st) := by
  intro H locs ls hP hD hS h
  exact lv_istore_n X.1.1 X.1.2.1 d hi h hn hl (fun ls2 h2 => k H locs ls2 hP hD hS h2)
theorem y_istore (X : xS p s m args meth c cc nL Ts own E A) (lv2 : List (Nat × Value)) {i : Nat} {x : Int32} (d : decode cc pc = .ok (.istore i, 2)) (hn : i < nL) (hl : (i, Value.int x) :: lv.filter (fun q => !(q.1 == i) && !(q.1 + 1 == i && q.2.category == 2)) = lv2) (k : xY p l e R s m args below meth c E A nL cells slots Q (C) (pc + 2) (lv2) (st)) : xY p l e R s m args below meth c E A nL cells slots Q (C) (pc) (lv) (.int x :: st) := by
  intro H locs ls hP hD hS h
  exact lv_istore X.1.1 X.1.2.1 d h hn hl (fun ls2 h2 => k H locs ls2 hP hD hS h2)
theorem y_astore_n (X : xS p s m args meth c cc nL Ts own E A) (lv2 : List (Nat × Value)) {f : Fin 4} {i : Nat} {x : Nat} (d : decode cc pc = .ok (.astore_n f, 1)) (hi : (f : Nat) = i) (hn : i < nL) (hl : (i, Value.ref x) :: lv.filter (fun q => !(q.1 == i) && !(q.1 + 1 == i && q.2.category == 2)) = lv2) (k : xY p l e R s m args below meth c E A nL cells slots Q (C) (pc + 1) (lv2) (st)) : xY p l e R s m args below meth c E A nL cells slots Q (C) (pc) (lv) (.ref x :: st) := by
  intro H locs ls hP hD hS h
  exact lv_astore_n X.1.1 X.1.2.1 d hi h hn hl (fun ls2 h2 => k H locs ls2 hP hD hS h2)
theorem y_iinc (X : xS p s m args meth c cc nL Ts own E A) (lv2 : List (Nat × Value)) {i : Nat} {n : Int} {y x : Int32} (d : decode cc pc = .ok (.iinc i n, 3)) (j : Nat) (hk : lv[j]? = some (i, .int y)) (hv : y + Int32.ofInt n = x) (hn : i < nL) (hl : (i, Value.int x) :: lv.filter (fun q => !(q.1 == i) && !(q.1 + 1 == i && q.2.category == 2)) = lv2) (k : xY p l e R s m args below meth c E A nL cells slots Q (C) (pc + 3) (lv2) (st)) : xY p l e R s m args below meth c E A nL cells slots Q (C) (pc) (lv) (st) := by
  intro H locs ls hP hD hS h
  exact lv_iinc X.1.1 X.1.2.1 d h hk hv hn hl (fun ls2 h2 => k H locs ls2 hP hD hS h2)
theorem y_lv (lv2 : List (Nat × Value)) (hl : lv = lv2) (k : xY p l e R s m args below meth c E A nL cells slots Q (C) (pc) (lv2) (st)) : xY p l e R s m args below meth c E A nL cells slots Q (C) (pc) (lv) (st) := by
  subst hl
  exact k
theorem y_pick (ks : List Nat) (lv2 : List (Nat × Value)) (hl : lv_pick lv ks = lv2) (k : xY p l e R s m args below meth c E A nL cells slots Q (C) (pc) (lv2) (st)) : xY p l e R s m args below meth c E A nL cells slots Q (C) (pc) (lv) (st) := by
  intro H locs ls hP hD hS h
  exact k H locs ls hP hD hS (lv_sub h ks hl)
theorem y_mem (C2 : xC) (hC : C = C2) (k : ∀ C1 : xC, C1 = C2 → xY p l e R s m args below meth c E A nL cells slots Q (C1) (pc) (lv) (st)) : xY p l e R s m args below meth c E A nL cells slots Q (C) (pc) (lv) (st) := k C hC
theorem y_topi {x : Int32} (k : ∀ y : Int32, y = x → xY p l e R s m args below meth c E A nL cells slots Q (C) (pc) (lv) (.int y :: st)) : xY p l e R s m args below meth c E A nL cells slots Q (C) (pc) (lv) (.int x :: st) := k x rfl
theorem y_iadd (X : xS p s m args meth c cc nL Ts own E A) {x y z : Int32} (d : decode cc pc = .ok (.iadd, 1)) (hv : x + y = z) (k : xY p l e R s m args below meth c E A nL cells slots Q (C) (pc + 1) (lv) (.int z :: st)) : xY p l e R s m args below meth c E A nL cells slots Q (C) (pc) (lv) (.int y :: .int x :: st) := by
  intro H locs ls hP hD hS h
  subst hv; exact lv_iadd X.1.1 X.1.2.1 d (k H locs ls hP hD hS h)
theorem y_isub (X : xS p s m args meth c cc nL Ts own E A) {x y z : Int32} (d : decode cc pc = .ok (.isub, 1)) (hv : x - y = z) (k : xY p l e R s m args below meth c E A nL cells slots Q (C) (pc + 1) (lv) (.int z :: st)) : xY p l e R s m args below meth c E A nL cells slots Q (C) (pc) (lv) (.int y :: .int x :: st) := by
  intro H locs ls hP hD hS h
  subst hv; exact lv_isub X.1.1 X.1.2.1 d (k H locs ls hP hD hS h)
theorem y_imul (X : xS p s m args meth c cc nL Ts own E A) {x y z : Int32} (d : decode cc pc = .ok (.imul, 1)) (hv : x * y = z) (k : xY p l e R s m args below meth c E A nL cells slots Q (C) (pc + 1) (lv) (.int z :: st)) : xY p l e R s m args below meth c E A nL cells slots Q (C) (pc) (lv) (.int y :: .int x :: st) := by
  intro H locs ls hP hD hS h
  subst hv; exact lv_imul X.1.1 X.1.2.1 d (k H locs ls hP hD hS h)
theorem y_iand (X : xS p s m args meth c cc nL Ts own E A) {x y z : Int32} (d : decode cc pc = .ok (.iand, 1)) (hv : x &&& y = z) (k : xY p l e R s m args below meth c E A nL cells slots Q (C) (pc + 1) (lv) (.int z :: st)) : xY p l e R s m args below meth c E A nL cells slots Q (C) (pc) (lv) (.int y :: .int x :: st) := by
  intro H locs ls hP hD hS h
  subst hv; exact lv_iand X.1.1 X.1.2.1 d (k H locs ls hP hD hS h)
theorem y_ior (X : xS p s m args meth c cc nL Ts own E A) {x y z : Int32} (d : decode cc pc = .ok (.ior, 1)) (hv : x ||| y = z) (k : xY p l e R s m args below meth c E A nL cells slots Q (C) (pc + 1) (lv) (.int z :: st)) : xY p l e R s m args below meth c E A nL cells slots Q (C) (pc) (lv) (.int y :: .int x :: st) := by
  intro H locs ls hP hD hS h
  subst hv; exact lv_ior X.1.1 X.1.2.1 d (k H locs ls hP hD hS h)
theorem y_ishl (X : xS p s m args meth c cc nL Ts own E A) {x y z : Int32} (d : decode cc pc = .ok (.ishl, 1)) (hv : x <<< (y &&& 31) = z) (k : xY p l e R s m args below meth c E A nL cells slots Q (C) (pc + 1) (lv) (.int z :: st)) : xY p l e R s m args below meth c E A nL cells slots Q (C) (pc) (lv) (.int y :: .int x :: st) := by
  intro H locs ls hP hD hS h
  subst hv; exact lv_ishl X.1.1 X.1.2.1 d (k H locs ls hP hD hS h)
theorem y_ishr (X : xS p s m args meth c cc nL Ts own E A) {x y z : Int32} (d : decode cc pc = .ok (.ishr, 1)) (hv : x >>> (y &&& 31) = z) (k : xY p l e R s m args below meth c E A nL cells slots Q (C) (pc + 1) (lv) (.int z :: st)) : xY p l e R s m args below meth c E A nL cells slots Q (C) (pc) (lv) (.int y :: .int x :: st) := by
  intro H locs ls hP hD hS h
  subst hv; exact lv_ishr X.1.1 X.1.2.1 d (k H locs ls hP hD hS h)
theorem y_iushr (X : xS p s m args meth c cc nL Ts own E A) {x y z : Int32} (d : decode cc pc = .ok (.iushr, 1)) (hv : (x.toUInt32 >>> (y.toUInt32 &&& Int32.toUInt32 31)).toInt32 = z) (k : xY p l e R s m args below meth c E A nL cells slots Q (C) (pc + 1) (lv) (.int z :: st)) : xY p l e R s m args below meth c E A nL cells slots Q (C) (pc) (lv) (.int y :: .int x :: st) := by
  intro H locs ls hP hD hS h
  exact lv_iushr X.1.1 X.1.2.1 d hv (k H locs ls hP hD hS h)
theorem y_ldcw (X : xS p s m args meth c cc nL Ts own E A) {index : Nat} {v : Int32} (d : decode cc pc = .ok (.ldc_w index, 3)) (hc : Cond.constant own index v ∈ Ts) (k : xY p l e R s m args below meth c E A nL cells slots Q (C) (pc + 3) (lv) (.int v :: st)) : xY p l e R s m args below meth c E A nL cells slots Q (C) (pc) (lv) (st) := by
  intro H locs ls hP hD hS h
  exact lv_ldcw X.1.1 X.1.2.1 X.1.2.2.2.1 (X.1.2.2.2.2 _ hc) d (k H locs ls hP hD hS h)
theorem y_ldc (X : xS p s m args meth c cc nL Ts own E A) {index : Nat} {v : Int32} (d : decode cc pc = .ok (.ldc index, 2)) (hc : Cond.constant own index v ∈ Ts) (k : xY p l e R s m args below meth c E A nL cells slots Q (C) (pc + 2) (lv) (.int v :: st)) : xY p l e R s m args below meth c E A nL cells slots Q (C) (pc) (lv) (st) := by
  intro H locs ls hP hD hS h
  exact lv_ldc X.1.1 X.1.2.1 X.1.2.2.2.1 (X.1.2.2.2.2 _ hc) d (k H locs ls hP hD hS h)
theorem y_idiv (X : xS p s m args meth c cc nL Ts own E A) {x y z : Int32} (d : decode cc pc = .ok (.idiv, 1)) (hne : ¬ y = 0) (hv : x / y = z) (k : xY p l e R s m args below meth c E A nL cells slots Q (C) (pc + 1) (lv) (.int z :: st)) : xY p l e R s m args below meth c E A nL cells slots Q (C) (pc) (lv) (.int y :: .int x :: st) := by
  intro H locs ls hP hD hS h
  subst hv; exact lv_idiv X.1.1 X.1.2.1 d hne (k H locs ls hP hD hS h)
theorem y_sld (X : xS p s m args meth c cc nL Ts own E A) {j : Nat} {x z : Int32} (d : decode cc pc = .ok (.iaload, 1)) (hx : x = nI j) (hj : j < xsl E) (hL : xsl E < 2 ^ 31) (hz : xsx E j = z) (k : xY p l e R s m args below meth c E A nL cells slots Q (C) (pc + 1) (lv) (.int z :: st)) : xY p l e R s m args below meth c E A nL cells slots Q (C) (pc) (lv) (.int x :: .ref (xsb E) :: st) := by
  intro H locs ls hP hD hS h
  subst hx; subst hz; exact va_sld X.1.1 X.1.2.1 X.2.2.2.2.1 (va_X_lt X.2.2.2.2.1) X.2.2.2.2.2 hS (vp_in_nI hj hL) d (by rw [nI_clamp (Nat.lt_trans hj hL)]; exact k H locs ls hP hD hS h)
theorem y_slen (X : xS p s m args meth c cc nL Ts own E A) (d : decode cc pc = .ok (.arraylength, 1)) (k : xY p l e R s m args below meth c E A nL cells slots Q (C) (pc + 1) (lv) (.int (nI (xsl E)) :: st)) : xY p l e R s m args below meth c E A nL cells slots Q (C) (pc) (lv) (.ref (xsb E) :: st) := by
  intro H locs ls hP hD hS h
  exact va_slen X.1.1 X.1.2.1 X.2.2.2.2.1 (va_X_lt X.2.2.2.2.1) X.2.2.2.2.2 hS d (k H locs ls hP hD hS h)
theorem y_st (X : xS p s m args meth c cc nL Ts own E A) (st2 : List Value) (hs : st = st2) (k : xY p l e R s m args below meth c E A nL cells slots Q (C) (pc) (lv) (st2)) : xY p l e R s m args below meth c E A nL cells slots Q (C) (pc) (lv) (st) := by
  intro H locs ls hP hD hS h
  subst hs; exact k H locs ls hP hD hS h
theorem y_irem (X : xS p s m args meth c cc nL Ts own E A) {x y z : Int32} (d : decode cc pc = .ok (.irem, 1)) (hne : ¬ y = 0) (hv : x - x / y * y = z) (k : xY p l e R s m args below meth c E A nL cells slots Q (C) (pc + 1) (lv) (.int z :: st)) : xY p l e R s m args below meth c E A nL cells slots Q (C) (pc) (lv) (.int y :: .int x :: st) := by
  intro H locs ls hP hD hS h
  subst hv; exact lv_irem X.1.1 X.1.2.1 d hne (k H locs ls hP hD hS h)
theorem y_ineg (X : xS p s m args meth c cc nL Ts own E A) {x z : Int32} (d : decode cc pc = .ok (.ineg, 1)) (hv : -x = z) (k : xY p l e R s m args below meth c E A nL cells slots Q (C) (pc + 1) (lv) (.int z :: st)) : xY p l e R s m args below meth c E A nL cells slots Q (C) (pc) (lv) (.int x :: st) := by
  intro H locs ls hP hD hS h
  subst hv; exact lv_ineg X.1.1 X.1.2.1 d (k H locs ls hP hD hS h)
theorem y_i2c (X : xS p s m args meth c cc nL Ts own E A) {x z : Int32} (d : decode cc pc = .ok (.i2c, 1)) (hv : (x.toUInt32 % 65536).toInt32 = z) (k : xY p l e R s m args below meth c E A nL cells slots Q (C) (pc + 1) (lv) (.int z :: st)) : xY p l e R s m args below meth c E A nL cells slots Q (C) (pc) (lv) (.int x :: st) := by
  intro H locs ls hP hD hS h
  exact lv_i2c X.1.1 X.1.2.1 d hv (k H locs ls hP hD hS h)
theorem y_dup (X : xS p s m args meth c cc nL Ts own E A) {v : Value} (d : decode cc pc = .ok (.dup, 1)) (hv : v.category = 1) (k : xY p l e R s m args below meth c E A nL cells slots Q (C) (pc + 1) (lv) (v :: v :: st)) : xY p l e R s m args below meth c E A nL cells slots Q (C) (pc) (lv) (v :: st) := by
  intro H locs ls hP hD hS h
  exact lv_dup X.1.1 X.1.2.1 d hv (k H locs ls hP hD hS h)
theorem y_dup2 (X : xS p s m args meth c cc nL Ts own E A) {v u : Value} (d : decode cc pc = .ok (.dup2, 1)) (hv : v.category = 1) (hu : u.category = 1) (k : xY p l e R s m args below meth c E A nL cells slots Q (C) (pc + 1) (lv) (v :: u :: v :: u :: st)) : xY p l e R s m args below meth c E A nL cells slots Q (C) (pc) (lv) (v :: u :: st) := by
  intro H locs ls hP hD hS h
  exact lv_dup2_11 X.1.1 X.1.2.1 d hv hu (k H locs ls hP hD hS h)
theorem y_goto (X : xS p s m args meth c cc nL Ts own E A) (tgt : Nat) {off : Int} (d : decode cc pc = .ok (.goto off, 3)) (ht : (pc : Int) + off = (tgt : Int)) (k : xY p l e R s m args below meth c E A nL cells slots Q (C) (tgt) (lv) (st)) : xY p l e R s m args below meth c E A nL cells slots Q (C) (pc) (lv) (st) := by
  intro H locs ls hP hD hS h
  exact lv_goto X.1.1 X.1.2.1 d ht (k H locs ls hP hD hS h)
theorem y_icmp_eq (X : xS p s m args meth c cc nL Ts own E A) (tgt : Nat) {x y : Int32} {off : Int} (P : Prop) (d : decode cc pc = .ok (.if_icmp .eq off, 3)) (ht : (pc : Int) + off = (tgt : Int)) (he : (x = y) ↔ P) (kt : P → xY p l e R s m args below meth c E A nL cells slots Q (C) (tgt) (lv) (st)) (kf : ¬ P → xY p l e R s m args below meth c E A nL cells slots Q (C) (pc + 3) (lv) (st)) : xY p l e R s m args below meth c E A nL cells slots Q (C) (pc) (lv) (.int y :: .int x :: st) := by
  intro H locs ls hP hD hS h
  exact lv_icmp_eq X.1.1 X.1.2.1 d ht (fun c => kt (he.mp c) H locs ls hP hD hS h) (fun c => kf (fun z => c (he.mpr z)) H locs ls hP hD hS h)
theorem y_icmp_ne (X : xS p s m args meth c cc nL Ts own E A) (tgt : Nat) {x y : Int32} {off : Int} (P : Prop) (d : decode cc pc = .ok (.if_icmp .ne off, 3)) (ht : (pc : Int) + off = (tgt : Int)) (he : (¬ x = y) ↔ P) (kt : P → xY p l e R s m args below meth c E A nL cells slots Q (C) (tgt) (lv) (st)) (kf : ¬ P → xY p l e R s m args below meth c E A nL cells slots Q (C) (pc + 3) (lv) (st)) : xY p l e R s m args below meth c E A nL cells slots Q (C) (pc) (lv) (.int y :: .int x :: st) := by
  intro H locs ls hP hD hS h
  exact lv_icmp_ne X.1.1 X.1.2.1 d ht (fun c => kt (he.mp c) H locs ls hP hD hS h) (fun c => kf (fun z => he.mpr z c) H locs ls hP hD hS h)
theorem y_icmp_lt (X : xS p s m args meth c cc nL Ts own E A) (tgt : Nat) {x y : Int32} {off : Int} (P : Prop) (d : decode cc pc = .ok (.if_icmp .lt off, 3)) (ht : (pc : Int) + off = (tgt : Int)) (he : (x < y) ↔ P) (kt : P → xY p l e R s m args below meth c E A nL cells slots Q (C) (tgt) (lv) (st)) (kf : ¬ P → xY p l e R s m args below meth c E A nL cells slots Q (C) (pc + 3) (lv) (st)) : xY p l e R s m args below meth c E A nL cells slots Q (C) (pc) (lv) (.int y :: .int x :: st) := by
  intro H locs ls hP hD hS h
  exact lv_icmp_lt X.1.1 X.1.2.1 d ht (fun c => kt (he.mp c) H locs ls hP hD hS h) (fun c => kf (fun z => c (he.mpr z)) H locs ls hP hD hS h)
theorem y_icmp_ge (X : xS p s m args meth c cc nL Ts own E A) (tgt : Nat) {x y : Int32} {off : Int} (P : Prop) (d : decode cc pc = .ok (.if_icmp .ge off, 3)) (ht : (pc : Int) + off = (tgt : Int)) (he : (y ≤ x) ↔ P) (kt : P → xY p l e R s m args below meth c E A nL cells slots Q (C) (tgt) (lv) (st)) (kf : ¬ P → xY p l e R s m args below meth c E A nL cells slots Q (C) (pc + 3) (lv) (st)) : xY p l e R s m args below meth c E A nL cells slots Q (C) (pc) (lv) (.int y :: .int x :: st) := by
  intro H locs ls hP hD hS h
  exact lv_icmp_ge X.1.1 X.1.2.1 d ht (fun c => kt (he.mp c) H locs ls hP hD hS h) (fun c => kf (fun z => c (he.mpr z)) H locs ls hP hD hS h)
theorem y_icmp_gt (X : xS p s m args meth c cc nL Ts own E A) (tgt : Nat) {x y : Int32} {off : Int} (P : Prop) (d : decode cc pc = .ok (.if_icmp .gt off, 3)) (ht : (pc : Int) + off = (tgt : Int)) (he : (y < x) ↔ P) (kt : P → xY p l e R s m args below meth c E A nL cells slots Q (C) (tgt) (lv) (st)) (kf : ¬ P → xY p l e R s m args below meth c E A nL cells slots Q (C) (pc + 3) (lv) (st)) : xY p l e R s m args below meth c E A nL cells slots Q (C) (pc) (lv) (.int y :: .int x :: st) := by
  intro H locs ls hP hD hS h
  exact lv_icmp_gt X.1.1 X.1.2.1 d ht (fun c => kt (he.mp c) H locs ls hP hD hS h) (fun c => kf (fun z => c (he.mpr z)) H locs ls hP hD hS h)
theorem y_icmp_le (X : xS p s m args meth c cc nL Ts own E A) (tgt : Nat) {x y : Int32} {off : Int} (P : Prop) (d : decode cc pc = .ok (.if_icmp .le off, 3)) (ht : (pc : Int) + off = (tgt : Int)) (he : (x ≤ y) ↔ P) (kt : P → xY p l e R s m args below meth c E A nL cells slots Q (C) (tgt) (lv) (st)) (kf : ¬ P → xY p l e R s m args below meth c E A nL cells slots Q (C) (pc + 3) (lv) (st)) : xY p l e R s m args below meth c E A nL cells slots Q (C) (pc) (lv) (.int y :: .int x :: st) := by
  intro H locs ls hP hD hS h
  exact lv_icmp_le X.1.1 X.1.2.1 d ht (fun c => kt (he.mp c) H locs ls hP hD hS h) (fun c => kf (fun z => c (he.mpr z)) H locs ls hP hD hS h)
theorem y_if_eq (X : xS p s m args meth c cc nL Ts own E A) (tgt : Nat) {x : Int32} {off : Int} (P : Prop) (d : decode cc pc = .ok (.ifCond .eq off, 3)) (ht : (pc : Int) + off = (tgt : Int)) (he : (x = 0) ↔ P) (kt : P → xY p l e R s m args below meth c E A nL cells slots Q (C) (tgt) (lv) (st)) (kf : ¬ P → xY p l e R s m args below meth c E A nL cells slots Q (C) (pc + 3) (lv) (st)) : xY p l e R s m args below meth c E A nL cells slots Q (C) (pc) (lv) (.int x :: st) := by
  intro H locs ls hP hD hS h
  exact lv_if_eq X.1.1 X.1.2.1 d ht (fun c => kt (he.mp c) H locs ls hP hD hS h) (fun c => kf (fun z => c (he.mpr z)) H locs ls hP hD hS h)
theorem y_if_ne (X : xS p s m args meth c cc nL Ts own E A) (tgt : Nat) {x : Int32} {off : Int} (P : Prop) (d : decode cc pc = .ok (.ifCond .ne off, 3)) (ht : (pc : Int) + off = (tgt : Int)) (he : (¬ x = 0) ↔ P) (kt : P → xY p l e R s m args below meth c E A nL cells slots Q (C) (tgt) (lv) (st)) (kf : ¬ P → xY p l e R s m args below meth c E A nL cells slots Q (C) (pc + 3) (lv) (st)) : xY p l e R s m args below meth c E A nL cells slots Q (C) (pc) (lv) (.int x :: st) := by
  intro H locs ls hP hD hS h
  exact lv_if_ne X.1.1 X.1.2.1 d ht (fun c => kt (he.mp c) H locs ls hP hD hS h) (fun c => kf (fun z => he.mpr z c) H locs ls hP hD hS h)
theorem y_if_lt (X : xS p s m args meth c cc nL Ts own E A) (tgt : Nat) {x : Int32} {off : Int} (P : Prop) (d : decode cc pc = .ok (.ifCond .lt off, 3)) (ht : (pc : Int) + off = (tgt : Int)) (he : (x < 0) ↔ P) (kt : P → xY p l e R s m args below meth c E A nL cells slots Q (C) (tgt) (lv) (st)) (kf : ¬ P → xY p l e R s m args below meth c E A nL cells slots Q (C) (pc + 3) (lv) (st)) : xY p l e R s m args below meth c E A nL cells slots Q (C) (pc) (lv) (.int x :: st) := by
  intro H locs ls hP hD hS h
  exact lv_if_lt X.1.1 X.1.2.1 d ht (fun c => kt (he.mp c) H locs ls hP hD hS h) (fun c => kf (fun z => c (he.mpr z)) H locs ls hP hD hS h)
theorem y_if_ge (X : xS p s m args meth c cc nL Ts own E A) (tgt : Nat) {x : Int32} {off : Int} (P : Prop) (d : decode cc pc = .ok (.ifCond .ge off, 3)) (ht : (pc : Int) + off = (tgt : Int)) (he : (0 ≤ x) ↔ P) (kt : P → xY p l e R s m args below meth c E A nL cells slots Q (C) (tgt) (lv) (st)) (kf : ¬ P → xY p l e R s m args below meth c E A nL cells slots Q (C) (pc + 3) (lv) (st)) : xY p l e R s m args below meth c E A nL cells slots Q (C) (pc) (lv) (.int x :: st) := by
  intro H locs ls hP hD hS h
  exact lv_if_ge X.1.1 X.1.2.1 d ht (fun c => kt (he.mp c) H locs ls hP hD hS h) (fun c => kf (fun z => c (he.mpr z)) H locs ls hP hD hS h)
theorem y_if_gt (X : xS p s m args meth c cc nL Ts own E A) (tgt : Nat) {x : Int32} {off : Int} (P : Prop) (d : decode cc pc = .ok (.ifCond .gt off, 3)) (ht : (pc : Int) + off = (tgt : Int)) (he : (0 < x) ↔ P) (kt : P → xY p l e R s m args below meth c E A nL cells slots Q (C) (tgt) (lv) (st)) (kf : ¬ P → xY p l e R s m args below meth c E A nL cells slots Q (C) (pc + 3) (lv) (st)) : xY p l e R s m args below meth c E A nL cells slots Q (C) (pc) (lv) (.int x :: st) := by
  intro H locs ls hP hD hS h
  exact lv_if_gt X.1.1 X.1.2.1 d ht (fun c => kt (he.mp c) H locs ls hP hD hS h) (fun c => kf (fun z => c (he.mpr z)) H locs ls hP hD hS h)
theorem y_if_le (X : xS p s m args meth c cc nL Ts own E A) (tgt : Nat) {x : Int32} {off : Int} (P : Prop) (d : decode cc pc = .ok (.ifCond .le off, 3)) (ht : (pc : Int) + off = (tgt : Int)) (he : (x ≤ 0) ↔ P) (kt : P → xY p l e R s m args below meth c E A nL cells slots Q (C) (tgt) (lv) (st)) (kf : ¬ P → xY p l e R s m args below meth c E A nL cells slots Q (C) (pc + 3) (lv) (st)) : xY p l e R s m args below meth c E A nL cells slots Q (C) (pc) (lv) (.int x :: st) := by
  intro H locs ls hP hD hS h
  exact lv_if_le X.1.1 X.1.2.1 d ht (fun c => kt (he.mp c) H locs ls hP hD hS h) (fun c => kf (fun z => c (he.mpr z)) H locs ls hP hD hS h)
theorem y_tableOut (X : xS p s m args meth c cc nL Ts own E A) (tgt : Nat) {dflt lo hi : Int} {offs : Array Int} {len : Nat} {x : Int32} (d : decode cc pc = .ok (.tableswitch dflt lo hi offs, len)) (h0 : x.toInt < lo ∨ hi < x.toInt) (ht : (pc : Int) + dflt = (tgt : Int)) (k : xY p l e R s m args below meth c E A nL cells slots Q (C) (tgt) (lv) (st)) : xY p l e R s m args below meth c E A nL cells slots Q (C) (pc) (lv) (.int x :: st) := by
  intro H locs ls hP hD hS h
  exact lv_tableOut X.1.1 X.1.2.1 d h0 ht (k H locs ls hP hD hS h)
theorem y_tableIn (X : xS p s m args meth c cc nL Ts own E A) (tgt : Nat) {dflt lo hi off : Int} {offs : Array Int} {len : Nat} {x : Int32} (d : decode cc pc = .ok (.tableswitch dflt lo hi offs, len)) (h1 : ¬ x.toInt < lo) (h2 : ¬ hi < x.toInt) (ho : offs[(x.toInt - lo).toNat]? = some off) (ht : (pc : Int) + off = (tgt : Int)) (k : xY p l e R s m args below meth c E A nL cells slots Q (C) (tgt) (lv) (st)) : xY p l e R s m args below meth c E A nL cells slots Q (C) (pc) (lv) (.int x :: st) := by
  intro H locs ls hP hD hS h
  exact lv_tableIn X.1.1 X.1.2.1 d h1 h2 ho ht (k H locs ls hP hD hS h)
theorem y_lookup (X : xS p s m args meth c cc nL Ts own E A) (tgt : Nat) {dflt off : Int} {ps : Array (Int × Int)} {len : Nat} {x : Int32} (d : decode cc pc = .ok (.lookupswitch dflt ps, len)) (hp : (ps.toList.zip (ps.toList.drop 1)).all (fun (a, next) => a.1 < next.1) = true) (ho : Op.lookupswitch.offset ps.toList dflt x.toInt = off) (ht : (pc : Int) + off = (tgt : Int)) (k : xY p l e R s m args below meth c E A nL cells slots Q (C) (tgt) (lv) (st)) : xY p l e R s m args below meth c E A nL cells slots Q (C) (pc) (lv) (.int x :: st) := by
  intro H locs ls hP hD hS h
  exact lv_lookup X.1.1 X.1.2.1 d hp ho ht (k H locs ls hP hD hS h)
theorem y_iald (X : xS p s m args meth c cc nL Ts own E A) (i : Nat) {n j : Nat} {f : Nat → Int32} {x z : Int32} (d : decode cc pc = .ok (.iaload, 1)) (hi : i < 61) (hC : C i = .inl (E.2.2.1 1, n, .inl f)) (hx : x = nI j) (hj : j < n) (hn : n < 2 ^ 31) (hz : f j = z) (k : xY p l e R s m args below meth c E A nL cells slots Q (C) (pc + 1) (lv) (.int z :: st)) : xY p l e R s m args below meth c E A nL cells slots Q (C) (pc) (lv) (.int x :: .ref (E.2.1 i) :: st) := by
  intro H locs ls hP hD hS h
  subst hx; subst hz; exact va_iald X.1.1 X.1.2.1 X.2.2.1 hP i 1 (by rw [xw_get hi, hC]) rfl (vp_in_nI hj hn) d (by rw [nI_clamp (Nat.lt_trans hj hn)]; exact k H locs ls hP hD hS h)
theorem y_cald (X : xS p s m args meth c cc nL Ts own E A) (i : Nat) {n j : Nat} {f : Nat → Int32} {x z : Int32} (d : decode cc pc = .ok (.caload, 1)) (hi : i < 61) (hC : C i = .inl (E.2.2.1 0, n, .inl f)) (hx : x = nI j) (hj : j < n) (hn : n < 2 ^ 31) (hz : f j = z) (k : xY p l e R s m args below meth c E A nL cells slots Q (C) (pc + 1) (lv) (.int z :: st)) : xY p l e R s m args below meth c E A nL cells slots Q (C) (pc) (lv) (.int x :: .ref (E.2.1 i) :: st) := by
  intro H locs ls hP hD hS h
  subst hx; subst hz; exact va_cald X.1.1 X.1.2.1 X.2.2.1 hP i 0 (by rw [xw_get hi, hC]) rfl (vp_in_nI hj hn) d (by rw [nI_clamp (Nat.lt_trans hj hn)]; exact k H locs ls hP hD hS h)
theorem y_iast (X : xS p s m args meth c cc nL Ts own E A) (i : Nat) {n j : Nat} {f : Nat → Int32} {x v : Int32} (d : decode cc pc = .ok (.iastore, 1)) (hi : i < 61) (hC : C i = .inl (E.2.2.1 1, n, .inl f)) (hx : x = nI j) (hj : j < n) (hn : n < 2 ^ 31) (k : xY p l e R s m args below meth c E A nL cells slots Q (va_up C i (.inl (E.2.2.1 1, n, .inl (upd f j v)))) (pc + 1) (lv) (st)) : xY p l e R s m args below meth c E A nL cells slots Q (C) (pc) (lv) (.int v :: .int x :: .ref (E.2.1 i) :: st) := by
  intro H locs ls hP hD hS h
  subst hx; exact va_iast X.1.1 X.1.2.1 X.2.2.1 hP hD hS i 1 (by rw [xw_get hi, hC]) rfl (vp_in_nI hj hn) d (fun H1 locs1 hP1 hD1 hS1 => by rw [nI_clamp (Nat.lt_trans hj hn), xw_set] at hP1 hD1; exact k H1 locs1 ls hP1 hD1 hS1 h)
theorem y_cast (X : xS p s m args meth c cc nL Ts own E A) (i : Nat) {n j : Nat} {f : Nat → Int32} {x v : Int32} (d : decode cc pc = .ok (.castore, 1)) (hi : i < 61) (hC : C i = .inl (E.2.2.1 0, n, .inl f)) (hx : x = nI j) (hj : j < n) (hn : n < 2 ^ 31) (k : xY p l e R s m args below meth c E A nL cells slots Q (va_up C i (.inl (E.2.2.1 0, n, .inl (upd f j (vp_nar .char v))))) (pc + 1) (lv) (st)) : xY p l e R s m args below meth c E A nL cells slots Q (C) (pc) (lv) (.int v :: .int x :: .ref (E.2.1 i) :: st) := by
  intro H locs ls hP hD hS h
  subst hx; exact va_cast X.1.1 X.1.2.1 X.2.2.1 hP hD hS i 0 (by rw [xw_get hi, hC]) rfl (vp_in_nI hj hn) d (fun H1 locs1 hP1 hD1 hS1 => by rw [nI_clamp (Nat.lt_trans hj hn), xw_set] at hP1 hD1; exact k H1 locs1 ls hP1 hD1 hS1 h)
theorem y_aald (X : xS p s m args meth c cc nL Ts own E A) (i t0 : Nat) {n j a : Nat} {C0 : String} {f : Nat → Option Nat} {x : Int32} (d : decode cc pc = .ok (.aaload, 1)) (hi : i < 61) (ht : (xty E)[t0]? = some (E.2.2.1 t0, .object C0)) (hC : C i = .inl (E.2.2.1 t0, n, .inr (.inr (.inr (.inr f))))) (hx : x = nI j) (hj : j < n) (hn : n < 2 ^ 31) (hz : f j = some a) (k : xY p l e R s m args below meth c E A nL cells slots Q (C) (pc + 1) (lv) (.ref a :: st)) : xY p l e R s m args below meth c E A nL cells slots Q (C) (pc) (lv) (.int x :: .ref (E.2.1 i) :: st) := by
  intro H locs ls hP hD hS h
  subst hx; exact va_aldq X.1.1 X.1.2.1 X.2.2.1 hP i t0 (by rw [xw_get hi, hC]) ht (vp_in_nI hj hn) d (by rw [nI_clamp (Nat.lt_trans hj hn), hz]; exact k H locs ls hP hD hS h)
theorem y_alen (X : xS p s m args meth c cc nL Ts own E A) (i t0 : Nat) {n : Nat} {v : Int32} {ty : FieldType} {x} (d : decode cc pc = .ok (.arraylength, 1)) (hi : i < 61) (ht : (xty E)[t0]? = some (E.2.2.1 t0, ty)) (hC : C i = .inl (E.2.2.1 t0, n, x)) (hv : nI n = v) (k : xY p l e R s m args below meth c E A nL cells slots Q (C) (pc + 1) (lv) (.int v :: st)) : xY p l e R s m args below meth c E A nL cells slots Q (C) (pc) (lv) (.ref (E.2.1 i) :: st) := by
  intro H locs ls hP hD hS h
  exact va_alen X.1.1 X.1.2.1 X.2.2.1 hP i t0 (x := (n, x)) (by rw [xw_get hi, hC]) ht hv d (k H locs ls hP hD hS h)
theorem y_get (X : xS p s m args meth c cc nL Ts own E A) (i ci k : Nat) {fs : List Value} {ref Cn : String} {T : u_T} {N index : Nat}  {v : Value} (d : decode cc pc = .ok (.getfield index, 3)) (hi : i < 61) (hC : C i = .inr (ci, fs)) (hc : vwCl[ci]? = some (Cn, T, N)) (hk : k < N) (hin : ∀ w ∈ u_ws Cn T N, w ∈ Ts) (hlink : Cond.fieldLink own index ref (T k).2.1 (T k).2.2.1 ∈ Ts) (href : (T k).1 = ref) (hv : fs[k]? = some v) (kk : xY p l e R s m args below meth c E A nL cells slots Q (C) (pc + 3) (lv) (v :: st)) : xY p l e R s m args below meth c E A nL cells slots Q (C) (pc) (lv) (.ref (E.2.1 i) :: st) := by
  intro H locs ls hP hD hS h
  subst href; exact va_get X.1.1 X.1.2.1 X.1.2.2.2.2 hin X.1.2.2.2.1 X.2.2.1 hP i (by rw [xw_get hi, hC]) hc k hk (X.1.2.2.2.2 _ hlink) (fun _ h9 => h9) hv d (kk H locs ls hP hD hS h)
theorem y_put (X : xS p s m args meth c cc nL Ts own E A) (i ci k : Nat) {fs : List Value} {ref Cn : String} {T : u_T} {N index : Nat} (ty0 : Nat → FieldType) {v : Value} (d : decode cc pc = .ok (.putfield index, 3)) (hi : i < 61) (hC : C i = .inr (ci, fs)) (hc : vwCl[ci]? = some (Cn, T, N)) (hk : k < N) (hin : ∀ w ∈ u_ws Cn T N, w ∈ Ts) (hlink : Cond.fieldLink own index ref (T k).2.1 (T k).2.2.1 ∈ Ts) (href : (T k).1 = ref) (hty : ∀ k, k < N → parseFieldDescriptor (T k).2.2.1 = some (ty0 k)) (hnm : ∀ a, a < N → ∀ b, b < N → a ≠ b → (T a).2.1 ≠ (T b).2.1) (hfin : (T k).2.2.2 = false) (hn : narrow (ty0 k) v = v) (hfit : fits (ty0 k) v = true) (hl : k < fs.length) (kk : xY p l e R s m args below meth c E A nL cells slots Q (va_up C i (.inr (ci, fs.set k v))) (pc + 3) (lv) (st)) : xY p l e R s m args below meth c E A nL cells slots Q (C) (pc) (lv) (v :: .ref (E.2.1 i) :: st) := by
  intro H locs ls hP hD hS h
  subst href; exact va_put X.1.1 X.1.2.1 X.1.2.2.2.2 hin ty0 hty hnm X.1.2.2.2.1 X.2.2.1 hP hD hS i (by rw [xw_get hi, hC]) hc k hk (X.1.2.2.2.2 _ hlink) (fun _ h9 => h9) hfin (hty k hk) hn hfit hl d (fun H1 locs1 hP1 hD1 hS1 => by rw [xw_set] at hP1 hD1; exact kk H1 locs1 ls hP1 hD1 hS1 h)
theorem y_getN (X : xS p s m args meth c cc nL Ts own E A) (i ci k : Nat) {fs : List Value} {ref Cn : String} {T : u_T} {N index : Nat}  {v : Value} (d : decode cc pc = .ok (.getfield index, 3)) (hi : i < 61) (hC : C i = .inr (ci, fs)) (hc : vwCl[ci]? = some (Cn, T, N)) (hk : k < N) (hin : ∀ w ∈ u_ws Cn T N, w ∈ Ts) (hlink : Cond.fieldLinkNest own index ref (T k).2.1 (T k).2.2.1 "ColumnSeasons" ∈ xnest) (href : (T k).1 = ref) (hv : fs[k]? = some v) (kk : xY p l e R s m args below meth c E A nL cells slots Q (C) (pc + 3) (lv) (v :: st)) : xY p l e R s m args below meth c E A nL cells slots Q (C) (pc) (lv) (.ref (E.2.1 i) :: st) := by
  intro H locs ls hP hD hS h
  subst href; exact va_getN X.1.1 X.1.2.1 X.1.2.2.2.2 hin X.1.2.2.2.1 X.2.2.1 hP i (by rw [xw_get hi, hC]) hc k hk (va_Nw.use rfl (X.2.2.2.1 _ hlink)) (fun _ h9 => h9) hv d (kk H locs ls hP hD hS h)
theorem y_putN (X : xS p s m args meth c cc nL Ts own E A) (i ci k : Nat) {fs : List Value} {ref Cn : String} {T : u_T} {N index : Nat} (ty0 : Nat → FieldType) {v : Value} (d : decode cc pc = .ok (.putfield index, 3)) (hi : i < 61) (hC : C i = .inr (ci, fs)) (hc : vwCl[ci]? = some (Cn, T, N)) (hk : k < N) (hin : ∀ w ∈ u_ws Cn T N, w ∈ Ts) (hlink : Cond.fieldLinkNest own index ref (T k).2.1 (T k).2.2.1 "ColumnSeasons" ∈ xnest) (href : (T k).1 = ref) (hty : ∀ k, k < N → parseFieldDescriptor (T k).2.2.1 = some (ty0 k)) (hnm : ∀ a, a < N → ∀ b, b < N → a ≠ b → (T a).2.1 ≠ (T b).2.1) (hfin : (T k).2.2.2 = false) (hn : narrow (ty0 k) v = v) (hfit : fits (ty0 k) v = true) (hl : k < fs.length) (kk : xY p l e R s m args below meth c E A nL cells slots Q (va_up C i (.inr (ci, fs.set k v))) (pc + 3) (lv) (st)) : xY p l e R s m args below meth c E A nL cells slots Q (C) (pc) (lv) (v :: .ref (E.2.1 i) :: st) := by
  intro H locs ls hP hD hS h
  subst href; exact va_putN X.1.1 X.1.2.1 X.1.2.2.2.2 hin ty0 hty hnm X.1.2.2.2.1 X.2.2.1 hP hD hS i (by rw [xw_get hi, hC]) hc k hk (va_Nw.use rfl (X.2.2.2.1 _ hlink)) (fun _ h9 => h9) hfin (hty k hk) hn hfit hl d (fun H1 locs1 hP1 hD1 hS1 => by rw [xw_set] at hP1 hD1; exact kk H1 locs1 ls hP1 hD1 hS1 h)
theorem xA_in {C : xC} (hD : va_D A (xw E C)) : ∀ q, xA E q → A q := fun q h => by
  obtain ⟨i, hi, rfl⟩ := h
  exact hD.2 i _ (xw_get hi)
theorem xW_blind {av : List Value} : FrameBlind (va_Pc av (xW E C)) := by
  intro a U g mk h
  obtain ⟨h0, h1, h2, h3, h4⟩ := h
  exact ⟨h0, h1, va_K.moved (u := U) (U := U.calling g mk a) (Vm.Alike.refl U.vm) h2, h3, xZ_calling h4⟩
theorem xW_at (X : xS p s m args meth c cc nL Ts own E A) {H : Heap} {locs : List Loc} (hP : va_P E.1 vwCl (xw E C) H) (hD : va_D A (xw E C)) (hS : va_S A s.heap H locs) {U : State} (hU : U.heap = H) (hW : s.WarmedH U.vm) : xW E C U :=
  ⟨by rw [hU]; exact hP, va_K.moved hW.alike X.2.2.1, xw_D hD (fun _ _ => trivial), xZ_moved X.2.2.2 hS.2.1 (xA_in hD) hU hW⟩
theorem x_call {post : Option Value → xC → Prop} {a : Array Value} {H : Heap} {locs : List Loc} {ls : Array Slot} {st0 : List Value} (hr : va_Run p l e R s m args below meth c H locs cells slots 0 0 (F0 m pc ls st0) st (xQ E post a) (xA E)) (hS : va_S A s.heap H locs) (hD : va_D A (xw E C))
    (kk : ∀ (v : Option Value) (C' : xC), post v C' → ∀ (H1 : Heap) (locs1 : List Loc), va_P E.1 vwCl (xw E C') H1 → va_D A (xw E C') → va_S A s.heap H1 locs1 → W p l e R s m args below meth c H1 locs1 cells slots Q (F0 m (pc + 3) ls (v.toList ++ st))) : W p l e R s m args below meth c H locs cells slots Q (F0 m pc ls st0) := by
  have hA := xA_in hD
  intro T hT X
  obtain ⟨v, st₀, t, T', L, h0, X', hL, e1, e2, ⟨⟨v', C', hv, hp, hPw, hKw, hDw, hZw⟩, hz, hk⟩, st⟩ := hr T hT X
  cases hv
  rw [h0] at hz hk
  obtain ⟨t2, a1, b1⟩ := kk v C' hp T'.heap (locs ++ L) (by rw [e1]; exact hPw) (xw_D hD (fun i hi => hA _ ⟨i, hi, rfl⟩))
    ⟨Nat.le_trans hS.1 (by rw [e1]; exact hz), fun q h1 h2 => by rw [e1, hk q (Nat.lt_of_lt_of_le h1 hS.1) (fun z => h2 (hA q z))]; exact hS.2.1 q h1 h2, fun q hq => by
      rcases List.mem_append.mp hq with h | h
      · exact hS.2.2 q h
      · exact hA _ (hL q h)⟩ T' rfl X'
  exact ⟨t2, st t2 a1, b1⟩
theorem y_callS (X : xS p s m args meth c cc nL Ts own E A) {post : Option Value → xC → Prop} {y : MethodName} {bytes : ByteArray} {maxL fr lo index : Nat} {ret : Option FieldType} {ws ws2 : List Cond} {av : List Value} {stk : List Value} (st : List Value) (n : Nat) (hM : xM E l y ws fr lo (av) C (post)) (g : GoodIn Ts (wsS own index y ws)) (hw : ws = Cond.code y bytes maxL ret :: ws2) (hd : y.cls = own ∧ y.cls ≠ "java/lang/invoke/MethodHandle" ∧ y.cls ≠ "java/lang/invoke/VarHandle" ∧ (parseMethodDescriptor y.desc).map (fun d => d.parameters.length) = some n) (hn : av.length = n) (hR : fr + 1 ≤ R.frames ∧ 8 + (maxL + 11) + lo ≤ R.locals) (hf : cells ≤ R.cells ∧ slots ≤ R.slots) (hW : (st.map fun v => v.category).sum ≤ 8) (hs : stk = av.reverse ++ st) (d : decode cc pc = .ok (.invokestatic index, 3)) (k : ∀ (v : Option Value) (C1 : xC), post v C1 → xY p l e R s m args below meth c E A nL cells slots Q (C1) (pc + 3) (lv) (v.toList ++ st)) : xY p l e R s m args below meth c E A nL cells slots Q (C) (pc) (lv) (stk) := by
  intro H locs ls hP hD hS h
  subst hs
  exact x_call (C := C) (va_runS (As := av) (rest := st) X.1 hM (cwS n X.1.2.2.2.2 g hw rfl rfl hd hR) ⟨xW_blind, fun U hU hW2 => ⟨rfl, xW_at X hP hD hS hU hW2⟩⟩ rfl hn h.1 rfl (lv_room hW) d hf) hS hD (fun v C1 hp H1 locs1 hP1 hD1 hS1 => k v C1 hp H1 locs1 ls hP1 hD1 hS1 h)
theorem y_callSr (X : xS p s m args meth c cc nL Ts own E A) {r : Int32} {y : MethodName} {bytes : ByteArray} {maxL fr lo index : Nat} {ret : Option FieldType} {ws ws2 : List Cond} {av : List Value} {stk : List Value} (st : List Value) (n : Nat) (hM : xM E l y ws fr lo (av) C (fun v C1 => v = some (.int r) ∧ C1 = C)) (g : GoodIn Ts (wsS own index y ws)) (hw : ws = Cond.code y bytes maxL ret :: ws2) (hd : y.cls = own ∧ y.cls ≠ "java/lang/invoke/MethodHandle" ∧ y.cls ≠ "java/lang/invoke/VarHandle" ∧ (parseMethodDescriptor y.desc).map (fun d => d.parameters.length) = some n) (hn : av.length = n) (hR : fr + 1 ≤ R.frames ∧ 8 + (maxL + 11) + lo ≤ R.locals) (hf : cells ≤ R.cells ∧ slots ≤ R.slots) (hW : (st.map fun v => v.category).sum ≤ 8) (hs : stk = av.reverse ++ st) (d : decode cc pc = .ok (.invokestatic index, 3)) (k : xY p l e R s m args below meth c E A nL cells slots Q (C) (pc + 3) (lv) (.int r :: st)) : xY p l e R s m args below meth c E A nL cells slots Q (C) (pc) (lv) (stk) := by
  intro H locs ls hP hD hS h
  subst hs
  exact x_call (C := C) (va_runS (As := av) (rest := st) X.1 hM (cwS n X.1.2.2.2.2 g hw rfl rfl hd hR) ⟨xW_blind, fun U hU hW2 => ⟨rfl, xW_at X hP hD hS hU hW2⟩⟩ rfl hn h.1 rfl (lv_room hW) d hf) hS hD (fun v C1 hp H1 locs1 hP1 hD1 hS1 => by obtain ⟨rfl, rfl⟩ := hp; exact k H1 locs1 ls hP1 hD1 hS1 h)
theorem y_callJ (X : xS p s m args meth c cc nL Ts own E A) {post : Option Value → xC → Prop} {y : MethodName} {bytes : ByteArray} {maxL fr lo index : Nat} {ret : Option FieldType} {ws ws2 : List Cond} {av : List Value} {stk : List Value} (st : List Value) (n : Nat) (hM : xM E l y ws fr lo (av) C (post)) (g : GoodIn Ts (va_wsS own index y ws)) (hw : ws = Cond.code y bytes maxL ret :: ws2) (hd : y.cls ≠ "java/lang/invoke/MethodHandle" ∧ y.cls ≠ "java/lang/invoke/VarHandle" ∧ (parseMethodDescriptor y.desc).map (fun d => d.parameters.length) = some n) (hn : av.length = n) (hR : fr + 1 ≤ R.frames ∧ 8 + (maxL + 11) + lo ≤ R.locals) (hf : cells ≤ R.cells ∧ slots ≤ R.slots) (hW : (st.map fun v => v.category).sum ≤ 8) (hs : stk = av.reverse ++ st) (d : decode cc pc = .ok (.invokestatic index, 3)) (k : ∀ (v : Option Value) (C1 : xC), post v C1 → xY p l e R s m args below meth c E A nL cells slots Q (C1) (pc + 3) (lv) (v.toList ++ st)) : xY p l e R s m args below meth c E A nL cells slots Q (C) (pc) (lv) (stk) := by
  intro H locs ls hP hD hS h
  subst hs
  exact x_call (C := C) (va_runS (As := av) (rest := st) X.1 hM (va_cwS n X.1.2.2.2.2 g hw rfl rfl hd hR) ⟨xW_blind, fun U hU hW2 => ⟨rfl, xW_at X hP hD hS hU hW2⟩⟩ rfl hn h.1 rfl (lv_room hW) d hf) hS hD (fun v C1 hp H1 locs1 hP1 hD1 hS1 => k v C1 hp H1 locs1 ls hP1 hD1 hS1 h)
theorem y_callJr (X : xS p s m args meth c cc nL Ts own E A) {r : Int32} {y : MethodName} {bytes : ByteArray} {maxL fr lo index : Nat} {ret : Option FieldType} {ws ws2 : List Cond} {av : List Value} {stk : List Value} (st : List Value) (n : Nat) (hM : xM E l y ws fr lo (av) C (fun v C1 => v = some (.int r) ∧ C1 = C)) (g : GoodIn Ts (va_wsS own index y ws)) (hw : ws = Cond.code y bytes maxL ret :: ws2) (hd : y.cls ≠ "java/lang/invoke/MethodHandle" ∧ y.cls ≠ "java/lang/invoke/VarHandle" ∧ (parseMethodDescriptor y.desc).map (fun d => d.parameters.length) = some n) (hn : av.length = n) (hR : fr + 1 ≤ R.frames ∧ 8 + (maxL + 11) + lo ≤ R.locals) (hf : cells ≤ R.cells ∧ slots ≤ R.slots) (hW : (st.map fun v => v.category).sum ≤ 8) (hs : stk = av.reverse ++ st) (d : decode cc pc = .ok (.invokestatic index, 3)) (k : xY p l e R s m args below meth c E A nL cells slots Q (C) (pc + 3) (lv) (.int r :: st)) : xY p l e R s m args below meth c E A nL cells slots Q (C) (pc) (lv) (stk) := by
  intro H locs ls hP hD hS h
  subst hs
  exact x_call (C := C) (va_runS (As := av) (rest := st) X.1 hM (va_cwS n X.1.2.2.2.2 g hw rfl rfl hd hR) ⟨xW_blind, fun U hU hW2 => ⟨rfl, xW_at X hP hD hS hU hW2⟩⟩ rfl hn h.1 rfl (lv_room hW) d hf) hS hD (fun v C1 hp H1 locs1 hP1 hD1 hS1 => by obtain ⟨rfl, rfl⟩ := hp; exact k H1 locs1 ls hP1 hD1 hS1 h)
theorem y_callV (X : xS p s m args meth c cc nL Ts own E A) (i ci : Nat) {fs : List Value} {q : vw_C} {post : Option Value → xC → Prop} {y : MethodName} {bytes : ByteArray} {maxL fr lo index : Nat} {ret : Option FieldType} {ws ws2 : List Cond} {av : List Value} {stk : List Value} (st : List Value) (n : Nat) (hM : xM E l y ws fr lo (.ref (E.2.1 i) :: av) C (post)) (hi : i < 61) (hC : C i = .inr (ci, fs)) (hc : vwCl[ci]? = some q) (g : GoodIn Ts (wsV own index q.1 y ws)) (hw : ws = Cond.code y bytes maxL ret :: ws2) (hd : y.cls = q.1 ∧ y.cls ≠ "java/lang/invoke/MethodHandle" ∧ y.cls ≠ "java/lang/invoke/VarHandle" ∧ (parseMethodDescriptor y.desc).map (fun d => d.parameters.length) = some n) (hn : av.length = n) (hR : fr + 1 ≤ R.frames ∧ 8 + (maxL + 11) + lo ≤ R.locals) (hf : cells ≤ R.cells ∧ slots ≤ R.slots) (hW : (st.map fun v => v.category).sum ≤ 8) (hs : stk = av.reverse ++ .ref (E.2.1 i) :: st) (d : decode cc pc = .ok (.invokevirtual index, 3)) (k : ∀ (v : Option Value) (C1 : xC), post v C1 → xY p l e R s m args below meth c E A nL cells slots Q (C1) (pc + 3) (lv) (v.toList ++ st)) : xY p l e R s m args below meth c E A nL cells slots Q (C) (pc) (lv) (stk) := by
  intro H locs ls hP hD hS h
  subst hs
  exact x_call (C := C) (va_runV (As := av) (rest := st) X.1 hM (cwV n X.1.2.2.2.2 g hw rfl rfl hd hR) ⟨xW_blind, va_recv X.2.2.1 hP hc (by rw [xw_get hi, hC]), fun U hU hW2 => ⟨rfl, xW_at X hP hD hS hU hW2⟩⟩ rfl hn h.1 rfl (lv_room hW) d hf) hS hD (fun v C1 hp H1 locs1 hP1 hD1 hS1 => k v C1 hp H1 locs1 ls hP1 hD1 hS1 h)
theorem y_callVr (X : xS p s m args meth c cc nL Ts own E A) (i ci : Nat) {fs : List Value} {q : vw_C} {r : Int32} {y : MethodName} {bytes : ByteArray} {maxL fr lo index : Nat} {ret : Option FieldType} {ws ws2 : List Cond} {av : List Value} {stk : List Value} (st : List Value) (n : Nat) (hM : xM E l y ws fr lo (.ref (E.2.1 i) :: av) C (fun v C1 => v = some (.int r) ∧ C1 = C)) (hi : i < 61) (hC : C i = .inr (ci, fs)) (hc : vwCl[ci]? = some q) (g : GoodIn Ts (wsV own index q.1 y ws)) (hw : ws = Cond.code y bytes maxL ret :: ws2) (hd : y.cls = q.1 ∧ y.cls ≠ "java/lang/invoke/MethodHandle" ∧ y.cls ≠ "java/lang/invoke/VarHandle" ∧ (parseMethodDescriptor y.desc).map (fun d => d.parameters.length) = some n) (hn : av.length = n) (hR : fr + 1 ≤ R.frames ∧ 8 + (maxL + 11) + lo ≤ R.locals) (hf : cells ≤ R.cells ∧ slots ≤ R.slots) (hW : (st.map fun v => v.category).sum ≤ 8) (hs : stk = av.reverse ++ .ref (E.2.1 i) :: st) (d : decode cc pc = .ok (.invokevirtual index, 3)) (k : xY p l e R s m args below meth c E A nL cells slots Q (C) (pc + 3) (lv) (.int r :: st)) : xY p l e R s m args below meth c E A nL cells slots Q (C) (pc) (lv) (stk) := by
  intro H locs ls hP hD hS h
  subst hs
  exact x_call (C := C) (va_runV (As := av) (rest := st) X.1 hM (cwV n X.1.2.2.2.2 g hw rfl rfl hd hR) ⟨xW_blind, va_recv X.2.2.1 hP hc (by rw [xw_get hi, hC]), fun U hU hW2 => ⟨rfl, xW_at X hP hD hS hU hW2⟩⟩ rfl hn h.1 rfl (lv_room hW) d hf) hS hD (fun v C1 hp H1 locs1 hP1 hD1 hS1 => by obtain ⟨rfl, rfl⟩ := hp; exact k H1 locs1 ls hP1 hD1 hS1 h)
theorem y_callN (X : xS p s m args meth c cc nL Ts own E A) {post : Option Value → xC → Prop} {y : MethodName} {bytes : ByteArray} {maxL fr lo index : Nat} {ret : Option FieldType} {ws ws2 : List Cond} {av : List Value} {stk : List Value} (st : List Value) (n : Nat) (hM : xM E l y ws fr lo (av) C (post)) (g : GoodIn Ts ws) (hl : Cond.methodLinkNest own index y "ColumnSeasons" ∈ xnest) (hini : Cond.initialized y.cls ∈ Ts) (hstt : Cond.static y ∈ Ts) (hw : ws = Cond.code y bytes maxL ret :: ws2) (hd : y.cls ≠ "java/lang/invoke/MethodHandle" ∧ y.cls ≠ "java/lang/invoke/VarHandle" ∧ (parseMethodDescriptor y.desc).map (fun d => d.parameters.length) = some n) (hn : av.length = n) (hR : fr + 1 ≤ R.frames ∧ 8 + (maxL + 11) + lo ≤ R.locals) (hf : cells ≤ R.cells ∧ slots ≤ R.slots) (hW : (st.map fun v => v.category).sum ≤ 8) (hs : stk = av.reverse ++ st) (d : decode cc pc = .ok (.invokestatic index, 3)) (k : ∀ (v : Option Value) (C1 : xC), post v C1 → xY p l e R s m args below meth c E A nL cells slots Q (C1) (pc + 3) (lv) (v.toList ++ st)) : xY p l e R s m args below meth c E A nL cells slots Q (C) (pc) (lv) (stk) := by
  intro H locs ls hP hD hS h
  subst hs
  exact x_call (C := C) (va_runSN (As := av) (rest := st) X.1 hM (⟨va_cnB n X.1.2.2.2.2 g hw rfl rfl (X.2.2.2.1 _ hl) (X.1.2.2.2.2 _ hini) hd hR, X.1.2.2.2.2 _ hstt, trivial⟩) ⟨xW_blind, fun U hU hW2 => ⟨rfl, xW_at X hP hD hS hU hW2⟩⟩ rfl hn h.1 rfl (lv_room hW) d hf) hS hD (fun v C1 hp H1 locs1 hP1 hD1 hS1 => k v C1 hp H1 locs1 ls hP1 hD1 hS1 h)
theorem y_callNr (X : xS p s m args meth c cc nL Ts own E A) {r : Int32} {y : MethodName} {bytes : ByteArray} {maxL fr lo index : Nat} {ret : Option FieldType} {ws ws2 : List Cond} {av : List Value} {stk : List Value} (st : List Value) (n : Nat) (hM : xM E l y ws fr lo (av) C (fun v C1 => v = some (.int r) ∧ C1 = C)) (g : GoodIn Ts ws) (hl : Cond.methodLinkNest own index y "ColumnSeasons" ∈ xnest) (hini : Cond.initialized y.cls ∈ Ts) (hstt : Cond.static y ∈ Ts) (hw : ws = Cond.code y bytes maxL ret :: ws2) (hd : y.cls ≠ "java/lang/invoke/MethodHandle" ∧ y.cls ≠ "java/lang/invoke/VarHandle" ∧ (parseMethodDescriptor y.desc).map (fun d => d.parameters.length) = some n) (hn : av.length = n) (hR : fr + 1 ≤ R.frames ∧ 8 + (maxL + 11) + lo ≤ R.locals) (hf : cells ≤ R.cells ∧ slots ≤ R.slots) (hW : (st.map fun v => v.category).sum ≤ 8) (hs : stk = av.reverse ++ st) (d : decode cc pc = .ok (.invokestatic index, 3)) (k : xY p l e R s m args below meth c E A nL cells slots Q (C) (pc + 3) (lv) (.int r :: st)) : xY p l e R s m args below meth c E A nL cells slots Q (C) (pc) (lv) (stk) := by
  intro H locs ls hP hD hS h
  subst hs
  exact x_call (C := C) (va_runSN (As := av) (rest := st) X.1 hM (⟨va_cnB n X.1.2.2.2.2 g hw rfl rfl (X.2.2.2.1 _ hl) (X.1.2.2.2.2 _ hini) hd hR, X.1.2.2.2.2 _ hstt, trivial⟩) ⟨xW_blind, fun U hU hW2 => ⟨rfl, xW_at X hP hD hS hU hW2⟩⟩ rfl hn h.1 rfl (lv_room hW) d hf) hS hD (fun v C1 hp H1 locs1 hP1 hD1 hS1 => by obtain ⟨rfl, rfl⟩ := hp; exact k H1 locs1 ls hP1 hD1 hS1 h)
theorem y_iret (X : xS p s m args meth c cc nL Ts own E A) (hr : meth.sig.returnType = some .int) {post : Option Value → xC → Prop} {v : Int32} (d : decode cc pc = .ok (.ireturn, 1)) (hA : A = xA E) (hp : post (some (.int v)) C) : xY p l e R s m args below meth c E A nL cells slots (MQ below (xQ E post) args s cells slots A) C pc lv [.int v] := by
  intro H locs ls hP hD hS h
  subst hA
  exact W.iret X.1.1 X.1.2.1 hr (fun t ht hW => ⟨⟨some (.int v), C, rfl, hp, xW_at X hP hD hS ht hW⟩, hS.F ht⟩) hS.2.2 d X.2.1
theorem y_zret (X : xS p s m args meth c cc nL Ts own E A) {ty : FieldType} (hr : meth.sig.returnType = some ty) {post : Option Value → xC → Prop} {v : Int32} (hn : narrow ty (.int v) = .int v) (d : decode cc pc = .ok (.ireturn, 1)) (hA : A = xA E) (hp : post (some (.int v)) C) : xY p l e R s m args below meth c E A nL cells slots (MQ below (xQ E post) args s cells slots A) C pc lv [.int v] := by
  intro H locs ls hP hD hS h
  subst hA
  exact W.zret X.1.1 X.1.2.1 hr hn (fun t ht hW => ⟨⟨some (.int v), C, rfl, hp, xW_at X hP hD hS ht hW⟩, hS.F ht⟩) hS.2.2 d X.2.1
theorem y_vret (X : xS p s m args meth c cc nL Ts own E A) (hr : meth.sig.returnType = none) {post : Option Value → xC → Prop} (d : decode cc pc = .ok (.return_, 1)) (hA : A = xA E) (hp : post none C) : xY p l e R s m args below meth c E A nL cells slots (MQ below (xQ E post) args s cells slots A) C pc lv [] := by
  intro H locs ls hP hD hS h
  subst hA
  exact W.vret X.1.1 X.1.2.1 hr (fun t ht hW => ⟨⟨none, C, rfl, hp, xW_at X hP hD hS ht hW⟩, hS.F ht⟩) hS.2.2 d X.2.1
theorem y_aret (X : xS p s m args meth c cc nL Ts own E A) {rt : FieldType} (hr : meth.sig.returnType = some rt) (hrt : (∃ n, rt = .object n) ∨ ∃ t, rt = .array t) {post : Option Value → xC → Prop} {a : Nat} (d : decode cc pc = .ok (.areturn, 1)) (hA : A = xA E) (hp : post (some (.ref a)) C) : xY p l e R s m args below meth c E A nL cells slots (MQ below (xQ E post) args s cells slots A) C pc lv [.ref a] := by
  intro H locs ls hP hD hS h
  subst hA
  exact W.aret X.1.1 X.1.2.1 hr hrt (Or.inr ⟨a, rfl⟩) (fun t ht hW => ⟨⟨some (.ref a), C, rfl, hp, xW_at X hP hD hS ht hW⟩, hS.F ht⟩) hS.2.2 d X.2.1
theorem y_copyi (X : xS p s m args meth c cc nL Ts own E A) (i1 i2 : Nat) {index n1 n2 sp dp n : Nat} {f g : Nat → Int32} {x1 x2 x3 : Int32} (d : decode cc pc = .ok (.invokestatic index, 3)) (hlink : Cond.methodLink own index arraycopyName ∈ Ts) (hnat : Cond.native arraycopyName ∈ Ts) (hstat : Cond.static arraycopyName ∈ Ts) (hini : Cond.initialized "java/lang/System" ∈ Ts) (h1 : i1 < 61) (h2 : i2 < 61) (hC1 : C i1 = .inl (E.2.2.1 1, n1, .inl f)) (hC2 : C i2 = .inl (E.2.2.1 1, n2, .inl g)) (hx1 : x1 = nI sp) (hx2 : x2 = nI dp) (hx3 : x3 = nI n) (hn1 : sp + n ≤ n1) (hn2 : dp + n ≤ n2) (hb1 : n1 < 2 ^ 31) (hb2 : n2 < 2 ^ 31) (hfr : 1 ≤ R.frames) (hlo : (st.map fun v => v.category).sum + (nativeFrameWords "java/lang/System" "arraycopy" 5 + 11) ≤ R.locals) (k : xY p l e R s m args below meth c E A nL cells slots Q (va_up C i2 (.inl (E.2.2.1 1, n2, .inl (va_cpy f g sp dp n)))) (pc + 3) (lv) (st)) : xY p l e R s m args below meth c E A nL cells slots Q (C) (pc) (lv) (.int x3 :: .int x2 :: .ref (E.2.1 i2) :: .int x1 :: .ref (E.2.1 i1) :: st) := by
  intro H locs ls hP hD hS h
  subst hx1; subst hx2; subst hx3
  have e1 : (nI sp).toNatClampNeg = sp := nI_clamp (by omega)
  have e2 : (nI dp).toNatClampNeg = dp := nI_clamp (by omega)
  have e3 : (nI n).toNatClampNeg = n := nI_clamp (by omega)
  refine va_copyi X.1.1 X.1.2.1 (X.1.2.2.1.trans h.1.symm) X.1.2.2.2.1 (X.1.2.2.2.2 _ hlink) (X.1.2.2.2.2 _ hnat) (X.1.2.2.2.2 _ hstat) (X.1.2.2.2.2 _ hini) X.2.2.1 hP hD hS i1 i2 1 1 (by rw [xw_get h1, hC1]) (by rw [xw_get h2, hC2]) rfl rfl rfl (nI_pos (by omega)) (nI_pos (by omega)) (nI_pos (by omega)) (by rw [e1, e3]; exact hn1) (by rw [e2, e3]; exact hn2) (fun _ _ => rfl) hfr hlo d (fun H1 locs1 hP1 hD1 hS1 => ?_)
  rw [e1, e2, e3, xw_set] at hP1 hD1
  exact k H1 locs1 ls hP1 hD1 hS1 h
theorem y_max (X : xS p s m args meth c cc nL Ts own E A) {index : Nat} {x y z : Int32} (d : decode cc pc = .ok (.invokestatic index, 3)) (hlink : Cond.methodLink own index Lib.Math.max.name ∈ Ts) (hstat : Cond.static Lib.Math.max.name ∈ Ts) (hini : Cond.initialized "java/lang/Math" ∈ Ts) (hcode : Cond.code Lib.Math.max.name Lib.Math.max.code 2 (some .int) ∈ Ts) (hfr : 1 ≤ R.frames) (hlo : (st.map fun v => v.category).sum + 13 ≤ R.locals) (hf : cells ≤ R.cells ∧ slots ≤ R.slots) (hz : (if x < y then y else x) = z) (k : xY p l e R s m args below meth c E A nL cells slots Q (C) (pc + 3) (lv) (.int z :: st)) : xY p l e R s m args below meth c E A nL cells slots Q (C) (pc) (lv) (.int y :: .int x :: st) := by
  intro H locs ls hP hD hS h
  subst hz
  exact va_mmax X.1.1 X.1.2.1 (X.1.2.2.1.trans h.1.symm) X.1.2.2.2.1 (X.1.2.2.2.2 _ hlink) (X.1.2.2.2.2 _ hstat) (X.1.2.2.2.2 _ hini) (X.1.2.2.2.2 _ hcode) hfr hlo hf.1 hf.2 d (k H locs ls hP hD hS h)
theorem y_min (X : xS p s m args meth c cc nL Ts own E A) {index : Nat} {x y z : Int32} (d : decode cc pc = .ok (.invokestatic index, 3)) (hlink : Cond.methodLink own index Lib.Math.min.name ∈ Ts) (hstat : Cond.static Lib.Math.min.name ∈ Ts) (hini : Cond.initialized "java/lang/Math" ∈ Ts) (hcode : Cond.code Lib.Math.min.name Lib.Math.min.code 2 (some .int) ∈ Ts) (hfr : 1 ≤ R.frames) (hlo : (st.map fun v => v.category).sum + 13 ≤ R.locals) (hf : cells ≤ R.cells ∧ slots ≤ R.slots) (hz : (if y < x then y else x) = z) (k : xY p l e R s m args below meth c E A nL cells slots Q (C) (pc + 3) (lv) (.int z :: st)) : xY p l e R s m args below meth c E A nL cells slots Q (C) (pc) (lv) (.int y :: .int x :: st) := by
  intro H locs ls hP hD hS h
  subst hz
  exact va_mmin X.1.1 X.1.2.1 (X.1.2.2.1.trans h.1.symm) X.1.2.2.2.1 (X.1.2.2.2.2 _ hlink) (X.1.2.2.2.2 _ hstat) (X.1.2.2.2.2 _ hini) (X.1.2.2.2.2 _ hcode) hfr hlo hf.1 hf.2 d (k H locs ls hP hD hS h)
end XR
